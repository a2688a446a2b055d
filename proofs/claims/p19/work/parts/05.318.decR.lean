set_option maxRecDepth 20000 in
theorem ggX11_readGoal_X11_wrong : GoodIn wsX11_readGoal wsX11_wrong := by
  have h := goodIn_app (goodIn_r (big := wsX11_readGoal) (.code yX11_wrong cX11_wrong 2 none :: ([.fieldLink RX11 184 "PathProberModel" "bad" "I", .fieldLink RX11 158 "PathProberModel" "begins" "I", .fieldLink RX11 187 "PathProberModel" "badPlace" "I"]) : List Cond) [8, 2, 9, 10] rfl (by decide +kernel)) (goodIn_few (big := wsX11_readGoal) (fun _ h9 => List.mem_cons_of_mem _ (List.mem_append_right _ h9)) gb_0)
  exact h
set_option maxRecDepth 20000 in
theorem gX11_readGoal_X11_wrong : GoodIn wsX11_readGoal (wsV RX11 202 RX11 yX11_wrong wsX11_wrong) := goodIn_app (goodIn_r _ [4, 5, 6, 7] rfl (by decide +kernel)) ggX11_readGoal_X11_wrong
set_option maxRecDepth 20000 in
theorem ggX11_readGoal_X11_stepOn : GoodIn wsX11_readGoal wsX11_stepOn := by
  have h := goodIn_app (goodIn_r (big := wsX11_readGoal) (.code yX11_stepOn cX11_stepOn 2 none :: ([.fieldLink RX11 151 "PathProberModel" "at" "I", .fieldLink RX11 158 "PathProberModel" "begins" "I", .fieldLink RX11 161 "PathProberModel" "token" "I", .fieldLink RX11 171 "PathProberModel" "number" "I", .constant RX11 174 (100000), .methodLink RX11 175 Lib.Math.min.name, .static Lib.Math.min.name, .initialized "java/lang/Math", .code Lib.Math.min.name Lib.Math.min.code 2 (some .int), .fieldLink RX11 181 "PathProberModel" "stops" "I", .methodLink RX11 154 yX11_byteAt, .instanceMethod yX11_byteAt, .selects RX11 yX11_byteAt yX11_byteAt, .initialized RX11, .code yX11_byteAt cX11_byteAt 2 (some .int), .fieldLink RX11 148 "PathProberModel" "textSize" "I", .fieldLink RX11 66 "PathProberModel" "tape" "[I", .methodLink RX11 164 yX11_isLetter, .static yX11_isLetter, .code yX11_isLetter cX11_isLetter 1 (some .boolean), .methodLink RX11 168 yX11_isDigit, .static yX11_isDigit, .code yX11_isDigit cX11_isDigit 1 (some .boolean)]) : List Cond) [14, 15, 9, 16, 17, 18, 19, 20, 21, 22, 23, 24, 25, 26, 7, 27, 28, 29, 30, 31, 32, 33, 34, 35] rfl (by decide +kernel)) (goodIn_few (big := wsX11_readGoal) (fun _ h9 => List.mem_cons_of_mem _ (List.mem_append_right _ h9)) gb_0)
  exact h
set_option maxRecDepth 20000 in
theorem gX11_readGoal_X11_stepOn : GoodIn wsX11_readGoal (wsV RX11 209 RX11 yX11_stepOn wsX11_stepOn) := goodIn_app (goodIn_r _ [11, 12, 13, 7] rfl (by decide +kernel)) ggX11_readGoal_X11_stepOn
set_option maxRecDepth 20000 in
theorem ggX11_readGoal_X11_routerNow : GoodIn wsX11_readGoal wsX11_routerNow := by
  have h := goodIn_app (goodIn_r (big := wsX11_readGoal) (.code yX11_routerNow cX11_routerNow 2 (some .int) :: ([.fieldLink RX11 184 "PathProberModel" "bad" "I", .fieldLink RX11 34 "PathProberModel" "told" "[I", .methodLink RX11 206 yX11_numberNow, .instanceMethod yX11_numberNow, .selects RX11 yX11_numberNow yX11_numberNow, .initialized RX11, .code yX11_numberNow cX11_numberNow 3 (some .int), .fieldLink RX11 161 "PathProberModel" "token" "I", .fieldLink RX11 181 "PathProberModel" "stops" "I", .fieldLink RX11 158 "PathProberModel" "begins" "I", .fieldLink RX11 171 "PathProberModel" "number" "I", .methodLink RX11 202 yX11_wrong, .instanceMethod yX11_wrong, .selects RX11 yX11_wrong yX11_wrong, .code yX11_wrong cX11_wrong 2 none, .fieldLink RX11 187 "PathProberModel" "badPlace" "I"]) : List Cond) [39, 2, 1, 40, 41, 42, 7, 43, 16, 23, 9, 17, 4, 5, 6, 8, 10] rfl (by decide +kernel)) (goodIn_few (big := wsX11_readGoal) (fun _ h9 => List.mem_cons_of_mem _ (List.mem_append_right _ h9)) gb_0)
  exact h
set_option maxRecDepth 20000 in
theorem gX11_readGoal_X11_routerNow : GoodIn wsX11_readGoal (wsV RX11 221 RX11 yX11_routerNow wsX11_routerNow) := goodIn_app (goodIn_r _ [36, 37, 38, 7] rfl (by decide +kernel)) ggX11_readGoal_X11_routerNow
theorem eX11_readGoal_0q : (decode cX11_readGoal 0 = .ok (.aload_n 0, 1)) ∧ (decode cX11_readGoal 1 = .ok (.getfield 34, 3)) ∧ (decode cX11_readGoal 4 = .ok (.bipush 6, 2)) ∧ (decode cX11_readGoal 6 = .ok (.iaload, 1)) ∧ (decode cX11_readGoal 7 = .ok (.iconst 3, 1)) ∧ (decode cX11_readGoal 8 = .ok (.if_icmp .ne 8, 3)) ∧ (decode cX11_readGoal 11 = .ok (.aload_n 0, 1)) ∧ (decode cX11_readGoal 12 = .ok (.iconst 2, 1)) := by decide +kernel
theorem dX11_readGoal_0 : decode cX11_readGoal 0 = .ok (.aload_n 0, 1) := eX11_readGoal_0q.1
theorem dX11_readGoal_1 : decode cX11_readGoal 1 = .ok (.getfield 34, 3) := eX11_readGoal_0q.2.1
theorem dX11_readGoal_4 : decode cX11_readGoal 4 = .ok (.bipush 6, 2) := eX11_readGoal_0q.2.2.1
theorem dX11_readGoal_6 : decode cX11_readGoal 6 = .ok (.iaload, 1) := eX11_readGoal_0q.2.2.2.1
theorem dX11_readGoal_7 : decode cX11_readGoal 7 = .ok (.iconst 3, 1) := eX11_readGoal_0q.2.2.2.2.1
theorem dX11_readGoal_8 : decode cX11_readGoal 8 = .ok (.if_icmp .ne 8, 3) := eX11_readGoal_0q.2.2.2.2.2.1
theorem dX11_readGoal_11 : decode cX11_readGoal 11 = .ok (.aload_n 0, 1) := eX11_readGoal_0q.2.2.2.2.2.2.1
theorem dX11_readGoal_12 : decode cX11_readGoal 12 = .ok (.iconst 2, 1) := eX11_readGoal_0q.2.2.2.2.2.2.2
theorem eX11_readGoal_13q : (decode cX11_readGoal 13 = .ok (.invokevirtual 202, 3)) ∧ (decode cX11_readGoal 16 = .ok (.aload_n 0, 1)) ∧ (decode cX11_readGoal 17 = .ok (.getfield 184, 3)) ∧ (decode cX11_readGoal 20 = .ok (.ifCond .eq 4, 3)) ∧ (decode cX11_readGoal 23 = .ok (.return_, 1)) ∧ (decode cX11_readGoal 24 = .ok (.aload_n 0, 1)) ∧ (decode cX11_readGoal 25 = .ok (.invokevirtual 209, 3)) ∧ (decode cX11_readGoal 28 = .ok (.aload_n 0, 1)) := by decide +kernel
theorem dX11_readGoal_13 : decode cX11_readGoal 13 = .ok (.invokevirtual 202, 3) := eX11_readGoal_13q.1
theorem dX11_readGoal_16 : decode cX11_readGoal 16 = .ok (.aload_n 0, 1) := eX11_readGoal_13q.2.1
theorem dX11_readGoal_17 : decode cX11_readGoal 17 = .ok (.getfield 184, 3) := eX11_readGoal_13q.2.2.1
theorem dX11_readGoal_20 : decode cX11_readGoal 20 = .ok (.ifCond .eq 4, 3) := eX11_readGoal_13q.2.2.2.1
theorem dX11_readGoal_23 : decode cX11_readGoal 23 = .ok (.return_, 1) := eX11_readGoal_13q.2.2.2.2.1
theorem dX11_readGoal_24 : decode cX11_readGoal 24 = .ok (.aload_n 0, 1) := eX11_readGoal_13q.2.2.2.2.2.1
theorem dX11_readGoal_25 : decode cX11_readGoal 25 = .ok (.invokevirtual 209, 3) := eX11_readGoal_13q.2.2.2.2.2.2.1
theorem dX11_readGoal_28 : decode cX11_readGoal 28 = .ok (.aload_n 0, 1) := eX11_readGoal_13q.2.2.2.2.2.2.2
theorem eX11_readGoal_29q : (decode cX11_readGoal 29 = .ok (.invokevirtual 221, 3)) ∧ (decode cX11_readGoal 32 = .ok (.istore_n 1, 1)) ∧ (decode cX11_readGoal 33 = .ok (.iconst 0, 1)) ∧ (decode cX11_readGoal 34 = .ok (.istore_n 2, 1)) ∧ (decode cX11_readGoal 35 = .ok (.iload_n 2, 1)) ∧ (decode cX11_readGoal 36 = .ok (.aload_n 0, 1)) ∧ (decode cX11_readGoal 37 = .ok (.getfield 34, 3)) ∧ (decode cX11_readGoal 40 = .ok (.bipush 6, 2)) := by decide +kernel
theorem dX11_readGoal_29 : decode cX11_readGoal 29 = .ok (.invokevirtual 221, 3) := eX11_readGoal_29q.1
theorem dX11_readGoal_32 : decode cX11_readGoal 32 = .ok (.istore_n 1, 1) := eX11_readGoal_29q.2.1
theorem dX11_readGoal_33 : decode cX11_readGoal 33 = .ok (.iconst 0, 1) := eX11_readGoal_29q.2.2.1
theorem dX11_readGoal_34 : decode cX11_readGoal 34 = .ok (.istore_n 2, 1) := eX11_readGoal_29q.2.2.2.1
theorem dX11_readGoal_35 : decode cX11_readGoal 35 = .ok (.iload_n 2, 1) := eX11_readGoal_29q.2.2.2.2.1
theorem dX11_readGoal_36 : decode cX11_readGoal 36 = .ok (.aload_n 0, 1) := eX11_readGoal_29q.2.2.2.2.2.1
theorem dX11_readGoal_37 : decode cX11_readGoal 37 = .ok (.getfield 34, 3) := eX11_readGoal_29q.2.2.2.2.2.2.1
theorem dX11_readGoal_40 : decode cX11_readGoal 40 = .ok (.bipush 6, 2) := eX11_readGoal_29q.2.2.2.2.2.2.2
theorem eX11_readGoal_42q : (decode cX11_readGoal 42 = .ok (.iaload, 1)) ∧ (decode cX11_readGoal 43 = .ok (.if_icmp .ge 33, 3)) ∧ (decode cX11_readGoal 46 = .ok (.aload_n 0, 1)) ∧ (decode cX11_readGoal 47 = .ok (.getfield 184, 3)) ∧ (decode cX11_readGoal 50 = .ok (.ifCond .ne 20, 3)) ∧ (decode cX11_readGoal 53 = .ok (.aload_n 0, 1)) ∧ (decode cX11_readGoal 54 = .ok (.getfield 58, 3)) ∧ (decode cX11_readGoal 57 = .ok (.iconst 3, 1)) := by decide +kernel
theorem dX11_readGoal_42 : decode cX11_readGoal 42 = .ok (.iaload, 1) := eX11_readGoal_42q.1
theorem dX11_readGoal_43 : decode cX11_readGoal 43 = .ok (.if_icmp .ge 33, 3) := eX11_readGoal_42q.2.1
theorem dX11_readGoal_46 : decode cX11_readGoal 46 = .ok (.aload_n 0, 1) := eX11_readGoal_42q.2.2.1
theorem dX11_readGoal_47 : decode cX11_readGoal 47 = .ok (.getfield 184, 3) := eX11_readGoal_42q.2.2.2.1
theorem dX11_readGoal_50 : decode cX11_readGoal 50 = .ok (.ifCond .ne 20, 3) := eX11_readGoal_42q.2.2.2.2.1
theorem dX11_readGoal_53 : decode cX11_readGoal 53 = .ok (.aload_n 0, 1) := eX11_readGoal_42q.2.2.2.2.2.1
theorem dX11_readGoal_54 : decode cX11_readGoal 54 = .ok (.getfield 58, 3) := eX11_readGoal_42q.2.2.2.2.2.2.1
theorem dX11_readGoal_57 : decode cX11_readGoal 57 = .ok (.iconst 3, 1) := eX11_readGoal_42q.2.2.2.2.2.2.2
theorem eX11_readGoal_58q : (decode cX11_readGoal 58 = .ok (.iload_n 2, 1)) ∧ (decode cX11_readGoal 59 = .ok (.iadd, 1)) ∧ (decode cX11_readGoal 60 = .ok (.iaload, 1)) ∧ (decode cX11_readGoal 61 = .ok (.iload_n 1, 1)) ∧ (decode cX11_readGoal 62 = .ok (.if_icmp .ne 8, 3)) ∧ (decode cX11_readGoal 65 = .ok (.aload_n 0, 1)) ∧ (decode cX11_readGoal 66 = .ok (.iconst 4, 1)) ∧ (decode cX11_readGoal 67 = .ok (.invokevirtual 202, 3)) := by decide +kernel
theorem dX11_readGoal_58 : decode cX11_readGoal 58 = .ok (.iload_n 2, 1) := eX11_readGoal_58q.1
theorem dX11_readGoal_59 : decode cX11_readGoal 59 = .ok (.iadd, 1) := eX11_readGoal_58q.2.1
theorem dX11_readGoal_60 : decode cX11_readGoal 60 = .ok (.iaload, 1) := eX11_readGoal_58q.2.2.1
theorem dX11_readGoal_61 : decode cX11_readGoal 61 = .ok (.iload_n 1, 1) := eX11_readGoal_58q.2.2.2.1
theorem dX11_readGoal_62 : decode cX11_readGoal 62 = .ok (.if_icmp .ne 8, 3) := eX11_readGoal_58q.2.2.2.2.1
theorem dX11_readGoal_65 : decode cX11_readGoal 65 = .ok (.aload_n 0, 1) := eX11_readGoal_58q.2.2.2.2.2.1
theorem dX11_readGoal_66 : decode cX11_readGoal 66 = .ok (.iconst 4, 1) := eX11_readGoal_58q.2.2.2.2.2.2.1
theorem dX11_readGoal_67 : decode cX11_readGoal 67 = .ok (.invokevirtual 202, 3) := eX11_readGoal_58q.2.2.2.2.2.2.2
theorem eX11_readGoal_70q : (decode cX11_readGoal 70 = .ok (.iinc 2 1, 3)) ∧ (decode cX11_readGoal 73 = .ok (.goto (-38), 3)) ∧ (decode cX11_readGoal 76 = .ok (.aload_n 0, 1)) ∧ (decode cX11_readGoal 77 = .ok (.getfield 184, 3)) ∧ (decode cX11_readGoal 80 = .ok (.ifCond .eq 4, 3)) ∧ (decode cX11_readGoal 83 = .ok (.return_, 1)) ∧ (decode cX11_readGoal 84 = .ok (.aload_n 0, 1)) ∧ (decode cX11_readGoal 85 = .ok (.invokevirtual 209, 3)) := by decide +kernel
theorem dX11_readGoal_70 : decode cX11_readGoal 70 = .ok (.iinc 2 1, 3) := eX11_readGoal_70q.1
theorem dX11_readGoal_73 : decode cX11_readGoal 73 = .ok (.goto (-38), 3) := eX11_readGoal_70q.2.1
theorem dX11_readGoal_76 : decode cX11_readGoal 76 = .ok (.aload_n 0, 1) := eX11_readGoal_70q.2.2.1
theorem dX11_readGoal_77 : decode cX11_readGoal 77 = .ok (.getfield 184, 3) := eX11_readGoal_70q.2.2.2.1
theorem dX11_readGoal_80 : decode cX11_readGoal 80 = .ok (.ifCond .eq 4, 3) := eX11_readGoal_70q.2.2.2.2.1
theorem dX11_readGoal_83 : decode cX11_readGoal 83 = .ok (.return_, 1) := eX11_readGoal_70q.2.2.2.2.2.1
theorem dX11_readGoal_84 : decode cX11_readGoal 84 = .ok (.aload_n 0, 1) := eX11_readGoal_70q.2.2.2.2.2.2.1
theorem dX11_readGoal_85 : decode cX11_readGoal 85 = .ok (.invokevirtual 209, 3) := eX11_readGoal_70q.2.2.2.2.2.2.2
theorem eX11_readGoal_88q : (decode cX11_readGoal 88 = .ok (.aload_n 0, 1)) ∧ (decode cX11_readGoal 89 = .ok (.getfield 58, 3)) ∧ (decode cX11_readGoal 92 = .ok (.iconst 3, 1)) ∧ (decode cX11_readGoal 93 = .ok (.aload_n 0, 1)) ∧ (decode cX11_readGoal 94 = .ok (.getfield 34, 3)) ∧ (decode cX11_readGoal 97 = .ok (.bipush 6, 2)) ∧ (decode cX11_readGoal 99 = .ok (.iaload, 1)) ∧ (decode cX11_readGoal 100 = .ok (.iadd, 1)) := by decide +kernel
theorem dX11_readGoal_88 : decode cX11_readGoal 88 = .ok (.aload_n 0, 1) := eX11_readGoal_88q.1
theorem dX11_readGoal_89 : decode cX11_readGoal 89 = .ok (.getfield 58, 3) := eX11_readGoal_88q.2.1
theorem dX11_readGoal_92 : decode cX11_readGoal 92 = .ok (.iconst 3, 1) := eX11_readGoal_88q.2.2.1
theorem dX11_readGoal_93 : decode cX11_readGoal 93 = .ok (.aload_n 0, 1) := eX11_readGoal_88q.2.2.2.1
theorem dX11_readGoal_94 : decode cX11_readGoal 94 = .ok (.getfield 34, 3) := eX11_readGoal_88q.2.2.2.2.1
theorem dX11_readGoal_97 : decode cX11_readGoal 97 = .ok (.bipush 6, 2) := eX11_readGoal_88q.2.2.2.2.2.1
theorem dX11_readGoal_99 : decode cX11_readGoal 99 = .ok (.iaload, 1) := eX11_readGoal_88q.2.2.2.2.2.2.1
theorem dX11_readGoal_100 : decode cX11_readGoal 100 = .ok (.iadd, 1) := eX11_readGoal_88q.2.2.2.2.2.2.2
theorem eX11_readGoal_101q : (decode cX11_readGoal 101 = .ok (.iload_n 1, 1)) ∧ (decode cX11_readGoal 102 = .ok (.iastore, 1)) ∧ (decode cX11_readGoal 103 = .ok (.aload_n 0, 1)) ∧ (decode cX11_readGoal 104 = .ok (.getfield 34, 3)) ∧ (decode cX11_readGoal 107 = .ok (.bipush 6, 2)) ∧ (decode cX11_readGoal 109 = .ok (.dup2, 1)) ∧ (decode cX11_readGoal 110 = .ok (.iaload, 1)) ∧ (decode cX11_readGoal 111 = .ok (.iconst 1, 1)) := by decide +kernel
theorem dX11_readGoal_101 : decode cX11_readGoal 101 = .ok (.iload_n 1, 1) := eX11_readGoal_101q.1
theorem dX11_readGoal_102 : decode cX11_readGoal 102 = .ok (.iastore, 1) := eX11_readGoal_101q.2.1
theorem dX11_readGoal_103 : decode cX11_readGoal 103 = .ok (.aload_n 0, 1) := eX11_readGoal_101q.2.2.1
theorem dX11_readGoal_104 : decode cX11_readGoal 104 = .ok (.getfield 34, 3) := eX11_readGoal_101q.2.2.2.1
theorem dX11_readGoal_107 : decode cX11_readGoal 107 = .ok (.bipush 6, 2) := eX11_readGoal_101q.2.2.2.2.1
theorem dX11_readGoal_109 : decode cX11_readGoal 109 = .ok (.dup2, 1) := eX11_readGoal_101q.2.2.2.2.2.1
theorem dX11_readGoal_110 : decode cX11_readGoal 110 = .ok (.iaload, 1) := eX11_readGoal_101q.2.2.2.2.2.2.1
theorem dX11_readGoal_111 : decode cX11_readGoal 111 = .ok (.iconst 1, 1) := eX11_readGoal_101q.2.2.2.2.2.2.2
theorem eX11_readGoal_112q : (decode cX11_readGoal 112 = .ok (.iadd, 1)) ∧ (decode cX11_readGoal 113 = .ok (.iastore, 1)) ∧ (decode cX11_readGoal 114 = .ok (.return_, 1)) := by decide +kernel
theorem dX11_readGoal_112 : decode cX11_readGoal 112 = .ok (.iadd, 1) := eX11_readGoal_112q.1
theorem dX11_readGoal_113 : decode cX11_readGoal 113 = .ok (.iastore, 1) := eX11_readGoal_112q.2.1
theorem dX11_readGoal_114 : decode cX11_readGoal 114 = .ok (.return_, 1) := eX11_readGoal_112q.2.2
set_option maxRecDepth 20000 in
theorem ggX11_readClause_X11_which : GoodIn wsX11_readClause wsX11_which := by
  have h := goodIn_app (goodIn_r (big := wsX11_readClause) (.code yX11_which cX11_which 3 (some .int) :: (wsX11_which_r1 ++ (wsX11_which_r2 ++ wsX11_which_r3)) : List Cond) [9, 10, 11, 12, 8, 13, 3, 4, 14, 15, 16, 17, 18, 19, 20, 21, 22, 23, 24, 25, 26, 27, 28, 29, 30, 31, 32, 33, 34, 35, 36, 37, 38, 39, 40, 41, 42, 43, 44, 45, 46, 47, 48, 49, 50, 51, 52, 53, 54, 55, 56, 57, 58, 59, 60, 61, 62, 63, 64, 65] rfl (by decide +kernel)) (goodIn_few (big := wsX11_readClause) (fun _ h9 => List.mem_cons_of_mem _ (List.mem_append_right _ h9)) gb_0)
  exact h
set_option maxRecDepth 20000 in
theorem gX11_readClause_X11_which : GoodIn wsX11_readClause (wsV RX11 212 RX11 yX11_which wsX11_which) := goodIn_app (goodIn_r _ [5, 6, 7, 8] rfl (by decide +kernel)) ggX11_readClause_X11_which
set_option maxRecDepth 20000 in
theorem ggX11_readClause_X11_wrong : GoodIn wsX11_readClause wsX11_wrong := by
  have h := goodIn_app (goodIn_r (big := wsX11_readClause) (.code yX11_wrong cX11_wrong 2 none :: ([.fieldLink RX11 184 "PathProberModel" "bad" "I", .fieldLink RX11 158 "PathProberModel" "begins" "I", .fieldLink RX11 187 "PathProberModel" "badPlace" "I"]) : List Cond) [69, 3, 15, 70] rfl (by decide +kernel)) (goodIn_few (big := wsX11_readClause) (fun _ h9 => List.mem_cons_of_mem _ (List.mem_append_right _ h9)) gb_0)
  exact h
set_option maxRecDepth 20000 in
theorem gX11_readClause_X11_wrong : GoodIn wsX11_readClause (wsV RX11 202 RX11 yX11_wrong wsX11_wrong) := goodIn_app (goodIn_r _ [66, 67, 68, 8] rfl (by decide +kernel)) ggX11_readClause_X11_wrong
set_option maxRecDepth 20000 in
theorem ggX11_readClause_X11_readRouter : GoodIn wsX11_readClause wsX11_readRouter := by
  have h := goodIn_app (goodIn_r (big := wsX11_readClause) (.code yX11_readRouter cX11_readRouter 3 none :: (wsX11_readRouter_r1 ++ (wsX11_readRouter_r2 ++ (wsX11_readRouter_r3 ++ (wsX11_readRouter_r4 ++ wsX11_readRouter_r5)))) : List Cond) [74, 2, 3, 75, 76, 77, 78, 79, 80, 66, 67, 68, 8, 69, 15, 70, 81, 82, 83, 84, 85, 4, 86, 87, 88, 89, 90, 91, 14, 92, 93, 94, 95, 96, 16, 97, 98, 99, 100, 101, 102, 5, 6, 7, 9, 10, 11, 12, 13, 17, 18, 19, 20, 21, 22, 23, 24, 25, 26, 27, 28, 29, 30, 31, 32, 33, 34, 35, 36, 37, 38, 39, 40, 41, 42, 43, 44, 45, 46, 47, 48, 49, 50, 51, 52, 53, 54, 55, 56, 57, 58, 59, 60, 61, 62, 63, 64, 65, 103, 104, 105, 106, 107, 108, 109, 110] rfl (by decide +kernel)) (goodIn_few (big := wsX11_readClause) (fun _ h9 => List.mem_cons_of_mem _ (List.mem_append_right _ h9)) gb_0)
  exact h
set_option maxRecDepth 20000 in
theorem gX11_readClause_X11_readRouter : GoodIn wsX11_readClause (wsV RX11 231 RX11 yX11_readRouter wsX11_readRouter) := goodIn_app (goodIn_r _ [71, 72, 73, 8] rfl (by decide +kernel)) ggX11_readClause_X11_readRouter
set_option maxRecDepth 20000 in
theorem ggX11_readClause_X11_readLink : GoodIn wsX11_readClause wsX11_readLink := by
  have h := goodIn_app (goodIn_r (big := wsX11_readClause) (.code yX11_readLink cX11_readLink 3 none :: (wsX11_readLink_r1 ++ (wsX11_readLink_r2 ++ wsX11_readLink_r3)) : List Cond) [114, 2, 3, 115, 116, 66, 67, 68, 8, 69, 15, 70, 81, 82, 83, 84, 85, 4, 86, 87, 88, 89, 90, 91, 14, 92, 93, 94, 95, 96, 16, 97, 98, 99, 100, 101, 102, 117, 118, 119, 120, 107, 108, 109, 110, 121, 122, 123, 124, 125, 126, 127, 128] rfl (by decide +kernel)) (goodIn_few (big := wsX11_readClause) (fun _ h9 => List.mem_cons_of_mem _ (List.mem_append_right _ h9)) gb_0)
  exact h
set_option maxRecDepth 20000 in
theorem gX11_readClause_X11_readLink : GoodIn wsX11_readClause (wsV RX11 234 RX11 yX11_readLink wsX11_readLink) := goodIn_app (goodIn_r _ [111, 112, 113, 8] rfl (by decide +kernel)) ggX11_readClause_X11_readLink
set_option maxRecDepth 20000 in
theorem ggX11_readClause_X11_readGoal : GoodIn wsX11_readClause wsX11_readGoal := by
  have h := goodIn_app (goodIn_r (big := wsX11_readClause) (.code yX11_readGoal cX11_readGoal 3 none :: (wsX11_readGoal_r1 ++ wsX11_readGoal_r2) : List Cond) [132, 2, 3, 133, 66, 67, 68, 8, 69, 15, 70, 81, 82, 83, 84, 85, 4, 86, 87, 88, 89, 90, 91, 14, 92, 93, 94, 95, 96, 16, 97, 98, 99, 100, 101, 102, 117, 118, 119, 120, 107, 108, 109, 110] rfl (by decide +kernel)) (goodIn_few (big := wsX11_readClause) (fun _ h9 => List.mem_cons_of_mem _ (List.mem_append_right _ h9)) gb_0)
  exact h
set_option maxRecDepth 20000 in
theorem gX11_readClause_X11_readGoal : GoodIn wsX11_readClause (wsV RX11 237 RX11 yX11_readGoal wsX11_readGoal) := goodIn_app (goodIn_r _ [129, 130, 131, 8] rfl (by decide +kernel)) ggX11_readClause_X11_readGoal
set_option maxRecDepth 20000 in
theorem ggX11_readClause_X11_stepOn : GoodIn wsX11_readClause wsX11_stepOn := by
  have h := goodIn_app (goodIn_r (big := wsX11_readClause) (.code yX11_stepOn cX11_stepOn 2 none :: ([.fieldLink RX11 151 "PathProberModel" "at" "I", .fieldLink RX11 158 "PathProberModel" "begins" "I", .fieldLink RX11 161 "PathProberModel" "token" "I", .fieldLink RX11 171 "PathProberModel" "number" "I", .constant RX11 174 (100000), .methodLink RX11 175 Lib.Math.min.name, .static Lib.Math.min.name, .initialized "java/lang/Math", .code Lib.Math.min.name Lib.Math.min.code 2 (some .int), .fieldLink RX11 181 "PathProberModel" "stops" "I", .methodLink RX11 154 yX11_byteAt, .instanceMethod yX11_byteAt, .selects RX11 yX11_byteAt yX11_byteAt, .initialized RX11, .code yX11_byteAt cX11_byteAt 2 (some .int), .fieldLink RX11 148 "PathProberModel" "textSize" "I", .fieldLink RX11 66 "PathProberModel" "tape" "[I", .methodLink RX11 164 yX11_isLetter, .static yX11_isLetter, .code yX11_isLetter cX11_isLetter 1 (some .boolean), .methodLink RX11 168 yX11_isDigit, .static yX11_isDigit, .code yX11_isDigit cX11_isDigit 1 (some .boolean)]) : List Cond) [84, 85, 15, 4, 86, 87, 88, 89, 90, 91, 14, 92, 93, 94, 8, 95, 96, 16, 97, 98, 99, 100, 101, 102] rfl (by decide +kernel)) (goodIn_few (big := wsX11_readClause) (fun _ h9 => List.mem_cons_of_mem _ (List.mem_append_right _ h9)) gb_0)
  exact h
set_option maxRecDepth 20000 in
theorem gX11_readClause_X11_stepOn : GoodIn wsX11_readClause (wsV RX11 209 RX11 yX11_stepOn wsX11_stepOn) := goodIn_app (goodIn_r _ [81, 82, 83, 8] rfl (by decide +kernel)) ggX11_readClause_X11_stepOn
set_option maxRecDepth 20000 in
theorem ggX11_readClause_X11_readNumber : GoodIn wsX11_readClause wsX11_readNumber := by
  have h := goodIn_app (goodIn_r (big := wsX11_readClause) (.code yX11_readNumber cX11_readNumber 4 (some .int) :: (wsX11_readNumber_r1 ++ wsX11_readNumber_r2) : List Cond) [106, 3, 107, 108, 109, 8, 110, 4, 14, 15, 86, 66, 67, 68, 69, 70, 81, 82, 83, 84, 85, 87, 88, 89, 90, 91, 92, 93, 94, 95, 96, 16, 97, 98, 99, 100, 101, 102] rfl (by decide +kernel)) (goodIn_few (big := wsX11_readClause) (fun _ h9 => List.mem_cons_of_mem _ (List.mem_append_right _ h9)) gb_0)
  exact h
set_option maxRecDepth 20000 in
theorem gX11_readClause_X11_readNumber : GoodIn wsX11_readClause (wsV RX11 216 RX11 yX11_readNumber wsX11_readNumber) := goodIn_app (goodIn_r _ [103, 104, 105, 8] rfl (by decide +kernel)) ggX11_readClause_X11_readNumber
theorem eX11_readClause_0q : (decode cX11_readClause 0 = .ok (.aload_n 0, 1)) ∧ (decode cX11_readClause 1 = .ok (.aload_n 0, 1)) ∧ (decode cX11_readClause 2 = .ok (.getfield 17, 3)) ∧ (decode cX11_readClause 5 = .ok (.invokevirtual 212, 3)) ∧ (decode cX11_readClause 8 = .ok (.istore_n 1, 1)) ∧ (decode cX11_readClause 9 = .ok (.iload_n 1, 1)) ∧ (decode cX11_readClause 10 = .ok (.iconst (-1), 1)) ∧ (decode cX11_readClause 11 = .ok (.if_icmp .ne 8, 3)) := by decide +kernel
theorem dX11_readClause_0 : decode cX11_readClause 0 = .ok (.aload_n 0, 1) := eX11_readClause_0q.1
theorem dX11_readClause_1 : decode cX11_readClause 1 = .ok (.aload_n 0, 1) := eX11_readClause_0q.2.1
theorem dX11_readClause_2 : decode cX11_readClause 2 = .ok (.getfield 17, 3) := eX11_readClause_0q.2.2.1
theorem dX11_readClause_5 : decode cX11_readClause 5 = .ok (.invokevirtual 212, 3) := eX11_readClause_0q.2.2.2.1
theorem dX11_readClause_8 : decode cX11_readClause 8 = .ok (.istore_n 1, 1) := eX11_readClause_0q.2.2.2.2.1
theorem dX11_readClause_9 : decode cX11_readClause 9 = .ok (.iload_n 1, 1) := eX11_readClause_0q.2.2.2.2.2.1
theorem dX11_readClause_10 : decode cX11_readClause 10 = .ok (.iconst (-1), 1) := eX11_readClause_0q.2.2.2.2.2.2.1
theorem dX11_readClause_11 : decode cX11_readClause 11 = .ok (.if_icmp .ne 8, 3) := eX11_readClause_0q.2.2.2.2.2.2.2
theorem eX11_readClause_14q : (decode cX11_readClause 14 = .ok (.aload_n 0, 1)) ∧ (decode cX11_readClause 15 = .ok (.iconst 1, 1)) ∧ (decode cX11_readClause 16 = .ok (.invokevirtual 202, 3)) ∧ (decode cX11_readClause 19 = .ok (.iload_n 1, 1)) ∧ (decode cX11_readClause 20 = .ok (.iconst 3, 1)) ∧ (decode cX11_readClause 21 = .ok (.if_icmp .ne 19, 3)) ∧ (decode cX11_readClause 24 = .ok (.aload_n 0, 1)) ∧ (decode cX11_readClause 25 = .ok (.getfield 34, 3)) := by decide +kernel
theorem dX11_readClause_14 : decode cX11_readClause 14 = .ok (.aload_n 0, 1) := eX11_readClause_14q.1
theorem dX11_readClause_15 : decode cX11_readClause 15 = .ok (.iconst 1, 1) := eX11_readClause_14q.2.1
theorem dX11_readClause_16 : decode cX11_readClause 16 = .ok (.invokevirtual 202, 3) := eX11_readClause_14q.2.2.1
theorem dX11_readClause_19 : decode cX11_readClause 19 = .ok (.iload_n 1, 1) := eX11_readClause_14q.2.2.2.1
theorem dX11_readClause_20 : decode cX11_readClause 20 = .ok (.iconst 3, 1) := eX11_readClause_14q.2.2.2.2.1
theorem dX11_readClause_21 : decode cX11_readClause 21 = .ok (.if_icmp .ne 19, 3) := eX11_readClause_14q.2.2.2.2.2.1
theorem dX11_readClause_24 : decode cX11_readClause 24 = .ok (.aload_n 0, 1) := eX11_readClause_14q.2.2.2.2.2.2.1
theorem dX11_readClause_25 : decode cX11_readClause 25 = .ok (.getfield 34, 3) := eX11_readClause_14q.2.2.2.2.2.2.2
theorem eX11_readClause_28q : (decode cX11_readClause 28 = .ok (.bipush 7, 2)) ∧ (decode cX11_readClause 30 = .ok (.iaload, 1)) ∧ (decode cX11_readClause 31 = .ok (.iconst (-1), 1)) ∧ (decode cX11_readClause 32 = .ok (.if_icmp .eq 8, 3)) ∧ (decode cX11_readClause 35 = .ok (.aload_n 0, 1)) ∧ (decode cX11_readClause 36 = .ok (.iconst 4, 1)) ∧ (decode cX11_readClause 37 = .ok (.invokevirtual 202, 3)) ∧ (decode cX11_readClause 40 = .ok (.iload_n 1, 1)) := by decide +kernel
theorem dX11_readClause_28 : decode cX11_readClause 28 = .ok (.bipush 7, 2) := eX11_readClause_28q.1
theorem dX11_readClause_30 : decode cX11_readClause 30 = .ok (.iaload, 1) := eX11_readClause_28q.2.1
theorem dX11_readClause_31 : decode cX11_readClause 31 = .ok (.iconst (-1), 1) := eX11_readClause_28q.2.2.1
theorem dX11_readClause_32 : decode cX11_readClause 32 = .ok (.if_icmp .eq 8, 3) := eX11_readClause_28q.2.2.2.1
theorem dX11_readClause_35 : decode cX11_readClause 35 = .ok (.aload_n 0, 1) := eX11_readClause_28q.2.2.2.2.1
theorem dX11_readClause_36 : decode cX11_readClause 36 = .ok (.iconst 4, 1) := eX11_readClause_28q.2.2.2.2.2.1
theorem dX11_readClause_37 : decode cX11_readClause 37 = .ok (.invokevirtual 202, 3) := eX11_readClause_28q.2.2.2.2.2.2.1
theorem dX11_readClause_40 : decode cX11_readClause 40 = .ok (.iload_n 1, 1) := eX11_readClause_28q.2.2.2.2.2.2.2
theorem eX11_readClause_41q : (decode cX11_readClause 41 = .ok (.ifCond .ne 7, 3)) ∧ (decode cX11_readClause 44 = .ok (.aload_n 0, 1)) ∧ (decode cX11_readClause 45 = .ok (.invokevirtual 231, 3)) ∧ (decode cX11_readClause 48 = .ok (.iload_n 1, 1)) ∧ (decode cX11_readClause 49 = .ok (.iconst 1, 1)) ∧ (decode cX11_readClause 50 = .ok (.if_icmp .ne 7, 3)) ∧ (decode cX11_readClause 53 = .ok (.aload_n 0, 1)) ∧ (decode cX11_readClause 54 = .ok (.invokevirtual 234, 3)) := by decide +kernel
theorem dX11_readClause_41 : decode cX11_readClause 41 = .ok (.ifCond .ne 7, 3) := eX11_readClause_41q.1
theorem dX11_readClause_44 : decode cX11_readClause 44 = .ok (.aload_n 0, 1) := eX11_readClause_41q.2.1
theorem dX11_readClause_45 : decode cX11_readClause 45 = .ok (.invokevirtual 231, 3) := eX11_readClause_41q.2.2.1
theorem dX11_readClause_48 : decode cX11_readClause 48 = .ok (.iload_n 1, 1) := eX11_readClause_41q.2.2.2.1
theorem dX11_readClause_49 : decode cX11_readClause 49 = .ok (.iconst 1, 1) := eX11_readClause_41q.2.2.2.2.1
theorem dX11_readClause_50 : decode cX11_readClause 50 = .ok (.if_icmp .ne 7, 3) := eX11_readClause_41q.2.2.2.2.2.1
theorem dX11_readClause_53 : decode cX11_readClause 53 = .ok (.aload_n 0, 1) := eX11_readClause_41q.2.2.2.2.2.2.1
theorem dX11_readClause_54 : decode cX11_readClause 54 = .ok (.invokevirtual 234, 3) := eX11_readClause_41q.2.2.2.2.2.2.2
theorem eX11_readClause_57q : (decode cX11_readClause 57 = .ok (.iload_n 1, 1)) ∧ (decode cX11_readClause 58 = .ok (.iconst 2, 1)) ∧ (decode cX11_readClause 59 = .ok (.if_icmp .ne 7, 3)) ∧ (decode cX11_readClause 62 = .ok (.aload_n 0, 1)) ∧ (decode cX11_readClause 63 = .ok (.invokevirtual 237, 3)) ∧ (decode cX11_readClause 66 = .ok (.iload_n 1, 1)) ∧ (decode cX11_readClause 67 = .ok (.iconst 3, 1)) ∧ (decode cX11_readClause 68 = .ok (.if_icmp .ne 28, 3)) := by decide +kernel
theorem dX11_readClause_57 : decode cX11_readClause 57 = .ok (.iload_n 1, 1) := eX11_readClause_57q.1
theorem dX11_readClause_58 : decode cX11_readClause 58 = .ok (.iconst 2, 1) := eX11_readClause_57q.2.1
theorem dX11_readClause_59 : decode cX11_readClause 59 = .ok (.if_icmp .ne 7, 3) := eX11_readClause_57q.2.2.1
theorem dX11_readClause_62 : decode cX11_readClause 62 = .ok (.aload_n 0, 1) := eX11_readClause_57q.2.2.2.1
theorem dX11_readClause_63 : decode cX11_readClause 63 = .ok (.invokevirtual 237, 3) := eX11_readClause_57q.2.2.2.2.1
theorem dX11_readClause_66 : decode cX11_readClause 66 = .ok (.iload_n 1, 1) := eX11_readClause_57q.2.2.2.2.2.1
theorem dX11_readClause_67 : decode cX11_readClause 67 = .ok (.iconst 3, 1) := eX11_readClause_57q.2.2.2.2.2.2.1
theorem dX11_readClause_68 : decode cX11_readClause 68 = .ok (.if_icmp .ne 28, 3) := eX11_readClause_57q.2.2.2.2.2.2.2
theorem eX11_readClause_71q : (decode cX11_readClause 71 = .ok (.aload_n 0, 1)) ∧ (decode cX11_readClause 72 = .ok (.getfield 184, 3)) ∧ (decode cX11_readClause 75 = .ok (.ifCond .ne 21, 3)) ∧ (decode cX11_readClause 78 = .ok (.aload_n 0, 1)) ∧ (decode cX11_readClause 79 = .ok (.invokevirtual 209, 3)) ∧ (decode cX11_readClause 82 = .ok (.aload_n 0, 1)) ∧ (decode cX11_readClause 83 = .ok (.getfield 34, 3)) ∧ (decode cX11_readClause 86 = .ok (.bipush 7, 2)) := by decide +kernel
theorem dX11_readClause_71 : decode cX11_readClause 71 = .ok (.aload_n 0, 1) := eX11_readClause_71q.1
theorem dX11_readClause_72 : decode cX11_readClause 72 = .ok (.getfield 184, 3) := eX11_readClause_71q.2.1
theorem dX11_readClause_75 : decode cX11_readClause 75 = .ok (.ifCond .ne 21, 3) := eX11_readClause_71q.2.2.1
theorem dX11_readClause_78 : decode cX11_readClause 78 = .ok (.aload_n 0, 1) := eX11_readClause_71q.2.2.2.1
theorem dX11_readClause_79 : decode cX11_readClause 79 = .ok (.invokevirtual 209, 3) := eX11_readClause_71q.2.2.2.2.1
theorem dX11_readClause_82 : decode cX11_readClause 82 = .ok (.aload_n 0, 1) := eX11_readClause_71q.2.2.2.2.2.1
theorem dX11_readClause_83 : decode cX11_readClause 83 = .ok (.getfield 34, 3) := eX11_readClause_71q.2.2.2.2.2.2.1
theorem dX11_readClause_86 : decode cX11_readClause 86 = .ok (.bipush 7, 2) := eX11_readClause_71q.2.2.2.2.2.2.2
theorem eX11_readClause_88q : (decode cX11_readClause 88 = .ok (.aload_n 0, 1)) ∧ (decode cX11_readClause 89 = .ok (.iconst 1, 1)) ∧ (decode cX11_readClause 90 = .ok (.bipush 50, 2)) ∧ (decode cX11_readClause 92 = .ok (.invokevirtual 216, 3)) ∧ (decode cX11_readClause 95 = .ok (.iastore, 1)) ∧ (decode cX11_readClause 96 = .ok (.aload_n 0, 1)) ∧ (decode cX11_readClause 97 = .ok (.getfield 184, 3)) ∧ (decode cX11_readClause 100 = .ok (.ifCond .ne 16, 3)) := by decide +kernel
theorem dX11_readClause_88 : decode cX11_readClause 88 = .ok (.aload_n 0, 1) := eX11_readClause_88q.1
theorem dX11_readClause_89 : decode cX11_readClause 89 = .ok (.iconst 1, 1) := eX11_readClause_88q.2.1
theorem dX11_readClause_90 : decode cX11_readClause 90 = .ok (.bipush 50, 2) := eX11_readClause_88q.2.2.1
theorem dX11_readClause_92 : decode cX11_readClause 92 = .ok (.invokevirtual 216, 3) := eX11_readClause_88q.2.2.2.1
theorem dX11_readClause_95 : decode cX11_readClause 95 = .ok (.iastore, 1) := eX11_readClause_88q.2.2.2.2.1
theorem dX11_readClause_96 : decode cX11_readClause 96 = .ok (.aload_n 0, 1) := eX11_readClause_88q.2.2.2.2.2.1
theorem dX11_readClause_97 : decode cX11_readClause 97 = .ok (.getfield 184, 3) := eX11_readClause_88q.2.2.2.2.2.2.1
theorem dX11_readClause_100 : decode cX11_readClause 100 = .ok (.ifCond .ne 16, 3) := eX11_readClause_88q.2.2.2.2.2.2.2
theorem eX11_readClause_103q : (decode cX11_readClause 103 = .ok (.aload_n 0, 1)) ∧ (decode cX11_readClause 104 = .ok (.getfield 161, 3)) ∧ (decode cX11_readClause 107 = .ok (.iconst 3, 1)) ∧ (decode cX11_readClause 108 = .ok (.if_icmp .eq 8, 3)) ∧ (decode cX11_readClause 111 = .ok (.aload_n 0, 1)) ∧ (decode cX11_readClause 112 = .ok (.iconst 1, 1)) ∧ (decode cX11_readClause 113 = .ok (.invokevirtual 202, 3)) ∧ (decode cX11_readClause 116 = .ok (.aload_n 0, 1)) := by decide +kernel
theorem dX11_readClause_103 : decode cX11_readClause 103 = .ok (.aload_n 0, 1) := eX11_readClause_103q.1
theorem dX11_readClause_104 : decode cX11_readClause 104 = .ok (.getfield 161, 3) := eX11_readClause_103q.2.1
theorem dX11_readClause_107 : decode cX11_readClause 107 = .ok (.iconst 3, 1) := eX11_readClause_103q.2.2.1
theorem dX11_readClause_108 : decode cX11_readClause 108 = .ok (.if_icmp .eq 8, 3) := eX11_readClause_103q.2.2.2.1
theorem dX11_readClause_111 : decode cX11_readClause 111 = .ok (.aload_n 0, 1) := eX11_readClause_103q.2.2.2.2.1
theorem dX11_readClause_112 : decode cX11_readClause 112 = .ok (.iconst 1, 1) := eX11_readClause_103q.2.2.2.2.2.1
theorem dX11_readClause_113 : decode cX11_readClause 113 = .ok (.invokevirtual 202, 3) := eX11_readClause_103q.2.2.2.2.2.2.1
theorem dX11_readClause_116 : decode cX11_readClause 116 = .ok (.aload_n 0, 1) := eX11_readClause_103q.2.2.2.2.2.2.2
theorem eX11_readClause_117q : (decode cX11_readClause 117 = .ok (.getfield 184, 3)) ∧ (decode cX11_readClause 120 = .ok (.ifCond .ne 7, 3)) ∧ (decode cX11_readClause 123 = .ok (.aload_n 0, 1)) ∧ (decode cX11_readClause 124 = .ok (.invokevirtual 209, 3)) ∧ (decode cX11_readClause 127 = .ok (.return_, 1)) := by decide +kernel
theorem dX11_readClause_117 : decode cX11_readClause 117 = .ok (.getfield 184, 3) := eX11_readClause_117q.1
theorem dX11_readClause_120 : decode cX11_readClause 120 = .ok (.ifCond .ne 7, 3) := eX11_readClause_117q.2.1
theorem dX11_readClause_123 : decode cX11_readClause 123 = .ok (.aload_n 0, 1) := eX11_readClause_117q.2.2.1
theorem dX11_readClause_124 : decode cX11_readClause 124 = .ok (.invokevirtual 209, 3) := eX11_readClause_117q.2.2.2.1
theorem dX11_readClause_127 : decode cX11_readClause 127 = .ok (.return_, 1) := eX11_readClause_117q.2.2.2.2
theorem eX11_takeHalf_0q : (decode cX11_takeHalf 0 = .ok (.iconst 0, 1)) ∧ (decode cX11_takeHalf 1 = .ok (.istore_n 1, 1)) ∧ (decode cX11_takeHalf 2 = .ok (.iload_n 1, 1)) ∧ (decode cX11_takeHalf 3 = .ok (.aload_n 0, 1)) ∧ (decode cX11_takeHalf 4 = .ok (.arraylength, 1)) ∧ (decode cX11_takeHalf 5 = .ok (.iconst 2, 1)) ∧ (decode cX11_takeHalf 6 = .ok (.idiv, 1)) ∧ (decode cX11_takeHalf 7 = .ok (.if_icmp .ge 20, 3)) := by decide +kernel
theorem dX11_takeHalf_0 : decode cX11_takeHalf 0 = .ok (.iconst 0, 1) := eX11_takeHalf_0q.1
theorem dX11_takeHalf_1 : decode cX11_takeHalf 1 = .ok (.istore_n 1, 1) := eX11_takeHalf_0q.2.1
theorem dX11_takeHalf_2 : decode cX11_takeHalf 2 = .ok (.iload_n 1, 1) := eX11_takeHalf_0q.2.2.1
theorem dX11_takeHalf_3 : decode cX11_takeHalf 3 = .ok (.aload_n 0, 1) := eX11_takeHalf_0q.2.2.2.1
theorem dX11_takeHalf_4 : decode cX11_takeHalf 4 = .ok (.arraylength, 1) := eX11_takeHalf_0q.2.2.2.2.1
theorem dX11_takeHalf_5 : decode cX11_takeHalf 5 = .ok (.iconst 2, 1) := eX11_takeHalf_0q.2.2.2.2.2.1
theorem dX11_takeHalf_6 : decode cX11_takeHalf 6 = .ok (.idiv, 1) := eX11_takeHalf_0q.2.2.2.2.2.2.1
theorem dX11_takeHalf_7 : decode cX11_takeHalf 7 = .ok (.if_icmp .ge 20, 3) := eX11_takeHalf_0q.2.2.2.2.2.2.2
theorem eX11_takeHalf_10q : (decode cX11_takeHalf 10 = .ok (.aload_n 0, 1)) ∧ (decode cX11_takeHalf 11 = .ok (.iload_n 1, 1)) ∧ (decode cX11_takeHalf 12 = .ok (.aload_n 0, 1)) ∧ (decode cX11_takeHalf 13 = .ok (.aload_n 0, 1)) ∧ (decode cX11_takeHalf 14 = .ok (.arraylength, 1)) ∧ (decode cX11_takeHalf 15 = .ok (.iconst 2, 1)) ∧ (decode cX11_takeHalf 16 = .ok (.idiv, 1)) ∧ (decode cX11_takeHalf 17 = .ok (.iload_n 1, 1)) := by decide +kernel
theorem dX11_takeHalf_10 : decode cX11_takeHalf 10 = .ok (.aload_n 0, 1) := eX11_takeHalf_10q.1
theorem dX11_takeHalf_11 : decode cX11_takeHalf 11 = .ok (.iload_n 1, 1) := eX11_takeHalf_10q.2.1
theorem dX11_takeHalf_12 : decode cX11_takeHalf 12 = .ok (.aload_n 0, 1) := eX11_takeHalf_10q.2.2.1
theorem dX11_takeHalf_13 : decode cX11_takeHalf 13 = .ok (.aload_n 0, 1) := eX11_takeHalf_10q.2.2.2.1
theorem dX11_takeHalf_14 : decode cX11_takeHalf 14 = .ok (.arraylength, 1) := eX11_takeHalf_10q.2.2.2.2.1
theorem dX11_takeHalf_15 : decode cX11_takeHalf 15 = .ok (.iconst 2, 1) := eX11_takeHalf_10q.2.2.2.2.2.1
theorem dX11_takeHalf_16 : decode cX11_takeHalf 16 = .ok (.idiv, 1) := eX11_takeHalf_10q.2.2.2.2.2.2.1
theorem dX11_takeHalf_17 : decode cX11_takeHalf 17 = .ok (.iload_n 1, 1) := eX11_takeHalf_10q.2.2.2.2.2.2.2
theorem eX11_takeHalf_18q : (decode cX11_takeHalf 18 = .ok (.iadd, 1)) ∧ (decode cX11_takeHalf 19 = .ok (.iaload, 1)) ∧ (decode cX11_takeHalf 20 = .ok (.iastore, 1)) ∧ (decode cX11_takeHalf 21 = .ok (.iinc 1 1, 3)) ∧ (decode cX11_takeHalf 24 = .ok (.goto (-22), 3)) ∧ (decode cX11_takeHalf 27 = .ok (.return_, 1)) := by decide +kernel
theorem dX11_takeHalf_18 : decode cX11_takeHalf 18 = .ok (.iadd, 1) := eX11_takeHalf_18q.1
theorem dX11_takeHalf_19 : decode cX11_takeHalf 19 = .ok (.iaload, 1) := eX11_takeHalf_18q.2.1
theorem dX11_takeHalf_20 : decode cX11_takeHalf 20 = .ok (.iastore, 1) := eX11_takeHalf_18q.2.2.1
theorem dX11_takeHalf_21 : decode cX11_takeHalf 21 = .ok (.iinc 1 1, 3) := eX11_takeHalf_18q.2.2.2.1
theorem dX11_takeHalf_24 : decode cX11_takeHalf 24 = .ok (.goto (-22), 3) := eX11_takeHalf_18q.2.2.2.2.1
theorem dX11_takeHalf_27 : decode cX11_takeHalf 27 = .ok (.return_, 1) := eX11_takeHalf_18q.2.2.2.2.2
set_option maxRecDepth 20000 in
theorem ggX11_tellReach_X11_routers : GoodIn wsX11_tellReach wsX11_routers := by
  have h := goodIn_app (goodIn_r (big := wsX11_tellReach) (.code yX11_routers cX11_routers 1 (some .int) :: ([.fieldLink RX11 34 "PathProberModel" "told" "[I"]) : List Cond) [8, 9] rfl (by decide +kernel)) (goodIn_few (big := wsX11_tellReach) (fun _ h9 => List.mem_cons_of_mem _ (List.mem_append_right _ h9)) gb_0)
  exact h
set_option maxRecDepth 20000 in
theorem gX11_tellReach_X11_routers : GoodIn wsX11_tellReach (wsV RX11 263 RX11 yX11_routers wsX11_routers) := goodIn_app (goodIn_r _ [4, 5, 6, 7] rfl (by decide +kernel)) ggX11_tellReach_X11_routers
set_option maxRecDepth 20000 in
theorem ggX11_tellReach_X11_links : GoodIn wsX11_tellReach wsX11_links := by
  have h := goodIn_app (goodIn_r (big := wsX11_tellReach) (.code yX11_links cX11_links 1 (some .int) :: ([.fieldLink RX11 34 "PathProberModel" "told" "[I"]) : List Cond) [13, 9] rfl (by decide +kernel)) (goodIn_few (big := wsX11_tellReach) (fun _ h9 => List.mem_cons_of_mem _ (List.mem_append_right _ h9)) gb_0)
  exact h
set_option maxRecDepth 20000 in
theorem gX11_tellReach_X11_links : GoodIn wsX11_tellReach (wsV RX11 266 RX11 yX11_links wsX11_links) := goodIn_app (goodIn_r _ [10, 11, 12, 7] rfl (by decide +kernel)) ggX11_tellReach_X11_links
theorem eX11_tellReach_0q : (decode cX11_tellReach 0 = .ok (.iconst 0, 1)) ∧ (decode cX11_tellReach 1 = .ok (.istore_n 1, 1)) ∧ (decode cX11_tellReach 2 = .ok (.iload_n 1, 1)) ∧ (decode cX11_tellReach 3 = .ok (.aload_n 0, 1)) ∧ (decode cX11_tellReach 4 = .ok (.invokevirtual 263, 3)) ∧ (decode cX11_tellReach 7 = .ok (.if_icmp .ge 87, 3)) ∧ (decode cX11_tellReach 10 = .ok (.aload_n 0, 1)) ∧ (decode cX11_tellReach 11 = .ok (.getfield 73, 3)) := by decide +kernel
theorem dX11_tellReach_0 : decode cX11_tellReach 0 = .ok (.iconst 0, 1) := eX11_tellReach_0q.1
theorem dX11_tellReach_1 : decode cX11_tellReach 1 = .ok (.istore_n 1, 1) := eX11_tellReach_0q.2.1
theorem dX11_tellReach_2 : decode cX11_tellReach 2 = .ok (.iload_n 1, 1) := eX11_tellReach_0q.2.2.1
theorem dX11_tellReach_3 : decode cX11_tellReach 3 = .ok (.aload_n 0, 1) := eX11_tellReach_0q.2.2.2.1
theorem dX11_tellReach_4 : decode cX11_tellReach 4 = .ok (.invokevirtual 263, 3) := eX11_tellReach_0q.2.2.2.2.1
theorem dX11_tellReach_7 : decode cX11_tellReach 7 = .ok (.if_icmp .ge 87, 3) := eX11_tellReach_0q.2.2.2.2.2.1
theorem dX11_tellReach_10 : decode cX11_tellReach 10 = .ok (.aload_n 0, 1) := eX11_tellReach_0q.2.2.2.2.2.2.1
theorem dX11_tellReach_11 : decode cX11_tellReach 11 = .ok (.getfield 73, 3) := eX11_tellReach_0q.2.2.2.2.2.2.2
theorem eX11_tellReach_14q : (decode cX11_tellReach 14 = .ok (.iload_n 1, 1)) ∧ (decode cX11_tellReach 15 = .ok (.iconst 1, 1)) ∧ (decode cX11_tellReach 16 = .ok (.iload_n 1, 1)) ∧ (decode cX11_tellReach 17 = .ok (.ishl, 1)) ∧ (decode cX11_tellReach 18 = .ok (.iastore, 1)) ∧ (decode cX11_tellReach 19 = .ok (.iload_n 1, 1)) ∧ (decode cX11_tellReach 20 = .ok (.istore_n 2, 1)) ∧ (decode cX11_tellReach 21 = .ok (.iload_n 2, 1)) := by decide +kernel
theorem dX11_tellReach_14 : decode cX11_tellReach 14 = .ok (.iload_n 1, 1) := eX11_tellReach_14q.1
theorem dX11_tellReach_15 : decode cX11_tellReach 15 = .ok (.iconst 1, 1) := eX11_tellReach_14q.2.1
theorem dX11_tellReach_16 : decode cX11_tellReach 16 = .ok (.iload_n 1, 1) := eX11_tellReach_14q.2.2.1
theorem dX11_tellReach_17 : decode cX11_tellReach 17 = .ok (.ishl, 1) := eX11_tellReach_14q.2.2.2.1
theorem dX11_tellReach_18 : decode cX11_tellReach 18 = .ok (.iastore, 1) := eX11_tellReach_14q.2.2.2.2.1
theorem dX11_tellReach_19 : decode cX11_tellReach 19 = .ok (.iload_n 1, 1) := eX11_tellReach_14q.2.2.2.2.2.1
theorem dX11_tellReach_20 : decode cX11_tellReach 20 = .ok (.istore_n 2, 1) := eX11_tellReach_14q.2.2.2.2.2.2.1
theorem dX11_tellReach_21 : decode cX11_tellReach 21 = .ok (.iload_n 2, 1) := eX11_tellReach_14q.2.2.2.2.2.2.2
theorem eX11_tellReach_22q : (decode cX11_tellReach 22 = .ok (.ifCond .lt 66, 3)) ∧ (decode cX11_tellReach 25 = .ok (.iconst 0, 1)) ∧ (decode cX11_tellReach 26 = .ok (.istore_n 3, 1)) ∧ (decode cX11_tellReach 27 = .ok (.iload_n 3, 1)) ∧ (decode cX11_tellReach 28 = .ok (.aload_n 0, 1)) ∧ (decode cX11_tellReach 29 = .ok (.invokevirtual 266, 3)) ∧ (decode cX11_tellReach 32 = .ok (.if_icmp .ge 50, 3)) ∧ (decode cX11_tellReach 35 = .ok (.aload_n 0, 1)) := by decide +kernel
theorem dX11_tellReach_22 : decode cX11_tellReach 22 = .ok (.ifCond .lt 66, 3) := eX11_tellReach_22q.1
theorem dX11_tellReach_25 : decode cX11_tellReach 25 = .ok (.iconst 0, 1) := eX11_tellReach_22q.2.1
theorem dX11_tellReach_26 : decode cX11_tellReach 26 = .ok (.istore_n 3, 1) := eX11_tellReach_22q.2.2.1
theorem dX11_tellReach_27 : decode cX11_tellReach 27 = .ok (.iload_n 3, 1) := eX11_tellReach_22q.2.2.2.1
theorem dX11_tellReach_28 : decode cX11_tellReach 28 = .ok (.aload_n 0, 1) := eX11_tellReach_22q.2.2.2.2.1
theorem dX11_tellReach_29 : decode cX11_tellReach 29 = .ok (.invokevirtual 266, 3) := eX11_tellReach_22q.2.2.2.2.2.1
theorem dX11_tellReach_32 : decode cX11_tellReach 32 = .ok (.if_icmp .ge 50, 3) := eX11_tellReach_22q.2.2.2.2.2.2.1
theorem dX11_tellReach_35 : decode cX11_tellReach 35 = .ok (.aload_n 0, 1) := eX11_tellReach_22q.2.2.2.2.2.2.2
theorem eX11_tellReach_36q : (decode cX11_tellReach 36 = .ok (.getfield 53, 3)) ∧ (decode cX11_tellReach 39 = .ok (.iload_n 3, 1)) ∧ (decode cX11_tellReach 40 = .ok (.iaload, 1)) ∧ (decode cX11_tellReach 41 = .ok (.iload_n 2, 1)) ∧ (decode cX11_tellReach 42 = .ok (.if_icmp .ne 34, 3)) ∧ (decode cX11_tellReach 45 = .ok (.aload_n 0, 1)) ∧ (decode cX11_tellReach 46 = .ok (.getfield 73, 3)) ∧ (decode cX11_tellReach 49 = .ok (.iload_n 1, 1)) := by decide +kernel
theorem dX11_tellReach_36 : decode cX11_tellReach 36 = .ok (.getfield 53, 3) := eX11_tellReach_36q.1
theorem dX11_tellReach_39 : decode cX11_tellReach 39 = .ok (.iload_n 3, 1) := eX11_tellReach_36q.2.1
theorem dX11_tellReach_40 : decode cX11_tellReach 40 = .ok (.iaload, 1) := eX11_tellReach_36q.2.2.1
theorem dX11_tellReach_41 : decode cX11_tellReach 41 = .ok (.iload_n 2, 1) := eX11_tellReach_36q.2.2.2.1
theorem dX11_tellReach_42 : decode cX11_tellReach 42 = .ok (.if_icmp .ne 34, 3) := eX11_tellReach_36q.2.2.2.2.1
theorem dX11_tellReach_45 : decode cX11_tellReach 45 = .ok (.aload_n 0, 1) := eX11_tellReach_36q.2.2.2.2.2.1
theorem dX11_tellReach_46 : decode cX11_tellReach 46 = .ok (.getfield 73, 3) := eX11_tellReach_36q.2.2.2.2.2.2.1
theorem dX11_tellReach_49 : decode cX11_tellReach 49 = .ok (.iload_n 1, 1) := eX11_tellReach_36q.2.2.2.2.2.2.2
theorem eX11_tellReach_50q : (decode cX11_tellReach 50 = .ok (.iaload, 1)) ∧ (decode cX11_tellReach 51 = .ok (.aload_n 0, 1)) ∧ (decode cX11_tellReach 52 = .ok (.getfield 56, 3)) ∧ (decode cX11_tellReach 55 = .ok (.iload_n 3, 1)) ∧ (decode cX11_tellReach 56 = .ok (.iaload, 1)) ∧ (decode cX11_tellReach 57 = .ok (.ishr, 1)) ∧ (decode cX11_tellReach 58 = .ok (.iconst 1, 1)) ∧ (decode cX11_tellReach 59 = .ok (.iand, 1)) := by decide +kernel
theorem dX11_tellReach_50 : decode cX11_tellReach 50 = .ok (.iaload, 1) := eX11_tellReach_50q.1
theorem dX11_tellReach_51 : decode cX11_tellReach 51 = .ok (.aload_n 0, 1) := eX11_tellReach_50q.2.1
theorem dX11_tellReach_52 : decode cX11_tellReach 52 = .ok (.getfield 56, 3) := eX11_tellReach_50q.2.2.1
theorem dX11_tellReach_55 : decode cX11_tellReach 55 = .ok (.iload_n 3, 1) := eX11_tellReach_50q.2.2.2.1
theorem dX11_tellReach_56 : decode cX11_tellReach 56 = .ok (.iaload, 1) := eX11_tellReach_50q.2.2.2.2.1
theorem dX11_tellReach_57 : decode cX11_tellReach 57 = .ok (.ishr, 1) := eX11_tellReach_50q.2.2.2.2.2.1
theorem dX11_tellReach_58 : decode cX11_tellReach 58 = .ok (.iconst 1, 1) := eX11_tellReach_50q.2.2.2.2.2.2.1
theorem dX11_tellReach_59 : decode cX11_tellReach 59 = .ok (.iand, 1) := eX11_tellReach_50q.2.2.2.2.2.2.2
theorem eX11_tellReach_60q : (decode cX11_tellReach 60 = .ok (.iconst 1, 1)) ∧ (decode cX11_tellReach 61 = .ok (.if_icmp .ne 15, 3)) ∧ (decode cX11_tellReach 64 = .ok (.aload_n 0, 1)) ∧ (decode cX11_tellReach 65 = .ok (.getfield 73, 3)) ∧ (decode cX11_tellReach 68 = .ok (.iload_n 1, 1)) ∧ (decode cX11_tellReach 69 = .ok (.dup2, 1)) ∧ (decode cX11_tellReach 70 = .ok (.iaload, 1)) ∧ (decode cX11_tellReach 71 = .ok (.iconst 1, 1)) := by decide +kernel
theorem dX11_tellReach_60 : decode cX11_tellReach 60 = .ok (.iconst 1, 1) := eX11_tellReach_60q.1
theorem dX11_tellReach_61 : decode cX11_tellReach 61 = .ok (.if_icmp .ne 15, 3) := eX11_tellReach_60q.2.1
theorem dX11_tellReach_64 : decode cX11_tellReach 64 = .ok (.aload_n 0, 1) := eX11_tellReach_60q.2.2.1
theorem dX11_tellReach_65 : decode cX11_tellReach 65 = .ok (.getfield 73, 3) := eX11_tellReach_60q.2.2.2.1
theorem dX11_tellReach_68 : decode cX11_tellReach 68 = .ok (.iload_n 1, 1) := eX11_tellReach_60q.2.2.2.2.1
theorem dX11_tellReach_69 : decode cX11_tellReach 69 = .ok (.dup2, 1) := eX11_tellReach_60q.2.2.2.2.2.1
theorem dX11_tellReach_70 : decode cX11_tellReach 70 = .ok (.iaload, 1) := eX11_tellReach_60q.2.2.2.2.2.2.1
theorem dX11_tellReach_71 : decode cX11_tellReach 71 = .ok (.iconst 1, 1) := eX11_tellReach_60q.2.2.2.2.2.2.2
theorem eX11_tellReach_72q : (decode cX11_tellReach 72 = .ok (.iload_n 2, 1)) ∧ (decode cX11_tellReach 73 = .ok (.ishl, 1)) ∧ (decode cX11_tellReach 74 = .ok (.ior, 1)) ∧ (decode cX11_tellReach 75 = .ok (.iastore, 1)) ∧ (decode cX11_tellReach 76 = .ok (.iinc 3 1, 3)) ∧ (decode cX11_tellReach 79 = .ok (.goto (-52), 3)) ∧ (decode cX11_tellReach 82 = .ok (.iinc 2 (-1), 3)) ∧ (decode cX11_tellReach 85 = .ok (.goto (-64), 3)) := by decide +kernel
theorem dX11_tellReach_72 : decode cX11_tellReach 72 = .ok (.iload_n 2, 1) := eX11_tellReach_72q.1
theorem dX11_tellReach_73 : decode cX11_tellReach 73 = .ok (.ishl, 1) := eX11_tellReach_72q.2.1
theorem dX11_tellReach_74 : decode cX11_tellReach 74 = .ok (.ior, 1) := eX11_tellReach_72q.2.2.1
theorem dX11_tellReach_75 : decode cX11_tellReach 75 = .ok (.iastore, 1) := eX11_tellReach_72q.2.2.2.1
theorem dX11_tellReach_76 : decode cX11_tellReach 76 = .ok (.iinc 3 1, 3) := eX11_tellReach_72q.2.2.2.2.1
theorem dX11_tellReach_79 : decode cX11_tellReach 79 = .ok (.goto (-52), 3) := eX11_tellReach_72q.2.2.2.2.2.1
theorem dX11_tellReach_82 : decode cX11_tellReach 82 = .ok (.iinc 2 (-1), 3) := eX11_tellReach_72q.2.2.2.2.2.2.1
theorem dX11_tellReach_85 : decode cX11_tellReach 85 = .ok (.goto (-64), 3) := eX11_tellReach_72q.2.2.2.2.2.2.2
theorem eX11_tellReach_88q : (decode cX11_tellReach 88 = .ok (.iinc 1 1, 3)) ∧ (decode cX11_tellReach 91 = .ok (.goto (-89), 3)) ∧ (decode cX11_tellReach 94 = .ok (.return_, 1)) := by decide +kernel
theorem dX11_tellReach_88 : decode cX11_tellReach 88 = .ok (.iinc 1 1, 3) := eX11_tellReach_88q.1
theorem dX11_tellReach_91 : decode cX11_tellReach 91 = .ok (.goto (-89), 3) := eX11_tellReach_88q.2.1
theorem dX11_tellReach_94 : decode cX11_tellReach 94 = .ok (.return_, 1) := eX11_tellReach_88q.2.2
set_option maxRecDepth 20000 in
theorem ggX11_walk_X11_goesBy : GoodIn wsX11_walk wsX11_goesBy := by
  have h := goodIn_app (goodIn_r (big := wsX11_walk) (.code yX11_goesBy cX11_goesBy 9 (some .int) :: (wsX11_goesBy_r1 ++ wsX11_goesBy_r2) : List Cond) [10, 1, 11, 12, 13, 14, 15, 16, 17, 18, 19, 20, 9, 21, 22, 23, 24, 25, 26, 27, 28, 29, 30, 31, 32, 4, 33, 34, 35, 36] rfl (by decide +kernel)) (goodIn_few (big := wsX11_walk) (fun _ h9 => List.mem_cons_of_mem _ (List.mem_append_right _ h9)) gb_0)
  exact h
set_option maxRecDepth 20000 in
theorem gX11_walk_X11_goesBy : GoodIn wsX11_walk (wsV RX11 289 RX11 yX11_goesBy wsX11_goesBy) := goodIn_app (goodIn_r _ [6, 7, 8, 9] rfl (by decide +kernel)) ggX11_walk_X11_goesBy
theorem eX11_walk_0q : (decode cX11_walk 0 = .ok (.iconst 0, 1)) ∧ (decode cX11_walk 1 = .ok (.istore 4, 2)) ∧ (decode cX11_walk 3 = .ok (.iconst 0, 1)) ∧ (decode cX11_walk 4 = .ok (.istore 5, 2)) ∧ (decode cX11_walk 6 = .ok (.iload_n 3, 1)) ∧ (decode cX11_walk 7 = .ok (.istore 6, 2)) ∧ (decode cX11_walk 9 = .ok (.iconst 0, 1)) ∧ (decode cX11_walk 10 = .ok (.istore 7, 2)) := by decide +kernel
theorem dX11_walk_0 : decode cX11_walk 0 = .ok (.iconst 0, 1) := eX11_walk_0q.1
theorem dX11_walk_1 : decode cX11_walk 1 = .ok (.istore 4, 2) := eX11_walk_0q.2.1
theorem dX11_walk_3 : decode cX11_walk 3 = .ok (.iconst 0, 1) := eX11_walk_0q.2.2.1
theorem dX11_walk_4 : decode cX11_walk 4 = .ok (.istore 5, 2) := eX11_walk_0q.2.2.2.1
theorem dX11_walk_6 : decode cX11_walk 6 = .ok (.iload_n 3, 1) := eX11_walk_0q.2.2.2.2.1
theorem dX11_walk_7 : decode cX11_walk 7 = .ok (.istore 6, 2) := eX11_walk_0q.2.2.2.2.2.1
theorem dX11_walk_9 : decode cX11_walk 9 = .ok (.iconst 0, 1) := eX11_walk_0q.2.2.2.2.2.2.1
theorem dX11_walk_10 : decode cX11_walk 10 = .ok (.istore 7, 2) := eX11_walk_0q.2.2.2.2.2.2.2
theorem eX11_walk_12q : (decode cX11_walk 12 = .ok (.iload 7, 2)) ∧ (decode cX11_walk 14 = .ok (.ifCond .ne 112, 3)) ∧ (decode cX11_walk 17 = .ok (.iconst 0, 1)) ∧ (decode cX11_walk 18 = .ok (.istore 8, 2)) ∧ (decode cX11_walk 20 = .ok (.iload 4, 2)) ∧ (decode cX11_walk 22 = .ok (.aload_n 0, 1)) ∧ (decode cX11_walk 23 = .ok (.getfield 58, 3)) ∧ (decode cX11_walk 26 = .ok (.iload_n 2, 1)) := by decide +kernel
theorem dX11_walk_12 : decode cX11_walk 12 = .ok (.iload 7, 2) := eX11_walk_12q.1
theorem dX11_walk_14 : decode cX11_walk 14 = .ok (.ifCond .ne 112, 3) := eX11_walk_12q.2.1
theorem dX11_walk_17 : decode cX11_walk 17 = .ok (.iconst 0, 1) := eX11_walk_12q.2.2.1
theorem dX11_walk_18 : decode cX11_walk 18 = .ok (.istore 8, 2) := eX11_walk_12q.2.2.2.1
theorem dX11_walk_20 : decode cX11_walk 20 = .ok (.iload 4, 2) := eX11_walk_12q.2.2.2.2.1
theorem dX11_walk_22 : decode cX11_walk 22 = .ok (.aload_n 0, 1) := eX11_walk_12q.2.2.2.2.2.1
theorem dX11_walk_23 : decode cX11_walk 23 = .ok (.getfield 58, 3) := eX11_walk_12q.2.2.2.2.2.2.1
theorem dX11_walk_26 : decode cX11_walk 26 = .ok (.iload_n 2, 1) := eX11_walk_12q.2.2.2.2.2.2.2
theorem eX11_walk_27q : (decode cX11_walk 27 = .ok (.iaload, 1)) ∧ (decode cX11_walk 28 = .ok (.if_icmp .ne 9, 3)) ∧ (decode cX11_walk 31 = .ok (.iconst 1, 1)) ∧ (decode cX11_walk 32 = .ok (.istore 7, 2)) ∧ (decode cX11_walk 34 = .ok (.goto 40, 3)) ∧ (decode cX11_walk 37 = .ok (.iinc 6 (-1), 3)) ∧ (decode cX11_walk 40 = .ok (.iload 6, 2)) ∧ (decode cX11_walk 42 = .ok (.ifCond .ne 7, 3)) := by decide +kernel
theorem dX11_walk_27 : decode cX11_walk 27 = .ok (.iaload, 1) := eX11_walk_27q.1
theorem dX11_walk_28 : decode cX11_walk 28 = .ok (.if_icmp .ne 9, 3) := eX11_walk_27q.2.1
theorem dX11_walk_31 : decode cX11_walk 31 = .ok (.iconst 1, 1) := eX11_walk_27q.2.2.1
theorem dX11_walk_32 : decode cX11_walk 32 = .ok (.istore 7, 2) := eX11_walk_27q.2.2.2.1
theorem dX11_walk_34 : decode cX11_walk 34 = .ok (.goto 40, 3) := eX11_walk_27q.2.2.2.2.1
theorem dX11_walk_37 : decode cX11_walk 37 = .ok (.iinc 6 (-1), 3) := eX11_walk_27q.2.2.2.2.2.1
theorem dX11_walk_40 : decode cX11_walk 40 = .ok (.iload 6, 2) := eX11_walk_27q.2.2.2.2.2.2.1
theorem dX11_walk_42 : decode cX11_walk 42 = .ok (.ifCond .ne 7, 3) := eX11_walk_27q.2.2.2.2.2.2.2
theorem eX11_walk_45q : (decode cX11_walk 45 = .ok (.iconst 1, 1)) ∧ (decode cX11_walk 46 = .ok (.goto 4, 3)) ∧ (decode cX11_walk 49 = .ok (.iconst 0, 1)) ∧ (decode cX11_walk 50 = .ok (.istore 8, 2)) ∧ (decode cX11_walk 52 = .ok (.iload 8, 2)) ∧ (decode cX11_walk 54 = .ok (.ifCond .eq 17, 3)) ∧ (decode cX11_walk 57 = .ok (.aload_n 0, 1)) ∧ (decode cX11_walk 58 = .ok (.getfield 50, 3)) := by decide +kernel
theorem dX11_walk_45 : decode cX11_walk 45 = .ok (.iconst 1, 1) := eX11_walk_45q.1
theorem dX11_walk_46 : decode cX11_walk 46 = .ok (.goto 4, 3) := eX11_walk_45q.2.1
theorem dX11_walk_49 : decode cX11_walk 49 = .ok (.iconst 0, 1) := eX11_walk_45q.2.2.1
theorem dX11_walk_50 : decode cX11_walk 50 = .ok (.istore 8, 2) := eX11_walk_45q.2.2.2.1
theorem dX11_walk_52 : decode cX11_walk 52 = .ok (.iload 8, 2) := eX11_walk_45q.2.2.2.2.1
theorem dX11_walk_54 : decode cX11_walk 54 = .ok (.ifCond .eq 17, 3) := eX11_walk_45q.2.2.2.2.2.1
theorem dX11_walk_57 : decode cX11_walk 57 = .ok (.aload_n 0, 1) := eX11_walk_45q.2.2.2.2.2.2.1
theorem dX11_walk_58 : decode cX11_walk 58 = .ok (.getfield 50, 3) := eX11_walk_45q.2.2.2.2.2.2.2
theorem eX11_walk_61q : (decode cX11_walk 61 = .ok (.iload 4, 2)) ∧ (decode cX11_walk 63 = .ok (.iaload, 1)) ∧ (decode cX11_walk 64 = .ok (.ifCond .ne 7, 3)) ∧ (decode cX11_walk 67 = .ok (.iconst 1, 1)) ∧ (decode cX11_walk 68 = .ok (.goto 4, 3)) ∧ (decode cX11_walk 71 = .ok (.iconst 0, 1)) ∧ (decode cX11_walk 72 = .ok (.istore 7, 2)) ∧ (decode cX11_walk 74 = .ok (.iload 7, 2)) := by decide +kernel
theorem dX11_walk_61 : decode cX11_walk 61 = .ok (.iload 4, 2) := eX11_walk_61q.1
theorem dX11_walk_63 : decode cX11_walk 63 = .ok (.iaload, 1) := eX11_walk_61q.2.1
theorem dX11_walk_64 : decode cX11_walk 64 = .ok (.ifCond .ne 7, 3) := eX11_walk_61q.2.2.1
theorem dX11_walk_67 : decode cX11_walk 67 = .ok (.iconst 1, 1) := eX11_walk_61q.2.2.2.1
theorem dX11_walk_68 : decode cX11_walk 68 = .ok (.goto 4, 3) := eX11_walk_61q.2.2.2.2.1
theorem dX11_walk_71 : decode cX11_walk 71 = .ok (.iconst 0, 1) := eX11_walk_61q.2.2.2.2.2.1
theorem dX11_walk_72 : decode cX11_walk 72 = .ok (.istore 7, 2) := eX11_walk_61q.2.2.2.2.2.2.1
theorem dX11_walk_74 : decode cX11_walk 74 = .ok (.iload 7, 2) := eX11_walk_61q.2.2.2.2.2.2.2
theorem eX11_walk_76q : (decode cX11_walk 76 = .ok (.ifCond .eq 6, 3)) ∧ (decode cX11_walk 79 = .ok (.goto (-67), 3)) ∧ (decode cX11_walk 82 = .ok (.aload_n 0, 1)) ∧ (decode cX11_walk 83 = .ok (.iload 4, 2)) ∧ (decode cX11_walk 85 = .ok (.iload_n 1, 1)) ∧ (decode cX11_walk 86 = .ok (.iload_n 2, 1)) ∧ (decode cX11_walk 87 = .ok (.invokevirtual 289, 3)) ∧ (decode cX11_walk 90 = .ok (.istore 9, 2)) := by decide +kernel
theorem dX11_walk_76 : decode cX11_walk 76 = .ok (.ifCond .eq 6, 3) := eX11_walk_76q.1
theorem dX11_walk_79 : decode cX11_walk 79 = .ok (.goto (-67), 3) := eX11_walk_76q.2.1
theorem dX11_walk_82 : decode cX11_walk 82 = .ok (.aload_n 0, 1) := eX11_walk_76q.2.2.1
theorem dX11_walk_83 : decode cX11_walk 83 = .ok (.iload 4, 2) := eX11_walk_76q.2.2.2.1
theorem dX11_walk_85 : decode cX11_walk 85 = .ok (.iload_n 1, 1) := eX11_walk_76q.2.2.2.2.1
theorem dX11_walk_86 : decode cX11_walk 86 = .ok (.iload_n 2, 1) := eX11_walk_76q.2.2.2.2.2.1
theorem dX11_walk_87 : decode cX11_walk 87 = .ok (.invokevirtual 289, 3) := eX11_walk_76q.2.2.2.2.2.2.1
theorem dX11_walk_90 : decode cX11_walk 90 = .ok (.istore 9, 2) := eX11_walk_76q.2.2.2.2.2.2.2
theorem eX11_walk_92q : (decode cX11_walk 92 = .ok (.iload 9, 2)) ∧ (decode cX11_walk 94 = .ok (.iconst (-1), 1)) ∧ (decode cX11_walk 95 = .ok (.if_icmp .ne 9, 3)) ∧ (decode cX11_walk 98 = .ok (.aload_n 0, 1)) ∧ (decode cX11_walk 99 = .ok (.iconst (-1), 1)) ∧ (decode cX11_walk 100 = .ok (.putfield 292, 3)) ∧ (decode cX11_walk 103 = .ok (.return_, 1)) ∧ (decode cX11_walk 104 = .ok (.aload_n 0, 1)) := by decide +kernel
theorem dX11_walk_92 : decode cX11_walk 92 = .ok (.iload 9, 2) := eX11_walk_92q.1
theorem dX11_walk_94 : decode cX11_walk 94 = .ok (.iconst (-1), 1) := eX11_walk_92q.2.1
theorem dX11_walk_95 : decode cX11_walk 95 = .ok (.if_icmp .ne 9, 3) := eX11_walk_92q.2.2.1
theorem dX11_walk_98 : decode cX11_walk 98 = .ok (.aload_n 0, 1) := eX11_walk_92q.2.2.2.1
theorem dX11_walk_99 : decode cX11_walk 99 = .ok (.iconst (-1), 1) := eX11_walk_92q.2.2.2.2.1
theorem dX11_walk_100 : decode cX11_walk 100 = .ok (.putfield 292, 3) := eX11_walk_92q.2.2.2.2.2.1
theorem dX11_walk_103 : decode cX11_walk 103 = .ok (.return_, 1) := eX11_walk_92q.2.2.2.2.2.2.1
theorem dX11_walk_104 : decode cX11_walk 104 = .ok (.aload_n 0, 1) := eX11_walk_92q.2.2.2.2.2.2.2
theorem eX11_walk_105q : (decode cX11_walk 105 = .ok (.getfield 56, 3)) ∧ (decode cX11_walk 108 = .ok (.iload 9, 2)) ∧ (decode cX11_walk 110 = .ok (.iaload, 1)) ∧ (decode cX11_walk 111 = .ok (.istore 4, 2)) ∧ (decode cX11_walk 113 = .ok (.iload 9, 2)) ∧ (decode cX11_walk 115 = .ok (.iconst 1, 1)) ∧ (decode cX11_walk 116 = .ok (.iadd, 1)) ∧ (decode cX11_walk 117 = .ok (.istore 5, 2)) := by decide +kernel
theorem dX11_walk_105 : decode cX11_walk 105 = .ok (.getfield 56, 3) := eX11_walk_105q.1
theorem dX11_walk_108 : decode cX11_walk 108 = .ok (.iload 9, 2) := eX11_walk_105q.2.1
theorem dX11_walk_110 : decode cX11_walk 110 = .ok (.iaload, 1) := eX11_walk_105q.2.2.1
theorem dX11_walk_111 : decode cX11_walk 111 = .ok (.istore 4, 2) := eX11_walk_105q.2.2.2.1
theorem dX11_walk_113 : decode cX11_walk 113 = .ok (.iload 9, 2) := eX11_walk_105q.2.2.2.2.1
theorem dX11_walk_115 : decode cX11_walk 115 = .ok (.iconst 1, 1) := eX11_walk_105q.2.2.2.2.2.1
theorem dX11_walk_116 : decode cX11_walk 116 = .ok (.iadd, 1) := eX11_walk_105q.2.2.2.2.2.2.1
theorem dX11_walk_117 : decode cX11_walk 117 = .ok (.istore 5, 2) := eX11_walk_105q.2.2.2.2.2.2.2
theorem eX11_walk_119q : (decode cX11_walk 119 = .ok (.iload 8, 2)) ∧ (decode cX11_walk 121 = .ok (.istore 7, 2)) ∧ (decode cX11_walk 123 = .ok (.goto (-111), 3)) ∧ (decode cX11_walk 126 = .ok (.aload_n 0, 1)) ∧ (decode cX11_walk 127 = .ok (.iload 4, 2)) ∧ (decode cX11_walk 129 = .ok (.putfield 292, 3)) ∧ (decode cX11_walk 132 = .ok (.aload_n 0, 1)) ∧ (decode cX11_walk 133 = .ok (.iload 5, 2)) := by decide +kernel
theorem dX11_walk_119 : decode cX11_walk 119 = .ok (.iload 8, 2) := eX11_walk_119q.1
theorem dX11_walk_121 : decode cX11_walk 121 = .ok (.istore 7, 2) := eX11_walk_119q.2.1
theorem dX11_walk_123 : decode cX11_walk 123 = .ok (.goto (-111), 3) := eX11_walk_119q.2.2.1
theorem dX11_walk_126 : decode cX11_walk 126 = .ok (.aload_n 0, 1) := eX11_walk_119q.2.2.2.1
theorem dX11_walk_127 : decode cX11_walk 127 = .ok (.iload 4, 2) := eX11_walk_119q.2.2.2.2.1
theorem dX11_walk_129 : decode cX11_walk 129 = .ok (.putfield 292, 3) := eX11_walk_119q.2.2.2.2.2.1
theorem dX11_walk_132 : decode cX11_walk 132 = .ok (.aload_n 0, 1) := eX11_walk_119q.2.2.2.2.2.2.1
theorem dX11_walk_133 : decode cX11_walk 133 = .ok (.iload 5, 2) := eX11_walk_119q.2.2.2.2.2.2.2
theorem dX11_walk_135 : decode cX11_walk 135 = .ok (.putfield 295, 3) := by decide +kernel
theorem dX11_walk_138 : decode cX11_walk 138 = .ok (.return_, 1) := by decide +kernel
theorem eX11_answers_0q : (decode cX11_answers 0 = .ok (.aload_n 0, 1)) ∧ (decode cX11_answers 1 = .ok (.getfield 292, 3)) ∧ (decode cX11_answers 4 = .ok (.iconst (-1), 1)) ∧ (decode cX11_answers 5 = .ok (.if_icmp .eq 32, 3)) ∧ (decode cX11_answers 8 = .ok (.aload_n 0, 1)) ∧ (decode cX11_answers 9 = .ok (.getfield 47, 3)) ∧ (decode cX11_answers 12 = .ok (.aload_n 0, 1)) ∧ (decode cX11_answers 13 = .ok (.getfield 292, 3)) := by decide +kernel
theorem dX11_answers_0 : decode cX11_answers 0 = .ok (.aload_n 0, 1) := eX11_answers_0q.1
theorem dX11_answers_1 : decode cX11_answers 1 = .ok (.getfield 292, 3) := eX11_answers_0q.2.1
theorem dX11_answers_4 : decode cX11_answers 4 = .ok (.iconst (-1), 1) := eX11_answers_0q.2.2.1
theorem dX11_answers_5 : decode cX11_answers 5 = .ok (.if_icmp .eq 32, 3) := eX11_answers_0q.2.2.2.1
theorem dX11_answers_8 : decode cX11_answers 8 = .ok (.aload_n 0, 1) := eX11_answers_0q.2.2.2.2.1
theorem dX11_answers_9 : decode cX11_answers 9 = .ok (.getfield 47, 3) := eX11_answers_0q.2.2.2.2.2.1
theorem dX11_answers_12 : decode cX11_answers 12 = .ok (.aload_n 0, 1) := eX11_answers_0q.2.2.2.2.2.2.1
theorem dX11_answers_13 : decode cX11_answers 13 = .ok (.getfield 292, 3) := eX11_answers_0q.2.2.2.2.2.2.2
theorem eX11_answers_16q : (decode cX11_answers 16 = .ok (.iaload, 1)) ∧ (decode cX11_answers 17 = .ok (.ifCond .eq 16, 3)) ∧ (decode cX11_answers 20 = .ok (.aload_n 0, 1)) ∧ (decode cX11_answers 21 = .ok (.getfield 292, 3)) ∧ (decode cX11_answers 24 = .ok (.aload_n 0, 1)) ∧ (decode cX11_answers 25 = .ok (.getfield 58, 3)) ∧ (decode cX11_answers 28 = .ok (.iload_n 1, 1)) ∧ (decode cX11_answers 29 = .ok (.iaload, 1)) := by decide +kernel
theorem dX11_answers_16 : decode cX11_answers 16 = .ok (.iaload, 1) := eX11_answers_16q.1
theorem dX11_answers_17 : decode cX11_answers 17 = .ok (.ifCond .eq 16, 3) := eX11_answers_16q.2.1
theorem dX11_answers_20 : decode cX11_answers 20 = .ok (.aload_n 0, 1) := eX11_answers_16q.2.2.1
theorem dX11_answers_21 : decode cX11_answers 21 = .ok (.getfield 292, 3) := eX11_answers_16q.2.2.2.1
theorem dX11_answers_24 : decode cX11_answers 24 = .ok (.aload_n 0, 1) := eX11_answers_16q.2.2.2.2.1
theorem dX11_answers_25 : decode cX11_answers 25 = .ok (.getfield 58, 3) := eX11_answers_16q.2.2.2.2.2.1
theorem dX11_answers_28 : decode cX11_answers 28 = .ok (.iload_n 1, 1) := eX11_answers_16q.2.2.2.2.2.2.1
theorem dX11_answers_29 : decode cX11_answers 29 = .ok (.iaload, 1) := eX11_answers_16q.2.2.2.2.2.2.2
theorem eX11_answers_30q : (decode cX11_answers 30 = .ok (.if_icmp .ne 7, 3)) ∧ (decode cX11_answers 33 = .ok (.iconst 1, 1)) ∧ (decode cX11_answers 34 = .ok (.goto 4, 3)) ∧ (decode cX11_answers 37 = .ok (.iconst 0, 1)) ∧ (decode cX11_answers 38 = .ok (.ireturn, 1)) := by decide +kernel
theorem dX11_answers_30 : decode cX11_answers 30 = .ok (.if_icmp .ne 7, 3) := eX11_answers_30q.1
theorem dX11_answers_33 : decode cX11_answers 33 = .ok (.iconst 1, 1) := eX11_answers_30q.2.1
theorem dX11_answers_34 : decode cX11_answers 34 = .ok (.goto 4, 3) := eX11_answers_30q.2.2.1
theorem dX11_answers_37 : decode cX11_answers 37 = .ok (.iconst 0, 1) := eX11_answers_30q.2.2.2.1
theorem dX11_answers_38 : decode cX11_answers 38 = .ok (.ireturn, 1) := eX11_answers_30q.2.2.2.2
theorem eX11_missingOf_0q : (decode cX11_missingOf 0 = .ok (.iconst 0, 1)) ∧ (decode cX11_missingOf 1 = .ok (.istore_n 3, 1)) ∧ (decode cX11_missingOf 2 = .ok (.iload_n 3, 1)) ∧ (decode cX11_missingOf 3 = .ok (.iload_n 2, 1)) ∧ (decode cX11_missingOf 4 = .ok (.if_icmp .gt 26, 3)) ∧ (decode cX11_missingOf 7 = .ok (.aload_n 0, 1)) ∧ (decode cX11_missingOf 8 = .ok (.getfield 79, 3)) ∧ (decode cX11_missingOf 11 = .ok (.iload_n 3, 1)) := by decide +kernel
theorem dX11_missingOf_0 : decode cX11_missingOf 0 = .ok (.iconst 0, 1) := eX11_missingOf_0q.1
theorem dX11_missingOf_1 : decode cX11_missingOf 1 = .ok (.istore_n 3, 1) := eX11_missingOf_0q.2.1
theorem dX11_missingOf_2 : decode cX11_missingOf 2 = .ok (.iload_n 3, 1) := eX11_missingOf_0q.2.2.1
theorem dX11_missingOf_3 : decode cX11_missingOf 3 = .ok (.iload_n 2, 1) := eX11_missingOf_0q.2.2.2.1
theorem dX11_missingOf_4 : decode cX11_missingOf 4 = .ok (.if_icmp .gt 26, 3) := eX11_missingOf_0q.2.2.2.2.1
theorem dX11_missingOf_7 : decode cX11_missingOf 7 = .ok (.aload_n 0, 1) := eX11_missingOf_0q.2.2.2.2.2.1
theorem dX11_missingOf_8 : decode cX11_missingOf 8 = .ok (.getfield 79, 3) := eX11_missingOf_0q.2.2.2.2.2.2.1
theorem dX11_missingOf_11 : decode cX11_missingOf 11 = .ok (.iload_n 3, 1) := eX11_missingOf_0q.2.2.2.2.2.2.2
theorem eX11_missingOf_12q : (decode cX11_missingOf 12 = .ok (.iload_n 3, 1)) ∧ (decode cX11_missingOf 13 = .ok (.ifCond .ne 9, 3)) ∧ (decode cX11_missingOf 16 = .ok (.ldc2_w 320, 3)) ∧ (decode cX11_missingOf 19 = .ok (.goto 4, 3)) ∧ (decode cX11_missingOf 22 = .ok (.lconst 0, 1)) ∧ (decode cX11_missingOf 23 = .ok (.lastore, 1)) ∧ (decode cX11_missingOf 24 = .ok (.iinc 3 1, 3)) ∧ (decode cX11_missingOf 27 = .ok (.goto (-25), 3)) := by decide +kernel
theorem dX11_missingOf_12 : decode cX11_missingOf 12 = .ok (.iload_n 3, 1) := eX11_missingOf_12q.1
theorem dX11_missingOf_13 : decode cX11_missingOf 13 = .ok (.ifCond .ne 9, 3) := eX11_missingOf_12q.2.1
theorem dX11_missingOf_16 : decode cX11_missingOf 16 = .ok (.ldc2_w 320, 3) := eX11_missingOf_12q.2.2.1
theorem dX11_missingOf_19 : decode cX11_missingOf 19 = .ok (.goto 4, 3) := eX11_missingOf_12q.2.2.2.1
theorem dX11_missingOf_22 : decode cX11_missingOf 22 = .ok (.lconst 0, 1) := eX11_missingOf_12q.2.2.2.2.1
theorem dX11_missingOf_23 : decode cX11_missingOf 23 = .ok (.lastore, 1) := eX11_missingOf_12q.2.2.2.2.2.1
theorem dX11_missingOf_24 : decode cX11_missingOf 24 = .ok (.iinc 3 1, 3) := eX11_missingOf_12q.2.2.2.2.2.2.1
theorem dX11_missingOf_27 : decode cX11_missingOf 27 = .ok (.goto (-25), 3) := eX11_missingOf_12q.2.2.2.2.2.2.2
theorem eX11_missingOf_30q : (decode cX11_missingOf 30 = .ok (.iconst 0, 1)) ∧ (decode cX11_missingOf 31 = .ok (.istore_n 3, 1)) ∧ (decode cX11_missingOf 32 = .ok (.iload_n 3, 1)) ∧ (decode cX11_missingOf 33 = .ok (.iload_n 1, 1)) ∧ (decode cX11_missingOf 34 = .ok (.if_icmp .ge 72, 3)) ∧ (decode cX11_missingOf 37 = .ok (.iload_n 2, 1)) ∧ (decode cX11_missingOf 38 = .ok (.iconst 1, 1)) ∧ (decode cX11_missingOf 39 = .ok (.isub, 1)) := by decide +kernel
theorem dX11_missingOf_30 : decode cX11_missingOf 30 = .ok (.iconst 0, 1) := eX11_missingOf_30q.1
theorem dX11_missingOf_31 : decode cX11_missingOf 31 = .ok (.istore_n 3, 1) := eX11_missingOf_30q.2.1
theorem dX11_missingOf_32 : decode cX11_missingOf 32 = .ok (.iload_n 3, 1) := eX11_missingOf_30q.2.2.1
theorem dX11_missingOf_33 : decode cX11_missingOf 33 = .ok (.iload_n 1, 1) := eX11_missingOf_30q.2.2.2.1
theorem dX11_missingOf_34 : decode cX11_missingOf 34 = .ok (.if_icmp .ge 72, 3) := eX11_missingOf_30q.2.2.2.2.1
theorem dX11_missingOf_37 : decode cX11_missingOf 37 = .ok (.iload_n 2, 1) := eX11_missingOf_30q.2.2.2.2.2.1
theorem dX11_missingOf_38 : decode cX11_missingOf 38 = .ok (.iconst 1, 1) := eX11_missingOf_30q.2.2.2.2.2.2.1
theorem dX11_missingOf_39 : decode cX11_missingOf 39 = .ok (.isub, 1) := eX11_missingOf_30q.2.2.2.2.2.2.2
theorem eX11_missingOf_40q : (decode cX11_missingOf 40 = .ok (.istore 4, 2)) ∧ (decode cX11_missingOf 42 = .ok (.iload 4, 2)) ∧ (decode cX11_missingOf 44 = .ok (.ifCond .lt 56, 3)) ∧ (decode cX11_missingOf 47 = .ok (.aload_n 0, 1)) ∧ (decode cX11_missingOf 48 = .ok (.getfield 79, 3)) ∧ (decode cX11_missingOf 51 = .ok (.iload 4, 2)) ∧ (decode cX11_missingOf 53 = .ok (.laload, 1)) ∧ (decode cX11_missingOf 54 = .ok (.iload 4, 2)) := by decide +kernel
theorem dX11_missingOf_40 : decode cX11_missingOf 40 = .ok (.istore 4, 2) := eX11_missingOf_40q.1
theorem dX11_missingOf_42 : decode cX11_missingOf 42 = .ok (.iload 4, 2) := eX11_missingOf_40q.2.1
theorem dX11_missingOf_44 : decode cX11_missingOf 44 = .ok (.ifCond .lt 56, 3) := eX11_missingOf_40q.2.2.1
theorem dX11_missingOf_47 : decode cX11_missingOf 47 = .ok (.aload_n 0, 1) := eX11_missingOf_40q.2.2.2.1
theorem dX11_missingOf_48 : decode cX11_missingOf 48 = .ok (.getfield 79, 3) := eX11_missingOf_40q.2.2.2.2.1
theorem dX11_missingOf_51 : decode cX11_missingOf 51 = .ok (.iload 4, 2) := eX11_missingOf_40q.2.2.2.2.2.1
theorem dX11_missingOf_53 : decode cX11_missingOf 53 = .ok (.laload, 1) := eX11_missingOf_40q.2.2.2.2.2.2.1
theorem dX11_missingOf_54 : decode cX11_missingOf 54 = .ok (.iload 4, 2) := eX11_missingOf_40q.2.2.2.2.2.2.2
theorem eX11_missingOf_56q : (decode cX11_missingOf 56 = .ok (.i2l, 1)) ∧ (decode cX11_missingOf 57 = .ok (.lmul, 1)) ∧ (decode cX11_missingOf 58 = .ok (.iload_n 2, 1)) ∧ (decode cX11_missingOf 59 = .ok (.i2l, 1)) ∧ (decode cX11_missingOf 60 = .ok (.ldiv, 1)) ∧ (decode cX11_missingOf 61 = .ok (.lstore 5, 2)) ∧ (decode cX11_missingOf 63 = .ok (.aload_n 0, 1)) ∧ (decode cX11_missingOf 64 = .ok (.getfield 79, 3)) := by decide +kernel
theorem dX11_missingOf_56 : decode cX11_missingOf 56 = .ok (.i2l, 1) := eX11_missingOf_56q.1
theorem dX11_missingOf_57 : decode cX11_missingOf 57 = .ok (.lmul, 1) := eX11_missingOf_56q.2.1
theorem dX11_missingOf_58 : decode cX11_missingOf 58 = .ok (.iload_n 2, 1) := eX11_missingOf_56q.2.2.1
theorem dX11_missingOf_59 : decode cX11_missingOf 59 = .ok (.i2l, 1) := eX11_missingOf_56q.2.2.2.1
theorem dX11_missingOf_60 : decode cX11_missingOf 60 = .ok (.ldiv, 1) := eX11_missingOf_56q.2.2.2.2.1
theorem dX11_missingOf_61 : decode cX11_missingOf 61 = .ok (.lstore 5, 2) := eX11_missingOf_56q.2.2.2.2.2.1
theorem dX11_missingOf_63 : decode cX11_missingOf 63 = .ok (.aload_n 0, 1) := eX11_missingOf_56q.2.2.2.2.2.2.1
theorem dX11_missingOf_64 : decode cX11_missingOf 64 = .ok (.getfield 79, 3) := eX11_missingOf_56q.2.2.2.2.2.2.2
theorem eX11_missingOf_67q : (decode cX11_missingOf 67 = .ok (.iload 4, 2)) ∧ (decode cX11_missingOf 69 = .ok (.iconst 1, 1)) ∧ (decode cX11_missingOf 70 = .ok (.iadd, 1)) ∧ (decode cX11_missingOf 71 = .ok (.dup2, 1)) ∧ (decode cX11_missingOf 72 = .ok (.laload, 1)) ∧ (decode cX11_missingOf 73 = .ok (.aload_n 0, 1)) ∧ (decode cX11_missingOf 74 = .ok (.getfield 79, 3)) ∧ (decode cX11_missingOf 77 = .ok (.iload 4, 2)) := by decide +kernel
theorem dX11_missingOf_67 : decode cX11_missingOf 67 = .ok (.iload 4, 2) := eX11_missingOf_67q.1
theorem dX11_missingOf_69 : decode cX11_missingOf 69 = .ok (.iconst 1, 1) := eX11_missingOf_67q.2.1
theorem dX11_missingOf_70 : decode cX11_missingOf 70 = .ok (.iadd, 1) := eX11_missingOf_67q.2.2.1
theorem dX11_missingOf_71 : decode cX11_missingOf 71 = .ok (.dup2, 1) := eX11_missingOf_67q.2.2.2.1
theorem dX11_missingOf_72 : decode cX11_missingOf 72 = .ok (.laload, 1) := eX11_missingOf_67q.2.2.2.2.1
theorem dX11_missingOf_73 : decode cX11_missingOf 73 = .ok (.aload_n 0, 1) := eX11_missingOf_67q.2.2.2.2.2.1
theorem dX11_missingOf_74 : decode cX11_missingOf 74 = .ok (.getfield 79, 3) := eX11_missingOf_67q.2.2.2.2.2.2.1
theorem dX11_missingOf_77 : decode cX11_missingOf 77 = .ok (.iload 4, 2) := eX11_missingOf_67q.2.2.2.2.2.2.2
theorem eX11_missingOf_79q : (decode cX11_missingOf 79 = .ok (.laload, 1)) ∧ (decode cX11_missingOf 80 = .ok (.lload 5, 2)) ∧ (decode cX11_missingOf 82 = .ok (.lsub, 1)) ∧ (decode cX11_missingOf 83 = .ok (.ladd, 1)) ∧ (decode cX11_missingOf 84 = .ok (.lastore, 1)) ∧ (decode cX11_missingOf 85 = .ok (.aload_n 0, 1)) ∧ (decode cX11_missingOf 86 = .ok (.getfield 79, 3)) ∧ (decode cX11_missingOf 89 = .ok (.iload 4, 2)) := by decide +kernel
theorem dX11_missingOf_79 : decode cX11_missingOf 79 = .ok (.laload, 1) := eX11_missingOf_79q.1
theorem dX11_missingOf_80 : decode cX11_missingOf 80 = .ok (.lload 5, 2) := eX11_missingOf_79q.2.1
theorem dX11_missingOf_82 : decode cX11_missingOf 82 = .ok (.lsub, 1) := eX11_missingOf_79q.2.2.1
theorem dX11_missingOf_83 : decode cX11_missingOf 83 = .ok (.ladd, 1) := eX11_missingOf_79q.2.2.2.1
theorem dX11_missingOf_84 : decode cX11_missingOf 84 = .ok (.lastore, 1) := eX11_missingOf_79q.2.2.2.2.1
theorem dX11_missingOf_85 : decode cX11_missingOf 85 = .ok (.aload_n 0, 1) := eX11_missingOf_79q.2.2.2.2.2.1
theorem dX11_missingOf_86 : decode cX11_missingOf 86 = .ok (.getfield 79, 3) := eX11_missingOf_79q.2.2.2.2.2.2.1
theorem dX11_missingOf_89 : decode cX11_missingOf 89 = .ok (.iload 4, 2) := eX11_missingOf_79q.2.2.2.2.2.2.2
theorem eX11_missingOf_91q : (decode cX11_missingOf 91 = .ok (.lload 5, 2)) ∧ (decode cX11_missingOf 93 = .ok (.lastore, 1)) ∧ (decode cX11_missingOf 94 = .ok (.iinc 4 (-1), 3)) ∧ (decode cX11_missingOf 97 = .ok (.goto (-55), 3)) ∧ (decode cX11_missingOf 100 = .ok (.iinc 3 1, 3)) ∧ (decode cX11_missingOf 103 = .ok (.goto (-71), 3)) ∧ (decode cX11_missingOf 106 = .ok (.ldc2_w 320, 3)) ∧ (decode cX11_missingOf 109 = .ok (.aload_n 0, 1)) := by decide +kernel
theorem dX11_missingOf_91 : decode cX11_missingOf 91 = .ok (.lload 5, 2) := eX11_missingOf_91q.1
theorem dX11_missingOf_93 : decode cX11_missingOf 93 = .ok (.lastore, 1) := eX11_missingOf_91q.2.1
theorem dX11_missingOf_94 : decode cX11_missingOf 94 = .ok (.iinc 4 (-1), 3) := eX11_missingOf_91q.2.2.1
theorem dX11_missingOf_97 : decode cX11_missingOf 97 = .ok (.goto (-55), 3) := eX11_missingOf_91q.2.2.2.1
theorem dX11_missingOf_100 : decode cX11_missingOf 100 = .ok (.iinc 3 1, 3) := eX11_missingOf_91q.2.2.2.2.1
theorem dX11_missingOf_103 : decode cX11_missingOf 103 = .ok (.goto (-71), 3) := eX11_missingOf_91q.2.2.2.2.2.1
theorem dX11_missingOf_106 : decode cX11_missingOf 106 = .ok (.ldc2_w 320, 3) := eX11_missingOf_91q.2.2.2.2.2.2.1
theorem dX11_missingOf_109 : decode cX11_missingOf 109 = .ok (.aload_n 0, 1) := eX11_missingOf_91q.2.2.2.2.2.2.2
theorem eX11_missingOf_110q : (decode cX11_missingOf 110 = .ok (.getfield 79, 3)) ∧ (decode cX11_missingOf 113 = .ok (.iload_n 2, 1)) ∧ (decode cX11_missingOf 114 = .ok (.laload, 1)) ∧ (decode cX11_missingOf 115 = .ok (.lsub, 1)) ∧ (decode cX11_missingOf 116 = .ok (.lreturn, 1)) := by decide +kernel
theorem dX11_missingOf_110 : decode cX11_missingOf 110 = .ok (.getfield 79, 3) := eX11_missingOf_110q.1
theorem dX11_missingOf_113 : decode cX11_missingOf 113 = .ok (.iload_n 2, 1) := eX11_missingOf_110q.2.1
theorem dX11_missingOf_114 : decode cX11_missingOf 114 = .ok (.laload, 1) := eX11_missingOf_110q.2.2.1
theorem dX11_missingOf_115 : decode cX11_missingOf 115 = .ok (.lsub, 1) := eX11_missingOf_110q.2.2.2.1
theorem dX11_missingOf_116 : decode cX11_missingOf 116 = .ok (.lreturn, 1) := eX11_missingOf_110q.2.2.2.2
set_option maxRecDepth 20000 in
theorem ggX11_enough_X11_missingOf : GoodIn wsX11_enough wsX11_missingOf := by
  have h := goodIn_app (goodIn_r (big := wsX11_enough) (.code yX11_missingOf cX11_missingOf 7 (some .long) :: ([.fieldLink RX11 79 "PathProberModel" "met" "[J", .constantLong RX11 320 (1000000000000)]) : List Cond) [7, 8, 9] rfl (by decide +kernel)) (goodIn_few (big := wsX11_enough) (fun _ h9 => List.mem_cons_of_mem _ (List.mem_append_right _ h9)) gb_0)
  exact h
set_option maxRecDepth 20000 in
theorem gX11_enough_X11_missingOf : GoodIn wsX11_enough (wsV RX11 322 RX11 yX11_missingOf wsX11_missingOf) := goodIn_app (goodIn_r _ [3, 4, 5, 6] rfl (by decide +kernel)) ggX11_enough_X11_missingOf
theorem eX11_enough_0q : (decode cX11_enough 0 = .ok (.iconst 1, 1)) ∧ (decode cX11_enough 1 = .ok (.istore_n 2, 1)) ∧ (decode cX11_enough 2 = .ok (.iload_n 2, 1)) ∧ (decode cX11_enough 3 = .ok (.bipush 60, 2)) ∧ (decode cX11_enough 5 = .ok (.if_icmp .gt 35, 3)) ∧ (decode cX11_enough 8 = .ok (.aload_n 0, 1)) ∧ (decode cX11_enough 9 = .ok (.iload_n 2, 1)) ∧ (decode cX11_enough 10 = .ok (.iload_n 1, 1)) := by decide +kernel
theorem dX11_enough_0 : decode cX11_enough 0 = .ok (.iconst 1, 1) := eX11_enough_0q.1
theorem dX11_enough_1 : decode cX11_enough 1 = .ok (.istore_n 2, 1) := eX11_enough_0q.2.1
theorem dX11_enough_2 : decode cX11_enough 2 = .ok (.iload_n 2, 1) := eX11_enough_0q.2.2.1
theorem dX11_enough_3 : decode cX11_enough 3 = .ok (.bipush 60, 2) := eX11_enough_0q.2.2.2.1
theorem dX11_enough_5 : decode cX11_enough 5 = .ok (.if_icmp .gt 35, 3) := eX11_enough_0q.2.2.2.2.1
theorem dX11_enough_8 : decode cX11_enough 8 = .ok (.aload_n 0, 1) := eX11_enough_0q.2.2.2.2.2.1
theorem dX11_enough_9 : decode cX11_enough 9 = .ok (.iload_n 2, 1) := eX11_enough_0q.2.2.2.2.2.2.1
theorem dX11_enough_10 : decode cX11_enough 10 = .ok (.iload_n 1, 1) := eX11_enough_0q.2.2.2.2.2.2.2
theorem eX11_enough_11q : (decode cX11_enough 11 = .ok (.iconst 1, 1)) ∧ (decode cX11_enough 12 = .ok (.iadd, 1)) ∧ (decode cX11_enough 13 = .ok (.invokevirtual 322, 3)) ∧ (decode cX11_enough 16 = .ok (.aload_n 0, 1)) ∧ (decode cX11_enough 17 = .ok (.getfield 60, 3)) ∧ (decode cX11_enough 20 = .ok (.bipush 54, 2)) ∧ (decode cX11_enough 22 = .ok (.iaload, 1)) ∧ (decode cX11_enough 23 = .ok (.i2l, 1)) := by decide +kernel
theorem dX11_enough_11 : decode cX11_enough 11 = .ok (.iconst 1, 1) := eX11_enough_11q.1
theorem dX11_enough_12 : decode cX11_enough 12 = .ok (.iadd, 1) := eX11_enough_11q.2.1
theorem dX11_enough_13 : decode cX11_enough 13 = .ok (.invokevirtual 322, 3) := eX11_enough_11q.2.2.1
theorem dX11_enough_16 : decode cX11_enough 16 = .ok (.aload_n 0, 1) := eX11_enough_11q.2.2.2.1
theorem dX11_enough_17 : decode cX11_enough 17 = .ok (.getfield 60, 3) := eX11_enough_11q.2.2.2.2.1
theorem dX11_enough_20 : decode cX11_enough 20 = .ok (.bipush 54, 2) := eX11_enough_11q.2.2.2.2.2.1
theorem dX11_enough_22 : decode cX11_enough 22 = .ok (.iaload, 1) := eX11_enough_11q.2.2.2.2.2.2.1
theorem dX11_enough_23 : decode cX11_enough 23 = .ok (.i2l, 1) := eX11_enough_11q.2.2.2.2.2.2.2
theorem eX11_enough_24q : (decode cX11_enough 24 = .ok (.ldc2_w 326, 3)) ∧ (decode cX11_enough 27 = .ok (.lmul, 1)) ∧ (decode cX11_enough 28 = .ok (.lcmp, 1)) ∧ (decode cX11_enough 29 = .ok (.ifCond .ge 5, 3)) ∧ (decode cX11_enough 32 = .ok (.iload_n 2, 1)) ∧ (decode cX11_enough 33 = .ok (.ireturn, 1)) ∧ (decode cX11_enough 34 = .ok (.iinc 2 1, 3)) ∧ (decode cX11_enough 37 = .ok (.goto (-35), 3)) := by decide +kernel
theorem dX11_enough_24 : decode cX11_enough 24 = .ok (.ldc2_w 326, 3) := eX11_enough_24q.1
theorem dX11_enough_27 : decode cX11_enough 27 = .ok (.lmul, 1) := eX11_enough_24q.2.1
theorem dX11_enough_28 : decode cX11_enough 28 = .ok (.lcmp, 1) := eX11_enough_24q.2.2.1
theorem dX11_enough_29 : decode cX11_enough 29 = .ok (.ifCond .ge 5, 3) := eX11_enough_24q.2.2.2.1
theorem dX11_enough_32 : decode cX11_enough 32 = .ok (.iload_n 2, 1) := eX11_enough_24q.2.2.2.2.1
theorem dX11_enough_33 : decode cX11_enough 33 = .ok (.ireturn, 1) := eX11_enough_24q.2.2.2.2.2.1
theorem dX11_enough_34 : decode cX11_enough 34 = .ok (.iinc 2 1, 3) := eX11_enough_24q.2.2.2.2.2.2.1
theorem dX11_enough_37 : decode cX11_enough 37 = .ok (.goto (-35), 3) := eX11_enough_24q.2.2.2.2.2.2.2
theorem dX11_enough_40 : decode cX11_enough 40 = .ok (.iconst (-1), 1) := by decide +kernel
theorem dX11_enough_41 : decode cX11_enough 41 = .ok (.ireturn, 1) := by decide +kernel
set_option maxRecDepth 20000 in
theorem ggX11_probeNow_X11_opens : GoodIn wsX11_probeNow wsX11_opens := by
  have h := goodIn_app (goodIn_r (big := wsX11_probeNow) (.code yX11_opens cX11_opens 2 none :: ([.fieldLink RX11 60 "PathProberModel" "now" "[I", .methodLink RX11 328 Lib.Math.max.name, .static Lib.Math.max.name, .initialized "java/lang/Math", .code Lib.Math.max.name Lib.Math.max.code 2 (some .int)]) : List Cond) [9, 1, 10, 11, 12, 13] rfl (by decide +kernel)) (goodIn_few (big := wsX11_probeNow) (fun _ h9 => List.mem_cons_of_mem _ (List.mem_append_right _ h9)) gb_0)
  exact h
set_option maxRecDepth 20000 in
theorem gX11_probeNow_X11_opens : GoodIn wsX11_probeNow (wsV RX11 331 RX11 yX11_opens wsX11_opens) := goodIn_app (goodIn_r _ [5, 6, 7, 8] rfl (by decide +kernel)) ggX11_probeNow_X11_opens
set_option maxRecDepth 20000 in
theorem ggX11_probeNow_X11_sentAt : GoodIn wsX11_probeNow wsX11_sentAt := goodIn_r _ [16] rfl (by decide +kernel)
set_option maxRecDepth 20000 in
theorem gX11_probeNow_X11_sentAt : GoodIn wsX11_probeNow (va_wsS RX11 334 yX11_sentAt wsX11_sentAt) := goodIn_app (goodIn_r _ [14, 15, 8] rfl (by decide +kernel)) ggX11_probeNow_X11_sentAt
set_option maxRecDepth 20000 in
theorem ggX11_probeNow_X11_walk : GoodIn wsX11_probeNow wsX11_walk := by
  have h := goodIn_app (goodIn_r (big := wsX11_probeNow) (.code yX11_walk cX11_walk 10 none :: (wsX11_walk_r1 ++ wsX11_walk_r2) : List Cond) [20, 21, 22, 3, 23, 4, 24, 25, 26, 8, 27, 28, 29, 30, 31, 32, 1, 2, 33, 34, 35, 36, 37, 38, 39, 40, 41, 42, 43, 44, 45, 46, 47, 48, 49, 50, 51] rfl (by decide +kernel)) (goodIn_few (big := wsX11_probeNow) (fun _ h9 => List.mem_cons_of_mem _ (List.mem_append_right _ h9)) gb_0)
  exact h
set_option maxRecDepth 20000 in
theorem gX11_probeNow_X11_walk : GoodIn wsX11_probeNow (wsV RX11 337 RX11 yX11_walk wsX11_walk) := goodIn_app (goodIn_r _ [17, 18, 19, 8] rfl (by decide +kernel)) ggX11_probeNow_X11_walk
set_option maxRecDepth 20000 in
theorem ggX11_probeNow_X11_answers : GoodIn wsX11_probeNow wsX11_answers := by
  have h := goodIn_app (goodIn_r (big := wsX11_probeNow) (.code yX11_answers cX11_answers 2 (some .boolean) :: ([.fieldLink RX11 292 "PathProberModel" "endRouter" "I", .fieldLink RX11 47 "PathProberModel" "mute" "[I", .fieldLink RX11 58 "PathProberModel" "goal" "[I"]) : List Cond) [55, 3, 56, 21] rfl (by decide +kernel)) (goodIn_few (big := wsX11_probeNow) (fun _ h9 => List.mem_cons_of_mem _ (List.mem_append_right _ h9)) gb_0)
  exact h
set_option maxRecDepth 20000 in
theorem gX11_probeNow_X11_answers : GoodIn wsX11_probeNow (wsV RX11 341 RX11 yX11_answers wsX11_answers) := goodIn_app (goodIn_r _ [52, 53, 54, 8] rfl (by decide +kernel)) ggX11_probeNow_X11_answers
set_option maxRecDepth 20000 in
theorem ggX11_probeNow_X11_answered : GoodIn wsX11_probeNow wsX11_answered := by
  have h := goodIn_app (goodIn_r (big := wsX11_probeNow) (.code yX11_answered cX11_answered 2 (some .int) :: ([.fieldLink RX11 60 "PathProberModel" "now" "[I", .fieldLink RX11 44 "PathProberModel" "pace" "[I"]) : List Cond) [60, 1, 61] rfl (by decide +kernel)) (goodIn_few (big := wsX11_probeNow) (fun _ h9 => List.mem_cons_of_mem _ (List.mem_append_right _ h9)) gb_0)
  exact h
set_option maxRecDepth 20000 in
theorem gX11_probeNow_X11_answered : GoodIn wsX11_probeNow (wsV RX11 344 RX11 yX11_answered wsX11_answered) := goodIn_app (goodIn_r _ [57, 58, 59, 8] rfl (by decide +kernel)) ggX11_probeNow_X11_answered
set_option maxRecDepth 20000 in
theorem ggX11_probeNow_X11_seenAt : GoodIn wsX11_probeNow wsX11_seenAt := goodIn_r _ [64] rfl (by decide +kernel)
set_option maxRecDepth 20000 in
theorem gX11_probeNow_X11_seenAt : GoodIn wsX11_probeNow (va_wsS RX11 298 yX11_seenAt wsX11_seenAt) := goodIn_app (goodIn_r _ [62, 63, 8] rfl (by decide +kernel)) ggX11_probeNow_X11_seenAt
theorem eX11_probeNow_0q : (decode cX11_probeNow 0 = .ok (.aload_n 0, 1)) ∧ (decode cX11_probeNow 1 = .ok (.iload 4, 2)) ∧ (decode cX11_probeNow 3 = .ok (.invokevirtual 331, 3)) ∧ (decode cX11_probeNow 6 = .ok (.aload_n 0, 1)) ∧ (decode cX11_probeNow 7 = .ok (.getfield 60, 3)) ∧ (decode cX11_probeNow 10 = .ok (.iload_n 2, 1)) ∧ (decode cX11_probeNow 11 = .ok (.iload_n 3, 1)) ∧ (decode cX11_probeNow 12 = .ok (.invokestatic 334, 3)) := by decide +kernel
theorem dX11_probeNow_0 : decode cX11_probeNow 0 = .ok (.aload_n 0, 1) := eX11_probeNow_0q.1
theorem dX11_probeNow_1 : decode cX11_probeNow 1 = .ok (.iload 4, 2) := eX11_probeNow_0q.2.1
theorem dX11_probeNow_3 : decode cX11_probeNow 3 = .ok (.invokevirtual 331, 3) := eX11_probeNow_0q.2.2.1
theorem dX11_probeNow_6 : decode cX11_probeNow 6 = .ok (.aload_n 0, 1) := eX11_probeNow_0q.2.2.2.1
theorem dX11_probeNow_7 : decode cX11_probeNow 7 = .ok (.getfield 60, 3) := eX11_probeNow_0q.2.2.2.2.1
theorem dX11_probeNow_10 : decode cX11_probeNow 10 = .ok (.iload_n 2, 1) := eX11_probeNow_0q.2.2.2.2.2.1
theorem dX11_probeNow_11 : decode cX11_probeNow 11 = .ok (.iload_n 3, 1) := eX11_probeNow_0q.2.2.2.2.2.2.1
theorem dX11_probeNow_12 : decode cX11_probeNow 12 = .ok (.invokestatic 334, 3) := eX11_probeNow_0q.2.2.2.2.2.2.2
theorem eX11_probeNow_15q : (decode cX11_probeNow 15 = .ok (.dup2, 1)) ∧ (decode cX11_probeNow 16 = .ok (.iaload, 1)) ∧ (decode cX11_probeNow 17 = .ok (.iconst 1, 1)) ∧ (decode cX11_probeNow 18 = .ok (.iadd, 1)) ∧ (decode cX11_probeNow 19 = .ok (.iastore, 1)) ∧ (decode cX11_probeNow 20 = .ok (.aload_n 0, 1)) ∧ (decode cX11_probeNow 21 = .ok (.iconst 1, 1)) ∧ (decode cX11_probeNow 22 = .ok (.putfield 282, 3)) := by decide +kernel
theorem dX11_probeNow_15 : decode cX11_probeNow 15 = .ok (.dup2, 1) := eX11_probeNow_15q.1
theorem dX11_probeNow_16 : decode cX11_probeNow 16 = .ok (.iaload, 1) := eX11_probeNow_15q.2.1
theorem dX11_probeNow_17 : decode cX11_probeNow 17 = .ok (.iconst 1, 1) := eX11_probeNow_15q.2.2.1
theorem dX11_probeNow_18 : decode cX11_probeNow 18 = .ok (.iadd, 1) := eX11_probeNow_15q.2.2.2.1
theorem dX11_probeNow_19 : decode cX11_probeNow 19 = .ok (.iastore, 1) := eX11_probeNow_15q.2.2.2.2.1
theorem dX11_probeNow_20 : decode cX11_probeNow 20 = .ok (.aload_n 0, 1) := eX11_probeNow_15q.2.2.2.2.2.1
theorem dX11_probeNow_21 : decode cX11_probeNow 21 = .ok (.iconst 1, 1) := eX11_probeNow_15q.2.2.2.2.2.2.1
theorem dX11_probeNow_22 : decode cX11_probeNow 22 = .ok (.putfield 282, 3) := eX11_probeNow_15q.2.2.2.2.2.2.2
theorem eX11_probeNow_25q : (decode cX11_probeNow 25 = .ok (.aload_n 0, 1)) ∧ (decode cX11_probeNow 26 = .ok (.iload_n 1, 1)) ∧ (decode cX11_probeNow 27 = .ok (.iload_n 2, 1)) ∧ (decode cX11_probeNow 28 = .ok (.iload_n 3, 1)) ∧ (decode cX11_probeNow 29 = .ok (.invokevirtual 337, 3)) ∧ (decode cX11_probeNow 32 = .ok (.aload_n 0, 1)) ∧ (decode cX11_probeNow 33 = .ok (.iconst 0, 1)) ∧ (decode cX11_probeNow 34 = .ok (.putfield 282, 3)) := by decide +kernel
theorem dX11_probeNow_25 : decode cX11_probeNow 25 = .ok (.aload_n 0, 1) := eX11_probeNow_25q.1
theorem dX11_probeNow_26 : decode cX11_probeNow 26 = .ok (.iload_n 1, 1) := eX11_probeNow_25q.2.1
theorem dX11_probeNow_27 : decode cX11_probeNow 27 = .ok (.iload_n 2, 1) := eX11_probeNow_25q.2.2.1
theorem dX11_probeNow_28 : decode cX11_probeNow 28 = .ok (.iload_n 3, 1) := eX11_probeNow_25q.2.2.2.1
theorem dX11_probeNow_29 : decode cX11_probeNow 29 = .ok (.invokevirtual 337, 3) := eX11_probeNow_25q.2.2.2.2.1
theorem dX11_probeNow_32 : decode cX11_probeNow 32 = .ok (.aload_n 0, 1) := eX11_probeNow_25q.2.2.2.2.2.1
theorem dX11_probeNow_33 : decode cX11_probeNow 33 = .ok (.iconst 0, 1) := eX11_probeNow_25q.2.2.2.2.2.2.1
theorem dX11_probeNow_34 : decode cX11_probeNow 34 = .ok (.putfield 282, 3) := eX11_probeNow_25q.2.2.2.2.2.2.2
theorem eX11_probeNow_37q : (decode cX11_probeNow 37 = .ok (.aload_n 0, 1)) ∧ (decode cX11_probeNow 38 = .ok (.iload_n 2, 1)) ∧ (decode cX11_probeNow 39 = .ok (.invokevirtual 341, 3)) ∧ (decode cX11_probeNow 42 = .ok (.ifCond .ne 29, 3)) ∧ (decode cX11_probeNow 45 = .ok (.aload_n 0, 1)) ∧ (decode cX11_probeNow 46 = .ok (.getfield 60, 3)) ∧ (decode cX11_probeNow 49 = .ok (.aload_n 0, 1)) ∧ (decode cX11_probeNow 50 = .ok (.getfield 292, 3)) := by decide +kernel
theorem dX11_probeNow_37 : decode cX11_probeNow 37 = .ok (.aload_n 0, 1) := eX11_probeNow_37q.1
theorem dX11_probeNow_38 : decode cX11_probeNow 38 = .ok (.iload_n 2, 1) := eX11_probeNow_37q.2.1
theorem dX11_probeNow_39 : decode cX11_probeNow 39 = .ok (.invokevirtual 341, 3) := eX11_probeNow_37q.2.2.1
theorem dX11_probeNow_42 : decode cX11_probeNow 42 = .ok (.ifCond .ne 29, 3) := eX11_probeNow_37q.2.2.2.1
theorem dX11_probeNow_45 : decode cX11_probeNow 45 = .ok (.aload_n 0, 1) := eX11_probeNow_37q.2.2.2.2.1
theorem dX11_probeNow_46 : decode cX11_probeNow 46 = .ok (.getfield 60, 3) := eX11_probeNow_37q.2.2.2.2.2.1
theorem dX11_probeNow_49 : decode cX11_probeNow 49 = .ok (.aload_n 0, 1) := eX11_probeNow_37q.2.2.2.2.2.2.1
theorem dX11_probeNow_50 : decode cX11_probeNow 50 = .ok (.getfield 292, 3) := eX11_probeNow_37q.2.2.2.2.2.2.2
theorem eX11_probeNow_53q : (decode cX11_probeNow 53 = .ok (.iconst (-1), 1)) ∧ (decode cX11_probeNow 54 = .ok (.if_icmp .ne 8, 3)) ∧ (decode cX11_probeNow 57 = .ok (.bipush 58, 2)) ∧ (decode cX11_probeNow 59 = .ok (.goto 5, 3)) ∧ (decode cX11_probeNow 62 = .ok (.bipush 57, 2)) ∧ (decode cX11_probeNow 64 = .ok (.dup2, 1)) ∧ (decode cX11_probeNow 65 = .ok (.iaload, 1)) ∧ (decode cX11_probeNow 66 = .ok (.iconst 1, 1)) := by decide +kernel
theorem dX11_probeNow_53 : decode cX11_probeNow 53 = .ok (.iconst (-1), 1) := eX11_probeNow_53q.1
theorem dX11_probeNow_54 : decode cX11_probeNow 54 = .ok (.if_icmp .ne 8, 3) := eX11_probeNow_53q.2.1
theorem dX11_probeNow_57 : decode cX11_probeNow 57 = .ok (.bipush 58, 2) := eX11_probeNow_53q.2.2.1
theorem dX11_probeNow_59 : decode cX11_probeNow 59 = .ok (.goto 5, 3) := eX11_probeNow_53q.2.2.2.1
theorem dX11_probeNow_62 : decode cX11_probeNow 62 = .ok (.bipush 57, 2) := eX11_probeNow_53q.2.2.2.2.1
theorem dX11_probeNow_64 : decode cX11_probeNow 64 = .ok (.dup2, 1) := eX11_probeNow_53q.2.2.2.2.2.1
theorem dX11_probeNow_65 : decode cX11_probeNow 65 = .ok (.iaload, 1) := eX11_probeNow_53q.2.2.2.2.2.2.1
theorem dX11_probeNow_66 : decode cX11_probeNow 66 = .ok (.iconst 1, 1) := eX11_probeNow_53q.2.2.2.2.2.2.2
theorem eX11_probeNow_67q : (decode cX11_probeNow 67 = .ok (.iadd, 1)) ∧ (decode cX11_probeNow 68 = .ok (.iastore, 1)) ∧ (decode cX11_probeNow 69 = .ok (.iconst (-1), 1)) ∧ (decode cX11_probeNow 70 = .ok (.ireturn, 1)) ∧ (decode cX11_probeNow 71 = .ok (.aload_n 0, 1)) ∧ (decode cX11_probeNow 72 = .ok (.aload_n 0, 1)) ∧ (decode cX11_probeNow 73 = .ok (.getfield 292, 3)) ∧ (decode cX11_probeNow 76 = .ok (.invokevirtual 344, 3)) := by decide +kernel
theorem dX11_probeNow_67 : decode cX11_probeNow 67 = .ok (.iadd, 1) := eX11_probeNow_67q.1
theorem dX11_probeNow_68 : decode cX11_probeNow 68 = .ok (.iastore, 1) := eX11_probeNow_67q.2.1
theorem dX11_probeNow_69 : decode cX11_probeNow 69 = .ok (.iconst (-1), 1) := eX11_probeNow_67q.2.2.1
theorem dX11_probeNow_70 : decode cX11_probeNow 70 = .ok (.ireturn, 1) := eX11_probeNow_67q.2.2.2.1
theorem dX11_probeNow_71 : decode cX11_probeNow 71 = .ok (.aload_n 0, 1) := eX11_probeNow_67q.2.2.2.2.1
theorem dX11_probeNow_72 : decode cX11_probeNow 72 = .ok (.aload_n 0, 1) := eX11_probeNow_67q.2.2.2.2.2.1
theorem dX11_probeNow_73 : decode cX11_probeNow 73 = .ok (.getfield 292, 3) := eX11_probeNow_67q.2.2.2.2.2.2.1
theorem dX11_probeNow_76 : decode cX11_probeNow 76 = .ok (.invokevirtual 344, 3) := eX11_probeNow_67q.2.2.2.2.2.2.2
theorem eX11_probeNow_79q : (decode cX11_probeNow 79 = .ok (.istore 5, 2)) ∧ (decode cX11_probeNow 81 = .ok (.aload_n 0, 1)) ∧ (decode cX11_probeNow 82 = .ok (.getfield 60, 3)) ∧ (decode cX11_probeNow 85 = .ok (.iload_n 1, 1)) ∧ (decode cX11_probeNow 86 = .ok (.iload_n 2, 1)) ∧ (decode cX11_probeNow 87 = .ok (.iload_n 3, 1)) ∧ (decode cX11_probeNow 88 = .ok (.invokestatic 298, 3)) ∧ (decode cX11_probeNow 91 = .ok (.aload_n 0, 1)) := by decide +kernel
theorem dX11_probeNow_79 : decode cX11_probeNow 79 = .ok (.istore 5, 2) := eX11_probeNow_79q.1
theorem dX11_probeNow_81 : decode cX11_probeNow 81 = .ok (.aload_n 0, 1) := eX11_probeNow_79q.2.1
theorem dX11_probeNow_82 : decode cX11_probeNow 82 = .ok (.getfield 60, 3) := eX11_probeNow_79q.2.2.1
theorem dX11_probeNow_85 : decode cX11_probeNow 85 = .ok (.iload_n 1, 1) := eX11_probeNow_79q.2.2.2.1
theorem dX11_probeNow_86 : decode cX11_probeNow 86 = .ok (.iload_n 2, 1) := eX11_probeNow_79q.2.2.2.2.1
theorem dX11_probeNow_87 : decode cX11_probeNow 87 = .ok (.iload_n 3, 1) := eX11_probeNow_79q.2.2.2.2.2.1
theorem dX11_probeNow_88 : decode cX11_probeNow 88 = .ok (.invokestatic 298, 3) := eX11_probeNow_79q.2.2.2.2.2.2.1
theorem dX11_probeNow_91 : decode cX11_probeNow 91 = .ok (.aload_n 0, 1) := eX11_probeNow_79q.2.2.2.2.2.2.2
theorem eX11_probeNow_92q : (decode cX11_probeNow 92 = .ok (.getfield 295, 3)) ∧ (decode cX11_probeNow 95 = .ok (.iconst 1, 1)) ∧ (decode cX11_probeNow 96 = .ok (.iadd, 1)) ∧ (decode cX11_probeNow 97 = .ok (.iastore, 1)) ∧ (decode cX11_probeNow 98 = .ok (.aload_n 0, 1)) ∧ (decode cX11_probeNow 99 = .ok (.getfield 295, 3)) ∧ (decode cX11_probeNow 102 = .ok (.ireturn, 1)) := by decide +kernel
theorem dX11_probeNow_92 : decode cX11_probeNow 92 = .ok (.getfield 295, 3) := eX11_probeNow_92q.1
theorem dX11_probeNow_95 : decode cX11_probeNow 95 = .ok (.iconst 1, 1) := eX11_probeNow_92q.2.1
theorem dX11_probeNow_96 : decode cX11_probeNow 96 = .ok (.iadd, 1) := eX11_probeNow_92q.2.2.1
theorem dX11_probeNow_97 : decode cX11_probeNow 97 = .ok (.iastore, 1) := eX11_probeNow_92q.2.2.2.1
theorem dX11_probeNow_98 : decode cX11_probeNow 98 = .ok (.aload_n 0, 1) := eX11_probeNow_92q.2.2.2.2.1
theorem dX11_probeNow_99 : decode cX11_probeNow 99 = .ok (.getfield 295, 3) := eX11_probeNow_92q.2.2.2.2.2.1
theorem dX11_probeNow_102 : decode cX11_probeNow 102 = .ok (.ireturn, 1) := eX11_probeNow_92q.2.2.2.2.2.2
set_option maxRecDepth 20000 in
theorem ggX11_sweepNow_X11_opens : GoodIn wsX11_sweepNow wsX11_opens := by
  have h := goodIn_app (goodIn_r (big := wsX11_sweepNow) (.code yX11_opens cX11_opens 2 none :: ([.fieldLink RX11 60 "PathProberModel" "now" "[I", .methodLink RX11 328 Lib.Math.max.name, .static Lib.Math.max.name, .initialized "java/lang/Math", .code Lib.Math.max.name Lib.Math.max.code 2 (some .int)]) : List Cond) [12, 13, 5, 6, 3, 7] rfl (by decide +kernel)) (goodIn_few (big := wsX11_sweepNow) (fun _ h9 => List.mem_cons_of_mem _ (List.mem_append_right _ h9)) gb_0)
  exact h
set_option maxRecDepth 20000 in
theorem gX11_sweepNow_X11_opens : GoodIn wsX11_sweepNow (wsV RX11 331 RX11 yX11_opens wsX11_opens) := goodIn_app (goodIn_r _ [8, 9, 10, 11] rfl (by decide +kernel)) ggX11_sweepNow_X11_opens
set_option maxRecDepth 20000 in
theorem ggX11_sweepNow_X11_probeNow : GoodIn wsX11_sweepNow wsX11_probeNow := by
  have h := goodIn_app (goodIn_r (big := wsX11_sweepNow) (.code yX11_probeNow cX11_probeNow 6 (some .int) :: (wsX11_probeNow_r1 ++ (wsX11_probeNow_r2 ++ wsX11_probeNow_r3)) : List Cond) [17, 13, 18, 19, 20, 8, 9, 10, 11, 12, 5, 6, 3, 7, 21, 22, 23, 24, 25, 26, 27, 28, 29, 30, 31, 32, 33, 34, 35, 36, 37, 38, 39, 40, 41, 42, 43, 44, 45, 46, 47, 48, 49, 50, 51, 52, 53, 54, 55, 56, 57, 58, 59, 60, 61, 62, 63, 64, 65, 66, 67, 68, 69, 70, 71] rfl (by decide +kernel)) (goodIn_few (big := wsX11_sweepNow) (fun _ h9 => List.mem_cons_of_mem _ (List.mem_append_right _ h9)) gb_0)
  exact h
set_option maxRecDepth 20000 in
theorem gX11_sweepNow_X11_probeNow : GoodIn wsX11_sweepNow (wsV RX11 347 RX11 yX11_probeNow wsX11_probeNow) := goodIn_app (goodIn_r _ [14, 15, 16, 11] rfl (by decide +kernel)) ggX11_sweepNow_X11_probeNow
set_option maxRecDepth 20000 in
theorem ggX11_sweepNow_X11_addresses : GoodIn wsX11_sweepNow wsX11_addresses := by
  have h := goodIn_app (goodIn_r (big := wsX11_sweepNow) (.code yX11_addresses cX11_addresses 5 (some .int) :: ([.methodLink RX11 301 yX11_seenBy, .instanceMethod yX11_seenBy, .selects RX11 yX11_seenBy yX11_seenBy, .initialized RX11, .code yX11_seenBy cX11_seenBy 4 (some .int), .fieldLink RX11 60 "PathProberModel" "now" "[I", .methodLink RX11 298 yX11_seenAt, .static yX11_seenAt, .code yX11_seenAt cX11_seenAt 3 (some .int)]) : List Cond) [75, 76, 77, 78, 11, 79, 13, 69, 70, 71] rfl (by decide +kernel)) (goodIn_few (big := wsX11_sweepNow) (fun _ h9 => List.mem_cons_of_mem _ (List.mem_append_right _ h9)) gb_0)
  exact h
set_option maxRecDepth 20000 in
theorem gX11_sweepNow_X11_addresses : GoodIn wsX11_sweepNow (wsV RX11 307 RX11 yX11_addresses wsX11_addresses) := goodIn_app (goodIn_r _ [72, 73, 74, 11] rfl (by decide +kernel)) ggX11_sweepNow_X11_addresses
set_option maxRecDepth 20000 in
theorem ggX11_sweepNow_J6_bitCount_0f7a4 : GoodIn wsX11_sweepNow wsJ6_bitCount_0f7a4 := goodIn_r _ [83, 84, 85, 86] rfl (by decide +kernel)
set_option maxRecDepth 20000 in
theorem gX11_sweepNow_J6_bitCount_0f7a4 : GoodIn wsX11_sweepNow (va_wsS RX11 351 yJ6_bitCount_0f7a4 wsJ6_bitCount_0f7a4) := goodIn_app (goodIn_r _ [80, 81, 82] rfl (by decide +kernel)) ggX11_sweepNow_J6_bitCount_0f7a4
set_option maxRecDepth 20000 in
theorem ggX11_sweepNow_X11_enough : GoodIn wsX11_sweepNow wsX11_enough := by
  have h := goodIn_app (goodIn_r (big := wsX11_sweepNow) (.code yX11_enough cX11_enough 3 (some .int) :: ([.fieldLink RX11 60 "PathProberModel" "now" "[I", .constantLong RX11 326 (10000000000), .methodLink RX11 322 yX11_missingOf, .instanceMethod yX11_missingOf, .selects RX11 yX11_missingOf yX11_missingOf, .initialized RX11, .code yX11_missingOf cX11_missingOf 7 (some .long), .fieldLink RX11 79 "PathProberModel" "met" "[J", .constantLong RX11 320 (1000000000000)]) : List Cond) [90, 13, 91, 92, 93, 94, 11, 95, 96, 97] rfl (by decide +kernel)) (goodIn_few (big := wsX11_sweepNow) (fun _ h9 => List.mem_cons_of_mem _ (List.mem_append_right _ h9)) gb_0)
  exact h
set_option maxRecDepth 20000 in
theorem gX11_sweepNow_X11_enough : GoodIn wsX11_sweepNow (wsV RX11 356 RX11 yX11_enough wsX11_enough) := goodIn_app (goodIn_r _ [87, 88, 89, 11] rfl (by decide +kernel)) ggX11_sweepNow_X11_enough
theorem eX11_sweepNow_0q : (decode cX11_sweepNow 0 = .ok (.aload_n 0, 1)) ∧ (decode cX11_sweepNow 1 = .ok (.iconst 1, 1)) ∧ (decode cX11_sweepNow 2 = .ok (.invokevirtual 331, 3)) ∧ (decode cX11_sweepNow 5 = .ok (.iconst 0, 1)) ∧ (decode cX11_sweepNow 6 = .ok (.istore_n 3, 1)) ∧ (decode cX11_sweepNow 7 = .ok (.iconst 1, 1)) ∧ (decode cX11_sweepNow 8 = .ok (.istore 4, 2)) ∧ (decode cX11_sweepNow 10 = .ok (.iload 4, 2)) := by decide +kernel
theorem dX11_sweepNow_0 : decode cX11_sweepNow 0 = .ok (.aload_n 0, 1) := eX11_sweepNow_0q.1
theorem dX11_sweepNow_1 : decode cX11_sweepNow 1 = .ok (.iconst 1, 1) := eX11_sweepNow_0q.2.1
theorem dX11_sweepNow_2 : decode cX11_sweepNow 2 = .ok (.invokevirtual 331, 3) := eX11_sweepNow_0q.2.2.1
theorem dX11_sweepNow_5 : decode cX11_sweepNow 5 = .ok (.iconst 0, 1) := eX11_sweepNow_0q.2.2.2.1
theorem dX11_sweepNow_6 : decode cX11_sweepNow 6 = .ok (.istore_n 3, 1) := eX11_sweepNow_0q.2.2.2.2.1
theorem dX11_sweepNow_7 : decode cX11_sweepNow 7 = .ok (.iconst 1, 1) := eX11_sweepNow_0q.2.2.2.2.2.1
theorem dX11_sweepNow_8 : decode cX11_sweepNow 8 = .ok (.istore 4, 2) := eX11_sweepNow_0q.2.2.2.2.2.2.1
theorem dX11_sweepNow_10 : decode cX11_sweepNow 10 = .ok (.iload 4, 2) := eX11_sweepNow_0q.2.2.2.2.2.2.2
theorem eX11_sweepNow_12q : (decode cX11_sweepNow 12 = .ok (.ifCond .eq 67, 3)) ∧ (decode cX11_sweepNow 15 = .ok (.aload_n 0, 1)) ∧ (decode cX11_sweepNow 16 = .ok (.iload_n 3, 1)) ∧ (decode cX11_sweepNow 17 = .ok (.iload_n 1, 1)) ∧ (decode cX11_sweepNow 18 = .ok (.iload_n 2, 1)) ∧ (decode cX11_sweepNow 19 = .ok (.iconst 2, 1)) ∧ (decode cX11_sweepNow 20 = .ok (.invokevirtual 347, 3)) ∧ (decode cX11_sweepNow 23 = .ok (.istore 5, 2)) := by decide +kernel
theorem dX11_sweepNow_12 : decode cX11_sweepNow 12 = .ok (.ifCond .eq 67, 3) := eX11_sweepNow_12q.1
theorem dX11_sweepNow_15 : decode cX11_sweepNow 15 = .ok (.aload_n 0, 1) := eX11_sweepNow_12q.2.1
theorem dX11_sweepNow_16 : decode cX11_sweepNow 16 = .ok (.iload_n 3, 1) := eX11_sweepNow_12q.2.2.1
theorem dX11_sweepNow_17 : decode cX11_sweepNow 17 = .ok (.iload_n 1, 1) := eX11_sweepNow_12q.2.2.2.1
theorem dX11_sweepNow_18 : decode cX11_sweepNow 18 = .ok (.iload_n 2, 1) := eX11_sweepNow_12q.2.2.2.2.1
theorem dX11_sweepNow_19 : decode cX11_sweepNow 19 = .ok (.iconst 2, 1) := eX11_sweepNow_12q.2.2.2.2.2.1
theorem dX11_sweepNow_20 : decode cX11_sweepNow 20 = .ok (.invokevirtual 347, 3) := eX11_sweepNow_12q.2.2.2.2.2.2.1
theorem dX11_sweepNow_23 : decode cX11_sweepNow 23 = .ok (.istore 5, 2) := eX11_sweepNow_12q.2.2.2.2.2.2.2
theorem eX11_sweepNow_25q : (decode cX11_sweepNow 25 = .ok (.iinc 3 1, 3)) ∧ (decode cX11_sweepNow 28 = .ok (.aload_n 0, 1)) ∧ (decode cX11_sweepNow 29 = .ok (.iconst 1, 1)) ∧ (decode cX11_sweepNow 30 = .ok (.iconst 4, 1)) ∧ (decode cX11_sweepNow 31 = .ok (.aload_n 0, 1)) ∧ (decode cX11_sweepNow 32 = .ok (.iload_n 1, 1)) ∧ (decode cX11_sweepNow 33 = .ok (.iload_n 2, 1)) ∧ (decode cX11_sweepNow 34 = .ok (.invokevirtual 307, 3)) := by decide +kernel
theorem dX11_sweepNow_25 : decode cX11_sweepNow 25 = .ok (.iinc 3 1, 3) := eX11_sweepNow_25q.1
theorem dX11_sweepNow_28 : decode cX11_sweepNow 28 = .ok (.aload_n 0, 1) := eX11_sweepNow_25q.2.1
theorem dX11_sweepNow_29 : decode cX11_sweepNow 29 = .ok (.iconst 1, 1) := eX11_sweepNow_25q.2.2.1
theorem dX11_sweepNow_30 : decode cX11_sweepNow 30 = .ok (.iconst 4, 1) := eX11_sweepNow_25q.2.2.2.1
theorem dX11_sweepNow_31 : decode cX11_sweepNow 31 = .ok (.aload_n 0, 1) := eX11_sweepNow_25q.2.2.2.2.1
theorem dX11_sweepNow_32 : decode cX11_sweepNow 32 = .ok (.iload_n 1, 1) := eX11_sweepNow_25q.2.2.2.2.2.1
theorem dX11_sweepNow_33 : decode cX11_sweepNow 33 = .ok (.iload_n 2, 1) := eX11_sweepNow_25q.2.2.2.2.2.2.1
theorem dX11_sweepNow_34 : decode cX11_sweepNow 34 = .ok (.invokevirtual 307, 3) := eX11_sweepNow_25q.2.2.2.2.2.2.2
theorem eX11_sweepNow_37q : (decode cX11_sweepNow 37 = .ok (.invokestatic 351, 3)) ∧ (decode cX11_sweepNow 40 = .ok (.invokestatic 175, 3)) ∧ (decode cX11_sweepNow 43 = .ok (.invokestatic 328, 3)) ∧ (decode cX11_sweepNow 46 = .ok (.invokevirtual 356, 3)) ∧ (decode cX11_sweepNow 49 = .ok (.istore 6, 2)) ∧ (decode cX11_sweepNow 51 = .ok (.iload_n 3, 1)) ∧ (decode cX11_sweepNow 52 = .ok (.bipush 32, 2)) ∧ (decode cX11_sweepNow 54 = .ok (.if_icmp .ge 19, 3)) := by decide +kernel
theorem dX11_sweepNow_37 : decode cX11_sweepNow 37 = .ok (.invokestatic 351, 3) := eX11_sweepNow_37q.1
theorem dX11_sweepNow_40 : decode cX11_sweepNow 40 = .ok (.invokestatic 175, 3) := eX11_sweepNow_37q.2.1
theorem dX11_sweepNow_43 : decode cX11_sweepNow 43 = .ok (.invokestatic 328, 3) := eX11_sweepNow_37q.2.2.1
theorem dX11_sweepNow_46 : decode cX11_sweepNow 46 = .ok (.invokevirtual 356, 3) := eX11_sweepNow_37q.2.2.2.1
theorem dX11_sweepNow_49 : decode cX11_sweepNow 49 = .ok (.istore 6, 2) := eX11_sweepNow_37q.2.2.2.2.1
theorem dX11_sweepNow_51 : decode cX11_sweepNow 51 = .ok (.iload_n 3, 1) := eX11_sweepNow_37q.2.2.2.2.2.1
theorem dX11_sweepNow_52 : decode cX11_sweepNow 52 = .ok (.bipush 32, 2) := eX11_sweepNow_37q.2.2.2.2.2.2.1
theorem dX11_sweepNow_54 : decode cX11_sweepNow 54 = .ok (.if_icmp .ge 19, 3) := eX11_sweepNow_37q.2.2.2.2.2.2.2
theorem eX11_sweepNow_57q : (decode cX11_sweepNow 57 = .ok (.iload 6, 2)) ∧ (decode cX11_sweepNow 59 = .ok (.iconst (-1), 1)) ∧ (decode cX11_sweepNow 60 = .ok (.if_icmp .eq 9, 3)) ∧ (decode cX11_sweepNow 63 = .ok (.iload_n 3, 1)) ∧ (decode cX11_sweepNow 64 = .ok (.iload 6, 2)) ∧ (decode cX11_sweepNow 66 = .ok (.if_icmp .ge 7, 3)) ∧ (decode cX11_sweepNow 69 = .ok (.iconst 1, 1)) ∧ (decode cX11_sweepNow 70 = .ok (.goto 4, 3)) := by decide +kernel
theorem dX11_sweepNow_57 : decode cX11_sweepNow 57 = .ok (.iload 6, 2) := eX11_sweepNow_57q.1
theorem dX11_sweepNow_59 : decode cX11_sweepNow 59 = .ok (.iconst (-1), 1) := eX11_sweepNow_57q.2.1
theorem dX11_sweepNow_60 : decode cX11_sweepNow 60 = .ok (.if_icmp .eq 9, 3) := eX11_sweepNow_57q.2.2.1
theorem dX11_sweepNow_63 : decode cX11_sweepNow 63 = .ok (.iload_n 3, 1) := eX11_sweepNow_57q.2.2.2.1
theorem dX11_sweepNow_64 : decode cX11_sweepNow 64 = .ok (.iload 6, 2) := eX11_sweepNow_57q.2.2.2.2.1
theorem dX11_sweepNow_66 : decode cX11_sweepNow 66 = .ok (.if_icmp .ge 7, 3) := eX11_sweepNow_57q.2.2.2.2.2.1
theorem dX11_sweepNow_69 : decode cX11_sweepNow 69 = .ok (.iconst 1, 1) := eX11_sweepNow_57q.2.2.2.2.2.2.1
theorem dX11_sweepNow_70 : decode cX11_sweepNow 70 = .ok (.goto 4, 3) := eX11_sweepNow_57q.2.2.2.2.2.2.2
theorem eX11_sweepNow_73q : (decode cX11_sweepNow 73 = .ok (.iconst 0, 1)) ∧ (decode cX11_sweepNow 74 = .ok (.istore 4, 2)) ∧ (decode cX11_sweepNow 76 = .ok (.goto (-66), 3)) ∧ (decode cX11_sweepNow 79 = .ok (.iload_n 3, 1)) ∧ (decode cX11_sweepNow 80 = .ok (.ireturn, 1)) := by decide +kernel
theorem dX11_sweepNow_73 : decode cX11_sweepNow 73 = .ok (.iconst 0, 1) := eX11_sweepNow_73q.1
theorem dX11_sweepNow_74 : decode cX11_sweepNow 74 = .ok (.istore 4, 2) := eX11_sweepNow_73q.2.1
theorem dX11_sweepNow_76 : decode cX11_sweepNow 76 = .ok (.goto (-66), 3) := eX11_sweepNow_73q.2.2.1
theorem dX11_sweepNow_79 : decode cX11_sweepNow 79 = .ok (.iload_n 3, 1) := eX11_sweepNow_73q.2.2.2.1
theorem dX11_sweepNow_80 : decode cX11_sweepNow 80 = .ok (.ireturn, 1) := eX11_sweepNow_73q.2.2.2.2
set_option maxRecDepth 20000 in
theorem ggX11_traceNow_X11_opens : GoodIn wsX11_traceNow wsX11_opens := by
  have h := goodIn_app (goodIn_r (big := wsX11_traceNow) (.code yX11_opens cX11_opens 2 none :: ([.fieldLink RX11 60 "PathProberModel" "now" "[I", .methodLink RX11 328 Lib.Math.max.name, .static Lib.Math.max.name, .initialized "java/lang/Math", .code Lib.Math.max.name Lib.Math.max.code 2 (some .int)]) : List Cond) [7, 8, 9, 10, 11, 12] rfl (by decide +kernel)) (goodIn_few (big := wsX11_traceNow) (fun _ h9 => List.mem_cons_of_mem _ (List.mem_append_right _ h9)) gb_0)
  exact h
set_option maxRecDepth 20000 in
theorem gX11_traceNow_X11_opens : GoodIn wsX11_traceNow (wsV RX11 331 RX11 yX11_opens wsX11_opens) := goodIn_app (goodIn_r _ [3, 4, 5, 6] rfl (by decide +kernel)) ggX11_traceNow_X11_opens
set_option maxRecDepth 20000 in
theorem ggX11_traceNow_X11_probeNow : GoodIn wsX11_traceNow wsX11_probeNow := by
  have h := goodIn_app (goodIn_r (big := wsX11_traceNow) (.code yX11_probeNow cX11_probeNow 6 (some .int) :: (wsX11_probeNow_r1 ++ (wsX11_probeNow_r2 ++ wsX11_probeNow_r3)) : List Cond) [16, 8, 17, 1, 18, 3, 4, 5, 6, 7, 9, 10, 11, 12, 19, 20, 21, 22, 23, 24, 25, 2, 26, 27, 28, 29, 30, 31, 32, 33, 34, 35, 36, 37, 38, 39, 40, 41, 42, 43, 44, 45, 46, 47, 48, 49, 50, 51, 52, 53, 54, 55, 56, 57, 58, 59, 60, 61, 62, 63, 64, 65, 66, 67, 68] rfl (by decide +kernel)) (goodIn_few (big := wsX11_traceNow) (fun _ h9 => List.mem_cons_of_mem _ (List.mem_append_right _ h9)) gb_0)
  exact h
set_option maxRecDepth 20000 in
theorem gX11_traceNow_X11_probeNow : GoodIn wsX11_traceNow (wsV RX11 347 RX11 yX11_probeNow wsX11_probeNow) := goodIn_app (goodIn_r _ [13, 14, 15, 6] rfl (by decide +kernel)) ggX11_traceNow_X11_probeNow
theorem eX11_traceNow_0q : (decode cX11_traceNow 0 = .ok (.aload_n 0, 1)) ∧ (decode cX11_traceNow 1 = .ok (.iconst 1, 1)) ∧ (decode cX11_traceNow 2 = .ok (.invokevirtual 331, 3)) ∧ (decode cX11_traceNow 5 = .ok (.iconst 1, 1)) ∧ (decode cX11_traceNow 6 = .ok (.istore_n 3, 1)) ∧ (decode cX11_traceNow 7 = .ok (.iload_n 3, 1)) ∧ (decode cX11_traceNow 8 = .ok (.bipush 10, 2)) ∧ (decode cX11_traceNow 10 = .ok (.if_icmp .gt 40, 3)) := by decide +kernel
theorem dX11_traceNow_0 : decode cX11_traceNow 0 = .ok (.aload_n 0, 1) := eX11_traceNow_0q.1
theorem dX11_traceNow_1 : decode cX11_traceNow 1 = .ok (.iconst 1, 1) := eX11_traceNow_0q.2.1
theorem dX11_traceNow_2 : decode cX11_traceNow 2 = .ok (.invokevirtual 331, 3) := eX11_traceNow_0q.2.2.1
theorem dX11_traceNow_5 : decode cX11_traceNow 5 = .ok (.iconst 1, 1) := eX11_traceNow_0q.2.2.2.1
theorem dX11_traceNow_6 : decode cX11_traceNow 6 = .ok (.istore_n 3, 1) := eX11_traceNow_0q.2.2.2.2.1
theorem dX11_traceNow_7 : decode cX11_traceNow 7 = .ok (.iload_n 3, 1) := eX11_traceNow_0q.2.2.2.2.2.1
theorem dX11_traceNow_8 : decode cX11_traceNow 8 = .ok (.bipush 10, 2) := eX11_traceNow_0q.2.2.2.2.2.2.1
theorem dX11_traceNow_10 : decode cX11_traceNow 10 = .ok (.if_icmp .gt 40, 3) := eX11_traceNow_0q.2.2.2.2.2.2.2
theorem eX11_traceNow_13q : (decode cX11_traceNow 13 = .ok (.aload_n 0, 1)) ∧ (decode cX11_traceNow 14 = .ok (.iload_n 1, 1)) ∧ (decode cX11_traceNow 15 = .ok (.iload_n 2, 1)) ∧ (decode cX11_traceNow 16 = .ok (.iload_n 3, 1)) ∧ (decode cX11_traceNow 17 = .ok (.iconst 2, 1)) ∧ (decode cX11_traceNow 18 = .ok (.invokevirtual 347, 3)) ∧ (decode cX11_traceNow 21 = .ok (.istore 4, 2)) ∧ (decode cX11_traceNow 23 = .ok (.iload 4, 2)) := by decide +kernel
theorem dX11_traceNow_13 : decode cX11_traceNow 13 = .ok (.aload_n 0, 1) := eX11_traceNow_13q.1
theorem dX11_traceNow_14 : decode cX11_traceNow 14 = .ok (.iload_n 1, 1) := eX11_traceNow_13q.2.1
theorem dX11_traceNow_15 : decode cX11_traceNow 15 = .ok (.iload_n 2, 1) := eX11_traceNow_13q.2.2.1
theorem dX11_traceNow_16 : decode cX11_traceNow 16 = .ok (.iload_n 3, 1) := eX11_traceNow_13q.2.2.2.1
theorem dX11_traceNow_17 : decode cX11_traceNow 17 = .ok (.iconst 2, 1) := eX11_traceNow_13q.2.2.2.2.1
theorem dX11_traceNow_18 : decode cX11_traceNow 18 = .ok (.invokevirtual 347, 3) := eX11_traceNow_13q.2.2.2.2.2.1
theorem dX11_traceNow_21 : decode cX11_traceNow 21 = .ok (.istore 4, 2) := eX11_traceNow_13q.2.2.2.2.2.2.1
theorem dX11_traceNow_23 : decode cX11_traceNow 23 = .ok (.iload 4, 2) := eX11_traceNow_13q.2.2.2.2.2.2.2
theorem eX11_traceNow_25q : (decode cX11_traceNow 25 = .ok (.iconst (-1), 1)) ∧ (decode cX11_traceNow 26 = .ok (.if_icmp .eq 18, 3)) ∧ (decode cX11_traceNow 29 = .ok (.aload_n 0, 1)) ∧ (decode cX11_traceNow 30 = .ok (.getfield 292, 3)) ∧ (decode cX11_traceNow 33 = .ok (.aload_n 0, 1)) ∧ (decode cX11_traceNow 34 = .ok (.getfield 58, 3)) ∧ (decode cX11_traceNow 37 = .ok (.iload_n 2, 1)) ∧ (decode cX11_traceNow 38 = .ok (.iaload, 1)) := by decide +kernel
theorem dX11_traceNow_25 : decode cX11_traceNow 25 = .ok (.iconst (-1), 1) := eX11_traceNow_25q.1
theorem dX11_traceNow_26 : decode cX11_traceNow 26 = .ok (.if_icmp .eq 18, 3) := eX11_traceNow_25q.2.1
theorem dX11_traceNow_29 : decode cX11_traceNow 29 = .ok (.aload_n 0, 1) := eX11_traceNow_25q.2.2.1
theorem dX11_traceNow_30 : decode cX11_traceNow 30 = .ok (.getfield 292, 3) := eX11_traceNow_25q.2.2.2.1
theorem dX11_traceNow_33 : decode cX11_traceNow 33 = .ok (.aload_n 0, 1) := eX11_traceNow_25q.2.2.2.2.1
theorem dX11_traceNow_34 : decode cX11_traceNow 34 = .ok (.getfield 58, 3) := eX11_traceNow_25q.2.2.2.2.2.1
theorem dX11_traceNow_37 : decode cX11_traceNow 37 = .ok (.iload_n 2, 1) := eX11_traceNow_25q.2.2.2.2.2.2.1
theorem dX11_traceNow_38 : decode cX11_traceNow 38 = .ok (.iaload, 1) := eX11_traceNow_25q.2.2.2.2.2.2.2
theorem eX11_traceNow_39q : (decode cX11_traceNow 39 = .ok (.if_icmp .ne 5, 3)) ∧ (decode cX11_traceNow 42 = .ok (.iload_n 3, 1)) ∧ (decode cX11_traceNow 43 = .ok (.ireturn, 1)) ∧ (decode cX11_traceNow 44 = .ok (.iinc 3 1, 3)) ∧ (decode cX11_traceNow 47 = .ok (.goto (-40), 3)) ∧ (decode cX11_traceNow 50 = .ok (.bipush 10, 2)) ∧ (decode cX11_traceNow 52 = .ok (.ireturn, 1)) := by decide +kernel
theorem dX11_traceNow_39 : decode cX11_traceNow 39 = .ok (.if_icmp .ne 5, 3) := eX11_traceNow_39q.1
theorem dX11_traceNow_42 : decode cX11_traceNow 42 = .ok (.iload_n 3, 1) := eX11_traceNow_39q.2.1
theorem dX11_traceNow_43 : decode cX11_traceNow 43 = .ok (.ireturn, 1) := eX11_traceNow_39q.2.2.1
theorem dX11_traceNow_44 : decode cX11_traceNow 44 = .ok (.iinc 3 1, 3) := eX11_traceNow_39q.2.2.2.1
theorem dX11_traceNow_47 : decode cX11_traceNow 47 = .ok (.goto (-40), 3) := eX11_traceNow_39q.2.2.2.2.1
theorem dX11_traceNow_50 : decode cX11_traceNow 50 = .ok (.bipush 10, 2) := eX11_traceNow_39q.2.2.2.2.2.1
theorem dX11_traceNow_52 : decode cX11_traceNow 52 = .ok (.ireturn, 1) := eX11_traceNow_39q.2.2.2.2.2.2
theorem eX11_keep_0q : (decode cX11_keep 0 = .ok (.aload_n 0, 1)) ∧ (decode cX11_keep 1 = .ok (.getfield 250, 3)) ∧ (decode cX11_keep 4 = .ok (.bipush 40, 2)) ∧ (decode cX11_keep 6 = .ok (.if_icmp .ne 48, 3)) ∧ (decode cX11_keep 9 = .ok (.sipush 1019, 3)) ∧ (decode cX11_keep 12 = .ok (.istore_n 1, 1)) ∧ (decode cX11_keep 13 = .ok (.iload_n 1, 1)) ∧ (decode cX11_keep 14 = .ok (.aload_n 0, 1)) := by decide +kernel
theorem dX11_keep_0 : decode cX11_keep 0 = .ok (.aload_n 0, 1) := eX11_keep_0q.1
theorem dX11_keep_1 : decode cX11_keep 1 = .ok (.getfield 250, 3) := eX11_keep_0q.2.1
theorem dX11_keep_4 : decode cX11_keep 4 = .ok (.bipush 40, 2) := eX11_keep_0q.2.2.1
theorem dX11_keep_6 : decode cX11_keep 6 = .ok (.if_icmp .ne 48, 3) := eX11_keep_0q.2.2.2.1
theorem dX11_keep_9 : decode cX11_keep 9 = .ok (.sipush 1019, 3) := eX11_keep_0q.2.2.2.2.1
theorem dX11_keep_12 : decode cX11_keep 12 = .ok (.istore_n 1, 1) := eX11_keep_0q.2.2.2.2.2.1
theorem dX11_keep_13 : decode cX11_keep 13 = .ok (.iload_n 1, 1) := eX11_keep_0q.2.2.2.2.2.2.1
theorem dX11_keep_14 : decode cX11_keep 14 = .ok (.aload_n 0, 1) := eX11_keep_0q.2.2.2.2.2.2.2
theorem eX11_keep_15q : (decode cX11_keep 15 = .ok (.getfield 84, 3)) ∧ (decode cX11_keep 18 = .ok (.arraylength, 1)) ∧ (decode cX11_keep 19 = .ok (.if_icmp .ge 25, 3)) ∧ (decode cX11_keep 22 = .ok (.aload_n 0, 1)) ∧ (decode cX11_keep 23 = .ok (.getfield 84, 3)) ∧ (decode cX11_keep 26 = .ok (.iload_n 1, 1)) ∧ (decode cX11_keep 27 = .ok (.sipush 1019, 3)) ∧ (decode cX11_keep 30 = .ok (.isub, 1)) := by decide +kernel
theorem dX11_keep_15 : decode cX11_keep 15 = .ok (.getfield 84, 3) := eX11_keep_15q.1
theorem dX11_keep_18 : decode cX11_keep 18 = .ok (.arraylength, 1) := eX11_keep_15q.2.1
theorem dX11_keep_19 : decode cX11_keep 19 = .ok (.if_icmp .ge 25, 3) := eX11_keep_15q.2.2.1
theorem dX11_keep_22 : decode cX11_keep 22 = .ok (.aload_n 0, 1) := eX11_keep_15q.2.2.2.1
theorem dX11_keep_23 : decode cX11_keep 23 = .ok (.getfield 84, 3) := eX11_keep_15q.2.2.2.2.1
theorem dX11_keep_26 : decode cX11_keep 26 = .ok (.iload_n 1, 1) := eX11_keep_15q.2.2.2.2.2.1
theorem dX11_keep_27 : decode cX11_keep 27 = .ok (.sipush 1019, 3) := eX11_keep_15q.2.2.2.2.2.2.1
theorem dX11_keep_30 : decode cX11_keep 30 = .ok (.isub, 1) := eX11_keep_15q.2.2.2.2.2.2.2
theorem eX11_keep_31q : (decode cX11_keep 31 = .ok (.aload_n 0, 1)) ∧ (decode cX11_keep 32 = .ok (.getfield 84, 3)) ∧ (decode cX11_keep 35 = .ok (.iload_n 1, 1)) ∧ (decode cX11_keep 36 = .ok (.iaload, 1)) ∧ (decode cX11_keep 37 = .ok (.iastore, 1)) ∧ (decode cX11_keep 38 = .ok (.iinc 1 1, 3)) ∧ (decode cX11_keep 41 = .ok (.goto (-28), 3)) ∧ (decode cX11_keep 44 = .ok (.aload_n 0, 1)) := by decide +kernel
theorem dX11_keep_31 : decode cX11_keep 31 = .ok (.aload_n 0, 1) := eX11_keep_31q.1
theorem dX11_keep_32 : decode cX11_keep 32 = .ok (.getfield 84, 3) := eX11_keep_31q.2.1
theorem dX11_keep_35 : decode cX11_keep 35 = .ok (.iload_n 1, 1) := eX11_keep_31q.2.2.1
theorem dX11_keep_36 : decode cX11_keep 36 = .ok (.iaload, 1) := eX11_keep_31q.2.2.2.1
theorem dX11_keep_37 : decode cX11_keep 37 = .ok (.iastore, 1) := eX11_keep_31q.2.2.2.2.1
theorem dX11_keep_38 : decode cX11_keep 38 = .ok (.iinc 1 1, 3) := eX11_keep_31q.2.2.2.2.2.1
theorem dX11_keep_41 : decode cX11_keep 41 = .ok (.goto (-28), 3) := eX11_keep_31q.2.2.2.2.2.2.1
theorem dX11_keep_44 : decode cX11_keep 44 = .ok (.aload_n 0, 1) := eX11_keep_31q.2.2.2.2.2.2.2
theorem eX11_keep_45q : (decode cX11_keep 45 = .ok (.dup, 1)) ∧ (decode cX11_keep 46 = .ok (.getfield 250, 3)) ∧ (decode cX11_keep 49 = .ok (.iconst 1, 1)) ∧ (decode cX11_keep 50 = .ok (.isub, 1)) ∧ (decode cX11_keep 51 = .ok (.putfield 250, 3)) ∧ (decode cX11_keep 54 = .ok (.iconst 0, 1)) ∧ (decode cX11_keep 55 = .ok (.istore_n 1, 1)) ∧ (decode cX11_keep 56 = .ok (.iload_n 1, 1)) := by decide +kernel
theorem dX11_keep_45 : decode cX11_keep 45 = .ok (.dup, 1) := eX11_keep_45q.1
theorem dX11_keep_46 : decode cX11_keep 46 = .ok (.getfield 250, 3) := eX11_keep_45q.2.1
theorem dX11_keep_49 : decode cX11_keep 49 = .ok (.iconst 1, 1) := eX11_keep_45q.2.2.1
theorem dX11_keep_50 : decode cX11_keep 50 = .ok (.isub, 1) := eX11_keep_45q.2.2.2.1
theorem dX11_keep_51 : decode cX11_keep 51 = .ok (.putfield 250, 3) := eX11_keep_45q.2.2.2.2.1
theorem dX11_keep_54 : decode cX11_keep 54 = .ok (.iconst 0, 1) := eX11_keep_45q.2.2.2.2.2.1
theorem dX11_keep_55 : decode cX11_keep 55 = .ok (.istore_n 1, 1) := eX11_keep_45q.2.2.2.2.2.2.1
theorem dX11_keep_56 : decode cX11_keep 56 = .ok (.iload_n 1, 1) := eX11_keep_45q.2.2.2.2.2.2.2
theorem eX11_keep_57q : (decode cX11_keep 57 = .ok (.sipush 1019, 3)) ∧ (decode cX11_keep 60 = .ok (.if_icmp .ge 30, 3)) ∧ (decode cX11_keep 63 = .ok (.aload_n 0, 1)) ∧ (decode cX11_keep 64 = .ok (.getfield 84, 3)) ∧ (decode cX11_keep 67 = .ok (.sipush 1019, 3)) ∧ (decode cX11_keep 70 = .ok (.aload_n 0, 1)) ∧ (decode cX11_keep 71 = .ok (.getfield 250, 3)) ∧ (decode cX11_keep 74 = .ok (.imul, 1)) := by decide +kernel
theorem dX11_keep_57 : decode cX11_keep 57 = .ok (.sipush 1019, 3) := eX11_keep_57q.1
theorem dX11_keep_60 : decode cX11_keep 60 = .ok (.if_icmp .ge 30, 3) := eX11_keep_57q.2.1
theorem dX11_keep_63 : decode cX11_keep 63 = .ok (.aload_n 0, 1) := eX11_keep_57q.2.2.1
theorem dX11_keep_64 : decode cX11_keep 64 = .ok (.getfield 84, 3) := eX11_keep_57q.2.2.2.1
theorem dX11_keep_67 : decode cX11_keep 67 = .ok (.sipush 1019, 3) := eX11_keep_57q.2.2.2.2.1
theorem dX11_keep_70 : decode cX11_keep 70 = .ok (.aload_n 0, 1) := eX11_keep_57q.2.2.2.2.2.1
theorem dX11_keep_71 : decode cX11_keep 71 = .ok (.getfield 250, 3) := eX11_keep_57q.2.2.2.2.2.2.1
theorem dX11_keep_74 : decode cX11_keep 74 = .ok (.imul, 1) := eX11_keep_57q.2.2.2.2.2.2.2
theorem eX11_keep_75q : (decode cX11_keep 75 = .ok (.iload_n 1, 1)) ∧ (decode cX11_keep 76 = .ok (.iadd, 1)) ∧ (decode cX11_keep 77 = .ok (.aload_n 0, 1)) ∧ (decode cX11_keep 78 = .ok (.getfield 60, 3)) ∧ (decode cX11_keep 81 = .ok (.iload_n 1, 1)) ∧ (decode cX11_keep 82 = .ok (.iaload, 1)) ∧ (decode cX11_keep 83 = .ok (.iastore, 1)) ∧ (decode cX11_keep 84 = .ok (.iinc 1 1, 3)) := by decide +kernel
theorem dX11_keep_75 : decode cX11_keep 75 = .ok (.iload_n 1, 1) := eX11_keep_75q.1
theorem dX11_keep_76 : decode cX11_keep 76 = .ok (.iadd, 1) := eX11_keep_75q.2.1
theorem dX11_keep_77 : decode cX11_keep 77 = .ok (.aload_n 0, 1) := eX11_keep_75q.2.2.1
theorem dX11_keep_78 : decode cX11_keep 78 = .ok (.getfield 60, 3) := eX11_keep_75q.2.2.2.1
theorem dX11_keep_81 : decode cX11_keep 81 = .ok (.iload_n 1, 1) := eX11_keep_75q.2.2.2.2.1
theorem dX11_keep_82 : decode cX11_keep 82 = .ok (.iaload, 1) := eX11_keep_75q.2.2.2.2.2.1
theorem dX11_keep_83 : decode cX11_keep 83 = .ok (.iastore, 1) := eX11_keep_75q.2.2.2.2.2.2.1
theorem dX11_keep_84 : decode cX11_keep 84 = .ok (.iinc 1 1, 3) := eX11_keep_75q.2.2.2.2.2.2.2
theorem eX11_keep_87q : (decode cX11_keep 87 = .ok (.goto (-31), 3)) ∧ (decode cX11_keep 90 = .ok (.aload_n 0, 1)) ∧ (decode cX11_keep 91 = .ok (.dup, 1)) ∧ (decode cX11_keep 92 = .ok (.getfield 250, 3)) ∧ (decode cX11_keep 95 = .ok (.iconst 1, 1)) ∧ (decode cX11_keep 96 = .ok (.iadd, 1)) ∧ (decode cX11_keep 97 = .ok (.putfield 250, 3)) ∧ (decode cX11_keep 100 = .ok (.return_, 1)) := by decide +kernel
theorem dX11_keep_87 : decode cX11_keep 87 = .ok (.goto (-31), 3) := eX11_keep_87q.1
theorem dX11_keep_90 : decode cX11_keep 90 = .ok (.aload_n 0, 1) := eX11_keep_87q.2.1
theorem dX11_keep_91 : decode cX11_keep 91 = .ok (.dup, 1) := eX11_keep_87q.2.2.1
theorem dX11_keep_92 : decode cX11_keep 92 = .ok (.getfield 250, 3) := eX11_keep_87q.2.2.2.1
theorem dX11_keep_95 : decode cX11_keep 95 = .ok (.iconst 1, 1) := eX11_keep_87q.2.2.2.2.1
theorem dX11_keep_96 : decode cX11_keep 96 = .ok (.iadd, 1) := eX11_keep_87q.2.2.2.2.2.1
theorem dX11_keep_97 : decode cX11_keep 97 = .ok (.putfield 250, 3) := eX11_keep_87q.2.2.2.2.2.2.1
theorem dX11_keep_100 : decode cX11_keep 100 = .ok (.return_, 1) := eX11_keep_87q.2.2.2.2.2.2.2
theorem eX11_undo_0q : (decode cX11_undo 0 = .ok (.aload_n 0, 1)) ∧ (decode cX11_undo 1 = .ok (.iconst 0, 1)) ∧ (decode cX11_undo 2 = .ok (.putfield 142, 3)) ∧ (decode cX11_undo 5 = .ok (.aload_n 0, 1)) ∧ (decode cX11_undo 6 = .ok (.getfield 250, 3)) ∧ (decode cX11_undo 9 = .ok (.ifCond .ne 5, 3)) ∧ (decode cX11_undo 12 = .ok (.iconst (-1), 1)) ∧ (decode cX11_undo 13 = .ok (.ireturn, 1)) := by decide +kernel
theorem dX11_undo_0 : decode cX11_undo 0 = .ok (.aload_n 0, 1) := eX11_undo_0q.1
theorem dX11_undo_1 : decode cX11_undo 1 = .ok (.iconst 0, 1) := eX11_undo_0q.2.1
theorem dX11_undo_2 : decode cX11_undo 2 = .ok (.putfield 142, 3) := eX11_undo_0q.2.2.1
theorem dX11_undo_5 : decode cX11_undo 5 = .ok (.aload_n 0, 1) := eX11_undo_0q.2.2.2.1
theorem dX11_undo_6 : decode cX11_undo 6 = .ok (.getfield 250, 3) := eX11_undo_0q.2.2.2.2.1
theorem dX11_undo_9 : decode cX11_undo 9 = .ok (.ifCond .ne 5, 3) := eX11_undo_0q.2.2.2.2.2.1
theorem dX11_undo_12 : decode cX11_undo 12 = .ok (.iconst (-1), 1) := eX11_undo_0q.2.2.2.2.2.2.1
theorem dX11_undo_13 : decode cX11_undo 13 = .ok (.ireturn, 1) := eX11_undo_0q.2.2.2.2.2.2.2
theorem eX11_undo_14q : (decode cX11_undo 14 = .ok (.aload_n 0, 1)) ∧ (decode cX11_undo 15 = .ok (.dup, 1)) ∧ (decode cX11_undo 16 = .ok (.getfield 250, 3)) ∧ (decode cX11_undo 19 = .ok (.iconst 1, 1)) ∧ (decode cX11_undo 20 = .ok (.isub, 1)) ∧ (decode cX11_undo 21 = .ok (.putfield 250, 3)) ∧ (decode cX11_undo 24 = .ok (.iconst 0, 1)) ∧ (decode cX11_undo 25 = .ok (.istore_n 1, 1)) := by decide +kernel
theorem dX11_undo_14 : decode cX11_undo 14 = .ok (.aload_n 0, 1) := eX11_undo_14q.1
theorem dX11_undo_15 : decode cX11_undo 15 = .ok (.dup, 1) := eX11_undo_14q.2.1
theorem dX11_undo_16 : decode cX11_undo 16 = .ok (.getfield 250, 3) := eX11_undo_14q.2.2.1
theorem dX11_undo_19 : decode cX11_undo 19 = .ok (.iconst 1, 1) := eX11_undo_14q.2.2.2.1
theorem dX11_undo_20 : decode cX11_undo 20 = .ok (.isub, 1) := eX11_undo_14q.2.2.2.2.1
theorem dX11_undo_21 : decode cX11_undo 21 = .ok (.putfield 250, 3) := eX11_undo_14q.2.2.2.2.2.1
theorem dX11_undo_24 : decode cX11_undo 24 = .ok (.iconst 0, 1) := eX11_undo_14q.2.2.2.2.2.2.1
theorem dX11_undo_25 : decode cX11_undo 25 = .ok (.istore_n 1, 1) := eX11_undo_14q.2.2.2.2.2.2.2
theorem eX11_undo_26q : (decode cX11_undo 26 = .ok (.iload_n 1, 1)) ∧ (decode cX11_undo 27 = .ok (.sipush 1019, 3)) ∧ (decode cX11_undo 30 = .ok (.if_icmp .ge 30, 3)) ∧ (decode cX11_undo 33 = .ok (.aload_n 0, 1)) ∧ (decode cX11_undo 34 = .ok (.getfield 60, 3)) ∧ (decode cX11_undo 37 = .ok (.iload_n 1, 1)) ∧ (decode cX11_undo 38 = .ok (.aload_n 0, 1)) ∧ (decode cX11_undo 39 = .ok (.getfield 84, 3)) := by decide +kernel
theorem dX11_undo_26 : decode cX11_undo 26 = .ok (.iload_n 1, 1) := eX11_undo_26q.1
theorem dX11_undo_27 : decode cX11_undo 27 = .ok (.sipush 1019, 3) := eX11_undo_26q.2.1
theorem dX11_undo_30 : decode cX11_undo 30 = .ok (.if_icmp .ge 30, 3) := eX11_undo_26q.2.2.1
theorem dX11_undo_33 : decode cX11_undo 33 = .ok (.aload_n 0, 1) := eX11_undo_26q.2.2.2.1
theorem dX11_undo_34 : decode cX11_undo 34 = .ok (.getfield 60, 3) := eX11_undo_26q.2.2.2.2.1
theorem dX11_undo_37 : decode cX11_undo 37 = .ok (.iload_n 1, 1) := eX11_undo_26q.2.2.2.2.2.1
theorem dX11_undo_38 : decode cX11_undo 38 = .ok (.aload_n 0, 1) := eX11_undo_26q.2.2.2.2.2.2.1
theorem dX11_undo_39 : decode cX11_undo 39 = .ok (.getfield 84, 3) := eX11_undo_26q.2.2.2.2.2.2.2
theorem eX11_undo_42q : (decode cX11_undo 42 = .ok (.sipush 1019, 3)) ∧ (decode cX11_undo 45 = .ok (.aload_n 0, 1)) ∧ (decode cX11_undo 46 = .ok (.getfield 250, 3)) ∧ (decode cX11_undo 49 = .ok (.imul, 1)) ∧ (decode cX11_undo 50 = .ok (.iload_n 1, 1)) ∧ (decode cX11_undo 51 = .ok (.iadd, 1)) ∧ (decode cX11_undo 52 = .ok (.iaload, 1)) ∧ (decode cX11_undo 53 = .ok (.iastore, 1)) := by decide +kernel
theorem dX11_undo_42 : decode cX11_undo 42 = .ok (.sipush 1019, 3) := eX11_undo_42q.1
theorem dX11_undo_45 : decode cX11_undo 45 = .ok (.aload_n 0, 1) := eX11_undo_42q.2.1
theorem dX11_undo_46 : decode cX11_undo 46 = .ok (.getfield 250, 3) := eX11_undo_42q.2.2.1
theorem dX11_undo_49 : decode cX11_undo 49 = .ok (.imul, 1) := eX11_undo_42q.2.2.2.1
theorem dX11_undo_50 : decode cX11_undo 50 = .ok (.iload_n 1, 1) := eX11_undo_42q.2.2.2.2.1
theorem dX11_undo_51 : decode cX11_undo 51 = .ok (.iadd, 1) := eX11_undo_42q.2.2.2.2.2.1
theorem dX11_undo_52 : decode cX11_undo 52 = .ok (.iaload, 1) := eX11_undo_42q.2.2.2.2.2.2.1
theorem dX11_undo_53 : decode cX11_undo 53 = .ok (.iastore, 1) := eX11_undo_42q.2.2.2.2.2.2.2
theorem eX11_undo_54q : (decode cX11_undo 54 = .ok (.iinc 1 1, 3)) ∧ (decode cX11_undo 57 = .ok (.goto (-31), 3)) ∧ (decode cX11_undo 60 = .ok (.aload_n 0, 1)) ∧ (decode cX11_undo 61 = .ok (.getfield 250, 3)) ∧ (decode cX11_undo 64 = .ok (.ireturn, 1)) := by decide +kernel
theorem dX11_undo_54 : decode cX11_undo 54 = .ok (.iinc 1 1, 3) := eX11_undo_54q.1
theorem dX11_undo_57 : decode cX11_undo 57 = .ok (.goto (-31), 3) := eX11_undo_54q.2.1
theorem dX11_undo_60 : decode cX11_undo 60 = .ok (.aload_n 0, 1) := eX11_undo_54q.2.2.1
theorem dX11_undo_61 : decode cX11_undo 61 = .ok (.getfield 250, 3) := eX11_undo_54q.2.2.2.1
theorem dX11_undo_64 : decode cX11_undo 64 = .ok (.ireturn, 1) := eX11_undo_54q.2.2.2.2
set_option maxRecDepth 20000 in
theorem ggX11_wholeWay_X11_goesBy : GoodIn wsX11_wholeWay wsX11_goesBy := by
  have h := goodIn_app (goodIn_r (big := wsX11_wholeWay) (.code yX11_goesBy cX11_goesBy 9 (some .int) :: (wsX11_goesBy_r1 ++ wsX11_goesBy_r2) : List Cond) [9, 3, 10, 11, 12, 13, 14, 15, 16, 17, 18, 19, 8, 20, 21, 22, 23, 24, 25, 26, 27, 28, 29, 30, 31, 4, 32, 33, 34, 35] rfl (by decide +kernel)) (goodIn_few (big := wsX11_wholeWay) (fun _ h9 => List.mem_cons_of_mem _ (List.mem_append_right _ h9)) gb_0)
  exact h
set_option maxRecDepth 20000 in
theorem gX11_wholeWay_X11_goesBy : GoodIn wsX11_wholeWay (wsV RX11 289 RX11 yX11_goesBy wsX11_goesBy) := goodIn_app (goodIn_r _ [5, 6, 7, 8] rfl (by decide +kernel)) ggX11_wholeWay_X11_goesBy
theorem eX11_wholeWay_0q : (decode cX11_wholeWay 0 = .ok (.aload_n 0, 1)) ∧ (decode cX11_wholeWay 1 = .ok (.iconst 0, 1)) ∧ (decode cX11_wholeWay 2 = .ok (.putfield 440, 3)) ∧ (decode cX11_wholeWay 5 = .ok (.aload_n 0, 1)) ∧ (decode cX11_wholeWay 6 = .ok (.iconst (-1), 1)) ∧ (decode cX11_wholeWay 7 = .ok (.putfield 443, 3)) ∧ (decode cX11_wholeWay 10 = .ok (.iconst 0, 1)) ∧ (decode cX11_wholeWay 11 = .ok (.istore_n 3, 1)) := by decide +kernel
theorem dX11_wholeWay_0 : decode cX11_wholeWay 0 = .ok (.aload_n 0, 1) := eX11_wholeWay_0q.1
theorem dX11_wholeWay_1 : decode cX11_wholeWay 1 = .ok (.iconst 0, 1) := eX11_wholeWay_0q.2.1
theorem dX11_wholeWay_2 : decode cX11_wholeWay 2 = .ok (.putfield 440, 3) := eX11_wholeWay_0q.2.2.1
theorem dX11_wholeWay_5 : decode cX11_wholeWay 5 = .ok (.aload_n 0, 1) := eX11_wholeWay_0q.2.2.2.1
theorem dX11_wholeWay_6 : decode cX11_wholeWay 6 = .ok (.iconst (-1), 1) := eX11_wholeWay_0q.2.2.2.2.1
theorem dX11_wholeWay_7 : decode cX11_wholeWay 7 = .ok (.putfield 443, 3) := eX11_wholeWay_0q.2.2.2.2.2.1
theorem dX11_wholeWay_10 : decode cX11_wholeWay 10 = .ok (.iconst 0, 1) := eX11_wholeWay_0q.2.2.2.2.2.2.1
theorem dX11_wholeWay_11 : decode cX11_wholeWay 11 = .ok (.istore_n 3, 1) := eX11_wholeWay_0q.2.2.2.2.2.2.2
theorem eX11_wholeWay_12q : (decode cX11_wholeWay 12 = .ok (.iconst 0, 1)) ∧ (decode cX11_wholeWay 13 = .ok (.istore 4, 2)) ∧ (decode cX11_wholeWay 15 = .ok (.iconst (-1), 1)) ∧ (decode cX11_wholeWay 16 = .ok (.istore 5, 2)) ∧ (decode cX11_wholeWay 18 = .ok (.iload_n 3, 1)) ∧ (decode cX11_wholeWay 19 = .ok (.aload_n 0, 1)) ∧ (decode cX11_wholeWay 20 = .ok (.getfield 58, 3)) ∧ (decode cX11_wholeWay 23 = .ok (.iload_n 2, 1)) := by decide +kernel
theorem dX11_wholeWay_12 : decode cX11_wholeWay 12 = .ok (.iconst 0, 1) := eX11_wholeWay_12q.1
theorem dX11_wholeWay_13 : decode cX11_wholeWay 13 = .ok (.istore 4, 2) := eX11_wholeWay_12q.2.1
theorem dX11_wholeWay_15 : decode cX11_wholeWay 15 = .ok (.iconst (-1), 1) := eX11_wholeWay_12q.2.2.1
theorem dX11_wholeWay_16 : decode cX11_wholeWay 16 = .ok (.istore 5, 2) := eX11_wholeWay_12q.2.2.2.1
theorem dX11_wholeWay_18 : decode cX11_wholeWay 18 = .ok (.iload_n 3, 1) := eX11_wholeWay_12q.2.2.2.2.1
theorem dX11_wholeWay_19 : decode cX11_wholeWay 19 = .ok (.aload_n 0, 1) := eX11_wholeWay_12q.2.2.2.2.2.1
theorem dX11_wholeWay_20 : decode cX11_wholeWay 20 = .ok (.getfield 58, 3) := eX11_wholeWay_12q.2.2.2.2.2.2.1
theorem dX11_wholeWay_23 : decode cX11_wholeWay 23 = .ok (.iload_n 2, 1) := eX11_wholeWay_12q.2.2.2.2.2.2.2
theorem eX11_wholeWay_24q : (decode cX11_wholeWay 24 = .ok (.iaload, 1)) ∧ (decode cX11_wholeWay 25 = .ok (.if_icmp .eq 53, 3)) ∧ (decode cX11_wholeWay 28 = .ok (.aload_n 0, 1)) ∧ (decode cX11_wholeWay 29 = .ok (.iload_n 3, 1)) ∧ (decode cX11_wholeWay 30 = .ok (.iload_n 1, 1)) ∧ (decode cX11_wholeWay 31 = .ok (.iload_n 2, 1)) ∧ (decode cX11_wholeWay 32 = .ok (.invokevirtual 289, 3)) ∧ (decode cX11_wholeWay 35 = .ok (.istore 6, 2)) := by decide +kernel
theorem dX11_wholeWay_24 : decode cX11_wholeWay 24 = .ok (.iaload, 1) := eX11_wholeWay_24q.1
theorem dX11_wholeWay_25 : decode cX11_wholeWay 25 = .ok (.if_icmp .eq 53, 3) := eX11_wholeWay_24q.2.1
theorem dX11_wholeWay_28 : decode cX11_wholeWay 28 = .ok (.aload_n 0, 1) := eX11_wholeWay_24q.2.2.1
theorem dX11_wholeWay_29 : decode cX11_wholeWay 29 = .ok (.iload_n 3, 1) := eX11_wholeWay_24q.2.2.2.1
theorem dX11_wholeWay_30 : decode cX11_wholeWay 30 = .ok (.iload_n 1, 1) := eX11_wholeWay_24q.2.2.2.2.1
theorem dX11_wholeWay_31 : decode cX11_wholeWay 31 = .ok (.iload_n 2, 1) := eX11_wholeWay_24q.2.2.2.2.2.1
theorem dX11_wholeWay_32 : decode cX11_wholeWay 32 = .ok (.invokevirtual 289, 3) := eX11_wholeWay_24q.2.2.2.2.2.2.1
theorem dX11_wholeWay_35 : decode cX11_wholeWay 35 = .ok (.istore 6, 2) := eX11_wholeWay_24q.2.2.2.2.2.2.2
theorem eX11_wholeWay_37q : (decode cX11_wholeWay 37 = .ok (.iload 6, 2)) ∧ (decode cX11_wholeWay 39 = .ok (.iconst (-1), 1)) ∧ (decode cX11_wholeWay 40 = .ok (.if_icmp .ne 4, 3)) ∧ (decode cX11_wholeWay 43 = .ok (.return_, 1)) ∧ (decode cX11_wholeWay 44 = .ok (.aload_n 0, 1)) ∧ (decode cX11_wholeWay 45 = .ok (.dup, 1)) ∧ (decode cX11_wholeWay 46 = .ok (.getfield 440, 3)) ∧ (decode cX11_wholeWay 49 = .ok (.iconst 1, 1)) := by decide +kernel
theorem dX11_wholeWay_37 : decode cX11_wholeWay 37 = .ok (.iload 6, 2) := eX11_wholeWay_37q.1
theorem dX11_wholeWay_39 : decode cX11_wholeWay 39 = .ok (.iconst (-1), 1) := eX11_wholeWay_37q.2.1
theorem dX11_wholeWay_40 : decode cX11_wholeWay 40 = .ok (.if_icmp .ne 4, 3) := eX11_wholeWay_37q.2.2.1
theorem dX11_wholeWay_43 : decode cX11_wholeWay 43 = .ok (.return_, 1) := eX11_wholeWay_37q.2.2.2.1
theorem dX11_wholeWay_44 : decode cX11_wholeWay 44 = .ok (.aload_n 0, 1) := eX11_wholeWay_37q.2.2.2.2.1
theorem dX11_wholeWay_45 : decode cX11_wholeWay 45 = .ok (.dup, 1) := eX11_wholeWay_37q.2.2.2.2.2.1
theorem dX11_wholeWay_46 : decode cX11_wholeWay 46 = .ok (.getfield 440, 3) := eX11_wholeWay_37q.2.2.2.2.2.2.1
theorem dX11_wholeWay_49 : decode cX11_wholeWay 49 = .ok (.iconst 1, 1) := eX11_wholeWay_37q.2.2.2.2.2.2.2
theorem eX11_wholeWay_50q : (decode cX11_wholeWay 50 = .ok (.iload 6, 2)) ∧ (decode cX11_wholeWay 52 = .ok (.ishl, 1)) ∧ (decode cX11_wholeWay 53 = .ok (.ior, 1)) ∧ (decode cX11_wholeWay 54 = .ok (.putfield 440, 3)) ∧ (decode cX11_wholeWay 57 = .ok (.iload 4, 2)) ∧ (decode cX11_wholeWay 59 = .ok (.istore 5, 2)) ∧ (decode cX11_wholeWay 61 = .ok (.iload 6, 2)) ∧ (decode cX11_wholeWay 63 = .ok (.iconst 1, 1)) := by decide +kernel
theorem dX11_wholeWay_50 : decode cX11_wholeWay 50 = .ok (.iload 6, 2) := eX11_wholeWay_50q.1
theorem dX11_wholeWay_52 : decode cX11_wholeWay 52 = .ok (.ishl, 1) := eX11_wholeWay_50q.2.1
theorem dX11_wholeWay_53 : decode cX11_wholeWay 53 = .ok (.ior, 1) := eX11_wholeWay_50q.2.2.1
theorem dX11_wholeWay_54 : decode cX11_wholeWay 54 = .ok (.putfield 440, 3) := eX11_wholeWay_50q.2.2.2.1
theorem dX11_wholeWay_57 : decode cX11_wholeWay 57 = .ok (.iload 4, 2) := eX11_wholeWay_50q.2.2.2.2.1
theorem dX11_wholeWay_59 : decode cX11_wholeWay 59 = .ok (.istore 5, 2) := eX11_wholeWay_50q.2.2.2.2.2.1
theorem dX11_wholeWay_61 : decode cX11_wholeWay 61 = .ok (.iload 6, 2) := eX11_wholeWay_50q.2.2.2.2.2.2.1
theorem dX11_wholeWay_63 : decode cX11_wholeWay 63 = .ok (.iconst 1, 1) := eX11_wholeWay_50q.2.2.2.2.2.2.2
theorem eX11_wholeWay_64q : (decode cX11_wholeWay 64 = .ok (.iadd, 1)) ∧ (decode cX11_wholeWay 65 = .ok (.istore 4, 2)) ∧ (decode cX11_wholeWay 67 = .ok (.aload_n 0, 1)) ∧ (decode cX11_wholeWay 68 = .ok (.getfield 56, 3)) ∧ (decode cX11_wholeWay 71 = .ok (.iload 6, 2)) ∧ (decode cX11_wholeWay 73 = .ok (.iaload, 1)) ∧ (decode cX11_wholeWay 74 = .ok (.istore_n 3, 1)) ∧ (decode cX11_wholeWay 75 = .ok (.goto (-57), 3)) := by decide +kernel
theorem dX11_wholeWay_64 : decode cX11_wholeWay 64 = .ok (.iadd, 1) := eX11_wholeWay_64q.1
theorem dX11_wholeWay_65 : decode cX11_wholeWay 65 = .ok (.istore 4, 2) := eX11_wholeWay_64q.2.1
theorem dX11_wholeWay_67 : decode cX11_wholeWay 67 = .ok (.aload_n 0, 1) := eX11_wholeWay_64q.2.2.1
theorem dX11_wholeWay_68 : decode cX11_wholeWay 68 = .ok (.getfield 56, 3) := eX11_wholeWay_64q.2.2.2.1
theorem dX11_wholeWay_71 : decode cX11_wholeWay 71 = .ok (.iload 6, 2) := eX11_wholeWay_64q.2.2.2.2.1
theorem dX11_wholeWay_73 : decode cX11_wholeWay 73 = .ok (.iaload, 1) := eX11_wholeWay_64q.2.2.2.2.2.1
theorem dX11_wholeWay_74 : decode cX11_wholeWay 74 = .ok (.istore_n 3, 1) := eX11_wholeWay_64q.2.2.2.2.2.2.1
theorem dX11_wholeWay_75 : decode cX11_wholeWay 75 = .ok (.goto (-57), 3) := eX11_wholeWay_64q.2.2.2.2.2.2.2
theorem eX11_wholeWay_78q : (decode cX11_wholeWay 78 = .ok (.aload_n 0, 1)) ∧ (decode cX11_wholeWay 79 = .ok (.iload 5, 2)) ∧ (decode cX11_wholeWay 81 = .ok (.putfield 443, 3)) ∧ (decode cX11_wholeWay 84 = .ok (.return_, 1)) := by decide +kernel
theorem dX11_wholeWay_78 : decode cX11_wholeWay 78 = .ok (.aload_n 0, 1) := eX11_wholeWay_78q.1
theorem dX11_wholeWay_79 : decode cX11_wholeWay 79 = .ok (.iload 5, 2) := eX11_wholeWay_78q.2.1
theorem dX11_wholeWay_81 : decode cX11_wholeWay 81 = .ok (.putfield 443, 3) := eX11_wholeWay_78q.2.2.1
theorem dX11_wholeWay_84 : decode cX11_wholeWay 84 = .ok (.return_, 1) := eX11_wholeWay_78q.2.2.2
