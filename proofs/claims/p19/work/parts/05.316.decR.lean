theorem eX11_feed_0q : (decode cX11_feed 0 = .ok (.aload_n 0, 1)) ∧ (decode cX11_feed 1 = .ok (.iconst 0, 1)) ∧ (decode cX11_feed 2 = .ok (.putfield 142, 3)) ∧ (decode cX11_feed 5 = .ok (.aload_n 0, 1)) ∧ (decode cX11_feed 6 = .ok (.getfield 145, 3)) ∧ (decode cX11_feed 9 = .ok (.bipush 20, 2)) ∧ (decode cX11_feed 11 = .ok (.iadd, 1)) ∧ (decode cX11_feed 12 = .ok (.sipush 700, 3)) := by decide +kernel
theorem dX11_feed_0 : decode cX11_feed 0 = .ok (.aload_n 0, 1) := eX11_feed_0q.1
theorem dX11_feed_1 : decode cX11_feed 1 = .ok (.iconst 0, 1) := eX11_feed_0q.2.1
theorem dX11_feed_2 : decode cX11_feed 2 = .ok (.putfield 142, 3) := eX11_feed_0q.2.2.1
theorem dX11_feed_5 : decode cX11_feed 5 = .ok (.aload_n 0, 1) := eX11_feed_0q.2.2.2.1
theorem dX11_feed_6 : decode cX11_feed 6 = .ok (.getfield 145, 3) := eX11_feed_0q.2.2.2.2.1
theorem dX11_feed_9 : decode cX11_feed 9 = .ok (.bipush 20, 2) := eX11_feed_0q.2.2.2.2.2.1
theorem dX11_feed_11 : decode cX11_feed 11 = .ok (.iadd, 1) := eX11_feed_0q.2.2.2.2.2.2.1
theorem dX11_feed_12 : decode cX11_feed 12 = .ok (.sipush 700, 3) := eX11_feed_0q.2.2.2.2.2.2.2
theorem eX11_feed_15q : (decode cX11_feed 15 = .ok (.if_icmp .le 5, 3)) ∧ (decode cX11_feed 18 = .ok (.iconst (-1), 1)) ∧ (decode cX11_feed 19 = .ok (.ireturn, 1)) ∧ (decode cX11_feed 20 = .ok (.iconst 0, 1)) ∧ (decode cX11_feed 21 = .ok (.istore 6, 2)) ∧ (decode cX11_feed 23 = .ok (.iload 6, 2)) ∧ (decode cX11_feed 25 = .ok (.bipush 20, 2)) ∧ (decode cX11_feed 27 = .ok (.if_icmp .ge 93, 3)) := by decide +kernel
theorem dX11_feed_15 : decode cX11_feed 15 = .ok (.if_icmp .le 5, 3) := eX11_feed_15q.1
theorem dX11_feed_18 : decode cX11_feed 18 = .ok (.iconst (-1), 1) := eX11_feed_15q.2.1
theorem dX11_feed_19 : decode cX11_feed 19 = .ok (.ireturn, 1) := eX11_feed_15q.2.2.1
theorem dX11_feed_20 : decode cX11_feed 20 = .ok (.iconst 0, 1) := eX11_feed_15q.2.2.2.1
theorem dX11_feed_21 : decode cX11_feed 21 = .ok (.istore 6, 2) := eX11_feed_15q.2.2.2.2.1
theorem dX11_feed_23 : decode cX11_feed 23 = .ok (.iload 6, 2) := eX11_feed_15q.2.2.2.2.2.1
theorem dX11_feed_25 : decode cX11_feed 25 = .ok (.bipush 20, 2) := eX11_feed_15q.2.2.2.2.2.2.1
theorem dX11_feed_27 : decode cX11_feed 27 = .ok (.if_icmp .ge 93, 3) := eX11_feed_15q.2.2.2.2.2.2.2
theorem eX11_feed_30q : (decode cX11_feed 30 = .ok (.iload 6, 2)) ∧ (decode cX11_feed 32 = .ok (.iconst 4, 1)) ∧ (decode cX11_feed 33 = .ok (.if_icmp .ge 7, 3)) ∧ (decode cX11_feed 36 = .ok (.iload_n 1, 1)) ∧ (decode cX11_feed 37 = .ok (.goto 39, 3)) ∧ (decode cX11_feed 40 = .ok (.iload 6, 2)) ∧ (decode cX11_feed 42 = .ok (.bipush 8, 2)) ∧ (decode cX11_feed 44 = .ok (.if_icmp .ge 7, 3)) := by decide +kernel
theorem dX11_feed_30 : decode cX11_feed 30 = .ok (.iload 6, 2) := eX11_feed_30q.1
theorem dX11_feed_32 : decode cX11_feed 32 = .ok (.iconst 4, 1) := eX11_feed_30q.2.1
theorem dX11_feed_33 : decode cX11_feed 33 = .ok (.if_icmp .ge 7, 3) := eX11_feed_30q.2.2.1
theorem dX11_feed_36 : decode cX11_feed 36 = .ok (.iload_n 1, 1) := eX11_feed_30q.2.2.2.1
theorem dX11_feed_37 : decode cX11_feed 37 = .ok (.goto 39, 3) := eX11_feed_30q.2.2.2.2.1
theorem dX11_feed_40 : decode cX11_feed 40 = .ok (.iload 6, 2) := eX11_feed_30q.2.2.2.2.2.1
theorem dX11_feed_42 : decode cX11_feed 42 = .ok (.bipush 8, 2) := eX11_feed_30q.2.2.2.2.2.2.1
theorem dX11_feed_44 : decode cX11_feed 44 = .ok (.if_icmp .ge 7, 3) := eX11_feed_30q.2.2.2.2.2.2.2
theorem eX11_feed_47q : (decode cX11_feed 47 = .ok (.iload_n 2, 1)) ∧ (decode cX11_feed 48 = .ok (.goto 28, 3)) ∧ (decode cX11_feed 51 = .ok (.iload 6, 2)) ∧ (decode cX11_feed 53 = .ok (.bipush 12, 2)) ∧ (decode cX11_feed 55 = .ok (.if_icmp .ge 7, 3)) ∧ (decode cX11_feed 58 = .ok (.iload_n 3, 1)) ∧ (decode cX11_feed 59 = .ok (.goto 17, 3)) ∧ (decode cX11_feed 62 = .ok (.iload 6, 2)) := by decide +kernel
theorem dX11_feed_47 : decode cX11_feed 47 = .ok (.iload_n 2, 1) := eX11_feed_47q.1
theorem dX11_feed_48 : decode cX11_feed 48 = .ok (.goto 28, 3) := eX11_feed_47q.2.1
theorem dX11_feed_51 : decode cX11_feed 51 = .ok (.iload 6, 2) := eX11_feed_47q.2.2.1
theorem dX11_feed_53 : decode cX11_feed 53 = .ok (.bipush 12, 2) := eX11_feed_47q.2.2.2.1
theorem dX11_feed_55 : decode cX11_feed 55 = .ok (.if_icmp .ge 7, 3) := eX11_feed_47q.2.2.2.2.1
theorem dX11_feed_58 : decode cX11_feed 58 = .ok (.iload_n 3, 1) := eX11_feed_47q.2.2.2.2.2.1
theorem dX11_feed_59 : decode cX11_feed 59 = .ok (.goto 17, 3) := eX11_feed_47q.2.2.2.2.2.2.1
theorem dX11_feed_62 : decode cX11_feed 62 = .ok (.iload 6, 2) := eX11_feed_47q.2.2.2.2.2.2.2
theorem eX11_feed_64q : (decode cX11_feed 64 = .ok (.bipush 16, 2)) ∧ (decode cX11_feed 66 = .ok (.if_icmp .ge 8, 3)) ∧ (decode cX11_feed 69 = .ok (.iload 4, 2)) ∧ (decode cX11_feed 71 = .ok (.goto 5, 3)) ∧ (decode cX11_feed 74 = .ok (.iload 5, 2)) ∧ (decode cX11_feed 76 = .ok (.istore 7, 2)) ∧ (decode cX11_feed 78 = .ok (.aload_n 0, 1)) ∧ (decode cX11_feed 79 = .ok (.getfield 66, 3)) := by decide +kernel
theorem dX11_feed_64 : decode cX11_feed 64 = .ok (.bipush 16, 2) := eX11_feed_64q.1
theorem dX11_feed_66 : decode cX11_feed 66 = .ok (.if_icmp .ge 8, 3) := eX11_feed_64q.2.1
theorem dX11_feed_69 : decode cX11_feed 69 = .ok (.iload 4, 2) := eX11_feed_64q.2.2.1
theorem dX11_feed_71 : decode cX11_feed 71 = .ok (.goto 5, 3) := eX11_feed_64q.2.2.2.1
theorem dX11_feed_74 : decode cX11_feed 74 = .ok (.iload 5, 2) := eX11_feed_64q.2.2.2.2.1
theorem dX11_feed_76 : decode cX11_feed 76 = .ok (.istore 7, 2) := eX11_feed_64q.2.2.2.2.2.1
theorem dX11_feed_78 : decode cX11_feed 78 = .ok (.aload_n 0, 1) := eX11_feed_64q.2.2.2.2.2.2.1
theorem dX11_feed_79 : decode cX11_feed 79 = .ok (.getfield 66, 3) := eX11_feed_64q.2.2.2.2.2.2.2
theorem eX11_feed_82q : (decode cX11_feed 82 = .ok (.aload_n 0, 1)) ∧ (decode cX11_feed 83 = .ok (.getfield 145, 3)) ∧ (decode cX11_feed 86 = .ok (.iload 7, 2)) ∧ (decode cX11_feed 88 = .ok (.bipush 24, 2)) ∧ (decode cX11_feed 90 = .ok (.bipush 8, 2)) ∧ (decode cX11_feed 92 = .ok (.iload 6, 2)) ∧ (decode cX11_feed 94 = .ok (.iconst 4, 1)) ∧ (decode cX11_feed 95 = .ok (.irem, 1)) := by decide +kernel
theorem dX11_feed_82 : decode cX11_feed 82 = .ok (.aload_n 0, 1) := eX11_feed_82q.1
theorem dX11_feed_83 : decode cX11_feed 83 = .ok (.getfield 145, 3) := eX11_feed_82q.2.1
theorem dX11_feed_86 : decode cX11_feed 86 = .ok (.iload 7, 2) := eX11_feed_82q.2.2.1
theorem dX11_feed_88 : decode cX11_feed 88 = .ok (.bipush 24, 2) := eX11_feed_82q.2.2.2.1
theorem dX11_feed_90 : decode cX11_feed 90 = .ok (.bipush 8, 2) := eX11_feed_82q.2.2.2.2.1
theorem dX11_feed_92 : decode cX11_feed 92 = .ok (.iload 6, 2) := eX11_feed_82q.2.2.2.2.2.1
theorem dX11_feed_94 : decode cX11_feed 94 = .ok (.iconst 4, 1) := eX11_feed_82q.2.2.2.2.2.2.1
theorem dX11_feed_95 : decode cX11_feed 95 = .ok (.irem, 1) := eX11_feed_82q.2.2.2.2.2.2.2
theorem eX11_feed_96q : (decode cX11_feed 96 = .ok (.imul, 1)) ∧ (decode cX11_feed 97 = .ok (.isub, 1)) ∧ (decode cX11_feed 98 = .ok (.ishr, 1)) ∧ (decode cX11_feed 99 = .ok (.sipush 255, 3)) ∧ (decode cX11_feed 102 = .ok (.iand, 1)) ∧ (decode cX11_feed 103 = .ok (.iastore, 1)) ∧ (decode cX11_feed 104 = .ok (.aload_n 0, 1)) ∧ (decode cX11_feed 105 = .ok (.dup, 1)) := by decide +kernel
theorem dX11_feed_96 : decode cX11_feed 96 = .ok (.imul, 1) := eX11_feed_96q.1
theorem dX11_feed_97 : decode cX11_feed 97 = .ok (.isub, 1) := eX11_feed_96q.2.1
theorem dX11_feed_98 : decode cX11_feed 98 = .ok (.ishr, 1) := eX11_feed_96q.2.2.1
theorem dX11_feed_99 : decode cX11_feed 99 = .ok (.sipush 255, 3) := eX11_feed_96q.2.2.2.1
theorem dX11_feed_102 : decode cX11_feed 102 = .ok (.iand, 1) := eX11_feed_96q.2.2.2.2.1
theorem dX11_feed_103 : decode cX11_feed 103 = .ok (.iastore, 1) := eX11_feed_96q.2.2.2.2.2.1
theorem dX11_feed_104 : decode cX11_feed 104 = .ok (.aload_n 0, 1) := eX11_feed_96q.2.2.2.2.2.2.1
theorem dX11_feed_105 : decode cX11_feed 105 = .ok (.dup, 1) := eX11_feed_96q.2.2.2.2.2.2.2
theorem eX11_feed_106q : (decode cX11_feed 106 = .ok (.getfield 145, 3)) ∧ (decode cX11_feed 109 = .ok (.iconst 1, 1)) ∧ (decode cX11_feed 110 = .ok (.iadd, 1)) ∧ (decode cX11_feed 111 = .ok (.putfield 145, 3)) ∧ (decode cX11_feed 114 = .ok (.iinc 6 1, 3)) ∧ (decode cX11_feed 117 = .ok (.goto (-94), 3)) ∧ (decode cX11_feed 120 = .ok (.aload_n 0, 1)) ∧ (decode cX11_feed 121 = .ok (.getfield 145, 3)) := by decide +kernel
theorem dX11_feed_106 : decode cX11_feed 106 = .ok (.getfield 145, 3) := eX11_feed_106q.1
theorem dX11_feed_109 : decode cX11_feed 109 = .ok (.iconst 1, 1) := eX11_feed_106q.2.1
theorem dX11_feed_110 : decode cX11_feed 110 = .ok (.iadd, 1) := eX11_feed_106q.2.2.1
theorem dX11_feed_111 : decode cX11_feed 111 = .ok (.putfield 145, 3) := eX11_feed_106q.2.2.2.1
theorem dX11_feed_114 : decode cX11_feed 114 = .ok (.iinc 6 1, 3) := eX11_feed_106q.2.2.2.2.1
theorem dX11_feed_117 : decode cX11_feed 117 = .ok (.goto (-94), 3) := eX11_feed_106q.2.2.2.2.2.1
theorem dX11_feed_120 : decode cX11_feed 120 = .ok (.aload_n 0, 1) := eX11_feed_106q.2.2.2.2.2.2.1
theorem dX11_feed_121 : decode cX11_feed 121 = .ok (.getfield 145, 3) := eX11_feed_106q.2.2.2.2.2.2.2
theorem dX11_feed_124 : decode cX11_feed 124 = .ok (.ireturn, 1) := by decide +kernel
theorem eX11_byteAt_0q : (decode cX11_byteAt 0 = .ok (.iload_n 1, 1)) ∧ (decode cX11_byteAt 1 = .ok (.aload_n 0, 1)) ∧ (decode cX11_byteAt 2 = .ok (.getfield 148, 3)) ∧ (decode cX11_byteAt 5 = .ok (.if_icmp .ge 12, 3)) ∧ (decode cX11_byteAt 8 = .ok (.aload_n 0, 1)) ∧ (decode cX11_byteAt 9 = .ok (.getfield 66, 3)) ∧ (decode cX11_byteAt 12 = .ok (.iload_n 1, 1)) ∧ (decode cX11_byteAt 13 = .ok (.iaload, 1)) := by decide +kernel
theorem dX11_byteAt_0 : decode cX11_byteAt 0 = .ok (.iload_n 1, 1) := eX11_byteAt_0q.1
theorem dX11_byteAt_1 : decode cX11_byteAt 1 = .ok (.aload_n 0, 1) := eX11_byteAt_0q.2.1
theorem dX11_byteAt_2 : decode cX11_byteAt 2 = .ok (.getfield 148, 3) := eX11_byteAt_0q.2.2.1
theorem dX11_byteAt_5 : decode cX11_byteAt 5 = .ok (.if_icmp .ge 12, 3) := eX11_byteAt_0q.2.2.2.1
theorem dX11_byteAt_8 : decode cX11_byteAt 8 = .ok (.aload_n 0, 1) := eX11_byteAt_0q.2.2.2.2.1
theorem dX11_byteAt_9 : decode cX11_byteAt 9 = .ok (.getfield 66, 3) := eX11_byteAt_0q.2.2.2.2.2.1
theorem dX11_byteAt_12 : decode cX11_byteAt 12 = .ok (.iload_n 1, 1) := eX11_byteAt_0q.2.2.2.2.2.2.1
theorem dX11_byteAt_13 : decode cX11_byteAt 13 = .ok (.iaload, 1) := eX11_byteAt_0q.2.2.2.2.2.2.2
theorem eX11_byteAt_14q : (decode cX11_byteAt 14 = .ok (.goto 4, 3)) ∧ (decode cX11_byteAt 17 = .ok (.iconst (-1), 1)) ∧ (decode cX11_byteAt 18 = .ok (.ireturn, 1)) := by decide +kernel
theorem dX11_byteAt_14 : decode cX11_byteAt 14 = .ok (.goto 4, 3) := eX11_byteAt_14q.1
theorem dX11_byteAt_17 : decode cX11_byteAt 17 = .ok (.iconst (-1), 1) := eX11_byteAt_14q.2.1
theorem dX11_byteAt_18 : decode cX11_byteAt 18 = .ok (.ireturn, 1) := eX11_byteAt_14q.2.2
set_option maxRecDepth 20000 in
theorem ggX11_stepOn_X11_byteAt : GoodIn wsX11_stepOn wsX11_byteAt := by
  have h := goodIn_app (goodIn_r (big := wsX11_stepOn) (.code yX11_byteAt cX11_byteAt 2 (some .int) :: ([.fieldLink RX11 148 "PathProberModel" "textSize" "I", .fieldLink RX11 66 "PathProberModel" "tape" "[I"]) : List Cond) [15, 16, 17] rfl (by decide +kernel)) (goodIn_few (big := wsX11_stepOn) (fun _ h9 => List.mem_cons_of_mem _ (List.mem_append_right _ h9)) gb_0)
  exact h
set_option maxRecDepth 20000 in
theorem gX11_stepOn_X11_byteAt : GoodIn wsX11_stepOn (wsV RX11 154 RX11 yX11_byteAt wsX11_byteAt) := goodIn_app (goodIn_r _ [11, 12, 13, 14] rfl (by decide +kernel)) ggX11_stepOn_X11_byteAt
set_option maxRecDepth 20000 in
theorem ggX11_stepOn_X11_isLetter : GoodIn wsX11_stepOn wsX11_isLetter := goodIn_r _ [20] rfl (by decide +kernel)
set_option maxRecDepth 20000 in
theorem gX11_stepOn_X11_isLetter : GoodIn wsX11_stepOn (va_wsS RX11 164 yX11_isLetter wsX11_isLetter) := goodIn_app (goodIn_r _ [18, 19, 14] rfl (by decide +kernel)) ggX11_stepOn_X11_isLetter
set_option maxRecDepth 20000 in
theorem ggX11_stepOn_X11_isDigit : GoodIn wsX11_stepOn wsX11_isDigit := goodIn_r _ [23] rfl (by decide +kernel)
set_option maxRecDepth 20000 in
theorem gX11_stepOn_X11_isDigit : GoodIn wsX11_stepOn (va_wsS RX11 168 yX11_isDigit wsX11_isDigit) := goodIn_app (goodIn_r _ [21, 22, 14] rfl (by decide +kernel)) ggX11_stepOn_X11_isDigit
theorem eX11_stepOn_0q : (decode cX11_stepOn 0 = .ok (.aload_n 0, 1)) ∧ (decode cX11_stepOn 1 = .ok (.aload_n 0, 1)) ∧ (decode cX11_stepOn 2 = .ok (.getfield 151, 3)) ∧ (decode cX11_stepOn 5 = .ok (.invokevirtual 154, 3)) ∧ (decode cX11_stepOn 8 = .ok (.bipush 32, 2)) ∧ (decode cX11_stepOn 10 = .ok (.if_icmp .eq 16, 3)) ∧ (decode cX11_stepOn 13 = .ok (.aload_n 0, 1)) ∧ (decode cX11_stepOn 14 = .ok (.aload_n 0, 1)) := by decide +kernel
theorem dX11_stepOn_0 : decode cX11_stepOn 0 = .ok (.aload_n 0, 1) := eX11_stepOn_0q.1
theorem dX11_stepOn_1 : decode cX11_stepOn 1 = .ok (.aload_n 0, 1) := eX11_stepOn_0q.2.1
theorem dX11_stepOn_2 : decode cX11_stepOn 2 = .ok (.getfield 151, 3) := eX11_stepOn_0q.2.2.1
theorem dX11_stepOn_5 : decode cX11_stepOn 5 = .ok (.invokevirtual 154, 3) := eX11_stepOn_0q.2.2.2.1
theorem dX11_stepOn_8 : decode cX11_stepOn 8 = .ok (.bipush 32, 2) := eX11_stepOn_0q.2.2.2.2.1
theorem dX11_stepOn_10 : decode cX11_stepOn 10 = .ok (.if_icmp .eq 16, 3) := eX11_stepOn_0q.2.2.2.2.2.1
theorem dX11_stepOn_13 : decode cX11_stepOn 13 = .ok (.aload_n 0, 1) := eX11_stepOn_0q.2.2.2.2.2.2.1
theorem dX11_stepOn_14 : decode cX11_stepOn 14 = .ok (.aload_n 0, 1) := eX11_stepOn_0q.2.2.2.2.2.2.2
theorem eX11_stepOn_15q : (decode cX11_stepOn 15 = .ok (.getfield 151, 3)) ∧ (decode cX11_stepOn 18 = .ok (.invokevirtual 154, 3)) ∧ (decode cX11_stepOn 21 = .ok (.bipush 10, 2)) ∧ (decode cX11_stepOn 23 = .ok (.if_icmp .ne 16, 3)) ∧ (decode cX11_stepOn 26 = .ok (.aload_n 0, 1)) ∧ (decode cX11_stepOn 27 = .ok (.dup, 1)) ∧ (decode cX11_stepOn 28 = .ok (.getfield 151, 3)) ∧ (decode cX11_stepOn 31 = .ok (.iconst 1, 1)) := by decide +kernel
theorem dX11_stepOn_15 : decode cX11_stepOn 15 = .ok (.getfield 151, 3) := eX11_stepOn_15q.1
theorem dX11_stepOn_18 : decode cX11_stepOn 18 = .ok (.invokevirtual 154, 3) := eX11_stepOn_15q.2.1
theorem dX11_stepOn_21 : decode cX11_stepOn 21 = .ok (.bipush 10, 2) := eX11_stepOn_15q.2.2.1
theorem dX11_stepOn_23 : decode cX11_stepOn 23 = .ok (.if_icmp .ne 16, 3) := eX11_stepOn_15q.2.2.2.1
theorem dX11_stepOn_26 : decode cX11_stepOn 26 = .ok (.aload_n 0, 1) := eX11_stepOn_15q.2.2.2.2.1
theorem dX11_stepOn_27 : decode cX11_stepOn 27 = .ok (.dup, 1) := eX11_stepOn_15q.2.2.2.2.2.1
theorem dX11_stepOn_28 : decode cX11_stepOn 28 = .ok (.getfield 151, 3) := eX11_stepOn_15q.2.2.2.2.2.2.1
theorem dX11_stepOn_31 : decode cX11_stepOn 31 = .ok (.iconst 1, 1) := eX11_stepOn_15q.2.2.2.2.2.2.2
theorem eX11_stepOn_32q : (decode cX11_stepOn 32 = .ok (.iadd, 1)) ∧ (decode cX11_stepOn 33 = .ok (.putfield 151, 3)) ∧ (decode cX11_stepOn 36 = .ok (.goto (-36), 3)) ∧ (decode cX11_stepOn 39 = .ok (.aload_n 0, 1)) ∧ (decode cX11_stepOn 40 = .ok (.aload_n 0, 1)) ∧ (decode cX11_stepOn 41 = .ok (.getfield 151, 3)) ∧ (decode cX11_stepOn 44 = .ok (.putfield 158, 3)) ∧ (decode cX11_stepOn 47 = .ok (.aload_n 0, 1)) := by decide +kernel
theorem dX11_stepOn_32 : decode cX11_stepOn 32 = .ok (.iadd, 1) := eX11_stepOn_32q.1
theorem dX11_stepOn_33 : decode cX11_stepOn 33 = .ok (.putfield 151, 3) := eX11_stepOn_32q.2.1
theorem dX11_stepOn_36 : decode cX11_stepOn 36 = .ok (.goto (-36), 3) := eX11_stepOn_32q.2.2.1
theorem dX11_stepOn_39 : decode cX11_stepOn 39 = .ok (.aload_n 0, 1) := eX11_stepOn_32q.2.2.2.1
theorem dX11_stepOn_40 : decode cX11_stepOn 40 = .ok (.aload_n 0, 1) := eX11_stepOn_32q.2.2.2.2.1
theorem dX11_stepOn_41 : decode cX11_stepOn 41 = .ok (.getfield 151, 3) := eX11_stepOn_32q.2.2.2.2.2.1
theorem dX11_stepOn_44 : decode cX11_stepOn 44 = .ok (.putfield 158, 3) := eX11_stepOn_32q.2.2.2.2.2.2.1
theorem dX11_stepOn_47 : decode cX11_stepOn 47 = .ok (.aload_n 0, 1) := eX11_stepOn_32q.2.2.2.2.2.2.2
theorem eX11_stepOn_48q : (decode cX11_stepOn 48 = .ok (.aload_n 0, 1)) ∧ (decode cX11_stepOn 49 = .ok (.getfield 151, 3)) ∧ (decode cX11_stepOn 52 = .ok (.invokevirtual 154, 3)) ∧ (decode cX11_stepOn 55 = .ok (.istore_n 1, 1)) ∧ (decode cX11_stepOn 56 = .ok (.iload_n 1, 1)) ∧ (decode cX11_stepOn 57 = .ok (.iconst (-1), 1)) ∧ (decode cX11_stepOn 58 = .ok (.if_icmp .ne 11, 3)) ∧ (decode cX11_stepOn 61 = .ok (.aload_n 0, 1)) := by decide +kernel
theorem dX11_stepOn_48 : decode cX11_stepOn 48 = .ok (.aload_n 0, 1) := eX11_stepOn_48q.1
theorem dX11_stepOn_49 : decode cX11_stepOn 49 = .ok (.getfield 151, 3) := eX11_stepOn_48q.2.1
theorem dX11_stepOn_52 : decode cX11_stepOn 52 = .ok (.invokevirtual 154, 3) := eX11_stepOn_48q.2.2.1
theorem dX11_stepOn_55 : decode cX11_stepOn 55 = .ok (.istore_n 1, 1) := eX11_stepOn_48q.2.2.2.1
theorem dX11_stepOn_56 : decode cX11_stepOn 56 = .ok (.iload_n 1, 1) := eX11_stepOn_48q.2.2.2.2.1
theorem dX11_stepOn_57 : decode cX11_stepOn 57 = .ok (.iconst (-1), 1) := eX11_stepOn_48q.2.2.2.2.2.1
theorem dX11_stepOn_58 : decode cX11_stepOn 58 = .ok (.if_icmp .ne 11, 3) := eX11_stepOn_48q.2.2.2.2.2.2.1
theorem dX11_stepOn_61 : decode cX11_stepOn 61 = .ok (.aload_n 0, 1) := eX11_stepOn_48q.2.2.2.2.2.2.2
theorem eX11_stepOn_62q : (decode cX11_stepOn 62 = .ok (.iconst 0, 1)) ∧ (decode cX11_stepOn 63 = .ok (.putfield 161, 3)) ∧ (decode cX11_stepOn 66 = .ok (.goto 145, 3)) ∧ (decode cX11_stepOn 69 = .ok (.iload_n 1, 1)) ∧ (decode cX11_stepOn 70 = .ok (.invokestatic 164, 3)) ∧ (decode cX11_stepOn 73 = .ok (.ifCond .eq 38, 3)) ∧ (decode cX11_stepOn 76 = .ok (.aload_n 0, 1)) ∧ (decode cX11_stepOn 77 = .ok (.aload_n 0, 1)) := by decide +kernel
theorem dX11_stepOn_62 : decode cX11_stepOn 62 = .ok (.iconst 0, 1) := eX11_stepOn_62q.1
theorem dX11_stepOn_63 : decode cX11_stepOn 63 = .ok (.putfield 161, 3) := eX11_stepOn_62q.2.1
theorem dX11_stepOn_66 : decode cX11_stepOn 66 = .ok (.goto 145, 3) := eX11_stepOn_62q.2.2.1
theorem dX11_stepOn_69 : decode cX11_stepOn 69 = .ok (.iload_n 1, 1) := eX11_stepOn_62q.2.2.2.1
theorem dX11_stepOn_70 : decode cX11_stepOn 70 = .ok (.invokestatic 164, 3) := eX11_stepOn_62q.2.2.2.2.1
theorem dX11_stepOn_73 : decode cX11_stepOn 73 = .ok (.ifCond .eq 38, 3) := eX11_stepOn_62q.2.2.2.2.2.1
theorem dX11_stepOn_76 : decode cX11_stepOn 76 = .ok (.aload_n 0, 1) := eX11_stepOn_62q.2.2.2.2.2.2.1
theorem dX11_stepOn_77 : decode cX11_stepOn 77 = .ok (.aload_n 0, 1) := eX11_stepOn_62q.2.2.2.2.2.2.2
theorem eX11_stepOn_78q : (decode cX11_stepOn 78 = .ok (.getfield 151, 3)) ∧ (decode cX11_stepOn 81 = .ok (.invokevirtual 154, 3)) ∧ (decode cX11_stepOn 84 = .ok (.invokestatic 164, 3)) ∧ (decode cX11_stepOn 87 = .ok (.ifCond .eq 16, 3)) ∧ (decode cX11_stepOn 90 = .ok (.aload_n 0, 1)) ∧ (decode cX11_stepOn 91 = .ok (.dup, 1)) ∧ (decode cX11_stepOn 92 = .ok (.getfield 151, 3)) ∧ (decode cX11_stepOn 95 = .ok (.iconst 1, 1)) := by decide +kernel
theorem dX11_stepOn_78 : decode cX11_stepOn 78 = .ok (.getfield 151, 3) := eX11_stepOn_78q.1
theorem dX11_stepOn_81 : decode cX11_stepOn 81 = .ok (.invokevirtual 154, 3) := eX11_stepOn_78q.2.1
theorem dX11_stepOn_84 : decode cX11_stepOn 84 = .ok (.invokestatic 164, 3) := eX11_stepOn_78q.2.2.1
theorem dX11_stepOn_87 : decode cX11_stepOn 87 = .ok (.ifCond .eq 16, 3) := eX11_stepOn_78q.2.2.2.1
theorem dX11_stepOn_90 : decode cX11_stepOn 90 = .ok (.aload_n 0, 1) := eX11_stepOn_78q.2.2.2.2.1
theorem dX11_stepOn_91 : decode cX11_stepOn 91 = .ok (.dup, 1) := eX11_stepOn_78q.2.2.2.2.2.1
theorem dX11_stepOn_92 : decode cX11_stepOn 92 = .ok (.getfield 151, 3) := eX11_stepOn_78q.2.2.2.2.2.2.1
theorem dX11_stepOn_95 : decode cX11_stepOn 95 = .ok (.iconst 1, 1) := eX11_stepOn_78q.2.2.2.2.2.2.2
theorem eX11_stepOn_96q : (decode cX11_stepOn 96 = .ok (.iadd, 1)) ∧ (decode cX11_stepOn 97 = .ok (.putfield 151, 3)) ∧ (decode cX11_stepOn 100 = .ok (.goto (-24), 3)) ∧ (decode cX11_stepOn 103 = .ok (.aload_n 0, 1)) ∧ (decode cX11_stepOn 104 = .ok (.iconst 1, 1)) ∧ (decode cX11_stepOn 105 = .ok (.putfield 161, 3)) ∧ (decode cX11_stepOn 108 = .ok (.goto 103, 3)) ∧ (decode cX11_stepOn 111 = .ok (.iload_n 1, 1)) := by decide +kernel
theorem dX11_stepOn_96 : decode cX11_stepOn 96 = .ok (.iadd, 1) := eX11_stepOn_96q.1
theorem dX11_stepOn_97 : decode cX11_stepOn 97 = .ok (.putfield 151, 3) := eX11_stepOn_96q.2.1
theorem dX11_stepOn_100 : decode cX11_stepOn 100 = .ok (.goto (-24), 3) := eX11_stepOn_96q.2.2.1
theorem dX11_stepOn_103 : decode cX11_stepOn 103 = .ok (.aload_n 0, 1) := eX11_stepOn_96q.2.2.2.1
theorem dX11_stepOn_104 : decode cX11_stepOn 104 = .ok (.iconst 1, 1) := eX11_stepOn_96q.2.2.2.2.1
theorem dX11_stepOn_105 : decode cX11_stepOn 105 = .ok (.putfield 161, 3) := eX11_stepOn_96q.2.2.2.2.2.1
theorem dX11_stepOn_108 : decode cX11_stepOn 108 = .ok (.goto 103, 3) := eX11_stepOn_96q.2.2.2.2.2.2.1
theorem dX11_stepOn_111 : decode cX11_stepOn 111 = .ok (.iload_n 1, 1) := eX11_stepOn_96q.2.2.2.2.2.2.2
theorem eX11_stepOn_112q : (decode cX11_stepOn 112 = .ok (.invokestatic 168, 3)) ∧ (decode cX11_stepOn 115 = .ok (.ifCond .eq 71, 3)) ∧ (decode cX11_stepOn 118 = .ok (.aload_n 0, 1)) ∧ (decode cX11_stepOn 119 = .ok (.iconst 0, 1)) ∧ (decode cX11_stepOn 120 = .ok (.putfield 171, 3)) ∧ (decode cX11_stepOn 123 = .ok (.aload_n 0, 1)) ∧ (decode cX11_stepOn 124 = .ok (.aload_n 0, 1)) ∧ (decode cX11_stepOn 125 = .ok (.getfield 151, 3)) := by decide +kernel
theorem dX11_stepOn_112 : decode cX11_stepOn 112 = .ok (.invokestatic 168, 3) := eX11_stepOn_112q.1
theorem dX11_stepOn_115 : decode cX11_stepOn 115 = .ok (.ifCond .eq 71, 3) := eX11_stepOn_112q.2.1
theorem dX11_stepOn_118 : decode cX11_stepOn 118 = .ok (.aload_n 0, 1) := eX11_stepOn_112q.2.2.1
theorem dX11_stepOn_119 : decode cX11_stepOn 119 = .ok (.iconst 0, 1) := eX11_stepOn_112q.2.2.2.1
theorem dX11_stepOn_120 : decode cX11_stepOn 120 = .ok (.putfield 171, 3) := eX11_stepOn_112q.2.2.2.2.1
theorem dX11_stepOn_123 : decode cX11_stepOn 123 = .ok (.aload_n 0, 1) := eX11_stepOn_112q.2.2.2.2.2.1
theorem dX11_stepOn_124 : decode cX11_stepOn 124 = .ok (.aload_n 0, 1) := eX11_stepOn_112q.2.2.2.2.2.2.1
theorem dX11_stepOn_125 : decode cX11_stepOn 125 = .ok (.getfield 151, 3) := eX11_stepOn_112q.2.2.2.2.2.2.2
theorem eX11_stepOn_128q : (decode cX11_stepOn 128 = .ok (.invokevirtual 154, 3)) ∧ (decode cX11_stepOn 131 = .ok (.invokestatic 168, 3)) ∧ (decode cX11_stepOn 134 = .ok (.ifCond .eq 44, 3)) ∧ (decode cX11_stepOn 137 = .ok (.aload_n 0, 1)) ∧ (decode cX11_stepOn 138 = .ok (.ldc 174, 2)) ∧ (decode cX11_stepOn 140 = .ok (.bipush 10, 2)) ∧ (decode cX11_stepOn 142 = .ok (.aload_n 0, 1)) ∧ (decode cX11_stepOn 143 = .ok (.getfield 171, 3)) := by decide +kernel
theorem dX11_stepOn_128 : decode cX11_stepOn 128 = .ok (.invokevirtual 154, 3) := eX11_stepOn_128q.1
theorem dX11_stepOn_131 : decode cX11_stepOn 131 = .ok (.invokestatic 168, 3) := eX11_stepOn_128q.2.1
theorem dX11_stepOn_134 : decode cX11_stepOn 134 = .ok (.ifCond .eq 44, 3) := eX11_stepOn_128q.2.2.1
theorem dX11_stepOn_137 : decode cX11_stepOn 137 = .ok (.aload_n 0, 1) := eX11_stepOn_128q.2.2.2.1
theorem dX11_stepOn_138 : decode cX11_stepOn 138 = .ok (.ldc 174, 2) := eX11_stepOn_128q.2.2.2.2.1
theorem dX11_stepOn_140 : decode cX11_stepOn 140 = .ok (.bipush 10, 2) := eX11_stepOn_128q.2.2.2.2.2.1
theorem dX11_stepOn_142 : decode cX11_stepOn 142 = .ok (.aload_n 0, 1) := eX11_stepOn_128q.2.2.2.2.2.2.1
theorem dX11_stepOn_143 : decode cX11_stepOn 143 = .ok (.getfield 171, 3) := eX11_stepOn_128q.2.2.2.2.2.2.2
theorem eX11_stepOn_146q : (decode cX11_stepOn 146 = .ok (.imul, 1)) ∧ (decode cX11_stepOn 147 = .ok (.aload_n 0, 1)) ∧ (decode cX11_stepOn 148 = .ok (.aload_n 0, 1)) ∧ (decode cX11_stepOn 149 = .ok (.getfield 151, 3)) ∧ (decode cX11_stepOn 152 = .ok (.invokevirtual 154, 3)) ∧ (decode cX11_stepOn 155 = .ok (.iadd, 1)) ∧ (decode cX11_stepOn 156 = .ok (.bipush 48, 2)) ∧ (decode cX11_stepOn 158 = .ok (.isub, 1)) := by decide +kernel
theorem dX11_stepOn_146 : decode cX11_stepOn 146 = .ok (.imul, 1) := eX11_stepOn_146q.1
theorem dX11_stepOn_147 : decode cX11_stepOn 147 = .ok (.aload_n 0, 1) := eX11_stepOn_146q.2.1
theorem dX11_stepOn_148 : decode cX11_stepOn 148 = .ok (.aload_n 0, 1) := eX11_stepOn_146q.2.2.1
theorem dX11_stepOn_149 : decode cX11_stepOn 149 = .ok (.getfield 151, 3) := eX11_stepOn_146q.2.2.2.1
theorem dX11_stepOn_152 : decode cX11_stepOn 152 = .ok (.invokevirtual 154, 3) := eX11_stepOn_146q.2.2.2.2.1
theorem dX11_stepOn_155 : decode cX11_stepOn 155 = .ok (.iadd, 1) := eX11_stepOn_146q.2.2.2.2.2.1
theorem dX11_stepOn_156 : decode cX11_stepOn 156 = .ok (.bipush 48, 2) := eX11_stepOn_146q.2.2.2.2.2.2.1
theorem dX11_stepOn_158 : decode cX11_stepOn 158 = .ok (.isub, 1) := eX11_stepOn_146q.2.2.2.2.2.2.2
theorem eX11_stepOn_159q : (decode cX11_stepOn 159 = .ok (.invokestatic 175, 3)) ∧ (decode cX11_stepOn 162 = .ok (.putfield 171, 3)) ∧ (decode cX11_stepOn 165 = .ok (.aload_n 0, 1)) ∧ (decode cX11_stepOn 166 = .ok (.dup, 1)) ∧ (decode cX11_stepOn 167 = .ok (.getfield 151, 3)) ∧ (decode cX11_stepOn 170 = .ok (.iconst 1, 1)) ∧ (decode cX11_stepOn 171 = .ok (.iadd, 1)) ∧ (decode cX11_stepOn 172 = .ok (.putfield 151, 3)) := by decide +kernel
theorem dX11_stepOn_159 : decode cX11_stepOn 159 = .ok (.invokestatic 175, 3) := eX11_stepOn_159q.1
theorem dX11_stepOn_162 : decode cX11_stepOn 162 = .ok (.putfield 171, 3) := eX11_stepOn_159q.2.1
theorem dX11_stepOn_165 : decode cX11_stepOn 165 = .ok (.aload_n 0, 1) := eX11_stepOn_159q.2.2.1
theorem dX11_stepOn_166 : decode cX11_stepOn 166 = .ok (.dup, 1) := eX11_stepOn_159q.2.2.2.1
theorem dX11_stepOn_167 : decode cX11_stepOn 167 = .ok (.getfield 151, 3) := eX11_stepOn_159q.2.2.2.2.1
theorem dX11_stepOn_170 : decode cX11_stepOn 170 = .ok (.iconst 1, 1) := eX11_stepOn_159q.2.2.2.2.2.1
theorem dX11_stepOn_171 : decode cX11_stepOn 171 = .ok (.iadd, 1) := eX11_stepOn_159q.2.2.2.2.2.2.1
theorem dX11_stepOn_172 : decode cX11_stepOn 172 = .ok (.putfield 151, 3) := eX11_stepOn_159q.2.2.2.2.2.2.2
theorem eX11_stepOn_175q : (decode cX11_stepOn 175 = .ok (.goto (-52), 3)) ∧ (decode cX11_stepOn 178 = .ok (.aload_n 0, 1)) ∧ (decode cX11_stepOn 179 = .ok (.iconst 2, 1)) ∧ (decode cX11_stepOn 180 = .ok (.putfield 161, 3)) ∧ (decode cX11_stepOn 183 = .ok (.goto 28, 3)) ∧ (decode cX11_stepOn 186 = .ok (.aload_n 0, 1)) ∧ (decode cX11_stepOn 187 = .ok (.dup, 1)) ∧ (decode cX11_stepOn 188 = .ok (.getfield 151, 3)) := by decide +kernel
theorem dX11_stepOn_175 : decode cX11_stepOn 175 = .ok (.goto (-52), 3) := eX11_stepOn_175q.1
theorem dX11_stepOn_178 : decode cX11_stepOn 178 = .ok (.aload_n 0, 1) := eX11_stepOn_175q.2.1
theorem dX11_stepOn_179 : decode cX11_stepOn 179 = .ok (.iconst 2, 1) := eX11_stepOn_175q.2.2.1
theorem dX11_stepOn_180 : decode cX11_stepOn 180 = .ok (.putfield 161, 3) := eX11_stepOn_175q.2.2.2.1
theorem dX11_stepOn_183 : decode cX11_stepOn 183 = .ok (.goto 28, 3) := eX11_stepOn_175q.2.2.2.2.1
theorem dX11_stepOn_186 : decode cX11_stepOn 186 = .ok (.aload_n 0, 1) := eX11_stepOn_175q.2.2.2.2.2.1
theorem dX11_stepOn_187 : decode cX11_stepOn 187 = .ok (.dup, 1) := eX11_stepOn_175q.2.2.2.2.2.2.1
theorem dX11_stepOn_188 : decode cX11_stepOn 188 = .ok (.getfield 151, 3) := eX11_stepOn_175q.2.2.2.2.2.2.2
theorem eX11_stepOn_191q : (decode cX11_stepOn 191 = .ok (.iconst 1, 1)) ∧ (decode cX11_stepOn 192 = .ok (.iadd, 1)) ∧ (decode cX11_stepOn 193 = .ok (.putfield 151, 3)) ∧ (decode cX11_stepOn 196 = .ok (.aload_n 0, 1)) ∧ (decode cX11_stepOn 197 = .ok (.iload_n 1, 1)) ∧ (decode cX11_stepOn 198 = .ok (.bipush 59, 2)) ∧ (decode cX11_stepOn 200 = .ok (.if_icmp .ne 7, 3)) ∧ (decode cX11_stepOn 203 = .ok (.iconst 3, 1)) := by decide +kernel
theorem dX11_stepOn_191 : decode cX11_stepOn 191 = .ok (.iconst 1, 1) := eX11_stepOn_191q.1
theorem dX11_stepOn_192 : decode cX11_stepOn 192 = .ok (.iadd, 1) := eX11_stepOn_191q.2.1
theorem dX11_stepOn_193 : decode cX11_stepOn 193 = .ok (.putfield 151, 3) := eX11_stepOn_191q.2.2.1
theorem dX11_stepOn_196 : decode cX11_stepOn 196 = .ok (.aload_n 0, 1) := eX11_stepOn_191q.2.2.2.1
theorem dX11_stepOn_197 : decode cX11_stepOn 197 = .ok (.iload_n 1, 1) := eX11_stepOn_191q.2.2.2.2.1
theorem dX11_stepOn_198 : decode cX11_stepOn 198 = .ok (.bipush 59, 2) := eX11_stepOn_191q.2.2.2.2.2.1
theorem dX11_stepOn_200 : decode cX11_stepOn 200 = .ok (.if_icmp .ne 7, 3) := eX11_stepOn_191q.2.2.2.2.2.2.1
theorem dX11_stepOn_203 : decode cX11_stepOn 203 = .ok (.iconst 3, 1) := eX11_stepOn_191q.2.2.2.2.2.2.2
theorem eX11_stepOn_204q : (decode cX11_stepOn 204 = .ok (.goto 4, 3)) ∧ (decode cX11_stepOn 207 = .ok (.iconst 4, 1)) ∧ (decode cX11_stepOn 208 = .ok (.putfield 161, 3)) ∧ (decode cX11_stepOn 211 = .ok (.aload_n 0, 1)) ∧ (decode cX11_stepOn 212 = .ok (.aload_n 0, 1)) ∧ (decode cX11_stepOn 213 = .ok (.getfield 151, 3)) ∧ (decode cX11_stepOn 216 = .ok (.putfield 181, 3)) ∧ (decode cX11_stepOn 219 = .ok (.return_, 1)) := by decide +kernel
theorem dX11_stepOn_204 : decode cX11_stepOn 204 = .ok (.goto 4, 3) := eX11_stepOn_204q.1
theorem dX11_stepOn_207 : decode cX11_stepOn 207 = .ok (.iconst 4, 1) := eX11_stepOn_204q.2.1
theorem dX11_stepOn_208 : decode cX11_stepOn 208 = .ok (.putfield 161, 3) := eX11_stepOn_204q.2.2.1
theorem dX11_stepOn_211 : decode cX11_stepOn 211 = .ok (.aload_n 0, 1) := eX11_stepOn_204q.2.2.2.1
theorem dX11_stepOn_212 : decode cX11_stepOn 212 = .ok (.aload_n 0, 1) := eX11_stepOn_204q.2.2.2.2.1
theorem dX11_stepOn_213 : decode cX11_stepOn 213 = .ok (.getfield 151, 3) := eX11_stepOn_204q.2.2.2.2.2.1
theorem dX11_stepOn_216 : decode cX11_stepOn 216 = .ok (.putfield 181, 3) := eX11_stepOn_204q.2.2.2.2.2.2.1
theorem dX11_stepOn_219 : decode cX11_stepOn 219 = .ok (.return_, 1) := eX11_stepOn_204q.2.2.2.2.2.2.2
set_option maxRecDepth 20000 in
theorem ggX11_is_J0_length_8abf5 : GoodIn wsX11_is wsJ0_length_8abf5 := goodIn_r _ [10, 11, 12, 13, 14, 9, 15, 16, 17] rfl (by decide +kernel)
set_option maxRecDepth 20000 in
theorem gX11_is_J0_length_8abf5 : GoodIn wsX11_is (wsV RX11 190 RJ0 yJ0_length_8abf5 wsJ0_length_8abf5) := goodIn_app (goodIn_r _ [6, 7, 8, 9] rfl (by decide +kernel)) ggX11_is_J0_length_8abf5
set_option maxRecDepth 20000 in
theorem ggX11_is_J0_charAt_5068e : GoodIn wsX11_is wsJ0_charAt_5068e := goodIn_r _ [21, 11, 22, 23, 24, 9, 25, 16, 17, 26, 27, 28, 29, 30, 31, 32, 33, 34, 35, 36, 37, 38, 39, 40, 41, 42, 43, 44, 45, 46, 47, 48, 49, 50, 51, 52, 53, 54] rfl (by decide +kernel)
set_option maxRecDepth 20000 in
theorem gX11_is_J0_charAt_5068e : GoodIn wsX11_is (wsV RX11 194 RJ0 yJ0_charAt_5068e wsJ0_charAt_5068e) := goodIn_app (goodIn_r _ [18, 19, 20, 9] rfl (by decide +kernel)) ggX11_is_J0_charAt_5068e
theorem eX11_is_0q : (decode cX11_is 0 = .ok (.aload_n 0, 1)) ∧ (decode cX11_is 1 = .ok (.getfield 184, 3)) ∧ (decode cX11_is 4 = .ok (.ifCond .ne 31, 3)) ∧ (decode cX11_is 7 = .ok (.aload_n 0, 1)) ∧ (decode cX11_is 8 = .ok (.getfield 161, 3)) ∧ (decode cX11_is 11 = .ok (.iconst 1, 1)) ∧ (decode cX11_is 12 = .ok (.if_icmp .ne 23, 3)) ∧ (decode cX11_is 15 = .ok (.aload_n 1, 1)) := by decide +kernel
theorem dX11_is_0 : decode cX11_is 0 = .ok (.aload_n 0, 1) := eX11_is_0q.1
theorem dX11_is_1 : decode cX11_is 1 = .ok (.getfield 184, 3) := eX11_is_0q.2.1
theorem dX11_is_4 : decode cX11_is 4 = .ok (.ifCond .ne 31, 3) := eX11_is_0q.2.2.1
theorem dX11_is_7 : decode cX11_is 7 = .ok (.aload_n 0, 1) := eX11_is_0q.2.2.2.1
theorem dX11_is_8 : decode cX11_is 8 = .ok (.getfield 161, 3) := eX11_is_0q.2.2.2.2.1
theorem dX11_is_11 : decode cX11_is 11 = .ok (.iconst 1, 1) := eX11_is_0q.2.2.2.2.2.1
theorem dX11_is_12 : decode cX11_is 12 = .ok (.if_icmp .ne 23, 3) := eX11_is_0q.2.2.2.2.2.2.1
theorem dX11_is_15 : decode cX11_is 15 = .ok (.aload_n 1, 1) := eX11_is_0q.2.2.2.2.2.2.2
theorem eX11_is_16q : (decode cX11_is 16 = .ok (.invokevirtual 190, 3)) ∧ (decode cX11_is 19 = .ok (.aload_n 0, 1)) ∧ (decode cX11_is 20 = .ok (.getfield 181, 3)) ∧ (decode cX11_is 23 = .ok (.aload_n 0, 1)) ∧ (decode cX11_is 24 = .ok (.getfield 158, 3)) ∧ (decode cX11_is 27 = .ok (.isub, 1)) ∧ (decode cX11_is 28 = .ok (.if_icmp .ne 7, 3)) ∧ (decode cX11_is 31 = .ok (.iconst 1, 1)) := by decide +kernel
theorem dX11_is_16 : decode cX11_is 16 = .ok (.invokevirtual 190, 3) := eX11_is_16q.1
theorem dX11_is_19 : decode cX11_is 19 = .ok (.aload_n 0, 1) := eX11_is_16q.2.1
theorem dX11_is_20 : decode cX11_is 20 = .ok (.getfield 181, 3) := eX11_is_16q.2.2.1
theorem dX11_is_23 : decode cX11_is 23 = .ok (.aload_n 0, 1) := eX11_is_16q.2.2.2.1
theorem dX11_is_24 : decode cX11_is 24 = .ok (.getfield 158, 3) := eX11_is_16q.2.2.2.2.1
theorem dX11_is_27 : decode cX11_is 27 = .ok (.isub, 1) := eX11_is_16q.2.2.2.2.2.1
theorem dX11_is_28 : decode cX11_is 28 = .ok (.if_icmp .ne 7, 3) := eX11_is_16q.2.2.2.2.2.2.1
theorem dX11_is_31 : decode cX11_is 31 = .ok (.iconst 1, 1) := eX11_is_16q.2.2.2.2.2.2.2
theorem eX11_is_32q : (decode cX11_is 32 = .ok (.goto 4, 3)) ∧ (decode cX11_is 35 = .ok (.iconst 0, 1)) ∧ (decode cX11_is 36 = .ok (.istore_n 2, 1)) ∧ (decode cX11_is 37 = .ok (.iconst 0, 1)) ∧ (decode cX11_is 38 = .ok (.istore_n 3, 1)) ∧ (decode cX11_is 39 = .ok (.iload_n 2, 1)) ∧ (decode cX11_is 40 = .ok (.ifCond .eq 42, 3)) ∧ (decode cX11_is 43 = .ok (.iload_n 3, 1)) := by decide +kernel
theorem dX11_is_32 : decode cX11_is 32 = .ok (.goto 4, 3) := eX11_is_32q.1
theorem dX11_is_35 : decode cX11_is 35 = .ok (.iconst 0, 1) := eX11_is_32q.2.1
theorem dX11_is_36 : decode cX11_is 36 = .ok (.istore_n 2, 1) := eX11_is_32q.2.2.1
theorem dX11_is_37 : decode cX11_is 37 = .ok (.iconst 0, 1) := eX11_is_32q.2.2.2.1
theorem dX11_is_38 : decode cX11_is 38 = .ok (.istore_n 3, 1) := eX11_is_32q.2.2.2.2.1
theorem dX11_is_39 : decode cX11_is 39 = .ok (.iload_n 2, 1) := eX11_is_32q.2.2.2.2.2.1
theorem dX11_is_40 : decode cX11_is 40 = .ok (.ifCond .eq 42, 3) := eX11_is_32q.2.2.2.2.2.2.1
theorem dX11_is_43 : decode cX11_is 43 = .ok (.iload_n 3, 1) := eX11_is_32q.2.2.2.2.2.2.2
theorem eX11_is_44q : (decode cX11_is 44 = .ok (.aload_n 1, 1)) ∧ (decode cX11_is 45 = .ok (.invokevirtual 190, 3)) ∧ (decode cX11_is 48 = .ok (.if_icmp .ge 34, 3)) ∧ (decode cX11_is 51 = .ok (.aload_n 1, 1)) ∧ (decode cX11_is 52 = .ok (.iload_n 3, 1)) ∧ (decode cX11_is 53 = .ok (.invokevirtual 194, 3)) ∧ (decode cX11_is 56 = .ok (.aload_n 0, 1)) ∧ (decode cX11_is 57 = .ok (.getfield 66, 3)) := by decide +kernel
theorem dX11_is_44 : decode cX11_is 44 = .ok (.aload_n 1, 1) := eX11_is_44q.1
theorem dX11_is_45 : decode cX11_is 45 = .ok (.invokevirtual 190, 3) := eX11_is_44q.2.1
theorem dX11_is_48 : decode cX11_is 48 = .ok (.if_icmp .ge 34, 3) := eX11_is_44q.2.2.1
theorem dX11_is_51 : decode cX11_is 51 = .ok (.aload_n 1, 1) := eX11_is_44q.2.2.2.1
theorem dX11_is_52 : decode cX11_is 52 = .ok (.iload_n 3, 1) := eX11_is_44q.2.2.2.2.1
theorem dX11_is_53 : decode cX11_is 53 = .ok (.invokevirtual 194, 3) := eX11_is_44q.2.2.2.2.2.1
theorem dX11_is_56 : decode cX11_is 56 = .ok (.aload_n 0, 1) := eX11_is_44q.2.2.2.2.2.2.1
theorem dX11_is_57 : decode cX11_is 57 = .ok (.getfield 66, 3) := eX11_is_44q.2.2.2.2.2.2.2
theorem eX11_is_60q : (decode cX11_is 60 = .ok (.aload_n 0, 1)) ∧ (decode cX11_is 61 = .ok (.getfield 158, 3)) ∧ (decode cX11_is 64 = .ok (.iload_n 3, 1)) ∧ (decode cX11_is 65 = .ok (.iadd, 1)) ∧ (decode cX11_is 66 = .ok (.iaload, 1)) ∧ (decode cX11_is 67 = .ok (.if_icmp .ne 7, 3)) ∧ (decode cX11_is 70 = .ok (.iconst 1, 1)) ∧ (decode cX11_is 71 = .ok (.goto 4, 3)) := by decide +kernel
theorem dX11_is_60 : decode cX11_is 60 = .ok (.aload_n 0, 1) := eX11_is_60q.1
theorem dX11_is_61 : decode cX11_is 61 = .ok (.getfield 158, 3) := eX11_is_60q.2.1
theorem dX11_is_64 : decode cX11_is 64 = .ok (.iload_n 3, 1) := eX11_is_60q.2.2.1
theorem dX11_is_65 : decode cX11_is 65 = .ok (.iadd, 1) := eX11_is_60q.2.2.2.1
theorem dX11_is_66 : decode cX11_is 66 = .ok (.iaload, 1) := eX11_is_60q.2.2.2.2.1
theorem dX11_is_67 : decode cX11_is 67 = .ok (.if_icmp .ne 7, 3) := eX11_is_60q.2.2.2.2.2.1
theorem dX11_is_70 : decode cX11_is 70 = .ok (.iconst 1, 1) := eX11_is_60q.2.2.2.2.2.2.1
theorem dX11_is_71 : decode cX11_is 71 = .ok (.goto 4, 3) := eX11_is_60q.2.2.2.2.2.2.2
theorem eX11_is_74q : (decode cX11_is 74 = .ok (.iconst 0, 1)) ∧ (decode cX11_is 75 = .ok (.istore_n 2, 1)) ∧ (decode cX11_is 76 = .ok (.iinc 3 1, 3)) ∧ (decode cX11_is 79 = .ok (.goto (-40), 3)) ∧ (decode cX11_is 82 = .ok (.iload_n 2, 1)) ∧ (decode cX11_is 83 = .ok (.ireturn, 1)) := by decide +kernel
theorem dX11_is_74 : decode cX11_is 74 = .ok (.iconst 0, 1) := eX11_is_74q.1
theorem dX11_is_75 : decode cX11_is 75 = .ok (.istore_n 2, 1) := eX11_is_74q.2.1
theorem dX11_is_76 : decode cX11_is 76 = .ok (.iinc 3 1, 3) := eX11_is_74q.2.2.1
theorem dX11_is_79 : decode cX11_is 79 = .ok (.goto (-40), 3) := eX11_is_74q.2.2.2.1
theorem dX11_is_82 : decode cX11_is 82 = .ok (.iload_n 2, 1) := eX11_is_74q.2.2.2.2.1
theorem dX11_is_83 : decode cX11_is 83 = .ok (.ireturn, 1) := eX11_is_74q.2.2.2.2.2
set_option maxRecDepth 20000 in
theorem ggX11_which_X11_is : GoodIn wsX11_which wsX11_is := by
  have h := goodIn_app (goodIn_r (big := wsX11_which) (.code yX11_is cX11_is 4 (some .boolean) :: (wsX11_is_r1 ++ (wsX11_is_r2 ++ wsX11_is_r3)) : List Cond) [5, 6, 7, 8, 9, 10, 11, 12, 13, 14, 15, 16, 17, 18, 19, 20, 21, 22, 23, 24, 25, 26, 27, 28, 29, 30, 31, 32, 33, 34, 35, 36, 37, 38, 39, 40, 41, 42, 43, 44, 45, 46, 47, 48, 49, 50, 51, 52, 53, 54, 55, 56, 57, 58, 59] rfl (by decide +kernel)) (goodIn_few (big := wsX11_which) (fun _ h9 => List.mem_cons_of_mem _ (List.mem_append_right _ h9)) gb_0)
  exact h
set_option maxRecDepth 20000 in
theorem gX11_which_X11_is : GoodIn wsX11_which (wsV RX11 198 RX11 yX11_is wsX11_is) := goodIn_app (goodIn_r _ [1, 2, 3, 4] rfl (by decide +kernel)) ggX11_which_X11_is
theorem eX11_which_0q : (decode cX11_which 0 = .ok (.iconst 0, 1)) ∧ (decode cX11_which 1 = .ok (.istore_n 2, 1)) ∧ (decode cX11_which 2 = .ok (.iload_n 2, 1)) ∧ (decode cX11_which 3 = .ok (.aload_n 1, 1)) ∧ (decode cX11_which 4 = .ok (.arraylength, 1)) ∧ (decode cX11_which 5 = .ok (.if_icmp .ge 21, 3)) ∧ (decode cX11_which 8 = .ok (.aload_n 0, 1)) ∧ (decode cX11_which 9 = .ok (.aload_n 1, 1)) := by decide +kernel
theorem dX11_which_0 : decode cX11_which 0 = .ok (.iconst 0, 1) := eX11_which_0q.1
theorem dX11_which_1 : decode cX11_which 1 = .ok (.istore_n 2, 1) := eX11_which_0q.2.1
theorem dX11_which_2 : decode cX11_which 2 = .ok (.iload_n 2, 1) := eX11_which_0q.2.2.1
theorem dX11_which_3 : decode cX11_which 3 = .ok (.aload_n 1, 1) := eX11_which_0q.2.2.2.1
theorem dX11_which_4 : decode cX11_which 4 = .ok (.arraylength, 1) := eX11_which_0q.2.2.2.2.1
theorem dX11_which_5 : decode cX11_which 5 = .ok (.if_icmp .ge 21, 3) := eX11_which_0q.2.2.2.2.2.1
theorem dX11_which_8 : decode cX11_which 8 = .ok (.aload_n 0, 1) := eX11_which_0q.2.2.2.2.2.2.1
theorem dX11_which_9 : decode cX11_which 9 = .ok (.aload_n 1, 1) := eX11_which_0q.2.2.2.2.2.2.2
theorem eX11_which_10q : (decode cX11_which 10 = .ok (.iload_n 2, 1)) ∧ (decode cX11_which 11 = .ok (.aaload, 1)) ∧ (decode cX11_which 12 = .ok (.invokevirtual 198, 3)) ∧ (decode cX11_which 15 = .ok (.ifCond .eq 5, 3)) ∧ (decode cX11_which 18 = .ok (.iload_n 2, 1)) ∧ (decode cX11_which 19 = .ok (.ireturn, 1)) ∧ (decode cX11_which 20 = .ok (.iinc 2 1, 3)) ∧ (decode cX11_which 23 = .ok (.goto (-21), 3)) := by decide +kernel
theorem dX11_which_10 : decode cX11_which 10 = .ok (.iload_n 2, 1) := eX11_which_10q.1
theorem dX11_which_11 : decode cX11_which 11 = .ok (.aaload, 1) := eX11_which_10q.2.1
theorem dX11_which_12 : decode cX11_which 12 = .ok (.invokevirtual 198, 3) := eX11_which_10q.2.2.1
theorem dX11_which_15 : decode cX11_which 15 = .ok (.ifCond .eq 5, 3) := eX11_which_10q.2.2.2.1
theorem dX11_which_18 : decode cX11_which 18 = .ok (.iload_n 2, 1) := eX11_which_10q.2.2.2.2.1
theorem dX11_which_19 : decode cX11_which 19 = .ok (.ireturn, 1) := eX11_which_10q.2.2.2.2.2.1
theorem dX11_which_20 : decode cX11_which 20 = .ok (.iinc 2 1, 3) := eX11_which_10q.2.2.2.2.2.2.1
theorem dX11_which_23 : decode cX11_which 23 = .ok (.goto (-21), 3) := eX11_which_10q.2.2.2.2.2.2.2
theorem dX11_which_26 : decode cX11_which 26 = .ok (.iconst (-1), 1) := by decide +kernel
theorem dX11_which_27 : decode cX11_which 27 = .ok (.ireturn, 1) := by decide +kernel
set_option maxRecDepth 20000 in
theorem ggX11_numberNow_X11_wrong : GoodIn wsX11_numberNow wsX11_wrong := by
  have h := goodIn_app (goodIn_r (big := wsX11_numberNow) (.code yX11_wrong cX11_wrong 2 none :: ([.fieldLink RX11 184 "PathProberModel" "bad" "I", .fieldLink RX11 158 "PathProberModel" "begins" "I", .fieldLink RX11 187 "PathProberModel" "badPlace" "I"]) : List Cond) [10, 1, 4, 11] rfl (by decide +kernel)) (goodIn_few (big := wsX11_numberNow) (fun _ h9 => List.mem_cons_of_mem _ (List.mem_append_right _ h9)) gb_0)
  exact h
set_option maxRecDepth 20000 in
theorem gX11_numberNow_X11_wrong : GoodIn wsX11_numberNow (wsV RX11 202 RX11 yX11_wrong wsX11_wrong) := goodIn_app (goodIn_r _ [6, 7, 8, 9] rfl (by decide +kernel)) ggX11_numberNow_X11_wrong
theorem eX11_numberNow_0q : (decode cX11_numberNow 0 = .ok (.aload_n 0, 1)) ∧ (decode cX11_numberNow 1 = .ok (.getfield 184, 3)) ∧ (decode cX11_numberNow 4 = .ok (.ifCond .eq 5, 3)) ∧ (decode cX11_numberNow 7 = .ok (.iload_n 1, 1)) ∧ (decode cX11_numberNow 8 = .ok (.ireturn, 1)) ∧ (decode cX11_numberNow 9 = .ok (.aload_n 0, 1)) ∧ (decode cX11_numberNow 10 = .ok (.getfield 161, 3)) ∧ (decode cX11_numberNow 13 = .ok (.iconst 2, 1)) := by decide +kernel
theorem dX11_numberNow_0 : decode cX11_numberNow 0 = .ok (.aload_n 0, 1) := eX11_numberNow_0q.1
theorem dX11_numberNow_1 : decode cX11_numberNow 1 = .ok (.getfield 184, 3) := eX11_numberNow_0q.2.1
theorem dX11_numberNow_4 : decode cX11_numberNow 4 = .ok (.ifCond .eq 5, 3) := eX11_numberNow_0q.2.2.1
theorem dX11_numberNow_7 : decode cX11_numberNow 7 = .ok (.iload_n 1, 1) := eX11_numberNow_0q.2.2.2.1
theorem dX11_numberNow_8 : decode cX11_numberNow 8 = .ok (.ireturn, 1) := eX11_numberNow_0q.2.2.2.2.1
theorem dX11_numberNow_9 : decode cX11_numberNow 9 = .ok (.aload_n 0, 1) := eX11_numberNow_0q.2.2.2.2.2.1
theorem dX11_numberNow_10 : decode cX11_numberNow 10 = .ok (.getfield 161, 3) := eX11_numberNow_0q.2.2.2.2.2.2.1
theorem dX11_numberNow_13 : decode cX11_numberNow 13 = .ok (.iconst 2, 1) := eX11_numberNow_0q.2.2.2.2.2.2.2
theorem eX11_numberNow_14q : (decode cX11_numberNow 14 = .ok (.if_icmp .eq 11, 3)) ∧ (decode cX11_numberNow 17 = .ok (.aload_n 0, 1)) ∧ (decode cX11_numberNow 18 = .ok (.iconst 1, 1)) ∧ (decode cX11_numberNow 19 = .ok (.invokevirtual 202, 3)) ∧ (decode cX11_numberNow 22 = .ok (.goto 37, 3)) ∧ (decode cX11_numberNow 25 = .ok (.aload_n 0, 1)) ∧ (decode cX11_numberNow 26 = .ok (.getfield 181, 3)) ∧ (decode cX11_numberNow 29 = .ok (.aload_n 0, 1)) := by decide +kernel
theorem dX11_numberNow_14 : decode cX11_numberNow 14 = .ok (.if_icmp .eq 11, 3) := eX11_numberNow_14q.1
theorem dX11_numberNow_17 : decode cX11_numberNow 17 = .ok (.aload_n 0, 1) := eX11_numberNow_14q.2.1
theorem dX11_numberNow_18 : decode cX11_numberNow 18 = .ok (.iconst 1, 1) := eX11_numberNow_14q.2.2.1
theorem dX11_numberNow_19 : decode cX11_numberNow 19 = .ok (.invokevirtual 202, 3) := eX11_numberNow_14q.2.2.2.1
theorem dX11_numberNow_22 : decode cX11_numberNow 22 = .ok (.goto 37, 3) := eX11_numberNow_14q.2.2.2.2.1
theorem dX11_numberNow_25 : decode cX11_numberNow 25 = .ok (.aload_n 0, 1) := eX11_numberNow_14q.2.2.2.2.2.1
theorem dX11_numberNow_26 : decode cX11_numberNow 26 = .ok (.getfield 181, 3) := eX11_numberNow_14q.2.2.2.2.2.2.1
theorem dX11_numberNow_29 : decode cX11_numberNow 29 = .ok (.aload_n 0, 1) := eX11_numberNow_14q.2.2.2.2.2.2.2
theorem eX11_numberNow_30q : (decode cX11_numberNow 30 = .ok (.getfield 158, 3)) ∧ (decode cX11_numberNow 33 = .ok (.isub, 1)) ∧ (decode cX11_numberNow 34 = .ok (.iconst 2, 1)) ∧ (decode cX11_numberNow 35 = .ok (.if_icmp .gt 19, 3)) ∧ (decode cX11_numberNow 38 = .ok (.aload_n 0, 1)) ∧ (decode cX11_numberNow 39 = .ok (.getfield 171, 3)) ∧ (decode cX11_numberNow 42 = .ok (.iload_n 1, 1)) ∧ (decode cX11_numberNow 43 = .ok (.if_icmp .lt 11, 3)) := by decide +kernel
theorem dX11_numberNow_30 : decode cX11_numberNow 30 = .ok (.getfield 158, 3) := eX11_numberNow_30q.1
theorem dX11_numberNow_33 : decode cX11_numberNow 33 = .ok (.isub, 1) := eX11_numberNow_30q.2.1
theorem dX11_numberNow_34 : decode cX11_numberNow 34 = .ok (.iconst 2, 1) := eX11_numberNow_30q.2.2.1
theorem dX11_numberNow_35 : decode cX11_numberNow 35 = .ok (.if_icmp .gt 19, 3) := eX11_numberNow_30q.2.2.2.1
theorem dX11_numberNow_38 : decode cX11_numberNow 38 = .ok (.aload_n 0, 1) := eX11_numberNow_30q.2.2.2.2.1
theorem dX11_numberNow_39 : decode cX11_numberNow 39 = .ok (.getfield 171, 3) := eX11_numberNow_30q.2.2.2.2.2.1
theorem dX11_numberNow_42 : decode cX11_numberNow 42 = .ok (.iload_n 1, 1) := eX11_numberNow_30q.2.2.2.2.2.2.1
theorem dX11_numberNow_43 : decode cX11_numberNow 43 = .ok (.if_icmp .lt 11, 3) := eX11_numberNow_30q.2.2.2.2.2.2.2
theorem eX11_numberNow_46q : (decode cX11_numberNow 46 = .ok (.aload_n 0, 1)) ∧ (decode cX11_numberNow 47 = .ok (.getfield 171, 3)) ∧ (decode cX11_numberNow 50 = .ok (.iload_n 2, 1)) ∧ (decode cX11_numberNow 51 = .ok (.if_icmp .le 8, 3)) ∧ (decode cX11_numberNow 54 = .ok (.aload_n 0, 1)) ∧ (decode cX11_numberNow 55 = .ok (.iconst 2, 1)) ∧ (decode cX11_numberNow 56 = .ok (.invokevirtual 202, 3)) ∧ (decode cX11_numberNow 59 = .ok (.aload_n 0, 1)) := by decide +kernel
theorem dX11_numberNow_46 : decode cX11_numberNow 46 = .ok (.aload_n 0, 1) := eX11_numberNow_46q.1
theorem dX11_numberNow_47 : decode cX11_numberNow 47 = .ok (.getfield 171, 3) := eX11_numberNow_46q.2.1
theorem dX11_numberNow_50 : decode cX11_numberNow 50 = .ok (.iload_n 2, 1) := eX11_numberNow_46q.2.2.1
theorem dX11_numberNow_51 : decode cX11_numberNow 51 = .ok (.if_icmp .le 8, 3) := eX11_numberNow_46q.2.2.2.1
theorem dX11_numberNow_54 : decode cX11_numberNow 54 = .ok (.aload_n 0, 1) := eX11_numberNow_46q.2.2.2.2.1
theorem dX11_numberNow_55 : decode cX11_numberNow 55 = .ok (.iconst 2, 1) := eX11_numberNow_46q.2.2.2.2.2.1
theorem dX11_numberNow_56 : decode cX11_numberNow 56 = .ok (.invokevirtual 202, 3) := eX11_numberNow_46q.2.2.2.2.2.2.1
theorem dX11_numberNow_59 : decode cX11_numberNow 59 = .ok (.aload_n 0, 1) := eX11_numberNow_46q.2.2.2.2.2.2.2
theorem eX11_numberNow_60q : (decode cX11_numberNow 60 = .ok (.getfield 184, 3)) ∧ (decode cX11_numberNow 63 = .ok (.ifCond .ne 10, 3)) ∧ (decode cX11_numberNow 66 = .ok (.aload_n 0, 1)) ∧ (decode cX11_numberNow 67 = .ok (.getfield 171, 3)) ∧ (decode cX11_numberNow 70 = .ok (.goto 4, 3)) ∧ (decode cX11_numberNow 73 = .ok (.iload_n 1, 1)) ∧ (decode cX11_numberNow 74 = .ok (.ireturn, 1)) := by decide +kernel
theorem dX11_numberNow_60 : decode cX11_numberNow 60 = .ok (.getfield 184, 3) := eX11_numberNow_60q.1
theorem dX11_numberNow_63 : decode cX11_numberNow 63 = .ok (.ifCond .ne 10, 3) := eX11_numberNow_60q.2.1
theorem dX11_numberNow_66 : decode cX11_numberNow 66 = .ok (.aload_n 0, 1) := eX11_numberNow_60q.2.2.1
theorem dX11_numberNow_67 : decode cX11_numberNow 67 = .ok (.getfield 171, 3) := eX11_numberNow_60q.2.2.2.1
theorem dX11_numberNow_70 : decode cX11_numberNow 70 = .ok (.goto 4, 3) := eX11_numberNow_60q.2.2.2.2.1
theorem dX11_numberNow_73 : decode cX11_numberNow 73 = .ok (.iload_n 1, 1) := eX11_numberNow_60q.2.2.2.2.2.1
theorem dX11_numberNow_74 : decode cX11_numberNow 74 = .ok (.ireturn, 1) := eX11_numberNow_60q.2.2.2.2.2.2
set_option maxRecDepth 20000 in
theorem ggX11_readNumber_X11_numberNow : GoodIn wsX11_readNumber wsX11_numberNow := by
  have h := goodIn_app (goodIn_r (big := wsX11_readNumber) (.code yX11_numberNow cX11_numberNow 3 (some .int) :: ([.fieldLink RX11 184 "PathProberModel" "bad" "I", .fieldLink RX11 161 "PathProberModel" "token" "I", .fieldLink RX11 181 "PathProberModel" "stops" "I", .fieldLink RX11 158 "PathProberModel" "begins" "I", .fieldLink RX11 171 "PathProberModel" "number" "I", .methodLink RX11 202 yX11_wrong, .instanceMethod yX11_wrong, .selects RX11 yX11_wrong yX11_wrong, .initialized RX11, .code yX11_wrong cX11_wrong 2 none, .fieldLink RX11 187 "PathProberModel" "badPlace" "I"]) : List Cond) [6, 1, 7, 8, 9, 10, 11, 12, 13, 5, 14, 15] rfl (by decide +kernel)) (goodIn_few (big := wsX11_readNumber) (fun _ h9 => List.mem_cons_of_mem _ (List.mem_append_right _ h9)) gb_0)
  exact h
set_option maxRecDepth 20000 in
theorem gX11_readNumber_X11_numberNow : GoodIn wsX11_readNumber (wsV RX11 206 RX11 yX11_numberNow wsX11_numberNow) := goodIn_app (goodIn_r _ [2, 3, 4, 5] rfl (by decide +kernel)) ggX11_readNumber_X11_numberNow
set_option maxRecDepth 20000 in
theorem ggX11_readNumber_X11_stepOn : GoodIn wsX11_readNumber wsX11_stepOn := by
  have h := goodIn_app (goodIn_r (big := wsX11_readNumber) (.code yX11_stepOn cX11_stepOn 2 none :: ([.fieldLink RX11 151 "PathProberModel" "at" "I", .fieldLink RX11 158 "PathProberModel" "begins" "I", .fieldLink RX11 161 "PathProberModel" "token" "I", .fieldLink RX11 171 "PathProberModel" "number" "I", .constant RX11 174 (100000), .methodLink RX11 175 Lib.Math.min.name, .static Lib.Math.min.name, .initialized "java/lang/Math", .code Lib.Math.min.name Lib.Math.min.code 2 (some .int), .fieldLink RX11 181 "PathProberModel" "stops" "I", .methodLink RX11 154 yX11_byteAt, .instanceMethod yX11_byteAt, .selects RX11 yX11_byteAt yX11_byteAt, .initialized RX11, .code yX11_byteAt cX11_byteAt 2 (some .int), .fieldLink RX11 148 "PathProberModel" "textSize" "I", .fieldLink RX11 66 "PathProberModel" "tape" "[I", .methodLink RX11 164 yX11_isLetter, .static yX11_isLetter, .code yX11_isLetter cX11_isLetter 1 (some .boolean), .methodLink RX11 168 yX11_isDigit, .static yX11_isDigit, .code yX11_isDigit cX11_isDigit 1 (some .boolean)]) : List Cond) [19, 20, 9, 7, 10, 21, 22, 23, 24, 25, 8, 26, 27, 28, 5, 29, 30, 31, 32, 33, 34, 35, 36, 37] rfl (by decide +kernel)) (goodIn_few (big := wsX11_readNumber) (fun _ h9 => List.mem_cons_of_mem _ (List.mem_append_right _ h9)) gb_0)
  exact h
set_option maxRecDepth 20000 in
theorem gX11_readNumber_X11_stepOn : GoodIn wsX11_readNumber (wsV RX11 209 RX11 yX11_stepOn wsX11_stepOn) := goodIn_app (goodIn_r _ [16, 17, 18, 5] rfl (by decide +kernel)) ggX11_readNumber_X11_stepOn
theorem eX11_readNumber_0q : (decode cX11_readNumber 0 = .ok (.aload_n 0, 1)) ∧ (decode cX11_readNumber 1 = .ok (.iload_n 1, 1)) ∧ (decode cX11_readNumber 2 = .ok (.iload_n 2, 1)) ∧ (decode cX11_readNumber 3 = .ok (.invokevirtual 206, 3)) ∧ (decode cX11_readNumber 6 = .ok (.istore_n 3, 1)) ∧ (decode cX11_readNumber 7 = .ok (.aload_n 0, 1)) ∧ (decode cX11_readNumber 8 = .ok (.getfield 184, 3)) ∧ (decode cX11_readNumber 11 = .ok (.ifCond .ne 7, 3)) := by decide +kernel
theorem dX11_readNumber_0 : decode cX11_readNumber 0 = .ok (.aload_n 0, 1) := eX11_readNumber_0q.1
theorem dX11_readNumber_1 : decode cX11_readNumber 1 = .ok (.iload_n 1, 1) := eX11_readNumber_0q.2.1
theorem dX11_readNumber_2 : decode cX11_readNumber 2 = .ok (.iload_n 2, 1) := eX11_readNumber_0q.2.2.1
theorem dX11_readNumber_3 : decode cX11_readNumber 3 = .ok (.invokevirtual 206, 3) := eX11_readNumber_0q.2.2.2.1
theorem dX11_readNumber_6 : decode cX11_readNumber 6 = .ok (.istore_n 3, 1) := eX11_readNumber_0q.2.2.2.2.1
theorem dX11_readNumber_7 : decode cX11_readNumber 7 = .ok (.aload_n 0, 1) := eX11_readNumber_0q.2.2.2.2.2.1
theorem dX11_readNumber_8 : decode cX11_readNumber 8 = .ok (.getfield 184, 3) := eX11_readNumber_0q.2.2.2.2.2.2.1
theorem dX11_readNumber_11 : decode cX11_readNumber 11 = .ok (.ifCond .ne 7, 3) := eX11_readNumber_0q.2.2.2.2.2.2.2
theorem eX11_readNumber_14q : (decode cX11_readNumber 14 = .ok (.aload_n 0, 1)) ∧ (decode cX11_readNumber 15 = .ok (.invokevirtual 209, 3)) ∧ (decode cX11_readNumber 18 = .ok (.iload_n 3, 1)) ∧ (decode cX11_readNumber 19 = .ok (.ireturn, 1)) := by decide +kernel
theorem dX11_readNumber_14 : decode cX11_readNumber 14 = .ok (.aload_n 0, 1) := eX11_readNumber_14q.1
theorem dX11_readNumber_15 : decode cX11_readNumber 15 = .ok (.invokevirtual 209, 3) := eX11_readNumber_14q.2.1
theorem dX11_readNumber_18 : decode cX11_readNumber 18 = .ok (.iload_n 3, 1) := eX11_readNumber_14q.2.2.1
theorem dX11_readNumber_19 : decode cX11_readNumber 19 = .ok (.ireturn, 1) := eX11_readNumber_14q.2.2.2
set_option maxRecDepth 20000 in
theorem ggX11_routerNow_X11_numberNow : GoodIn wsX11_routerNow wsX11_numberNow := by
  have h := goodIn_app (goodIn_r (big := wsX11_routerNow) (.code yX11_numberNow cX11_numberNow 3 (some .int) :: ([.fieldLink RX11 184 "PathProberModel" "bad" "I", .fieldLink RX11 161 "PathProberModel" "token" "I", .fieldLink RX11 181 "PathProberModel" "stops" "I", .fieldLink RX11 158 "PathProberModel" "begins" "I", .fieldLink RX11 171 "PathProberModel" "number" "I", .methodLink RX11 202 yX11_wrong, .instanceMethod yX11_wrong, .selects RX11 yX11_wrong yX11_wrong, .initialized RX11, .code yX11_wrong cX11_wrong 2 none, .fieldLink RX11 187 "PathProberModel" "badPlace" "I"]) : List Cond) [7, 1, 8, 9, 10, 11, 12, 13, 14, 6, 15, 16] rfl (by decide +kernel)) (goodIn_few (big := wsX11_routerNow) (fun _ h9 => List.mem_cons_of_mem _ (List.mem_append_right _ h9)) gb_0)
  exact h
set_option maxRecDepth 20000 in
theorem gX11_routerNow_X11_numberNow : GoodIn wsX11_routerNow (wsV RX11 206 RX11 yX11_numberNow wsX11_numberNow) := goodIn_app (goodIn_r _ [3, 4, 5, 6] rfl (by decide +kernel)) ggX11_routerNow_X11_numberNow
set_option maxRecDepth 20000 in
theorem ggX11_routerNow_X11_wrong : GoodIn wsX11_routerNow wsX11_wrong := by
  have h := goodIn_app (goodIn_r (big := wsX11_routerNow) (.code yX11_wrong cX11_wrong 2 none :: ([.fieldLink RX11 184 "PathProberModel" "bad" "I", .fieldLink RX11 158 "PathProberModel" "begins" "I", .fieldLink RX11 187 "PathProberModel" "badPlace" "I"]) : List Cond) [15, 1, 10, 16] rfl (by decide +kernel)) (goodIn_few (big := wsX11_routerNow) (fun _ h9 => List.mem_cons_of_mem _ (List.mem_append_right _ h9)) gb_0)
  exact h
set_option maxRecDepth 20000 in
theorem gX11_routerNow_X11_wrong : GoodIn wsX11_routerNow (wsV RX11 202 RX11 yX11_wrong wsX11_wrong) := goodIn_app (goodIn_r _ [12, 13, 14, 6] rfl (by decide +kernel)) ggX11_routerNow_X11_wrong
theorem eX11_routerNow_0q : (decode cX11_routerNow 0 = .ok (.aload_n 0, 1)) ∧ (decode cX11_routerNow 1 = .ok (.iconst 0, 1)) ∧ (decode cX11_routerNow 2 = .ok (.bipush 11, 2)) ∧ (decode cX11_routerNow 4 = .ok (.invokevirtual 206, 3)) ∧ (decode cX11_routerNow 7 = .ok (.istore_n 1, 1)) ∧ (decode cX11_routerNow 8 = .ok (.aload_n 0, 1)) ∧ (decode cX11_routerNow 9 = .ok (.getfield 184, 3)) ∧ (decode cX11_routerNow 12 = .ok (.ifCond .ne 18, 3)) := by decide +kernel
theorem dX11_routerNow_0 : decode cX11_routerNow 0 = .ok (.aload_n 0, 1) := eX11_routerNow_0q.1
theorem dX11_routerNow_1 : decode cX11_routerNow 1 = .ok (.iconst 0, 1) := eX11_routerNow_0q.2.1
theorem dX11_routerNow_2 : decode cX11_routerNow 2 = .ok (.bipush 11, 2) := eX11_routerNow_0q.2.2.1
theorem dX11_routerNow_4 : decode cX11_routerNow 4 = .ok (.invokevirtual 206, 3) := eX11_routerNow_0q.2.2.2.1
theorem dX11_routerNow_7 : decode cX11_routerNow 7 = .ok (.istore_n 1, 1) := eX11_routerNow_0q.2.2.2.2.1
theorem dX11_routerNow_8 : decode cX11_routerNow 8 = .ok (.aload_n 0, 1) := eX11_routerNow_0q.2.2.2.2.2.1
theorem dX11_routerNow_9 : decode cX11_routerNow 9 = .ok (.getfield 184, 3) := eX11_routerNow_0q.2.2.2.2.2.2.1
theorem dX11_routerNow_12 : decode cX11_routerNow 12 = .ok (.ifCond .ne 18, 3) := eX11_routerNow_0q.2.2.2.2.2.2.2
theorem eX11_routerNow_15q : (decode cX11_routerNow 15 = .ok (.iload_n 1, 1)) ∧ (decode cX11_routerNow 16 = .ok (.aload_n 0, 1)) ∧ (decode cX11_routerNow 17 = .ok (.getfield 34, 3)) ∧ (decode cX11_routerNow 20 = .ok (.iconst 4, 1)) ∧ (decode cX11_routerNow 21 = .ok (.iaload, 1)) ∧ (decode cX11_routerNow 22 = .ok (.if_icmp .lt 8, 3)) ∧ (decode cX11_routerNow 25 = .ok (.aload_n 0, 1)) ∧ (decode cX11_routerNow 26 = .ok (.iconst 3, 1)) := by decide +kernel
theorem dX11_routerNow_15 : decode cX11_routerNow 15 = .ok (.iload_n 1, 1) := eX11_routerNow_15q.1
theorem dX11_routerNow_16 : decode cX11_routerNow 16 = .ok (.aload_n 0, 1) := eX11_routerNow_15q.2.1
theorem dX11_routerNow_17 : decode cX11_routerNow 17 = .ok (.getfield 34, 3) := eX11_routerNow_15q.2.2.1
theorem dX11_routerNow_20 : decode cX11_routerNow 20 = .ok (.iconst 4, 1) := eX11_routerNow_15q.2.2.2.1
theorem dX11_routerNow_21 : decode cX11_routerNow 21 = .ok (.iaload, 1) := eX11_routerNow_15q.2.2.2.2.1
theorem dX11_routerNow_22 : decode cX11_routerNow 22 = .ok (.if_icmp .lt 8, 3) := eX11_routerNow_15q.2.2.2.2.2.1
theorem dX11_routerNow_25 : decode cX11_routerNow 25 = .ok (.aload_n 0, 1) := eX11_routerNow_15q.2.2.2.2.2.2.1
theorem dX11_routerNow_26 : decode cX11_routerNow 26 = .ok (.iconst 3, 1) := eX11_routerNow_15q.2.2.2.2.2.2.2
theorem eX11_routerNow_27q : (decode cX11_routerNow 27 = .ok (.invokevirtual 202, 3)) ∧ (decode cX11_routerNow 30 = .ok (.iload_n 1, 1)) ∧ (decode cX11_routerNow 31 = .ok (.ireturn, 1)) := by decide +kernel
theorem dX11_routerNow_27 : decode cX11_routerNow 27 = .ok (.invokevirtual 202, 3) := eX11_routerNow_27q.1
theorem dX11_routerNow_30 : decode cX11_routerNow 30 = .ok (.iload_n 1, 1) := eX11_routerNow_27q.2.1
theorem dX11_routerNow_31 : decode cX11_routerNow 31 = .ok (.ireturn, 1) := eX11_routerNow_27q.2.2
set_option maxRecDepth 20000 in
theorem ggX11_readRouter_X11_wrong : GoodIn wsX11_readRouter wsX11_wrong := by
  have h := goodIn_app (goodIn_r (big := wsX11_readRouter) (.code yX11_wrong cX11_wrong 2 none :: ([.fieldLink RX11 184 "PathProberModel" "bad" "I", .fieldLink RX11 158 "PathProberModel" "begins" "I", .fieldLink RX11 187 "PathProberModel" "badPlace" "I"]) : List Cond) [13, 2, 14, 15] rfl (by decide +kernel)) (goodIn_few (big := wsX11_readRouter) (fun _ h9 => List.mem_cons_of_mem _ (List.mem_append_right _ h9)) gb_0)
  exact h
set_option maxRecDepth 20000 in
theorem gX11_readRouter_X11_wrong : GoodIn wsX11_readRouter (wsV RX11 202 RX11 yX11_wrong wsX11_wrong) := goodIn_app (goodIn_r _ [9, 10, 11, 12] rfl (by decide +kernel)) ggX11_readRouter_X11_wrong
set_option maxRecDepth 20000 in
theorem ggX11_readRouter_X11_stepOn : GoodIn wsX11_readRouter wsX11_stepOn := by
  have h := goodIn_app (goodIn_r (big := wsX11_readRouter) (.code yX11_stepOn cX11_stepOn 2 none :: ([.fieldLink RX11 151 "PathProberModel" "at" "I", .fieldLink RX11 158 "PathProberModel" "begins" "I", .fieldLink RX11 161 "PathProberModel" "token" "I", .fieldLink RX11 171 "PathProberModel" "number" "I", .constant RX11 174 (100000), .methodLink RX11 175 Lib.Math.min.name, .static Lib.Math.min.name, .initialized "java/lang/Math", .code Lib.Math.min.name Lib.Math.min.code 2 (some .int), .fieldLink RX11 181 "PathProberModel" "stops" "I", .methodLink RX11 154 yX11_byteAt, .instanceMethod yX11_byteAt, .selects RX11 yX11_byteAt yX11_byteAt, .initialized RX11, .code yX11_byteAt cX11_byteAt 2 (some .int), .fieldLink RX11 148 "PathProberModel" "textSize" "I", .fieldLink RX11 66 "PathProberModel" "tape" "[I", .methodLink RX11 164 yX11_isLetter, .static yX11_isLetter, .code yX11_isLetter cX11_isLetter 1 (some .boolean), .methodLink RX11 168 yX11_isDigit, .static yX11_isDigit, .code yX11_isDigit cX11_isDigit 1 (some .boolean)]) : List Cond) [19, 20, 14, 21, 22, 23, 24, 25, 26, 27, 28, 29, 30, 31, 12, 32, 33, 34, 35, 36, 37, 38, 39, 40] rfl (by decide +kernel)) (goodIn_few (big := wsX11_readRouter) (fun _ h9 => List.mem_cons_of_mem _ (List.mem_append_right _ h9)) gb_0)
  exact h
set_option maxRecDepth 20000 in
theorem gX11_readRouter_X11_stepOn : GoodIn wsX11_readRouter (wsV RX11 209 RX11 yX11_stepOn wsX11_stepOn) := goodIn_app (goodIn_r _ [16, 17, 18, 12] rfl (by decide +kernel)) ggX11_readRouter_X11_stepOn
set_option maxRecDepth 20000 in
theorem ggX11_readRouter_X11_which : GoodIn wsX11_readRouter wsX11_which := by
  have h := goodIn_app (goodIn_r (big := wsX11_readRouter) (.code yX11_which cX11_which 3 (some .int) :: (wsX11_which_r1 ++ (wsX11_which_r2 ++ wsX11_which_r3)) : List Cond) [44, 45, 46, 47, 12, 48, 2, 21, 28, 14, 34, 49, 50, 51, 52, 53, 54, 55, 56, 57, 58, 59, 60, 61, 62, 63, 64, 65, 66, 67, 68, 69, 70, 71, 72, 73, 74, 75, 76, 77, 78, 79, 80, 81, 82, 83, 84, 85, 86, 87, 88, 89, 90, 91, 92, 93, 94, 95, 96, 97] rfl (by decide +kernel)) (goodIn_few (big := wsX11_readRouter) (fun _ h9 => List.mem_cons_of_mem _ (List.mem_append_right _ h9)) gb_0)
  exact h
set_option maxRecDepth 20000 in
theorem gX11_readRouter_X11_which : GoodIn wsX11_readRouter (wsV RX11 212 RX11 yX11_which wsX11_which) := goodIn_app (goodIn_r _ [41, 42, 43, 12] rfl (by decide +kernel)) ggX11_readRouter_X11_which
set_option maxRecDepth 20000 in
theorem ggX11_readRouter_X11_readNumber : GoodIn wsX11_readRouter wsX11_readNumber := by
  have h := goodIn_app (goodIn_r (big := wsX11_readRouter) (.code yX11_readNumber cX11_readNumber 4 (some .int) :: (wsX11_readNumber_r1 ++ wsX11_readNumber_r2) : List Cond) [101, 2, 102, 103, 104, 12, 105, 21, 28, 14, 22, 9, 10, 11, 13, 15, 16, 17, 18, 19, 20, 23, 24, 25, 26, 27, 29, 30, 31, 32, 33, 34, 35, 36, 37, 38, 39, 40] rfl (by decide +kernel)) (goodIn_few (big := wsX11_readRouter) (fun _ h9 => List.mem_cons_of_mem _ (List.mem_append_right _ h9)) gb_0)
  exact h
set_option maxRecDepth 20000 in
theorem gX11_readRouter_X11_readNumber : GoodIn wsX11_readRouter (wsV RX11 216 RX11 yX11_readNumber wsX11_readNumber) := goodIn_app (goodIn_r _ [98, 99, 100, 12] rfl (by decide +kernel)) ggX11_readRouter_X11_readNumber
set_option maxRecDepth 20000 in
theorem ggX11_readRouter_X11_is : GoodIn wsX11_readRouter wsX11_is := by
  have h := goodIn_app (goodIn_r (big := wsX11_readRouter) (.code yX11_is cX11_is 4 (some .boolean) :: (wsX11_is_r1 ++ (wsX11_is_r2 ++ wsX11_is_r3)) : List Cond) [48, 2, 21, 28, 14, 34, 49, 50, 51, 52, 53, 54, 55, 56, 57, 58, 59, 60, 61, 62, 63, 64, 65, 66, 67, 68, 69, 70, 71, 72, 73, 74, 75, 76, 77, 78, 79, 80, 81, 82, 83, 84, 85, 86, 87, 88, 89, 90, 91, 92, 93, 94, 95, 96, 97] rfl (by decide +kernel)) (goodIn_few (big := wsX11_readRouter) (fun _ h9 => List.mem_cons_of_mem _ (List.mem_append_right _ h9)) gb_0)
  exact h
set_option maxRecDepth 20000 in
theorem gX11_readRouter_X11_is : GoodIn wsX11_readRouter (wsV RX11 198 RX11 yX11_is wsX11_is) := goodIn_app (goodIn_r _ [45, 46, 47, 12] rfl (by decide +kernel)) ggX11_readRouter_X11_is
theorem eX11_readRouter_0q : (decode cX11_readRouter 0 = .ok (.aload_n 0, 1)) ∧ (decode cX11_readRouter 1 = .ok (.getfield 34, 3)) ∧ (decode cX11_readRouter 4 = .ok (.iconst 4, 1)) ∧ (decode cX11_readRouter 5 = .ok (.iaload, 1)) ∧ (decode cX11_readRouter 6 = .ok (.bipush 12, 2)) ∧ (decode cX11_readRouter 8 = .ok (.if_icmp .ne 8, 3)) ∧ (decode cX11_readRouter 11 = .ok (.aload_n 0, 1)) ∧ (decode cX11_readRouter 12 = .ok (.iconst 2, 1)) := by decide +kernel
theorem dX11_readRouter_0 : decode cX11_readRouter 0 = .ok (.aload_n 0, 1) := eX11_readRouter_0q.1
theorem dX11_readRouter_1 : decode cX11_readRouter 1 = .ok (.getfield 34, 3) := eX11_readRouter_0q.2.1
theorem dX11_readRouter_4 : decode cX11_readRouter 4 = .ok (.iconst 4, 1) := eX11_readRouter_0q.2.2.1
theorem dX11_readRouter_5 : decode cX11_readRouter 5 = .ok (.iaload, 1) := eX11_readRouter_0q.2.2.2.1
theorem dX11_readRouter_6 : decode cX11_readRouter 6 = .ok (.bipush 12, 2) := eX11_readRouter_0q.2.2.2.2.1
theorem dX11_readRouter_8 : decode cX11_readRouter 8 = .ok (.if_icmp .ne 8, 3) := eX11_readRouter_0q.2.2.2.2.2.1
theorem dX11_readRouter_11 : decode cX11_readRouter 11 = .ok (.aload_n 0, 1) := eX11_readRouter_0q.2.2.2.2.2.2.1
theorem dX11_readRouter_12 : decode cX11_readRouter 12 = .ok (.iconst 2, 1) := eX11_readRouter_0q.2.2.2.2.2.2.2
theorem eX11_readRouter_13q : (decode cX11_readRouter 13 = .ok (.invokevirtual 202, 3)) ∧ (decode cX11_readRouter 16 = .ok (.aload_n 0, 1)) ∧ (decode cX11_readRouter 17 = .ok (.getfield 184, 3)) ∧ (decode cX11_readRouter 20 = .ok (.ifCond .eq 4, 3)) ∧ (decode cX11_readRouter 23 = .ok (.return_, 1)) ∧ (decode cX11_readRouter 24 = .ok (.aload_n 0, 1)) ∧ (decode cX11_readRouter 25 = .ok (.invokevirtual 209, 3)) ∧ (decode cX11_readRouter 28 = .ok (.bipush 12, 2)) := by decide +kernel
theorem dX11_readRouter_13 : decode cX11_readRouter 13 = .ok (.invokevirtual 202, 3) := eX11_readRouter_13q.1
theorem dX11_readRouter_16 : decode cX11_readRouter 16 = .ok (.aload_n 0, 1) := eX11_readRouter_13q.2.1
theorem dX11_readRouter_17 : decode cX11_readRouter 17 = .ok (.getfield 184, 3) := eX11_readRouter_13q.2.2.1
theorem dX11_readRouter_20 : decode cX11_readRouter 20 = .ok (.ifCond .eq 4, 3) := eX11_readRouter_13q.2.2.2.1
theorem dX11_readRouter_23 : decode cX11_readRouter 23 = .ok (.return_, 1) := eX11_readRouter_13q.2.2.2.2.1
theorem dX11_readRouter_24 : decode cX11_readRouter 24 = .ok (.aload_n 0, 1) := eX11_readRouter_13q.2.2.2.2.2.1
theorem dX11_readRouter_25 : decode cX11_readRouter 25 = .ok (.invokevirtual 209, 3) := eX11_readRouter_13q.2.2.2.2.2.2.1
theorem dX11_readRouter_28 : decode cX11_readRouter 28 = .ok (.bipush 12, 2) := eX11_readRouter_13q.2.2.2.2.2.2.2
theorem eX11_readRouter_30q : (decode cX11_readRouter 30 = .ok (.aload_n 0, 1)) ∧ (decode cX11_readRouter 31 = .ok (.getfield 34, 3)) ∧ (decode cX11_readRouter 34 = .ok (.iconst 4, 1)) ∧ (decode cX11_readRouter 35 = .ok (.iaload, 1)) ∧ (decode cX11_readRouter 36 = .ok (.iadd, 1)) ∧ (decode cX11_readRouter 37 = .ok (.istore_n 1, 1)) ∧ (decode cX11_readRouter 38 = .ok (.aload_n 0, 1)) ∧ (decode cX11_readRouter 39 = .ok (.aload_n 0, 1)) := by decide +kernel
theorem dX11_readRouter_30 : decode cX11_readRouter 30 = .ok (.aload_n 0, 1) := eX11_readRouter_30q.1
theorem dX11_readRouter_31 : decode cX11_readRouter 31 = .ok (.getfield 34, 3) := eX11_readRouter_30q.2.1
theorem dX11_readRouter_34 : decode cX11_readRouter 34 = .ok (.iconst 4, 1) := eX11_readRouter_30q.2.2.1
theorem dX11_readRouter_35 : decode cX11_readRouter 35 = .ok (.iaload, 1) := eX11_readRouter_30q.2.2.2.1
theorem dX11_readRouter_36 : decode cX11_readRouter 36 = .ok (.iadd, 1) := eX11_readRouter_30q.2.2.2.2.1
theorem dX11_readRouter_37 : decode cX11_readRouter 37 = .ok (.istore_n 1, 1) := eX11_readRouter_30q.2.2.2.2.2.1
theorem dX11_readRouter_38 : decode cX11_readRouter 38 = .ok (.aload_n 0, 1) := eX11_readRouter_30q.2.2.2.2.2.2.1
theorem dX11_readRouter_39 : decode cX11_readRouter 39 = .ok (.aload_n 0, 1) := eX11_readRouter_30q.2.2.2.2.2.2.2
theorem eX11_readRouter_40q : (decode cX11_readRouter 40 = .ok (.getfield 31, 3)) ∧ (decode cX11_readRouter 43 = .ok (.invokevirtual 212, 3)) ∧ (decode cX11_readRouter 46 = .ok (.istore_n 2, 1)) ∧ (decode cX11_readRouter 47 = .ok (.iload_n 2, 1)) ∧ (decode cX11_readRouter 48 = .ok (.iconst (-1), 1)) ∧ (decode cX11_readRouter 49 = .ok (.if_icmp .ne 8, 3)) ∧ (decode cX11_readRouter 52 = .ok (.aload_n 0, 1)) ∧ (decode cX11_readRouter 53 = .ok (.iconst 1, 1)) := by decide +kernel
theorem dX11_readRouter_40 : decode cX11_readRouter 40 = .ok (.getfield 31, 3) := eX11_readRouter_40q.1
theorem dX11_readRouter_43 : decode cX11_readRouter 43 = .ok (.invokevirtual 212, 3) := eX11_readRouter_40q.2.1
theorem dX11_readRouter_46 : decode cX11_readRouter 46 = .ok (.istore_n 2, 1) := eX11_readRouter_40q.2.2.1
theorem dX11_readRouter_47 : decode cX11_readRouter 47 = .ok (.iload_n 2, 1) := eX11_readRouter_40q.2.2.2.1
theorem dX11_readRouter_48 : decode cX11_readRouter 48 = .ok (.iconst (-1), 1) := eX11_readRouter_40q.2.2.2.2.1
theorem dX11_readRouter_49 : decode cX11_readRouter 49 = .ok (.if_icmp .ne 8, 3) := eX11_readRouter_40q.2.2.2.2.2.1
theorem dX11_readRouter_52 : decode cX11_readRouter 52 = .ok (.aload_n 0, 1) := eX11_readRouter_40q.2.2.2.2.2.2.1
theorem dX11_readRouter_53 : decode cX11_readRouter 53 = .ok (.iconst 1, 1) := eX11_readRouter_40q.2.2.2.2.2.2.2
theorem eX11_readRouter_54q : (decode cX11_readRouter 54 = .ok (.invokevirtual 202, 3)) ∧ (decode cX11_readRouter 57 = .ok (.aload_n 0, 1)) ∧ (decode cX11_readRouter 58 = .ok (.getfield 184, 3)) ∧ (decode cX11_readRouter 61 = .ok (.ifCond .ne 7, 3)) ∧ (decode cX11_readRouter 64 = .ok (.aload_n 0, 1)) ∧ (decode cX11_readRouter 65 = .ok (.invokevirtual 209, 3)) ∧ (decode cX11_readRouter 68 = .ok (.aload_n 0, 1)) ∧ (decode cX11_readRouter 69 = .ok (.getfield 38, 3)) := by decide +kernel
theorem dX11_readRouter_54 : decode cX11_readRouter 54 = .ok (.invokevirtual 202, 3) := eX11_readRouter_54q.1
theorem dX11_readRouter_57 : decode cX11_readRouter 57 = .ok (.aload_n 0, 1) := eX11_readRouter_54q.2.1
theorem dX11_readRouter_58 : decode cX11_readRouter 58 = .ok (.getfield 184, 3) := eX11_readRouter_54q.2.2.1
theorem dX11_readRouter_61 : decode cX11_readRouter 61 = .ok (.ifCond .ne 7, 3) := eX11_readRouter_54q.2.2.2.1
theorem dX11_readRouter_64 : decode cX11_readRouter 64 = .ok (.aload_n 0, 1) := eX11_readRouter_54q.2.2.2.2.1
theorem dX11_readRouter_65 : decode cX11_readRouter 65 = .ok (.invokevirtual 209, 3) := eX11_readRouter_54q.2.2.2.2.2.1
theorem dX11_readRouter_68 : decode cX11_readRouter 68 = .ok (.aload_n 0, 1) := eX11_readRouter_54q.2.2.2.2.2.2.1
theorem dX11_readRouter_69 : decode cX11_readRouter 69 = .ok (.getfield 38, 3) := eX11_readRouter_54q.2.2.2.2.2.2.2
theorem eX11_readRouter_72q : (decode cX11_readRouter 72 = .ok (.iload_n 1, 1)) ∧ (decode cX11_readRouter 73 = .ok (.iload_n 2, 1)) ∧ (decode cX11_readRouter 74 = .ok (.iastore, 1)) ∧ (decode cX11_readRouter 75 = .ok (.aload_n 0, 1)) ∧ (decode cX11_readRouter 76 = .ok (.getfield 41, 3)) ∧ (decode cX11_readRouter 79 = .ok (.iload_n 1, 1)) ∧ (decode cX11_readRouter 80 = .ok (.aload_n 0, 1)) ∧ (decode cX11_readRouter 81 = .ok (.iconst 0, 1)) := by decide +kernel
theorem dX11_readRouter_72 : decode cX11_readRouter 72 = .ok (.iload_n 1, 1) := eX11_readRouter_72q.1
theorem dX11_readRouter_73 : decode cX11_readRouter 73 = .ok (.iload_n 2, 1) := eX11_readRouter_72q.2.1
theorem dX11_readRouter_74 : decode cX11_readRouter 74 = .ok (.iastore, 1) := eX11_readRouter_72q.2.2.1
theorem dX11_readRouter_75 : decode cX11_readRouter 75 = .ok (.aload_n 0, 1) := eX11_readRouter_72q.2.2.2.1
theorem dX11_readRouter_76 : decode cX11_readRouter 76 = .ok (.getfield 41, 3) := eX11_readRouter_72q.2.2.2.2.1
theorem dX11_readRouter_79 : decode cX11_readRouter 79 = .ok (.iload_n 1, 1) := eX11_readRouter_72q.2.2.2.2.2.1
theorem dX11_readRouter_80 : decode cX11_readRouter 80 = .ok (.aload_n 0, 1) := eX11_readRouter_72q.2.2.2.2.2.2.1
theorem dX11_readRouter_81 : decode cX11_readRouter 81 = .ok (.iconst 0, 1) := eX11_readRouter_72q.2.2.2.2.2.2.2
theorem eX11_readRouter_82q : (decode cX11_readRouter 82 = .ok (.bipush 15, 2)) ∧ (decode cX11_readRouter 84 = .ok (.invokevirtual 216, 3)) ∧ (decode cX11_readRouter 87 = .ok (.iastore, 1)) ∧ (decode cX11_readRouter 88 = .ok (.aload_n 0, 1)) ∧ (decode cX11_readRouter 89 = .ok (.getfield 44, 3)) ∧ (decode cX11_readRouter 92 = .ok (.iload_n 1, 1)) ∧ (decode cX11_readRouter 93 = .ok (.aload_n 0, 1)) ∧ (decode cX11_readRouter 94 = .ok (.iconst 1, 1)) := by decide +kernel
theorem dX11_readRouter_82 : decode cX11_readRouter 82 = .ok (.bipush 15, 2) := eX11_readRouter_82q.1
theorem dX11_readRouter_84 : decode cX11_readRouter 84 = .ok (.invokevirtual 216, 3) := eX11_readRouter_82q.2.1
theorem dX11_readRouter_87 : decode cX11_readRouter 87 = .ok (.iastore, 1) := eX11_readRouter_82q.2.2.1
theorem dX11_readRouter_88 : decode cX11_readRouter 88 = .ok (.aload_n 0, 1) := eX11_readRouter_82q.2.2.2.1
theorem dX11_readRouter_89 : decode cX11_readRouter 89 = .ok (.getfield 44, 3) := eX11_readRouter_82q.2.2.2.2.1
theorem dX11_readRouter_92 : decode cX11_readRouter 92 = .ok (.iload_n 1, 1) := eX11_readRouter_82q.2.2.2.2.2.1
theorem dX11_readRouter_93 : decode cX11_readRouter 93 = .ok (.aload_n 0, 1) := eX11_readRouter_82q.2.2.2.2.2.2.1
theorem dX11_readRouter_94 : decode cX11_readRouter 94 = .ok (.iconst 1, 1) := eX11_readRouter_82q.2.2.2.2.2.2.2
theorem eX11_readRouter_95q : (decode cX11_readRouter 95 = .ok (.bipush 60, 2)) ∧ (decode cX11_readRouter 97 = .ok (.invokevirtual 216, 3)) ∧ (decode cX11_readRouter 100 = .ok (.iastore, 1)) ∧ (decode cX11_readRouter 101 = .ok (.aload_n 0, 1)) ∧ (decode cX11_readRouter 102 = .ok (.getfield 47, 3)) ∧ (decode cX11_readRouter 105 = .ok (.iload_n 1, 1)) ∧ (decode cX11_readRouter 106 = .ok (.aload_n 0, 1)) ∧ (decode cX11_readRouter 107 = .ok (.ldc 219, 2)) := by decide +kernel
theorem dX11_readRouter_95 : decode cX11_readRouter 95 = .ok (.bipush 60, 2) := eX11_readRouter_95q.1
theorem dX11_readRouter_97 : decode cX11_readRouter 97 = .ok (.invokevirtual 216, 3) := eX11_readRouter_95q.2.1
theorem dX11_readRouter_100 : decode cX11_readRouter 100 = .ok (.iastore, 1) := eX11_readRouter_95q.2.2.1
theorem dX11_readRouter_101 : decode cX11_readRouter 101 = .ok (.aload_n 0, 1) := eX11_readRouter_95q.2.2.2.1
theorem dX11_readRouter_102 : decode cX11_readRouter 102 = .ok (.getfield 47, 3) := eX11_readRouter_95q.2.2.2.2.1
theorem dX11_readRouter_105 : decode cX11_readRouter 105 = .ok (.iload_n 1, 1) := eX11_readRouter_95q.2.2.2.2.2.1
theorem dX11_readRouter_106 : decode cX11_readRouter 106 = .ok (.aload_n 0, 1) := eX11_readRouter_95q.2.2.2.2.2.2.1
theorem dX11_readRouter_107 : decode cX11_readRouter 107 = .ok (.ldc 219, 2) := eX11_readRouter_95q.2.2.2.2.2.2.2
theorem eX11_readRouter_109q : (decode cX11_readRouter 109 = .ok (.invokevirtual 198, 3)) ∧ (decode cX11_readRouter 112 = .ok (.ifCond .eq 7, 3)) ∧ (decode cX11_readRouter 115 = .ok (.iconst 1, 1)) ∧ (decode cX11_readRouter 116 = .ok (.goto 4, 3)) ∧ (decode cX11_readRouter 119 = .ok (.iconst 0, 1)) ∧ (decode cX11_readRouter 120 = .ok (.iastore, 1)) ∧ (decode cX11_readRouter 121 = .ok (.aload_n 0, 1)) ∧ (decode cX11_readRouter 122 = .ok (.getfield 50, 3)) := by decide +kernel
theorem dX11_readRouter_109 : decode cX11_readRouter 109 = .ok (.invokevirtual 198, 3) := eX11_readRouter_109q.1
theorem dX11_readRouter_112 : decode cX11_readRouter 112 = .ok (.ifCond .eq 7, 3) := eX11_readRouter_109q.2.1
theorem dX11_readRouter_115 : decode cX11_readRouter 115 = .ok (.iconst 1, 1) := eX11_readRouter_109q.2.2.1
theorem dX11_readRouter_116 : decode cX11_readRouter 116 = .ok (.goto 4, 3) := eX11_readRouter_109q.2.2.2.1
theorem dX11_readRouter_119 : decode cX11_readRouter 119 = .ok (.iconst 0, 1) := eX11_readRouter_109q.2.2.2.2.1
theorem dX11_readRouter_120 : decode cX11_readRouter 120 = .ok (.iastore, 1) := eX11_readRouter_109q.2.2.2.2.2.1
theorem dX11_readRouter_121 : decode cX11_readRouter 121 = .ok (.aload_n 0, 1) := eX11_readRouter_109q.2.2.2.2.2.2.1
theorem dX11_readRouter_122 : decode cX11_readRouter 122 = .ok (.getfield 50, 3) := eX11_readRouter_109q.2.2.2.2.2.2.2
theorem eX11_readRouter_125q : (decode cX11_readRouter 125 = .ok (.iload_n 1, 1)) ∧ (decode cX11_readRouter 126 = .ok (.aload_n 0, 1)) ∧ (decode cX11_readRouter 127 = .ok (.ldc 220, 2)) ∧ (decode cX11_readRouter 129 = .ok (.invokevirtual 198, 3)) ∧ (decode cX11_readRouter 132 = .ok (.ifCond .eq 7, 3)) ∧ (decode cX11_readRouter 135 = .ok (.iconst 1, 1)) ∧ (decode cX11_readRouter 136 = .ok (.goto 4, 3)) ∧ (decode cX11_readRouter 139 = .ok (.iconst 0, 1)) := by decide +kernel
theorem dX11_readRouter_125 : decode cX11_readRouter 125 = .ok (.iload_n 1, 1) := eX11_readRouter_125q.1
theorem dX11_readRouter_126 : decode cX11_readRouter 126 = .ok (.aload_n 0, 1) := eX11_readRouter_125q.2.1
theorem dX11_readRouter_127 : decode cX11_readRouter 127 = .ok (.ldc 220, 2) := eX11_readRouter_125q.2.2.1
theorem dX11_readRouter_129 : decode cX11_readRouter 129 = .ok (.invokevirtual 198, 3) := eX11_readRouter_125q.2.2.2.1
theorem dX11_readRouter_132 : decode cX11_readRouter 132 = .ok (.ifCond .eq 7, 3) := eX11_readRouter_125q.2.2.2.2.1
theorem dX11_readRouter_135 : decode cX11_readRouter 135 = .ok (.iconst 1, 1) := eX11_readRouter_125q.2.2.2.2.2.1
theorem dX11_readRouter_136 : decode cX11_readRouter 136 = .ok (.goto 4, 3) := eX11_readRouter_125q.2.2.2.2.2.2.1
theorem dX11_readRouter_139 : decode cX11_readRouter 139 = .ok (.iconst 0, 1) := eX11_readRouter_125q.2.2.2.2.2.2.2
theorem eX11_readRouter_140q : (decode cX11_readRouter 140 = .ok (.iastore, 1)) ∧ (decode cX11_readRouter 141 = .ok (.aload_n 0, 1)) ∧ (decode cX11_readRouter 142 = .ok (.getfield 184, 3)) ∧ (decode cX11_readRouter 145 = .ok (.ifCond .ne 23, 3)) ∧ (decode cX11_readRouter 148 = .ok (.aload_n 0, 1)) ∧ (decode cX11_readRouter 149 = .ok (.getfield 47, 3)) ∧ (decode cX11_readRouter 152 = .ok (.iload_n 1, 1)) ∧ (decode cX11_readRouter 153 = .ok (.iaload, 1)) := by decide +kernel
theorem dX11_readRouter_140 : decode cX11_readRouter 140 = .ok (.iastore, 1) := eX11_readRouter_140q.1
theorem dX11_readRouter_141 : decode cX11_readRouter 141 = .ok (.aload_n 0, 1) := eX11_readRouter_140q.2.1
theorem dX11_readRouter_142 : decode cX11_readRouter 142 = .ok (.getfield 184, 3) := eX11_readRouter_140q.2.2.1
theorem dX11_readRouter_145 : decode cX11_readRouter 145 = .ok (.ifCond .ne 23, 3) := eX11_readRouter_140q.2.2.2.1
theorem dX11_readRouter_148 : decode cX11_readRouter 148 = .ok (.aload_n 0, 1) := eX11_readRouter_140q.2.2.2.2.1
theorem dX11_readRouter_149 : decode cX11_readRouter 149 = .ok (.getfield 47, 3) := eX11_readRouter_140q.2.2.2.2.2.1
theorem dX11_readRouter_152 : decode cX11_readRouter 152 = .ok (.iload_n 1, 1) := eX11_readRouter_140q.2.2.2.2.2.2.1
theorem dX11_readRouter_153 : decode cX11_readRouter 153 = .ok (.iaload, 1) := eX11_readRouter_140q.2.2.2.2.2.2.2
theorem eX11_readRouter_154q : (decode cX11_readRouter 154 = .ok (.aload_n 0, 1)) ∧ (decode cX11_readRouter 155 = .ok (.getfield 50, 3)) ∧ (decode cX11_readRouter 158 = .ok (.iload_n 1, 1)) ∧ (decode cX11_readRouter 159 = .ok (.iaload, 1)) ∧ (decode cX11_readRouter 160 = .ok (.iadd, 1)) ∧ (decode cX11_readRouter 161 = .ok (.ifCond .le 7, 3)) ∧ (decode cX11_readRouter 164 = .ok (.aload_n 0, 1)) ∧ (decode cX11_readRouter 165 = .ok (.invokevirtual 209, 3)) := by decide +kernel
theorem dX11_readRouter_154 : decode cX11_readRouter 154 = .ok (.aload_n 0, 1) := eX11_readRouter_154q.1
theorem dX11_readRouter_155 : decode cX11_readRouter 155 = .ok (.getfield 50, 3) := eX11_readRouter_154q.2.1
theorem dX11_readRouter_158 : decode cX11_readRouter 158 = .ok (.iload_n 1, 1) := eX11_readRouter_154q.2.2.1
theorem dX11_readRouter_159 : decode cX11_readRouter 159 = .ok (.iaload, 1) := eX11_readRouter_154q.2.2.2.1
theorem dX11_readRouter_160 : decode cX11_readRouter 160 = .ok (.iadd, 1) := eX11_readRouter_154q.2.2.2.2.1
theorem dX11_readRouter_161 : decode cX11_readRouter 161 = .ok (.ifCond .le 7, 3) := eX11_readRouter_154q.2.2.2.2.2.1
theorem dX11_readRouter_164 : decode cX11_readRouter 164 = .ok (.aload_n 0, 1) := eX11_readRouter_154q.2.2.2.2.2.2.1
theorem dX11_readRouter_165 : decode cX11_readRouter 165 = .ok (.invokevirtual 209, 3) := eX11_readRouter_154q.2.2.2.2.2.2.2
theorem eX11_readRouter_168q : (decode cX11_readRouter 168 = .ok (.aload_n 0, 1)) ∧ (decode cX11_readRouter 169 = .ok (.getfield 34, 3)) ∧ (decode cX11_readRouter 172 = .ok (.iconst 4, 1)) ∧ (decode cX11_readRouter 173 = .ok (.dup2, 1)) ∧ (decode cX11_readRouter 174 = .ok (.iaload, 1)) ∧ (decode cX11_readRouter 175 = .ok (.iconst 1, 1)) ∧ (decode cX11_readRouter 176 = .ok (.iadd, 1)) ∧ (decode cX11_readRouter 177 = .ok (.iastore, 1)) := by decide +kernel
theorem dX11_readRouter_168 : decode cX11_readRouter 168 = .ok (.aload_n 0, 1) := eX11_readRouter_168q.1
theorem dX11_readRouter_169 : decode cX11_readRouter 169 = .ok (.getfield 34, 3) := eX11_readRouter_168q.2.1
theorem dX11_readRouter_172 : decode cX11_readRouter 172 = .ok (.iconst 4, 1) := eX11_readRouter_168q.2.2.1
theorem dX11_readRouter_173 : decode cX11_readRouter 173 = .ok (.dup2, 1) := eX11_readRouter_168q.2.2.2.1
theorem dX11_readRouter_174 : decode cX11_readRouter 174 = .ok (.iaload, 1) := eX11_readRouter_168q.2.2.2.2.1
theorem dX11_readRouter_175 : decode cX11_readRouter 175 = .ok (.iconst 1, 1) := eX11_readRouter_168q.2.2.2.2.2.1
theorem dX11_readRouter_176 : decode cX11_readRouter 176 = .ok (.iadd, 1) := eX11_readRouter_168q.2.2.2.2.2.2.1
theorem dX11_readRouter_177 : decode cX11_readRouter 177 = .ok (.iastore, 1) := eX11_readRouter_168q.2.2.2.2.2.2.2
theorem dX11_readRouter_178 : decode cX11_readRouter 178 = .ok (.return_, 1) := by decide +kernel
set_option maxRecDepth 20000 in
theorem ggX11_readLink_X11_wrong : GoodIn wsX11_readLink wsX11_wrong := by
  have h := goodIn_app (goodIn_r (big := wsX11_readLink) (.code yX11_wrong cX11_wrong 2 none :: ([.fieldLink RX11 184 "PathProberModel" "bad" "I", .fieldLink RX11 158 "PathProberModel" "begins" "I", .fieldLink RX11 187 "PathProberModel" "badPlace" "I"]) : List Cond) [9, 2, 10, 11] rfl (by decide +kernel)) (goodIn_few (big := wsX11_readLink) (fun _ h9 => List.mem_cons_of_mem _ (List.mem_append_right _ h9)) gb_0)
  exact h
set_option maxRecDepth 20000 in
theorem gX11_readLink_X11_wrong : GoodIn wsX11_readLink (wsV RX11 202 RX11 yX11_wrong wsX11_wrong) := goodIn_app (goodIn_r _ [5, 6, 7, 8] rfl (by decide +kernel)) ggX11_readLink_X11_wrong
set_option maxRecDepth 20000 in
theorem ggX11_readLink_X11_stepOn : GoodIn wsX11_readLink wsX11_stepOn := by
  have h := goodIn_app (goodIn_r (big := wsX11_readLink) (.code yX11_stepOn cX11_stepOn 2 none :: ([.fieldLink RX11 151 "PathProberModel" "at" "I", .fieldLink RX11 158 "PathProberModel" "begins" "I", .fieldLink RX11 161 "PathProberModel" "token" "I", .fieldLink RX11 171 "PathProberModel" "number" "I", .constant RX11 174 (100000), .methodLink RX11 175 Lib.Math.min.name, .static Lib.Math.min.name, .initialized "java/lang/Math", .code Lib.Math.min.name Lib.Math.min.code 2 (some .int), .fieldLink RX11 181 "PathProberModel" "stops" "I", .methodLink RX11 154 yX11_byteAt, .instanceMethod yX11_byteAt, .selects RX11 yX11_byteAt yX11_byteAt, .initialized RX11, .code yX11_byteAt cX11_byteAt 2 (some .int), .fieldLink RX11 148 "PathProberModel" "textSize" "I", .fieldLink RX11 66 "PathProberModel" "tape" "[I", .methodLink RX11 164 yX11_isLetter, .static yX11_isLetter, .code yX11_isLetter cX11_isLetter 1 (some .boolean), .methodLink RX11 168 yX11_isDigit, .static yX11_isDigit, .code yX11_isDigit cX11_isDigit 1 (some .boolean)]) : List Cond) [15, 16, 10, 17, 18, 19, 20, 21, 22, 23, 24, 25, 26, 27, 8, 28, 29, 30, 31, 32, 33, 34, 35, 36] rfl (by decide +kernel)) (goodIn_few (big := wsX11_readLink) (fun _ h9 => List.mem_cons_of_mem _ (List.mem_append_right _ h9)) gb_0)
  exact h
set_option maxRecDepth 20000 in
theorem gX11_readLink_X11_stepOn : GoodIn wsX11_readLink (wsV RX11 209 RX11 yX11_stepOn wsX11_stepOn) := goodIn_app (goodIn_r _ [12, 13, 14, 8] rfl (by decide +kernel)) ggX11_readLink_X11_stepOn
set_option maxRecDepth 20000 in
theorem ggX11_readLink_X11_routerNow : GoodIn wsX11_readLink wsX11_routerNow := by
  have h := goodIn_app (goodIn_r (big := wsX11_readLink) (.code yX11_routerNow cX11_routerNow 2 (some .int) :: ([.fieldLink RX11 184 "PathProberModel" "bad" "I", .fieldLink RX11 34 "PathProberModel" "told" "[I", .methodLink RX11 206 yX11_numberNow, .instanceMethod yX11_numberNow, .selects RX11 yX11_numberNow yX11_numberNow, .initialized RX11, .code yX11_numberNow cX11_numberNow 3 (some .int), .fieldLink RX11 161 "PathProberModel" "token" "I", .fieldLink RX11 181 "PathProberModel" "stops" "I", .fieldLink RX11 158 "PathProberModel" "begins" "I", .fieldLink RX11 171 "PathProberModel" "number" "I", .methodLink RX11 202 yX11_wrong, .instanceMethod yX11_wrong, .selects RX11 yX11_wrong yX11_wrong, .code yX11_wrong cX11_wrong 2 none, .fieldLink RX11 187 "PathProberModel" "badPlace" "I"]) : List Cond) [40, 2, 1, 41, 42, 43, 8, 44, 17, 24, 10, 18, 5, 6, 7, 9, 11] rfl (by decide +kernel)) (goodIn_few (big := wsX11_readLink) (fun _ h9 => List.mem_cons_of_mem _ (List.mem_append_right _ h9)) gb_0)
  exact h
set_option maxRecDepth 20000 in
theorem gX11_readLink_X11_routerNow : GoodIn wsX11_readLink (wsV RX11 221 RX11 yX11_routerNow wsX11_routerNow) := goodIn_app (goodIn_r _ [37, 38, 39, 8] rfl (by decide +kernel)) ggX11_readLink_X11_routerNow
set_option maxRecDepth 20000 in
theorem ggX11_readLink_X11_linksFrom : GoodIn wsX11_readLink wsX11_linksFrom := by
  have h := goodIn_app (goodIn_r (big := wsX11_readLink) (.code yX11_linksFrom cX11_linksFrom 4 (some .int) :: ([.fieldLink RX11 34 "PathProberModel" "told" "[I", .fieldLink RX11 53 "PathProberModel" "from" "[I"]) : List Cond) [48, 1, 3] rfl (by decide +kernel)) (goodIn_few (big := wsX11_readLink) (fun _ h9 => List.mem_cons_of_mem _ (List.mem_append_right _ h9)) gb_0)
  exact h
set_option maxRecDepth 20000 in
theorem gX11_readLink_X11_linksFrom : GoodIn wsX11_readLink (wsV RX11 224 RX11 yX11_linksFrom wsX11_linksFrom) := goodIn_app (goodIn_r _ [45, 46, 47, 8] rfl (by decide +kernel)) ggX11_readLink_X11_linksFrom
set_option maxRecDepth 20000 in
theorem ggX11_readLink_X11_hasLink : GoodIn wsX11_readLink wsX11_hasLink := by
  have h := goodIn_app (goodIn_r (big := wsX11_readLink) (.code yX11_hasLink cX11_hasLink 5 (some .boolean) :: ([.fieldLink RX11 34 "PathProberModel" "told" "[I", .fieldLink RX11 53 "PathProberModel" "from" "[I", .fieldLink RX11 56 "PathProberModel" "to" "[I"]) : List Cond) [52, 1, 3, 4] rfl (by decide +kernel)) (goodIn_few (big := wsX11_readLink) (fun _ h9 => List.mem_cons_of_mem _ (List.mem_append_right _ h9)) gb_0)
  exact h
set_option maxRecDepth 20000 in
theorem gX11_readLink_X11_hasLink : GoodIn wsX11_readLink (wsV RX11 227 RX11 yX11_hasLink wsX11_hasLink) := goodIn_app (goodIn_r _ [49, 50, 51, 8] rfl (by decide +kernel)) ggX11_readLink_X11_hasLink
theorem eX11_readLink_0q : (decode cX11_readLink 0 = .ok (.aload_n 0, 1)) ∧ (decode cX11_readLink 1 = .ok (.getfield 34, 3)) ∧ (decode cX11_readLink 4 = .ok (.iconst 5, 1)) ∧ (decode cX11_readLink 5 = .ok (.iaload, 1)) ∧ (decode cX11_readLink 6 = .ok (.bipush 20, 2)) ∧ (decode cX11_readLink 8 = .ok (.if_icmp .ne 8, 3)) ∧ (decode cX11_readLink 11 = .ok (.aload_n 0, 1)) ∧ (decode cX11_readLink 12 = .ok (.iconst 2, 1)) := by decide +kernel
theorem dX11_readLink_0 : decode cX11_readLink 0 = .ok (.aload_n 0, 1) := eX11_readLink_0q.1
theorem dX11_readLink_1 : decode cX11_readLink 1 = .ok (.getfield 34, 3) := eX11_readLink_0q.2.1
theorem dX11_readLink_4 : decode cX11_readLink 4 = .ok (.iconst 5, 1) := eX11_readLink_0q.2.2.1
theorem dX11_readLink_5 : decode cX11_readLink 5 = .ok (.iaload, 1) := eX11_readLink_0q.2.2.2.1
theorem dX11_readLink_6 : decode cX11_readLink 6 = .ok (.bipush 20, 2) := eX11_readLink_0q.2.2.2.2.1
theorem dX11_readLink_8 : decode cX11_readLink 8 = .ok (.if_icmp .ne 8, 3) := eX11_readLink_0q.2.2.2.2.2.1
theorem dX11_readLink_11 : decode cX11_readLink 11 = .ok (.aload_n 0, 1) := eX11_readLink_0q.2.2.2.2.2.2.1
theorem dX11_readLink_12 : decode cX11_readLink 12 = .ok (.iconst 2, 1) := eX11_readLink_0q.2.2.2.2.2.2.2
theorem eX11_readLink_13q : (decode cX11_readLink 13 = .ok (.invokevirtual 202, 3)) ∧ (decode cX11_readLink 16 = .ok (.aload_n 0, 1)) ∧ (decode cX11_readLink 17 = .ok (.getfield 184, 3)) ∧ (decode cX11_readLink 20 = .ok (.ifCond .eq 4, 3)) ∧ (decode cX11_readLink 23 = .ok (.return_, 1)) ∧ (decode cX11_readLink 24 = .ok (.aload_n 0, 1)) ∧ (decode cX11_readLink 25 = .ok (.invokevirtual 209, 3)) ∧ (decode cX11_readLink 28 = .ok (.aload_n 0, 1)) := by decide +kernel
theorem dX11_readLink_13 : decode cX11_readLink 13 = .ok (.invokevirtual 202, 3) := eX11_readLink_13q.1
theorem dX11_readLink_16 : decode cX11_readLink 16 = .ok (.aload_n 0, 1) := eX11_readLink_13q.2.1
theorem dX11_readLink_17 : decode cX11_readLink 17 = .ok (.getfield 184, 3) := eX11_readLink_13q.2.2.1
theorem dX11_readLink_20 : decode cX11_readLink 20 = .ok (.ifCond .eq 4, 3) := eX11_readLink_13q.2.2.2.1
theorem dX11_readLink_23 : decode cX11_readLink 23 = .ok (.return_, 1) := eX11_readLink_13q.2.2.2.2.1
theorem dX11_readLink_24 : decode cX11_readLink 24 = .ok (.aload_n 0, 1) := eX11_readLink_13q.2.2.2.2.2.1
theorem dX11_readLink_25 : decode cX11_readLink 25 = .ok (.invokevirtual 209, 3) := eX11_readLink_13q.2.2.2.2.2.2.1
theorem dX11_readLink_28 : decode cX11_readLink 28 = .ok (.aload_n 0, 1) := eX11_readLink_13q.2.2.2.2.2.2.2
theorem eX11_readLink_29q : (decode cX11_readLink 29 = .ok (.invokevirtual 221, 3)) ∧ (decode cX11_readLink 32 = .ok (.istore_n 1, 1)) ∧ (decode cX11_readLink 33 = .ok (.aload_n 0, 1)) ∧ (decode cX11_readLink 34 = .ok (.getfield 184, 3)) ∧ (decode cX11_readLink 37 = .ok (.ifCond .ne 17, 3)) ∧ (decode cX11_readLink 40 = .ok (.aload_n 0, 1)) ∧ (decode cX11_readLink 41 = .ok (.iload_n 1, 1)) ∧ (decode cX11_readLink 42 = .ok (.invokevirtual 224, 3)) := by decide +kernel
theorem dX11_readLink_29 : decode cX11_readLink 29 = .ok (.invokevirtual 221, 3) := eX11_readLink_29q.1
theorem dX11_readLink_32 : decode cX11_readLink 32 = .ok (.istore_n 1, 1) := eX11_readLink_29q.2.1
theorem dX11_readLink_33 : decode cX11_readLink 33 = .ok (.aload_n 0, 1) := eX11_readLink_29q.2.2.1
theorem dX11_readLink_34 : decode cX11_readLink 34 = .ok (.getfield 184, 3) := eX11_readLink_29q.2.2.2.1
theorem dX11_readLink_37 : decode cX11_readLink 37 = .ok (.ifCond .ne 17, 3) := eX11_readLink_29q.2.2.2.2.1
theorem dX11_readLink_40 : decode cX11_readLink 40 = .ok (.aload_n 0, 1) := eX11_readLink_29q.2.2.2.2.2.1
theorem dX11_readLink_41 : decode cX11_readLink 41 = .ok (.iload_n 1, 1) := eX11_readLink_29q.2.2.2.2.2.2.1
theorem dX11_readLink_42 : decode cX11_readLink 42 = .ok (.invokevirtual 224, 3) := eX11_readLink_29q.2.2.2.2.2.2.2
theorem eX11_readLink_45q : (decode cX11_readLink 45 = .ok (.iconst 4, 1)) ∧ (decode cX11_readLink 46 = .ok (.if_icmp .ne 8, 3)) ∧ (decode cX11_readLink 49 = .ok (.aload_n 0, 1)) ∧ (decode cX11_readLink 50 = .ok (.iconst 2, 1)) ∧ (decode cX11_readLink 51 = .ok (.invokevirtual 202, 3)) ∧ (decode cX11_readLink 54 = .ok (.aload_n 0, 1)) ∧ (decode cX11_readLink 55 = .ok (.getfield 184, 3)) ∧ (decode cX11_readLink 58 = .ok (.ifCond .ne 7, 3)) := by decide +kernel
theorem dX11_readLink_45 : decode cX11_readLink 45 = .ok (.iconst 4, 1) := eX11_readLink_45q.1
theorem dX11_readLink_46 : decode cX11_readLink 46 = .ok (.if_icmp .ne 8, 3) := eX11_readLink_45q.2.1
theorem dX11_readLink_49 : decode cX11_readLink 49 = .ok (.aload_n 0, 1) := eX11_readLink_45q.2.2.1
theorem dX11_readLink_50 : decode cX11_readLink 50 = .ok (.iconst 2, 1) := eX11_readLink_45q.2.2.2.1
theorem dX11_readLink_51 : decode cX11_readLink 51 = .ok (.invokevirtual 202, 3) := eX11_readLink_45q.2.2.2.2.1
theorem dX11_readLink_54 : decode cX11_readLink 54 = .ok (.aload_n 0, 1) := eX11_readLink_45q.2.2.2.2.2.1
theorem dX11_readLink_55 : decode cX11_readLink 55 = .ok (.getfield 184, 3) := eX11_readLink_45q.2.2.2.2.2.2.1
theorem dX11_readLink_58 : decode cX11_readLink 58 = .ok (.ifCond .ne 7, 3) := eX11_readLink_45q.2.2.2.2.2.2.2
theorem eX11_readLink_61q : (decode cX11_readLink 61 = .ok (.aload_n 0, 1)) ∧ (decode cX11_readLink 62 = .ok (.invokevirtual 209, 3)) ∧ (decode cX11_readLink 65 = .ok (.aload_n 0, 1)) ∧ (decode cX11_readLink 66 = .ok (.invokevirtual 221, 3)) ∧ (decode cX11_readLink 69 = .ok (.istore_n 2, 1)) ∧ (decode cX11_readLink 70 = .ok (.aload_n 0, 1)) ∧ (decode cX11_readLink 71 = .ok (.getfield 184, 3)) ∧ (decode cX11_readLink 74 = .ok (.ifCond .ne 22, 3)) := by decide +kernel
theorem dX11_readLink_61 : decode cX11_readLink 61 = .ok (.aload_n 0, 1) := eX11_readLink_61q.1
theorem dX11_readLink_62 : decode cX11_readLink 62 = .ok (.invokevirtual 209, 3) := eX11_readLink_61q.2.1
theorem dX11_readLink_65 : decode cX11_readLink 65 = .ok (.aload_n 0, 1) := eX11_readLink_61q.2.2.1
theorem dX11_readLink_66 : decode cX11_readLink 66 = .ok (.invokevirtual 221, 3) := eX11_readLink_61q.2.2.2.1
theorem dX11_readLink_69 : decode cX11_readLink 69 = .ok (.istore_n 2, 1) := eX11_readLink_61q.2.2.2.2.1
theorem dX11_readLink_70 : decode cX11_readLink 70 = .ok (.aload_n 0, 1) := eX11_readLink_61q.2.2.2.2.2.1
theorem dX11_readLink_71 : decode cX11_readLink 71 = .ok (.getfield 184, 3) := eX11_readLink_61q.2.2.2.2.2.2.1
theorem dX11_readLink_74 : decode cX11_readLink 74 = .ok (.ifCond .ne 22, 3) := eX11_readLink_61q.2.2.2.2.2.2.2
theorem eX11_readLink_77q : (decode cX11_readLink 77 = .ok (.iload_n 2, 1)) ∧ (decode cX11_readLink 78 = .ok (.iload_n 1, 1)) ∧ (decode cX11_readLink 79 = .ok (.if_icmp .le 12, 3)) ∧ (decode cX11_readLink 82 = .ok (.aload_n 0, 1)) ∧ (decode cX11_readLink 83 = .ok (.iload_n 1, 1)) ∧ (decode cX11_readLink 84 = .ok (.iload_n 2, 1)) ∧ (decode cX11_readLink 85 = .ok (.invokevirtual 227, 3)) ∧ (decode cX11_readLink 88 = .ok (.ifCond .eq 8, 3)) := by decide +kernel
theorem dX11_readLink_77 : decode cX11_readLink 77 = .ok (.iload_n 2, 1) := eX11_readLink_77q.1
theorem dX11_readLink_78 : decode cX11_readLink 78 = .ok (.iload_n 1, 1) := eX11_readLink_77q.2.1
theorem dX11_readLink_79 : decode cX11_readLink 79 = .ok (.if_icmp .le 12, 3) := eX11_readLink_77q.2.2.1
theorem dX11_readLink_82 : decode cX11_readLink 82 = .ok (.aload_n 0, 1) := eX11_readLink_77q.2.2.2.1
theorem dX11_readLink_83 : decode cX11_readLink 83 = .ok (.iload_n 1, 1) := eX11_readLink_77q.2.2.2.2.1
theorem dX11_readLink_84 : decode cX11_readLink 84 = .ok (.iload_n 2, 1) := eX11_readLink_77q.2.2.2.2.2.1
theorem dX11_readLink_85 : decode cX11_readLink 85 = .ok (.invokevirtual 227, 3) := eX11_readLink_77q.2.2.2.2.2.2.1
theorem dX11_readLink_88 : decode cX11_readLink 88 = .ok (.ifCond .eq 8, 3) := eX11_readLink_77q.2.2.2.2.2.2.2
theorem eX11_readLink_91q : (decode cX11_readLink 91 = .ok (.aload_n 0, 1)) ∧ (decode cX11_readLink 92 = .ok (.iconst 5, 1)) ∧ (decode cX11_readLink 93 = .ok (.invokevirtual 202, 3)) ∧ (decode cX11_readLink 96 = .ok (.aload_n 0, 1)) ∧ (decode cX11_readLink 97 = .ok (.getfield 184, 3)) ∧ (decode cX11_readLink 100 = .ok (.ifCond .eq 4, 3)) ∧ (decode cX11_readLink 103 = .ok (.return_, 1)) ∧ (decode cX11_readLink 104 = .ok (.aload_n 0, 1)) := by decide +kernel
theorem dX11_readLink_91 : decode cX11_readLink 91 = .ok (.aload_n 0, 1) := eX11_readLink_91q.1
theorem dX11_readLink_92 : decode cX11_readLink 92 = .ok (.iconst 5, 1) := eX11_readLink_91q.2.1
theorem dX11_readLink_93 : decode cX11_readLink 93 = .ok (.invokevirtual 202, 3) := eX11_readLink_91q.2.2.1
theorem dX11_readLink_96 : decode cX11_readLink 96 = .ok (.aload_n 0, 1) := eX11_readLink_91q.2.2.2.1
theorem dX11_readLink_97 : decode cX11_readLink 97 = .ok (.getfield 184, 3) := eX11_readLink_91q.2.2.2.2.1
theorem dX11_readLink_100 : decode cX11_readLink 100 = .ok (.ifCond .eq 4, 3) := eX11_readLink_91q.2.2.2.2.2.1
theorem dX11_readLink_103 : decode cX11_readLink 103 = .ok (.return_, 1) := eX11_readLink_91q.2.2.2.2.2.2.1
theorem dX11_readLink_104 : decode cX11_readLink 104 = .ok (.aload_n 0, 1) := eX11_readLink_91q.2.2.2.2.2.2.2
theorem eX11_readLink_105q : (decode cX11_readLink 105 = .ok (.invokevirtual 209, 3)) ∧ (decode cX11_readLink 108 = .ok (.aload_n 0, 1)) ∧ (decode cX11_readLink 109 = .ok (.getfield 53, 3)) ∧ (decode cX11_readLink 112 = .ok (.bipush 20, 2)) ∧ (decode cX11_readLink 114 = .ok (.aload_n 0, 1)) ∧ (decode cX11_readLink 115 = .ok (.getfield 34, 3)) ∧ (decode cX11_readLink 118 = .ok (.iconst 5, 1)) ∧ (decode cX11_readLink 119 = .ok (.iaload, 1)) := by decide +kernel
theorem dX11_readLink_105 : decode cX11_readLink 105 = .ok (.invokevirtual 209, 3) := eX11_readLink_105q.1
theorem dX11_readLink_108 : decode cX11_readLink 108 = .ok (.aload_n 0, 1) := eX11_readLink_105q.2.1
theorem dX11_readLink_109 : decode cX11_readLink 109 = .ok (.getfield 53, 3) := eX11_readLink_105q.2.2.1
theorem dX11_readLink_112 : decode cX11_readLink 112 = .ok (.bipush 20, 2) := eX11_readLink_105q.2.2.2.1
theorem dX11_readLink_114 : decode cX11_readLink 114 = .ok (.aload_n 0, 1) := eX11_readLink_105q.2.2.2.2.1
theorem dX11_readLink_115 : decode cX11_readLink 115 = .ok (.getfield 34, 3) := eX11_readLink_105q.2.2.2.2.2.1
theorem dX11_readLink_118 : decode cX11_readLink 118 = .ok (.iconst 5, 1) := eX11_readLink_105q.2.2.2.2.2.2.1
theorem dX11_readLink_119 : decode cX11_readLink 119 = .ok (.iaload, 1) := eX11_readLink_105q.2.2.2.2.2.2.2
theorem eX11_readLink_120q : (decode cX11_readLink 120 = .ok (.iadd, 1)) ∧ (decode cX11_readLink 121 = .ok (.iload_n 1, 1)) ∧ (decode cX11_readLink 122 = .ok (.iastore, 1)) ∧ (decode cX11_readLink 123 = .ok (.aload_n 0, 1)) ∧ (decode cX11_readLink 124 = .ok (.getfield 56, 3)) ∧ (decode cX11_readLink 127 = .ok (.bipush 20, 2)) ∧ (decode cX11_readLink 129 = .ok (.aload_n 0, 1)) ∧ (decode cX11_readLink 130 = .ok (.getfield 34, 3)) := by decide +kernel
theorem dX11_readLink_120 : decode cX11_readLink 120 = .ok (.iadd, 1) := eX11_readLink_120q.1
theorem dX11_readLink_121 : decode cX11_readLink 121 = .ok (.iload_n 1, 1) := eX11_readLink_120q.2.1
theorem dX11_readLink_122 : decode cX11_readLink 122 = .ok (.iastore, 1) := eX11_readLink_120q.2.2.1
theorem dX11_readLink_123 : decode cX11_readLink 123 = .ok (.aload_n 0, 1) := eX11_readLink_120q.2.2.2.1
theorem dX11_readLink_124 : decode cX11_readLink 124 = .ok (.getfield 56, 3) := eX11_readLink_120q.2.2.2.2.1
theorem dX11_readLink_127 : decode cX11_readLink 127 = .ok (.bipush 20, 2) := eX11_readLink_120q.2.2.2.2.2.1
theorem dX11_readLink_129 : decode cX11_readLink 129 = .ok (.aload_n 0, 1) := eX11_readLink_120q.2.2.2.2.2.2.1
theorem dX11_readLink_130 : decode cX11_readLink 130 = .ok (.getfield 34, 3) := eX11_readLink_120q.2.2.2.2.2.2.2
theorem eX11_readLink_133q : (decode cX11_readLink 133 = .ok (.iconst 5, 1)) ∧ (decode cX11_readLink 134 = .ok (.iaload, 1)) ∧ (decode cX11_readLink 135 = .ok (.iadd, 1)) ∧ (decode cX11_readLink 136 = .ok (.iload_n 2, 1)) ∧ (decode cX11_readLink 137 = .ok (.iastore, 1)) ∧ (decode cX11_readLink 138 = .ok (.aload_n 0, 1)) ∧ (decode cX11_readLink 139 = .ok (.getfield 34, 3)) ∧ (decode cX11_readLink 142 = .ok (.iconst 5, 1)) := by decide +kernel
theorem dX11_readLink_133 : decode cX11_readLink 133 = .ok (.iconst 5, 1) := eX11_readLink_133q.1
theorem dX11_readLink_134 : decode cX11_readLink 134 = .ok (.iaload, 1) := eX11_readLink_133q.2.1
theorem dX11_readLink_135 : decode cX11_readLink 135 = .ok (.iadd, 1) := eX11_readLink_133q.2.2.1
theorem dX11_readLink_136 : decode cX11_readLink 136 = .ok (.iload_n 2, 1) := eX11_readLink_133q.2.2.2.1
theorem dX11_readLink_137 : decode cX11_readLink 137 = .ok (.iastore, 1) := eX11_readLink_133q.2.2.2.2.1
theorem dX11_readLink_138 : decode cX11_readLink 138 = .ok (.aload_n 0, 1) := eX11_readLink_133q.2.2.2.2.2.1
theorem dX11_readLink_139 : decode cX11_readLink 139 = .ok (.getfield 34, 3) := eX11_readLink_133q.2.2.2.2.2.2.1
theorem dX11_readLink_142 : decode cX11_readLink 142 = .ok (.iconst 5, 1) := eX11_readLink_133q.2.2.2.2.2.2.2
theorem eX11_readLink_143q : (decode cX11_readLink 143 = .ok (.dup2, 1)) ∧ (decode cX11_readLink 144 = .ok (.iaload, 1)) ∧ (decode cX11_readLink 145 = .ok (.iconst 1, 1)) ∧ (decode cX11_readLink 146 = .ok (.iadd, 1)) ∧ (decode cX11_readLink 147 = .ok (.iastore, 1)) ∧ (decode cX11_readLink 148 = .ok (.return_, 1)) := by decide +kernel
theorem dX11_readLink_143 : decode cX11_readLink 143 = .ok (.dup2, 1) := eX11_readLink_143q.1
theorem dX11_readLink_144 : decode cX11_readLink 144 = .ok (.iaload, 1) := eX11_readLink_143q.2.1
theorem dX11_readLink_145 : decode cX11_readLink 145 = .ok (.iconst 1, 1) := eX11_readLink_143q.2.2.1
theorem dX11_readLink_146 : decode cX11_readLink 146 = .ok (.iadd, 1) := eX11_readLink_143q.2.2.2.1
theorem dX11_readLink_147 : decode cX11_readLink 147 = .ok (.iastore, 1) := eX11_readLink_143q.2.2.2.2.1
theorem dX11_readLink_148 : decode cX11_readLink 148 = .ok (.return_, 1) := eX11_readLink_143q.2.2.2.2.2
set_option maxRecDepth 20000 in
theorem ggX11_isAddress_X11_links : GoodIn wsX11_isAddress wsX11_links := by
  have h := goodIn_app (goodIn_r (big := wsX11_isAddress) (.code yX11_links cX11_links 1 (some .int) :: ([.fieldLink RX11 34 "PathProberModel" "told" "[I"]) : List Cond) [5, 6] rfl (by decide +kernel)) (goodIn_few (big := wsX11_isAddress) (fun _ h9 => List.mem_cons_of_mem _ (List.mem_append_right _ h9)) gb_0)
  exact h
set_option maxRecDepth 20000 in
theorem gX11_isAddress_X11_links : GoodIn wsX11_isAddress (wsV RX11 266 RX11 yX11_links wsX11_links) := goodIn_app (goodIn_r _ [1, 2, 3, 4] rfl (by decide +kernel)) ggX11_isAddress_X11_links
set_option maxRecDepth 20000 in
theorem ggX11_isAddress_X11_isIn : GoodIn wsX11_isAddress wsX11_isIn := goodIn_r _ [9] rfl (by decide +kernel)
set_option maxRecDepth 20000 in
theorem gX11_isAddress_X11_isIn : GoodIn wsX11_isAddress (va_wsS RX11 359 yX11_isIn wsX11_isIn) := goodIn_app (goodIn_r _ [7, 8, 4] rfl (by decide +kernel)) ggX11_isAddress_X11_isIn
set_option maxRecDepth 20000 in
theorem ggX11_isAddress_X11_routers : GoodIn wsX11_isAddress wsX11_routers := by
  have h := goodIn_app (goodIn_r (big := wsX11_isAddress) (.code yX11_routers cX11_routers 1 (some .int) :: ([.fieldLink RX11 34 "PathProberModel" "told" "[I"]) : List Cond) [13, 6] rfl (by decide +kernel)) (goodIn_few (big := wsX11_isAddress) (fun _ h9 => List.mem_cons_of_mem _ (List.mem_append_right _ h9)) gb_0)
  exact h
set_option maxRecDepth 20000 in
theorem gX11_isAddress_X11_routers : GoodIn wsX11_isAddress (wsV RX11 263 RX11 yX11_routers wsX11_routers) := goodIn_app (goodIn_r _ [10, 11, 12, 4] rfl (by decide +kernel)) ggX11_isAddress_X11_routers
theorem eX11_isAddress_0q : (decode cX11_isAddress 0 = .ok (.iload_n 1, 1)) ∧ (decode cX11_isAddress 1 = .ok (.iconst 0, 1)) ∧ (decode cX11_isAddress 2 = .ok (.aload_n 0, 1)) ∧ (decode cX11_isAddress 3 = .ok (.invokevirtual 266, 3)) ∧ (decode cX11_isAddress 6 = .ok (.invokestatic 359, 3)) ∧ (decode cX11_isAddress 9 = .ok (.ifCond .eq 14, 3)) ∧ (decode cX11_isAddress 12 = .ok (.aload_n 0, 1)) ∧ (decode cX11_isAddress 13 = .ok (.invokevirtual 263, 3)) := by decide +kernel
theorem dX11_isAddress_0 : decode cX11_isAddress 0 = .ok (.iload_n 1, 1) := eX11_isAddress_0q.1
theorem dX11_isAddress_1 : decode cX11_isAddress 1 = .ok (.iconst 0, 1) := eX11_isAddress_0q.2.1
theorem dX11_isAddress_2 : decode cX11_isAddress 2 = .ok (.aload_n 0, 1) := eX11_isAddress_0q.2.2.1
theorem dX11_isAddress_3 : decode cX11_isAddress 3 = .ok (.invokevirtual 266, 3) := eX11_isAddress_0q.2.2.2.1
theorem dX11_isAddress_6 : decode cX11_isAddress 6 = .ok (.invokestatic 359, 3) := eX11_isAddress_0q.2.2.2.2.1
theorem dX11_isAddress_9 : decode cX11_isAddress 9 = .ok (.ifCond .eq 14, 3) := eX11_isAddress_0q.2.2.2.2.2.1
theorem dX11_isAddress_12 : decode cX11_isAddress 12 = .ok (.aload_n 0, 1) := eX11_isAddress_0q.2.2.2.2.2.2.1
theorem dX11_isAddress_13 : decode cX11_isAddress 13 = .ok (.invokevirtual 263, 3) := eX11_isAddress_0q.2.2.2.2.2.2.2
theorem eX11_isAddress_16q : (decode cX11_isAddress 16 = .ok (.ifCond .le 7, 3)) ∧ (decode cX11_isAddress 19 = .ok (.iconst 1, 1)) ∧ (decode cX11_isAddress 20 = .ok (.goto 4, 3)) ∧ (decode cX11_isAddress 23 = .ok (.iconst 0, 1)) ∧ (decode cX11_isAddress 24 = .ok (.ireturn, 1)) := by decide +kernel
theorem dX11_isAddress_16 : decode cX11_isAddress 16 = .ok (.ifCond .le 7, 3) := eX11_isAddress_16q.1
theorem dX11_isAddress_19 : decode cX11_isAddress 19 = .ok (.iconst 1, 1) := eX11_isAddress_16q.2.1
theorem dX11_isAddress_20 : decode cX11_isAddress 20 = .ok (.goto 4, 3) := eX11_isAddress_16q.2.2.1
theorem dX11_isAddress_23 : decode cX11_isAddress 23 = .ok (.iconst 0, 1) := eX11_isAddress_16q.2.2.2.1
theorem dX11_isAddress_24 : decode cX11_isAddress 24 = .ok (.ireturn, 1) := eX11_isAddress_16q.2.2.2.2
set_option maxRecDepth 20000 in
theorem ggX11_wasSeen_X11_isAddress : GoodIn wsX11_wasSeen wsX11_isAddress := by
  have h := goodIn_app (goodIn_r (big := wsX11_wasSeen) (.code yX11_isAddress cX11_isAddress 2 (some .boolean) :: ([.methodLink RX11 266 yX11_links, .instanceMethod yX11_links, .selects RX11 yX11_links yX11_links, .initialized RX11, .code yX11_links cX11_links 1 (some .int), .fieldLink RX11 34 "PathProberModel" "told" "[I", .methodLink RX11 359 yX11_isIn, .static yX11_isIn, .code yX11_isIn cX11_isIn 3 (some .boolean), .methodLink RX11 263 yX11_routers, .instanceMethod yX11_routers, .selects RX11 yX11_routers yX11_routers, .code yX11_routers cX11_routers 1 (some .int)]) : List Cond) [5, 6, 7, 8, 4, 9, 10, 11, 12, 13, 14, 15, 16, 17] rfl (by decide +kernel)) (goodIn_few (big := wsX11_wasSeen) (fun _ h9 => List.mem_cons_of_mem _ (List.mem_append_right _ h9)) gb_0)
  exact h
set_option maxRecDepth 20000 in
theorem gX11_wasSeen_X11_isAddress : GoodIn wsX11_wasSeen (wsV RX11 362 RX11 yX11_isAddress wsX11_isAddress) := goodIn_app (goodIn_r _ [1, 2, 3, 4] rfl (by decide +kernel)) ggX11_wasSeen_X11_isAddress
set_option maxRecDepth 20000 in
theorem ggX11_wasSeen_X11_allSeen : GoodIn wsX11_wasSeen wsX11_allSeen := by
  have h := goodIn_app (goodIn_r (big := wsX11_wasSeen) (.code yX11_allSeen cX11_allSeen 4 (some .int) :: ([.methodLink RX11 304 yX11_goals, .instanceMethod yX11_goals, .selects RX11 yX11_goals yX11_goals, .initialized RX11, .code yX11_goals cX11_goals 1 (some .int), .fieldLink RX11 34 "PathProberModel" "told" "[I", .methodLink RX11 307 yX11_addresses, .instanceMethod yX11_addresses, .selects RX11 yX11_addresses yX11_addresses, .code yX11_addresses cX11_addresses 5 (some .int), .methodLink RX11 301 yX11_seenBy, .instanceMethod yX11_seenBy, .selects RX11 yX11_seenBy yX11_seenBy, .code yX11_seenBy cX11_seenBy 4 (some .int), .fieldLink RX11 60 "PathProberModel" "now" "[I", .methodLink RX11 298 yX11_seenAt, .static yX11_seenAt, .code yX11_seenAt cX11_seenAt 3 (some .int)]) : List Cond) [21, 22, 23, 24, 4, 25, 10, 26, 27, 28, 29, 30, 31, 32, 33, 34, 35, 36, 37] rfl (by decide +kernel)) (goodIn_few (big := wsX11_wasSeen) (fun _ h9 => List.mem_cons_of_mem _ (List.mem_append_right _ h9)) gb_0)
  exact h
set_option maxRecDepth 20000 in
theorem gX11_wasSeen_X11_allSeen : GoodIn wsX11_wasSeen (wsV RX11 365 RX11 yX11_allSeen wsX11_allSeen) := goodIn_app (goodIn_r _ [18, 19, 20, 4] rfl (by decide +kernel)) ggX11_wasSeen_X11_allSeen
theorem eX11_wasSeen_0q : (decode cX11_wasSeen 0 = .ok (.aload_n 0, 1)) ∧ (decode cX11_wasSeen 1 = .ok (.iload_n 1, 1)) ∧ (decode cX11_wasSeen 2 = .ok (.invokevirtual 362, 3)) ∧ (decode cX11_wasSeen 5 = .ok (.ifCond .eq 19, 3)) ∧ (decode cX11_wasSeen 8 = .ok (.aload_n 0, 1)) ∧ (decode cX11_wasSeen 9 = .ok (.invokevirtual 365, 3)) ∧ (decode cX11_wasSeen 12 = .ok (.iload_n 1, 1)) ∧ (decode cX11_wasSeen 13 = .ok (.ishr, 1)) := by decide +kernel
theorem dX11_wasSeen_0 : decode cX11_wasSeen 0 = .ok (.aload_n 0, 1) := eX11_wasSeen_0q.1
theorem dX11_wasSeen_1 : decode cX11_wasSeen 1 = .ok (.iload_n 1, 1) := eX11_wasSeen_0q.2.1
theorem dX11_wasSeen_2 : decode cX11_wasSeen 2 = .ok (.invokevirtual 362, 3) := eX11_wasSeen_0q.2.2.1
theorem dX11_wasSeen_5 : decode cX11_wasSeen 5 = .ok (.ifCond .eq 19, 3) := eX11_wasSeen_0q.2.2.2.1
theorem dX11_wasSeen_8 : decode cX11_wasSeen 8 = .ok (.aload_n 0, 1) := eX11_wasSeen_0q.2.2.2.2.1
theorem dX11_wasSeen_9 : decode cX11_wasSeen 9 = .ok (.invokevirtual 365, 3) := eX11_wasSeen_0q.2.2.2.2.2.1
theorem dX11_wasSeen_12 : decode cX11_wasSeen 12 = .ok (.iload_n 1, 1) := eX11_wasSeen_0q.2.2.2.2.2.2.1
theorem dX11_wasSeen_13 : decode cX11_wasSeen 13 = .ok (.ishr, 1) := eX11_wasSeen_0q.2.2.2.2.2.2.2
theorem eX11_wasSeen_14q : (decode cX11_wasSeen 14 = .ok (.iconst 1, 1)) ∧ (decode cX11_wasSeen 15 = .ok (.iand, 1)) ∧ (decode cX11_wasSeen 16 = .ok (.iconst 1, 1)) ∧ (decode cX11_wasSeen 17 = .ok (.if_icmp .ne 7, 3)) ∧ (decode cX11_wasSeen 20 = .ok (.iconst 1, 1)) ∧ (decode cX11_wasSeen 21 = .ok (.goto 4, 3)) ∧ (decode cX11_wasSeen 24 = .ok (.iconst 0, 1)) ∧ (decode cX11_wasSeen 25 = .ok (.ireturn, 1)) := by decide +kernel
theorem dX11_wasSeen_14 : decode cX11_wasSeen 14 = .ok (.iconst 1, 1) := eX11_wasSeen_14q.1
theorem dX11_wasSeen_15 : decode cX11_wasSeen 15 = .ok (.iand, 1) := eX11_wasSeen_14q.2.1
theorem dX11_wasSeen_16 : decode cX11_wasSeen 16 = .ok (.iconst 1, 1) := eX11_wasSeen_14q.2.2.1
theorem dX11_wasSeen_17 : decode cX11_wasSeen 17 = .ok (.if_icmp .ne 7, 3) := eX11_wasSeen_14q.2.2.2.1
theorem dX11_wasSeen_20 : decode cX11_wasSeen 20 = .ok (.iconst 1, 1) := eX11_wasSeen_14q.2.2.2.2.1
theorem dX11_wasSeen_21 : decode cX11_wasSeen 21 = .ok (.goto 4, 3) := eX11_wasSeen_14q.2.2.2.2.2.1
theorem dX11_wasSeen_24 : decode cX11_wasSeen 24 = .ok (.iconst 0, 1) := eX11_wasSeen_14q.2.2.2.2.2.2.1
theorem dX11_wasSeen_25 : decode cX11_wasSeen 25 = .ok (.ireturn, 1) := eX11_wasSeen_14q.2.2.2.2.2.2.2
set_option maxRecDepth 20000 in
theorem ggX11_isRouter_X11_routers : GoodIn wsX11_isRouter wsX11_routers := by
  have h := goodIn_app (goodIn_r (big := wsX11_isRouter) (.code yX11_routers cX11_routers 1 (some .int) :: ([.fieldLink RX11 34 "PathProberModel" "told" "[I"]) : List Cond) [5, 6] rfl (by decide +kernel)) (goodIn_few (big := wsX11_isRouter) (fun _ h9 => List.mem_cons_of_mem _ (List.mem_append_right _ h9)) gb_0)
  exact h
set_option maxRecDepth 20000 in
theorem gX11_isRouter_X11_routers : GoodIn wsX11_isRouter (wsV RX11 263 RX11 yX11_routers wsX11_routers) := goodIn_app (goodIn_r _ [1, 2, 3, 4] rfl (by decide +kernel)) ggX11_isRouter_X11_routers
set_option maxRecDepth 20000 in
theorem ggX11_isRouter_X11_isIn : GoodIn wsX11_isRouter wsX11_isIn := goodIn_r _ [9] rfl (by decide +kernel)
set_option maxRecDepth 20000 in
theorem gX11_isRouter_X11_isIn : GoodIn wsX11_isRouter (va_wsS RX11 359 yX11_isIn wsX11_isIn) := goodIn_app (goodIn_r _ [7, 8, 4] rfl (by decide +kernel)) ggX11_isRouter_X11_isIn
theorem eX11_isRouter_0q : (decode cX11_isRouter 0 = .ok (.iload_n 1, 1)) ∧ (decode cX11_isRouter 1 = .ok (.iconst 0, 1)) ∧ (decode cX11_isRouter 2 = .ok (.aload_n 0, 1)) ∧ (decode cX11_isRouter 3 = .ok (.invokevirtual 263, 3)) ∧ (decode cX11_isRouter 6 = .ok (.iconst 1, 1)) ∧ (decode cX11_isRouter 7 = .ok (.isub, 1)) ∧ (decode cX11_isRouter 8 = .ok (.invokestatic 359, 3)) ∧ (decode cX11_isRouter 11 = .ok (.ireturn, 1)) := by decide +kernel
theorem dX11_isRouter_0 : decode cX11_isRouter 0 = .ok (.iload_n 1, 1) := eX11_isRouter_0q.1
theorem dX11_isRouter_1 : decode cX11_isRouter 1 = .ok (.iconst 0, 1) := eX11_isRouter_0q.2.1
theorem dX11_isRouter_2 : decode cX11_isRouter 2 = .ok (.aload_n 0, 1) := eX11_isRouter_0q.2.2.1
theorem dX11_isRouter_3 : decode cX11_isRouter 3 = .ok (.invokevirtual 263, 3) := eX11_isRouter_0q.2.2.2.1
theorem dX11_isRouter_6 : decode cX11_isRouter 6 = .ok (.iconst 1, 1) := eX11_isRouter_0q.2.2.2.2.1
theorem dX11_isRouter_7 : decode cX11_isRouter 7 = .ok (.isub, 1) := eX11_isRouter_0q.2.2.2.2.2.1
theorem dX11_isRouter_8 : decode cX11_isRouter 8 = .ok (.invokestatic 359, 3) := eX11_isRouter_0q.2.2.2.2.2.2.1
theorem dX11_isRouter_11 : decode cX11_isRouter 11 = .ok (.ireturn, 1) := eX11_isRouter_0q.2.2.2.2.2.2.2
