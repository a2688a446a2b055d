set_option maxRecDepth 20000 in
theorem ggX5_numberHere_X5_fail : GoodIn wsX5_numberHere wsX5_fail := by
  have h := goodIn_app (goodIn_r (big := wsX5_numberHere) (.code yX5_fail cX5_fail 2 none :: ([.fieldLink RX5 15 "PathProber$Reader" "code" "I", .fieldLink RX5 24 "PathProber$Reader" "start" "I", .fieldLink RX5 9 "PathProber$Reader" "place" "I"]) : List Cond) [9, 10, 3, 11] rfl (by decide +kernel)) (goodIn_few (big := wsX5_numberHere) (fun _ h9 => List.mem_cons_of_mem _ (List.mem_append_right _ h9)) gb_10)
  exact h
set_option maxRecDepth 20000 in
theorem gX5_numberHere_X5_fail : GoodIn wsX5_numberHere (wsV RX5 88 RX5 yX5_fail wsX5_fail) := goodIn_app (goodIn_r _ [5, 6, 7, 8] rfl (by decide +kernel)) ggX5_numberHere_X5_fail
theorem eX5_numberHere_0q : (decode cX5_numberHere 0 = .ok (.aload_n 0, 1)) ∧ (decode cX5_numberHere 1 = .ok (.getfield 21, 3)) ∧ (decode cX5_numberHere 4 = .ok (.iconst 2, 1)) ∧ (decode cX5_numberHere 5 = .ok (.if_icmp .eq 10, 3)) ∧ (decode cX5_numberHere 8 = .ok (.aload_n 0, 1)) ∧ (decode cX5_numberHere 9 = .ok (.iconst 1, 1)) ∧ (decode cX5_numberHere 10 = .ok (.invokevirtual 88, 3)) ∧ (decode cX5_numberHere 13 = .ok (.iload_n 1, 1)) := by decide +kernel
theorem dX5_numberHere_0 : decode cX5_numberHere 0 = .ok (.aload_n 0, 1) := eX5_numberHere_0q.1
theorem dX5_numberHere_1 : decode cX5_numberHere 1 = .ok (.getfield 21, 3) := eX5_numberHere_0q.2.1
theorem dX5_numberHere_4 : decode cX5_numberHere 4 = .ok (.iconst 2, 1) := eX5_numberHere_0q.2.2.1
theorem dX5_numberHere_5 : decode cX5_numberHere 5 = .ok (.if_icmp .eq 10, 3) := eX5_numberHere_0q.2.2.2.1
theorem dX5_numberHere_8 : decode cX5_numberHere 8 = .ok (.aload_n 0, 1) := eX5_numberHere_0q.2.2.2.2.1
theorem dX5_numberHere_9 : decode cX5_numberHere 9 = .ok (.iconst 1, 1) := eX5_numberHere_0q.2.2.2.2.2.1
theorem dX5_numberHere_10 : decode cX5_numberHere 10 = .ok (.invokevirtual 88, 3) := eX5_numberHere_0q.2.2.2.2.2.2.1
theorem dX5_numberHere_13 : decode cX5_numberHere 13 = .ok (.iload_n 1, 1) := eX5_numberHere_0q.2.2.2.2.2.2.2
theorem eX5_numberHere_14q : (decode cX5_numberHere 14 = .ok (.ireturn, 1)) ∧ (decode cX5_numberHere 15 = .ok (.aload_n 0, 1)) ∧ (decode cX5_numberHere 16 = .ok (.getfield 27, 3)) ∧ (decode cX5_numberHere 19 = .ok (.aload_n 0, 1)) ∧ (decode cX5_numberHere 20 = .ok (.getfield 24, 3)) ∧ (decode cX5_numberHere 23 = .ok (.isub, 1)) ∧ (decode cX5_numberHere 24 = .ok (.iconst 2, 1)) ∧ (decode cX5_numberHere 25 = .ok (.if_icmp .le 10, 3)) := by decide +kernel
theorem dX5_numberHere_14 : decode cX5_numberHere 14 = .ok (.ireturn, 1) := eX5_numberHere_14q.1
theorem dX5_numberHere_15 : decode cX5_numberHere 15 = .ok (.aload_n 0, 1) := eX5_numberHere_14q.2.1
theorem dX5_numberHere_16 : decode cX5_numberHere 16 = .ok (.getfield 27, 3) := eX5_numberHere_14q.2.2.1
theorem dX5_numberHere_19 : decode cX5_numberHere 19 = .ok (.aload_n 0, 1) := eX5_numberHere_14q.2.2.2.1
theorem dX5_numberHere_20 : decode cX5_numberHere 20 = .ok (.getfield 24, 3) := eX5_numberHere_14q.2.2.2.2.1
theorem dX5_numberHere_23 : decode cX5_numberHere 23 = .ok (.isub, 1) := eX5_numberHere_14q.2.2.2.2.2.1
theorem dX5_numberHere_24 : decode cX5_numberHere 24 = .ok (.iconst 2, 1) := eX5_numberHere_14q.2.2.2.2.2.2.1
theorem dX5_numberHere_25 : decode cX5_numberHere 25 = .ok (.if_icmp .le 10, 3) := eX5_numberHere_14q.2.2.2.2.2.2.2
theorem eX5_numberHere_28q : (decode cX5_numberHere 28 = .ok (.aload_n 0, 1)) ∧ (decode cX5_numberHere 29 = .ok (.iconst 2, 1)) ∧ (decode cX5_numberHere 30 = .ok (.invokevirtual 88, 3)) ∧ (decode cX5_numberHere 33 = .ok (.iload_n 1, 1)) ∧ (decode cX5_numberHere 34 = .ok (.ireturn, 1)) ∧ (decode cX5_numberHere 35 = .ok (.iconst 0, 1)) ∧ (decode cX5_numberHere 36 = .ok (.istore_n 3, 1)) ∧ (decode cX5_numberHere 37 = .ok (.aload_n 0, 1)) := by decide +kernel
theorem dX5_numberHere_28 : decode cX5_numberHere 28 = .ok (.aload_n 0, 1) := eX5_numberHere_28q.1
theorem dX5_numberHere_29 : decode cX5_numberHere 29 = .ok (.iconst 2, 1) := eX5_numberHere_28q.2.1
theorem dX5_numberHere_30 : decode cX5_numberHere 30 = .ok (.invokevirtual 88, 3) := eX5_numberHere_28q.2.2.1
theorem dX5_numberHere_33 : decode cX5_numberHere 33 = .ok (.iload_n 1, 1) := eX5_numberHere_28q.2.2.2.1
theorem dX5_numberHere_34 : decode cX5_numberHere 34 = .ok (.ireturn, 1) := eX5_numberHere_28q.2.2.2.2.1
theorem dX5_numberHere_35 : decode cX5_numberHere 35 = .ok (.iconst 0, 1) := eX5_numberHere_28q.2.2.2.2.2.1
theorem dX5_numberHere_36 : decode cX5_numberHere 36 = .ok (.istore_n 3, 1) := eX5_numberHere_28q.2.2.2.2.2.2.1
theorem dX5_numberHere_37 : decode cX5_numberHere 37 = .ok (.aload_n 0, 1) := eX5_numberHere_28q.2.2.2.2.2.2.2
theorem eX5_numberHere_38q : (decode cX5_numberHere 38 = .ok (.getfield 24, 3)) ∧ (decode cX5_numberHere 41 = .ok (.istore 4, 2)) ∧ (decode cX5_numberHere 43 = .ok (.iload 4, 2)) ∧ (decode cX5_numberHere 45 = .ok (.aload_n 0, 1)) ∧ (decode cX5_numberHere 46 = .ok (.getfield 27, 3)) ∧ (decode cX5_numberHere 49 = .ok (.if_icmp .ge 25, 3)) ∧ (decode cX5_numberHere 52 = .ok (.iload_n 3, 1)) ∧ (decode cX5_numberHere 53 = .ok (.bipush 10, 2)) := by decide +kernel
theorem dX5_numberHere_38 : decode cX5_numberHere 38 = .ok (.getfield 24, 3) := eX5_numberHere_38q.1
theorem dX5_numberHere_41 : decode cX5_numberHere 41 = .ok (.istore 4, 2) := eX5_numberHere_38q.2.1
theorem dX5_numberHere_43 : decode cX5_numberHere 43 = .ok (.iload 4, 2) := eX5_numberHere_38q.2.2.1
theorem dX5_numberHere_45 : decode cX5_numberHere 45 = .ok (.aload_n 0, 1) := eX5_numberHere_38q.2.2.2.1
theorem dX5_numberHere_46 : decode cX5_numberHere 46 = .ok (.getfield 27, 3) := eX5_numberHere_38q.2.2.2.2.1
theorem dX5_numberHere_49 : decode cX5_numberHere 49 = .ok (.if_icmp .ge 25, 3) := eX5_numberHere_38q.2.2.2.2.2.1
theorem dX5_numberHere_52 : decode cX5_numberHere 52 = .ok (.iload_n 3, 1) := eX5_numberHere_38q.2.2.2.2.2.2.1
theorem dX5_numberHere_53 : decode cX5_numberHere 53 = .ok (.bipush 10, 2) := eX5_numberHere_38q.2.2.2.2.2.2.2
theorem eX5_numberHere_55q : (decode cX5_numberHere 55 = .ok (.imul, 1)) ∧ (decode cX5_numberHere 56 = .ok (.aload_n 0, 1)) ∧ (decode cX5_numberHere 57 = .ok (.getfield 44, 3)) ∧ (decode cX5_numberHere 60 = .ok (.iload 4, 2)) ∧ (decode cX5_numberHere 62 = .ok (.baload, 1)) ∧ (decode cX5_numberHere 63 = .ok (.bipush 48, 2)) ∧ (decode cX5_numberHere 65 = .ok (.isub, 1)) ∧ (decode cX5_numberHere 66 = .ok (.iadd, 1)) := by decide +kernel
theorem dX5_numberHere_55 : decode cX5_numberHere 55 = .ok (.imul, 1) := eX5_numberHere_55q.1
theorem dX5_numberHere_56 : decode cX5_numberHere 56 = .ok (.aload_n 0, 1) := eX5_numberHere_55q.2.1
theorem dX5_numberHere_57 : decode cX5_numberHere 57 = .ok (.getfield 44, 3) := eX5_numberHere_55q.2.2.1
theorem dX5_numberHere_60 : decode cX5_numberHere 60 = .ok (.iload 4, 2) := eX5_numberHere_55q.2.2.2.1
theorem dX5_numberHere_62 : decode cX5_numberHere 62 = .ok (.baload, 1) := eX5_numberHere_55q.2.2.2.2.1
theorem dX5_numberHere_63 : decode cX5_numberHere 63 = .ok (.bipush 48, 2) := eX5_numberHere_55q.2.2.2.2.2.1
theorem dX5_numberHere_65 : decode cX5_numberHere 65 = .ok (.isub, 1) := eX5_numberHere_55q.2.2.2.2.2.2.1
theorem dX5_numberHere_66 : decode cX5_numberHere 66 = .ok (.iadd, 1) := eX5_numberHere_55q.2.2.2.2.2.2.2
theorem eX5_numberHere_67q : (decode cX5_numberHere 67 = .ok (.istore_n 3, 1)) ∧ (decode cX5_numberHere 68 = .ok (.iinc 4 1, 3)) ∧ (decode cX5_numberHere 71 = .ok (.goto (-28), 3)) ∧ (decode cX5_numberHere 74 = .ok (.iload_n 3, 1)) ∧ (decode cX5_numberHere 75 = .ok (.iload_n 1, 1)) ∧ (decode cX5_numberHere 76 = .ok (.if_icmp .lt 8, 3)) ∧ (decode cX5_numberHere 79 = .ok (.iload_n 3, 1)) ∧ (decode cX5_numberHere 80 = .ok (.iload_n 2, 1)) := by decide +kernel
theorem dX5_numberHere_67 : decode cX5_numberHere 67 = .ok (.istore_n 3, 1) := eX5_numberHere_67q.1
theorem dX5_numberHere_68 : decode cX5_numberHere 68 = .ok (.iinc 4 1, 3) := eX5_numberHere_67q.2.1
theorem dX5_numberHere_71 : decode cX5_numberHere 71 = .ok (.goto (-28), 3) := eX5_numberHere_67q.2.2.1
theorem dX5_numberHere_74 : decode cX5_numberHere 74 = .ok (.iload_n 3, 1) := eX5_numberHere_67q.2.2.2.1
theorem dX5_numberHere_75 : decode cX5_numberHere 75 = .ok (.iload_n 1, 1) := eX5_numberHere_67q.2.2.2.2.1
theorem dX5_numberHere_76 : decode cX5_numberHere 76 = .ok (.if_icmp .lt 8, 3) := eX5_numberHere_67q.2.2.2.2.2.1
theorem dX5_numberHere_79 : decode cX5_numberHere 79 = .ok (.iload_n 3, 1) := eX5_numberHere_67q.2.2.2.2.2.2.1
theorem dX5_numberHere_80 : decode cX5_numberHere 80 = .ok (.iload_n 2, 1) := eX5_numberHere_67q.2.2.2.2.2.2.2
theorem eX5_numberHere_81q : (decode cX5_numberHere 81 = .ok (.if_icmp .le 10, 3)) ∧ (decode cX5_numberHere 84 = .ok (.aload_n 0, 1)) ∧ (decode cX5_numberHere 85 = .ok (.iconst 2, 1)) ∧ (decode cX5_numberHere 86 = .ok (.invokevirtual 88, 3)) ∧ (decode cX5_numberHere 89 = .ok (.iload_n 1, 1)) ∧ (decode cX5_numberHere 90 = .ok (.ireturn, 1)) ∧ (decode cX5_numberHere 91 = .ok (.iload_n 3, 1)) ∧ (decode cX5_numberHere 92 = .ok (.ireturn, 1)) := by decide +kernel
theorem dX5_numberHere_81 : decode cX5_numberHere 81 = .ok (.if_icmp .le 10, 3) := eX5_numberHere_81q.1
theorem dX5_numberHere_84 : decode cX5_numberHere 84 = .ok (.aload_n 0, 1) := eX5_numberHere_81q.2.1
theorem dX5_numberHere_85 : decode cX5_numberHere 85 = .ok (.iconst 2, 1) := eX5_numberHere_81q.2.2.1
theorem dX5_numberHere_86 : decode cX5_numberHere 86 = .ok (.invokevirtual 88, 3) := eX5_numberHere_81q.2.2.2.1
theorem dX5_numberHere_89 : decode cX5_numberHere 89 = .ok (.iload_n 1, 1) := eX5_numberHere_81q.2.2.2.2.1
theorem dX5_numberHere_90 : decode cX5_numberHere 90 = .ok (.ireturn, 1) := eX5_numberHere_81q.2.2.2.2.2.1
theorem dX5_numberHere_91 : decode cX5_numberHere 91 = .ok (.iload_n 3, 1) := eX5_numberHere_81q.2.2.2.2.2.2.1
theorem dX5_numberHere_92 : decode cX5_numberHere 92 = .ok (.ireturn, 1) := eX5_numberHere_81q.2.2.2.2.2.2.2
theorem eX5_fail_0q : (decode cX5_fail 0 = .ok (.aload_n 0, 1)) ∧ (decode cX5_fail 1 = .ok (.getfield 15, 3)) ∧ (decode cX5_fail 4 = .ok (.ifCond .ne 16, 3)) ∧ (decode cX5_fail 7 = .ok (.aload_n 0, 1)) ∧ (decode cX5_fail 8 = .ok (.iload_n 1, 1)) ∧ (decode cX5_fail 9 = .ok (.putfield 15, 3)) ∧ (decode cX5_fail 12 = .ok (.aload_n 0, 1)) ∧ (decode cX5_fail 13 = .ok (.aload_n 0, 1)) := by decide +kernel
theorem dX5_fail_0 : decode cX5_fail 0 = .ok (.aload_n 0, 1) := eX5_fail_0q.1
theorem dX5_fail_1 : decode cX5_fail 1 = .ok (.getfield 15, 3) := eX5_fail_0q.2.1
theorem dX5_fail_4 : decode cX5_fail 4 = .ok (.ifCond .ne 16, 3) := eX5_fail_0q.2.2.1
theorem dX5_fail_7 : decode cX5_fail 7 = .ok (.aload_n 0, 1) := eX5_fail_0q.2.2.2.1
theorem dX5_fail_8 : decode cX5_fail 8 = .ok (.iload_n 1, 1) := eX5_fail_0q.2.2.2.2.1
theorem dX5_fail_9 : decode cX5_fail 9 = .ok (.putfield 15, 3) := eX5_fail_0q.2.2.2.2.2.1
theorem dX5_fail_12 : decode cX5_fail 12 = .ok (.aload_n 0, 1) := eX5_fail_0q.2.2.2.2.2.2.1
theorem dX5_fail_13 : decode cX5_fail 13 = .ok (.aload_n 0, 1) := eX5_fail_0q.2.2.2.2.2.2.2
theorem eX5_fail_14q : (decode cX5_fail 14 = .ok (.getfield 24, 3)) ∧ (decode cX5_fail 17 = .ok (.putfield 9, 3)) ∧ (decode cX5_fail 20 = .ok (.return_, 1)) := by decide +kernel
theorem dX5_fail_14 : decode cX5_fail 14 = .ok (.getfield 24, 3) := eX5_fail_14q.1
theorem dX5_fail_17 : decode cX5_fail 17 = .ok (.putfield 9, 3) := eX5_fail_14q.2.1
theorem dX5_fail_20 : decode cX5_fail 20 = .ok (.return_, 1) := eX5_fail_14q.2.2
set_option maxRecDepth 20000 in
theorem ggX5_step_X5_isLetter : GoodIn wsX5_step wsX5_isLetter := goodIn_r _ [10] rfl (by decide +kernel)
set_option maxRecDepth 20000 in
theorem gX5_step_X5_isLetter : GoodIn wsX5_step (va_wsS RX5 167 yX5_isLetter wsX5_isLetter) := goodIn_app (goodIn_r _ [7, 8, 9] rfl (by decide +kernel)) ggX5_step_X5_isLetter
set_option maxRecDepth 20000 in
theorem ggX5_step_X5_isDigit : GoodIn wsX5_step wsX5_isDigit := goodIn_r _ [13] rfl (by decide +kernel)
set_option maxRecDepth 20000 in
theorem gX5_step_X5_isDigit : GoodIn wsX5_step (va_wsS RX5 171 yX5_isDigit wsX5_isDigit) := goodIn_app (goodIn_r _ [11, 12, 9] rfl (by decide +kernel)) ggX5_step_X5_isDigit
theorem eX5_step_0q : (decode cX5_step 0 = .ok (.aload_n 0, 1)) ∧ (decode cX5_step 1 = .ok (.getfield 15, 3)) ∧ (decode cX5_step 4 = .ok (.ifCond .eq 4, 3)) ∧ (decode cX5_step 7 = .ok (.return_, 1)) ∧ (decode cX5_step 8 = .ok (.aload_n 0, 1)) ∧ (decode cX5_step 9 = .ok (.aload_n 0, 1)) ∧ (decode cX5_step 10 = .ok (.getfield 27, 3)) ∧ (decode cX5_step 13 = .ok (.putfield 24, 3)) := by decide +kernel
theorem dX5_step_0 : decode cX5_step 0 = .ok (.aload_n 0, 1) := eX5_step_0q.1
theorem dX5_step_1 : decode cX5_step 1 = .ok (.getfield 15, 3) := eX5_step_0q.2.1
theorem dX5_step_4 : decode cX5_step 4 = .ok (.ifCond .eq 4, 3) := eX5_step_0q.2.2.1
theorem dX5_step_7 : decode cX5_step 7 = .ok (.return_, 1) := eX5_step_0q.2.2.2.1
theorem dX5_step_8 : decode cX5_step 8 = .ok (.aload_n 0, 1) := eX5_step_0q.2.2.2.2.1
theorem dX5_step_9 : decode cX5_step 9 = .ok (.aload_n 0, 1) := eX5_step_0q.2.2.2.2.2.1
theorem dX5_step_10 : decode cX5_step 10 = .ok (.getfield 27, 3) := eX5_step_0q.2.2.2.2.2.2.1
theorem dX5_step_13 : decode cX5_step 13 = .ok (.putfield 24, 3) := eX5_step_0q.2.2.2.2.2.2.2
theorem eX5_step_16q : (decode cX5_step 16 = .ok (.aload_n 0, 1)) ∧ (decode cX5_step 17 = .ok (.getfield 24, 3)) ∧ (decode cX5_step 20 = .ok (.aload_n 0, 1)) ∧ (decode cX5_step 21 = .ok (.getfield 18, 3)) ∧ (decode cX5_step 24 = .ok (.if_icmp .ge 44, 3)) ∧ (decode cX5_step 27 = .ok (.aload_n 0, 1)) ∧ (decode cX5_step 28 = .ok (.getfield 44, 3)) ∧ (decode cX5_step 31 = .ok (.aload_n 0, 1)) := by decide +kernel
theorem dX5_step_16 : decode cX5_step 16 = .ok (.aload_n 0, 1) := eX5_step_16q.1
theorem dX5_step_17 : decode cX5_step 17 = .ok (.getfield 24, 3) := eX5_step_16q.2.1
theorem dX5_step_20 : decode cX5_step 20 = .ok (.aload_n 0, 1) := eX5_step_16q.2.2.1
theorem dX5_step_21 : decode cX5_step 21 = .ok (.getfield 18, 3) := eX5_step_16q.2.2.2.1
theorem dX5_step_24 : decode cX5_step 24 = .ok (.if_icmp .ge 44, 3) := eX5_step_16q.2.2.2.2.1
theorem dX5_step_27 : decode cX5_step 27 = .ok (.aload_n 0, 1) := eX5_step_16q.2.2.2.2.2.1
theorem dX5_step_28 : decode cX5_step 28 = .ok (.getfield 44, 3) := eX5_step_16q.2.2.2.2.2.2.1
theorem dX5_step_31 : decode cX5_step 31 = .ok (.aload_n 0, 1) := eX5_step_16q.2.2.2.2.2.2.2
theorem eX5_step_32q : (decode cX5_step 32 = .ok (.getfield 24, 3)) ∧ (decode cX5_step 35 = .ok (.baload, 1)) ∧ (decode cX5_step 36 = .ok (.bipush 32, 2)) ∧ (decode cX5_step 38 = .ok (.if_icmp .eq 17, 3)) ∧ (decode cX5_step 41 = .ok (.aload_n 0, 1)) ∧ (decode cX5_step 42 = .ok (.getfield 44, 3)) ∧ (decode cX5_step 45 = .ok (.aload_n 0, 1)) ∧ (decode cX5_step 46 = .ok (.getfield 24, 3)) := by decide +kernel
theorem dX5_step_32 : decode cX5_step 32 = .ok (.getfield 24, 3) := eX5_step_32q.1
theorem dX5_step_35 : decode cX5_step 35 = .ok (.baload, 1) := eX5_step_32q.2.1
theorem dX5_step_36 : decode cX5_step 36 = .ok (.bipush 32, 2) := eX5_step_32q.2.2.1
theorem dX5_step_38 : decode cX5_step 38 = .ok (.if_icmp .eq 17, 3) := eX5_step_32q.2.2.2.1
theorem dX5_step_41 : decode cX5_step 41 = .ok (.aload_n 0, 1) := eX5_step_32q.2.2.2.2.1
theorem dX5_step_42 : decode cX5_step 42 = .ok (.getfield 44, 3) := eX5_step_32q.2.2.2.2.2.1
theorem dX5_step_45 : decode cX5_step 45 = .ok (.aload_n 0, 1) := eX5_step_32q.2.2.2.2.2.2.1
theorem dX5_step_46 : decode cX5_step 46 = .ok (.getfield 24, 3) := eX5_step_32q.2.2.2.2.2.2.2
theorem eX5_step_49q : (decode cX5_step 49 = .ok (.baload, 1)) ∧ (decode cX5_step 50 = .ok (.bipush 10, 2)) ∧ (decode cX5_step 52 = .ok (.if_icmp .ne 16, 3)) ∧ (decode cX5_step 55 = .ok (.aload_n 0, 1)) ∧ (decode cX5_step 56 = .ok (.dup, 1)) ∧ (decode cX5_step 57 = .ok (.getfield 24, 3)) ∧ (decode cX5_step 60 = .ok (.iconst 1, 1)) ∧ (decode cX5_step 61 = .ok (.iadd, 1)) := by decide +kernel
theorem dX5_step_49 : decode cX5_step 49 = .ok (.baload, 1) := eX5_step_49q.1
theorem dX5_step_50 : decode cX5_step 50 = .ok (.bipush 10, 2) := eX5_step_49q.2.1
theorem dX5_step_52 : decode cX5_step 52 = .ok (.if_icmp .ne 16, 3) := eX5_step_49q.2.2.1
theorem dX5_step_55 : decode cX5_step 55 = .ok (.aload_n 0, 1) := eX5_step_49q.2.2.2.1
theorem dX5_step_56 : decode cX5_step 56 = .ok (.dup, 1) := eX5_step_49q.2.2.2.2.1
theorem dX5_step_57 : decode cX5_step 57 = .ok (.getfield 24, 3) := eX5_step_49q.2.2.2.2.2.1
theorem dX5_step_60 : decode cX5_step 60 = .ok (.iconst 1, 1) := eX5_step_49q.2.2.2.2.2.2.1
theorem dX5_step_61 : decode cX5_step 61 = .ok (.iadd, 1) := eX5_step_49q.2.2.2.2.2.2.2
theorem eX5_step_62q : (decode cX5_step 62 = .ok (.putfield 24, 3)) ∧ (decode cX5_step 65 = .ok (.goto (-49), 3)) ∧ (decode cX5_step 68 = .ok (.aload_n 0, 1)) ∧ (decode cX5_step 69 = .ok (.aload_n 0, 1)) ∧ (decode cX5_step 70 = .ok (.getfield 24, 3)) ∧ (decode cX5_step 73 = .ok (.putfield 27, 3)) ∧ (decode cX5_step 76 = .ok (.aload_n 0, 1)) ∧ (decode cX5_step 77 = .ok (.getfield 24, 3)) := by decide +kernel
theorem dX5_step_62 : decode cX5_step 62 = .ok (.putfield 24, 3) := eX5_step_62q.1
theorem dX5_step_65 : decode cX5_step 65 = .ok (.goto (-49), 3) := eX5_step_62q.2.1
theorem dX5_step_68 : decode cX5_step 68 = .ok (.aload_n 0, 1) := eX5_step_62q.2.2.1
theorem dX5_step_69 : decode cX5_step 69 = .ok (.aload_n 0, 1) := eX5_step_62q.2.2.2.1
theorem dX5_step_70 : decode cX5_step 70 = .ok (.getfield 24, 3) := eX5_step_62q.2.2.2.2.1
theorem dX5_step_73 : decode cX5_step 73 = .ok (.putfield 27, 3) := eX5_step_62q.2.2.2.2.2.1
theorem dX5_step_76 : decode cX5_step 76 = .ok (.aload_n 0, 1) := eX5_step_62q.2.2.2.2.2.2.1
theorem dX5_step_77 : decode cX5_step 77 = .ok (.getfield 24, 3) := eX5_step_62q.2.2.2.2.2.2.2
theorem eX5_step_80q : (decode cX5_step 80 = .ok (.aload_n 0, 1)) ∧ (decode cX5_step 81 = .ok (.getfield 18, 3)) ∧ (decode cX5_step 84 = .ok (.if_icmp .lt 11, 3)) ∧ (decode cX5_step 87 = .ok (.aload_n 0, 1)) ∧ (decode cX5_step 88 = .ok (.iconst 0, 1)) ∧ (decode cX5_step 89 = .ok (.putfield 21, 3)) ∧ (decode cX5_step 92 = .ok (.goto 154, 3)) ∧ (decode cX5_step 95 = .ok (.aload_n 0, 1)) := by decide +kernel
theorem dX5_step_80 : decode cX5_step 80 = .ok (.aload_n 0, 1) := eX5_step_80q.1
theorem dX5_step_81 : decode cX5_step 81 = .ok (.getfield 18, 3) := eX5_step_80q.2.1
theorem dX5_step_84 : decode cX5_step 84 = .ok (.if_icmp .lt 11, 3) := eX5_step_80q.2.2.1
theorem dX5_step_87 : decode cX5_step 87 = .ok (.aload_n 0, 1) := eX5_step_80q.2.2.2.1
theorem dX5_step_88 : decode cX5_step 88 = .ok (.iconst 0, 1) := eX5_step_80q.2.2.2.2.1
theorem dX5_step_89 : decode cX5_step 89 = .ok (.putfield 21, 3) := eX5_step_80q.2.2.2.2.2.1
theorem dX5_step_92 : decode cX5_step 92 = .ok (.goto 154, 3) := eX5_step_80q.2.2.2.2.2.2.1
theorem dX5_step_95 : decode cX5_step 95 = .ok (.aload_n 0, 1) := eX5_step_80q.2.2.2.2.2.2.2
theorem eX5_step_96q : (decode cX5_step 96 = .ok (.getfield 44, 3)) ∧ (decode cX5_step 99 = .ok (.aload_n 0, 1)) ∧ (decode cX5_step 100 = .ok (.getfield 24, 3)) ∧ (decode cX5_step 103 = .ok (.baload, 1)) ∧ (decode cX5_step 104 = .ok (.invokestatic 167, 3)) ∧ (decode cX5_step 107 = .ok (.ifCond .eq 47, 3)) ∧ (decode cX5_step 110 = .ok (.aload_n 0, 1)) ∧ (decode cX5_step 111 = .ok (.iconst 1, 1)) := by decide +kernel
theorem dX5_step_96 : decode cX5_step 96 = .ok (.getfield 44, 3) := eX5_step_96q.1
theorem dX5_step_99 : decode cX5_step 99 = .ok (.aload_n 0, 1) := eX5_step_96q.2.1
theorem dX5_step_100 : decode cX5_step 100 = .ok (.getfield 24, 3) := eX5_step_96q.2.2.1
theorem dX5_step_103 : decode cX5_step 103 = .ok (.baload, 1) := eX5_step_96q.2.2.2.1
theorem dX5_step_104 : decode cX5_step 104 = .ok (.invokestatic 167, 3) := eX5_step_96q.2.2.2.2.1
theorem dX5_step_107 : decode cX5_step 107 = .ok (.ifCond .eq 47, 3) := eX5_step_96q.2.2.2.2.2.1
theorem dX5_step_110 : decode cX5_step 110 = .ok (.aload_n 0, 1) := eX5_step_96q.2.2.2.2.2.2.1
theorem dX5_step_111 : decode cX5_step 111 = .ok (.iconst 1, 1) := eX5_step_96q.2.2.2.2.2.2.2
theorem eX5_step_112q : (decode cX5_step 112 = .ok (.putfield 21, 3)) ∧ (decode cX5_step 115 = .ok (.aload_n 0, 1)) ∧ (decode cX5_step 116 = .ok (.getfield 27, 3)) ∧ (decode cX5_step 119 = .ok (.aload_n 0, 1)) ∧ (decode cX5_step 120 = .ok (.getfield 18, 3)) ∧ (decode cX5_step 123 = .ok (.if_icmp .ge 123, 3)) ∧ (decode cX5_step 126 = .ok (.aload_n 0, 1)) ∧ (decode cX5_step 127 = .ok (.getfield 44, 3)) := by decide +kernel
theorem dX5_step_112 : decode cX5_step 112 = .ok (.putfield 21, 3) := eX5_step_112q.1
theorem dX5_step_115 : decode cX5_step 115 = .ok (.aload_n 0, 1) := eX5_step_112q.2.1
theorem dX5_step_116 : decode cX5_step 116 = .ok (.getfield 27, 3) := eX5_step_112q.2.2.1
theorem dX5_step_119 : decode cX5_step 119 = .ok (.aload_n 0, 1) := eX5_step_112q.2.2.2.1
theorem dX5_step_120 : decode cX5_step 120 = .ok (.getfield 18, 3) := eX5_step_112q.2.2.2.2.1
theorem dX5_step_123 : decode cX5_step 123 = .ok (.if_icmp .ge 123, 3) := eX5_step_112q.2.2.2.2.2.1
theorem dX5_step_126 : decode cX5_step 126 = .ok (.aload_n 0, 1) := eX5_step_112q.2.2.2.2.2.2.1
theorem dX5_step_127 : decode cX5_step 127 = .ok (.getfield 44, 3) := eX5_step_112q.2.2.2.2.2.2.2
theorem eX5_step_130q : (decode cX5_step 130 = .ok (.aload_n 0, 1)) ∧ (decode cX5_step 131 = .ok (.getfield 27, 3)) ∧ (decode cX5_step 134 = .ok (.baload, 1)) ∧ (decode cX5_step 135 = .ok (.invokestatic 167, 3)) ∧ (decode cX5_step 138 = .ok (.ifCond .eq 108, 3)) ∧ (decode cX5_step 141 = .ok (.aload_n 0, 1)) ∧ (decode cX5_step 142 = .ok (.dup, 1)) ∧ (decode cX5_step 143 = .ok (.getfield 27, 3)) := by decide +kernel
theorem dX5_step_130 : decode cX5_step 130 = .ok (.aload_n 0, 1) := eX5_step_130q.1
theorem dX5_step_131 : decode cX5_step 131 = .ok (.getfield 27, 3) := eX5_step_130q.2.1
theorem dX5_step_134 : decode cX5_step 134 = .ok (.baload, 1) := eX5_step_130q.2.2.1
theorem dX5_step_135 : decode cX5_step 135 = .ok (.invokestatic 167, 3) := eX5_step_130q.2.2.2.1
theorem dX5_step_138 : decode cX5_step 138 = .ok (.ifCond .eq 108, 3) := eX5_step_130q.2.2.2.2.1
theorem dX5_step_141 : decode cX5_step 141 = .ok (.aload_n 0, 1) := eX5_step_130q.2.2.2.2.2.1
theorem dX5_step_142 : decode cX5_step 142 = .ok (.dup, 1) := eX5_step_130q.2.2.2.2.2.2.1
theorem dX5_step_143 : decode cX5_step 143 = .ok (.getfield 27, 3) := eX5_step_130q.2.2.2.2.2.2.2
theorem eX5_step_146q : (decode cX5_step 146 = .ok (.iconst 1, 1)) ∧ (decode cX5_step 147 = .ok (.iadd, 1)) ∧ (decode cX5_step 148 = .ok (.putfield 27, 3)) ∧ (decode cX5_step 151 = .ok (.goto (-36), 3)) ∧ (decode cX5_step 154 = .ok (.aload_n 0, 1)) ∧ (decode cX5_step 155 = .ok (.getfield 44, 3)) ∧ (decode cX5_step 158 = .ok (.aload_n 0, 1)) ∧ (decode cX5_step 159 = .ok (.getfield 24, 3)) := by decide +kernel
theorem dX5_step_146 : decode cX5_step 146 = .ok (.iconst 1, 1) := eX5_step_146q.1
theorem dX5_step_147 : decode cX5_step 147 = .ok (.iadd, 1) := eX5_step_146q.2.1
theorem dX5_step_148 : decode cX5_step 148 = .ok (.putfield 27, 3) := eX5_step_146q.2.2.1
theorem dX5_step_151 : decode cX5_step 151 = .ok (.goto (-36), 3) := eX5_step_146q.2.2.2.1
theorem dX5_step_154 : decode cX5_step 154 = .ok (.aload_n 0, 1) := eX5_step_146q.2.2.2.2.1
theorem dX5_step_155 : decode cX5_step 155 = .ok (.getfield 44, 3) := eX5_step_146q.2.2.2.2.2.1
theorem dX5_step_158 : decode cX5_step 158 = .ok (.aload_n 0, 1) := eX5_step_146q.2.2.2.2.2.2.1
theorem dX5_step_159 : decode cX5_step 159 = .ok (.getfield 24, 3) := eX5_step_146q.2.2.2.2.2.2.2
theorem eX5_step_162q : (decode cX5_step 162 = .ok (.baload, 1)) ∧ (decode cX5_step 163 = .ok (.invokestatic 171, 3)) ∧ (decode cX5_step 166 = .ok (.ifCond .eq 47, 3)) ∧ (decode cX5_step 169 = .ok (.aload_n 0, 1)) ∧ (decode cX5_step 170 = .ok (.iconst 2, 1)) ∧ (decode cX5_step 171 = .ok (.putfield 21, 3)) ∧ (decode cX5_step 174 = .ok (.aload_n 0, 1)) ∧ (decode cX5_step 175 = .ok (.getfield 27, 3)) := by decide +kernel
theorem dX5_step_162 : decode cX5_step 162 = .ok (.baload, 1) := eX5_step_162q.1
theorem dX5_step_163 : decode cX5_step 163 = .ok (.invokestatic 171, 3) := eX5_step_162q.2.1
theorem dX5_step_166 : decode cX5_step 166 = .ok (.ifCond .eq 47, 3) := eX5_step_162q.2.2.1
theorem dX5_step_169 : decode cX5_step 169 = .ok (.aload_n 0, 1) := eX5_step_162q.2.2.2.1
theorem dX5_step_170 : decode cX5_step 170 = .ok (.iconst 2, 1) := eX5_step_162q.2.2.2.2.1
theorem dX5_step_171 : decode cX5_step 171 = .ok (.putfield 21, 3) := eX5_step_162q.2.2.2.2.2.1
theorem dX5_step_174 : decode cX5_step 174 = .ok (.aload_n 0, 1) := eX5_step_162q.2.2.2.2.2.2.1
theorem dX5_step_175 : decode cX5_step 175 = .ok (.getfield 27, 3) := eX5_step_162q.2.2.2.2.2.2.2
theorem eX5_step_178q : (decode cX5_step 178 = .ok (.aload_n 0, 1)) ∧ (decode cX5_step 179 = .ok (.getfield 18, 3)) ∧ (decode cX5_step 182 = .ok (.if_icmp .ge 64, 3)) ∧ (decode cX5_step 185 = .ok (.aload_n 0, 1)) ∧ (decode cX5_step 186 = .ok (.getfield 44, 3)) ∧ (decode cX5_step 189 = .ok (.aload_n 0, 1)) ∧ (decode cX5_step 190 = .ok (.getfield 27, 3)) ∧ (decode cX5_step 193 = .ok (.baload, 1)) := by decide +kernel
theorem dX5_step_178 : decode cX5_step 178 = .ok (.aload_n 0, 1) := eX5_step_178q.1
theorem dX5_step_179 : decode cX5_step 179 = .ok (.getfield 18, 3) := eX5_step_178q.2.1
theorem dX5_step_182 : decode cX5_step 182 = .ok (.if_icmp .ge 64, 3) := eX5_step_178q.2.2.1
theorem dX5_step_185 : decode cX5_step 185 = .ok (.aload_n 0, 1) := eX5_step_178q.2.2.2.1
theorem dX5_step_186 : decode cX5_step 186 = .ok (.getfield 44, 3) := eX5_step_178q.2.2.2.2.1
theorem dX5_step_189 : decode cX5_step 189 = .ok (.aload_n 0, 1) := eX5_step_178q.2.2.2.2.2.1
theorem dX5_step_190 : decode cX5_step 190 = .ok (.getfield 27, 3) := eX5_step_178q.2.2.2.2.2.2.1
theorem dX5_step_193 : decode cX5_step 193 = .ok (.baload, 1) := eX5_step_178q.2.2.2.2.2.2.2
theorem eX5_step_194q : (decode cX5_step 194 = .ok (.invokestatic 171, 3)) ∧ (decode cX5_step 197 = .ok (.ifCond .eq 49, 3)) ∧ (decode cX5_step 200 = .ok (.aload_n 0, 1)) ∧ (decode cX5_step 201 = .ok (.dup, 1)) ∧ (decode cX5_step 202 = .ok (.getfield 27, 3)) ∧ (decode cX5_step 205 = .ok (.iconst 1, 1)) ∧ (decode cX5_step 206 = .ok (.iadd, 1)) ∧ (decode cX5_step 207 = .ok (.putfield 27, 3)) := by decide +kernel
theorem dX5_step_194 : decode cX5_step 194 = .ok (.invokestatic 171, 3) := eX5_step_194q.1
theorem dX5_step_197 : decode cX5_step 197 = .ok (.ifCond .eq 49, 3) := eX5_step_194q.2.1
theorem dX5_step_200 : decode cX5_step 200 = .ok (.aload_n 0, 1) := eX5_step_194q.2.2.1
theorem dX5_step_201 : decode cX5_step 201 = .ok (.dup, 1) := eX5_step_194q.2.2.2.1
theorem dX5_step_202 : decode cX5_step 202 = .ok (.getfield 27, 3) := eX5_step_194q.2.2.2.2.1
theorem dX5_step_205 : decode cX5_step 205 = .ok (.iconst 1, 1) := eX5_step_194q.2.2.2.2.2.1
theorem dX5_step_206 : decode cX5_step 206 = .ok (.iadd, 1) := eX5_step_194q.2.2.2.2.2.2.1
theorem dX5_step_207 : decode cX5_step 207 = .ok (.putfield 27, 3) := eX5_step_194q.2.2.2.2.2.2.2
theorem eX5_step_210q : (decode cX5_step 210 = .ok (.goto (-36), 3)) ∧ (decode cX5_step 213 = .ok (.aload_n 0, 1)) ∧ (decode cX5_step 214 = .ok (.aload_n 0, 1)) ∧ (decode cX5_step 215 = .ok (.getfield 44, 3)) ∧ (decode cX5_step 218 = .ok (.aload_n 0, 1)) ∧ (decode cX5_step 219 = .ok (.getfield 24, 3)) ∧ (decode cX5_step 222 = .ok (.baload, 1)) ∧ (decode cX5_step 223 = .ok (.bipush 59, 2)) := by decide +kernel
theorem dX5_step_210 : decode cX5_step 210 = .ok (.goto (-36), 3) := eX5_step_210q.1
theorem dX5_step_213 : decode cX5_step 213 = .ok (.aload_n 0, 1) := eX5_step_210q.2.1
theorem dX5_step_214 : decode cX5_step 214 = .ok (.aload_n 0, 1) := eX5_step_210q.2.2.1
theorem dX5_step_215 : decode cX5_step 215 = .ok (.getfield 44, 3) := eX5_step_210q.2.2.2.1
theorem dX5_step_218 : decode cX5_step 218 = .ok (.aload_n 0, 1) := eX5_step_210q.2.2.2.2.1
theorem dX5_step_219 : decode cX5_step 219 = .ok (.getfield 24, 3) := eX5_step_210q.2.2.2.2.2.1
theorem dX5_step_222 : decode cX5_step 222 = .ok (.baload, 1) := eX5_step_210q.2.2.2.2.2.2.1
theorem dX5_step_223 : decode cX5_step 223 = .ok (.bipush 59, 2) := eX5_step_210q.2.2.2.2.2.2.2
theorem eX5_step_225q : (decode cX5_step 225 = .ok (.if_icmp .ne 7, 3)) ∧ (decode cX5_step 228 = .ok (.iconst 3, 1)) ∧ (decode cX5_step 229 = .ok (.goto 4, 3)) ∧ (decode cX5_step 232 = .ok (.iconst 4, 1)) ∧ (decode cX5_step 233 = .ok (.putfield 21, 3)) ∧ (decode cX5_step 236 = .ok (.aload_n 0, 1)) ∧ (decode cX5_step 237 = .ok (.dup, 1)) ∧ (decode cX5_step 238 = .ok (.getfield 27, 3)) := by decide +kernel
theorem dX5_step_225 : decode cX5_step 225 = .ok (.if_icmp .ne 7, 3) := eX5_step_225q.1
theorem dX5_step_228 : decode cX5_step 228 = .ok (.iconst 3, 1) := eX5_step_225q.2.1
theorem dX5_step_229 : decode cX5_step 229 = .ok (.goto 4, 3) := eX5_step_225q.2.2.1
theorem dX5_step_232 : decode cX5_step 232 = .ok (.iconst 4, 1) := eX5_step_225q.2.2.2.1
theorem dX5_step_233 : decode cX5_step 233 = .ok (.putfield 21, 3) := eX5_step_225q.2.2.2.2.1
theorem dX5_step_236 : decode cX5_step 236 = .ok (.aload_n 0, 1) := eX5_step_225q.2.2.2.2.2.1
theorem dX5_step_237 : decode cX5_step 237 = .ok (.dup, 1) := eX5_step_225q.2.2.2.2.2.2.1
theorem dX5_step_238 : decode cX5_step 238 = .ok (.getfield 27, 3) := eX5_step_225q.2.2.2.2.2.2.2
theorem eX5_step_241q : (decode cX5_step 241 = .ok (.iconst 1, 1)) ∧ (decode cX5_step 242 = .ok (.iadd, 1)) ∧ (decode cX5_step 243 = .ok (.putfield 27, 3)) ∧ (decode cX5_step 246 = .ok (.return_, 1)) := by decide +kernel
theorem dX5_step_241 : decode cX5_step 241 = .ok (.iconst 1, 1) := eX5_step_241q.1
theorem dX5_step_242 : decode cX5_step 242 = .ok (.iadd, 1) := eX5_step_241q.2.1
theorem dX5_step_243 : decode cX5_step 243 = .ok (.putfield 27, 3) := eX5_step_241q.2.2.1
theorem dX5_step_246 : decode cX5_step 246 = .ok (.return_, 1) := eX5_step_241q.2.2.2
theorem eX5_isLetter_0q : (decode cX5_isLetter 0 = .ok (.iload_n 0, 1)) ∧ (decode cX5_isLetter 1 = .ok (.bipush 97, 2)) ∧ (decode cX5_isLetter 3 = .ok (.if_icmp .lt 13, 3)) ∧ (decode cX5_isLetter 6 = .ok (.iload_n 0, 1)) ∧ (decode cX5_isLetter 7 = .ok (.bipush 122, 2)) ∧ (decode cX5_isLetter 9 = .ok (.if_icmp .gt 7, 3)) ∧ (decode cX5_isLetter 12 = .ok (.iconst 1, 1)) ∧ (decode cX5_isLetter 13 = .ok (.goto 4, 3)) := by decide +kernel
theorem dX5_isLetter_0 : decode cX5_isLetter 0 = .ok (.iload_n 0, 1) := eX5_isLetter_0q.1
theorem dX5_isLetter_1 : decode cX5_isLetter 1 = .ok (.bipush 97, 2) := eX5_isLetter_0q.2.1
theorem dX5_isLetter_3 : decode cX5_isLetter 3 = .ok (.if_icmp .lt 13, 3) := eX5_isLetter_0q.2.2.1
theorem dX5_isLetter_6 : decode cX5_isLetter 6 = .ok (.iload_n 0, 1) := eX5_isLetter_0q.2.2.2.1
theorem dX5_isLetter_7 : decode cX5_isLetter 7 = .ok (.bipush 122, 2) := eX5_isLetter_0q.2.2.2.2.1
theorem dX5_isLetter_9 : decode cX5_isLetter 9 = .ok (.if_icmp .gt 7, 3) := eX5_isLetter_0q.2.2.2.2.2.1
theorem dX5_isLetter_12 : decode cX5_isLetter 12 = .ok (.iconst 1, 1) := eX5_isLetter_0q.2.2.2.2.2.2.1
theorem dX5_isLetter_13 : decode cX5_isLetter 13 = .ok (.goto 4, 3) := eX5_isLetter_0q.2.2.2.2.2.2.2
theorem dX5_isLetter_16 : decode cX5_isLetter 16 = .ok (.iconst 0, 1) := by decide +kernel
theorem dX5_isLetter_17 : decode cX5_isLetter 17 = .ok (.ireturn, 1) := by decide +kernel
theorem eX5_isDigit_0q : (decode cX5_isDigit 0 = .ok (.iload_n 0, 1)) ∧ (decode cX5_isDigit 1 = .ok (.bipush 48, 2)) ∧ (decode cX5_isDigit 3 = .ok (.if_icmp .lt 13, 3)) ∧ (decode cX5_isDigit 6 = .ok (.iload_n 0, 1)) ∧ (decode cX5_isDigit 7 = .ok (.bipush 57, 2)) ∧ (decode cX5_isDigit 9 = .ok (.if_icmp .gt 7, 3)) ∧ (decode cX5_isDigit 12 = .ok (.iconst 1, 1)) ∧ (decode cX5_isDigit 13 = .ok (.goto 4, 3)) := by decide +kernel
theorem dX5_isDigit_0 : decode cX5_isDigit 0 = .ok (.iload_n 0, 1) := eX5_isDigit_0q.1
theorem dX5_isDigit_1 : decode cX5_isDigit 1 = .ok (.bipush 48, 2) := eX5_isDigit_0q.2.1
theorem dX5_isDigit_3 : decode cX5_isDigit 3 = .ok (.if_icmp .lt 13, 3) := eX5_isDigit_0q.2.2.1
theorem dX5_isDigit_6 : decode cX5_isDigit 6 = .ok (.iload_n 0, 1) := eX5_isDigit_0q.2.2.2.1
theorem dX5_isDigit_7 : decode cX5_isDigit 7 = .ok (.bipush 57, 2) := eX5_isDigit_0q.2.2.2.2.1
theorem dX5_isDigit_9 : decode cX5_isDigit 9 = .ok (.if_icmp .gt 7, 3) := eX5_isDigit_0q.2.2.2.2.2.1
theorem dX5_isDigit_12 : decode cX5_isDigit 12 = .ok (.iconst 1, 1) := eX5_isDigit_0q.2.2.2.2.2.2.1
theorem dX5_isDigit_13 : decode cX5_isDigit 13 = .ok (.goto 4, 3) := eX5_isDigit_0q.2.2.2.2.2.2.2
theorem dX5_isDigit_16 : decode cX5_isDigit 16 = .ok (.iconst 0, 1) := by decide +kernel
theorem dX5_isDigit_17 : decode cX5_isDigit 17 = .ok (.ireturn, 1) := by decide +kernel
set_option maxRecDepth 20000 in
theorem ggX5_isWord_J0_length_8abf5 : GoodIn wsX5_isWord wsJ0_length_8abf5 := goodIn_r _ [9, 10, 11, 12, 13, 8, 14, 15, 16] rfl (by decide +kernel)
set_option maxRecDepth 20000 in
theorem gX5_isWord_J0_length_8abf5 : GoodIn wsX5_isWord (wsV RX5 174 RJ0 yJ0_length_8abf5 wsJ0_length_8abf5) := goodIn_app (goodIn_r _ [5, 6, 7, 8] rfl (by decide +kernel)) ggX5_isWord_J0_length_8abf5
set_option maxRecDepth 20000 in
theorem ggX5_isWord_J0_charAt_5068e : GoodIn wsX5_isWord wsJ0_charAt_5068e := goodIn_r _ [20, 10, 21, 22, 23, 8, 24, 15, 16, 25, 26, 27, 28, 29, 30, 31, 32, 33, 34, 35, 36, 37, 38, 39, 40, 41, 42, 43, 44, 45, 46, 47, 48, 49, 50, 51, 52, 53] rfl (by decide +kernel)
set_option maxRecDepth 20000 in
theorem gX5_isWord_J0_charAt_5068e : GoodIn wsX5_isWord (wsV RX5 178 RJ0 yJ0_charAt_5068e wsJ0_charAt_5068e) := goodIn_app (goodIn_r _ [17, 18, 19, 8] rfl (by decide +kernel)) ggX5_isWord_J0_charAt_5068e
theorem eX5_isWord_0q : (decode cX5_isWord 0 = .ok (.aload_n 0, 1)) ∧ (decode cX5_isWord 1 = .ok (.getfield 21, 3)) ∧ (decode cX5_isWord 4 = .ok (.iconst 1, 1)) ∧ (decode cX5_isWord 5 = .ok (.if_icmp .ne 19, 3)) ∧ (decode cX5_isWord 8 = .ok (.aload_n 0, 1)) ∧ (decode cX5_isWord 9 = .ok (.getfield 27, 3)) ∧ (decode cX5_isWord 12 = .ok (.aload_n 0, 1)) ∧ (decode cX5_isWord 13 = .ok (.getfield 24, 3)) := by decide +kernel
theorem dX5_isWord_0 : decode cX5_isWord 0 = .ok (.aload_n 0, 1) := eX5_isWord_0q.1
theorem dX5_isWord_1 : decode cX5_isWord 1 = .ok (.getfield 21, 3) := eX5_isWord_0q.2.1
theorem dX5_isWord_4 : decode cX5_isWord 4 = .ok (.iconst 1, 1) := eX5_isWord_0q.2.2.1
theorem dX5_isWord_5 : decode cX5_isWord 5 = .ok (.if_icmp .ne 19, 3) := eX5_isWord_0q.2.2.2.1
theorem dX5_isWord_8 : decode cX5_isWord 8 = .ok (.aload_n 0, 1) := eX5_isWord_0q.2.2.2.2.1
theorem dX5_isWord_9 : decode cX5_isWord 9 = .ok (.getfield 27, 3) := eX5_isWord_0q.2.2.2.2.2.1
theorem dX5_isWord_12 : decode cX5_isWord 12 = .ok (.aload_n 0, 1) := eX5_isWord_0q.2.2.2.2.2.2.1
theorem dX5_isWord_13 : decode cX5_isWord 13 = .ok (.getfield 24, 3) := eX5_isWord_0q.2.2.2.2.2.2.2
theorem eX5_isWord_16q : (decode cX5_isWord 16 = .ok (.isub, 1)) ∧ (decode cX5_isWord 17 = .ok (.aload_n 1, 1)) ∧ (decode cX5_isWord 18 = .ok (.invokevirtual 174, 3)) ∧ (decode cX5_isWord 21 = .ok (.if_icmp .eq 5, 3)) ∧ (decode cX5_isWord 24 = .ok (.iconst 0, 1)) ∧ (decode cX5_isWord 25 = .ok (.ireturn, 1)) ∧ (decode cX5_isWord 26 = .ok (.aload_n 0, 1)) ∧ (decode cX5_isWord 27 = .ok (.getfield 24, 3)) := by decide +kernel
theorem dX5_isWord_16 : decode cX5_isWord 16 = .ok (.isub, 1) := eX5_isWord_16q.1
theorem dX5_isWord_17 : decode cX5_isWord 17 = .ok (.aload_n 1, 1) := eX5_isWord_16q.2.1
theorem dX5_isWord_18 : decode cX5_isWord 18 = .ok (.invokevirtual 174, 3) := eX5_isWord_16q.2.2.1
theorem dX5_isWord_21 : decode cX5_isWord 21 = .ok (.if_icmp .eq 5, 3) := eX5_isWord_16q.2.2.2.1
theorem dX5_isWord_24 : decode cX5_isWord 24 = .ok (.iconst 0, 1) := eX5_isWord_16q.2.2.2.2.1
theorem dX5_isWord_25 : decode cX5_isWord 25 = .ok (.ireturn, 1) := eX5_isWord_16q.2.2.2.2.2.1
theorem dX5_isWord_26 : decode cX5_isWord 26 = .ok (.aload_n 0, 1) := eX5_isWord_16q.2.2.2.2.2.2.1
theorem dX5_isWord_27 : decode cX5_isWord 27 = .ok (.getfield 24, 3) := eX5_isWord_16q.2.2.2.2.2.2.2
theorem eX5_isWord_30q : (decode cX5_isWord 30 = .ok (.istore_n 2, 1)) ∧ (decode cX5_isWord 31 = .ok (.iload_n 2, 1)) ∧ (decode cX5_isWord 32 = .ok (.aload_n 0, 1)) ∧ (decode cX5_isWord 33 = .ok (.getfield 27, 3)) ∧ (decode cX5_isWord 36 = .ok (.if_icmp .ge 30, 3)) ∧ (decode cX5_isWord 39 = .ok (.aload_n 0, 1)) ∧ (decode cX5_isWord 40 = .ok (.getfield 44, 3)) ∧ (decode cX5_isWord 43 = .ok (.iload_n 2, 1)) := by decide +kernel
theorem dX5_isWord_30 : decode cX5_isWord 30 = .ok (.istore_n 2, 1) := eX5_isWord_30q.1
theorem dX5_isWord_31 : decode cX5_isWord 31 = .ok (.iload_n 2, 1) := eX5_isWord_30q.2.1
theorem dX5_isWord_32 : decode cX5_isWord 32 = .ok (.aload_n 0, 1) := eX5_isWord_30q.2.2.1
theorem dX5_isWord_33 : decode cX5_isWord 33 = .ok (.getfield 27, 3) := eX5_isWord_30q.2.2.2.1
theorem dX5_isWord_36 : decode cX5_isWord 36 = .ok (.if_icmp .ge 30, 3) := eX5_isWord_30q.2.2.2.2.1
theorem dX5_isWord_39 : decode cX5_isWord 39 = .ok (.aload_n 0, 1) := eX5_isWord_30q.2.2.2.2.2.1
theorem dX5_isWord_40 : decode cX5_isWord 40 = .ok (.getfield 44, 3) := eX5_isWord_30q.2.2.2.2.2.2.1
theorem dX5_isWord_43 : decode cX5_isWord 43 = .ok (.iload_n 2, 1) := eX5_isWord_30q.2.2.2.2.2.2.2
theorem eX5_isWord_44q : (decode cX5_isWord 44 = .ok (.baload, 1)) ∧ (decode cX5_isWord 45 = .ok (.aload_n 1, 1)) ∧ (decode cX5_isWord 46 = .ok (.iload_n 2, 1)) ∧ (decode cX5_isWord 47 = .ok (.aload_n 0, 1)) ∧ (decode cX5_isWord 48 = .ok (.getfield 24, 3)) ∧ (decode cX5_isWord 51 = .ok (.isub, 1)) ∧ (decode cX5_isWord 52 = .ok (.invokevirtual 178, 3)) ∧ (decode cX5_isWord 55 = .ok (.if_icmp .eq 5, 3)) := by decide +kernel
theorem dX5_isWord_44 : decode cX5_isWord 44 = .ok (.baload, 1) := eX5_isWord_44q.1
theorem dX5_isWord_45 : decode cX5_isWord 45 = .ok (.aload_n 1, 1) := eX5_isWord_44q.2.1
theorem dX5_isWord_46 : decode cX5_isWord 46 = .ok (.iload_n 2, 1) := eX5_isWord_44q.2.2.1
theorem dX5_isWord_47 : decode cX5_isWord 47 = .ok (.aload_n 0, 1) := eX5_isWord_44q.2.2.2.1
theorem dX5_isWord_48 : decode cX5_isWord 48 = .ok (.getfield 24, 3) := eX5_isWord_44q.2.2.2.2.1
theorem dX5_isWord_51 : decode cX5_isWord 51 = .ok (.isub, 1) := eX5_isWord_44q.2.2.2.2.2.1
theorem dX5_isWord_52 : decode cX5_isWord 52 = .ok (.invokevirtual 178, 3) := eX5_isWord_44q.2.2.2.2.2.2.1
theorem dX5_isWord_55 : decode cX5_isWord 55 = .ok (.if_icmp .eq 5, 3) := eX5_isWord_44q.2.2.2.2.2.2.2
theorem eX5_isWord_58q : (decode cX5_isWord 58 = .ok (.iconst 0, 1)) ∧ (decode cX5_isWord 59 = .ok (.ireturn, 1)) ∧ (decode cX5_isWord 60 = .ok (.iinc 2 1, 3)) ∧ (decode cX5_isWord 63 = .ok (.goto (-32), 3)) ∧ (decode cX5_isWord 66 = .ok (.iconst 1, 1)) ∧ (decode cX5_isWord 67 = .ok (.ireturn, 1)) := by decide +kernel
theorem dX5_isWord_58 : decode cX5_isWord 58 = .ok (.iconst 0, 1) := eX5_isWord_58q.1
theorem dX5_isWord_59 : decode cX5_isWord 59 = .ok (.ireturn, 1) := eX5_isWord_58q.2.1
theorem dX5_isWord_60 : decode cX5_isWord 60 = .ok (.iinc 2 1, 3) := eX5_isWord_58q.2.2.1
theorem dX5_isWord_63 : decode cX5_isWord 63 = .ok (.goto (-32), 3) := eX5_isWord_58q.2.2.2.1
theorem dX5_isWord_66 : decode cX5_isWord 66 = .ok (.iconst 1, 1) := eX5_isWord_58q.2.2.2.2.1
theorem dX5_isWord_67 : decode cX5_isWord 67 = .ok (.ireturn, 1) := eX5_isWord_58q.2.2.2.2.2
set_option maxRecDepth 20000 in
theorem ggX10_port_X10_mustBeGoal : GoodIn wsX10_port wsX10_mustBeGoal := goodIn_ca (goodIn_r _ [5, 6, 7, 8, 9, 10, 11, 12, 13, 14, 72, 73, 74, 75, 76, 77, 78, 79, 80, 81, 82, 83, 84, 85, 86, 87, 88, 89, 90, 91, 92, 93, 94, 95, 96, 97, 98, 99, 100, 101, 102, 103, 104, 105] rfl (by decide +kernel)) (goodIn_sub (fun _ h => List.mem_cons_of_mem _ (List.mem_append_right _ h)) (by decide +kernel))
set_option maxRecDepth 20000 in
theorem gX10_port_X10_mustBeGoal : GoodIn wsX10_port (wsV RX10 245 RX10 yX10_mustBeGoal wsX10_mustBeGoal) := goodIn_app (goodIn_r _ [1, 2, 3, 4] rfl (by decide +kernel)) ggX10_port_X10_mustBeGoal
set_option maxRecDepth 20000 in
theorem ggX10_port_X10_mustBeLink : GoodIn wsX10_port wsX10_mustBeLink := goodIn_ca (goodIn_r _ [18, 6, 7, 8, 19, 20, 21, 12, 22, 23, 72, 73, 74, 75, 76, 77, 78, 79, 80, 81, 82, 83, 84, 85, 86, 87, 88, 89, 90, 91, 92, 93, 94, 95, 96, 97, 98, 99, 100, 101, 102, 103, 104, 105] rfl (by decide +kernel)) (goodIn_sub (fun _ h => List.mem_cons_of_mem _ (List.mem_append_right _ h)) (by decide +kernel))
set_option maxRecDepth 20000 in
theorem gX10_port_X10_mustBeLink : GoodIn wsX10_port (wsV RX10 229 RX10 yX10_mustBeLink wsX10_mustBeLink) := goodIn_app (goodIn_r _ [15, 16, 17, 4] rfl (by decide +kernel)) ggX10_port_X10_mustBeLink
set_option maxRecDepth 20000 in
theorem ggX10_port_X10_goesBy : GoodIn wsX10_port wsX10_goesBy := by
  have h := goodIn_app (goodIn_app (goodIn_app (goodIn_app (goodIn_r (big := wsX10_port) (.code yX10_goesBy cX10_goesBy 4 (some .boolean) :: (wsX10_goesBy_r1 ++ wsX10_goesBy_r2) : List Cond) [27, 28, 29, 30, 31, 32, 33, 34, 35, 36, 37, 38, 39, 40, 41, 42, 43, 44, 45, 46, 47, 48, 49, 50, 51, 52, 53, 54, 55, 56, 57, 58, 59, 60, 61, 12, 62, 63, 64, 65, 66, 67, 68, 69, 70, 71] rfl (by decide +kernel)) (goodIn_few (big := wsX10_port) (fun _ h9 => List.mem_cons_of_mem _ (List.mem_append_left _ (List.mem_append_left _ (List.mem_append_left _ (List.mem_append_left _ (List.mem_append_right _ h9)))))) gb_9)) (goodIn_few (big := wsX10_port) (fun _ h9 => List.mem_cons_of_mem _ (List.mem_append_left _ (List.mem_append_left _ (List.mem_append_right _ h9)))) gb_5)) (goodIn_few (big := wsX10_port) (fun _ h9 => List.mem_cons_of_mem _ (List.mem_append_left _ (List.mem_append_left _ (List.mem_append_left _ (List.mem_append_right _ h9))))) gb_2)) (goodIn_few (big := wsX10_port) (fun _ h9 => List.mem_cons_of_mem _ (List.mem_append_left _ (List.mem_append_right _ h9))) gb_1)
  exact h
set_option maxRecDepth 20000 in
theorem gX10_port_X10_goesBy : GoodIn wsX10_port (wsV RX10 336 RX10 yX10_goesBy wsX10_goesBy) := goodIn_app (goodIn_r _ [24, 25, 26, 4] rfl (by decide +kernel)) ggX10_port_X10_goesBy
theorem eX10_port_0q : (decode cX10_port 0 = .ok (.aload_n 0, 1)) ∧ (decode cX10_port 1 = .ok (.iload_n 1, 1)) ∧ (decode cX10_port 2 = .ok (.invokevirtual 245, 3)) ∧ (decode cX10_port 5 = .ok (.aload_n 0, 1)) ∧ (decode cX10_port 6 = .ok (.iload_n 2, 1)) ∧ (decode cX10_port 7 = .ok (.invokevirtual 229, 3)) ∧ (decode cX10_port 10 = .ok (.iconst 0, 1)) ∧ (decode cX10_port 11 = .ok (.istore_n 3, 1)) := by decide +kernel
theorem dX10_port_0 : decode cX10_port 0 = .ok (.aload_n 0, 1) := eX10_port_0q.1
theorem dX10_port_1 : decode cX10_port 1 = .ok (.iload_n 1, 1) := eX10_port_0q.2.1
theorem dX10_port_2 : decode cX10_port 2 = .ok (.invokevirtual 245, 3) := eX10_port_0q.2.2.1
theorem dX10_port_5 : decode cX10_port 5 = .ok (.aload_n 0, 1) := eX10_port_0q.2.2.2.1
theorem dX10_port_6 : decode cX10_port 6 = .ok (.iload_n 2, 1) := eX10_port_0q.2.2.2.2.1
theorem dX10_port_7 : decode cX10_port 7 = .ok (.invokevirtual 229, 3) := eX10_port_0q.2.2.2.2.2.1
theorem dX10_port_10 : decode cX10_port 10 = .ok (.iconst 0, 1) := eX10_port_0q.2.2.2.2.2.2.1
theorem dX10_port_11 : decode cX10_port 11 = .ok (.istore_n 3, 1) := eX10_port_0q.2.2.2.2.2.2.2
theorem eX10_port_12q : (decode cX10_port 12 = .ok (.iload_n 3, 1)) ∧ (decode cX10_port 13 = .ok (.bipush 32, 2)) ∧ (decode cX10_port 15 = .ok (.if_icmp .ge 21, 3)) ∧ (decode cX10_port 18 = .ok (.aload_n 0, 1)) ∧ (decode cX10_port 19 = .ok (.iload_n 3, 1)) ∧ (decode cX10_port 20 = .ok (.iload_n 1, 1)) ∧ (decode cX10_port 21 = .ok (.iload_n 2, 1)) ∧ (decode cX10_port 22 = .ok (.invokevirtual 336, 3)) := by decide +kernel
theorem dX10_port_12 : decode cX10_port 12 = .ok (.iload_n 3, 1) := eX10_port_12q.1
theorem dX10_port_13 : decode cX10_port 13 = .ok (.bipush 32, 2) := eX10_port_12q.2.1
theorem dX10_port_15 : decode cX10_port 15 = .ok (.if_icmp .ge 21, 3) := eX10_port_12q.2.2.1
theorem dX10_port_18 : decode cX10_port 18 = .ok (.aload_n 0, 1) := eX10_port_12q.2.2.2.1
theorem dX10_port_19 : decode cX10_port 19 = .ok (.iload_n 3, 1) := eX10_port_12q.2.2.2.2.1
theorem dX10_port_20 : decode cX10_port 20 = .ok (.iload_n 1, 1) := eX10_port_12q.2.2.2.2.2.1
theorem dX10_port_21 : decode cX10_port 21 = .ok (.iload_n 2, 1) := eX10_port_12q.2.2.2.2.2.2.1
theorem dX10_port_22 : decode cX10_port 22 = .ok (.invokevirtual 336, 3) := eX10_port_12q.2.2.2.2.2.2.2
theorem eX10_port_25q : (decode cX10_port 25 = .ok (.ifCond .eq 5, 3)) ∧ (decode cX10_port 28 = .ok (.iload_n 3, 1)) ∧ (decode cX10_port 29 = .ok (.ireturn, 1)) ∧ (decode cX10_port 30 = .ok (.iinc 3 1, 3)) ∧ (decode cX10_port 33 = .ok (.goto (-21), 3)) ∧ (decode cX10_port 36 = .ok (.iconst (-1), 1)) ∧ (decode cX10_port 37 = .ok (.ireturn, 1)) := by decide +kernel
theorem dX10_port_25 : decode cX10_port 25 = .ok (.ifCond .eq 5, 3) := eX10_port_25q.1
theorem dX10_port_28 : decode cX10_port 28 = .ok (.iload_n 3, 1) := eX10_port_25q.2.1
theorem dX10_port_29 : decode cX10_port 29 = .ok (.ireturn, 1) := eX10_port_25q.2.2.1
theorem dX10_port_30 : decode cX10_port 30 = .ok (.iinc 3 1, 3) := eX10_port_25q.2.2.2.1
theorem dX10_port_33 : decode cX10_port 33 = .ok (.goto (-21), 3) := eX10_port_25q.2.2.2.2.1
theorem dX10_port_36 : decode cX10_port 36 = .ok (.iconst (-1), 1) := eX10_port_25q.2.2.2.2.2.1
theorem dX10_port_37 : decode cX10_port 37 = .ok (.ireturn, 1) := eX10_port_25q.2.2.2.2.2.2
set_option maxRecDepth 20000 in
theorem ggX10_use_X10_mustBeGoal : GoodIn wsX10_use wsX10_mustBeGoal := goodIn_ca (goodIn_r _ [5, 6, 7, 8, 9, 10, 11, 12, 13, 14, 72, 73, 74, 75, 76, 77, 78, 79, 80, 81, 82, 83, 84, 85, 86, 87, 88, 89, 90, 91, 92, 93, 94, 95, 96, 97, 98, 99, 100, 101, 102, 103, 104, 105] rfl (by decide +kernel)) (goodIn_sub (fun _ h => List.mem_cons_of_mem _ (List.mem_append_right _ h)) (by decide +kernel))
set_option maxRecDepth 20000 in
theorem gX10_use_X10_mustBeGoal : GoodIn wsX10_use (wsV RX10 245 RX10 yX10_mustBeGoal wsX10_mustBeGoal) := goodIn_app (goodIn_r _ [1, 2, 3, 4] rfl (by decide +kernel)) ggX10_use_X10_mustBeGoal
set_option maxRecDepth 20000 in
theorem ggX10_use_X10_mustBeLink : GoodIn wsX10_use wsX10_mustBeLink := goodIn_ca (goodIn_r _ [18, 6, 7, 8, 19, 20, 21, 12, 22, 23, 72, 73, 74, 75, 76, 77, 78, 79, 80, 81, 82, 83, 84, 85, 86, 87, 88, 89, 90, 91, 92, 93, 94, 95, 96, 97, 98, 99, 100, 101, 102, 103, 104, 105] rfl (by decide +kernel)) (goodIn_sub (fun _ h => List.mem_cons_of_mem _ (List.mem_append_right _ h)) (by decide +kernel))
set_option maxRecDepth 20000 in
theorem gX10_use_X10_mustBeLink : GoodIn wsX10_use (wsV RX10 229 RX10 yX10_mustBeLink wsX10_mustBeLink) := goodIn_app (goodIn_r _ [15, 16, 17, 4] rfl (by decide +kernel)) ggX10_use_X10_mustBeLink
set_option maxRecDepth 20000 in
theorem ggX10_use_X10_goesBy : GoodIn wsX10_use wsX10_goesBy := by
  have h := goodIn_app (goodIn_app (goodIn_app (goodIn_app (goodIn_r (big := wsX10_use) (.code yX10_goesBy cX10_goesBy 4 (some .boolean) :: (wsX10_goesBy_r1 ++ wsX10_goesBy_r2) : List Cond) [27, 28, 29, 30, 31, 32, 33, 34, 35, 36, 37, 38, 39, 40, 41, 42, 43, 44, 45, 46, 47, 48, 49, 50, 51, 52, 53, 54, 55, 56, 57, 58, 59, 60, 61, 12, 62, 63, 64, 65, 66, 67, 68, 69, 70, 71] rfl (by decide +kernel)) (goodIn_few (big := wsX10_use) (fun _ h9 => List.mem_cons_of_mem _ (List.mem_append_left _ (List.mem_append_left _ (List.mem_append_left _ (List.mem_append_left _ (List.mem_append_right _ h9)))))) gb_9)) (goodIn_few (big := wsX10_use) (fun _ h9 => List.mem_cons_of_mem _ (List.mem_append_left _ (List.mem_append_left _ (List.mem_append_right _ h9)))) gb_5)) (goodIn_few (big := wsX10_use) (fun _ h9 => List.mem_cons_of_mem _ (List.mem_append_left _ (List.mem_append_left _ (List.mem_append_left _ (List.mem_append_right _ h9))))) gb_2)) (goodIn_few (big := wsX10_use) (fun _ h9 => List.mem_cons_of_mem _ (List.mem_append_left _ (List.mem_append_right _ h9))) gb_1)
  exact h
set_option maxRecDepth 20000 in
theorem gX10_use_X10_goesBy : GoodIn wsX10_use (wsV RX10 336 RX10 yX10_goesBy wsX10_goesBy) := goodIn_app (goodIn_r _ [24, 25, 26, 4] rfl (by decide +kernel)) ggX10_use_X10_goesBy
theorem eX10_use_0q : (decode cX10_use 0 = .ok (.aload_n 0, 1)) ∧ (decode cX10_use 1 = .ok (.iload_n 1, 1)) ∧ (decode cX10_use 2 = .ok (.invokevirtual 245, 3)) ∧ (decode cX10_use 5 = .ok (.aload_n 0, 1)) ∧ (decode cX10_use 6 = .ok (.iload_n 2, 1)) ∧ (decode cX10_use 7 = .ok (.invokevirtual 229, 3)) ∧ (decode cX10_use 10 = .ok (.iconst 0, 1)) ∧ (decode cX10_use 11 = .ok (.istore_n 3, 1)) := by decide +kernel
theorem dX10_use_0 : decode cX10_use 0 = .ok (.aload_n 0, 1) := eX10_use_0q.1
theorem dX10_use_1 : decode cX10_use 1 = .ok (.iload_n 1, 1) := eX10_use_0q.2.1
theorem dX10_use_2 : decode cX10_use 2 = .ok (.invokevirtual 245, 3) := eX10_use_0q.2.2.1
theorem dX10_use_5 : decode cX10_use 5 = .ok (.aload_n 0, 1) := eX10_use_0q.2.2.2.1
theorem dX10_use_6 : decode cX10_use 6 = .ok (.iload_n 2, 1) := eX10_use_0q.2.2.2.2.1
theorem dX10_use_7 : decode cX10_use 7 = .ok (.invokevirtual 229, 3) := eX10_use_0q.2.2.2.2.2.1
theorem dX10_use_10 : decode cX10_use 10 = .ok (.iconst 0, 1) := eX10_use_0q.2.2.2.2.2.2.1
theorem dX10_use_11 : decode cX10_use 11 = .ok (.istore_n 3, 1) := eX10_use_0q.2.2.2.2.2.2.2
theorem eX10_use_12q : (decode cX10_use 12 = .ok (.iconst 0, 1)) ∧ (decode cX10_use 13 = .ok (.istore 4, 2)) ∧ (decode cX10_use 15 = .ok (.iload 4, 2)) ∧ (decode cX10_use 17 = .ok (.bipush 32, 2)) ∧ (decode cX10_use 19 = .ok (.if_icmp .ge 23, 3)) ∧ (decode cX10_use 22 = .ok (.aload_n 0, 1)) ∧ (decode cX10_use 23 = .ok (.iload 4, 2)) ∧ (decode cX10_use 25 = .ok (.iload_n 1, 1)) := by decide +kernel
theorem dX10_use_12 : decode cX10_use 12 = .ok (.iconst 0, 1) := eX10_use_12q.1
theorem dX10_use_13 : decode cX10_use 13 = .ok (.istore 4, 2) := eX10_use_12q.2.1
theorem dX10_use_15 : decode cX10_use 15 = .ok (.iload 4, 2) := eX10_use_12q.2.2.1
theorem dX10_use_17 : decode cX10_use 17 = .ok (.bipush 32, 2) := eX10_use_12q.2.2.2.1
theorem dX10_use_19 : decode cX10_use 19 = .ok (.if_icmp .ge 23, 3) := eX10_use_12q.2.2.2.2.1
theorem dX10_use_22 : decode cX10_use 22 = .ok (.aload_n 0, 1) := eX10_use_12q.2.2.2.2.2.1
theorem dX10_use_23 : decode cX10_use 23 = .ok (.iload 4, 2) := eX10_use_12q.2.2.2.2.2.2.1
theorem dX10_use_25 : decode cX10_use 25 = .ok (.iload_n 1, 1) := eX10_use_12q.2.2.2.2.2.2.2
theorem eX10_use_26q : (decode cX10_use 26 = .ok (.iload_n 2, 1)) ∧ (decode cX10_use 27 = .ok (.invokevirtual 336, 3)) ∧ (decode cX10_use 30 = .ok (.ifCond .eq 6, 3)) ∧ (decode cX10_use 33 = .ok (.iinc 3 1, 3)) ∧ (decode cX10_use 36 = .ok (.iinc 4 1, 3)) ∧ (decode cX10_use 39 = .ok (.goto (-24), 3)) ∧ (decode cX10_use 42 = .ok (.iload_n 3, 1)) ∧ (decode cX10_use 43 = .ok (.ireturn, 1)) := by decide +kernel
theorem dX10_use_26 : decode cX10_use 26 = .ok (.iload_n 2, 1) := eX10_use_26q.1
theorem dX10_use_27 : decode cX10_use 27 = .ok (.invokevirtual 336, 3) := eX10_use_26q.2.1
theorem dX10_use_30 : decode cX10_use 30 = .ok (.ifCond .eq 6, 3) := eX10_use_26q.2.2.1
theorem dX10_use_33 : decode cX10_use 33 = .ok (.iinc 3 1, 3) := eX10_use_26q.2.2.2.1
theorem dX10_use_36 : decode cX10_use 36 = .ok (.iinc 4 1, 3) := eX10_use_26q.2.2.2.2.1
theorem dX10_use_39 : decode cX10_use 39 = .ok (.goto (-24), 3) := eX10_use_26q.2.2.2.2.2.1
theorem dX10_use_42 : decode cX10_use 42 = .ok (.iload_n 3, 1) := eX10_use_26q.2.2.2.2.2.2.1
theorem dX10_use_43 : decode cX10_use 43 = .ok (.ireturn, 1) := eX10_use_26q.2.2.2.2.2.2.2
set_option maxRecDepth 20000 in
theorem ggX10_cover_X10_mustBeGoal : GoodIn wsX10_cover wsX10_mustBeGoal := goodIn_ca (goodIn_r _ [8, 9, 10, 1, 11, 12, 13, 14, 15, 16, 72, 73, 74, 75, 76, 77, 78, 79, 80, 81, 82, 83, 84, 85, 86, 87, 88, 89, 90, 101, 102, 103, 104, 105, 106, 107, 108, 109, 110, 111, 112, 113, 114, 115] rfl (by decide +kernel)) (goodIn_sub (fun _ h => List.mem_cons_of_mem _ (List.mem_append_right _ h)) (by decide +kernel))
set_option maxRecDepth 20000 in
theorem gX10_cover_X10_mustBeGoal : GoodIn wsX10_cover (wsV RX10 245 RX10 yX10_mustBeGoal wsX10_mustBeGoal) := goodIn_app (goodIn_r _ [4, 5, 6, 7] rfl (by decide +kernel)) ggX10_cover_X10_mustBeGoal
set_option maxRecDepth 20000 in
theorem ggX10_cover_X2_linksOnWaysTo : GoodIn wsX10_cover wsX2_linksOnWaysTo := by
  have h := goodIn_app (goodIn_r (big := wsX10_cover) (.code yX2_linksOnWaysTo cX2_linksOnWaysTo 4 (some .int) :: ([.fieldLink RX2 37 "PathProber$Net" "links" "I", .fieldLink RX2 24 "PathProber$Net" "from" "[I", .fieldLink RX2 27 "PathProber$Net" "to" "[I", .fieldLink RX2 30 "PathProber$Net" "goal" "[I", .methodLink RX2 67 yX2_comesTo, .instanceMethod yX2_comesTo, .selects RX2 yX2_comesTo yX2_comesTo, .initialized RX2, .code yX2_comesTo cX2_comesTo 3 (some .boolean), .fieldLink RX2 46 "PathProber$Net" "reach" "[I"]) : List Cond) [20, 21, 22, 23, 24, 25, 26, 27, 14, 28, 29] rfl (by decide +kernel)) (goodIn_few (big := wsX10_cover) (fun _ h9 => List.mem_cons_of_mem _ (List.mem_append_left _ (List.mem_append_left _ (List.mem_append_right _ h9)))) gb_2)
  exact h
set_option maxRecDepth 20000 in
theorem gX10_cover_X2_linksOnWaysTo : GoodIn wsX10_cover (wsV RX10 340 RX2 yX2_linksOnWaysTo wsX2_linksOnWaysTo) := goodIn_app (goodIn_r _ [17, 18, 19, 14] rfl (by decide +kernel)) ggX10_cover_X2_linksOnWaysTo
set_option maxRecDepth 20000 in
theorem ggX10_cover_X9_takeAll : GoodIn wsX10_cover wsX9_takeAll := by
  have h := goodIn_app (goodIn_app (goodIn_app (goodIn_r (big := wsX10_cover) (.code yX9_takeAll cX9_takeAll 3 none :: (wsX9_takeAll_r1 ++ wsX9_takeAll_r2) : List Cond) [34, 35, 36, 37, 33, 38, 39, 40, 41, 42, 43, 44, 45, 46, 47, 48, 49, 50, 51, 52, 53, 54, 55, 56, 57, 58, 59, 60, 61, 14, 62, 63, 64, 65, 66, 67, 68, 69, 70, 71] rfl (by decide +kernel)) (goodIn_few (big := wsX10_cover) (fun _ h9 => List.mem_cons_of_mem _ (List.mem_append_left _ (List.mem_append_left _ (List.mem_append_left _ (List.mem_append_right _ h9))))) gb_5)) (goodIn_few (big := wsX10_cover) (fun _ h9 => List.mem_cons_of_mem _ (List.mem_append_left _ (List.mem_append_left _ (List.mem_append_right _ h9)))) gb_2)) (goodIn_few (big := wsX10_cover) (fun _ h9 => List.mem_cons_of_mem _ (List.mem_append_left _ (List.mem_append_right _ h9))) gb_1)
  exact h
set_option maxRecDepth 20000 in
theorem gX10_cover_X9_takeAll : GoodIn wsX10_cover (wsV RX10 343 RX9 yX9_takeAll wsX9_takeAll) := goodIn_app (goodIn_r _ [30, 31, 32, 33] rfl (by decide +kernel)) ggX10_cover_X9_takeAll
theorem eX10_cover_0q : (decode cX10_cover 0 = .ok (.aload_n 0, 1)) ∧ (decode cX10_cover 1 = .ok (.iload_n 1, 1)) ∧ (decode cX10_cover 2 = .ok (.invokevirtual 245, 3)) ∧ (decode cX10_cover 5 = .ok (.aload_n 0, 1)) ∧ (decode cX10_cover 6 = .ok (.getfield 19, 3)) ∧ (decode cX10_cover 9 = .ok (.iload_n 1, 1)) ∧ (decode cX10_cover 10 = .ok (.invokevirtual 340, 3)) ∧ (decode cX10_cover 13 = .ok (.istore_n 2, 1)) := by decide +kernel
theorem dX10_cover_0 : decode cX10_cover 0 = .ok (.aload_n 0, 1) := eX10_cover_0q.1
theorem dX10_cover_1 : decode cX10_cover 1 = .ok (.iload_n 1, 1) := eX10_cover_0q.2.1
theorem dX10_cover_2 : decode cX10_cover 2 = .ok (.invokevirtual 245, 3) := eX10_cover_0q.2.2.1
theorem dX10_cover_5 : decode cX10_cover 5 = .ok (.aload_n 0, 1) := eX10_cover_0q.2.2.2.1
theorem dX10_cover_6 : decode cX10_cover 6 = .ok (.getfield 19, 3) := eX10_cover_0q.2.2.2.2.1
theorem dX10_cover_9 : decode cX10_cover 9 = .ok (.iload_n 1, 1) := eX10_cover_0q.2.2.2.2.2.1
theorem dX10_cover_10 : decode cX10_cover 10 = .ok (.invokevirtual 340, 3) := eX10_cover_0q.2.2.2.2.2.2.1
theorem dX10_cover_13 : decode cX10_cover 13 = .ok (.istore_n 2, 1) := eX10_cover_0q.2.2.2.2.2.2.2
theorem eX10_cover_14q : (decode cX10_cover 14 = .ok (.iconst 0, 1)) ∧ (decode cX10_cover 15 = .ok (.istore_n 3, 1)) ∧ (decode cX10_cover 16 = .ok (.iload_n 3, 1)) ∧ (decode cX10_cover 17 = .ok (.bipush 32, 2)) ∧ (decode cX10_cover 19 = .ok (.if_icmp .ge 36, 3)) ∧ (decode cX10_cover 22 = .ok (.iload_n 2, 1)) ∧ (decode cX10_cover 23 = .ok (.ifCond .ne 5, 3)) ∧ (decode cX10_cover 26 = .ok (.iload_n 3, 1)) := by decide +kernel
theorem dX10_cover_14 : decode cX10_cover 14 = .ok (.iconst 0, 1) := eX10_cover_14q.1
theorem dX10_cover_15 : decode cX10_cover 15 = .ok (.istore_n 3, 1) := eX10_cover_14q.2.1
theorem dX10_cover_16 : decode cX10_cover 16 = .ok (.iload_n 3, 1) := eX10_cover_14q.2.2.1
theorem dX10_cover_17 : decode cX10_cover 17 = .ok (.bipush 32, 2) := eX10_cover_14q.2.2.2.1
theorem dX10_cover_19 : decode cX10_cover 19 = .ok (.if_icmp .ge 36, 3) := eX10_cover_14q.2.2.2.2.1
theorem dX10_cover_22 : decode cX10_cover 22 = .ok (.iload_n 2, 1) := eX10_cover_14q.2.2.2.2.2.1
theorem dX10_cover_23 : decode cX10_cover 23 = .ok (.ifCond .ne 5, 3) := eX10_cover_14q.2.2.2.2.2.2.1
theorem dX10_cover_26 : decode cX10_cover 26 = .ok (.iload_n 3, 1) := eX10_cover_14q.2.2.2.2.2.2.2
theorem eX10_cover_27q : (decode cX10_cover 27 = .ok (.ireturn, 1)) ∧ (decode cX10_cover 28 = .ok (.aload_n 0, 1)) ∧ (decode cX10_cover 29 = .ok (.getfield 64, 3)) ∧ (decode cX10_cover 32 = .ok (.iload_n 3, 1)) ∧ (decode cX10_cover 33 = .ok (.iload_n 1, 1)) ∧ (decode cX10_cover 34 = .ok (.invokevirtual 343, 3)) ∧ (decode cX10_cover 37 = .ok (.iload_n 2, 1)) ∧ (decode cX10_cover 38 = .ok (.aload_n 0, 1)) := by decide +kernel
theorem dX10_cover_27 : decode cX10_cover 27 = .ok (.ireturn, 1) := eX10_cover_27q.1
theorem dX10_cover_28 : decode cX10_cover 28 = .ok (.aload_n 0, 1) := eX10_cover_27q.2.1
theorem dX10_cover_29 : decode cX10_cover 29 = .ok (.getfield 64, 3) := eX10_cover_27q.2.2.1
theorem dX10_cover_32 : decode cX10_cover 32 = .ok (.iload_n 3, 1) := eX10_cover_27q.2.2.2.1
theorem dX10_cover_33 : decode cX10_cover 33 = .ok (.iload_n 1, 1) := eX10_cover_27q.2.2.2.2.1
theorem dX10_cover_34 : decode cX10_cover 34 = .ok (.invokevirtual 343, 3) := eX10_cover_27q.2.2.2.2.2.1
theorem dX10_cover_37 : decode cX10_cover 37 = .ok (.iload_n 2, 1) := eX10_cover_27q.2.2.2.2.2.2.1
theorem dX10_cover_38 : decode cX10_cover 38 = .ok (.aload_n 0, 1) := eX10_cover_27q.2.2.2.2.2.2.2
theorem eX10_cover_39q : (decode cX10_cover 39 = .ok (.getfield 64, 3)) ∧ (decode cX10_cover 42 = .ok (.getfield 346, 3)) ∧ (decode cX10_cover 45 = .ok (.iconst (-1), 1)) ∧ (decode cX10_cover 46 = .ok (.ixor, 1)) ∧ (decode cX10_cover 47 = .ok (.iand, 1)) ∧ (decode cX10_cover 48 = .ok (.istore_n 2, 1)) ∧ (decode cX10_cover 49 = .ok (.iinc 3 1, 3)) ∧ (decode cX10_cover 52 = .ok (.goto (-36), 3)) := by decide +kernel
theorem dX10_cover_39 : decode cX10_cover 39 = .ok (.getfield 64, 3) := eX10_cover_39q.1
theorem dX10_cover_42 : decode cX10_cover 42 = .ok (.getfield 346, 3) := eX10_cover_39q.2.1
theorem dX10_cover_45 : decode cX10_cover 45 = .ok (.iconst (-1), 1) := eX10_cover_39q.2.2.1
theorem dX10_cover_46 : decode cX10_cover 46 = .ok (.ixor, 1) := eX10_cover_39q.2.2.2.1
theorem dX10_cover_47 : decode cX10_cover 47 = .ok (.iand, 1) := eX10_cover_39q.2.2.2.2.1
theorem dX10_cover_48 : decode cX10_cover 48 = .ok (.istore_n 2, 1) := eX10_cover_39q.2.2.2.2.2.1
theorem dX10_cover_49 : decode cX10_cover 49 = .ok (.iinc 3 1, 3) := eX10_cover_39q.2.2.2.2.2.2.1
theorem dX10_cover_52 : decode cX10_cover 52 = .ok (.goto (-36), 3) := eX10_cover_39q.2.2.2.2.2.2.2
theorem eX10_cover_55q : (decode cX10_cover 55 = .ok (.iload_n 2, 1)) ∧ (decode cX10_cover 56 = .ok (.ifCond .ne 8, 3)) ∧ (decode cX10_cover 59 = .ok (.bipush 32, 2)) ∧ (decode cX10_cover 61 = .ok (.goto 4, 3)) ∧ (decode cX10_cover 64 = .ok (.iconst (-1), 1)) ∧ (decode cX10_cover 65 = .ok (.ireturn, 1)) := by decide +kernel
theorem dX10_cover_55 : decode cX10_cover 55 = .ok (.iload_n 2, 1) := eX10_cover_55q.1
theorem dX10_cover_56 : decode cX10_cover 56 = .ok (.ifCond .ne 8, 3) := eX10_cover_55q.2.1
theorem dX10_cover_59 : decode cX10_cover 59 = .ok (.bipush 32, 2) := eX10_cover_55q.2.2.1
theorem dX10_cover_61 : decode cX10_cover 61 = .ok (.goto 4, 3) := eX10_cover_55q.2.2.2.1
theorem dX10_cover_64 : decode cX10_cover 64 = .ok (.iconst (-1), 1) := eX10_cover_55q.2.2.2.2.1
theorem dX10_cover_65 : decode cX10_cover 65 = .ok (.ireturn, 1) := eX10_cover_55q.2.2.2.2.2
set_option maxRecDepth 20000 in
theorem ggX10_note_X10_isPort : GoodIn wsX10_note wsX10_isPort := goodIn_r _ [8] rfl (by decide +kernel)
set_option maxRecDepth 20000 in
theorem gX10_note_X10_isPort : GoodIn wsX10_note (va_wsS RX10 347 yX10_isPort wsX10_isPort) := goodIn_app (goodIn_r _ [5, 6, 7] rfl (by decide +kernel)) ggX10_note_X10_isPort
set_option maxRecDepth 20000 in
theorem ggX10_note_X2_hasGoal : GoodIn wsX10_note wsX2_hasGoal := by
  have h := goodIn_app (goodIn_r (big := wsX10_note) (.code yX2_hasGoal cX2_hasGoal 2 (some .boolean) :: ([.fieldLink RX2 40 "PathProber$Net" "goals" "I"]) : List Cond) [13, 14] rfl (by decide +kernel)) (goodIn_few (big := wsX10_note) (fun _ h9 => List.mem_cons_of_mem _ (List.mem_append_right _ h9)) gb_2)
  exact h
set_option maxRecDepth 20000 in
theorem gX10_note_X2_hasGoal : GoodIn wsX10_note (wsV RX10 350 RX2 yX2_hasGoal wsX2_hasGoal) := goodIn_app (goodIn_r _ [9, 10, 11, 12] rfl (by decide +kernel)) ggX10_note_X2_hasGoal
set_option maxRecDepth 20000 in
theorem ggX10_note_X10_isHops : GoodIn wsX10_note wsX10_isHops := goodIn_r _ [17] rfl (by decide +kernel)
set_option maxRecDepth 20000 in
theorem gX10_note_X10_isHops : GoodIn wsX10_note (va_wsS RX10 353 yX10_isHops wsX10_isHops) := goodIn_app (goodIn_r _ [15, 16, 7] rfl (by decide +kernel)) ggX10_note_X10_isHops
set_option maxRecDepth 20000 in
theorem ggX10_note_X2_hasAddress : GoodIn wsX10_note wsX2_hasAddress := by
  have h := goodIn_app (goodIn_r (big := wsX10_note) (.code yX2_hasAddress cX2_hasAddress 2 (some .boolean) :: ([.fieldLink RX2 33 "PathProber$Net" "routers" "I", .fieldLink RX2 37 "PathProber$Net" "links" "I"]) : List Cond) [21, 22, 23] rfl (by decide +kernel)) (goodIn_few (big := wsX10_note) (fun _ h9 => List.mem_cons_of_mem _ (List.mem_append_right _ h9)) gb_2)
  exact h
set_option maxRecDepth 20000 in
theorem gX10_note_X2_hasAddress : GoodIn wsX10_note (wsV RX10 388 RX2 yX2_hasAddress wsX2_hasAddress) := goodIn_app (goodIn_r _ [18, 19, 20, 12] rfl (by decide +kernel)) ggX10_note_X2_hasAddress
set_option maxRecDepth 20000 in
theorem ggX10_note_X3_write : GoodIn wsX10_note wsX3_write := by
  have h := goodIn_app (goodIn_r (big := wsX10_note) (.code yX3_write cX3_write 5 none :: ([.fieldLink RX3 24 "PathProber$Notebook" "size" "I", .fieldLink RX3 9 "PathProber$Notebook" "port" "[I", .fieldLink RX3 15 "PathProber$Notebook" "goal" "[I", .fieldLink RX3 18 "PathProber$Notebook" "hops" "[I", .fieldLink RX3 21 "PathProber$Notebook" "address" "[I"]) : List Cond) [28, 29, 30, 31, 32, 33] rfl (by decide +kernel)) (goodIn_few (big := wsX10_note) (fun _ h9 => List.mem_cons_of_mem _ (List.mem_append_left _ (List.mem_append_right _ h9))) gb_8)
  exact h
set_option maxRecDepth 20000 in
theorem gX10_note_X3_write : GoodIn wsX10_note (wsV RX10 391 RX3 yX3_write wsX3_write) := goodIn_app (goodIn_r _ [24, 25, 26, 27] rfl (by decide +kernel)) ggX10_note_X3_write
theorem eX10_note_0q : (decode cX10_note 0 = .ok (.iload_n 1, 1)) ∧ (decode cX10_note 1 = .ok (.invokestatic 347, 3)) ∧ (decode cX10_note 4 = .ok (.ifCond .eq 37, 3)) ∧ (decode cX10_note 7 = .ok (.aload_n 0, 1)) ∧ (decode cX10_note 8 = .ok (.getfield 19, 3)) ∧ (decode cX10_note 11 = .ok (.iload_n 2, 1)) ∧ (decode cX10_note 12 = .ok (.invokevirtual 350, 3)) ∧ (decode cX10_note 15 = .ok (.ifCond .eq 26, 3)) := by decide +kernel
theorem dX10_note_0 : decode cX10_note 0 = .ok (.iload_n 1, 1) := eX10_note_0q.1
theorem dX10_note_1 : decode cX10_note 1 = .ok (.invokestatic 347, 3) := eX10_note_0q.2.1
theorem dX10_note_4 : decode cX10_note 4 = .ok (.ifCond .eq 37, 3) := eX10_note_0q.2.2.1
theorem dX10_note_7 : decode cX10_note 7 = .ok (.aload_n 0, 1) := eX10_note_0q.2.2.2.1
theorem dX10_note_8 : decode cX10_note 8 = .ok (.getfield 19, 3) := eX10_note_0q.2.2.2.2.1
theorem dX10_note_11 : decode cX10_note 11 = .ok (.iload_n 2, 1) := eX10_note_0q.2.2.2.2.2.1
theorem dX10_note_12 : decode cX10_note 12 = .ok (.invokevirtual 350, 3) := eX10_note_0q.2.2.2.2.2.2.1
theorem dX10_note_15 : decode cX10_note 15 = .ok (.ifCond .eq 26, 3) := eX10_note_0q.2.2.2.2.2.2.2
theorem eX10_note_18q : (decode cX10_note 18 = .ok (.iload_n 3, 1)) ∧ (decode cX10_note 19 = .ok (.invokestatic 353, 3)) ∧ (decode cX10_note 22 = .ok (.ifCond .eq 19, 3)) ∧ (decode cX10_note 25 = .ok (.aload_n 0, 1)) ∧ (decode cX10_note 26 = .ok (.getfield 19, 3)) ∧ (decode cX10_note 29 = .ok (.iload 4, 2)) ∧ (decode cX10_note 31 = .ok (.invokevirtual 388, 3)) ∧ (decode cX10_note 34 = .ok (.ifCond .eq 7, 3)) := by decide +kernel
theorem dX10_note_18 : decode cX10_note 18 = .ok (.iload_n 3, 1) := eX10_note_18q.1
theorem dX10_note_19 : decode cX10_note 19 = .ok (.invokestatic 353, 3) := eX10_note_18q.2.1
theorem dX10_note_22 : decode cX10_note 22 = .ok (.ifCond .eq 19, 3) := eX10_note_18q.2.2.1
theorem dX10_note_25 : decode cX10_note 25 = .ok (.aload_n 0, 1) := eX10_note_18q.2.2.2.1
theorem dX10_note_26 : decode cX10_note 26 = .ok (.getfield 19, 3) := eX10_note_18q.2.2.2.2.1
theorem dX10_note_29 : decode cX10_note 29 = .ok (.iload 4, 2) := eX10_note_18q.2.2.2.2.2.1
theorem dX10_note_31 : decode cX10_note 31 = .ok (.invokevirtual 388, 3) := eX10_note_18q.2.2.2.2.2.2.1
theorem dX10_note_34 : decode cX10_note 34 = .ok (.ifCond .eq 7, 3) := eX10_note_18q.2.2.2.2.2.2.2
theorem eX10_note_37q : (decode cX10_note 37 = .ok (.iconst 1, 1)) ∧ (decode cX10_note 38 = .ok (.goto 4, 3)) ∧ (decode cX10_note 41 = .ok (.iconst 0, 1)) ∧ (decode cX10_note 42 = .ok (.istore 5, 2)) ∧ (decode cX10_note 44 = .ok (.iload 5, 2)) ∧ (decode cX10_note 46 = .ok (.ifCond .eq 15, 3)) ∧ (decode cX10_note 49 = .ok (.aload_n 0, 1)) ∧ (decode cX10_note 50 = .ok (.getfield 82, 3)) := by decide +kernel
theorem dX10_note_37 : decode cX10_note 37 = .ok (.iconst 1, 1) := eX10_note_37q.1
theorem dX10_note_38 : decode cX10_note 38 = .ok (.goto 4, 3) := eX10_note_37q.2.1
theorem dX10_note_41 : decode cX10_note 41 = .ok (.iconst 0, 1) := eX10_note_37q.2.2.1
theorem dX10_note_42 : decode cX10_note 42 = .ok (.istore 5, 2) := eX10_note_37q.2.2.2.1
theorem dX10_note_44 : decode cX10_note 44 = .ok (.iload 5, 2) := eX10_note_37q.2.2.2.2.1
theorem dX10_note_46 : decode cX10_note 46 = .ok (.ifCond .eq 15, 3) := eX10_note_37q.2.2.2.2.2.1
theorem dX10_note_49 : decode cX10_note 49 = .ok (.aload_n 0, 1) := eX10_note_37q.2.2.2.2.2.2.1
theorem dX10_note_50 : decode cX10_note 50 = .ok (.getfield 82, 3) := eX10_note_37q.2.2.2.2.2.2.2
theorem eX10_note_53q : (decode cX10_note 53 = .ok (.getfield 158, 3)) ∧ (decode cX10_note 56 = .ok (.bipush 8, 2)) ∧ (decode cX10_note 58 = .ok (.if_icmp .lt 15, 3)) ∧ (decode cX10_note 61 = .ok (.aload_n 0, 1)) ∧ (decode cX10_note 62 = .ok (.getfield 93, 3)) ∧ (decode cX10_note 65 = .ok (.iconst 2, 1)) ∧ (decode cX10_note 66 = .ok (.dup2, 1)) ∧ (decode cX10_note 67 = .ok (.iaload, 1)) := by decide +kernel
theorem dX10_note_53 : decode cX10_note 53 = .ok (.getfield 158, 3) := eX10_note_53q.1
theorem dX10_note_56 : decode cX10_note 56 = .ok (.bipush 8, 2) := eX10_note_53q.2.1
theorem dX10_note_58 : decode cX10_note 58 = .ok (.if_icmp .lt 15, 3) := eX10_note_53q.2.2.1
theorem dX10_note_61 : decode cX10_note 61 = .ok (.aload_n 0, 1) := eX10_note_53q.2.2.2.1
theorem dX10_note_62 : decode cX10_note 62 = .ok (.getfield 93, 3) := eX10_note_53q.2.2.2.2.1
theorem dX10_note_65 : decode cX10_note 65 = .ok (.iconst 2, 1) := eX10_note_53q.2.2.2.2.2.1
theorem dX10_note_66 : decode cX10_note 66 = .ok (.dup2, 1) := eX10_note_53q.2.2.2.2.2.2.1
theorem dX10_note_67 : decode cX10_note 67 = .ok (.iaload, 1) := eX10_note_53q.2.2.2.2.2.2.2
theorem eX10_note_68q : (decode cX10_note 68 = .ok (.iconst 1, 1)) ∧ (decode cX10_note 69 = .ok (.iadd, 1)) ∧ (decode cX10_note 70 = .ok (.iastore, 1)) ∧ (decode cX10_note 71 = .ok (.iconst (-1), 1)) ∧ (decode cX10_note 72 = .ok (.ireturn, 1)) ∧ (decode cX10_note 73 = .ok (.aload_n 0, 1)) ∧ (decode cX10_note 74 = .ok (.getfield 82, 3)) ∧ (decode cX10_note 77 = .ok (.iload_n 1, 1)) := by decide +kernel
theorem dX10_note_68 : decode cX10_note 68 = .ok (.iconst 1, 1) := eX10_note_68q.1
theorem dX10_note_69 : decode cX10_note 69 = .ok (.iadd, 1) := eX10_note_68q.2.1
theorem dX10_note_70 : decode cX10_note 70 = .ok (.iastore, 1) := eX10_note_68q.2.2.1
theorem dX10_note_71 : decode cX10_note 71 = .ok (.iconst (-1), 1) := eX10_note_68q.2.2.2.1
theorem dX10_note_72 : decode cX10_note 72 = .ok (.ireturn, 1) := eX10_note_68q.2.2.2.2.1
theorem dX10_note_73 : decode cX10_note 73 = .ok (.aload_n 0, 1) := eX10_note_68q.2.2.2.2.2.1
theorem dX10_note_74 : decode cX10_note 74 = .ok (.getfield 82, 3) := eX10_note_68q.2.2.2.2.2.2.1
theorem dX10_note_77 : decode cX10_note 77 = .ok (.iload_n 1, 1) := eX10_note_68q.2.2.2.2.2.2.2
theorem eX10_note_78q : (decode cX10_note 78 = .ok (.iload_n 2, 1)) ∧ (decode cX10_note 79 = .ok (.iload_n 3, 1)) ∧ (decode cX10_note 80 = .ok (.iload 4, 2)) ∧ (decode cX10_note 82 = .ok (.invokevirtual 391, 3)) ∧ (decode cX10_note 85 = .ok (.aload_n 0, 1)) ∧ (decode cX10_note 86 = .ok (.getfield 82, 3)) ∧ (decode cX10_note 89 = .ok (.getfield 158, 3)) ∧ (decode cX10_note 92 = .ok (.ireturn, 1)) := by decide +kernel
theorem dX10_note_78 : decode cX10_note 78 = .ok (.iload_n 2, 1) := eX10_note_78q.1
theorem dX10_note_79 : decode cX10_note 79 = .ok (.iload_n 3, 1) := eX10_note_78q.2.1
theorem dX10_note_80 : decode cX10_note 80 = .ok (.iload 4, 2) := eX10_note_78q.2.2.1
theorem dX10_note_82 : decode cX10_note 82 = .ok (.invokevirtual 391, 3) := eX10_note_78q.2.2.2.1
theorem dX10_note_85 : decode cX10_note 85 = .ok (.aload_n 0, 1) := eX10_note_78q.2.2.2.2.1
theorem dX10_note_86 : decode cX10_note 86 = .ok (.getfield 82, 3) := eX10_note_78q.2.2.2.2.2.1
theorem dX10_note_89 : decode cX10_note 89 = .ok (.getfield 158, 3) := eX10_note_78q.2.2.2.2.2.2.1
theorem dX10_note_92 : decode cX10_note 92 = .ok (.ireturn, 1) := eX10_note_78q.2.2.2.2.2.2.2
set_option maxRecDepth 20000 in
theorem ggX10_fits_X10_mustBeRouter : GoodIn wsX10_fits wsX10_mustBeRouter := goodIn_ca (goodIn_r _ [6, 7, 8, 9, 10, 11, 12, 13, 14, 15, 116, 117, 118, 119, 120, 121, 122, 123, 124, 125, 126, 127, 128, 129, 130, 131, 132, 133, 134, 135, 136, 137, 138, 139, 140, 141, 142, 143, 144, 145, 146, 147, 148, 149] rfl (by decide +kernel)) (goodIn_sub (fun _ h => List.mem_cons_of_mem _ (List.mem_append_right _ h)) (by decide +kernel))
set_option maxRecDepth 20000 in
theorem gX10_fits_X10_mustBeRouter : GoodIn wsX10_fits (wsV RX10 200 RX10 yX10_mustBeRouter wsX10_mustBeRouter) := goodIn_app (goodIn_r _ [2, 3, 4, 5] rfl (by decide +kernel)) ggX10_fits_X10_mustBeRouter
set_option maxRecDepth 20000 in
theorem ggX10_fits_X10_mustBeWhat : GoodIn wsX10_fits wsX10_mustBeWhat := goodIn_ca (goodIn_r _ [18, 7, 8] rfl (by decide +kernel)) (goodIn_sub (fun _ h => List.mem_cons_of_mem _ (List.mem_append_right _ h)) (by decide +kernel))
set_option maxRecDepth 20000 in
theorem gX10_fits_X10_mustBeWhat : GoodIn wsX10_fits (va_wsS RX10 232 yX10_mustBeWhat wsX10_mustBeWhat) := goodIn_app (goodIn_r _ [16, 17, 5] rfl (by decide +kernel)) ggX10_fits_X10_mustBeWhat
set_option maxRecDepth 20000 in
theorem ggX10_fits_X3_fitting : GoodIn wsX10_fits wsX3_fitting := by
  have h := goodIn_app (goodIn_app (goodIn_app (goodIn_app (goodIn_r (big := wsX10_fits) (.code yX3_fitting cX3_fitting 5 (some .long) :: (wsX3_fitting_r1 ++ (wsX3_fitting_r2 ++ (wsX3_fitting_r3 ++ wsX3_fitting_r4))) : List Cond) [23, 24, 25, 26, 27, 28, 22, 29, 30, 31, 32, 33, 34, 35, 36, 37, 38, 39, 40, 41, 42, 43, 13, 44, 45, 46, 47, 48, 49, 50, 51, 52, 53, 54, 55, 56, 57, 58, 59, 60, 61, 62, 63, 64, 65, 66, 67, 68, 69, 70, 71, 72, 73, 74, 75, 76, 77, 78, 79, 80, 81, 82, 83, 84, 85, 86, 87, 88, 89, 90, 91, 92, 93, 94, 95, 96, 97, 98, 99, 100] rfl (by decide +kernel)) (goodIn_few (big := wsX10_fits) (fun _ h9 => List.mem_cons_of_mem _ (List.mem_append_left _ (List.mem_append_left _ (List.mem_append_left _ (List.mem_append_right _ h9))))) gb_8)) (goodIn_few (big := wsX10_fits) (fun _ h9 => List.mem_cons_of_mem _ (List.mem_append_left _ (List.mem_append_left _ (List.mem_append_right _ h9)))) gb_5)) (goodIn_few (big := wsX10_fits) (fun _ h9 => List.mem_cons_of_mem _ (List.mem_append_left _ (List.mem_append_left _ (List.mem_append_left _ (List.mem_append_left _ (List.mem_append_right _ h9)))))) gb_2)) (goodIn_few (big := wsX10_fits) (fun _ h9 => List.mem_cons_of_mem _ (List.mem_append_left _ (List.mem_append_right _ h9))) gb_1)
  exact h
set_option maxRecDepth 20000 in
theorem gX10_fits_X3_fitting : GoodIn wsX10_fits (wsV RX10 395 RX3 yX3_fitting wsX3_fitting) := goodIn_app (goodIn_r _ [19, 20, 21, 22] rfl (by decide +kernel)) ggX10_fits_X3_fitting
set_option maxRecDepth 20000 in
theorem ggX10_fits_J13_bitCount_95d88 : GoodIn wsX10_fits wsJ13_bitCount_95d88 := goodIn_r _ [104, 105, 106, 107] rfl (by decide +kernel)
set_option maxRecDepth 20000 in
theorem gX10_fits_J13_bitCount_95d88 : GoodIn wsX10_fits (va_wsS RX10 399 yJ13_bitCount_95d88 wsJ13_bitCount_95d88) := goodIn_app (goodIn_r _ [101, 102, 103] rfl (by decide +kernel)) ggX10_fits_J13_bitCount_95d88
set_option maxRecDepth 20000 in
theorem ggX10_fits_J13_numberOfTrailingZeros_95d88 : GoodIn wsX10_fits wsJ13_numberOfTrailingZeros_95d88 := goodIn_r _ [110, 111, 112, 113, 114, 115] rfl (by decide +kernel)
set_option maxRecDepth 20000 in
theorem gX10_fits_J13_numberOfTrailingZeros_95d88 : GoodIn wsX10_fits (va_wsS RX10 404 yJ13_numberOfTrailingZeros_95d88 wsJ13_numberOfTrailingZeros_95d88) := goodIn_app (goodIn_r _ [108, 109, 103] rfl (by decide +kernel)) ggX10_fits_J13_numberOfTrailingZeros_95d88
theorem eX10_fits_0q : (decode cX10_fits 0 = .ok (.aload_n 0, 1)) ∧ (decode cX10_fits 1 = .ok (.iload_n 1, 1)) ∧ (decode cX10_fits 2 = .ok (.invokevirtual 200, 3)) ∧ (decode cX10_fits 5 = .ok (.iload_n 2, 1)) ∧ (decode cX10_fits 6 = .ok (.iconst 1, 1)) ∧ (decode cX10_fits 7 = .ok (.invokestatic 232, 3)) ∧ (decode cX10_fits 10 = .ok (.aload_n 0, 1)) ∧ (decode cX10_fits 11 = .ok (.getfield 82, 3)) := by decide +kernel
theorem dX10_fits_0 : decode cX10_fits 0 = .ok (.aload_n 0, 1) := eX10_fits_0q.1
theorem dX10_fits_1 : decode cX10_fits 1 = .ok (.iload_n 1, 1) := eX10_fits_0q.2.1
theorem dX10_fits_2 : decode cX10_fits 2 = .ok (.invokevirtual 200, 3) := eX10_fits_0q.2.2.1
theorem dX10_fits_5 : decode cX10_fits 5 = .ok (.iload_n 2, 1) := eX10_fits_0q.2.2.2.1
theorem dX10_fits_6 : decode cX10_fits 6 = .ok (.iconst 1, 1) := eX10_fits_0q.2.2.2.2.1
theorem dX10_fits_7 : decode cX10_fits 7 = .ok (.invokestatic 232, 3) := eX10_fits_0q.2.2.2.2.2.1
theorem dX10_fits_10 : decode cX10_fits 10 = .ok (.aload_n 0, 1) := eX10_fits_0q.2.2.2.2.2.2.1
theorem dX10_fits_11 : decode cX10_fits 11 = .ok (.getfield 82, 3) := eX10_fits_0q.2.2.2.2.2.2.2
theorem eX10_fits_14q : (decode cX10_fits 14 = .ok (.iload_n 1, 1)) ∧ (decode cX10_fits 15 = .ok (.invokevirtual 395, 3)) ∧ (decode cX10_fits 18 = .ok (.lstore_n 3, 1)) ∧ (decode cX10_fits 19 = .ok (.iload_n 2, 1)) ∧ (decode cX10_fits 20 = .ok (.ifCond .ne 8, 3)) ∧ (decode cX10_fits 23 = .ok (.lload_n 3, 1)) ∧ (decode cX10_fits 24 = .ok (.invokestatic 399, 3)) ∧ (decode cX10_fits 27 = .ok (.ireturn, 1)) := by decide +kernel
theorem dX10_fits_14 : decode cX10_fits 14 = .ok (.iload_n 1, 1) := eX10_fits_14q.1
theorem dX10_fits_15 : decode cX10_fits 15 = .ok (.invokevirtual 395, 3) := eX10_fits_14q.2.1
theorem dX10_fits_18 : decode cX10_fits 18 = .ok (.lstore_n 3, 1) := eX10_fits_14q.2.2.1
theorem dX10_fits_19 : decode cX10_fits 19 = .ok (.iload_n 2, 1) := eX10_fits_14q.2.2.2.1
theorem dX10_fits_20 : decode cX10_fits 20 = .ok (.ifCond .ne 8, 3) := eX10_fits_14q.2.2.2.2.1
theorem dX10_fits_23 : decode cX10_fits 23 = .ok (.lload_n 3, 1) := eX10_fits_14q.2.2.2.2.2.1
theorem dX10_fits_24 : decode cX10_fits 24 = .ok (.invokestatic 399, 3) := eX10_fits_14q.2.2.2.2.2.2.1
theorem dX10_fits_27 : decode cX10_fits 27 = .ok (.ireturn, 1) := eX10_fits_14q.2.2.2.2.2.2.2
theorem eX10_fits_28q : (decode cX10_fits 28 = .ok (.lload_n 3, 1)) ∧ (decode cX10_fits 29 = .ok (.lconst 0, 1)) ∧ (decode cX10_fits 30 = .ok (.lcmp, 1)) ∧ (decode cX10_fits 31 = .ok (.ifCond .ne 7, 3)) ∧ (decode cX10_fits 34 = .ok (.iconst (-1), 1)) ∧ (decode cX10_fits 35 = .ok (.goto 7, 3)) ∧ (decode cX10_fits 38 = .ok (.lload_n 3, 1)) ∧ (decode cX10_fits 39 = .ok (.invokestatic 404, 3)) := by decide +kernel
theorem dX10_fits_28 : decode cX10_fits 28 = .ok (.lload_n 3, 1) := eX10_fits_28q.1
theorem dX10_fits_29 : decode cX10_fits 29 = .ok (.lconst 0, 1) := eX10_fits_28q.2.1
theorem dX10_fits_30 : decode cX10_fits 30 = .ok (.lcmp, 1) := eX10_fits_28q.2.2.1
theorem dX10_fits_31 : decode cX10_fits 31 = .ok (.ifCond .ne 7, 3) := eX10_fits_28q.2.2.2.1
theorem dX10_fits_34 : decode cX10_fits 34 = .ok (.iconst (-1), 1) := eX10_fits_28q.2.2.2.2.1
theorem dX10_fits_35 : decode cX10_fits 35 = .ok (.goto 7, 3) := eX10_fits_28q.2.2.2.2.2.1
theorem dX10_fits_38 : decode cX10_fits 38 = .ok (.lload_n 3, 1) := eX10_fits_28q.2.2.2.2.2.2.1
theorem dX10_fits_39 : decode cX10_fits 39 = .ok (.invokestatic 404, 3) := eX10_fits_28q.2.2.2.2.2.2.2
theorem dX10_fits_42 : decode cX10_fits 42 = .ok (.ireturn, 1) := by decide +kernel
set_option maxRecDepth 20000 in
theorem ggX10_look_X10_mustBeRouter : GoodIn wsX10_look wsX10_mustBeRouter := goodIn_ca (goodIn_r _ [8, 9, 10, 11, 12, 13, 14, 15, 16, 17, 134, 135, 136, 137, 138, 139, 140, 141, 142, 143, 144, 145, 146, 147, 148, 149, 150, 151, 152, 162, 163, 164, 165, 166, 167, 168, 169, 170, 171, 172, 173, 174, 175, 176] rfl (by decide +kernel)) (goodIn_sub (fun _ h => List.mem_cons_of_mem _ (List.mem_append_right _ h)) (by decide +kernel))
set_option maxRecDepth 20000 in
theorem gX10_look_X10_mustBeRouter : GoodIn wsX10_look (wsV RX10 200 RX10 yX10_mustBeRouter wsX10_mustBeRouter) := goodIn_app (goodIn_r _ [4, 5, 6, 7] rfl (by decide +kernel)) ggX10_look_X10_mustBeRouter
set_option maxRecDepth 20000 in
theorem ggX10_look_X10_mustBeGoal : GoodIn wsX10_look wsX10_mustBeGoal := goodIn_ca (goodIn_r _ [21, 9, 10, 11, 22, 23, 24, 15, 25, 26, 134, 135, 136, 137, 138, 139, 140, 141, 142, 143, 144, 145, 146, 147, 148, 149, 150, 151, 152, 162, 163, 164, 165, 166, 167, 168, 169, 170, 171, 172, 173, 174, 175, 176] rfl (by decide +kernel)) (goodIn_sub (fun _ h => List.mem_cons_of_mem _ (List.mem_append_right _ h)) (by decide +kernel))
set_option maxRecDepth 20000 in
theorem gX10_look_X10_mustBeGoal : GoodIn wsX10_look (wsV RX10 245 RX10 yX10_mustBeGoal wsX10_mustBeGoal) := goodIn_app (goodIn_r _ [18, 19, 20, 7] rfl (by decide +kernel)) ggX10_look_X10_mustBeGoal
set_option maxRecDepth 20000 in
theorem ggX10_look_X10_mustBeWhat : GoodIn wsX10_look wsX10_mustBeWhat := goodIn_ca (goodIn_r _ [29, 9, 10] rfl (by decide +kernel)) (goodIn_sub (fun _ h => List.mem_cons_of_mem _ (List.mem_append_right _ h)) (by decide +kernel))
set_option maxRecDepth 20000 in
theorem gX10_look_X10_mustBeWhat : GoodIn wsX10_look (va_wsS RX10 232 yX10_mustBeWhat wsX10_mustBeWhat) := goodIn_app (goodIn_r _ [27, 28, 7] rfl (by decide +kernel)) ggX10_look_X10_mustBeWhat
set_option maxRecDepth 20000 in
theorem ggX10_look_X3_lookNext : GoodIn wsX10_look wsX3_lookNext := by
  have h := goodIn_app (goodIn_app (goodIn_app (goodIn_app (goodIn_r (big := wsX10_look) (.code yX3_lookNext cX3_lookNext 7 none :: (wsX3_lookNext_r1 ++ (wsX3_lookNext_r2 ++ (wsX3_lookNext_r3 ++ (wsX3_lookNext_r4 ++ wsX3_lookNext_r5)))) : List Cond) [34, 35, 36, 37, 38, 39, 33, 40, 41, 42, 43, 44, 45, 46, 47, 48, 49, 50, 51, 52, 53, 54, 55, 56, 57, 58, 59, 60, 15, 61, 62, 63, 64, 65, 66, 67, 68, 69, 70, 71, 72, 73, 74, 75, 76, 77, 78, 79, 80, 81, 82, 83, 84, 85, 86, 87, 88, 89, 90, 91, 92, 93, 94, 95, 96, 97, 98, 99, 100, 101, 102, 103, 104, 105, 106, 107, 108, 26, 109, 110, 111, 112, 113, 114, 115, 116, 117, 118, 119, 120, 121, 122, 123, 124, 125, 126, 127, 128, 129, 130, 131, 132, 133] rfl (by decide +kernel)) (goodIn_few (big := wsX10_look) (fun _ h9 => List.mem_cons_of_mem _ (List.mem_append_left _ (List.mem_append_left _ (List.mem_append_left _ (List.mem_append_left _ (List.mem_append_right _ h9)))))) gb_8)) (goodIn_few (big := wsX10_look) (fun _ h9 => List.mem_cons_of_mem _ (List.mem_append_left _ (List.mem_append_left _ (List.mem_append_right _ h9)))) gb_5)) (goodIn_few (big := wsX10_look) (fun _ h9 => List.mem_cons_of_mem _ (List.mem_append_left _ (List.mem_append_left _ (List.mem_append_left _ (List.mem_append_right _ h9))))) gb_2)) (goodIn_few (big := wsX10_look) (fun _ h9 => List.mem_cons_of_mem _ (List.mem_append_left _ (List.mem_append_right _ h9))) gb_1)
  exact h
set_option maxRecDepth 20000 in
theorem gX10_look_X3_lookNext : GoodIn wsX10_look (wsV RX10 407 RX3 yX3_lookNext wsX3_lookNext) := goodIn_app (goodIn_r _ [30, 31, 32, 33] rfl (by decide +kernel)) ggX10_look_X3_lookNext
theorem eX10_look_0q : (decode cX10_look 0 = .ok (.aload_n 0, 1)) ∧ (decode cX10_look 1 = .ok (.iload_n 1, 1)) ∧ (decode cX10_look 2 = .ok (.invokevirtual 200, 3)) ∧ (decode cX10_look 5 = .ok (.aload_n 0, 1)) ∧ (decode cX10_look 6 = .ok (.iload_n 2, 1)) ∧ (decode cX10_look 7 = .ok (.invokevirtual 245, 3)) ∧ (decode cX10_look 10 = .ok (.iload_n 3, 1)) ∧ (decode cX10_look 11 = .ok (.iconst 1, 1)) := by decide +kernel
theorem dX10_look_0 : decode cX10_look 0 = .ok (.aload_n 0, 1) := eX10_look_0q.1
theorem dX10_look_1 : decode cX10_look 1 = .ok (.iload_n 1, 1) := eX10_look_0q.2.1
theorem dX10_look_2 : decode cX10_look 2 = .ok (.invokevirtual 200, 3) := eX10_look_0q.2.2.1
theorem dX10_look_5 : decode cX10_look 5 = .ok (.aload_n 0, 1) := eX10_look_0q.2.2.2.1
theorem dX10_look_6 : decode cX10_look 6 = .ok (.iload_n 2, 1) := eX10_look_0q.2.2.2.2.1
theorem dX10_look_7 : decode cX10_look 7 = .ok (.invokevirtual 245, 3) := eX10_look_0q.2.2.2.2.2.1
theorem dX10_look_10 : decode cX10_look 10 = .ok (.iload_n 3, 1) := eX10_look_0q.2.2.2.2.2.2.1
theorem dX10_look_11 : decode cX10_look 11 = .ok (.iconst 1, 1) := eX10_look_0q.2.2.2.2.2.2.2
theorem eX10_look_12q : (decode cX10_look 12 = .ok (.invokestatic 232, 3)) ∧ (decode cX10_look 15 = .ok (.aload_n 0, 1)) ∧ (decode cX10_look 16 = .ok (.getfield 82, 3)) ∧ (decode cX10_look 19 = .ok (.iload_n 1, 1)) ∧ (decode cX10_look 20 = .ok (.iload_n 2, 1)) ∧ (decode cX10_look 21 = .ok (.invokevirtual 407, 3)) ∧ (decode cX10_look 24 = .ok (.iload_n 3, 1)) ∧ (decode cX10_look 25 = .ok (.ifCond .ne 13, 3)) := by decide +kernel
theorem dX10_look_12 : decode cX10_look 12 = .ok (.invokestatic 232, 3) := eX10_look_12q.1
theorem dX10_look_15 : decode cX10_look 15 = .ok (.aload_n 0, 1) := eX10_look_12q.2.1
theorem dX10_look_16 : decode cX10_look 16 = .ok (.getfield 82, 3) := eX10_look_12q.2.2.1
theorem dX10_look_19 : decode cX10_look 19 = .ok (.iload_n 1, 1) := eX10_look_12q.2.2.2.1
theorem dX10_look_20 : decode cX10_look 20 = .ok (.iload_n 2, 1) := eX10_look_12q.2.2.2.2.1
theorem dX10_look_21 : decode cX10_look 21 = .ok (.invokevirtual 407, 3) := eX10_look_12q.2.2.2.2.2.1
theorem dX10_look_24 : decode cX10_look 24 = .ok (.iload_n 3, 1) := eX10_look_12q.2.2.2.2.2.2.1
theorem dX10_look_25 : decode cX10_look 25 = .ok (.ifCond .ne 13, 3) := eX10_look_12q.2.2.2.2.2.2.2
theorem eX10_look_28q : (decode cX10_look 28 = .ok (.aload_n 0, 1)) ∧ (decode cX10_look 29 = .ok (.getfield 82, 3)) ∧ (decode cX10_look 32 = .ok (.getfield 410, 3)) ∧ (decode cX10_look 35 = .ok (.goto 10, 3)) ∧ (decode cX10_look 38 = .ok (.aload_n 0, 1)) ∧ (decode cX10_look 39 = .ok (.getfield 82, 3)) ∧ (decode cX10_look 42 = .ok (.getfield 413, 3)) ∧ (decode cX10_look 45 = .ok (.ireturn, 1)) := by decide +kernel
theorem dX10_look_28 : decode cX10_look 28 = .ok (.aload_n 0, 1) := eX10_look_28q.1
theorem dX10_look_29 : decode cX10_look 29 = .ok (.getfield 82, 3) := eX10_look_28q.2.1
theorem dX10_look_32 : decode cX10_look 32 = .ok (.getfield 410, 3) := eX10_look_28q.2.2.1
theorem dX10_look_35 : decode cX10_look 35 = .ok (.goto 10, 3) := eX10_look_28q.2.2.2.1
theorem dX10_look_38 : decode cX10_look 38 = .ok (.aload_n 0, 1) := eX10_look_28q.2.2.2.2.1
theorem dX10_look_39 : decode cX10_look 39 = .ok (.getfield 82, 3) := eX10_look_28q.2.2.2.2.2.1
theorem dX10_look_42 : decode cX10_look 42 = .ok (.getfield 413, 3) := eX10_look_28q.2.2.2.2.2.2.1
theorem dX10_look_45 : decode cX10_look 45 = .ok (.ireturn, 1) := eX10_look_28q.2.2.2.2.2.2.2
theorem eX10_forget_0q : (decode cX10_forget 0 = .ok (.aload_n 0, 1)) ∧ (decode cX10_forget 1 = .ok (.getfield 82, 3)) ∧ (decode cX10_forget 4 = .ok (.iconst 0, 1)) ∧ (decode cX10_forget 5 = .ok (.putfield 158, 3)) ∧ (decode cX10_forget 8 = .ok (.return_, 1)) := by decide +kernel
theorem dX10_forget_0 : decode cX10_forget 0 = .ok (.aload_n 0, 1) := eX10_forget_0q.1
theorem dX10_forget_1 : decode cX10_forget 1 = .ok (.getfield 82, 3) := eX10_forget_0q.2.1
theorem dX10_forget_4 : decode cX10_forget 4 = .ok (.iconst 0, 1) := eX10_forget_0q.2.2.1
theorem dX10_forget_5 : decode cX10_forget 5 = .ok (.putfield 158, 3) := eX10_forget_0q.2.2.2.1
theorem dX10_forget_8 : decode cX10_forget 8 = .ok (.return_, 1) := eX10_forget_0q.2.2.2.2
set_option maxRecDepth 20000 in
theorem ggX10_years_X10_mustBeWhat : GoodIn wsX10_years wsX10_mustBeWhat := goodIn_ca (goodIn_r _ [11, 12, 13] rfl (by decide +kernel)) (goodIn_sub (fun _ h => List.mem_cons_of_mem _ (List.mem_append_right _ h)) (by decide +kernel))
set_option maxRecDepth 20000 in
theorem gX10_years_X10_mustBeWhat : GoodIn wsX10_years (va_wsS RX10 232 yX10_mustBeWhat wsX10_mustBeWhat) := goodIn_app (goodIn_r _ [8, 9, 10] rfl (by decide +kernel)) ggX10_years_X10_mustBeWhat
set_option maxRecDepth 20000 in
theorem ggX10_years_X0_copyFrom : GoodIn wsX10_years wsX0_copyFrom := by
  have h := goodIn_app (goodIn_r (big := wsX10_years) (.code yX0_copyFrom cX0_copyFrom 2 none :: ([.fieldLink RX0 9 "PathProber$Condition" "seen" "[J", .methodLink RX0 47 arraycopyName, .native arraycopyName, .static arraycopyName, .initialized "java/lang/System", .fieldLink RX0 15 "PathProber$Condition" "sent" "[I", .fieldLink RX0 19 "PathProber$Condition" "turn" "[I", .fieldLink RX0 22 "PathProber$Condition" "counter" "[I", .fieldLink RX0 25 "PathProber$Condition" "loss" "I", .fieldLink RX0 29 "PathProber$Condition" "opened" "I", .fieldLink RX0 32 "PathProber$Condition" "open" "I", .fieldLink RX0 35 "PathProber$Condition" "deep" "I", .fieldLink RX0 38 "PathProber$Condition" "muted" "I", .fieldLink RX0 41 "PathProber$Condition" "lost" "I"]) : List Cond) [18, 19, 20, 21, 22, 23, 24, 25, 26, 27, 28, 29, 30, 31, 32] rfl (by decide +kernel)) (goodIn_few (big := wsX10_years) (fun _ h9 => List.mem_cons_of_mem _ (List.mem_append_left _ (List.mem_append_left _ (List.mem_append_left _ (List.mem_append_left _ (List.mem_append_left _ (List.mem_append_left _ (List.mem_append_right _ h9)))))))) gb_1)
  exact h
set_option maxRecDepth 20000 in
theorem gX10_years_X0_copyFrom : GoodIn wsX10_years (wsV RX10 418 RX0 yX0_copyFrom wsX0_copyFrom) := goodIn_app (goodIn_r _ [14, 15, 16, 17] rfl (by decide +kernel)) ggX10_years_X0_copyFrom
set_option maxRecDepth 20000 in
theorem ggX10_years_X6_passYear : GoodIn wsX10_years wsX6_passYear := by
  have h := goodIn_app (goodIn_app (goodIn_app (goodIn_app (goodIn_app (goodIn_r (big := wsX10_years) (.code yX6_passYear cX6_passYear 4 (some .int) :: (wsX6_passYear_r1 ++ (wsX6_passYear_r2 ++ (wsX6_passYear_r3 ++ (wsX6_passYear_r4 ++ (wsX6_passYear_r5 ++ (wsX6_passYear_r6 ++ (wsX6_passYear_r7 ++ wsX6_passYear_r8))))))) : List Cond) [37, 38, 39, 40, 41, 42, 36, 43, 44, 45, 46, 47, 48, 49, 50, 51, 52, 53, 17, 54, 28, 29, 30, 55, 56, 57, 58, 59, 60, 61, 62, 63, 64, 65, 66, 67, 68, 69, 70, 71, 72, 19, 73, 74, 75, 76, 77, 78, 79, 80, 81, 82, 83, 84, 85, 86, 87, 88, 89, 90, 91, 92, 93, 94, 95, 96, 97, 98, 99, 100, 101, 102, 103, 104, 105, 106, 107, 108, 109, 110, 111, 112, 113, 114, 115, 116, 24, 117, 118, 119, 120, 121, 122, 123, 124, 125, 126, 127, 128, 129, 130, 131, 132, 133, 134, 135, 136, 137, 138, 139, 140, 141, 142, 143, 144, 145, 146, 147, 148, 149, 150, 151, 152, 153, 154, 155, 156, 157, 158, 159, 160, 161, 162, 163, 164, 165, 166, 167, 168, 169, 170, 171, 172, 173, 174, 175, 176, 177, 178, 179, 180, 181, 182, 183, 184, 185, 186, 187, 188, 189, 190, 191, 192, 193, 194, 195, 196, 197, 198, 199] rfl (by decide +kernel)) (goodIn_few (big := wsX10_years) (fun _ h9 => List.mem_cons_of_mem _ (List.mem_append_left _ (List.mem_append_left _ (List.mem_append_left _ (List.mem_append_left _ (List.mem_append_left _ (List.mem_append_left _ (List.mem_append_left _ (List.mem_append_right _ h9))))))))) gb_6)) (goodIn_few (big := wsX10_years) (fun _ h9 => List.mem_cons_of_mem _ (List.mem_append_left _ (List.mem_append_left _ (List.mem_append_left _ (List.mem_append_left _ (List.mem_append_left _ (List.mem_append_right _ h9))))))) gb_2)) (goodIn_few (big := wsX10_years) (fun _ h9 => List.mem_cons_of_mem _ (List.mem_append_left _ (List.mem_append_left _ (List.mem_append_left _ (List.mem_append_left _ (List.mem_append_left _ (List.mem_append_left _ (List.mem_append_right _ h9)))))))) gb_1)) (goodIn_few (big := wsX10_years) (fun _ h9 => List.mem_cons_of_mem _ (List.mem_append_left _ (List.mem_append_left _ (List.mem_append_left _ (List.mem_append_left _ (List.mem_append_right _ h9)))))) gb_3)) (goodIn_few (big := wsX10_years) (fun _ h9 => List.mem_cons_of_mem _ (List.mem_append_left _ (List.mem_append_left _ (List.mem_append_left _ (List.mem_append_right _ h9))))) gb_5)
  exact h
set_option maxRecDepth 20000 in
theorem gX10_years_X6_passYear : GoodIn wsX10_years (wsV RX10 423 RX6 yX6_passYear wsX6_passYear) := goodIn_app (goodIn_r _ [33, 34, 35, 36] rfl (by decide +kernel)) ggX10_years_X6_passYear
set_option maxRecDepth 20000 in
theorem ggX10_years_X7_edgesInAll : GoodIn wsX10_years wsX7_edgesInAll := by
  have h := goodIn_app (goodIn_app (goodIn_app (goodIn_r (big := wsX10_years) (.code yX7_edgesInAll cX7_edgesInAll 4 (some .int) :: (wsX7_edgesInAll_r1 ++ wsX7_edgesInAll_r2) : List Cond) [204, 205, 206, 207, 208, 209, 203, 210, 211, 212, 213, 214, 215, 216, 217, 218, 219, 17, 220, 19, 73, 221, 75, 76, 77, 78, 79, 80] rfl (by decide +kernel)) (goodIn_few (big := wsX10_years) (fun _ h9 => List.mem_cons_of_mem _ (List.mem_append_left _ (List.mem_append_left _ (List.mem_append_right _ h9)))) gb_7)) (goodIn_few (big := wsX10_years) (fun _ h9 => List.mem_cons_of_mem _ (List.mem_append_left _ (List.mem_append_left _ (List.mem_append_left _ (List.mem_append_left _ (List.mem_append_left _ (List.mem_append_right _ h9))))))) gb_2)) (goodIn_few (big := wsX10_years) (fun _ h9 => List.mem_cons_of_mem _ (List.mem_append_left _ (List.mem_append_left _ (List.mem_append_left _ (List.mem_append_left _ (List.mem_append_left _ (List.mem_append_left _ (List.mem_append_right _ h9)))))))) gb_1)
  exact h
set_option maxRecDepth 20000 in
theorem gX10_years_X7_edgesInAll : GoodIn wsX10_years (wsV RX10 426 RX7 yX7_edgesInAll wsX7_edgesInAll) := goodIn_app (goodIn_r _ [200, 201, 202, 203] rfl (by decide +kernel)) ggX10_years_X7_edgesInAll
set_option maxRecDepth 20000 in
theorem ggX10_years_X0_countersInAll : GoodIn wsX10_years wsX0_countersInAll := by
  have h := goodIn_app (goodIn_r (big := wsX10_years) (.code yX0_countersInAll cX0_countersInAll 3 (some .int) :: ([.fieldLink RX0 22 "PathProber$Condition" "counter" "[I"]) : List Cond) [225, 26] rfl (by decide +kernel)) (goodIn_few (big := wsX10_years) (fun _ h9 => List.mem_cons_of_mem _ (List.mem_append_left _ (List.mem_append_left _ (List.mem_append_left _ (List.mem_append_left _ (List.mem_append_left _ (List.mem_append_left _ (List.mem_append_right _ h9)))))))) gb_1)
  exact h
set_option maxRecDepth 20000 in
theorem gX10_years_X0_countersInAll : GoodIn wsX10_years (wsV RX10 429 RX0 yX0_countersInAll wsX0_countersInAll) := goodIn_app (goodIn_r _ [222, 223, 224, 17] rfl (by decide +kernel)) ggX10_years_X0_countersInAll
theorem eX10_years_0q : (decode cX10_years 0 = .ok (.iload_n 3, 1)) ∧ (decode cX10_years 1 = .ok (.iconst 2, 1)) ∧ (decode cX10_years 2 = .ok (.invokestatic 232, 3)) ∧ (decode cX10_years 5 = .ok (.iload_n 2, 1)) ∧ (decode cX10_years 6 = .ok (.ifCond .lt 9, 3)) ∧ (decode cX10_years 9 = .ok (.iload_n 2, 1)) ∧ (decode cX10_years 10 = .ok (.bipush 40, 2)) ∧ (decode cX10_years 12 = .ok (.if_icmp .le 14, 3)) := by decide +kernel
theorem dX10_years_0 : decode cX10_years 0 = .ok (.iload_n 3, 1) := eX10_years_0q.1
theorem dX10_years_1 : decode cX10_years 1 = .ok (.iconst 2, 1) := eX10_years_0q.2.1
theorem dX10_years_2 : decode cX10_years 2 = .ok (.invokestatic 232, 3) := eX10_years_0q.2.2.1
theorem dX10_years_5 : decode cX10_years 5 = .ok (.iload_n 2, 1) := eX10_years_0q.2.2.2.1
theorem dX10_years_6 : decode cX10_years 6 = .ok (.ifCond .lt 9, 3) := eX10_years_0q.2.2.2.2.1
theorem dX10_years_9 : decode cX10_years 9 = .ok (.iload_n 2, 1) := eX10_years_0q.2.2.2.2.2.1
theorem dX10_years_10 : decode cX10_years 10 = .ok (.bipush 40, 2) := eX10_years_0q.2.2.2.2.2.2.1
theorem dX10_years_12 : decode cX10_years 12 = .ok (.if_icmp .le 14, 3) := eX10_years_0q.2.2.2.2.2.2.2
theorem eX10_years_15q : (decode cX10_years 15 = .ok (.new 128, 3)) ∧ (decode cX10_years 18 = .ok (.dup, 1)) ∧ (decode cX10_years 19 = .ok (.ldc_w 416, 3)) ∧ (decode cX10_years 22 = .ok (.invokespecial 132, 3)) ∧ (decode cX10_years 25 = .ok (.athrow, 1)) ∧ (decode cX10_years 26 = .ok (.aload_n 0, 1)) ∧ (decode cX10_years 27 = .ok (.getfield 42, 3)) ∧ (decode cX10_years 30 = .ok (.aload_n 0, 1)) := by decide +kernel
theorem dX10_years_15 : decode cX10_years 15 = .ok (.new 128, 3) := eX10_years_15q.1
theorem dX10_years_18 : decode cX10_years 18 = .ok (.dup, 1) := eX10_years_15q.2.1
theorem dX10_years_19 : decode cX10_years 19 = .ok (.ldc_w 416, 3) := eX10_years_15q.2.2.1
theorem dX10_years_22 : decode cX10_years 22 = .ok (.invokespecial 132, 3) := eX10_years_15q.2.2.2.1
theorem dX10_years_25 : decode cX10_years 25 = .ok (.athrow, 1) := eX10_years_15q.2.2.2.2.1
theorem dX10_years_26 : decode cX10_years 26 = .ok (.aload_n 0, 1) := eX10_years_15q.2.2.2.2.2.1
theorem dX10_years_27 : decode cX10_years 27 = .ok (.getfield 42, 3) := eX10_years_15q.2.2.2.2.2.2.1
theorem dX10_years_30 : decode cX10_years 30 = .ok (.aload_n 0, 1) := eX10_years_15q.2.2.2.2.2.2.2
theorem eX10_years_31q : (decode cX10_years 31 = .ok (.getfield 38, 3)) ∧ (decode cX10_years 34 = .ok (.invokevirtual 418, 3)) ∧ (decode cX10_years 37 = .ok (.aload_n 0, 1)) ∧ (decode cX10_years 38 = .ok (.getfield 73, 3)) ∧ (decode cX10_years 41 = .ok (.iload_n 1, 1)) ∧ (decode cX10_years 42 = .ok (.putfield 420, 3)) ∧ (decode cX10_years 45 = .ok (.iconst 0, 1)) ∧ (decode cX10_years 46 = .ok (.istore 4, 2)) := by decide +kernel
theorem dX10_years_31 : decode cX10_years 31 = .ok (.getfield 38, 3) := eX10_years_31q.1
theorem dX10_years_34 : decode cX10_years 34 = .ok (.invokevirtual 418, 3) := eX10_years_31q.2.1
theorem dX10_years_37 : decode cX10_years 37 = .ok (.aload_n 0, 1) := eX10_years_31q.2.2.1
theorem dX10_years_38 : decode cX10_years 38 = .ok (.getfield 73, 3) := eX10_years_31q.2.2.2.1
theorem dX10_years_41 : decode cX10_years 41 = .ok (.iload_n 1, 1) := eX10_years_31q.2.2.2.2.1
theorem dX10_years_42 : decode cX10_years 42 = .ok (.putfield 420, 3) := eX10_years_31q.2.2.2.2.2.1
theorem dX10_years_45 : decode cX10_years 45 = .ok (.iconst 0, 1) := eX10_years_31q.2.2.2.2.2.2.1
theorem dX10_years_46 : decode cX10_years 46 = .ok (.istore 4, 2) := eX10_years_31q.2.2.2.2.2.2.2
theorem eX10_years_48q : (decode cX10_years 48 = .ok (.iconst 0, 1)) ∧ (decode cX10_years 49 = .ok (.istore 5, 2)) ∧ (decode cX10_years 51 = .ok (.iload 5, 2)) ∧ (decode cX10_years 53 = .ok (.iload_n 2, 1)) ∧ (decode cX10_years 54 = .ok (.if_icmp .ge 21, 3)) ∧ (decode cX10_years 57 = .ok (.iload 4, 2)) ∧ (decode cX10_years 59 = .ok (.aload_n 0, 1)) ∧ (decode cX10_years 60 = .ok (.getfield 73, 3)) := by decide +kernel
theorem dX10_years_48 : decode cX10_years 48 = .ok (.iconst 0, 1) := eX10_years_48q.1
theorem dX10_years_49 : decode cX10_years 49 = .ok (.istore 5, 2) := eX10_years_48q.2.1
theorem dX10_years_51 : decode cX10_years 51 = .ok (.iload 5, 2) := eX10_years_48q.2.2.1
theorem dX10_years_53 : decode cX10_years 53 = .ok (.iload_n 2, 1) := eX10_years_48q.2.2.2.1
theorem dX10_years_54 : decode cX10_years 54 = .ok (.if_icmp .ge 21, 3) := eX10_years_48q.2.2.2.2.1
theorem dX10_years_57 : decode cX10_years 57 = .ok (.iload 4, 2) := eX10_years_48q.2.2.2.2.2.1
theorem dX10_years_59 : decode cX10_years 59 = .ok (.aload_n 0, 1) := eX10_years_48q.2.2.2.2.2.2.1
theorem dX10_years_60 : decode cX10_years 60 = .ok (.getfield 73, 3) := eX10_years_48q.2.2.2.2.2.2.2
theorem eX10_years_63q : (decode cX10_years 63 = .ok (.invokevirtual 423, 3)) ∧ (decode cX10_years 66 = .ok (.iadd, 1)) ∧ (decode cX10_years 67 = .ok (.istore 4, 2)) ∧ (decode cX10_years 69 = .ok (.iinc 5 1, 3)) ∧ (decode cX10_years 72 = .ok (.goto (-21), 3)) ∧ (decode cX10_years 75 = .ok (.iload 4, 2)) ∧ (decode cX10_years 77 = .ok (.istore 5, 2)) ∧ (decode cX10_years 79 = .ok (.iload_n 3, 1)) := by decide +kernel
theorem dX10_years_63 : decode cX10_years 63 = .ok (.invokevirtual 423, 3) := eX10_years_63q.1
theorem dX10_years_66 : decode cX10_years 66 = .ok (.iadd, 1) := eX10_years_63q.2.1
theorem dX10_years_67 : decode cX10_years 67 = .ok (.istore 4, 2) := eX10_years_63q.2.2.1
theorem dX10_years_69 : decode cX10_years 69 = .ok (.iinc 5 1, 3) := eX10_years_63q.2.2.2.1
theorem dX10_years_72 : decode cX10_years 72 = .ok (.goto (-21), 3) := eX10_years_63q.2.2.2.2.1
theorem dX10_years_75 : decode cX10_years 75 = .ok (.iload 4, 2) := eX10_years_63q.2.2.2.2.2.1
theorem dX10_years_77 : decode cX10_years 77 = .ok (.istore 5, 2) := eX10_years_63q.2.2.2.2.2.2.1
theorem dX10_years_79 : decode cX10_years 79 = .ok (.iload_n 3, 1) := eX10_years_63q.2.2.2.2.2.2.2
theorem eX10_years_80q : (decode cX10_years 80 = .ok (.ifCond .ne 15, 3)) ∧ (decode cX10_years 83 = .ok (.aload_n 0, 1)) ∧ (decode cX10_years 84 = .ok (.getfield 57, 3)) ∧ (decode cX10_years 87 = .ok (.invokevirtual 426, 3)) ∧ (decode cX10_years 90 = .ok (.istore 5, 2)) ∧ (decode cX10_years 92 = .ok (.goto 17, 3)) ∧ (decode cX10_years 95 = .ok (.iload_n 3, 1)) ∧ (decode cX10_years 96 = .ok (.iconst 2, 1)) := by decide +kernel
theorem dX10_years_80 : decode cX10_years 80 = .ok (.ifCond .ne 15, 3) := eX10_years_80q.1
theorem dX10_years_83 : decode cX10_years 83 = .ok (.aload_n 0, 1) := eX10_years_80q.2.1
theorem dX10_years_84 : decode cX10_years 84 = .ok (.getfield 57, 3) := eX10_years_80q.2.2.1
theorem dX10_years_87 : decode cX10_years 87 = .ok (.invokevirtual 426, 3) := eX10_years_80q.2.2.2.1
theorem dX10_years_90 : decode cX10_years 90 = .ok (.istore 5, 2) := eX10_years_80q.2.2.2.2.1
theorem dX10_years_92 : decode cX10_years 92 = .ok (.goto 17, 3) := eX10_years_80q.2.2.2.2.2.1
theorem dX10_years_95 : decode cX10_years 95 = .ok (.iload_n 3, 1) := eX10_years_80q.2.2.2.2.2.2.1
theorem dX10_years_96 : decode cX10_years 96 = .ok (.iconst 2, 1) := eX10_years_80q.2.2.2.2.2.2.2
theorem eX10_years_97q : (decode cX10_years 97 = .ok (.if_icmp .ne 12, 3)) ∧ (decode cX10_years 100 = .ok (.aload_n 0, 1)) ∧ (decode cX10_years 101 = .ok (.getfield 38, 3)) ∧ (decode cX10_years 104 = .ok (.invokevirtual 429, 3)) ∧ (decode cX10_years 107 = .ok (.istore 5, 2)) ∧ (decode cX10_years 109 = .ok (.aload_n 0, 1)) ∧ (decode cX10_years 110 = .ok (.getfield 38, 3)) ∧ (decode cX10_years 113 = .ok (.aload_n 0, 1)) := by decide +kernel
theorem dX10_years_97 : decode cX10_years 97 = .ok (.if_icmp .ne 12, 3) := eX10_years_97q.1
theorem dX10_years_100 : decode cX10_years 100 = .ok (.aload_n 0, 1) := eX10_years_97q.2.1
theorem dX10_years_101 : decode cX10_years 101 = .ok (.getfield 38, 3) := eX10_years_97q.2.2.1
theorem dX10_years_104 : decode cX10_years 104 = .ok (.invokevirtual 429, 3) := eX10_years_97q.2.2.2.1
theorem dX10_years_107 : decode cX10_years 107 = .ok (.istore 5, 2) := eX10_years_97q.2.2.2.2.1
theorem dX10_years_109 : decode cX10_years 109 = .ok (.aload_n 0, 1) := eX10_years_97q.2.2.2.2.2.1
theorem dX10_years_110 : decode cX10_years 110 = .ok (.getfield 38, 3) := eX10_years_97q.2.2.2.2.2.2.1
theorem dX10_years_113 : decode cX10_years 113 = .ok (.aload_n 0, 1) := eX10_years_97q.2.2.2.2.2.2.2
theorem eX10_years_114q : (decode cX10_years 114 = .ok (.getfield 42, 3)) ∧ (decode cX10_years 117 = .ok (.invokevirtual 418, 3)) ∧ (decode cX10_years 120 = .ok (.iload 5, 2)) ∧ (decode cX10_years 122 = .ok (.ireturn, 1)) := by decide +kernel
theorem dX10_years_114 : decode cX10_years 114 = .ok (.getfield 42, 3) := eX10_years_114q.1
theorem dX10_years_117 : decode cX10_years 117 = .ok (.invokevirtual 418, 3) := eX10_years_114q.2.1
theorem dX10_years_120 : decode cX10_years 120 = .ok (.iload 5, 2) := eX10_years_114q.2.2.1
theorem dX10_years_122 : decode cX10_years 122 = .ok (.ireturn, 1) := eX10_years_114q.2.2.2
