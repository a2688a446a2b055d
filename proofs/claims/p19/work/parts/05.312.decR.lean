theorem eX11_thrown_0q : (decode cX11_thrown 0 = .ok (.aload_n 0, 1)) ∧ (decode cX11_thrown 1 = .ok (.getfield 142, 3)) ∧ (decode cX11_thrown 4 = .ok (.ireturn, 1)) := by decide +kernel
theorem dX11_thrown_0 : decode cX11_thrown 0 = .ok (.aload_n 0, 1) := eX11_thrown_0q.1
theorem dX11_thrown_1 : decode cX11_thrown 1 = .ok (.getfield 142, 3) := eX11_thrown_0q.2.1
theorem dX11_thrown_4 : decode cX11_thrown 4 = .ok (.ireturn, 1) := eX11_thrown_0q.2.2
theorem eX11_fail_0q : (decode cX11_fail 0 = .ok (.aload_n 0, 1)) ∧ (decode cX11_fail 1 = .ok (.iload_n 1, 1)) ∧ (decode cX11_fail 2 = .ok (.putfield 142, 3)) ∧ (decode cX11_fail 5 = .ok (.iconst 0, 1)) ∧ (decode cX11_fail 6 = .ok (.ireturn, 1)) := by decide +kernel
theorem dX11_fail_0 : decode cX11_fail 0 = .ok (.aload_n 0, 1) := eX11_fail_0q.1
theorem dX11_fail_1 : decode cX11_fail 1 = .ok (.iload_n 1, 1) := eX11_fail_0q.2.1
theorem dX11_fail_2 : decode cX11_fail 2 = .ok (.putfield 142, 3) := eX11_fail_0q.2.2.1
theorem dX11_fail_5 : decode cX11_fail 5 = .ok (.iconst 0, 1) := eX11_fail_0q.2.2.2.1
theorem dX11_fail_6 : decode cX11_fail 6 = .ok (.ireturn, 1) := eX11_fail_0q.2.2.2.2
theorem eX11_isIn_0q : (decode cX11_isIn 0 = .ok (.iload_n 0, 1)) ∧ (decode cX11_isIn 1 = .ok (.iload_n 1, 1)) ∧ (decode cX11_isIn 2 = .ok (.if_icmp .lt 12, 3)) ∧ (decode cX11_isIn 5 = .ok (.iload_n 0, 1)) ∧ (decode cX11_isIn 6 = .ok (.iload_n 2, 1)) ∧ (decode cX11_isIn 7 = .ok (.if_icmp .gt 7, 3)) ∧ (decode cX11_isIn 10 = .ok (.iconst 1, 1)) ∧ (decode cX11_isIn 11 = .ok (.goto 4, 3)) := by decide +kernel
theorem dX11_isIn_0 : decode cX11_isIn 0 = .ok (.iload_n 0, 1) := eX11_isIn_0q.1
theorem dX11_isIn_1 : decode cX11_isIn 1 = .ok (.iload_n 1, 1) := eX11_isIn_0q.2.1
theorem dX11_isIn_2 : decode cX11_isIn 2 = .ok (.if_icmp .lt 12, 3) := eX11_isIn_0q.2.2.1
theorem dX11_isIn_5 : decode cX11_isIn 5 = .ok (.iload_n 0, 1) := eX11_isIn_0q.2.2.2.1
theorem dX11_isIn_6 : decode cX11_isIn 6 = .ok (.iload_n 2, 1) := eX11_isIn_0q.2.2.2.2.1
theorem dX11_isIn_7 : decode cX11_isIn 7 = .ok (.if_icmp .gt 7, 3) := eX11_isIn_0q.2.2.2.2.2.1
theorem dX11_isIn_10 : decode cX11_isIn 10 = .ok (.iconst 1, 1) := eX11_isIn_0q.2.2.2.2.2.2.1
theorem dX11_isIn_11 : decode cX11_isIn 11 = .ok (.goto 4, 3) := eX11_isIn_0q.2.2.2.2.2.2.2
theorem dX11_isIn_14 : decode cX11_isIn 14 = .ok (.iconst 0, 1) := by decide +kernel
theorem dX11_isIn_15 : decode cX11_isIn 15 = .ok (.ireturn, 1) := by decide +kernel
theorem eX11_isLetter_0q : (decode cX11_isLetter 0 = .ok (.iload_n 0, 1)) ∧ (decode cX11_isLetter 1 = .ok (.bipush 97, 2)) ∧ (decode cX11_isLetter 3 = .ok (.if_icmp .lt 13, 3)) ∧ (decode cX11_isLetter 6 = .ok (.iload_n 0, 1)) ∧ (decode cX11_isLetter 7 = .ok (.bipush 122, 2)) ∧ (decode cX11_isLetter 9 = .ok (.if_icmp .gt 7, 3)) ∧ (decode cX11_isLetter 12 = .ok (.iconst 1, 1)) ∧ (decode cX11_isLetter 13 = .ok (.goto 4, 3)) := by decide +kernel
theorem dX11_isLetter_0 : decode cX11_isLetter 0 = .ok (.iload_n 0, 1) := eX11_isLetter_0q.1
theorem dX11_isLetter_1 : decode cX11_isLetter 1 = .ok (.bipush 97, 2) := eX11_isLetter_0q.2.1
theorem dX11_isLetter_3 : decode cX11_isLetter 3 = .ok (.if_icmp .lt 13, 3) := eX11_isLetter_0q.2.2.1
theorem dX11_isLetter_6 : decode cX11_isLetter 6 = .ok (.iload_n 0, 1) := eX11_isLetter_0q.2.2.2.1
theorem dX11_isLetter_7 : decode cX11_isLetter 7 = .ok (.bipush 122, 2) := eX11_isLetter_0q.2.2.2.2.1
theorem dX11_isLetter_9 : decode cX11_isLetter 9 = .ok (.if_icmp .gt 7, 3) := eX11_isLetter_0q.2.2.2.2.2.1
theorem dX11_isLetter_12 : decode cX11_isLetter 12 = .ok (.iconst 1, 1) := eX11_isLetter_0q.2.2.2.2.2.2.1
theorem dX11_isLetter_13 : decode cX11_isLetter 13 = .ok (.goto 4, 3) := eX11_isLetter_0q.2.2.2.2.2.2.2
theorem dX11_isLetter_16 : decode cX11_isLetter 16 = .ok (.iconst 0, 1) := by decide +kernel
theorem dX11_isLetter_17 : decode cX11_isLetter 17 = .ok (.ireturn, 1) := by decide +kernel
theorem eX11_isDigit_0q : (decode cX11_isDigit 0 = .ok (.iload_n 0, 1)) ∧ (decode cX11_isDigit 1 = .ok (.bipush 48, 2)) ∧ (decode cX11_isDigit 3 = .ok (.if_icmp .lt 13, 3)) ∧ (decode cX11_isDigit 6 = .ok (.iload_n 0, 1)) ∧ (decode cX11_isDigit 7 = .ok (.bipush 57, 2)) ∧ (decode cX11_isDigit 9 = .ok (.if_icmp .gt 7, 3)) ∧ (decode cX11_isDigit 12 = .ok (.iconst 1, 1)) ∧ (decode cX11_isDigit 13 = .ok (.goto 4, 3)) := by decide +kernel
theorem dX11_isDigit_0 : decode cX11_isDigit 0 = .ok (.iload_n 0, 1) := eX11_isDigit_0q.1
theorem dX11_isDigit_1 : decode cX11_isDigit 1 = .ok (.bipush 48, 2) := eX11_isDigit_0q.2.1
theorem dX11_isDigit_3 : decode cX11_isDigit 3 = .ok (.if_icmp .lt 13, 3) := eX11_isDigit_0q.2.2.1
theorem dX11_isDigit_6 : decode cX11_isDigit 6 = .ok (.iload_n 0, 1) := eX11_isDigit_0q.2.2.2.1
theorem dX11_isDigit_7 : decode cX11_isDigit 7 = .ok (.bipush 57, 2) := eX11_isDigit_0q.2.2.2.2.1
theorem dX11_isDigit_9 : decode cX11_isDigit 9 = .ok (.if_icmp .gt 7, 3) := eX11_isDigit_0q.2.2.2.2.2.1
theorem dX11_isDigit_12 : decode cX11_isDigit 12 = .ok (.iconst 1, 1) := eX11_isDigit_0q.2.2.2.2.2.2.1
theorem dX11_isDigit_13 : decode cX11_isDigit 13 = .ok (.goto 4, 3) := eX11_isDigit_0q.2.2.2.2.2.2.2
theorem dX11_isDigit_16 : decode cX11_isDigit 16 = .ok (.iconst 0, 1) := by decide +kernel
theorem dX11_isDigit_17 : decode cX11_isDigit 17 = .ok (.ireturn, 1) := by decide +kernel
theorem eX11_wrong_0q : (decode cX11_wrong 0 = .ok (.aload_n 0, 1)) ∧ (decode cX11_wrong 1 = .ok (.getfield 184, 3)) ∧ (decode cX11_wrong 4 = .ok (.ifCond .eq 4, 3)) ∧ (decode cX11_wrong 7 = .ok (.return_, 1)) ∧ (decode cX11_wrong 8 = .ok (.aload_n 0, 1)) ∧ (decode cX11_wrong 9 = .ok (.iload_n 1, 1)) ∧ (decode cX11_wrong 10 = .ok (.putfield 184, 3)) ∧ (decode cX11_wrong 13 = .ok (.aload_n 0, 1)) := by decide +kernel
theorem dX11_wrong_0 : decode cX11_wrong 0 = .ok (.aload_n 0, 1) := eX11_wrong_0q.1
theorem dX11_wrong_1 : decode cX11_wrong 1 = .ok (.getfield 184, 3) := eX11_wrong_0q.2.1
theorem dX11_wrong_4 : decode cX11_wrong 4 = .ok (.ifCond .eq 4, 3) := eX11_wrong_0q.2.2.1
theorem dX11_wrong_7 : decode cX11_wrong 7 = .ok (.return_, 1) := eX11_wrong_0q.2.2.2.1
theorem dX11_wrong_8 : decode cX11_wrong 8 = .ok (.aload_n 0, 1) := eX11_wrong_0q.2.2.2.2.1
theorem dX11_wrong_9 : decode cX11_wrong 9 = .ok (.iload_n 1, 1) := eX11_wrong_0q.2.2.2.2.2.1
theorem dX11_wrong_10 : decode cX11_wrong 10 = .ok (.putfield 184, 3) := eX11_wrong_0q.2.2.2.2.2.2.1
theorem dX11_wrong_13 : decode cX11_wrong 13 = .ok (.aload_n 0, 1) := eX11_wrong_0q.2.2.2.2.2.2.2
theorem eX11_wrong_14q : (decode cX11_wrong 14 = .ok (.aload_n 0, 1)) ∧ (decode cX11_wrong 15 = .ok (.getfield 158, 3)) ∧ (decode cX11_wrong 18 = .ok (.putfield 187, 3)) ∧ (decode cX11_wrong 21 = .ok (.return_, 1)) := by decide +kernel
theorem dX11_wrong_14 : decode cX11_wrong 14 = .ok (.aload_n 0, 1) := eX11_wrong_14q.1
theorem dX11_wrong_15 : decode cX11_wrong 15 = .ok (.getfield 158, 3) := eX11_wrong_14q.2.1
theorem dX11_wrong_18 : decode cX11_wrong 18 = .ok (.putfield 187, 3) := eX11_wrong_14q.2.2.1
theorem dX11_wrong_21 : decode cX11_wrong 21 = .ok (.return_, 1) := eX11_wrong_14q.2.2.2
theorem eX11_linksFrom_0q : (decode cX11_linksFrom 0 = .ok (.iconst 0, 1)) ∧ (decode cX11_linksFrom 1 = .ok (.istore_n 2, 1)) ∧ (decode cX11_linksFrom 2 = .ok (.iconst 0, 1)) ∧ (decode cX11_linksFrom 3 = .ok (.istore_n 3, 1)) ∧ (decode cX11_linksFrom 4 = .ok (.iload_n 3, 1)) ∧ (decode cX11_linksFrom 5 = .ok (.aload_n 0, 1)) ∧ (decode cX11_linksFrom 6 = .ok (.getfield 34, 3)) ∧ (decode cX11_linksFrom 9 = .ok (.iconst 5, 1)) := by decide +kernel
theorem dX11_linksFrom_0 : decode cX11_linksFrom 0 = .ok (.iconst 0, 1) := eX11_linksFrom_0q.1
theorem dX11_linksFrom_1 : decode cX11_linksFrom 1 = .ok (.istore_n 2, 1) := eX11_linksFrom_0q.2.1
theorem dX11_linksFrom_2 : decode cX11_linksFrom 2 = .ok (.iconst 0, 1) := eX11_linksFrom_0q.2.2.1
theorem dX11_linksFrom_3 : decode cX11_linksFrom 3 = .ok (.istore_n 3, 1) := eX11_linksFrom_0q.2.2.2.1
theorem dX11_linksFrom_4 : decode cX11_linksFrom 4 = .ok (.iload_n 3, 1) := eX11_linksFrom_0q.2.2.2.2.1
theorem dX11_linksFrom_5 : decode cX11_linksFrom 5 = .ok (.aload_n 0, 1) := eX11_linksFrom_0q.2.2.2.2.2.1
theorem dX11_linksFrom_6 : decode cX11_linksFrom 6 = .ok (.getfield 34, 3) := eX11_linksFrom_0q.2.2.2.2.2.2.1
theorem dX11_linksFrom_9 : decode cX11_linksFrom 9 = .ok (.iconst 5, 1) := eX11_linksFrom_0q.2.2.2.2.2.2.2
theorem eX11_linksFrom_10q : (decode cX11_linksFrom 10 = .ok (.iaload, 1)) ∧ (decode cX11_linksFrom 11 = .ok (.if_icmp .ge 30, 3)) ∧ (decode cX11_linksFrom 14 = .ok (.iload_n 2, 1)) ∧ (decode cX11_linksFrom 15 = .ok (.aload_n 0, 1)) ∧ (decode cX11_linksFrom 16 = .ok (.getfield 53, 3)) ∧ (decode cX11_linksFrom 19 = .ok (.bipush 20, 2)) ∧ (decode cX11_linksFrom 21 = .ok (.iload_n 3, 1)) ∧ (decode cX11_linksFrom 22 = .ok (.iadd, 1)) := by decide +kernel
theorem dX11_linksFrom_10 : decode cX11_linksFrom 10 = .ok (.iaload, 1) := eX11_linksFrom_10q.1
theorem dX11_linksFrom_11 : decode cX11_linksFrom 11 = .ok (.if_icmp .ge 30, 3) := eX11_linksFrom_10q.2.1
theorem dX11_linksFrom_14 : decode cX11_linksFrom 14 = .ok (.iload_n 2, 1) := eX11_linksFrom_10q.2.2.1
theorem dX11_linksFrom_15 : decode cX11_linksFrom 15 = .ok (.aload_n 0, 1) := eX11_linksFrom_10q.2.2.2.1
theorem dX11_linksFrom_16 : decode cX11_linksFrom 16 = .ok (.getfield 53, 3) := eX11_linksFrom_10q.2.2.2.2.1
theorem dX11_linksFrom_19 : decode cX11_linksFrom 19 = .ok (.bipush 20, 2) := eX11_linksFrom_10q.2.2.2.2.2.1
theorem dX11_linksFrom_21 : decode cX11_linksFrom 21 = .ok (.iload_n 3, 1) := eX11_linksFrom_10q.2.2.2.2.2.2.1
theorem dX11_linksFrom_22 : decode cX11_linksFrom 22 = .ok (.iadd, 1) := eX11_linksFrom_10q.2.2.2.2.2.2.2
theorem eX11_linksFrom_23q : (decode cX11_linksFrom 23 = .ok (.iaload, 1)) ∧ (decode cX11_linksFrom 24 = .ok (.iload_n 1, 1)) ∧ (decode cX11_linksFrom 25 = .ok (.if_icmp .ne 7, 3)) ∧ (decode cX11_linksFrom 28 = .ok (.iconst 1, 1)) ∧ (decode cX11_linksFrom 29 = .ok (.goto 4, 3)) ∧ (decode cX11_linksFrom 32 = .ok (.iconst 0, 1)) ∧ (decode cX11_linksFrom 33 = .ok (.iadd, 1)) ∧ (decode cX11_linksFrom 34 = .ok (.istore_n 2, 1)) := by decide +kernel
theorem dX11_linksFrom_23 : decode cX11_linksFrom 23 = .ok (.iaload, 1) := eX11_linksFrom_23q.1
theorem dX11_linksFrom_24 : decode cX11_linksFrom 24 = .ok (.iload_n 1, 1) := eX11_linksFrom_23q.2.1
theorem dX11_linksFrom_25 : decode cX11_linksFrom 25 = .ok (.if_icmp .ne 7, 3) := eX11_linksFrom_23q.2.2.1
theorem dX11_linksFrom_28 : decode cX11_linksFrom 28 = .ok (.iconst 1, 1) := eX11_linksFrom_23q.2.2.2.1
theorem dX11_linksFrom_29 : decode cX11_linksFrom 29 = .ok (.goto 4, 3) := eX11_linksFrom_23q.2.2.2.2.1
theorem dX11_linksFrom_32 : decode cX11_linksFrom 32 = .ok (.iconst 0, 1) := eX11_linksFrom_23q.2.2.2.2.2.1
theorem dX11_linksFrom_33 : decode cX11_linksFrom 33 = .ok (.iadd, 1) := eX11_linksFrom_23q.2.2.2.2.2.2.1
theorem dX11_linksFrom_34 : decode cX11_linksFrom 34 = .ok (.istore_n 2, 1) := eX11_linksFrom_23q.2.2.2.2.2.2.2
theorem eX11_linksFrom_35q : (decode cX11_linksFrom 35 = .ok (.iinc 3 1, 3)) ∧ (decode cX11_linksFrom 38 = .ok (.goto (-34), 3)) ∧ (decode cX11_linksFrom 41 = .ok (.iload_n 2, 1)) ∧ (decode cX11_linksFrom 42 = .ok (.ireturn, 1)) := by decide +kernel
theorem dX11_linksFrom_35 : decode cX11_linksFrom 35 = .ok (.iinc 3 1, 3) := eX11_linksFrom_35q.1
theorem dX11_linksFrom_38 : decode cX11_linksFrom 38 = .ok (.goto (-34), 3) := eX11_linksFrom_35q.2.1
theorem dX11_linksFrom_41 : decode cX11_linksFrom 41 = .ok (.iload_n 2, 1) := eX11_linksFrom_35q.2.2.1
theorem dX11_linksFrom_42 : decode cX11_linksFrom 42 = .ok (.ireturn, 1) := eX11_linksFrom_35q.2.2.2
theorem eX11_hasLink_0q : (decode cX11_hasLink 0 = .ok (.iconst 0, 1)) ∧ (decode cX11_hasLink 1 = .ok (.istore_n 3, 1)) ∧ (decode cX11_hasLink 2 = .ok (.iconst 0, 1)) ∧ (decode cX11_hasLink 3 = .ok (.istore 4, 2)) ∧ (decode cX11_hasLink 5 = .ok (.iload 4, 2)) ∧ (decode cX11_hasLink 7 = .ok (.aload_n 0, 1)) ∧ (decode cX11_hasLink 8 = .ok (.getfield 34, 3)) ∧ (decode cX11_hasLink 11 = .ok (.iconst 5, 1)) := by decide +kernel
theorem dX11_hasLink_0 : decode cX11_hasLink 0 = .ok (.iconst 0, 1) := eX11_hasLink_0q.1
theorem dX11_hasLink_1 : decode cX11_hasLink 1 = .ok (.istore_n 3, 1) := eX11_hasLink_0q.2.1
theorem dX11_hasLink_2 : decode cX11_hasLink 2 = .ok (.iconst 0, 1) := eX11_hasLink_0q.2.2.1
theorem dX11_hasLink_3 : decode cX11_hasLink 3 = .ok (.istore 4, 2) := eX11_hasLink_0q.2.2.2.1
theorem dX11_hasLink_5 : decode cX11_hasLink 5 = .ok (.iload 4, 2) := eX11_hasLink_0q.2.2.2.2.1
theorem dX11_hasLink_7 : decode cX11_hasLink 7 = .ok (.aload_n 0, 1) := eX11_hasLink_0q.2.2.2.2.2.1
theorem dX11_hasLink_8 : decode cX11_hasLink 8 = .ok (.getfield 34, 3) := eX11_hasLink_0q.2.2.2.2.2.2.1
theorem dX11_hasLink_11 : decode cX11_hasLink 11 = .ok (.iconst 5, 1) := eX11_hasLink_0q.2.2.2.2.2.2.2
theorem eX11_hasLink_12q : (decode cX11_hasLink 12 = .ok (.iaload, 1)) ∧ (decode cX11_hasLink 13 = .ok (.if_icmp .ge 47, 3)) ∧ (decode cX11_hasLink 16 = .ok (.iload_n 3, 1)) ∧ (decode cX11_hasLink 17 = .ok (.ifCond .ne 31, 3)) ∧ (decode cX11_hasLink 20 = .ok (.aload_n 0, 1)) ∧ (decode cX11_hasLink 21 = .ok (.getfield 53, 3)) ∧ (decode cX11_hasLink 24 = .ok (.bipush 20, 2)) ∧ (decode cX11_hasLink 26 = .ok (.iload 4, 2)) := by decide +kernel
theorem dX11_hasLink_12 : decode cX11_hasLink 12 = .ok (.iaload, 1) := eX11_hasLink_12q.1
theorem dX11_hasLink_13 : decode cX11_hasLink 13 = .ok (.if_icmp .ge 47, 3) := eX11_hasLink_12q.2.1
theorem dX11_hasLink_16 : decode cX11_hasLink 16 = .ok (.iload_n 3, 1) := eX11_hasLink_12q.2.2.1
theorem dX11_hasLink_17 : decode cX11_hasLink 17 = .ok (.ifCond .ne 31, 3) := eX11_hasLink_12q.2.2.2.1
theorem dX11_hasLink_20 : decode cX11_hasLink 20 = .ok (.aload_n 0, 1) := eX11_hasLink_12q.2.2.2.2.1
theorem dX11_hasLink_21 : decode cX11_hasLink 21 = .ok (.getfield 53, 3) := eX11_hasLink_12q.2.2.2.2.2.1
theorem dX11_hasLink_24 : decode cX11_hasLink 24 = .ok (.bipush 20, 2) := eX11_hasLink_12q.2.2.2.2.2.2.1
theorem dX11_hasLink_26 : decode cX11_hasLink 26 = .ok (.iload 4, 2) := eX11_hasLink_12q.2.2.2.2.2.2.2
theorem eX11_hasLink_28q : (decode cX11_hasLink 28 = .ok (.iadd, 1)) ∧ (decode cX11_hasLink 29 = .ok (.iaload, 1)) ∧ (decode cX11_hasLink 30 = .ok (.iload_n 1, 1)) ∧ (decode cX11_hasLink 31 = .ok (.if_icmp .ne 21, 3)) ∧ (decode cX11_hasLink 34 = .ok (.aload_n 0, 1)) ∧ (decode cX11_hasLink 35 = .ok (.getfield 56, 3)) ∧ (decode cX11_hasLink 38 = .ok (.bipush 20, 2)) ∧ (decode cX11_hasLink 40 = .ok (.iload 4, 2)) := by decide +kernel
theorem dX11_hasLink_28 : decode cX11_hasLink 28 = .ok (.iadd, 1) := eX11_hasLink_28q.1
theorem dX11_hasLink_29 : decode cX11_hasLink 29 = .ok (.iaload, 1) := eX11_hasLink_28q.2.1
theorem dX11_hasLink_30 : decode cX11_hasLink 30 = .ok (.iload_n 1, 1) := eX11_hasLink_28q.2.2.1
theorem dX11_hasLink_31 : decode cX11_hasLink 31 = .ok (.if_icmp .ne 21, 3) := eX11_hasLink_28q.2.2.2.1
theorem dX11_hasLink_34 : decode cX11_hasLink 34 = .ok (.aload_n 0, 1) := eX11_hasLink_28q.2.2.2.2.1
theorem dX11_hasLink_35 : decode cX11_hasLink 35 = .ok (.getfield 56, 3) := eX11_hasLink_28q.2.2.2.2.2.1
theorem dX11_hasLink_38 : decode cX11_hasLink 38 = .ok (.bipush 20, 2) := eX11_hasLink_28q.2.2.2.2.2.2.1
theorem dX11_hasLink_40 : decode cX11_hasLink 40 = .ok (.iload 4, 2) := eX11_hasLink_28q.2.2.2.2.2.2.2
theorem eX11_hasLink_42q : (decode cX11_hasLink 42 = .ok (.iadd, 1)) ∧ (decode cX11_hasLink 43 = .ok (.iaload, 1)) ∧ (decode cX11_hasLink 44 = .ok (.iload_n 2, 1)) ∧ (decode cX11_hasLink 45 = .ok (.if_icmp .ne 7, 3)) ∧ (decode cX11_hasLink 48 = .ok (.iconst 1, 1)) ∧ (decode cX11_hasLink 49 = .ok (.goto 4, 3)) ∧ (decode cX11_hasLink 52 = .ok (.iconst 0, 1)) ∧ (decode cX11_hasLink 53 = .ok (.istore_n 3, 1)) := by decide +kernel
theorem dX11_hasLink_42 : decode cX11_hasLink 42 = .ok (.iadd, 1) := eX11_hasLink_42q.1
theorem dX11_hasLink_43 : decode cX11_hasLink 43 = .ok (.iaload, 1) := eX11_hasLink_42q.2.1
theorem dX11_hasLink_44 : decode cX11_hasLink 44 = .ok (.iload_n 2, 1) := eX11_hasLink_42q.2.2.1
theorem dX11_hasLink_45 : decode cX11_hasLink 45 = .ok (.if_icmp .ne 7, 3) := eX11_hasLink_42q.2.2.2.1
theorem dX11_hasLink_48 : decode cX11_hasLink 48 = .ok (.iconst 1, 1) := eX11_hasLink_42q.2.2.2.2.1
theorem dX11_hasLink_49 : decode cX11_hasLink 49 = .ok (.goto 4, 3) := eX11_hasLink_42q.2.2.2.2.2.1
theorem dX11_hasLink_52 : decode cX11_hasLink 52 = .ok (.iconst 0, 1) := eX11_hasLink_42q.2.2.2.2.2.2.1
theorem dX11_hasLink_53 : decode cX11_hasLink 53 = .ok (.istore_n 3, 1) := eX11_hasLink_42q.2.2.2.2.2.2.2
theorem eX11_hasLink_54q : (decode cX11_hasLink 54 = .ok (.iinc 4 1, 3)) ∧ (decode cX11_hasLink 57 = .ok (.goto (-52), 3)) ∧ (decode cX11_hasLink 60 = .ok (.iload_n 3, 1)) ∧ (decode cX11_hasLink 61 = .ok (.ireturn, 1)) := by decide +kernel
theorem dX11_hasLink_54 : decode cX11_hasLink 54 = .ok (.iinc 4 1, 3) := eX11_hasLink_54q.1
theorem dX11_hasLink_57 : decode cX11_hasLink 57 = .ok (.goto (-52), 3) := eX11_hasLink_54q.2.1
theorem dX11_hasLink_60 : decode cX11_hasLink 60 = .ok (.iload_n 3, 1) := eX11_hasLink_54q.2.2.1
theorem dX11_hasLink_61 : decode cX11_hasLink 61 = .ok (.ireturn, 1) := eX11_hasLink_54q.2.2.2
theorem eX11_fault_0q : (decode cX11_fault 0 = .ok (.aload_n 0, 1)) ∧ (decode cX11_fault 1 = .ok (.iconst 0, 1)) ∧ (decode cX11_fault 2 = .ok (.putfield 142, 3)) ∧ (decode cX11_fault 5 = .ok (.aload_n 0, 1)) ∧ (decode cX11_fault 6 = .ok (.getfield 69, 3)) ∧ (decode cX11_fault 9 = .ok (.ireturn, 1)) := by decide +kernel
theorem dX11_fault_0 : decode cX11_fault 0 = .ok (.aload_n 0, 1) := eX11_fault_0q.1
theorem dX11_fault_1 : decode cX11_fault 1 = .ok (.iconst 0, 1) := eX11_fault_0q.2.1
theorem dX11_fault_2 : decode cX11_fault 2 = .ok (.putfield 142, 3) := eX11_fault_0q.2.2.1
theorem dX11_fault_5 : decode cX11_fault 5 = .ok (.aload_n 0, 1) := eX11_fault_0q.2.2.2.1
theorem dX11_fault_6 : decode cX11_fault 6 = .ok (.getfield 69, 3) := eX11_fault_0q.2.2.2.2.1
theorem dX11_fault_9 : decode cX11_fault 9 = .ok (.ireturn, 1) := eX11_fault_0q.2.2.2.2.2
theorem eX11_routers_0q : (decode cX11_routers 0 = .ok (.aload_n 0, 1)) ∧ (decode cX11_routers 1 = .ok (.getfield 34, 3)) ∧ (decode cX11_routers 4 = .ok (.iconst 0, 1)) ∧ (decode cX11_routers 5 = .ok (.iaload, 1)) ∧ (decode cX11_routers 6 = .ok (.ireturn, 1)) := by decide +kernel
theorem dX11_routers_0 : decode cX11_routers 0 = .ok (.aload_n 0, 1) := eX11_routers_0q.1
theorem dX11_routers_1 : decode cX11_routers 1 = .ok (.getfield 34, 3) := eX11_routers_0q.2.1
theorem dX11_routers_4 : decode cX11_routers 4 = .ok (.iconst 0, 1) := eX11_routers_0q.2.2.1
theorem dX11_routers_5 : decode cX11_routers 5 = .ok (.iaload, 1) := eX11_routers_0q.2.2.2.1
theorem dX11_routers_6 : decode cX11_routers 6 = .ok (.ireturn, 1) := eX11_routers_0q.2.2.2.2
theorem eX11_links_0q : (decode cX11_links 0 = .ok (.aload_n 0, 1)) ∧ (decode cX11_links 1 = .ok (.getfield 34, 3)) ∧ (decode cX11_links 4 = .ok (.iconst 1, 1)) ∧ (decode cX11_links 5 = .ok (.iaload, 1)) ∧ (decode cX11_links 6 = .ok (.ireturn, 1)) := by decide +kernel
theorem dX11_links_0 : decode cX11_links 0 = .ok (.aload_n 0, 1) := eX11_links_0q.1
theorem dX11_links_1 : decode cX11_links 1 = .ok (.getfield 34, 3) := eX11_links_0q.2.1
theorem dX11_links_4 : decode cX11_links 4 = .ok (.iconst 1, 1) := eX11_links_0q.2.2.1
theorem dX11_links_5 : decode cX11_links 5 = .ok (.iaload, 1) := eX11_links_0q.2.2.2.1
theorem dX11_links_6 : decode cX11_links 6 = .ok (.ireturn, 1) := eX11_links_0q.2.2.2.2
theorem eX11_goals_0q : (decode cX11_goals 0 = .ok (.aload_n 0, 1)) ∧ (decode cX11_goals 1 = .ok (.getfield 34, 3)) ∧ (decode cX11_goals 4 = .ok (.iconst 2, 1)) ∧ (decode cX11_goals 5 = .ok (.iaload, 1)) ∧ (decode cX11_goals 6 = .ok (.ireturn, 1)) := by decide +kernel
theorem dX11_goals_0 : decode cX11_goals 0 = .ok (.aload_n 0, 1) := eX11_goals_0q.1
theorem dX11_goals_1 : decode cX11_goals 1 = .ok (.getfield 34, 3) := eX11_goals_0q.2.1
theorem dX11_goals_4 : decode cX11_goals 4 = .ok (.iconst 2, 1) := eX11_goals_0q.2.2.1
theorem dX11_goals_5 : decode cX11_goals 5 = .ok (.iaload, 1) := eX11_goals_0q.2.2.2.1
theorem dX11_goals_6 : decode cX11_goals 6 = .ok (.ireturn, 1) := eX11_goals_0q.2.2.2.2
theorem eX11_isBranch_0q : (decode cX11_isBranch 0 = .ok (.aload_n 0, 1)) ∧ (decode cX11_isBranch 1 = .ok (.getfield 53, 3)) ∧ (decode cX11_isBranch 4 = .ok (.iload_n 1, 1)) ∧ (decode cX11_isBranch 5 = .ok (.iaload, 1)) ∧ (decode cX11_isBranch 6 = .ok (.iload_n 2, 1)) ∧ (decode cX11_isBranch 7 = .ok (.if_icmp .ne 26, 3)) ∧ (decode cX11_isBranch 10 = .ok (.aload_n 0, 1)) ∧ (decode cX11_isBranch 11 = .ok (.getfield 73, 3)) := by decide +kernel
theorem dX11_isBranch_0 : decode cX11_isBranch 0 = .ok (.aload_n 0, 1) := eX11_isBranch_0q.1
theorem dX11_isBranch_1 : decode cX11_isBranch 1 = .ok (.getfield 53, 3) := eX11_isBranch_0q.2.1
theorem dX11_isBranch_4 : decode cX11_isBranch 4 = .ok (.iload_n 1, 1) := eX11_isBranch_0q.2.2.1
theorem dX11_isBranch_5 : decode cX11_isBranch 5 = .ok (.iaload, 1) := eX11_isBranch_0q.2.2.2.1
theorem dX11_isBranch_6 : decode cX11_isBranch 6 = .ok (.iload_n 2, 1) := eX11_isBranch_0q.2.2.2.2.1
theorem dX11_isBranch_7 : decode cX11_isBranch 7 = .ok (.if_icmp .ne 26, 3) := eX11_isBranch_0q.2.2.2.2.2.1
theorem dX11_isBranch_10 : decode cX11_isBranch 10 = .ok (.aload_n 0, 1) := eX11_isBranch_0q.2.2.2.2.2.2.1
theorem dX11_isBranch_11 : decode cX11_isBranch 11 = .ok (.getfield 73, 3) := eX11_isBranch_0q.2.2.2.2.2.2.2
theorem eX11_isBranch_14q : (decode cX11_isBranch 14 = .ok (.iload_n 3, 1)) ∧ (decode cX11_isBranch 15 = .ok (.iaload, 1)) ∧ (decode cX11_isBranch 16 = .ok (.aload_n 0, 1)) ∧ (decode cX11_isBranch 17 = .ok (.getfield 56, 3)) ∧ (decode cX11_isBranch 20 = .ok (.iload_n 1, 1)) ∧ (decode cX11_isBranch 21 = .ok (.iaload, 1)) ∧ (decode cX11_isBranch 22 = .ok (.ishr, 1)) ∧ (decode cX11_isBranch 23 = .ok (.iconst 1, 1)) := by decide +kernel
theorem dX11_isBranch_14 : decode cX11_isBranch 14 = .ok (.iload_n 3, 1) := eX11_isBranch_14q.1
theorem dX11_isBranch_15 : decode cX11_isBranch 15 = .ok (.iaload, 1) := eX11_isBranch_14q.2.1
theorem dX11_isBranch_16 : decode cX11_isBranch 16 = .ok (.aload_n 0, 1) := eX11_isBranch_14q.2.2.1
theorem dX11_isBranch_17 : decode cX11_isBranch 17 = .ok (.getfield 56, 3) := eX11_isBranch_14q.2.2.2.1
theorem dX11_isBranch_20 : decode cX11_isBranch 20 = .ok (.iload_n 1, 1) := eX11_isBranch_14q.2.2.2.2.1
theorem dX11_isBranch_21 : decode cX11_isBranch 21 = .ok (.iaload, 1) := eX11_isBranch_14q.2.2.2.2.2.1
theorem dX11_isBranch_22 : decode cX11_isBranch 22 = .ok (.ishr, 1) := eX11_isBranch_14q.2.2.2.2.2.2.1
theorem dX11_isBranch_23 : decode cX11_isBranch 23 = .ok (.iconst 1, 1) := eX11_isBranch_14q.2.2.2.2.2.2.2
theorem eX11_isBranch_24q : (decode cX11_isBranch 24 = .ok (.iand, 1)) ∧ (decode cX11_isBranch 25 = .ok (.iconst 1, 1)) ∧ (decode cX11_isBranch 26 = .ok (.if_icmp .ne 7, 3)) ∧ (decode cX11_isBranch 29 = .ok (.iconst 1, 1)) ∧ (decode cX11_isBranch 30 = .ok (.goto 4, 3)) ∧ (decode cX11_isBranch 33 = .ok (.iconst 0, 1)) ∧ (decode cX11_isBranch 34 = .ok (.ireturn, 1)) := by decide +kernel
theorem dX11_isBranch_24 : decode cX11_isBranch 24 = .ok (.iand, 1) := eX11_isBranch_24q.1
theorem dX11_isBranch_25 : decode cX11_isBranch 25 = .ok (.iconst 1, 1) := eX11_isBranch_24q.2.1
theorem dX11_isBranch_26 : decode cX11_isBranch 26 = .ok (.if_icmp .ne 7, 3) := eX11_isBranch_24q.2.2.1
theorem dX11_isBranch_29 : decode cX11_isBranch 29 = .ok (.iconst 1, 1) := eX11_isBranch_24q.2.2.2.1
theorem dX11_isBranch_30 : decode cX11_isBranch 30 = .ok (.goto 4, 3) := eX11_isBranch_24q.2.2.2.2.1
theorem dX11_isBranch_33 : decode cX11_isBranch 33 = .ok (.iconst 0, 1) := eX11_isBranch_24q.2.2.2.2.2.1
theorem dX11_isBranch_34 : decode cX11_isBranch 34 = .ok (.ireturn, 1) := eX11_isBranch_24q.2.2.2.2.2.2
set_option maxRecDepth 20000 in
theorem ggX11_branches_X11_links : GoodIn wsX11_branches wsX11_links := by
  have h := goodIn_app (goodIn_r (big := wsX11_branches) (.code yX11_links cX11_links 1 (some .int) :: ([.fieldLink RX11 34 "PathProberModel" "told" "[I"]) : List Cond) [5, 6] rfl (by decide +kernel)) (goodIn_few (big := wsX11_branches) (fun _ h9 => List.mem_cons_of_mem _ (List.mem_append_right _ h9)) gb_0)
  exact h
set_option maxRecDepth 20000 in
theorem gX11_branches_X11_links : GoodIn wsX11_branches (wsV RX11 266 RX11 yX11_links wsX11_links) := goodIn_app (goodIn_r _ [1, 2, 3, 4] rfl (by decide +kernel)) ggX11_branches_X11_links
set_option maxRecDepth 20000 in
theorem ggX11_branches_X11_isBranch : GoodIn wsX11_branches wsX11_isBranch := by
  have h := goodIn_app (goodIn_r (big := wsX11_branches) (.code yX11_isBranch cX11_isBranch 4 (some .boolean) :: ([.fieldLink RX11 53 "PathProberModel" "from" "[I", .fieldLink RX11 73 "PathProberModel" "reach" "[I", .fieldLink RX11 56 "PathProberModel" "to" "[I"]) : List Cond) [10, 11, 12, 13] rfl (by decide +kernel)) (goodIn_few (big := wsX11_branches) (fun _ h9 => List.mem_cons_of_mem _ (List.mem_append_right _ h9)) gb_0)
  exact h
set_option maxRecDepth 20000 in
theorem gX11_branches_X11_isBranch : GoodIn wsX11_branches (wsV RX11 269 RX11 yX11_isBranch wsX11_isBranch) := goodIn_app (goodIn_r _ [7, 8, 9, 4] rfl (by decide +kernel)) ggX11_branches_X11_isBranch
theorem eX11_branches_0q : (decode cX11_branches 0 = .ok (.iconst 0, 1)) ∧ (decode cX11_branches 1 = .ok (.istore_n 3, 1)) ∧ (decode cX11_branches 2 = .ok (.iconst 0, 1)) ∧ (decode cX11_branches 3 = .ok (.istore 4, 2)) ∧ (decode cX11_branches 5 = .ok (.iload 4, 2)) ∧ (decode cX11_branches 7 = .ok (.aload_n 0, 1)) ∧ (decode cX11_branches 8 = .ok (.invokevirtual 266, 3)) ∧ (decode cX11_branches 11 = .ok (.if_icmp .ge 28, 3)) := by decide +kernel
theorem dX11_branches_0 : decode cX11_branches 0 = .ok (.iconst 0, 1) := eX11_branches_0q.1
theorem dX11_branches_1 : decode cX11_branches 1 = .ok (.istore_n 3, 1) := eX11_branches_0q.2.1
theorem dX11_branches_2 : decode cX11_branches 2 = .ok (.iconst 0, 1) := eX11_branches_0q.2.2.1
theorem dX11_branches_3 : decode cX11_branches 3 = .ok (.istore 4, 2) := eX11_branches_0q.2.2.2.1
theorem dX11_branches_5 : decode cX11_branches 5 = .ok (.iload 4, 2) := eX11_branches_0q.2.2.2.2.1
theorem dX11_branches_7 : decode cX11_branches 7 = .ok (.aload_n 0, 1) := eX11_branches_0q.2.2.2.2.2.1
theorem dX11_branches_8 : decode cX11_branches 8 = .ok (.invokevirtual 266, 3) := eX11_branches_0q.2.2.2.2.2.2.1
theorem dX11_branches_11 : decode cX11_branches 11 = .ok (.if_icmp .ge 28, 3) := eX11_branches_0q.2.2.2.2.2.2.2
theorem eX11_branches_14q : (decode cX11_branches 14 = .ok (.iload_n 3, 1)) ∧ (decode cX11_branches 15 = .ok (.aload_n 0, 1)) ∧ (decode cX11_branches 16 = .ok (.iload 4, 2)) ∧ (decode cX11_branches 18 = .ok (.iload_n 1, 1)) ∧ (decode cX11_branches 19 = .ok (.iload_n 2, 1)) ∧ (decode cX11_branches 20 = .ok (.invokevirtual 269, 3)) ∧ (decode cX11_branches 23 = .ok (.ifCond .eq 7, 3)) ∧ (decode cX11_branches 26 = .ok (.iconst 1, 1)) := by decide +kernel
theorem dX11_branches_14 : decode cX11_branches 14 = .ok (.iload_n 3, 1) := eX11_branches_14q.1
theorem dX11_branches_15 : decode cX11_branches 15 = .ok (.aload_n 0, 1) := eX11_branches_14q.2.1
theorem dX11_branches_16 : decode cX11_branches 16 = .ok (.iload 4, 2) := eX11_branches_14q.2.2.1
theorem dX11_branches_18 : decode cX11_branches 18 = .ok (.iload_n 1, 1) := eX11_branches_14q.2.2.2.1
theorem dX11_branches_19 : decode cX11_branches 19 = .ok (.iload_n 2, 1) := eX11_branches_14q.2.2.2.2.1
theorem dX11_branches_20 : decode cX11_branches 20 = .ok (.invokevirtual 269, 3) := eX11_branches_14q.2.2.2.2.2.1
theorem dX11_branches_23 : decode cX11_branches 23 = .ok (.ifCond .eq 7, 3) := eX11_branches_14q.2.2.2.2.2.2.1
theorem dX11_branches_26 : decode cX11_branches 26 = .ok (.iconst 1, 1) := eX11_branches_14q.2.2.2.2.2.2.2
theorem eX11_branches_27q : (decode cX11_branches 27 = .ok (.goto 4, 3)) ∧ (decode cX11_branches 30 = .ok (.iconst 0, 1)) ∧ (decode cX11_branches 31 = .ok (.iadd, 1)) ∧ (decode cX11_branches 32 = .ok (.istore_n 3, 1)) ∧ (decode cX11_branches 33 = .ok (.iinc 4 1, 3)) ∧ (decode cX11_branches 36 = .ok (.goto (-31), 3)) ∧ (decode cX11_branches 39 = .ok (.iload_n 3, 1)) ∧ (decode cX11_branches 40 = .ok (.ireturn, 1)) := by decide +kernel
theorem dX11_branches_27 : decode cX11_branches 27 = .ok (.goto 4, 3) := eX11_branches_27q.1
theorem dX11_branches_30 : decode cX11_branches 30 = .ok (.iconst 0, 1) := eX11_branches_27q.2.1
theorem dX11_branches_31 : decode cX11_branches 31 = .ok (.iadd, 1) := eX11_branches_27q.2.2.1
theorem dX11_branches_32 : decode cX11_branches 32 = .ok (.istore_n 3, 1) := eX11_branches_27q.2.2.2.1
theorem dX11_branches_33 : decode cX11_branches 33 = .ok (.iinc 4 1, 3) := eX11_branches_27q.2.2.2.2.1
theorem dX11_branches_36 : decode cX11_branches 36 = .ok (.goto (-31), 3) := eX11_branches_27q.2.2.2.2.2.1
theorem dX11_branches_39 : decode cX11_branches 39 = .ok (.iload_n 3, 1) := eX11_branches_27q.2.2.2.2.2.2.1
theorem dX11_branches_40 : decode cX11_branches 40 = .ok (.ireturn, 1) := eX11_branches_27q.2.2.2.2.2.2.2
set_option maxRecDepth 20000 in
theorem ggX11_branchAt_X11_links : GoodIn wsX11_branchAt wsX11_links := by
  have h := goodIn_app (goodIn_r (big := wsX11_branchAt) (.code yX11_links cX11_links 1 (some .int) :: ([.fieldLink RX11 34 "PathProberModel" "told" "[I"]) : List Cond) [5, 6] rfl (by decide +kernel)) (goodIn_few (big := wsX11_branchAt) (fun _ h9 => List.mem_cons_of_mem _ (List.mem_append_right _ h9)) gb_0)
  exact h
set_option maxRecDepth 20000 in
theorem gX11_branchAt_X11_links : GoodIn wsX11_branchAt (wsV RX11 266 RX11 yX11_links wsX11_links) := goodIn_app (goodIn_r _ [1, 2, 3, 4] rfl (by decide +kernel)) ggX11_branchAt_X11_links
set_option maxRecDepth 20000 in
theorem ggX11_branchAt_X11_isBranch : GoodIn wsX11_branchAt wsX11_isBranch := by
  have h := goodIn_app (goodIn_r (big := wsX11_branchAt) (.code yX11_isBranch cX11_isBranch 4 (some .boolean) :: ([.fieldLink RX11 53 "PathProberModel" "from" "[I", .fieldLink RX11 73 "PathProberModel" "reach" "[I", .fieldLink RX11 56 "PathProberModel" "to" "[I"]) : List Cond) [10, 11, 12, 13] rfl (by decide +kernel)) (goodIn_few (big := wsX11_branchAt) (fun _ h9 => List.mem_cons_of_mem _ (List.mem_append_right _ h9)) gb_0)
  exact h
set_option maxRecDepth 20000 in
theorem gX11_branchAt_X11_isBranch : GoodIn wsX11_branchAt (wsV RX11 269 RX11 yX11_isBranch wsX11_isBranch) := goodIn_app (goodIn_r _ [7, 8, 9, 4] rfl (by decide +kernel)) ggX11_branchAt_X11_isBranch
theorem eX11_branchAt_0q : (decode cX11_branchAt 0 = .ok (.iload_n 3, 1)) ∧ (decode cX11_branchAt 1 = .ok (.istore 4, 2)) ∧ (decode cX11_branchAt 3 = .ok (.iconst 0, 1)) ∧ (decode cX11_branchAt 4 = .ok (.istore 5, 2)) ∧ (decode cX11_branchAt 6 = .ok (.iload 5, 2)) ∧ (decode cX11_branchAt 8 = .ok (.aload_n 0, 1)) ∧ (decode cX11_branchAt 9 = .ok (.invokevirtual 266, 3)) ∧ (decode cX11_branchAt 12 = .ok (.if_icmp .ge 34, 3)) := by decide +kernel
theorem dX11_branchAt_0 : decode cX11_branchAt 0 = .ok (.iload_n 3, 1) := eX11_branchAt_0q.1
theorem dX11_branchAt_1 : decode cX11_branchAt 1 = .ok (.istore 4, 2) := eX11_branchAt_0q.2.1
theorem dX11_branchAt_3 : decode cX11_branchAt 3 = .ok (.iconst 0, 1) := eX11_branchAt_0q.2.2.1
theorem dX11_branchAt_4 : decode cX11_branchAt 4 = .ok (.istore 5, 2) := eX11_branchAt_0q.2.2.2.1
theorem dX11_branchAt_6 : decode cX11_branchAt 6 = .ok (.iload 5, 2) := eX11_branchAt_0q.2.2.2.2.1
theorem dX11_branchAt_8 : decode cX11_branchAt 8 = .ok (.aload_n 0, 1) := eX11_branchAt_0q.2.2.2.2.2.1
theorem dX11_branchAt_9 : decode cX11_branchAt 9 = .ok (.invokevirtual 266, 3) := eX11_branchAt_0q.2.2.2.2.2.2.1
theorem dX11_branchAt_12 : decode cX11_branchAt 12 = .ok (.if_icmp .ge 34, 3) := eX11_branchAt_0q.2.2.2.2.2.2.2
theorem eX11_branchAt_15q : (decode cX11_branchAt 15 = .ok (.aload_n 0, 1)) ∧ (decode cX11_branchAt 16 = .ok (.iload 5, 2)) ∧ (decode cX11_branchAt 18 = .ok (.iload_n 1, 1)) ∧ (decode cX11_branchAt 19 = .ok (.iload_n 2, 1)) ∧ (decode cX11_branchAt 20 = .ok (.invokevirtual 269, 3)) ∧ (decode cX11_branchAt 23 = .ok (.ifCond .ne 6, 3)) ∧ (decode cX11_branchAt 26 = .ok (.goto 14, 3)) ∧ (decode cX11_branchAt 29 = .ok (.iload 4, 2)) := by decide +kernel
theorem dX11_branchAt_15 : decode cX11_branchAt 15 = .ok (.aload_n 0, 1) := eX11_branchAt_15q.1
theorem dX11_branchAt_16 : decode cX11_branchAt 16 = .ok (.iload 5, 2) := eX11_branchAt_15q.2.1
theorem dX11_branchAt_18 : decode cX11_branchAt 18 = .ok (.iload_n 1, 1) := eX11_branchAt_15q.2.2.1
theorem dX11_branchAt_19 : decode cX11_branchAt 19 = .ok (.iload_n 2, 1) := eX11_branchAt_15q.2.2.2.1
theorem dX11_branchAt_20 : decode cX11_branchAt 20 = .ok (.invokevirtual 269, 3) := eX11_branchAt_15q.2.2.2.2.1
theorem dX11_branchAt_23 : decode cX11_branchAt 23 = .ok (.ifCond .ne 6, 3) := eX11_branchAt_15q.2.2.2.2.2.1
theorem dX11_branchAt_26 : decode cX11_branchAt 26 = .ok (.goto 14, 3) := eX11_branchAt_15q.2.2.2.2.2.2.1
theorem dX11_branchAt_29 : decode cX11_branchAt 29 = .ok (.iload 4, 2) := eX11_branchAt_15q.2.2.2.2.2.2.2
theorem eX11_branchAt_31q : (decode cX11_branchAt 31 = .ok (.ifCond .ne 6, 3)) ∧ (decode cX11_branchAt 34 = .ok (.iload 5, 2)) ∧ (decode cX11_branchAt 36 = .ok (.ireturn, 1)) ∧ (decode cX11_branchAt 37 = .ok (.iinc 4 (-1), 3)) ∧ (decode cX11_branchAt 40 = .ok (.iinc 5 1, 3)) ∧ (decode cX11_branchAt 43 = .ok (.goto (-37), 3)) ∧ (decode cX11_branchAt 46 = .ok (.iconst (-1), 1)) ∧ (decode cX11_branchAt 47 = .ok (.ireturn, 1)) := by decide +kernel
theorem dX11_branchAt_31 : decode cX11_branchAt 31 = .ok (.ifCond .ne 6, 3) := eX11_branchAt_31q.1
theorem dX11_branchAt_34 : decode cX11_branchAt 34 = .ok (.iload 5, 2) := eX11_branchAt_31q.2.1
theorem dX11_branchAt_36 : decode cX11_branchAt 36 = .ok (.ireturn, 1) := eX11_branchAt_31q.2.2.1
theorem dX11_branchAt_37 : decode cX11_branchAt 37 = .ok (.iinc 4 (-1), 3) := eX11_branchAt_31q.2.2.2.1
theorem dX11_branchAt_40 : decode cX11_branchAt 40 = .ok (.iinc 5 1, 3) := eX11_branchAt_31q.2.2.2.2.1
theorem dX11_branchAt_43 : decode cX11_branchAt 43 = .ok (.goto (-37), 3) := eX11_branchAt_31q.2.2.2.2.2.1
theorem dX11_branchAt_46 : decode cX11_branchAt 46 = .ok (.iconst (-1), 1) := eX11_branchAt_31q.2.2.2.2.2.2.1
theorem dX11_branchAt_47 : decode cX11_branchAt 47 = .ok (.ireturn, 1) := eX11_branchAt_31q.2.2.2.2.2.2.2
set_option maxRecDepth 20000 in
theorem ggX11_goesBy_X11_branches : GoodIn wsX11_goesBy wsX11_branches := by
  have h := goodIn_app (goodIn_r (big := wsX11_goesBy) (.code yX11_branches cX11_branches 5 (some .int) :: ([.methodLink RX11 266 yX11_links, .instanceMethod yX11_links, .selects RX11 yX11_links yX11_links, .initialized RX11, .code yX11_links cX11_links 1 (some .int), .fieldLink RX11 34 "PathProberModel" "told" "[I", .methodLink RX11 269 yX11_isBranch, .instanceMethod yX11_isBranch, .selects RX11 yX11_isBranch yX11_isBranch, .code yX11_isBranch cX11_isBranch 4 (some .boolean), .fieldLink RX11 53 "PathProberModel" "from" "[I", .fieldLink RX11 73 "PathProberModel" "reach" "[I", .fieldLink RX11 56 "PathProberModel" "to" "[I"]) : List Cond) [13, 14, 15, 16, 12, 17, 18, 19, 20, 21, 22, 23, 24, 25] rfl (by decide +kernel)) (goodIn_few (big := wsX11_goesBy) (fun _ h9 => List.mem_cons_of_mem _ (List.mem_append_right _ h9)) gb_0)
  exact h
set_option maxRecDepth 20000 in
theorem gX11_goesBy_X11_branches : GoodIn wsX11_goesBy (wsV RX11 273 RX11 yX11_branches wsX11_branches) := goodIn_app (goodIn_r _ [9, 10, 11, 12] rfl (by decide +kernel)) ggX11_goesBy_X11_branches
set_option maxRecDepth 20000 in
theorem ggX11_goesBy_X11_branchAt : GoodIn wsX11_goesBy wsX11_branchAt := by
  have h := goodIn_app (goodIn_r (big := wsX11_goesBy) (.code yX11_branchAt cX11_branchAt 6 (some .int) :: ([.methodLink RX11 266 yX11_links, .instanceMethod yX11_links, .selects RX11 yX11_links yX11_links, .initialized RX11, .code yX11_links cX11_links 1 (some .int), .fieldLink RX11 34 "PathProberModel" "told" "[I", .methodLink RX11 269 yX11_isBranch, .instanceMethod yX11_isBranch, .selects RX11 yX11_isBranch yX11_isBranch, .code yX11_isBranch cX11_isBranch 4 (some .boolean), .fieldLink RX11 53 "PathProberModel" "from" "[I", .fieldLink RX11 73 "PathProberModel" "reach" "[I", .fieldLink RX11 56 "PathProberModel" "to" "[I"]) : List Cond) [29, 14, 15, 16, 12, 17, 18, 19, 20, 21, 22, 23, 24, 25] rfl (by decide +kernel)) (goodIn_few (big := wsX11_goesBy) (fun _ h9 => List.mem_cons_of_mem _ (List.mem_append_right _ h9)) gb_0)
  exact h
set_option maxRecDepth 20000 in
theorem gX11_goesBy_X11_branchAt : GoodIn wsX11_goesBy (wsV RX11 285 RX11 yX11_branchAt wsX11_branchAt) := goodIn_app (goodIn_r _ [26, 27, 28, 12] rfl (by decide +kernel)) ggX11_goesBy_X11_branchAt
theorem eX11_goesBy_0q : (decode cX11_goesBy 0 = .ok (.aload_n 0, 1)) ∧ (decode cX11_goesBy 1 = .ok (.getfield 58, 3)) ∧ (decode cX11_goesBy 4 = .ok (.iload_n 3, 1)) ∧ (decode cX11_goesBy 5 = .ok (.iaload, 1)) ∧ (decode cX11_goesBy 6 = .ok (.istore 4, 2)) ∧ (decode cX11_goesBy 8 = .ok (.aload_n 0, 1)) ∧ (decode cX11_goesBy 9 = .ok (.iload_n 1, 1)) ∧ (decode cX11_goesBy 10 = .ok (.iload 4, 2)) := by decide +kernel
theorem dX11_goesBy_0 : decode cX11_goesBy 0 = .ok (.aload_n 0, 1) := eX11_goesBy_0q.1
theorem dX11_goesBy_1 : decode cX11_goesBy 1 = .ok (.getfield 58, 3) := eX11_goesBy_0q.2.1
theorem dX11_goesBy_4 : decode cX11_goesBy 4 = .ok (.iload_n 3, 1) := eX11_goesBy_0q.2.2.1
theorem dX11_goesBy_5 : decode cX11_goesBy 5 = .ok (.iaload, 1) := eX11_goesBy_0q.2.2.2.1
theorem dX11_goesBy_6 : decode cX11_goesBy 6 = .ok (.istore 4, 2) := eX11_goesBy_0q.2.2.2.2.1
theorem dX11_goesBy_8 : decode cX11_goesBy 8 = .ok (.aload_n 0, 1) := eX11_goesBy_0q.2.2.2.2.2.1
theorem dX11_goesBy_9 : decode cX11_goesBy 9 = .ok (.iload_n 1, 1) := eX11_goesBy_0q.2.2.2.2.2.2.1
theorem dX11_goesBy_10 : decode cX11_goesBy 10 = .ok (.iload 4, 2) := eX11_goesBy_0q.2.2.2.2.2.2.2
theorem eX11_goesBy_12q : (decode cX11_goesBy 12 = .ok (.invokevirtual 273, 3)) ∧ (decode cX11_goesBy 15 = .ok (.istore 5, 2)) ∧ (decode cX11_goesBy 17 = .ok (.iload 5, 2)) ∧ (decode cX11_goesBy 19 = .ok (.ifCond .ne 5, 3)) ∧ (decode cX11_goesBy 22 = .ok (.iconst (-1), 1)) ∧ (decode cX11_goesBy 23 = .ok (.ireturn, 1)) ∧ (decode cX11_goesBy 24 = .ok (.iload_n 1, 1)) ∧ (decode cX11_goesBy 25 = .ok (.aload_n 0, 1)) := by decide +kernel
theorem dX11_goesBy_12 : decode cX11_goesBy 12 = .ok (.invokevirtual 273, 3) := eX11_goesBy_12q.1
theorem dX11_goesBy_15 : decode cX11_goesBy 15 = .ok (.istore 5, 2) := eX11_goesBy_12q.2.1
theorem dX11_goesBy_17 : decode cX11_goesBy 17 = .ok (.iload 5, 2) := eX11_goesBy_12q.2.2.1
theorem dX11_goesBy_19 : decode cX11_goesBy 19 = .ok (.ifCond .ne 5, 3) := eX11_goesBy_12q.2.2.2.1
theorem dX11_goesBy_22 : decode cX11_goesBy 22 = .ok (.iconst (-1), 1) := eX11_goesBy_12q.2.2.2.2.1
theorem dX11_goesBy_23 : decode cX11_goesBy 23 = .ok (.ireturn, 1) := eX11_goesBy_12q.2.2.2.2.2.1
theorem dX11_goesBy_24 : decode cX11_goesBy 24 = .ok (.iload_n 1, 1) := eX11_goesBy_12q.2.2.2.2.2.2.1
theorem dX11_goesBy_25 : decode cX11_goesBy 25 = .ok (.aload_n 0, 1) := eX11_goesBy_12q.2.2.2.2.2.2.2
theorem eX11_goesBy_26q : (decode cX11_goesBy 26 = .ok (.getfield 76, 3)) ∧ (decode cX11_goesBy 29 = .ok (.if_icmp .ne 10, 3)) ∧ (decode cX11_goesBy 32 = .ok (.aload_n 0, 1)) ∧ (decode cX11_goesBy 33 = .ok (.getfield 276, 3)) ∧ (decode cX11_goesBy 36 = .ok (.goto 9, 3)) ∧ (decode cX11_goesBy 39 = .ok (.aload_n 0, 1)) ∧ (decode cX11_goesBy 40 = .ok (.getfield 38, 3)) ∧ (decode cX11_goesBy 43 = .ok (.iload_n 1, 1)) := by decide +kernel
theorem dX11_goesBy_26 : decode cX11_goesBy 26 = .ok (.getfield 76, 3) := eX11_goesBy_26q.1
theorem dX11_goesBy_29 : decode cX11_goesBy 29 = .ok (.if_icmp .ne 10, 3) := eX11_goesBy_26q.2.1
theorem dX11_goesBy_32 : decode cX11_goesBy 32 = .ok (.aload_n 0, 1) := eX11_goesBy_26q.2.2.1
theorem dX11_goesBy_33 : decode cX11_goesBy 33 = .ok (.getfield 276, 3) := eX11_goesBy_26q.2.2.2.1
theorem dX11_goesBy_36 : decode cX11_goesBy 36 = .ok (.goto 9, 3) := eX11_goesBy_26q.2.2.2.2.1
theorem dX11_goesBy_39 : decode cX11_goesBy 39 = .ok (.aload_n 0, 1) := eX11_goesBy_26q.2.2.2.2.2.1
theorem dX11_goesBy_40 : decode cX11_goesBy 40 = .ok (.getfield 38, 3) := eX11_goesBy_26q.2.2.2.2.2.2.1
theorem dX11_goesBy_43 : decode cX11_goesBy 43 = .ok (.iload_n 1, 1) := eX11_goesBy_26q.2.2.2.2.2.2.2
theorem eX11_goesBy_44q : (decode cX11_goesBy 44 = .ok (.iaload, 1)) ∧ (decode cX11_goesBy 45 = .ok (.istore 6, 2)) ∧ (decode cX11_goesBy 47 = .ok (.iload_n 1, 1)) ∧ (decode cX11_goesBy 48 = .ok (.aload_n 0, 1)) ∧ (decode cX11_goesBy 49 = .ok (.getfield 76, 3)) ∧ (decode cX11_goesBy 52 = .ok (.if_icmp .ne 10, 3)) ∧ (decode cX11_goesBy 55 = .ok (.aload_n 0, 1)) ∧ (decode cX11_goesBy 56 = .ok (.getfield 279, 3)) := by decide +kernel
theorem dX11_goesBy_44 : decode cX11_goesBy 44 = .ok (.iaload, 1) := eX11_goesBy_44q.1
theorem dX11_goesBy_45 : decode cX11_goesBy 45 = .ok (.istore 6, 2) := eX11_goesBy_44q.2.1
theorem dX11_goesBy_47 : decode cX11_goesBy 47 = .ok (.iload_n 1, 1) := eX11_goesBy_44q.2.2.1
theorem dX11_goesBy_48 : decode cX11_goesBy 48 = .ok (.aload_n 0, 1) := eX11_goesBy_44q.2.2.2.1
theorem dX11_goesBy_49 : decode cX11_goesBy 49 = .ok (.getfield 76, 3) := eX11_goesBy_44q.2.2.2.2.1
theorem dX11_goesBy_52 : decode cX11_goesBy 52 = .ok (.if_icmp .ne 10, 3) := eX11_goesBy_44q.2.2.2.2.2.1
theorem dX11_goesBy_55 : decode cX11_goesBy 55 = .ok (.aload_n 0, 1) := eX11_goesBy_44q.2.2.2.2.2.2.1
theorem dX11_goesBy_56 : decode cX11_goesBy 56 = .ok (.getfield 279, 3) := eX11_goesBy_44q.2.2.2.2.2.2.2
theorem eX11_goesBy_59q : (decode cX11_goesBy 59 = .ok (.goto 9, 3)) ∧ (decode cX11_goesBy 62 = .ok (.aload_n 0, 1)) ∧ (decode cX11_goesBy 63 = .ok (.getfield 41, 3)) ∧ (decode cX11_goesBy 66 = .ok (.iload_n 1, 1)) ∧ (decode cX11_goesBy 67 = .ok (.iaload, 1)) ∧ (decode cX11_goesBy 68 = .ok (.istore 7, 2)) ∧ (decode cX11_goesBy 70 = .ok (.iload 6, 2)) ∧ (decode cX11_goesBy 72 = .ok (.ifCond .ne 7, 3)) := by decide +kernel
theorem dX11_goesBy_59 : decode cX11_goesBy 59 = .ok (.goto 9, 3) := eX11_goesBy_59q.1
theorem dX11_goesBy_62 : decode cX11_goesBy 62 = .ok (.aload_n 0, 1) := eX11_goesBy_59q.2.1
theorem dX11_goesBy_63 : decode cX11_goesBy 63 = .ok (.getfield 41, 3) := eX11_goesBy_59q.2.2.1
theorem dX11_goesBy_66 : decode cX11_goesBy 66 = .ok (.iload_n 1, 1) := eX11_goesBy_59q.2.2.2.1
theorem dX11_goesBy_67 : decode cX11_goesBy 67 = .ok (.iaload, 1) := eX11_goesBy_59q.2.2.2.2.1
theorem dX11_goesBy_68 : decode cX11_goesBy 68 = .ok (.istore 7, 2) := eX11_goesBy_59q.2.2.2.2.2.1
theorem dX11_goesBy_70 : decode cX11_goesBy 70 = .ok (.iload 6, 2) := eX11_goesBy_59q.2.2.2.2.2.2.1
theorem dX11_goesBy_72 : decode cX11_goesBy 72 = .ok (.ifCond .ne 7, 3) := eX11_goesBy_59q.2.2.2.2.2.2.2
theorem eX11_goesBy_75q : (decode cX11_goesBy 75 = .ok (.iconst 0, 1)) ∧ (decode cX11_goesBy 76 = .ok (.goto 48, 3)) ∧ (decode cX11_goesBy 79 = .ok (.iload 6, 2)) ∧ (decode cX11_goesBy 81 = .ok (.iconst 1, 1)) ∧ (decode cX11_goesBy 82 = .ok (.if_icmp .ne 18, 3)) ∧ (decode cX11_goesBy 85 = .ok (.bipush 7, 2)) ∧ (decode cX11_goesBy 87 = .ok (.iload_n 2, 1)) ∧ (decode cX11_goesBy 88 = .ok (.imul, 1)) := by decide +kernel
theorem dX11_goesBy_75 : decode cX11_goesBy 75 = .ok (.iconst 0, 1) := eX11_goesBy_75q.1
theorem dX11_goesBy_76 : decode cX11_goesBy 76 = .ok (.goto 48, 3) := eX11_goesBy_75q.2.1
theorem dX11_goesBy_79 : decode cX11_goesBy 79 = .ok (.iload 6, 2) := eX11_goesBy_75q.2.2.1
theorem dX11_goesBy_81 : decode cX11_goesBy 81 = .ok (.iconst 1, 1) := eX11_goesBy_75q.2.2.2.1
theorem dX11_goesBy_82 : decode cX11_goesBy 82 = .ok (.if_icmp .ne 18, 3) := eX11_goesBy_75q.2.2.2.2.1
theorem dX11_goesBy_85 : decode cX11_goesBy 85 = .ok (.bipush 7, 2) := eX11_goesBy_75q.2.2.2.2.2.1
theorem dX11_goesBy_87 : decode cX11_goesBy 87 = .ok (.iload_n 2, 1) := eX11_goesBy_75q.2.2.2.2.2.2.1
theorem dX11_goesBy_88 : decode cX11_goesBy 88 = .ok (.imul, 1) := eX11_goesBy_75q.2.2.2.2.2.2.2
theorem eX11_goesBy_89q : (decode cX11_goesBy 89 = .ok (.bipush 13, 2)) ∧ (decode cX11_goesBy 91 = .ok (.iload_n 3, 1)) ∧ (decode cX11_goesBy 92 = .ok (.imul, 1)) ∧ (decode cX11_goesBy 93 = .ok (.iadd, 1)) ∧ (decode cX11_goesBy 94 = .ok (.iload 7, 2)) ∧ (decode cX11_goesBy 96 = .ok (.iadd, 1)) ∧ (decode cX11_goesBy 97 = .ok (.goto 27, 3)) ∧ (decode cX11_goesBy 100 = .ok (.iload 6, 2)) := by decide +kernel
theorem dX11_goesBy_89 : decode cX11_goesBy 89 = .ok (.bipush 13, 2) := eX11_goesBy_89q.1
theorem dX11_goesBy_91 : decode cX11_goesBy 91 = .ok (.iload_n 3, 1) := eX11_goesBy_89q.2.1
theorem dX11_goesBy_92 : decode cX11_goesBy 92 = .ok (.imul, 1) := eX11_goesBy_89q.2.2.1
theorem dX11_goesBy_93 : decode cX11_goesBy 93 = .ok (.iadd, 1) := eX11_goesBy_89q.2.2.2.1
theorem dX11_goesBy_94 : decode cX11_goesBy 94 = .ok (.iload 7, 2) := eX11_goesBy_89q.2.2.2.2.1
theorem dX11_goesBy_96 : decode cX11_goesBy 96 = .ok (.iadd, 1) := eX11_goesBy_89q.2.2.2.2.2.1
theorem dX11_goesBy_97 : decode cX11_goesBy 97 = .ok (.goto 27, 3) := eX11_goesBy_89q.2.2.2.2.2.2.1
theorem dX11_goesBy_100 : decode cX11_goesBy 100 = .ok (.iload 6, 2) := eX11_goesBy_89q.2.2.2.2.2.2.2
theorem eX11_goesBy_102q : (decode cX11_goesBy 102 = .ok (.iconst 3, 1)) ∧ (decode cX11_goesBy 103 = .ok (.if_icmp .ne 13, 3)) ∧ (decode cX11_goesBy 106 = .ok (.bipush 13, 2)) ∧ (decode cX11_goesBy 108 = .ok (.iload_n 3, 1)) ∧ (decode cX11_goesBy 109 = .ok (.imul, 1)) ∧ (decode cX11_goesBy 110 = .ok (.iload 7, 2)) ∧ (decode cX11_goesBy 112 = .ok (.iadd, 1)) ∧ (decode cX11_goesBy 113 = .ok (.goto 11, 3)) := by decide +kernel
theorem dX11_goesBy_102 : decode cX11_goesBy 102 = .ok (.iconst 3, 1) := eX11_goesBy_102q.1
theorem dX11_goesBy_103 : decode cX11_goesBy 103 = .ok (.if_icmp .ne 13, 3) := eX11_goesBy_102q.2.1
theorem dX11_goesBy_106 : decode cX11_goesBy 106 = .ok (.bipush 13, 2) := eX11_goesBy_102q.2.2.1
theorem dX11_goesBy_108 : decode cX11_goesBy 108 = .ok (.iload_n 3, 1) := eX11_goesBy_102q.2.2.2.1
theorem dX11_goesBy_109 : decode cX11_goesBy 109 = .ok (.imul, 1) := eX11_goesBy_102q.2.2.2.2.1
theorem dX11_goesBy_110 : decode cX11_goesBy 110 = .ok (.iload 7, 2) := eX11_goesBy_102q.2.2.2.2.2.1
theorem dX11_goesBy_112 : decode cX11_goesBy 112 = .ok (.iadd, 1) := eX11_goesBy_102q.2.2.2.2.2.2.1
theorem dX11_goesBy_113 : decode cX11_goesBy 113 = .ok (.goto 11, 3) := eX11_goesBy_102q.2.2.2.2.2.2.2
theorem eX11_goesBy_116q : (decode cX11_goesBy 116 = .ok (.aload_n 0, 1)) ∧ (decode cX11_goesBy 117 = .ok (.getfield 60, 3)) ∧ (decode cX11_goesBy 120 = .ok (.iconst 0, 1)) ∧ (decode cX11_goesBy 121 = .ok (.iload_n 1, 1)) ∧ (decode cX11_goesBy 122 = .ok (.iadd, 1)) ∧ (decode cX11_goesBy 123 = .ok (.iaload, 1)) ∧ (decode cX11_goesBy 124 = .ok (.istore 8, 2)) ∧ (decode cX11_goesBy 126 = .ok (.iload 6, 2)) := by decide +kernel
theorem dX11_goesBy_116 : decode cX11_goesBy 116 = .ok (.aload_n 0, 1) := eX11_goesBy_116q.1
theorem dX11_goesBy_117 : decode cX11_goesBy 117 = .ok (.getfield 60, 3) := eX11_goesBy_116q.2.1
theorem dX11_goesBy_120 : decode cX11_goesBy 120 = .ok (.iconst 0, 1) := eX11_goesBy_116q.2.2.1
theorem dX11_goesBy_121 : decode cX11_goesBy 121 = .ok (.iload_n 1, 1) := eX11_goesBy_116q.2.2.2.1
theorem dX11_goesBy_122 : decode cX11_goesBy 122 = .ok (.iadd, 1) := eX11_goesBy_116q.2.2.2.2.1
theorem dX11_goesBy_123 : decode cX11_goesBy 123 = .ok (.iaload, 1) := eX11_goesBy_116q.2.2.2.2.2.1
theorem dX11_goesBy_124 : decode cX11_goesBy 124 = .ok (.istore 8, 2) := eX11_goesBy_116q.2.2.2.2.2.2.1
theorem dX11_goesBy_126 : decode cX11_goesBy 126 = .ok (.iload 6, 2) := eX11_goesBy_116q.2.2.2.2.2.2.2
theorem eX11_goesBy_128q : (decode cX11_goesBy 128 = .ok (.iconst 2, 1)) ∧ (decode cX11_goesBy 129 = .ok (.if_icmp .ne 31, 3)) ∧ (decode cX11_goesBy 132 = .ok (.aload_n 0, 1)) ∧ (decode cX11_goesBy 133 = .ok (.getfield 282, 3)) ∧ (decode cX11_goesBy 136 = .ok (.ifCond .eq 24, 3)) ∧ (decode cX11_goesBy 139 = .ok (.aload_n 0, 1)) ∧ (decode cX11_goesBy 140 = .ok (.getfield 60, 3)) ∧ (decode cX11_goesBy 143 = .ok (.iconst 0, 1)) := by decide +kernel
theorem dX11_goesBy_128 : decode cX11_goesBy 128 = .ok (.iconst 2, 1) := eX11_goesBy_128q.1
theorem dX11_goesBy_129 : decode cX11_goesBy 129 = .ok (.if_icmp .ne 31, 3) := eX11_goesBy_128q.2.1
theorem dX11_goesBy_132 : decode cX11_goesBy 132 = .ok (.aload_n 0, 1) := eX11_goesBy_128q.2.2.1
theorem dX11_goesBy_133 : decode cX11_goesBy 133 = .ok (.getfield 282, 3) := eX11_goesBy_128q.2.2.2.1
theorem dX11_goesBy_136 : decode cX11_goesBy 136 = .ok (.ifCond .eq 24, 3) := eX11_goesBy_128q.2.2.2.2.1
theorem dX11_goesBy_139 : decode cX11_goesBy 139 = .ok (.aload_n 0, 1) := eX11_goesBy_128q.2.2.2.2.2.1
theorem dX11_goesBy_140 : decode cX11_goesBy 140 = .ok (.getfield 60, 3) := eX11_goesBy_128q.2.2.2.2.2.2.1
theorem dX11_goesBy_143 : decode cX11_goesBy 143 = .ok (.iconst 0, 1) := eX11_goesBy_128q.2.2.2.2.2.2.2
theorem eX11_goesBy_144q : (decode cX11_goesBy 144 = .ok (.iload_n 1, 1)) ∧ (decode cX11_goesBy 145 = .ok (.iadd, 1)) ∧ (decode cX11_goesBy 146 = .ok (.aload_n 0, 1)) ∧ (decode cX11_goesBy 147 = .ok (.getfield 60, 3)) ∧ (decode cX11_goesBy 150 = .ok (.iconst 0, 1)) ∧ (decode cX11_goesBy 151 = .ok (.iload_n 1, 1)) ∧ (decode cX11_goesBy 152 = .ok (.iadd, 1)) ∧ (decode cX11_goesBy 153 = .ok (.iaload, 1)) := by decide +kernel
theorem dX11_goesBy_144 : decode cX11_goesBy 144 = .ok (.iload_n 1, 1) := eX11_goesBy_144q.1
theorem dX11_goesBy_145 : decode cX11_goesBy 145 = .ok (.iadd, 1) := eX11_goesBy_144q.2.1
theorem dX11_goesBy_146 : decode cX11_goesBy 146 = .ok (.aload_n 0, 1) := eX11_goesBy_144q.2.2.1
theorem dX11_goesBy_147 : decode cX11_goesBy 147 = .ok (.getfield 60, 3) := eX11_goesBy_144q.2.2.2.1
theorem dX11_goesBy_150 : decode cX11_goesBy 150 = .ok (.iconst 0, 1) := eX11_goesBy_144q.2.2.2.2.1
theorem dX11_goesBy_151 : decode cX11_goesBy 151 = .ok (.iload_n 1, 1) := eX11_goesBy_144q.2.2.2.2.2.1
theorem dX11_goesBy_152 : decode cX11_goesBy 152 = .ok (.iadd, 1) := eX11_goesBy_144q.2.2.2.2.2.2.1
theorem dX11_goesBy_153 : decode cX11_goesBy 153 = .ok (.iaload, 1) := eX11_goesBy_144q.2.2.2.2.2.2.2
theorem eX11_goesBy_154q : (decode cX11_goesBy 154 = .ok (.iconst 1, 1)) ∧ (decode cX11_goesBy 155 = .ok (.iadd, 1)) ∧ (decode cX11_goesBy 156 = .ok (.bipush 60, 2)) ∧ (decode cX11_goesBy 158 = .ok (.irem, 1)) ∧ (decode cX11_goesBy 159 = .ok (.iastore, 1)) ∧ (decode cX11_goesBy 160 = .ok (.aload_n 0, 1)) ∧ (decode cX11_goesBy 161 = .ok (.iload_n 1, 1)) ∧ (decode cX11_goesBy 162 = .ok (.iload 4, 2)) := by decide +kernel
theorem dX11_goesBy_154 : decode cX11_goesBy 154 = .ok (.iconst 1, 1) := eX11_goesBy_154q.1
theorem dX11_goesBy_155 : decode cX11_goesBy 155 = .ok (.iadd, 1) := eX11_goesBy_154q.2.1
theorem dX11_goesBy_156 : decode cX11_goesBy 156 = .ok (.bipush 60, 2) := eX11_goesBy_154q.2.2.1
theorem dX11_goesBy_158 : decode cX11_goesBy 158 = .ok (.irem, 1) := eX11_goesBy_154q.2.2.2.1
theorem dX11_goesBy_159 : decode cX11_goesBy 159 = .ok (.iastore, 1) := eX11_goesBy_154q.2.2.2.2.1
theorem dX11_goesBy_160 : decode cX11_goesBy 160 = .ok (.aload_n 0, 1) := eX11_goesBy_154q.2.2.2.2.2.1
theorem dX11_goesBy_161 : decode cX11_goesBy 161 = .ok (.iload_n 1, 1) := eX11_goesBy_154q.2.2.2.2.2.2.1
theorem dX11_goesBy_162 : decode cX11_goesBy 162 = .ok (.iload 4, 2) := eX11_goesBy_154q.2.2.2.2.2.2.2
theorem eX11_goesBy_164q : (decode cX11_goesBy 164 = .ok (.iload 8, 2)) ∧ (decode cX11_goesBy 166 = .ok (.iload 5, 2)) ∧ (decode cX11_goesBy 168 = .ok (.irem, 1)) ∧ (decode cX11_goesBy 169 = .ok (.invokevirtual 285, 3)) ∧ (decode cX11_goesBy 172 = .ok (.ireturn, 1)) := by decide +kernel
theorem dX11_goesBy_164 : decode cX11_goesBy 164 = .ok (.iload 8, 2) := eX11_goesBy_164q.1
theorem dX11_goesBy_166 : decode cX11_goesBy 166 = .ok (.iload 5, 2) := eX11_goesBy_164q.2.1
theorem dX11_goesBy_168 : decode cX11_goesBy 168 = .ok (.irem, 1) := eX11_goesBy_164q.2.2.1
theorem dX11_goesBy_169 : decode cX11_goesBy 169 = .ok (.invokevirtual 285, 3) := eX11_goesBy_164q.2.2.2.1
theorem dX11_goesBy_172 : decode cX11_goesBy 172 = .ok (.ireturn, 1) := eX11_goesBy_164q.2.2.2.2
theorem eX11_routerOf_0q : (decode cX11_routerOf 0 = .ok (.iload_n 1, 1)) ∧ (decode cX11_routerOf 1 = .ok (.ifCond .ne 7, 3)) ∧ (decode cX11_routerOf 4 = .ok (.iconst 0, 1)) ∧ (decode cX11_routerOf 5 = .ok (.goto 11, 3)) ∧ (decode cX11_routerOf 8 = .ok (.aload_n 0, 1)) ∧ (decode cX11_routerOf 9 = .ok (.getfield 56, 3)) ∧ (decode cX11_routerOf 12 = .ok (.iload_n 1, 1)) ∧ (decode cX11_routerOf 13 = .ok (.iconst 1, 1)) := by decide +kernel
theorem dX11_routerOf_0 : decode cX11_routerOf 0 = .ok (.iload_n 1, 1) := eX11_routerOf_0q.1
theorem dX11_routerOf_1 : decode cX11_routerOf 1 = .ok (.ifCond .ne 7, 3) := eX11_routerOf_0q.2.1
theorem dX11_routerOf_4 : decode cX11_routerOf 4 = .ok (.iconst 0, 1) := eX11_routerOf_0q.2.2.1
theorem dX11_routerOf_5 : decode cX11_routerOf 5 = .ok (.goto 11, 3) := eX11_routerOf_0q.2.2.2.1
theorem dX11_routerOf_8 : decode cX11_routerOf 8 = .ok (.aload_n 0, 1) := eX11_routerOf_0q.2.2.2.2.1
theorem dX11_routerOf_9 : decode cX11_routerOf 9 = .ok (.getfield 56, 3) := eX11_routerOf_0q.2.2.2.2.2.1
theorem dX11_routerOf_12 : decode cX11_routerOf 12 = .ok (.iload_n 1, 1) := eX11_routerOf_0q.2.2.2.2.2.2.1
theorem dX11_routerOf_13 : decode cX11_routerOf 13 = .ok (.iconst 1, 1) := eX11_routerOf_0q.2.2.2.2.2.2.2
theorem eX11_routerOf_14q : (decode cX11_routerOf 14 = .ok (.isub, 1)) ∧ (decode cX11_routerOf 15 = .ok (.iaload, 1)) ∧ (decode cX11_routerOf 16 = .ok (.ireturn, 1)) := by decide +kernel
theorem dX11_routerOf_14 : decode cX11_routerOf 14 = .ok (.isub, 1) := eX11_routerOf_14q.1
theorem dX11_routerOf_15 : decode cX11_routerOf 15 = .ok (.iaload, 1) := eX11_routerOf_14q.2.1
theorem dX11_routerOf_16 : decode cX11_routerOf 16 = .ok (.ireturn, 1) := eX11_routerOf_14q.2.2
theorem eX11_refuse_0q : (decode cX11_refuse 0 = .ok (.aload_n 0, 1)) ∧ (decode cX11_refuse 1 = .ok (.getfield 63, 3)) ∧ (decode cX11_refuse 4 = .ok (.iload_n 1, 1)) ∧ (decode cX11_refuse 5 = .ok (.dup2, 1)) ∧ (decode cX11_refuse 6 = .ok (.iaload, 1)) ∧ (decode cX11_refuse 7 = .ok (.iconst 1, 1)) ∧ (decode cX11_refuse 8 = .ok (.iadd, 1)) ∧ (decode cX11_refuse 9 = .ok (.iastore, 1)) := by decide +kernel
theorem dX11_refuse_0 : decode cX11_refuse 0 = .ok (.aload_n 0, 1) := eX11_refuse_0q.1
theorem dX11_refuse_1 : decode cX11_refuse 1 = .ok (.getfield 63, 3) := eX11_refuse_0q.2.1
theorem dX11_refuse_4 : decode cX11_refuse 4 = .ok (.iload_n 1, 1) := eX11_refuse_0q.2.2.1
theorem dX11_refuse_5 : decode cX11_refuse 5 = .ok (.dup2, 1) := eX11_refuse_0q.2.2.2.1
theorem dX11_refuse_6 : decode cX11_refuse 6 = .ok (.iaload, 1) := eX11_refuse_0q.2.2.2.2.1
theorem dX11_refuse_7 : decode cX11_refuse 7 = .ok (.iconst 1, 1) := eX11_refuse_0q.2.2.2.2.2.1
theorem dX11_refuse_8 : decode cX11_refuse 8 = .ok (.iadd, 1) := eX11_refuse_0q.2.2.2.2.2.2.1
theorem dX11_refuse_9 : decode cX11_refuse 9 = .ok (.iastore, 1) := eX11_refuse_0q.2.2.2.2.2.2.2
theorem dX11_refuse_10 : decode cX11_refuse 10 = .ok (.iconst (-1), 1) := by decide +kernel
theorem dX11_refuse_11 : decode cX11_refuse 11 = .ok (.ireturn, 1) := by decide +kernel
