theorem eX2_hasGoal_0q : (decode cX2_hasGoal 0 = .ok (.iload_n 1, 1)) ∧ (decode cX2_hasGoal 1 = .ok (.ifCond .lt 15, 3)) ∧ (decode cX2_hasGoal 4 = .ok (.iload_n 1, 1)) ∧ (decode cX2_hasGoal 5 = .ok (.aload_n 0, 1)) ∧ (decode cX2_hasGoal 6 = .ok (.getfield 40, 3)) ∧ (decode cX2_hasGoal 9 = .ok (.if_icmp .ge 7, 3)) ∧ (decode cX2_hasGoal 12 = .ok (.iconst 1, 1)) ∧ (decode cX2_hasGoal 13 = .ok (.goto 4, 3)) := by decide +kernel
theorem dX2_hasGoal_0 : decode cX2_hasGoal 0 = .ok (.iload_n 1, 1) := eX2_hasGoal_0q.1
theorem dX2_hasGoal_1 : decode cX2_hasGoal 1 = .ok (.ifCond .lt 15, 3) := eX2_hasGoal_0q.2.1
theorem dX2_hasGoal_4 : decode cX2_hasGoal 4 = .ok (.iload_n 1, 1) := eX2_hasGoal_0q.2.2.1
theorem dX2_hasGoal_5 : decode cX2_hasGoal 5 = .ok (.aload_n 0, 1) := eX2_hasGoal_0q.2.2.2.1
theorem dX2_hasGoal_6 : decode cX2_hasGoal 6 = .ok (.getfield 40, 3) := eX2_hasGoal_0q.2.2.2.2.1
theorem dX2_hasGoal_9 : decode cX2_hasGoal 9 = .ok (.if_icmp .ge 7, 3) := eX2_hasGoal_0q.2.2.2.2.2.1
theorem dX2_hasGoal_12 : decode cX2_hasGoal 12 = .ok (.iconst 1, 1) := eX2_hasGoal_0q.2.2.2.2.2.2.1
theorem dX2_hasGoal_13 : decode cX2_hasGoal 13 = .ok (.goto 4, 3) := eX2_hasGoal_0q.2.2.2.2.2.2.2
theorem dX2_hasGoal_16 : decode cX2_hasGoal 16 = .ok (.iconst 0, 1) := by decide +kernel
theorem dX2_hasGoal_17 : decode cX2_hasGoal 17 = .ok (.ireturn, 1) := by decide +kernel
theorem eX2_hasAddress_0q : (decode cX2_hasAddress 0 = .ok (.aload_n 0, 1)) ∧ (decode cX2_hasAddress 1 = .ok (.getfield 33, 3)) ∧ (decode cX2_hasAddress 4 = .ok (.ifCond .le 19, 3)) ∧ (decode cX2_hasAddress 7 = .ok (.iload_n 1, 1)) ∧ (decode cX2_hasAddress 8 = .ok (.ifCond .lt 15, 3)) ∧ (decode cX2_hasAddress 11 = .ok (.iload_n 1, 1)) ∧ (decode cX2_hasAddress 12 = .ok (.aload_n 0, 1)) ∧ (decode cX2_hasAddress 13 = .ok (.getfield 37, 3)) := by decide +kernel
theorem dX2_hasAddress_0 : decode cX2_hasAddress 0 = .ok (.aload_n 0, 1) := eX2_hasAddress_0q.1
theorem dX2_hasAddress_1 : decode cX2_hasAddress 1 = .ok (.getfield 33, 3) := eX2_hasAddress_0q.2.1
theorem dX2_hasAddress_4 : decode cX2_hasAddress 4 = .ok (.ifCond .le 19, 3) := eX2_hasAddress_0q.2.2.1
theorem dX2_hasAddress_7 : decode cX2_hasAddress 7 = .ok (.iload_n 1, 1) := eX2_hasAddress_0q.2.2.2.1
theorem dX2_hasAddress_8 : decode cX2_hasAddress 8 = .ok (.ifCond .lt 15, 3) := eX2_hasAddress_0q.2.2.2.2.1
theorem dX2_hasAddress_11 : decode cX2_hasAddress 11 = .ok (.iload_n 1, 1) := eX2_hasAddress_0q.2.2.2.2.2.1
theorem dX2_hasAddress_12 : decode cX2_hasAddress 12 = .ok (.aload_n 0, 1) := eX2_hasAddress_0q.2.2.2.2.2.2.1
theorem dX2_hasAddress_13 : decode cX2_hasAddress 13 = .ok (.getfield 37, 3) := eX2_hasAddress_0q.2.2.2.2.2.2.2
theorem eX2_hasAddress_16q : (decode cX2_hasAddress 16 = .ok (.if_icmp .gt 7, 3)) ∧ (decode cX2_hasAddress 19 = .ok (.iconst 1, 1)) ∧ (decode cX2_hasAddress 20 = .ok (.goto 4, 3)) ∧ (decode cX2_hasAddress 23 = .ok (.iconst 0, 1)) ∧ (decode cX2_hasAddress 24 = .ok (.ireturn, 1)) := by decide +kernel
theorem dX2_hasAddress_16 : decode cX2_hasAddress 16 = .ok (.if_icmp .gt 7, 3) := eX2_hasAddress_16q.1
theorem dX2_hasAddress_19 : decode cX2_hasAddress 19 = .ok (.iconst 1, 1) := eX2_hasAddress_16q.2.1
theorem dX2_hasAddress_20 : decode cX2_hasAddress 20 = .ok (.goto 4, 3) := eX2_hasAddress_16q.2.2.1
theorem dX2_hasAddress_23 : decode cX2_hasAddress 23 = .ok (.iconst 0, 1) := eX2_hasAddress_16q.2.2.2.1
theorem dX2_hasAddress_24 : decode cX2_hasAddress 24 = .ok (.ireturn, 1) := eX2_hasAddress_16q.2.2.2.2
theorem eX2_routerOf_0q : (decode cX2_routerOf 0 = .ok (.iload_n 1, 1)) ∧ (decode cX2_routerOf 1 = .ok (.ifCond .le 11, 3)) ∧ (decode cX2_routerOf 4 = .ok (.iload_n 1, 1)) ∧ (decode cX2_routerOf 5 = .ok (.aload_n 0, 1)) ∧ (decode cX2_routerOf 6 = .ok (.getfield 37, 3)) ∧ (decode cX2_routerOf 9 = .ok (.if_icmp .le 7, 3)) ∧ (decode cX2_routerOf 12 = .ok (.iconst 0, 1)) ∧ (decode cX2_routerOf 13 = .ok (.goto 11, 3)) := by decide +kernel
theorem dX2_routerOf_0 : decode cX2_routerOf 0 = .ok (.iload_n 1, 1) := eX2_routerOf_0q.1
theorem dX2_routerOf_1 : decode cX2_routerOf 1 = .ok (.ifCond .le 11, 3) := eX2_routerOf_0q.2.1
theorem dX2_routerOf_4 : decode cX2_routerOf 4 = .ok (.iload_n 1, 1) := eX2_routerOf_0q.2.2.1
theorem dX2_routerOf_5 : decode cX2_routerOf 5 = .ok (.aload_n 0, 1) := eX2_routerOf_0q.2.2.2.1
theorem dX2_routerOf_6 : decode cX2_routerOf 6 = .ok (.getfield 37, 3) := eX2_routerOf_0q.2.2.2.2.1
theorem dX2_routerOf_9 : decode cX2_routerOf 9 = .ok (.if_icmp .le 7, 3) := eX2_routerOf_0q.2.2.2.2.2.1
theorem dX2_routerOf_12 : decode cX2_routerOf 12 = .ok (.iconst 0, 1) := eX2_routerOf_0q.2.2.2.2.2.2.1
theorem dX2_routerOf_13 : decode cX2_routerOf 13 = .ok (.goto 11, 3) := eX2_routerOf_0q.2.2.2.2.2.2.2
theorem eX2_routerOf_16q : (decode cX2_routerOf 16 = .ok (.aload_n 0, 1)) ∧ (decode cX2_routerOf 17 = .ok (.getfield 27, 3)) ∧ (decode cX2_routerOf 20 = .ok (.iload_n 1, 1)) ∧ (decode cX2_routerOf 21 = .ok (.iconst 1, 1)) ∧ (decode cX2_routerOf 22 = .ok (.isub, 1)) ∧ (decode cX2_routerOf 23 = .ok (.iaload, 1)) ∧ (decode cX2_routerOf 24 = .ok (.ireturn, 1)) := by decide +kernel
theorem dX2_routerOf_16 : decode cX2_routerOf 16 = .ok (.aload_n 0, 1) := eX2_routerOf_16q.1
theorem dX2_routerOf_17 : decode cX2_routerOf 17 = .ok (.getfield 27, 3) := eX2_routerOf_16q.2.1
theorem dX2_routerOf_20 : decode cX2_routerOf 20 = .ok (.iload_n 1, 1) := eX2_routerOf_16q.2.2.1
theorem dX2_routerOf_21 : decode cX2_routerOf 21 = .ok (.iconst 1, 1) := eX2_routerOf_16q.2.2.2.1
theorem dX2_routerOf_22 : decode cX2_routerOf 22 = .ok (.isub, 1) := eX2_routerOf_16q.2.2.2.2.1
theorem dX2_routerOf_23 : decode cX2_routerOf 23 = .ok (.iaload, 1) := eX2_routerOf_16q.2.2.2.2.2.1
theorem dX2_routerOf_24 : decode cX2_routerOf 24 = .ok (.ireturn, 1) := eX2_routerOf_16q.2.2.2.2.2.2
theorem eX2_goalAt_0q : (decode cX2_goalAt 0 = .ok (.iconst 0, 1)) ∧ (decode cX2_goalAt 1 = .ok (.istore_n 2, 1)) ∧ (decode cX2_goalAt 2 = .ok (.iload_n 2, 1)) ∧ (decode cX2_goalAt 3 = .ok (.aload_n 0, 1)) ∧ (decode cX2_goalAt 4 = .ok (.getfield 40, 3)) ∧ (decode cX2_goalAt 7 = .ok (.if_icmp .ge 21, 3)) ∧ (decode cX2_goalAt 10 = .ok (.aload_n 0, 1)) ∧ (decode cX2_goalAt 11 = .ok (.getfield 30, 3)) := by decide +kernel
theorem dX2_goalAt_0 : decode cX2_goalAt 0 = .ok (.iconst 0, 1) := eX2_goalAt_0q.1
theorem dX2_goalAt_1 : decode cX2_goalAt 1 = .ok (.istore_n 2, 1) := eX2_goalAt_0q.2.1
theorem dX2_goalAt_2 : decode cX2_goalAt 2 = .ok (.iload_n 2, 1) := eX2_goalAt_0q.2.2.1
theorem dX2_goalAt_3 : decode cX2_goalAt 3 = .ok (.aload_n 0, 1) := eX2_goalAt_0q.2.2.2.1
theorem dX2_goalAt_4 : decode cX2_goalAt 4 = .ok (.getfield 40, 3) := eX2_goalAt_0q.2.2.2.2.1
theorem dX2_goalAt_7 : decode cX2_goalAt 7 = .ok (.if_icmp .ge 21, 3) := eX2_goalAt_0q.2.2.2.2.2.1
theorem dX2_goalAt_10 : decode cX2_goalAt 10 = .ok (.aload_n 0, 1) := eX2_goalAt_0q.2.2.2.2.2.2.1
theorem dX2_goalAt_11 : decode cX2_goalAt 11 = .ok (.getfield 30, 3) := eX2_goalAt_0q.2.2.2.2.2.2.2
theorem eX2_goalAt_14q : (decode cX2_goalAt 14 = .ok (.iload_n 2, 1)) ∧ (decode cX2_goalAt 15 = .ok (.iaload, 1)) ∧ (decode cX2_goalAt 16 = .ok (.iload_n 1, 1)) ∧ (decode cX2_goalAt 17 = .ok (.if_icmp .ne 5, 3)) ∧ (decode cX2_goalAt 20 = .ok (.iload_n 2, 1)) ∧ (decode cX2_goalAt 21 = .ok (.ireturn, 1)) ∧ (decode cX2_goalAt 22 = .ok (.iinc 2 1, 3)) ∧ (decode cX2_goalAt 25 = .ok (.goto (-23), 3)) := by decide +kernel
theorem dX2_goalAt_14 : decode cX2_goalAt 14 = .ok (.iload_n 2, 1) := eX2_goalAt_14q.1
theorem dX2_goalAt_15 : decode cX2_goalAt 15 = .ok (.iaload, 1) := eX2_goalAt_14q.2.1
theorem dX2_goalAt_16 : decode cX2_goalAt 16 = .ok (.iload_n 1, 1) := eX2_goalAt_14q.2.2.1
theorem dX2_goalAt_17 : decode cX2_goalAt 17 = .ok (.if_icmp .ne 5, 3) := eX2_goalAt_14q.2.2.2.1
theorem dX2_goalAt_20 : decode cX2_goalAt 20 = .ok (.iload_n 2, 1) := eX2_goalAt_14q.2.2.2.2.1
theorem dX2_goalAt_21 : decode cX2_goalAt 21 = .ok (.ireturn, 1) := eX2_goalAt_14q.2.2.2.2.2.1
theorem dX2_goalAt_22 : decode cX2_goalAt 22 = .ok (.iinc 2 1, 3) := eX2_goalAt_14q.2.2.2.2.2.2.1
theorem dX2_goalAt_25 : decode cX2_goalAt 25 = .ok (.goto (-23), 3) := eX2_goalAt_14q.2.2.2.2.2.2.2
theorem dX2_goalAt_28 : decode cX2_goalAt 28 = .ok (.iconst (-1), 1) := by decide +kernel
theorem dX2_goalAt_29 : decode cX2_goalAt 29 = .ok (.ireturn, 1) := by decide +kernel
theorem eX2_linksFrom_0q : (decode cX2_linksFrom 0 = .ok (.iconst 0, 1)) ∧ (decode cX2_linksFrom 1 = .ok (.istore_n 2, 1)) ∧ (decode cX2_linksFrom 2 = .ok (.iconst 0, 1)) ∧ (decode cX2_linksFrom 3 = .ok (.istore_n 3, 1)) ∧ (decode cX2_linksFrom 4 = .ok (.iload_n 3, 1)) ∧ (decode cX2_linksFrom 5 = .ok (.aload_n 0, 1)) ∧ (decode cX2_linksFrom 6 = .ok (.getfield 37, 3)) ∧ (decode cX2_linksFrom 9 = .ok (.if_icmp .ge 25, 3)) := by decide +kernel
theorem dX2_linksFrom_0 : decode cX2_linksFrom 0 = .ok (.iconst 0, 1) := eX2_linksFrom_0q.1
theorem dX2_linksFrom_1 : decode cX2_linksFrom 1 = .ok (.istore_n 2, 1) := eX2_linksFrom_0q.2.1
theorem dX2_linksFrom_2 : decode cX2_linksFrom 2 = .ok (.iconst 0, 1) := eX2_linksFrom_0q.2.2.1
theorem dX2_linksFrom_3 : decode cX2_linksFrom 3 = .ok (.istore_n 3, 1) := eX2_linksFrom_0q.2.2.2.1
theorem dX2_linksFrom_4 : decode cX2_linksFrom 4 = .ok (.iload_n 3, 1) := eX2_linksFrom_0q.2.2.2.2.1
theorem dX2_linksFrom_5 : decode cX2_linksFrom 5 = .ok (.aload_n 0, 1) := eX2_linksFrom_0q.2.2.2.2.2.1
theorem dX2_linksFrom_6 : decode cX2_linksFrom 6 = .ok (.getfield 37, 3) := eX2_linksFrom_0q.2.2.2.2.2.2.1
theorem dX2_linksFrom_9 : decode cX2_linksFrom 9 = .ok (.if_icmp .ge 25, 3) := eX2_linksFrom_0q.2.2.2.2.2.2.2
theorem eX2_linksFrom_12q : (decode cX2_linksFrom 12 = .ok (.aload_n 0, 1)) ∧ (decode cX2_linksFrom 13 = .ok (.getfield 24, 3)) ∧ (decode cX2_linksFrom 16 = .ok (.iload_n 3, 1)) ∧ (decode cX2_linksFrom 17 = .ok (.iaload, 1)) ∧ (decode cX2_linksFrom 18 = .ok (.iload_n 1, 1)) ∧ (decode cX2_linksFrom 19 = .ok (.if_icmp .ne 9, 3)) ∧ (decode cX2_linksFrom 22 = .ok (.iload_n 2, 1)) ∧ (decode cX2_linksFrom 23 = .ok (.iconst 1, 1)) := by decide +kernel
theorem dX2_linksFrom_12 : decode cX2_linksFrom 12 = .ok (.aload_n 0, 1) := eX2_linksFrom_12q.1
theorem dX2_linksFrom_13 : decode cX2_linksFrom 13 = .ok (.getfield 24, 3) := eX2_linksFrom_12q.2.1
theorem dX2_linksFrom_16 : decode cX2_linksFrom 16 = .ok (.iload_n 3, 1) := eX2_linksFrom_12q.2.2.1
theorem dX2_linksFrom_17 : decode cX2_linksFrom 17 = .ok (.iaload, 1) := eX2_linksFrom_12q.2.2.2.1
theorem dX2_linksFrom_18 : decode cX2_linksFrom 18 = .ok (.iload_n 1, 1) := eX2_linksFrom_12q.2.2.2.2.1
theorem dX2_linksFrom_19 : decode cX2_linksFrom 19 = .ok (.if_icmp .ne 9, 3) := eX2_linksFrom_12q.2.2.2.2.2.1
theorem dX2_linksFrom_22 : decode cX2_linksFrom 22 = .ok (.iload_n 2, 1) := eX2_linksFrom_12q.2.2.2.2.2.2.1
theorem dX2_linksFrom_23 : decode cX2_linksFrom 23 = .ok (.iconst 1, 1) := eX2_linksFrom_12q.2.2.2.2.2.2.2
theorem eX2_linksFrom_24q : (decode cX2_linksFrom 24 = .ok (.iload_n 3, 1)) ∧ (decode cX2_linksFrom 25 = .ok (.ishl, 1)) ∧ (decode cX2_linksFrom 26 = .ok (.ior, 1)) ∧ (decode cX2_linksFrom 27 = .ok (.istore_n 2, 1)) ∧ (decode cX2_linksFrom 28 = .ok (.iinc 3 1, 3)) ∧ (decode cX2_linksFrom 31 = .ok (.goto (-27), 3)) ∧ (decode cX2_linksFrom 34 = .ok (.iload_n 2, 1)) ∧ (decode cX2_linksFrom 35 = .ok (.ireturn, 1)) := by decide +kernel
theorem dX2_linksFrom_24 : decode cX2_linksFrom 24 = .ok (.iload_n 3, 1) := eX2_linksFrom_24q.1
theorem dX2_linksFrom_25 : decode cX2_linksFrom 25 = .ok (.ishl, 1) := eX2_linksFrom_24q.2.1
theorem dX2_linksFrom_26 : decode cX2_linksFrom 26 = .ok (.ior, 1) := eX2_linksFrom_24q.2.2.1
theorem dX2_linksFrom_27 : decode cX2_linksFrom 27 = .ok (.istore_n 2, 1) := eX2_linksFrom_24q.2.2.2.1
theorem dX2_linksFrom_28 : decode cX2_linksFrom 28 = .ok (.iinc 3 1, 3) := eX2_linksFrom_24q.2.2.2.2.1
theorem dX2_linksFrom_31 : decode cX2_linksFrom 31 = .ok (.goto (-27), 3) := eX2_linksFrom_24q.2.2.2.2.2.1
theorem dX2_linksFrom_34 : decode cX2_linksFrom 34 = .ok (.iload_n 2, 1) := eX2_linksFrom_24q.2.2.2.2.2.2.1
theorem dX2_linksFrom_35 : decode cX2_linksFrom 35 = .ok (.ireturn, 1) := eX2_linksFrom_24q.2.2.2.2.2.2.2
theorem eX2_hasLinkBetween_0q : (decode cX2_hasLinkBetween 0 = .ok (.iconst 0, 1)) ∧ (decode cX2_hasLinkBetween 1 = .ok (.istore_n 3, 1)) ∧ (decode cX2_hasLinkBetween 2 = .ok (.iload_n 3, 1)) ∧ (decode cX2_hasLinkBetween 3 = .ok (.aload_n 0, 1)) ∧ (decode cX2_hasLinkBetween 4 = .ok (.getfield 37, 3)) ∧ (decode cX2_hasLinkBetween 7 = .ok (.if_icmp .ge 31, 3)) ∧ (decode cX2_hasLinkBetween 10 = .ok (.aload_n 0, 1)) ∧ (decode cX2_hasLinkBetween 11 = .ok (.getfield 24, 3)) := by decide +kernel
theorem dX2_hasLinkBetween_0 : decode cX2_hasLinkBetween 0 = .ok (.iconst 0, 1) := eX2_hasLinkBetween_0q.1
theorem dX2_hasLinkBetween_1 : decode cX2_hasLinkBetween 1 = .ok (.istore_n 3, 1) := eX2_hasLinkBetween_0q.2.1
theorem dX2_hasLinkBetween_2 : decode cX2_hasLinkBetween 2 = .ok (.iload_n 3, 1) := eX2_hasLinkBetween_0q.2.2.1
theorem dX2_hasLinkBetween_3 : decode cX2_hasLinkBetween 3 = .ok (.aload_n 0, 1) := eX2_hasLinkBetween_0q.2.2.2.1
theorem dX2_hasLinkBetween_4 : decode cX2_hasLinkBetween 4 = .ok (.getfield 37, 3) := eX2_hasLinkBetween_0q.2.2.2.2.1
theorem dX2_hasLinkBetween_7 : decode cX2_hasLinkBetween 7 = .ok (.if_icmp .ge 31, 3) := eX2_hasLinkBetween_0q.2.2.2.2.2.1
theorem dX2_hasLinkBetween_10 : decode cX2_hasLinkBetween 10 = .ok (.aload_n 0, 1) := eX2_hasLinkBetween_0q.2.2.2.2.2.2.1
theorem dX2_hasLinkBetween_11 : decode cX2_hasLinkBetween 11 = .ok (.getfield 24, 3) := eX2_hasLinkBetween_0q.2.2.2.2.2.2.2
theorem eX2_hasLinkBetween_14q : (decode cX2_hasLinkBetween 14 = .ok (.iload_n 3, 1)) ∧ (decode cX2_hasLinkBetween 15 = .ok (.iaload, 1)) ∧ (decode cX2_hasLinkBetween 16 = .ok (.iload_n 1, 1)) ∧ (decode cX2_hasLinkBetween 17 = .ok (.if_icmp .ne 15, 3)) ∧ (decode cX2_hasLinkBetween 20 = .ok (.aload_n 0, 1)) ∧ (decode cX2_hasLinkBetween 21 = .ok (.getfield 27, 3)) ∧ (decode cX2_hasLinkBetween 24 = .ok (.iload_n 3, 1)) ∧ (decode cX2_hasLinkBetween 25 = .ok (.iaload, 1)) := by decide +kernel
theorem dX2_hasLinkBetween_14 : decode cX2_hasLinkBetween 14 = .ok (.iload_n 3, 1) := eX2_hasLinkBetween_14q.1
theorem dX2_hasLinkBetween_15 : decode cX2_hasLinkBetween 15 = .ok (.iaload, 1) := eX2_hasLinkBetween_14q.2.1
theorem dX2_hasLinkBetween_16 : decode cX2_hasLinkBetween 16 = .ok (.iload_n 1, 1) := eX2_hasLinkBetween_14q.2.2.1
theorem dX2_hasLinkBetween_17 : decode cX2_hasLinkBetween 17 = .ok (.if_icmp .ne 15, 3) := eX2_hasLinkBetween_14q.2.2.2.1
theorem dX2_hasLinkBetween_20 : decode cX2_hasLinkBetween 20 = .ok (.aload_n 0, 1) := eX2_hasLinkBetween_14q.2.2.2.2.1
theorem dX2_hasLinkBetween_21 : decode cX2_hasLinkBetween 21 = .ok (.getfield 27, 3) := eX2_hasLinkBetween_14q.2.2.2.2.2.1
theorem dX2_hasLinkBetween_24 : decode cX2_hasLinkBetween 24 = .ok (.iload_n 3, 1) := eX2_hasLinkBetween_14q.2.2.2.2.2.2.1
theorem dX2_hasLinkBetween_25 : decode cX2_hasLinkBetween 25 = .ok (.iaload, 1) := eX2_hasLinkBetween_14q.2.2.2.2.2.2.2
theorem eX2_hasLinkBetween_26q : (decode cX2_hasLinkBetween 26 = .ok (.iload_n 2, 1)) ∧ (decode cX2_hasLinkBetween 27 = .ok (.if_icmp .ne 5, 3)) ∧ (decode cX2_hasLinkBetween 30 = .ok (.iconst 1, 1)) ∧ (decode cX2_hasLinkBetween 31 = .ok (.ireturn, 1)) ∧ (decode cX2_hasLinkBetween 32 = .ok (.iinc 3 1, 3)) ∧ (decode cX2_hasLinkBetween 35 = .ok (.goto (-33), 3)) ∧ (decode cX2_hasLinkBetween 38 = .ok (.iconst 0, 1)) ∧ (decode cX2_hasLinkBetween 39 = .ok (.ireturn, 1)) := by decide +kernel
theorem dX2_hasLinkBetween_26 : decode cX2_hasLinkBetween 26 = .ok (.iload_n 2, 1) := eX2_hasLinkBetween_26q.1
theorem dX2_hasLinkBetween_27 : decode cX2_hasLinkBetween 27 = .ok (.if_icmp .ne 5, 3) := eX2_hasLinkBetween_26q.2.1
theorem dX2_hasLinkBetween_30 : decode cX2_hasLinkBetween 30 = .ok (.iconst 1, 1) := eX2_hasLinkBetween_26q.2.2.1
theorem dX2_hasLinkBetween_31 : decode cX2_hasLinkBetween 31 = .ok (.ireturn, 1) := eX2_hasLinkBetween_26q.2.2.2.1
theorem dX2_hasLinkBetween_32 : decode cX2_hasLinkBetween 32 = .ok (.iinc 3 1, 3) := eX2_hasLinkBetween_26q.2.2.2.2.1
theorem dX2_hasLinkBetween_35 : decode cX2_hasLinkBetween 35 = .ok (.goto (-33), 3) := eX2_hasLinkBetween_26q.2.2.2.2.2.1
theorem dX2_hasLinkBetween_38 : decode cX2_hasLinkBetween 38 = .ok (.iconst 0, 1) := eX2_hasLinkBetween_26q.2.2.2.2.2.2.1
theorem dX2_hasLinkBetween_39 : decode cX2_hasLinkBetween 39 = .ok (.ireturn, 1) := eX2_hasLinkBetween_26q.2.2.2.2.2.2.2
set_option maxRecDepth 20000 in
theorem ggX2_findBranches_X2_findReach : GoodIn wsX2_findBranches wsX2_findReach := by
  have h := goodIn_app (goodIn_r (big := wsX2_findBranches) (.code yX2_findReach cX2_findReach 3 none :: ([.fieldLink RX2 33 "PathProber$Net" "routers" "I", .fieldLink RX2 46 "PathProber$Net" "reach" "[I", .fieldLink RX2 37 "PathProber$Net" "links" "I", .fieldLink RX2 24 "PathProber$Net" "from" "[I", .fieldLink RX2 27 "PathProber$Net" "to" "[I"]) : List Cond) [12, 2, 13, 4, 7, 5] rfl (by decide +kernel)) (goodIn_few (big := wsX2_findBranches) (fun _ h9 => List.mem_cons_of_mem _ (List.mem_append_right _ h9)) gb_2)
  exact h
set_option maxRecDepth 20000 in
theorem gX2_findBranches_X2_findReach : GoodIn wsX2_findBranches (wsV RX2 64 RX2 yX2_findReach wsX2_findReach) := goodIn_app (goodIn_r _ [8, 9, 10, 11] rfl (by decide +kernel)) ggX2_findBranches_X2_findReach
set_option maxRecDepth 20000 in
theorem ggX2_findBranches_X2_comesTo : GoodIn wsX2_findBranches wsX2_comesTo := by
  have h := goodIn_app (goodIn_r (big := wsX2_findBranches) (.code yX2_comesTo cX2_comesTo 3 (some .boolean) :: ([.fieldLink RX2 46 "PathProber$Net" "reach" "[I"]) : List Cond) [17, 13] rfl (by decide +kernel)) (goodIn_few (big := wsX2_findBranches) (fun _ h9 => List.mem_cons_of_mem _ (List.mem_append_right _ h9)) gb_2)
  exact h
set_option maxRecDepth 20000 in
theorem gX2_findBranches_X2_comesTo : GoodIn wsX2_findBranches (wsV RX2 67 RX2 yX2_comesTo wsX2_comesTo) := goodIn_app (goodIn_r _ [14, 15, 16, 11] rfl (by decide +kernel)) ggX2_findBranches_X2_comesTo
set_option maxRecDepth 20000 in
theorem ggX2_findBranches_X2_addBranch : GoodIn wsX2_findBranches wsX2_addBranch := by
  have h := goodIn_app (goodIn_r (big := wsX2_findBranches) (.code yX2_addBranch cX2_addBranch 3 none :: ([.fieldLink RX2 49 "PathProber$Net" "branches" "[I", .fieldLink RX2 52 "PathProber$Net" "branch" "[I"]) : List Cond) [21, 3, 22] rfl (by decide +kernel)) (goodIn_few (big := wsX2_findBranches) (fun _ h9 => List.mem_cons_of_mem _ (List.mem_append_right _ h9)) gb_2)
  exact h
set_option maxRecDepth 20000 in
theorem gX2_findBranches_X2_addBranch : GoodIn wsX2_findBranches (wsV RX2 71 RX2 yX2_addBranch wsX2_addBranch) := goodIn_app (goodIn_r _ [18, 19, 20, 11] rfl (by decide +kernel)) ggX2_findBranches_X2_addBranch
theorem eX2_findBranches_0q : (decode cX2_findBranches 0 = .ok (.aload_n 0, 1)) ∧ (decode cX2_findBranches 1 = .ok (.invokevirtual 64, 3)) ∧ (decode cX2_findBranches 4 = .ok (.iconst 0, 1)) ∧ (decode cX2_findBranches 5 = .ok (.istore_n 1, 1)) ∧ (decode cX2_findBranches 6 = .ok (.iload_n 1, 1)) ∧ (decode cX2_findBranches 7 = .ok (.aload_n 0, 1)) ∧ (decode cX2_findBranches 8 = .ok (.getfield 40, 3)) ∧ (decode cX2_findBranches 11 = .ok (.if_icmp .ge 88, 3)) := by decide +kernel
theorem dX2_findBranches_0 : decode cX2_findBranches 0 = .ok (.aload_n 0, 1) := eX2_findBranches_0q.1
theorem dX2_findBranches_1 : decode cX2_findBranches 1 = .ok (.invokevirtual 64, 3) := eX2_findBranches_0q.2.1
theorem dX2_findBranches_4 : decode cX2_findBranches 4 = .ok (.iconst 0, 1) := eX2_findBranches_0q.2.2.1
theorem dX2_findBranches_5 : decode cX2_findBranches 5 = .ok (.istore_n 1, 1) := eX2_findBranches_0q.2.2.2.1
theorem dX2_findBranches_6 : decode cX2_findBranches 6 = .ok (.iload_n 1, 1) := eX2_findBranches_0q.2.2.2.2.1
theorem dX2_findBranches_7 : decode cX2_findBranches 7 = .ok (.aload_n 0, 1) := eX2_findBranches_0q.2.2.2.2.2.1
theorem dX2_findBranches_8 : decode cX2_findBranches 8 = .ok (.getfield 40, 3) := eX2_findBranches_0q.2.2.2.2.2.2.1
theorem dX2_findBranches_11 : decode cX2_findBranches 11 = .ok (.if_icmp .ge 88, 3) := eX2_findBranches_0q.2.2.2.2.2.2.2
theorem eX2_findBranches_14q : (decode cX2_findBranches 14 = .ok (.iconst 0, 1)) ∧ (decode cX2_findBranches 15 = .ok (.istore_n 2, 1)) ∧ (decode cX2_findBranches 16 = .ok (.iload_n 2, 1)) ∧ (decode cX2_findBranches 17 = .ok (.aload_n 0, 1)) ∧ (decode cX2_findBranches 18 = .ok (.getfield 33, 3)) ∧ (decode cX2_findBranches 21 = .ok (.if_icmp .ge 21, 3)) ∧ (decode cX2_findBranches 24 = .ok (.aload_n 0, 1)) ∧ (decode cX2_findBranches 25 = .ok (.getfield 49, 3)) := by decide +kernel
theorem dX2_findBranches_14 : decode cX2_findBranches 14 = .ok (.iconst 0, 1) := eX2_findBranches_14q.1
theorem dX2_findBranches_15 : decode cX2_findBranches 15 = .ok (.istore_n 2, 1) := eX2_findBranches_14q.2.1
theorem dX2_findBranches_16 : decode cX2_findBranches 16 = .ok (.iload_n 2, 1) := eX2_findBranches_14q.2.2.1
theorem dX2_findBranches_17 : decode cX2_findBranches 17 = .ok (.aload_n 0, 1) := eX2_findBranches_14q.2.2.2.1
theorem dX2_findBranches_18 : decode cX2_findBranches 18 = .ok (.getfield 33, 3) := eX2_findBranches_14q.2.2.2.2.1
theorem dX2_findBranches_21 : decode cX2_findBranches 21 = .ok (.if_icmp .ge 21, 3) := eX2_findBranches_14q.2.2.2.2.2.1
theorem dX2_findBranches_24 : decode cX2_findBranches 24 = .ok (.aload_n 0, 1) := eX2_findBranches_14q.2.2.2.2.2.2.1
theorem dX2_findBranches_25 : decode cX2_findBranches 25 = .ok (.getfield 49, 3) := eX2_findBranches_14q.2.2.2.2.2.2.2
theorem eX2_findBranches_28q : (decode cX2_findBranches 28 = .ok (.iload_n 1, 1)) ∧ (decode cX2_findBranches 29 = .ok (.bipush 12, 2)) ∧ (decode cX2_findBranches 31 = .ok (.imul, 1)) ∧ (decode cX2_findBranches 32 = .ok (.iload_n 2, 1)) ∧ (decode cX2_findBranches 33 = .ok (.iadd, 1)) ∧ (decode cX2_findBranches 34 = .ok (.iconst 0, 1)) ∧ (decode cX2_findBranches 35 = .ok (.iastore, 1)) ∧ (decode cX2_findBranches 36 = .ok (.iinc 2 1, 3)) := by decide +kernel
theorem dX2_findBranches_28 : decode cX2_findBranches 28 = .ok (.iload_n 1, 1) := eX2_findBranches_28q.1
theorem dX2_findBranches_29 : decode cX2_findBranches 29 = .ok (.bipush 12, 2) := eX2_findBranches_28q.2.1
theorem dX2_findBranches_31 : decode cX2_findBranches 31 = .ok (.imul, 1) := eX2_findBranches_28q.2.2.1
theorem dX2_findBranches_32 : decode cX2_findBranches 32 = .ok (.iload_n 2, 1) := eX2_findBranches_28q.2.2.2.1
theorem dX2_findBranches_33 : decode cX2_findBranches 33 = .ok (.iadd, 1) := eX2_findBranches_28q.2.2.2.2.1
theorem dX2_findBranches_34 : decode cX2_findBranches 34 = .ok (.iconst 0, 1) := eX2_findBranches_28q.2.2.2.2.2.1
theorem dX2_findBranches_35 : decode cX2_findBranches 35 = .ok (.iastore, 1) := eX2_findBranches_28q.2.2.2.2.2.2.1
theorem dX2_findBranches_36 : decode cX2_findBranches 36 = .ok (.iinc 2 1, 3) := eX2_findBranches_28q.2.2.2.2.2.2.2
theorem eX2_findBranches_39q : (decode cX2_findBranches 39 = .ok (.goto (-23), 3)) ∧ (decode cX2_findBranches 42 = .ok (.iconst 0, 1)) ∧ (decode cX2_findBranches 43 = .ok (.istore_n 2, 1)) ∧ (decode cX2_findBranches 44 = .ok (.iload_n 2, 1)) ∧ (decode cX2_findBranches 45 = .ok (.aload_n 0, 1)) ∧ (decode cX2_findBranches 46 = .ok (.getfield 37, 3)) ∧ (decode cX2_findBranches 49 = .ok (.if_icmp .ge 44, 3)) ∧ (decode cX2_findBranches 52 = .ok (.aload_n 0, 1)) := by decide +kernel
theorem dX2_findBranches_39 : decode cX2_findBranches 39 = .ok (.goto (-23), 3) := eX2_findBranches_39q.1
theorem dX2_findBranches_42 : decode cX2_findBranches 42 = .ok (.iconst 0, 1) := eX2_findBranches_39q.2.1
theorem dX2_findBranches_43 : decode cX2_findBranches 43 = .ok (.istore_n 2, 1) := eX2_findBranches_39q.2.2.1
theorem dX2_findBranches_44 : decode cX2_findBranches 44 = .ok (.iload_n 2, 1) := eX2_findBranches_39q.2.2.2.1
theorem dX2_findBranches_45 : decode cX2_findBranches 45 = .ok (.aload_n 0, 1) := eX2_findBranches_39q.2.2.2.2.1
theorem dX2_findBranches_46 : decode cX2_findBranches 46 = .ok (.getfield 37, 3) := eX2_findBranches_39q.2.2.2.2.2.1
theorem dX2_findBranches_49 : decode cX2_findBranches 49 = .ok (.if_icmp .ge 44, 3) := eX2_findBranches_39q.2.2.2.2.2.2.1
theorem dX2_findBranches_52 : decode cX2_findBranches 52 = .ok (.aload_n 0, 1) := eX2_findBranches_39q.2.2.2.2.2.2.2
theorem eX2_findBranches_53q : (decode cX2_findBranches 53 = .ok (.aload_n 0, 1)) ∧ (decode cX2_findBranches 54 = .ok (.getfield 27, 3)) ∧ (decode cX2_findBranches 57 = .ok (.iload_n 2, 1)) ∧ (decode cX2_findBranches 58 = .ok (.iaload, 1)) ∧ (decode cX2_findBranches 59 = .ok (.aload_n 0, 1)) ∧ (decode cX2_findBranches 60 = .ok (.getfield 30, 3)) ∧ (decode cX2_findBranches 63 = .ok (.iload_n 1, 1)) ∧ (decode cX2_findBranches 64 = .ok (.iaload, 1)) := by decide +kernel
theorem dX2_findBranches_53 : decode cX2_findBranches 53 = .ok (.aload_n 0, 1) := eX2_findBranches_53q.1
theorem dX2_findBranches_54 : decode cX2_findBranches 54 = .ok (.getfield 27, 3) := eX2_findBranches_53q.2.1
theorem dX2_findBranches_57 : decode cX2_findBranches 57 = .ok (.iload_n 2, 1) := eX2_findBranches_53q.2.2.1
theorem dX2_findBranches_58 : decode cX2_findBranches 58 = .ok (.iaload, 1) := eX2_findBranches_53q.2.2.2.1
theorem dX2_findBranches_59 : decode cX2_findBranches 59 = .ok (.aload_n 0, 1) := eX2_findBranches_53q.2.2.2.2.1
theorem dX2_findBranches_60 : decode cX2_findBranches 60 = .ok (.getfield 30, 3) := eX2_findBranches_53q.2.2.2.2.2.1
theorem dX2_findBranches_63 : decode cX2_findBranches 63 = .ok (.iload_n 1, 1) := eX2_findBranches_53q.2.2.2.2.2.2.1
theorem dX2_findBranches_64 : decode cX2_findBranches 64 = .ok (.iaload, 1) := eX2_findBranches_53q.2.2.2.2.2.2.2
theorem eX2_findBranches_65q : (decode cX2_findBranches 65 = .ok (.invokevirtual 67, 3)) ∧ (decode cX2_findBranches 68 = .ok (.ifCond .eq 19, 3)) ∧ (decode cX2_findBranches 71 = .ok (.aload_n 0, 1)) ∧ (decode cX2_findBranches 72 = .ok (.iload_n 1, 1)) ∧ (decode cX2_findBranches 73 = .ok (.bipush 12, 2)) ∧ (decode cX2_findBranches 75 = .ok (.imul, 1)) ∧ (decode cX2_findBranches 76 = .ok (.aload_n 0, 1)) ∧ (decode cX2_findBranches 77 = .ok (.getfield 24, 3)) := by decide +kernel
theorem dX2_findBranches_65 : decode cX2_findBranches 65 = .ok (.invokevirtual 67, 3) := eX2_findBranches_65q.1
theorem dX2_findBranches_68 : decode cX2_findBranches 68 = .ok (.ifCond .eq 19, 3) := eX2_findBranches_65q.2.1
theorem dX2_findBranches_71 : decode cX2_findBranches 71 = .ok (.aload_n 0, 1) := eX2_findBranches_65q.2.2.1
theorem dX2_findBranches_72 : decode cX2_findBranches 72 = .ok (.iload_n 1, 1) := eX2_findBranches_65q.2.2.2.1
theorem dX2_findBranches_73 : decode cX2_findBranches 73 = .ok (.bipush 12, 2) := eX2_findBranches_65q.2.2.2.2.1
theorem dX2_findBranches_75 : decode cX2_findBranches 75 = .ok (.imul, 1) := eX2_findBranches_65q.2.2.2.2.2.1
theorem dX2_findBranches_76 : decode cX2_findBranches 76 = .ok (.aload_n 0, 1) := eX2_findBranches_65q.2.2.2.2.2.2.1
theorem dX2_findBranches_77 : decode cX2_findBranches 77 = .ok (.getfield 24, 3) := eX2_findBranches_65q.2.2.2.2.2.2.2
theorem eX2_findBranches_80q : (decode cX2_findBranches 80 = .ok (.iload_n 2, 1)) ∧ (decode cX2_findBranches 81 = .ok (.iaload, 1)) ∧ (decode cX2_findBranches 82 = .ok (.iadd, 1)) ∧ (decode cX2_findBranches 83 = .ok (.iload_n 2, 1)) ∧ (decode cX2_findBranches 84 = .ok (.invokevirtual 71, 3)) ∧ (decode cX2_findBranches 87 = .ok (.iinc 2 1, 3)) ∧ (decode cX2_findBranches 90 = .ok (.goto (-46), 3)) ∧ (decode cX2_findBranches 93 = .ok (.iinc 1 1, 3)) := by decide +kernel
theorem dX2_findBranches_80 : decode cX2_findBranches 80 = .ok (.iload_n 2, 1) := eX2_findBranches_80q.1
theorem dX2_findBranches_81 : decode cX2_findBranches 81 = .ok (.iaload, 1) := eX2_findBranches_80q.2.1
theorem dX2_findBranches_82 : decode cX2_findBranches 82 = .ok (.iadd, 1) := eX2_findBranches_80q.2.2.1
theorem dX2_findBranches_83 : decode cX2_findBranches 83 = .ok (.iload_n 2, 1) := eX2_findBranches_80q.2.2.2.1
theorem dX2_findBranches_84 : decode cX2_findBranches 84 = .ok (.invokevirtual 71, 3) := eX2_findBranches_80q.2.2.2.2.1
theorem dX2_findBranches_87 : decode cX2_findBranches 87 = .ok (.iinc 2 1, 3) := eX2_findBranches_80q.2.2.2.2.2.1
theorem dX2_findBranches_90 : decode cX2_findBranches 90 = .ok (.goto (-46), 3) := eX2_findBranches_80q.2.2.2.2.2.2.1
theorem dX2_findBranches_93 : decode cX2_findBranches 93 = .ok (.iinc 1 1, 3) := eX2_findBranches_80q.2.2.2.2.2.2.2
theorem dX2_findBranches_96 : decode cX2_findBranches 96 = .ok (.goto (-90), 3) := by decide +kernel
theorem dX2_findBranches_99 : decode cX2_findBranches 99 = .ok (.return_, 1) := by decide +kernel
theorem eX2_addBranch_0q : (decode cX2_addBranch 0 = .ok (.aload_n 0, 1)) ∧ (decode cX2_addBranch 1 = .ok (.getfield 49, 3)) ∧ (decode cX2_addBranch 4 = .ok (.iload_n 1, 1)) ∧ (decode cX2_addBranch 5 = .ok (.iaload, 1)) ∧ (decode cX2_addBranch 6 = .ok (.iconst 4, 1)) ∧ (decode cX2_addBranch 7 = .ok (.if_icmp .ge 29, 3)) ∧ (decode cX2_addBranch 10 = .ok (.aload_n 0, 1)) ∧ (decode cX2_addBranch 11 = .ok (.getfield 52, 3)) := by decide +kernel
theorem dX2_addBranch_0 : decode cX2_addBranch 0 = .ok (.aload_n 0, 1) := eX2_addBranch_0q.1
theorem dX2_addBranch_1 : decode cX2_addBranch 1 = .ok (.getfield 49, 3) := eX2_addBranch_0q.2.1
theorem dX2_addBranch_4 : decode cX2_addBranch 4 = .ok (.iload_n 1, 1) := eX2_addBranch_0q.2.2.1
theorem dX2_addBranch_5 : decode cX2_addBranch 5 = .ok (.iaload, 1) := eX2_addBranch_0q.2.2.2.1
theorem dX2_addBranch_6 : decode cX2_addBranch 6 = .ok (.iconst 4, 1) := eX2_addBranch_0q.2.2.2.2.1
theorem dX2_addBranch_7 : decode cX2_addBranch 7 = .ok (.if_icmp .ge 29, 3) := eX2_addBranch_0q.2.2.2.2.2.1
theorem dX2_addBranch_10 : decode cX2_addBranch 10 = .ok (.aload_n 0, 1) := eX2_addBranch_0q.2.2.2.2.2.2.1
theorem dX2_addBranch_11 : decode cX2_addBranch 11 = .ok (.getfield 52, 3) := eX2_addBranch_0q.2.2.2.2.2.2.2
theorem eX2_addBranch_14q : (decode cX2_addBranch 14 = .ok (.iload_n 1, 1)) ∧ (decode cX2_addBranch 15 = .ok (.iconst 4, 1)) ∧ (decode cX2_addBranch 16 = .ok (.imul, 1)) ∧ (decode cX2_addBranch 17 = .ok (.aload_n 0, 1)) ∧ (decode cX2_addBranch 18 = .ok (.getfield 49, 3)) ∧ (decode cX2_addBranch 21 = .ok (.iload_n 1, 1)) ∧ (decode cX2_addBranch 22 = .ok (.iaload, 1)) ∧ (decode cX2_addBranch 23 = .ok (.iadd, 1)) := by decide +kernel
theorem dX2_addBranch_14 : decode cX2_addBranch 14 = .ok (.iload_n 1, 1) := eX2_addBranch_14q.1
theorem dX2_addBranch_15 : decode cX2_addBranch 15 = .ok (.iconst 4, 1) := eX2_addBranch_14q.2.1
theorem dX2_addBranch_16 : decode cX2_addBranch 16 = .ok (.imul, 1) := eX2_addBranch_14q.2.2.1
theorem dX2_addBranch_17 : decode cX2_addBranch 17 = .ok (.aload_n 0, 1) := eX2_addBranch_14q.2.2.2.1
theorem dX2_addBranch_18 : decode cX2_addBranch 18 = .ok (.getfield 49, 3) := eX2_addBranch_14q.2.2.2.2.1
theorem dX2_addBranch_21 : decode cX2_addBranch 21 = .ok (.iload_n 1, 1) := eX2_addBranch_14q.2.2.2.2.2.1
theorem dX2_addBranch_22 : decode cX2_addBranch 22 = .ok (.iaload, 1) := eX2_addBranch_14q.2.2.2.2.2.2.1
theorem dX2_addBranch_23 : decode cX2_addBranch 23 = .ok (.iadd, 1) := eX2_addBranch_14q.2.2.2.2.2.2.2
theorem eX2_addBranch_24q : (decode cX2_addBranch 24 = .ok (.iload_n 2, 1)) ∧ (decode cX2_addBranch 25 = .ok (.iastore, 1)) ∧ (decode cX2_addBranch 26 = .ok (.aload_n 0, 1)) ∧ (decode cX2_addBranch 27 = .ok (.getfield 49, 3)) ∧ (decode cX2_addBranch 30 = .ok (.iload_n 1, 1)) ∧ (decode cX2_addBranch 31 = .ok (.dup2, 1)) ∧ (decode cX2_addBranch 32 = .ok (.iaload, 1)) ∧ (decode cX2_addBranch 33 = .ok (.iconst 1, 1)) := by decide +kernel
theorem dX2_addBranch_24 : decode cX2_addBranch 24 = .ok (.iload_n 2, 1) := eX2_addBranch_24q.1
theorem dX2_addBranch_25 : decode cX2_addBranch 25 = .ok (.iastore, 1) := eX2_addBranch_24q.2.1
theorem dX2_addBranch_26 : decode cX2_addBranch 26 = .ok (.aload_n 0, 1) := eX2_addBranch_24q.2.2.1
theorem dX2_addBranch_27 : decode cX2_addBranch 27 = .ok (.getfield 49, 3) := eX2_addBranch_24q.2.2.2.1
theorem dX2_addBranch_30 : decode cX2_addBranch 30 = .ok (.iload_n 1, 1) := eX2_addBranch_24q.2.2.2.2.1
theorem dX2_addBranch_31 : decode cX2_addBranch 31 = .ok (.dup2, 1) := eX2_addBranch_24q.2.2.2.2.2.1
theorem dX2_addBranch_32 : decode cX2_addBranch 32 = .ok (.iaload, 1) := eX2_addBranch_24q.2.2.2.2.2.2.1
theorem dX2_addBranch_33 : decode cX2_addBranch 33 = .ok (.iconst 1, 1) := eX2_addBranch_24q.2.2.2.2.2.2.2
theorem eX2_addBranch_34q : (decode cX2_addBranch 34 = .ok (.iadd, 1)) ∧ (decode cX2_addBranch 35 = .ok (.iastore, 1)) ∧ (decode cX2_addBranch 36 = .ok (.return_, 1)) := by decide +kernel
theorem dX2_addBranch_34 : decode cX2_addBranch 34 = .ok (.iadd, 1) := eX2_addBranch_34q.1
theorem dX2_addBranch_35 : decode cX2_addBranch 35 = .ok (.iastore, 1) := eX2_addBranch_34q.2.1
theorem dX2_addBranch_36 : decode cX2_addBranch 36 = .ok (.return_, 1) := eX2_addBranch_34q.2.2
theorem eX2_findReach_0q : (decode cX2_findReach 0 = .ok (.aload_n 0, 1)) ∧ (decode cX2_findReach 1 = .ok (.getfield 33, 3)) ∧ (decode cX2_findReach 4 = .ok (.iconst 1, 1)) ∧ (decode cX2_findReach 5 = .ok (.isub, 1)) ∧ (decode cX2_findReach 6 = .ok (.istore_n 1, 1)) ∧ (decode cX2_findReach 7 = .ok (.iload_n 1, 1)) ∧ (decode cX2_findReach 8 = .ok (.ifCond .lt 64, 3)) ∧ (decode cX2_findReach 11 = .ok (.aload_n 0, 1)) := by decide +kernel
theorem dX2_findReach_0 : decode cX2_findReach 0 = .ok (.aload_n 0, 1) := eX2_findReach_0q.1
theorem dX2_findReach_1 : decode cX2_findReach 1 = .ok (.getfield 33, 3) := eX2_findReach_0q.2.1
theorem dX2_findReach_4 : decode cX2_findReach 4 = .ok (.iconst 1, 1) := eX2_findReach_0q.2.2.1
theorem dX2_findReach_5 : decode cX2_findReach 5 = .ok (.isub, 1) := eX2_findReach_0q.2.2.2.1
theorem dX2_findReach_6 : decode cX2_findReach 6 = .ok (.istore_n 1, 1) := eX2_findReach_0q.2.2.2.2.1
theorem dX2_findReach_7 : decode cX2_findReach 7 = .ok (.iload_n 1, 1) := eX2_findReach_0q.2.2.2.2.2.1
theorem dX2_findReach_8 : decode cX2_findReach 8 = .ok (.ifCond .lt 64, 3) := eX2_findReach_0q.2.2.2.2.2.2.1
theorem dX2_findReach_11 : decode cX2_findReach 11 = .ok (.aload_n 0, 1) := eX2_findReach_0q.2.2.2.2.2.2.2
theorem eX2_findReach_12q : (decode cX2_findReach 12 = .ok (.getfield 46, 3)) ∧ (decode cX2_findReach 15 = .ok (.iload_n 1, 1)) ∧ (decode cX2_findReach 16 = .ok (.iconst 1, 1)) ∧ (decode cX2_findReach 17 = .ok (.iload_n 1, 1)) ∧ (decode cX2_findReach 18 = .ok (.ishl, 1)) ∧ (decode cX2_findReach 19 = .ok (.iastore, 1)) ∧ (decode cX2_findReach 20 = .ok (.iconst 0, 1)) ∧ (decode cX2_findReach 21 = .ok (.istore_n 2, 1)) := by decide +kernel
theorem dX2_findReach_12 : decode cX2_findReach 12 = .ok (.getfield 46, 3) := eX2_findReach_12q.1
theorem dX2_findReach_15 : decode cX2_findReach 15 = .ok (.iload_n 1, 1) := eX2_findReach_12q.2.1
theorem dX2_findReach_16 : decode cX2_findReach 16 = .ok (.iconst 1, 1) := eX2_findReach_12q.2.2.1
theorem dX2_findReach_17 : decode cX2_findReach 17 = .ok (.iload_n 1, 1) := eX2_findReach_12q.2.2.2.1
theorem dX2_findReach_18 : decode cX2_findReach 18 = .ok (.ishl, 1) := eX2_findReach_12q.2.2.2.2.1
theorem dX2_findReach_19 : decode cX2_findReach 19 = .ok (.iastore, 1) := eX2_findReach_12q.2.2.2.2.2.1
theorem dX2_findReach_20 : decode cX2_findReach 20 = .ok (.iconst 0, 1) := eX2_findReach_12q.2.2.2.2.2.2.1
theorem dX2_findReach_21 : decode cX2_findReach 21 = .ok (.istore_n 2, 1) := eX2_findReach_12q.2.2.2.2.2.2.2
theorem eX2_findReach_22q : (decode cX2_findReach 22 = .ok (.iload_n 2, 1)) ∧ (decode cX2_findReach 23 = .ok (.aload_n 0, 1)) ∧ (decode cX2_findReach 24 = .ok (.getfield 37, 3)) ∧ (decode cX2_findReach 27 = .ok (.if_icmp .ge 39, 3)) ∧ (decode cX2_findReach 30 = .ok (.aload_n 0, 1)) ∧ (decode cX2_findReach 31 = .ok (.getfield 24, 3)) ∧ (decode cX2_findReach 34 = .ok (.iload_n 2, 1)) ∧ (decode cX2_findReach 35 = .ok (.iaload, 1)) := by decide +kernel
theorem dX2_findReach_22 : decode cX2_findReach 22 = .ok (.iload_n 2, 1) := eX2_findReach_22q.1
theorem dX2_findReach_23 : decode cX2_findReach 23 = .ok (.aload_n 0, 1) := eX2_findReach_22q.2.1
theorem dX2_findReach_24 : decode cX2_findReach 24 = .ok (.getfield 37, 3) := eX2_findReach_22q.2.2.1
theorem dX2_findReach_27 : decode cX2_findReach 27 = .ok (.if_icmp .ge 39, 3) := eX2_findReach_22q.2.2.2.1
theorem dX2_findReach_30 : decode cX2_findReach 30 = .ok (.aload_n 0, 1) := eX2_findReach_22q.2.2.2.2.1
theorem dX2_findReach_31 : decode cX2_findReach 31 = .ok (.getfield 24, 3) := eX2_findReach_22q.2.2.2.2.2.1
theorem dX2_findReach_34 : decode cX2_findReach 34 = .ok (.iload_n 2, 1) := eX2_findReach_22q.2.2.2.2.2.2.1
theorem dX2_findReach_35 : decode cX2_findReach 35 = .ok (.iaload, 1) := eX2_findReach_22q.2.2.2.2.2.2.2
theorem eX2_findReach_36q : (decode cX2_findReach 36 = .ok (.iload_n 1, 1)) ∧ (decode cX2_findReach 37 = .ok (.if_icmp .ne 23, 3)) ∧ (decode cX2_findReach 40 = .ok (.aload_n 0, 1)) ∧ (decode cX2_findReach 41 = .ok (.getfield 46, 3)) ∧ (decode cX2_findReach 44 = .ok (.iload_n 1, 1)) ∧ (decode cX2_findReach 45 = .ok (.dup2, 1)) ∧ (decode cX2_findReach 46 = .ok (.iaload, 1)) ∧ (decode cX2_findReach 47 = .ok (.aload_n 0, 1)) := by decide +kernel
theorem dX2_findReach_36 : decode cX2_findReach 36 = .ok (.iload_n 1, 1) := eX2_findReach_36q.1
theorem dX2_findReach_37 : decode cX2_findReach 37 = .ok (.if_icmp .ne 23, 3) := eX2_findReach_36q.2.1
theorem dX2_findReach_40 : decode cX2_findReach 40 = .ok (.aload_n 0, 1) := eX2_findReach_36q.2.2.1
theorem dX2_findReach_41 : decode cX2_findReach 41 = .ok (.getfield 46, 3) := eX2_findReach_36q.2.2.2.1
theorem dX2_findReach_44 : decode cX2_findReach 44 = .ok (.iload_n 1, 1) := eX2_findReach_36q.2.2.2.2.1
theorem dX2_findReach_45 : decode cX2_findReach 45 = .ok (.dup2, 1) := eX2_findReach_36q.2.2.2.2.2.1
theorem dX2_findReach_46 : decode cX2_findReach 46 = .ok (.iaload, 1) := eX2_findReach_36q.2.2.2.2.2.2.1
theorem dX2_findReach_47 : decode cX2_findReach 47 = .ok (.aload_n 0, 1) := eX2_findReach_36q.2.2.2.2.2.2.2
theorem eX2_findReach_48q : (decode cX2_findReach 48 = .ok (.getfield 46, 3)) ∧ (decode cX2_findReach 51 = .ok (.aload_n 0, 1)) ∧ (decode cX2_findReach 52 = .ok (.getfield 27, 3)) ∧ (decode cX2_findReach 55 = .ok (.iload_n 2, 1)) ∧ (decode cX2_findReach 56 = .ok (.iaload, 1)) ∧ (decode cX2_findReach 57 = .ok (.iaload, 1)) ∧ (decode cX2_findReach 58 = .ok (.ior, 1)) ∧ (decode cX2_findReach 59 = .ok (.iastore, 1)) := by decide +kernel
theorem dX2_findReach_48 : decode cX2_findReach 48 = .ok (.getfield 46, 3) := eX2_findReach_48q.1
theorem dX2_findReach_51 : decode cX2_findReach 51 = .ok (.aload_n 0, 1) := eX2_findReach_48q.2.1
theorem dX2_findReach_52 : decode cX2_findReach 52 = .ok (.getfield 27, 3) := eX2_findReach_48q.2.2.1
theorem dX2_findReach_55 : decode cX2_findReach 55 = .ok (.iload_n 2, 1) := eX2_findReach_48q.2.2.2.1
theorem dX2_findReach_56 : decode cX2_findReach 56 = .ok (.iaload, 1) := eX2_findReach_48q.2.2.2.2.1
theorem dX2_findReach_57 : decode cX2_findReach 57 = .ok (.iaload, 1) := eX2_findReach_48q.2.2.2.2.2.1
theorem dX2_findReach_58 : decode cX2_findReach 58 = .ok (.ior, 1) := eX2_findReach_48q.2.2.2.2.2.2.1
theorem dX2_findReach_59 : decode cX2_findReach 59 = .ok (.iastore, 1) := eX2_findReach_48q.2.2.2.2.2.2.2
theorem eX2_findReach_60q : (decode cX2_findReach 60 = .ok (.iinc 2 1, 3)) ∧ (decode cX2_findReach 63 = .ok (.goto (-41), 3)) ∧ (decode cX2_findReach 66 = .ok (.iinc 1 (-1), 3)) ∧ (decode cX2_findReach 69 = .ok (.goto (-62), 3)) ∧ (decode cX2_findReach 72 = .ok (.return_, 1)) := by decide +kernel
theorem dX2_findReach_60 : decode cX2_findReach 60 = .ok (.iinc 2 1, 3) := eX2_findReach_60q.1
theorem dX2_findReach_63 : decode cX2_findReach 63 = .ok (.goto (-41), 3) := eX2_findReach_60q.2.1
theorem dX2_findReach_66 : decode cX2_findReach 66 = .ok (.iinc 1 (-1), 3) := eX2_findReach_60q.2.2.1
theorem dX2_findReach_69 : decode cX2_findReach 69 = .ok (.goto (-62), 3) := eX2_findReach_60q.2.2.2.1
theorem dX2_findReach_72 : decode cX2_findReach 72 = .ok (.return_, 1) := eX2_findReach_60q.2.2.2.2
theorem eX2_comesTo_0q : (decode cX2_comesTo 0 = .ok (.aload_n 0, 1)) ∧ (decode cX2_comesTo 1 = .ok (.getfield 46, 3)) ∧ (decode cX2_comesTo 4 = .ok (.iload_n 1, 1)) ∧ (decode cX2_comesTo 5 = .ok (.iaload, 1)) ∧ (decode cX2_comesTo 6 = .ok (.iload_n 2, 1)) ∧ (decode cX2_comesTo 7 = .ok (.ishr, 1)) ∧ (decode cX2_comesTo 8 = .ok (.iconst 1, 1)) ∧ (decode cX2_comesTo 9 = .ok (.iand, 1)) := by decide +kernel
theorem dX2_comesTo_0 : decode cX2_comesTo 0 = .ok (.aload_n 0, 1) := eX2_comesTo_0q.1
theorem dX2_comesTo_1 : decode cX2_comesTo 1 = .ok (.getfield 46, 3) := eX2_comesTo_0q.2.1
theorem dX2_comesTo_4 : decode cX2_comesTo 4 = .ok (.iload_n 1, 1) := eX2_comesTo_0q.2.2.1
theorem dX2_comesTo_5 : decode cX2_comesTo 5 = .ok (.iaload, 1) := eX2_comesTo_0q.2.2.2.1
theorem dX2_comesTo_6 : decode cX2_comesTo 6 = .ok (.iload_n 2, 1) := eX2_comesTo_0q.2.2.2.2.1
theorem dX2_comesTo_7 : decode cX2_comesTo 7 = .ok (.ishr, 1) := eX2_comesTo_0q.2.2.2.2.2.1
theorem dX2_comesTo_8 : decode cX2_comesTo 8 = .ok (.iconst 1, 1) := eX2_comesTo_0q.2.2.2.2.2.2.1
theorem dX2_comesTo_9 : decode cX2_comesTo 9 = .ok (.iand, 1) := eX2_comesTo_0q.2.2.2.2.2.2.2
theorem eX2_comesTo_10q : (decode cX2_comesTo 10 = .ok (.iconst 1, 1)) ∧ (decode cX2_comesTo 11 = .ok (.if_icmp .ne 7, 3)) ∧ (decode cX2_comesTo 14 = .ok (.iconst 1, 1)) ∧ (decode cX2_comesTo 15 = .ok (.goto 4, 3)) ∧ (decode cX2_comesTo 18 = .ok (.iconst 0, 1)) ∧ (decode cX2_comesTo 19 = .ok (.ireturn, 1)) := by decide +kernel
theorem dX2_comesTo_10 : decode cX2_comesTo 10 = .ok (.iconst 1, 1) := eX2_comesTo_10q.1
theorem dX2_comesTo_11 : decode cX2_comesTo 11 = .ok (.if_icmp .ne 7, 3) := eX2_comesTo_10q.2.1
theorem dX2_comesTo_14 : decode cX2_comesTo 14 = .ok (.iconst 1, 1) := eX2_comesTo_10q.2.2.1
theorem dX2_comesTo_15 : decode cX2_comesTo 15 = .ok (.goto 4, 3) := eX2_comesTo_10q.2.2.2.1
theorem dX2_comesTo_18 : decode cX2_comesTo 18 = .ok (.iconst 0, 1) := eX2_comesTo_10q.2.2.2.2.1
theorem dX2_comesTo_19 : decode cX2_comesTo 19 = .ok (.ireturn, 1) := eX2_comesTo_10q.2.2.2.2.2
theorem eX2_branchesOf_0q : (decode cX2_branchesOf 0 = .ok (.aload_n 0, 1)) ∧ (decode cX2_branchesOf 1 = .ok (.getfield 49, 3)) ∧ (decode cX2_branchesOf 4 = .ok (.iload_n 2, 1)) ∧ (decode cX2_branchesOf 5 = .ok (.bipush 12, 2)) ∧ (decode cX2_branchesOf 7 = .ok (.imul, 1)) ∧ (decode cX2_branchesOf 8 = .ok (.iload_n 1, 1)) ∧ (decode cX2_branchesOf 9 = .ok (.iadd, 1)) ∧ (decode cX2_branchesOf 10 = .ok (.iaload, 1)) := by decide +kernel
theorem dX2_branchesOf_0 : decode cX2_branchesOf 0 = .ok (.aload_n 0, 1) := eX2_branchesOf_0q.1
theorem dX2_branchesOf_1 : decode cX2_branchesOf 1 = .ok (.getfield 49, 3) := eX2_branchesOf_0q.2.1
theorem dX2_branchesOf_4 : decode cX2_branchesOf 4 = .ok (.iload_n 2, 1) := eX2_branchesOf_0q.2.2.1
theorem dX2_branchesOf_5 : decode cX2_branchesOf 5 = .ok (.bipush 12, 2) := eX2_branchesOf_0q.2.2.2.1
theorem dX2_branchesOf_7 : decode cX2_branchesOf 7 = .ok (.imul, 1) := eX2_branchesOf_0q.2.2.2.2.1
theorem dX2_branchesOf_8 : decode cX2_branchesOf 8 = .ok (.iload_n 1, 1) := eX2_branchesOf_0q.2.2.2.2.2.1
theorem dX2_branchesOf_9 : decode cX2_branchesOf 9 = .ok (.iadd, 1) := eX2_branchesOf_0q.2.2.2.2.2.2.1
theorem dX2_branchesOf_10 : decode cX2_branchesOf 10 = .ok (.iaload, 1) := eX2_branchesOf_0q.2.2.2.2.2.2.2
theorem dX2_branchesOf_11 : decode cX2_branchesOf 11 = .ok (.ireturn, 1) := by decide +kernel
theorem eX2_branchOf_0q : (decode cX2_branchOf 0 = .ok (.aload_n 0, 1)) ∧ (decode cX2_branchOf 1 = .ok (.getfield 52, 3)) ∧ (decode cX2_branchOf 4 = .ok (.iload_n 2, 1)) ∧ (decode cX2_branchOf 5 = .ok (.bipush 12, 2)) ∧ (decode cX2_branchOf 7 = .ok (.imul, 1)) ∧ (decode cX2_branchOf 8 = .ok (.iload_n 1, 1)) ∧ (decode cX2_branchOf 9 = .ok (.iadd, 1)) ∧ (decode cX2_branchOf 10 = .ok (.iconst 4, 1)) := by decide +kernel
theorem dX2_branchOf_0 : decode cX2_branchOf 0 = .ok (.aload_n 0, 1) := eX2_branchOf_0q.1
theorem dX2_branchOf_1 : decode cX2_branchOf 1 = .ok (.getfield 52, 3) := eX2_branchOf_0q.2.1
theorem dX2_branchOf_4 : decode cX2_branchOf 4 = .ok (.iload_n 2, 1) := eX2_branchOf_0q.2.2.1
theorem dX2_branchOf_5 : decode cX2_branchOf 5 = .ok (.bipush 12, 2) := eX2_branchOf_0q.2.2.2.1
theorem dX2_branchOf_7 : decode cX2_branchOf 7 = .ok (.imul, 1) := eX2_branchOf_0q.2.2.2.2.1
theorem dX2_branchOf_8 : decode cX2_branchOf 8 = .ok (.iload_n 1, 1) := eX2_branchOf_0q.2.2.2.2.2.1
theorem dX2_branchOf_9 : decode cX2_branchOf 9 = .ok (.iadd, 1) := eX2_branchOf_0q.2.2.2.2.2.2.1
theorem dX2_branchOf_10 : decode cX2_branchOf 10 = .ok (.iconst 4, 1) := eX2_branchOf_0q.2.2.2.2.2.2.2
theorem eX2_branchOf_11q : (decode cX2_branchOf 11 = .ok (.imul, 1)) ∧ (decode cX2_branchOf 12 = .ok (.iload_n 3, 1)) ∧ (decode cX2_branchOf 13 = .ok (.iadd, 1)) ∧ (decode cX2_branchOf 14 = .ok (.iaload, 1)) ∧ (decode cX2_branchOf 15 = .ok (.ireturn, 1)) := by decide +kernel
theorem dX2_branchOf_11 : decode cX2_branchOf 11 = .ok (.imul, 1) := eX2_branchOf_11q.1
theorem dX2_branchOf_12 : decode cX2_branchOf 12 = .ok (.iload_n 3, 1) := eX2_branchOf_11q.2.1
theorem dX2_branchOf_13 : decode cX2_branchOf 13 = .ok (.iadd, 1) := eX2_branchOf_11q.2.2.1
theorem dX2_branchOf_14 : decode cX2_branchOf 14 = .ok (.iaload, 1) := eX2_branchOf_11q.2.2.2.1
theorem dX2_branchOf_15 : decode cX2_branchOf 15 = .ok (.ireturn, 1) := eX2_branchOf_11q.2.2.2.2
set_option maxRecDepth 20000 in
theorem ggX2_waysTo_X2_branchesOf : GoodIn wsX2_waysTo wsX2_branchesOf := by
  have h := goodIn_app (goodIn_r (big := wsX2_waysTo) (.code yX2_branchesOf cX2_branchesOf 3 (some .int) :: ([.fieldLink RX2 49 "PathProber$Net" "branches" "[I"]) : List Cond) [9, 10] rfl (by decide +kernel)) (goodIn_few (big := wsX2_waysTo) (fun _ h9 => List.mem_cons_of_mem _ (List.mem_append_right _ h9)) gb_2)
  exact h
set_option maxRecDepth 20000 in
theorem gX2_waysTo_X2_branchesOf : GoodIn wsX2_waysTo (wsV RX2 75 RX2 yX2_branchesOf wsX2_branchesOf) := goodIn_app (goodIn_r _ [5, 6, 7, 8] rfl (by decide +kernel)) ggX2_waysTo_X2_branchesOf
set_option maxRecDepth 20000 in
theorem ggX2_waysTo_X2_branchOf : GoodIn wsX2_waysTo wsX2_branchOf := by
  have h := goodIn_app (goodIn_r (big := wsX2_waysTo) (.code yX2_branchOf cX2_branchOf 4 (some .int) :: ([.fieldLink RX2 52 "PathProber$Net" "branch" "[I"]) : List Cond) [14, 15] rfl (by decide +kernel)) (goodIn_few (big := wsX2_waysTo) (fun _ h9 => List.mem_cons_of_mem _ (List.mem_append_right _ h9)) gb_2)
  exact h
set_option maxRecDepth 20000 in
theorem gX2_waysTo_X2_branchOf : GoodIn wsX2_waysTo (wsV RX2 79 RX2 yX2_branchOf wsX2_branchOf) := goodIn_app (goodIn_r _ [11, 12, 13, 8] rfl (by decide +kernel)) ggX2_waysTo_X2_branchOf
theorem eX2_waysTo_0q : (decode cX2_waysTo 0 = .ok (.aload_n 0, 1)) ∧ (decode cX2_waysTo 1 = .ok (.getfield 33, 3)) ∧ (decode cX2_waysTo 4 = .ok (.iconst 1, 1)) ∧ (decode cX2_waysTo 5 = .ok (.isub, 1)) ∧ (decode cX2_waysTo 6 = .ok (.istore_n 2, 1)) ∧ (decode cX2_waysTo 7 = .ok (.iload_n 2, 1)) ∧ (decode cX2_waysTo 8 = .ok (.ifCond .lt 73, 3)) ∧ (decode cX2_waysTo 11 = .ok (.iload_n 2, 1)) := by decide +kernel
theorem dX2_waysTo_0 : decode cX2_waysTo 0 = .ok (.aload_n 0, 1) := eX2_waysTo_0q.1
theorem dX2_waysTo_1 : decode cX2_waysTo 1 = .ok (.getfield 33, 3) := eX2_waysTo_0q.2.1
theorem dX2_waysTo_4 : decode cX2_waysTo 4 = .ok (.iconst 1, 1) := eX2_waysTo_0q.2.2.1
theorem dX2_waysTo_5 : decode cX2_waysTo 5 = .ok (.isub, 1) := eX2_waysTo_0q.2.2.2.1
theorem dX2_waysTo_6 : decode cX2_waysTo 6 = .ok (.istore_n 2, 1) := eX2_waysTo_0q.2.2.2.2.1
theorem dX2_waysTo_7 : decode cX2_waysTo 7 = .ok (.iload_n 2, 1) := eX2_waysTo_0q.2.2.2.2.2.1
theorem dX2_waysTo_8 : decode cX2_waysTo 8 = .ok (.ifCond .lt 73, 3) := eX2_waysTo_0q.2.2.2.2.2.2.1
theorem dX2_waysTo_11 : decode cX2_waysTo 11 = .ok (.iload_n 2, 1) := eX2_waysTo_0q.2.2.2.2.2.2.2
theorem eX2_waysTo_12q : (decode cX2_waysTo 12 = .ok (.aload_n 0, 1)) ∧ (decode cX2_waysTo 13 = .ok (.getfield 30, 3)) ∧ (decode cX2_waysTo 16 = .ok (.iload_n 1, 1)) ∧ (decode cX2_waysTo 17 = .ok (.iaload, 1)) ∧ (decode cX2_waysTo 18 = .ok (.if_icmp .ne 7, 3)) ∧ (decode cX2_waysTo 21 = .ok (.iconst 1, 1)) ∧ (decode cX2_waysTo 22 = .ok (.goto 4, 3)) ∧ (decode cX2_waysTo 25 = .ok (.iconst 0, 1)) := by decide +kernel
theorem dX2_waysTo_12 : decode cX2_waysTo 12 = .ok (.aload_n 0, 1) := eX2_waysTo_12q.1
theorem dX2_waysTo_13 : decode cX2_waysTo 13 = .ok (.getfield 30, 3) := eX2_waysTo_12q.2.1
theorem dX2_waysTo_16 : decode cX2_waysTo 16 = .ok (.iload_n 1, 1) := eX2_waysTo_12q.2.2.1
theorem dX2_waysTo_17 : decode cX2_waysTo 17 = .ok (.iaload, 1) := eX2_waysTo_12q.2.2.2.1
theorem dX2_waysTo_18 : decode cX2_waysTo 18 = .ok (.if_icmp .ne 7, 3) := eX2_waysTo_12q.2.2.2.2.1
theorem dX2_waysTo_21 : decode cX2_waysTo 21 = .ok (.iconst 1, 1) := eX2_waysTo_12q.2.2.2.2.2.1
theorem dX2_waysTo_22 : decode cX2_waysTo 22 = .ok (.goto 4, 3) := eX2_waysTo_12q.2.2.2.2.2.2.1
theorem dX2_waysTo_25 : decode cX2_waysTo 25 = .ok (.iconst 0, 1) := eX2_waysTo_12q.2.2.2.2.2.2.2
theorem eX2_waysTo_26q : (decode cX2_waysTo 26 = .ok (.istore_n 3, 1)) ∧ (decode cX2_waysTo 27 = .ok (.iconst 0, 1)) ∧ (decode cX2_waysTo 28 = .ok (.istore 4, 2)) ∧ (decode cX2_waysTo 30 = .ok (.iload 4, 2)) ∧ (decode cX2_waysTo 32 = .ok (.aload_n 0, 1)) ∧ (decode cX2_waysTo 33 = .ok (.iload_n 2, 1)) ∧ (decode cX2_waysTo 34 = .ok (.iload_n 1, 1)) ∧ (decode cX2_waysTo 35 = .ok (.invokevirtual 75, 3)) := by decide +kernel
theorem dX2_waysTo_26 : decode cX2_waysTo 26 = .ok (.istore_n 3, 1) := eX2_waysTo_26q.1
theorem dX2_waysTo_27 : decode cX2_waysTo 27 = .ok (.iconst 0, 1) := eX2_waysTo_26q.2.1
theorem dX2_waysTo_28 : decode cX2_waysTo 28 = .ok (.istore 4, 2) := eX2_waysTo_26q.2.2.1
theorem dX2_waysTo_30 : decode cX2_waysTo 30 = .ok (.iload 4, 2) := eX2_waysTo_26q.2.2.2.1
theorem dX2_waysTo_32 : decode cX2_waysTo 32 = .ok (.aload_n 0, 1) := eX2_waysTo_26q.2.2.2.2.1
theorem dX2_waysTo_33 : decode cX2_waysTo 33 = .ok (.iload_n 2, 1) := eX2_waysTo_26q.2.2.2.2.2.1
theorem dX2_waysTo_34 : decode cX2_waysTo 34 = .ok (.iload_n 1, 1) := eX2_waysTo_26q.2.2.2.2.2.2.1
theorem dX2_waysTo_35 : decode cX2_waysTo 35 = .ok (.invokevirtual 75, 3) := eX2_waysTo_26q.2.2.2.2.2.2.2
theorem eX2_waysTo_38q : (decode cX2_waysTo 38 = .ok (.if_icmp .ge 30, 3)) ∧ (decode cX2_waysTo 41 = .ok (.iload_n 3, 1)) ∧ (decode cX2_waysTo 42 = .ok (.aload_n 0, 1)) ∧ (decode cX2_waysTo 43 = .ok (.getfield 55, 3)) ∧ (decode cX2_waysTo 46 = .ok (.aload_n 0, 1)) ∧ (decode cX2_waysTo 47 = .ok (.getfield 27, 3)) ∧ (decode cX2_waysTo 50 = .ok (.aload_n 0, 1)) ∧ (decode cX2_waysTo 51 = .ok (.iload_n 2, 1)) := by decide +kernel
theorem dX2_waysTo_38 : decode cX2_waysTo 38 = .ok (.if_icmp .ge 30, 3) := eX2_waysTo_38q.1
theorem dX2_waysTo_41 : decode cX2_waysTo 41 = .ok (.iload_n 3, 1) := eX2_waysTo_38q.2.1
theorem dX2_waysTo_42 : decode cX2_waysTo 42 = .ok (.aload_n 0, 1) := eX2_waysTo_38q.2.2.1
theorem dX2_waysTo_43 : decode cX2_waysTo 43 = .ok (.getfield 55, 3) := eX2_waysTo_38q.2.2.2.1
theorem dX2_waysTo_46 : decode cX2_waysTo 46 = .ok (.aload_n 0, 1) := eX2_waysTo_38q.2.2.2.2.1
theorem dX2_waysTo_47 : decode cX2_waysTo 47 = .ok (.getfield 27, 3) := eX2_waysTo_38q.2.2.2.2.2.1
theorem dX2_waysTo_50 : decode cX2_waysTo 50 = .ok (.aload_n 0, 1) := eX2_waysTo_38q.2.2.2.2.2.2.1
theorem dX2_waysTo_51 : decode cX2_waysTo 51 = .ok (.iload_n 2, 1) := eX2_waysTo_38q.2.2.2.2.2.2.2
theorem eX2_waysTo_52q : (decode cX2_waysTo 52 = .ok (.iload_n 1, 1)) ∧ (decode cX2_waysTo 53 = .ok (.iload 4, 2)) ∧ (decode cX2_waysTo 55 = .ok (.invokevirtual 79, 3)) ∧ (decode cX2_waysTo 58 = .ok (.iaload, 1)) ∧ (decode cX2_waysTo 59 = .ok (.iaload, 1)) ∧ (decode cX2_waysTo 60 = .ok (.iadd, 1)) ∧ (decode cX2_waysTo 61 = .ok (.istore_n 3, 1)) ∧ (decode cX2_waysTo 62 = .ok (.iinc 4 1, 3)) := by decide +kernel
theorem dX2_waysTo_52 : decode cX2_waysTo 52 = .ok (.iload_n 1, 1) := eX2_waysTo_52q.1
theorem dX2_waysTo_53 : decode cX2_waysTo 53 = .ok (.iload 4, 2) := eX2_waysTo_52q.2.1
theorem dX2_waysTo_55 : decode cX2_waysTo 55 = .ok (.invokevirtual 79, 3) := eX2_waysTo_52q.2.2.1
theorem dX2_waysTo_58 : decode cX2_waysTo 58 = .ok (.iaload, 1) := eX2_waysTo_52q.2.2.2.1
theorem dX2_waysTo_59 : decode cX2_waysTo 59 = .ok (.iaload, 1) := eX2_waysTo_52q.2.2.2.2.1
theorem dX2_waysTo_60 : decode cX2_waysTo 60 = .ok (.iadd, 1) := eX2_waysTo_52q.2.2.2.2.2.1
theorem dX2_waysTo_61 : decode cX2_waysTo 61 = .ok (.istore_n 3, 1) := eX2_waysTo_52q.2.2.2.2.2.2.1
theorem dX2_waysTo_62 : decode cX2_waysTo 62 = .ok (.iinc 4 1, 3) := eX2_waysTo_52q.2.2.2.2.2.2.2
theorem eX2_waysTo_65q : (decode cX2_waysTo 65 = .ok (.goto (-35), 3)) ∧ (decode cX2_waysTo 68 = .ok (.aload_n 0, 1)) ∧ (decode cX2_waysTo 69 = .ok (.getfield 55, 3)) ∧ (decode cX2_waysTo 72 = .ok (.iload_n 2, 1)) ∧ (decode cX2_waysTo 73 = .ok (.iload_n 3, 1)) ∧ (decode cX2_waysTo 74 = .ok (.iastore, 1)) ∧ (decode cX2_waysTo 75 = .ok (.iinc 2 (-1), 3)) ∧ (decode cX2_waysTo 78 = .ok (.goto (-71), 3)) := by decide +kernel
theorem dX2_waysTo_65 : decode cX2_waysTo 65 = .ok (.goto (-35), 3) := eX2_waysTo_65q.1
theorem dX2_waysTo_68 : decode cX2_waysTo 68 = .ok (.aload_n 0, 1) := eX2_waysTo_65q.2.1
theorem dX2_waysTo_69 : decode cX2_waysTo 69 = .ok (.getfield 55, 3) := eX2_waysTo_65q.2.2.1
theorem dX2_waysTo_72 : decode cX2_waysTo 72 = .ok (.iload_n 2, 1) := eX2_waysTo_65q.2.2.2.1
theorem dX2_waysTo_73 : decode cX2_waysTo 73 = .ok (.iload_n 3, 1) := eX2_waysTo_65q.2.2.2.2.1
theorem dX2_waysTo_74 : decode cX2_waysTo 74 = .ok (.iastore, 1) := eX2_waysTo_65q.2.2.2.2.2.1
theorem dX2_waysTo_75 : decode cX2_waysTo 75 = .ok (.iinc 2 (-1), 3) := eX2_waysTo_65q.2.2.2.2.2.2.1
theorem dX2_waysTo_78 : decode cX2_waysTo 78 = .ok (.goto (-71), 3) := eX2_waysTo_65q.2.2.2.2.2.2.2
theorem eX2_waysTo_81q : (decode cX2_waysTo 81 = .ok (.aload_n 0, 1)) ∧ (decode cX2_waysTo 82 = .ok (.getfield 55, 3)) ∧ (decode cX2_waysTo 85 = .ok (.iconst 0, 1)) ∧ (decode cX2_waysTo 86 = .ok (.iaload, 1)) ∧ (decode cX2_waysTo 87 = .ok (.ireturn, 1)) := by decide +kernel
theorem dX2_waysTo_81 : decode cX2_waysTo 81 = .ok (.aload_n 0, 1) := eX2_waysTo_81q.1
theorem dX2_waysTo_82 : decode cX2_waysTo 82 = .ok (.getfield 55, 3) := eX2_waysTo_81q.2.1
theorem dX2_waysTo_85 : decode cX2_waysTo 85 = .ok (.iconst 0, 1) := eX2_waysTo_81q.2.2.1
theorem dX2_waysTo_86 : decode cX2_waysTo 86 = .ok (.iaload, 1) := eX2_waysTo_81q.2.2.2.1
theorem dX2_waysTo_87 : decode cX2_waysTo 87 = .ok (.ireturn, 1) := eX2_waysTo_81q.2.2.2.2
set_option maxRecDepth 20000 in
theorem ggX2_longestTo_X2_branchesOf : GoodIn wsX2_longestTo wsX2_branchesOf := by
  have h := goodIn_app (goodIn_r (big := wsX2_longestTo) (.code yX2_branchesOf cX2_branchesOf 3 (some .int) :: ([.fieldLink RX2 49 "PathProber$Net" "branches" "[I"]) : List Cond) [13, 14] rfl (by decide +kernel)) (goodIn_few (big := wsX2_longestTo) (fun _ h9 => List.mem_cons_of_mem _ (List.mem_append_right _ h9)) gb_2)
  exact h
set_option maxRecDepth 20000 in
theorem gX2_longestTo_X2_branchesOf : GoodIn wsX2_longestTo (wsV RX2 75 RX2 yX2_branchesOf wsX2_branchesOf) := goodIn_app (goodIn_r _ [9, 10, 11, 12] rfl (by decide +kernel)) ggX2_longestTo_X2_branchesOf
set_option maxRecDepth 20000 in
theorem ggX2_longestTo_X2_branchOf : GoodIn wsX2_longestTo wsX2_branchOf := by
  have h := goodIn_app (goodIn_r (big := wsX2_longestTo) (.code yX2_branchOf cX2_branchOf 4 (some .int) :: ([.fieldLink RX2 52 "PathProber$Net" "branch" "[I"]) : List Cond) [18, 19] rfl (by decide +kernel)) (goodIn_few (big := wsX2_longestTo) (fun _ h9 => List.mem_cons_of_mem _ (List.mem_append_right _ h9)) gb_2)
  exact h
set_option maxRecDepth 20000 in
theorem gX2_longestTo_X2_branchOf : GoodIn wsX2_longestTo (wsV RX2 79 RX2 yX2_branchOf wsX2_branchOf) := goodIn_app (goodIn_r _ [15, 16, 17, 12] rfl (by decide +kernel)) ggX2_longestTo_X2_branchOf
theorem eX2_longestTo_0q : (decode cX2_longestTo 0 = .ok (.aload_n 0, 1)) ∧ (decode cX2_longestTo 1 = .ok (.getfield 33, 3)) ∧ (decode cX2_longestTo 4 = .ok (.iconst 1, 1)) ∧ (decode cX2_longestTo 5 = .ok (.isub, 1)) ∧ (decode cX2_longestTo 6 = .ok (.istore_n 2, 1)) ∧ (decode cX2_longestTo 7 = .ok (.iload_n 2, 1)) ∧ (decode cX2_longestTo 8 = .ok (.ifCond .lt 77, 3)) ∧ (decode cX2_longestTo 11 = .ok (.iload_n 2, 1)) := by decide +kernel
theorem dX2_longestTo_0 : decode cX2_longestTo 0 = .ok (.aload_n 0, 1) := eX2_longestTo_0q.1
theorem dX2_longestTo_1 : decode cX2_longestTo 1 = .ok (.getfield 33, 3) := eX2_longestTo_0q.2.1
theorem dX2_longestTo_4 : decode cX2_longestTo 4 = .ok (.iconst 1, 1) := eX2_longestTo_0q.2.2.1
theorem dX2_longestTo_5 : decode cX2_longestTo 5 = .ok (.isub, 1) := eX2_longestTo_0q.2.2.2.1
theorem dX2_longestTo_6 : decode cX2_longestTo 6 = .ok (.istore_n 2, 1) := eX2_longestTo_0q.2.2.2.2.1
theorem dX2_longestTo_7 : decode cX2_longestTo 7 = .ok (.iload_n 2, 1) := eX2_longestTo_0q.2.2.2.2.2.1
theorem dX2_longestTo_8 : decode cX2_longestTo 8 = .ok (.ifCond .lt 77, 3) := eX2_longestTo_0q.2.2.2.2.2.2.1
theorem dX2_longestTo_11 : decode cX2_longestTo 11 = .ok (.iload_n 2, 1) := eX2_longestTo_0q.2.2.2.2.2.2.2
theorem eX2_longestTo_12q : (decode cX2_longestTo 12 = .ok (.aload_n 0, 1)) ∧ (decode cX2_longestTo 13 = .ok (.getfield 30, 3)) ∧ (decode cX2_longestTo 16 = .ok (.iload_n 1, 1)) ∧ (decode cX2_longestTo 17 = .ok (.iaload, 1)) ∧ (decode cX2_longestTo 18 = .ok (.if_icmp .ne 7, 3)) ∧ (decode cX2_longestTo 21 = .ok (.iconst 1, 1)) ∧ (decode cX2_longestTo 22 = .ok (.goto 4, 3)) ∧ (decode cX2_longestTo 25 = .ok (.iconst 0, 1)) := by decide +kernel
theorem dX2_longestTo_12 : decode cX2_longestTo 12 = .ok (.aload_n 0, 1) := eX2_longestTo_12q.1
theorem dX2_longestTo_13 : decode cX2_longestTo 13 = .ok (.getfield 30, 3) := eX2_longestTo_12q.2.1
theorem dX2_longestTo_16 : decode cX2_longestTo 16 = .ok (.iload_n 1, 1) := eX2_longestTo_12q.2.2.1
theorem dX2_longestTo_17 : decode cX2_longestTo 17 = .ok (.iaload, 1) := eX2_longestTo_12q.2.2.2.1
theorem dX2_longestTo_18 : decode cX2_longestTo 18 = .ok (.if_icmp .ne 7, 3) := eX2_longestTo_12q.2.2.2.2.1
theorem dX2_longestTo_21 : decode cX2_longestTo 21 = .ok (.iconst 1, 1) := eX2_longestTo_12q.2.2.2.2.2.1
theorem dX2_longestTo_22 : decode cX2_longestTo 22 = .ok (.goto 4, 3) := eX2_longestTo_12q.2.2.2.2.2.2.1
theorem dX2_longestTo_25 : decode cX2_longestTo 25 = .ok (.iconst 0, 1) := eX2_longestTo_12q.2.2.2.2.2.2.2
theorem eX2_longestTo_26q : (decode cX2_longestTo 26 = .ok (.istore_n 3, 1)) ∧ (decode cX2_longestTo 27 = .ok (.iconst 0, 1)) ∧ (decode cX2_longestTo 28 = .ok (.istore 4, 2)) ∧ (decode cX2_longestTo 30 = .ok (.iload 4, 2)) ∧ (decode cX2_longestTo 32 = .ok (.aload_n 0, 1)) ∧ (decode cX2_longestTo 33 = .ok (.iload_n 2, 1)) ∧ (decode cX2_longestTo 34 = .ok (.iload_n 1, 1)) ∧ (decode cX2_longestTo 35 = .ok (.invokevirtual 75, 3)) := by decide +kernel
theorem dX2_longestTo_26 : decode cX2_longestTo 26 = .ok (.istore_n 3, 1) := eX2_longestTo_26q.1
theorem dX2_longestTo_27 : decode cX2_longestTo 27 = .ok (.iconst 0, 1) := eX2_longestTo_26q.2.1
theorem dX2_longestTo_28 : decode cX2_longestTo 28 = .ok (.istore 4, 2) := eX2_longestTo_26q.2.2.1
theorem dX2_longestTo_30 : decode cX2_longestTo 30 = .ok (.iload 4, 2) := eX2_longestTo_26q.2.2.2.1
theorem dX2_longestTo_32 : decode cX2_longestTo 32 = .ok (.aload_n 0, 1) := eX2_longestTo_26q.2.2.2.2.1
theorem dX2_longestTo_33 : decode cX2_longestTo 33 = .ok (.iload_n 2, 1) := eX2_longestTo_26q.2.2.2.2.2.1
theorem dX2_longestTo_34 : decode cX2_longestTo 34 = .ok (.iload_n 1, 1) := eX2_longestTo_26q.2.2.2.2.2.2.1
theorem dX2_longestTo_35 : decode cX2_longestTo 35 = .ok (.invokevirtual 75, 3) := eX2_longestTo_26q.2.2.2.2.2.2.2
theorem eX2_longestTo_38q : (decode cX2_longestTo 38 = .ok (.if_icmp .ge 34, 3)) ∧ (decode cX2_longestTo 41 = .ok (.iload_n 3, 1)) ∧ (decode cX2_longestTo 42 = .ok (.aload_n 0, 1)) ∧ (decode cX2_longestTo 43 = .ok (.getfield 55, 3)) ∧ (decode cX2_longestTo 46 = .ok (.aload_n 0, 1)) ∧ (decode cX2_longestTo 47 = .ok (.getfield 27, 3)) ∧ (decode cX2_longestTo 50 = .ok (.aload_n 0, 1)) ∧ (decode cX2_longestTo 51 = .ok (.iload_n 2, 1)) := by decide +kernel
theorem dX2_longestTo_38 : decode cX2_longestTo 38 = .ok (.if_icmp .ge 34, 3) := eX2_longestTo_38q.1
theorem dX2_longestTo_41 : decode cX2_longestTo 41 = .ok (.iload_n 3, 1) := eX2_longestTo_38q.2.1
theorem dX2_longestTo_42 : decode cX2_longestTo 42 = .ok (.aload_n 0, 1) := eX2_longestTo_38q.2.2.1
theorem dX2_longestTo_43 : decode cX2_longestTo 43 = .ok (.getfield 55, 3) := eX2_longestTo_38q.2.2.2.1
theorem dX2_longestTo_46 : decode cX2_longestTo 46 = .ok (.aload_n 0, 1) := eX2_longestTo_38q.2.2.2.2.1
theorem dX2_longestTo_47 : decode cX2_longestTo 47 = .ok (.getfield 27, 3) := eX2_longestTo_38q.2.2.2.2.2.1
theorem dX2_longestTo_50 : decode cX2_longestTo 50 = .ok (.aload_n 0, 1) := eX2_longestTo_38q.2.2.2.2.2.2.1
theorem dX2_longestTo_51 : decode cX2_longestTo 51 = .ok (.iload_n 2, 1) := eX2_longestTo_38q.2.2.2.2.2.2.2
theorem eX2_longestTo_52q : (decode cX2_longestTo 52 = .ok (.iload_n 1, 1)) ∧ (decode cX2_longestTo 53 = .ok (.iload 4, 2)) ∧ (decode cX2_longestTo 55 = .ok (.invokevirtual 79, 3)) ∧ (decode cX2_longestTo 58 = .ok (.iaload, 1)) ∧ (decode cX2_longestTo 59 = .ok (.iaload, 1)) ∧ (decode cX2_longestTo 60 = .ok (.iconst 1, 1)) ∧ (decode cX2_longestTo 61 = .ok (.iadd, 1)) ∧ (decode cX2_longestTo 62 = .ok (.invokestatic 83, 3)) := by decide +kernel
theorem dX2_longestTo_52 : decode cX2_longestTo 52 = .ok (.iload_n 1, 1) := eX2_longestTo_52q.1
theorem dX2_longestTo_53 : decode cX2_longestTo 53 = .ok (.iload 4, 2) := eX2_longestTo_52q.2.1
theorem dX2_longestTo_55 : decode cX2_longestTo 55 = .ok (.invokevirtual 79, 3) := eX2_longestTo_52q.2.2.1
theorem dX2_longestTo_58 : decode cX2_longestTo 58 = .ok (.iaload, 1) := eX2_longestTo_52q.2.2.2.1
theorem dX2_longestTo_59 : decode cX2_longestTo 59 = .ok (.iaload, 1) := eX2_longestTo_52q.2.2.2.2.1
theorem dX2_longestTo_60 : decode cX2_longestTo 60 = .ok (.iconst 1, 1) := eX2_longestTo_52q.2.2.2.2.2.1
theorem dX2_longestTo_61 : decode cX2_longestTo 61 = .ok (.iadd, 1) := eX2_longestTo_52q.2.2.2.2.2.2.1
theorem dX2_longestTo_62 : decode cX2_longestTo 62 = .ok (.invokestatic 83, 3) := eX2_longestTo_52q.2.2.2.2.2.2.2
theorem eX2_longestTo_65q : (decode cX2_longestTo 65 = .ok (.istore_n 3, 1)) ∧ (decode cX2_longestTo 66 = .ok (.iinc 4 1, 3)) ∧ (decode cX2_longestTo 69 = .ok (.goto (-39), 3)) ∧ (decode cX2_longestTo 72 = .ok (.aload_n 0, 1)) ∧ (decode cX2_longestTo 73 = .ok (.getfield 55, 3)) ∧ (decode cX2_longestTo 76 = .ok (.iload_n 2, 1)) ∧ (decode cX2_longestTo 77 = .ok (.iload_n 3, 1)) ∧ (decode cX2_longestTo 78 = .ok (.iastore, 1)) := by decide +kernel
theorem dX2_longestTo_65 : decode cX2_longestTo 65 = .ok (.istore_n 3, 1) := eX2_longestTo_65q.1
theorem dX2_longestTo_66 : decode cX2_longestTo 66 = .ok (.iinc 4 1, 3) := eX2_longestTo_65q.2.1
theorem dX2_longestTo_69 : decode cX2_longestTo 69 = .ok (.goto (-39), 3) := eX2_longestTo_65q.2.2.1
theorem dX2_longestTo_72 : decode cX2_longestTo 72 = .ok (.aload_n 0, 1) := eX2_longestTo_65q.2.2.2.1
theorem dX2_longestTo_73 : decode cX2_longestTo 73 = .ok (.getfield 55, 3) := eX2_longestTo_65q.2.2.2.2.1
theorem dX2_longestTo_76 : decode cX2_longestTo 76 = .ok (.iload_n 2, 1) := eX2_longestTo_65q.2.2.2.2.2.1
theorem dX2_longestTo_77 : decode cX2_longestTo 77 = .ok (.iload_n 3, 1) := eX2_longestTo_65q.2.2.2.2.2.2.1
theorem dX2_longestTo_78 : decode cX2_longestTo 78 = .ok (.iastore, 1) := eX2_longestTo_65q.2.2.2.2.2.2.2
theorem eX2_longestTo_79q : (decode cX2_longestTo 79 = .ok (.iinc 2 (-1), 3)) ∧ (decode cX2_longestTo 82 = .ok (.goto (-75), 3)) ∧ (decode cX2_longestTo 85 = .ok (.aload_n 0, 1)) ∧ (decode cX2_longestTo 86 = .ok (.getfield 55, 3)) ∧ (decode cX2_longestTo 89 = .ok (.iconst 0, 1)) ∧ (decode cX2_longestTo 90 = .ok (.iaload, 1)) ∧ (decode cX2_longestTo 91 = .ok (.ireturn, 1)) := by decide +kernel
theorem dX2_longestTo_79 : decode cX2_longestTo 79 = .ok (.iinc 2 (-1), 3) := eX2_longestTo_79q.1
theorem dX2_longestTo_82 : decode cX2_longestTo 82 = .ok (.goto (-75), 3) := eX2_longestTo_79q.2.1
theorem dX2_longestTo_85 : decode cX2_longestTo 85 = .ok (.aload_n 0, 1) := eX2_longestTo_79q.2.2.1
theorem dX2_longestTo_86 : decode cX2_longestTo 86 = .ok (.getfield 55, 3) := eX2_longestTo_79q.2.2.2.1
theorem dX2_longestTo_89 : decode cX2_longestTo 89 = .ok (.iconst 0, 1) := eX2_longestTo_79q.2.2.2.2.1
theorem dX2_longestTo_90 : decode cX2_longestTo 90 = .ok (.iaload, 1) := eX2_longestTo_79q.2.2.2.2.2.1
theorem dX2_longestTo_91 : decode cX2_longestTo 91 = .ok (.ireturn, 1) := eX2_longestTo_79q.2.2.2.2.2.2
set_option maxRecDepth 20000 in
theorem ggX2_shortestTo_X2_branchesOf : GoodIn wsX2_shortestTo wsX2_branchesOf := by
  have h := goodIn_app (goodIn_r (big := wsX2_shortestTo) (.code yX2_branchesOf cX2_branchesOf 3 (some .int) :: ([.fieldLink RX2 49 "PathProber$Net" "branches" "[I"]) : List Cond) [13, 14] rfl (by decide +kernel)) (goodIn_few (big := wsX2_shortestTo) (fun _ h9 => List.mem_cons_of_mem _ (List.mem_append_right _ h9)) gb_2)
  exact h
set_option maxRecDepth 20000 in
theorem gX2_shortestTo_X2_branchesOf : GoodIn wsX2_shortestTo (wsV RX2 75 RX2 yX2_branchesOf wsX2_branchesOf) := goodIn_app (goodIn_r _ [9, 10, 11, 12] rfl (by decide +kernel)) ggX2_shortestTo_X2_branchesOf
set_option maxRecDepth 20000 in
theorem ggX2_shortestTo_X2_branchOf : GoodIn wsX2_shortestTo wsX2_branchOf := by
  have h := goodIn_app (goodIn_r (big := wsX2_shortestTo) (.code yX2_branchOf cX2_branchOf 4 (some .int) :: ([.fieldLink RX2 52 "PathProber$Net" "branch" "[I"]) : List Cond) [18, 19] rfl (by decide +kernel)) (goodIn_few (big := wsX2_shortestTo) (fun _ h9 => List.mem_cons_of_mem _ (List.mem_append_right _ h9)) gb_2)
  exact h
set_option maxRecDepth 20000 in
theorem gX2_shortestTo_X2_branchOf : GoodIn wsX2_shortestTo (wsV RX2 79 RX2 yX2_branchOf wsX2_branchOf) := goodIn_app (goodIn_r _ [15, 16, 17, 12] rfl (by decide +kernel)) ggX2_shortestTo_X2_branchOf
theorem eX2_shortestTo_0q : (decode cX2_shortestTo 0 = .ok (.aload_n 0, 1)) ∧ (decode cX2_shortestTo 1 = .ok (.getfield 33, 3)) ∧ (decode cX2_shortestTo 4 = .ok (.iconst 1, 1)) ∧ (decode cX2_shortestTo 5 = .ok (.isub, 1)) ∧ (decode cX2_shortestTo 6 = .ok (.istore_n 2, 1)) ∧ (decode cX2_shortestTo 7 = .ok (.iload_n 2, 1)) ∧ (decode cX2_shortestTo 8 = .ok (.ifCond .lt 90, 3)) ∧ (decode cX2_shortestTo 11 = .ok (.iload_n 2, 1)) := by decide +kernel
theorem dX2_shortestTo_0 : decode cX2_shortestTo 0 = .ok (.aload_n 0, 1) := eX2_shortestTo_0q.1
theorem dX2_shortestTo_1 : decode cX2_shortestTo 1 = .ok (.getfield 33, 3) := eX2_shortestTo_0q.2.1
theorem dX2_shortestTo_4 : decode cX2_shortestTo 4 = .ok (.iconst 1, 1) := eX2_shortestTo_0q.2.2.1
theorem dX2_shortestTo_5 : decode cX2_shortestTo 5 = .ok (.isub, 1) := eX2_shortestTo_0q.2.2.2.1
theorem dX2_shortestTo_6 : decode cX2_shortestTo 6 = .ok (.istore_n 2, 1) := eX2_shortestTo_0q.2.2.2.2.1
theorem dX2_shortestTo_7 : decode cX2_shortestTo 7 = .ok (.iload_n 2, 1) := eX2_shortestTo_0q.2.2.2.2.2.1
theorem dX2_shortestTo_8 : decode cX2_shortestTo 8 = .ok (.ifCond .lt 90, 3) := eX2_shortestTo_0q.2.2.2.2.2.2.1
theorem dX2_shortestTo_11 : decode cX2_shortestTo 11 = .ok (.iload_n 2, 1) := eX2_shortestTo_0q.2.2.2.2.2.2.2
theorem eX2_shortestTo_12q : (decode cX2_shortestTo 12 = .ok (.aload_n 0, 1)) ∧ (decode cX2_shortestTo 13 = .ok (.getfield 30, 3)) ∧ (decode cX2_shortestTo 16 = .ok (.iload_n 1, 1)) ∧ (decode cX2_shortestTo 17 = .ok (.iaload, 1)) ∧ (decode cX2_shortestTo 18 = .ok (.if_icmp .ne 7, 3)) ∧ (decode cX2_shortestTo 21 = .ok (.iconst 1, 1)) ∧ (decode cX2_shortestTo 22 = .ok (.goto 4, 3)) ∧ (decode cX2_shortestTo 25 = .ok (.iconst 0, 1)) := by decide +kernel
theorem dX2_shortestTo_12 : decode cX2_shortestTo 12 = .ok (.aload_n 0, 1) := eX2_shortestTo_12q.1
theorem dX2_shortestTo_13 : decode cX2_shortestTo 13 = .ok (.getfield 30, 3) := eX2_shortestTo_12q.2.1
theorem dX2_shortestTo_16 : decode cX2_shortestTo 16 = .ok (.iload_n 1, 1) := eX2_shortestTo_12q.2.2.1
theorem dX2_shortestTo_17 : decode cX2_shortestTo 17 = .ok (.iaload, 1) := eX2_shortestTo_12q.2.2.2.1
theorem dX2_shortestTo_18 : decode cX2_shortestTo 18 = .ok (.if_icmp .ne 7, 3) := eX2_shortestTo_12q.2.2.2.2.1
theorem dX2_shortestTo_21 : decode cX2_shortestTo 21 = .ok (.iconst 1, 1) := eX2_shortestTo_12q.2.2.2.2.2.1
theorem dX2_shortestTo_22 : decode cX2_shortestTo 22 = .ok (.goto 4, 3) := eX2_shortestTo_12q.2.2.2.2.2.2.1
theorem dX2_shortestTo_25 : decode cX2_shortestTo 25 = .ok (.iconst 0, 1) := eX2_shortestTo_12q.2.2.2.2.2.2.2
theorem eX2_shortestTo_26q : (decode cX2_shortestTo 26 = .ok (.istore_n 3, 1)) ∧ (decode cX2_shortestTo 27 = .ok (.iconst 0, 1)) ∧ (decode cX2_shortestTo 28 = .ok (.istore 4, 2)) ∧ (decode cX2_shortestTo 30 = .ok (.iload 4, 2)) ∧ (decode cX2_shortestTo 32 = .ok (.aload_n 0, 1)) ∧ (decode cX2_shortestTo 33 = .ok (.iload_n 2, 1)) ∧ (decode cX2_shortestTo 34 = .ok (.iload_n 1, 1)) ∧ (decode cX2_shortestTo 35 = .ok (.invokevirtual 75, 3)) := by decide +kernel
theorem dX2_shortestTo_26 : decode cX2_shortestTo 26 = .ok (.istore_n 3, 1) := eX2_shortestTo_26q.1
theorem dX2_shortestTo_27 : decode cX2_shortestTo 27 = .ok (.iconst 0, 1) := eX2_shortestTo_26q.2.1
theorem dX2_shortestTo_28 : decode cX2_shortestTo 28 = .ok (.istore 4, 2) := eX2_shortestTo_26q.2.2.1
theorem dX2_shortestTo_30 : decode cX2_shortestTo 30 = .ok (.iload 4, 2) := eX2_shortestTo_26q.2.2.2.1
theorem dX2_shortestTo_32 : decode cX2_shortestTo 32 = .ok (.aload_n 0, 1) := eX2_shortestTo_26q.2.2.2.2.1
theorem dX2_shortestTo_33 : decode cX2_shortestTo 33 = .ok (.iload_n 2, 1) := eX2_shortestTo_26q.2.2.2.2.2.1
theorem dX2_shortestTo_34 : decode cX2_shortestTo 34 = .ok (.iload_n 1, 1) := eX2_shortestTo_26q.2.2.2.2.2.2.1
theorem dX2_shortestTo_35 : decode cX2_shortestTo 35 = .ok (.invokevirtual 75, 3) := eX2_shortestTo_26q.2.2.2.2.2.2.2
theorem eX2_shortestTo_38q : (decode cX2_shortestTo 38 = .ok (.if_icmp .ge 47, 3)) ∧ (decode cX2_shortestTo 41 = .ok (.aload_n 0, 1)) ∧ (decode cX2_shortestTo 42 = .ok (.getfield 55, 3)) ∧ (decode cX2_shortestTo 45 = .ok (.aload_n 0, 1)) ∧ (decode cX2_shortestTo 46 = .ok (.getfield 27, 3)) ∧ (decode cX2_shortestTo 49 = .ok (.aload_n 0, 1)) ∧ (decode cX2_shortestTo 50 = .ok (.iload_n 2, 1)) ∧ (decode cX2_shortestTo 51 = .ok (.iload_n 1, 1)) := by decide +kernel
theorem dX2_shortestTo_38 : decode cX2_shortestTo 38 = .ok (.if_icmp .ge 47, 3) := eX2_shortestTo_38q.1
theorem dX2_shortestTo_41 : decode cX2_shortestTo 41 = .ok (.aload_n 0, 1) := eX2_shortestTo_38q.2.1
theorem dX2_shortestTo_42 : decode cX2_shortestTo 42 = .ok (.getfield 55, 3) := eX2_shortestTo_38q.2.2.1
theorem dX2_shortestTo_45 : decode cX2_shortestTo 45 = .ok (.aload_n 0, 1) := eX2_shortestTo_38q.2.2.2.1
theorem dX2_shortestTo_46 : decode cX2_shortestTo 46 = .ok (.getfield 27, 3) := eX2_shortestTo_38q.2.2.2.2.1
theorem dX2_shortestTo_49 : decode cX2_shortestTo 49 = .ok (.aload_n 0, 1) := eX2_shortestTo_38q.2.2.2.2.2.1
theorem dX2_shortestTo_50 : decode cX2_shortestTo 50 = .ok (.iload_n 2, 1) := eX2_shortestTo_38q.2.2.2.2.2.2.1
theorem dX2_shortestTo_51 : decode cX2_shortestTo 51 = .ok (.iload_n 1, 1) := eX2_shortestTo_38q.2.2.2.2.2.2.2
theorem eX2_shortestTo_52q : (decode cX2_shortestTo 52 = .ok (.iload 4, 2)) ∧ (decode cX2_shortestTo 54 = .ok (.invokevirtual 79, 3)) ∧ (decode cX2_shortestTo 57 = .ok (.iaload, 1)) ∧ (decode cX2_shortestTo 58 = .ok (.iaload, 1)) ∧ (decode cX2_shortestTo 59 = .ok (.iconst 1, 1)) ∧ (decode cX2_shortestTo 60 = .ok (.iadd, 1)) ∧ (decode cX2_shortestTo 61 = .ok (.istore 5, 2)) ∧ (decode cX2_shortestTo 63 = .ok (.iload_n 3, 1)) := by decide +kernel
theorem dX2_shortestTo_52 : decode cX2_shortestTo 52 = .ok (.iload 4, 2) := eX2_shortestTo_52q.1
theorem dX2_shortestTo_54 : decode cX2_shortestTo 54 = .ok (.invokevirtual 79, 3) := eX2_shortestTo_52q.2.1
theorem dX2_shortestTo_57 : decode cX2_shortestTo 57 = .ok (.iaload, 1) := eX2_shortestTo_52q.2.2.1
theorem dX2_shortestTo_58 : decode cX2_shortestTo 58 = .ok (.iaload, 1) := eX2_shortestTo_52q.2.2.2.1
theorem dX2_shortestTo_59 : decode cX2_shortestTo 59 = .ok (.iconst 1, 1) := eX2_shortestTo_52q.2.2.2.2.1
theorem dX2_shortestTo_60 : decode cX2_shortestTo 60 = .ok (.iadd, 1) := eX2_shortestTo_52q.2.2.2.2.2.1
theorem dX2_shortestTo_61 : decode cX2_shortestTo 61 = .ok (.istore 5, 2) := eX2_shortestTo_52q.2.2.2.2.2.2.1
theorem dX2_shortestTo_63 : decode cX2_shortestTo 63 = .ok (.iload_n 3, 1) := eX2_shortestTo_52q.2.2.2.2.2.2.2
theorem eX2_shortestTo_64q : (decode cX2_shortestTo 64 = .ok (.ifCond .ne 8, 3)) ∧ (decode cX2_shortestTo 67 = .ok (.iload 5, 2)) ∧ (decode cX2_shortestTo 69 = .ok (.goto 9, 3)) ∧ (decode cX2_shortestTo 72 = .ok (.iload_n 3, 1)) ∧ (decode cX2_shortestTo 73 = .ok (.iload 5, 2)) ∧ (decode cX2_shortestTo 75 = .ok (.invokestatic 88, 3)) ∧ (decode cX2_shortestTo 78 = .ok (.istore_n 3, 1)) ∧ (decode cX2_shortestTo 79 = .ok (.iinc 4 1, 3)) := by decide +kernel
theorem dX2_shortestTo_64 : decode cX2_shortestTo 64 = .ok (.ifCond .ne 8, 3) := eX2_shortestTo_64q.1
theorem dX2_shortestTo_67 : decode cX2_shortestTo 67 = .ok (.iload 5, 2) := eX2_shortestTo_64q.2.1
theorem dX2_shortestTo_69 : decode cX2_shortestTo 69 = .ok (.goto 9, 3) := eX2_shortestTo_64q.2.2.1
theorem dX2_shortestTo_72 : decode cX2_shortestTo 72 = .ok (.iload_n 3, 1) := eX2_shortestTo_64q.2.2.2.1
theorem dX2_shortestTo_73 : decode cX2_shortestTo 73 = .ok (.iload 5, 2) := eX2_shortestTo_64q.2.2.2.2.1
theorem dX2_shortestTo_75 : decode cX2_shortestTo 75 = .ok (.invokestatic 88, 3) := eX2_shortestTo_64q.2.2.2.2.2.1
theorem dX2_shortestTo_78 : decode cX2_shortestTo 78 = .ok (.istore_n 3, 1) := eX2_shortestTo_64q.2.2.2.2.2.2.1
theorem dX2_shortestTo_79 : decode cX2_shortestTo 79 = .ok (.iinc 4 1, 3) := eX2_shortestTo_64q.2.2.2.2.2.2.2
theorem eX2_shortestTo_82q : (decode cX2_shortestTo 82 = .ok (.goto (-52), 3)) ∧ (decode cX2_shortestTo 85 = .ok (.aload_n 0, 1)) ∧ (decode cX2_shortestTo 86 = .ok (.getfield 55, 3)) ∧ (decode cX2_shortestTo 89 = .ok (.iload_n 2, 1)) ∧ (decode cX2_shortestTo 90 = .ok (.iload_n 3, 1)) ∧ (decode cX2_shortestTo 91 = .ok (.iastore, 1)) ∧ (decode cX2_shortestTo 92 = .ok (.iinc 2 (-1), 3)) ∧ (decode cX2_shortestTo 95 = .ok (.goto (-88), 3)) := by decide +kernel
theorem dX2_shortestTo_82 : decode cX2_shortestTo 82 = .ok (.goto (-52), 3) := eX2_shortestTo_82q.1
theorem dX2_shortestTo_85 : decode cX2_shortestTo 85 = .ok (.aload_n 0, 1) := eX2_shortestTo_82q.2.1
theorem dX2_shortestTo_86 : decode cX2_shortestTo 86 = .ok (.getfield 55, 3) := eX2_shortestTo_82q.2.2.1
theorem dX2_shortestTo_89 : decode cX2_shortestTo 89 = .ok (.iload_n 2, 1) := eX2_shortestTo_82q.2.2.2.1
theorem dX2_shortestTo_90 : decode cX2_shortestTo 90 = .ok (.iload_n 3, 1) := eX2_shortestTo_82q.2.2.2.2.1
theorem dX2_shortestTo_91 : decode cX2_shortestTo 91 = .ok (.iastore, 1) := eX2_shortestTo_82q.2.2.2.2.2.1
theorem dX2_shortestTo_92 : decode cX2_shortestTo 92 = .ok (.iinc 2 (-1), 3) := eX2_shortestTo_82q.2.2.2.2.2.2.1
theorem dX2_shortestTo_95 : decode cX2_shortestTo 95 = .ok (.goto (-88), 3) := eX2_shortestTo_82q.2.2.2.2.2.2.2
theorem eX2_shortestTo_98q : (decode cX2_shortestTo 98 = .ok (.aload_n 0, 1)) ∧ (decode cX2_shortestTo 99 = .ok (.getfield 55, 3)) ∧ (decode cX2_shortestTo 102 = .ok (.iconst 0, 1)) ∧ (decode cX2_shortestTo 103 = .ok (.iaload, 1)) ∧ (decode cX2_shortestTo 104 = .ok (.ireturn, 1)) := by decide +kernel
theorem dX2_shortestTo_98 : decode cX2_shortestTo 98 = .ok (.aload_n 0, 1) := eX2_shortestTo_98q.1
theorem dX2_shortestTo_99 : decode cX2_shortestTo 99 = .ok (.getfield 55, 3) := eX2_shortestTo_98q.2.1
theorem dX2_shortestTo_102 : decode cX2_shortestTo 102 = .ok (.iconst 0, 1) := eX2_shortestTo_98q.2.2.1
theorem dX2_shortestTo_103 : decode cX2_shortestTo 103 = .ok (.iaload, 1) := eX2_shortestTo_98q.2.2.2.1
theorem dX2_shortestTo_104 : decode cX2_shortestTo 104 = .ok (.ireturn, 1) := eX2_shortestTo_98q.2.2.2.2
set_option maxRecDepth 20000 in
theorem ggX2_placesBehind_X2_routerOf : GoodIn wsX2_placesBehind wsX2_routerOf := by
  have h := goodIn_app (goodIn_r (big := wsX2_placesBehind) (.code yX2_routerOf cX2_routerOf 2 (some .int) :: ([.fieldLink RX2 37 "PathProber$Net" "links" "I", .fieldLink RX2 27 "PathProber$Net" "to" "[I"]) : List Cond) [6, 1, 7] rfl (by decide +kernel)) (goodIn_few (big := wsX2_placesBehind) (fun _ h9 => List.mem_cons_of_mem _ (List.mem_append_right _ h9)) gb_2)
  exact h
set_option maxRecDepth 20000 in
theorem gX2_placesBehind_X2_routerOf : GoodIn wsX2_placesBehind (wsV RX2 94 RX2 yX2_routerOf wsX2_routerOf) := goodIn_app (goodIn_r _ [2, 3, 4, 5] rfl (by decide +kernel)) ggX2_placesBehind_X2_routerOf
set_option maxRecDepth 20000 in
theorem ggX2_placesBehind_X2_branchesOf : GoodIn wsX2_placesBehind wsX2_branchesOf := by
  have h := goodIn_app (goodIn_r (big := wsX2_placesBehind) (.code yX2_branchesOf cX2_branchesOf 3 (some .int) :: ([.fieldLink RX2 49 "PathProber$Net" "branches" "[I"]) : List Cond) [11, 12] rfl (by decide +kernel)) (goodIn_few (big := wsX2_placesBehind) (fun _ h9 => List.mem_cons_of_mem _ (List.mem_append_right _ h9)) gb_2)
  exact h
set_option maxRecDepth 20000 in
theorem gX2_placesBehind_X2_branchesOf : GoodIn wsX2_placesBehind (wsV RX2 75 RX2 yX2_branchesOf wsX2_branchesOf) := goodIn_app (goodIn_r _ [8, 9, 10, 5] rfl (by decide +kernel)) ggX2_placesBehind_X2_branchesOf
set_option maxRecDepth 20000 in
theorem ggX2_placesBehind_X2_branchOf : GoodIn wsX2_placesBehind wsX2_branchOf := by
  have h := goodIn_app (goodIn_r (big := wsX2_placesBehind) (.code yX2_branchOf cX2_branchOf 4 (some .int) :: ([.fieldLink RX2 52 "PathProber$Net" "branch" "[I"]) : List Cond) [16, 17] rfl (by decide +kernel)) (goodIn_few (big := wsX2_placesBehind) (fun _ h9 => List.mem_cons_of_mem _ (List.mem_append_right _ h9)) gb_2)
  exact h
set_option maxRecDepth 20000 in
theorem gX2_placesBehind_X2_branchOf : GoodIn wsX2_placesBehind (wsV RX2 79 RX2 yX2_branchOf wsX2_branchOf) := goodIn_app (goodIn_r _ [13, 14, 15, 5] rfl (by decide +kernel)) ggX2_placesBehind_X2_branchOf
theorem eX2_placesBehind_0q : (decode cX2_placesBehind 0 = .ok (.iconst 0, 1)) ∧ (decode cX2_placesBehind 1 = .ok (.istore_n 3, 1)) ∧ (decode cX2_placesBehind 2 = .ok (.iconst 0, 1)) ∧ (decode cX2_placesBehind 3 = .ok (.istore 4, 2)) ∧ (decode cX2_placesBehind 5 = .ok (.iload 4, 2)) ∧ (decode cX2_placesBehind 7 = .ok (.aload_n 0, 1)) ∧ (decode cX2_placesBehind 8 = .ok (.getfield 37, 3)) ∧ (decode cX2_placesBehind 11 = .ok (.if_icmp .gt 64, 3)) := by decide +kernel
theorem dX2_placesBehind_0 : decode cX2_placesBehind 0 = .ok (.iconst 0, 1) := eX2_placesBehind_0q.1
theorem dX2_placesBehind_1 : decode cX2_placesBehind 1 = .ok (.istore_n 3, 1) := eX2_placesBehind_0q.2.1
theorem dX2_placesBehind_2 : decode cX2_placesBehind 2 = .ok (.iconst 0, 1) := eX2_placesBehind_0q.2.2.1
theorem dX2_placesBehind_3 : decode cX2_placesBehind 3 = .ok (.istore 4, 2) := eX2_placesBehind_0q.2.2.2.1
theorem dX2_placesBehind_5 : decode cX2_placesBehind 5 = .ok (.iload 4, 2) := eX2_placesBehind_0q.2.2.2.2.1
theorem dX2_placesBehind_7 : decode cX2_placesBehind 7 = .ok (.aload_n 0, 1) := eX2_placesBehind_0q.2.2.2.2.2.1
theorem dX2_placesBehind_8 : decode cX2_placesBehind 8 = .ok (.getfield 37, 3) := eX2_placesBehind_0q.2.2.2.2.2.2.1
theorem dX2_placesBehind_11 : decode cX2_placesBehind 11 = .ok (.if_icmp .gt 64, 3) := eX2_placesBehind_0q.2.2.2.2.2.2.2
theorem eX2_placesBehind_14q : (decode cX2_placesBehind 14 = .ok (.iload_n 2, 1)) ∧ (decode cX2_placesBehind 15 = .ok (.iload 4, 2)) ∧ (decode cX2_placesBehind 17 = .ok (.ishr, 1)) ∧ (decode cX2_placesBehind 18 = .ok (.iconst 1, 1)) ∧ (decode cX2_placesBehind 19 = .ok (.iand, 1)) ∧ (decode cX2_placesBehind 20 = .ok (.iconst 1, 1)) ∧ (decode cX2_placesBehind 21 = .ok (.if_icmp .ne 48, 3)) ∧ (decode cX2_placesBehind 24 = .ok (.aload_n 0, 1)) := by decide +kernel
theorem dX2_placesBehind_14 : decode cX2_placesBehind 14 = .ok (.iload_n 2, 1) := eX2_placesBehind_14q.1
theorem dX2_placesBehind_15 : decode cX2_placesBehind 15 = .ok (.iload 4, 2) := eX2_placesBehind_14q.2.1
theorem dX2_placesBehind_17 : decode cX2_placesBehind 17 = .ok (.ishr, 1) := eX2_placesBehind_14q.2.2.1
theorem dX2_placesBehind_18 : decode cX2_placesBehind 18 = .ok (.iconst 1, 1) := eX2_placesBehind_14q.2.2.2.1
theorem dX2_placesBehind_19 : decode cX2_placesBehind 19 = .ok (.iand, 1) := eX2_placesBehind_14q.2.2.2.2.1
theorem dX2_placesBehind_20 : decode cX2_placesBehind 20 = .ok (.iconst 1, 1) := eX2_placesBehind_14q.2.2.2.2.2.1
theorem dX2_placesBehind_21 : decode cX2_placesBehind 21 = .ok (.if_icmp .ne 48, 3) := eX2_placesBehind_14q.2.2.2.2.2.2.1
theorem dX2_placesBehind_24 : decode cX2_placesBehind 24 = .ok (.aload_n 0, 1) := eX2_placesBehind_14q.2.2.2.2.2.2.2
theorem eX2_placesBehind_25q : (decode cX2_placesBehind 25 = .ok (.iload 4, 2)) ∧ (decode cX2_placesBehind 27 = .ok (.invokevirtual 94, 3)) ∧ (decode cX2_placesBehind 30 = .ok (.istore 5, 2)) ∧ (decode cX2_placesBehind 32 = .ok (.iconst 0, 1)) ∧ (decode cX2_placesBehind 33 = .ok (.istore 6, 2)) ∧ (decode cX2_placesBehind 35 = .ok (.iload 6, 2)) ∧ (decode cX2_placesBehind 37 = .ok (.aload_n 0, 1)) ∧ (decode cX2_placesBehind 38 = .ok (.iload 5, 2)) := by decide +kernel
theorem dX2_placesBehind_25 : decode cX2_placesBehind 25 = .ok (.iload 4, 2) := eX2_placesBehind_25q.1
theorem dX2_placesBehind_27 : decode cX2_placesBehind 27 = .ok (.invokevirtual 94, 3) := eX2_placesBehind_25q.2.1
theorem dX2_placesBehind_30 : decode cX2_placesBehind 30 = .ok (.istore 5, 2) := eX2_placesBehind_25q.2.2.1
theorem dX2_placesBehind_32 : decode cX2_placesBehind 32 = .ok (.iconst 0, 1) := eX2_placesBehind_25q.2.2.2.1
theorem dX2_placesBehind_33 : decode cX2_placesBehind 33 = .ok (.istore 6, 2) := eX2_placesBehind_25q.2.2.2.2.1
theorem dX2_placesBehind_35 : decode cX2_placesBehind 35 = .ok (.iload 6, 2) := eX2_placesBehind_25q.2.2.2.2.2.1
theorem dX2_placesBehind_37 : decode cX2_placesBehind 37 = .ok (.aload_n 0, 1) := eX2_placesBehind_25q.2.2.2.2.2.2.1
theorem dX2_placesBehind_38 : decode cX2_placesBehind 38 = .ok (.iload 5, 2) := eX2_placesBehind_25q.2.2.2.2.2.2.2
theorem eX2_placesBehind_40q : (decode cX2_placesBehind 40 = .ok (.iload_n 1, 1)) ∧ (decode cX2_placesBehind 41 = .ok (.invokevirtual 75, 3)) ∧ (decode cX2_placesBehind 44 = .ok (.if_icmp .ge 25, 3)) ∧ (decode cX2_placesBehind 47 = .ok (.iload_n 3, 1)) ∧ (decode cX2_placesBehind 48 = .ok (.iconst 1, 1)) ∧ (decode cX2_placesBehind 49 = .ok (.aload_n 0, 1)) ∧ (decode cX2_placesBehind 50 = .ok (.iload 5, 2)) ∧ (decode cX2_placesBehind 52 = .ok (.iload_n 1, 1)) := by decide +kernel
theorem dX2_placesBehind_40 : decode cX2_placesBehind 40 = .ok (.iload_n 1, 1) := eX2_placesBehind_40q.1
theorem dX2_placesBehind_41 : decode cX2_placesBehind 41 = .ok (.invokevirtual 75, 3) := eX2_placesBehind_40q.2.1
theorem dX2_placesBehind_44 : decode cX2_placesBehind 44 = .ok (.if_icmp .ge 25, 3) := eX2_placesBehind_40q.2.2.1
theorem dX2_placesBehind_47 : decode cX2_placesBehind 47 = .ok (.iload_n 3, 1) := eX2_placesBehind_40q.2.2.2.1
theorem dX2_placesBehind_48 : decode cX2_placesBehind 48 = .ok (.iconst 1, 1) := eX2_placesBehind_40q.2.2.2.2.1
theorem dX2_placesBehind_49 : decode cX2_placesBehind 49 = .ok (.aload_n 0, 1) := eX2_placesBehind_40q.2.2.2.2.2.1
theorem dX2_placesBehind_50 : decode cX2_placesBehind 50 = .ok (.iload 5, 2) := eX2_placesBehind_40q.2.2.2.2.2.2.1
theorem dX2_placesBehind_52 : decode cX2_placesBehind 52 = .ok (.iload_n 1, 1) := eX2_placesBehind_40q.2.2.2.2.2.2.2
theorem eX2_placesBehind_53q : (decode cX2_placesBehind 53 = .ok (.iload 6, 2)) ∧ (decode cX2_placesBehind 55 = .ok (.invokevirtual 79, 3)) ∧ (decode cX2_placesBehind 58 = .ok (.iconst 1, 1)) ∧ (decode cX2_placesBehind 59 = .ok (.iadd, 1)) ∧ (decode cX2_placesBehind 60 = .ok (.ishl, 1)) ∧ (decode cX2_placesBehind 61 = .ok (.ior, 1)) ∧ (decode cX2_placesBehind 62 = .ok (.istore_n 3, 1)) ∧ (decode cX2_placesBehind 63 = .ok (.iinc 6 1, 3)) := by decide +kernel
theorem dX2_placesBehind_53 : decode cX2_placesBehind 53 = .ok (.iload 6, 2) := eX2_placesBehind_53q.1
theorem dX2_placesBehind_55 : decode cX2_placesBehind 55 = .ok (.invokevirtual 79, 3) := eX2_placesBehind_53q.2.1
theorem dX2_placesBehind_58 : decode cX2_placesBehind 58 = .ok (.iconst 1, 1) := eX2_placesBehind_53q.2.2.1
theorem dX2_placesBehind_59 : decode cX2_placesBehind 59 = .ok (.iadd, 1) := eX2_placesBehind_53q.2.2.2.1
theorem dX2_placesBehind_60 : decode cX2_placesBehind 60 = .ok (.ishl, 1) := eX2_placesBehind_53q.2.2.2.2.1
theorem dX2_placesBehind_61 : decode cX2_placesBehind 61 = .ok (.ior, 1) := eX2_placesBehind_53q.2.2.2.2.2.1
theorem dX2_placesBehind_62 : decode cX2_placesBehind 62 = .ok (.istore_n 3, 1) := eX2_placesBehind_53q.2.2.2.2.2.2.1
theorem dX2_placesBehind_63 : decode cX2_placesBehind 63 = .ok (.iinc 6 1, 3) := eX2_placesBehind_53q.2.2.2.2.2.2.2
theorem eX2_placesBehind_66q : (decode cX2_placesBehind 66 = .ok (.goto (-31), 3)) ∧ (decode cX2_placesBehind 69 = .ok (.iinc 4 1, 3)) ∧ (decode cX2_placesBehind 72 = .ok (.goto (-67), 3)) ∧ (decode cX2_placesBehind 75 = .ok (.iload_n 3, 1)) ∧ (decode cX2_placesBehind 76 = .ok (.ireturn, 1)) := by decide +kernel
theorem dX2_placesBehind_66 : decode cX2_placesBehind 66 = .ok (.goto (-31), 3) := eX2_placesBehind_66q.1
theorem dX2_placesBehind_69 : decode cX2_placesBehind 69 = .ok (.iinc 4 1, 3) := eX2_placesBehind_66q.2.1
theorem dX2_placesBehind_72 : decode cX2_placesBehind 72 = .ok (.goto (-67), 3) := eX2_placesBehind_66q.2.2.1
theorem dX2_placesBehind_75 : decode cX2_placesBehind 75 = .ok (.iload_n 3, 1) := eX2_placesBehind_66q.2.2.2.1
theorem dX2_placesBehind_76 : decode cX2_placesBehind 76 = .ok (.ireturn, 1) := eX2_placesBehind_66q.2.2.2.2
