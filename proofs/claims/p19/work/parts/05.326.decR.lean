set_option maxRecDepth 20000 in
theorem ggX11_restore_X11_copyTo : GoodIn wsX11_restore wsX11_copyTo := goodIn_r _ [24] rfl (by decide +kernel)
set_option maxRecDepth 20000 in
theorem gX11_restore_X11_copyTo : GoodIn wsX11_restore (va_wsS RX11 467 yX11_copyTo wsX11_copyTo) := goodIn_app (goodIn_r _ [21, 22, 23] rfl (by decide +kernel)) ggX11_restore_X11_copyTo
theorem eX11_restore_0q : (decode cX11_restore 0 = .ok (.aload_n 0, 1)) ∧ (decode cX11_restore 1 = .ok (.iconst 0, 1)) ∧ (decode cX11_restore 2 = .ok (.putfield 142, 3)) ∧ (decode cX11_restore 5 = .ok (.aload_n 0, 1)) ∧ (decode cX11_restore 6 = .ok (.getfield 256, 3)) ∧ (decode cX11_restore 9 = .ok (.ifCond .ne 5, 3)) ∧ (decode cX11_restore 12 = .ok (.iconst 0, 1)) ∧ (decode cX11_restore 13 = .ok (.ireturn, 1)) := by decide +kernel
theorem dX11_restore_0 : decode cX11_restore 0 = .ok (.aload_n 0, 1) := eX11_restore_0q.1
theorem dX11_restore_1 : decode cX11_restore 1 = .ok (.iconst 0, 1) := eX11_restore_0q.2.1
theorem dX11_restore_2 : decode cX11_restore 2 = .ok (.putfield 142, 3) := eX11_restore_0q.2.2.1
theorem dX11_restore_5 : decode cX11_restore 5 = .ok (.aload_n 0, 1) := eX11_restore_0q.2.2.2.1
theorem dX11_restore_6 : decode cX11_restore 6 = .ok (.getfield 256, 3) := eX11_restore_0q.2.2.2.2.1
theorem dX11_restore_9 : decode cX11_restore 9 = .ok (.ifCond .ne 5, 3) := eX11_restore_0q.2.2.2.2.2.1
theorem dX11_restore_12 : decode cX11_restore 12 = .ok (.iconst 0, 1) := eX11_restore_0q.2.2.2.2.2.2.1
theorem dX11_restore_13 : decode cX11_restore 13 = .ok (.ireturn, 1) := eX11_restore_0q.2.2.2.2.2.2.2
theorem eX11_restore_14q : (decode cX11_restore 14 = .ok (.aload_n 0, 1)) ∧ (decode cX11_restore 15 = .ok (.aload_n 0, 1)) ∧ (decode cX11_restore 16 = .ok (.getfield 477, 3)) ∧ (decode cX11_restore 19 = .ok (.putfield 250, 3)) ∧ (decode cX11_restore 22 = .ok (.aload_n 0, 1)) ∧ (decode cX11_restore 23 = .ok (.aload_n 0, 1)) ∧ (decode cX11_restore 24 = .ok (.getfield 480, 3)) ∧ (decode cX11_restore 27 = .ok (.putfield 253, 3)) := by decide +kernel
theorem dX11_restore_14 : decode cX11_restore 14 = .ok (.aload_n 0, 1) := eX11_restore_14q.1
theorem dX11_restore_15 : decode cX11_restore 15 = .ok (.aload_n 0, 1) := eX11_restore_14q.2.1
theorem dX11_restore_16 : decode cX11_restore 16 = .ok (.getfield 477, 3) := eX11_restore_14q.2.2.1
theorem dX11_restore_19 : decode cX11_restore 19 = .ok (.putfield 250, 3) := eX11_restore_14q.2.2.2.1
theorem dX11_restore_22 : decode cX11_restore 22 = .ok (.aload_n 0, 1) := eX11_restore_14q.2.2.2.2.1
theorem dX11_restore_23 : decode cX11_restore 23 = .ok (.aload_n 0, 1) := eX11_restore_14q.2.2.2.2.2.1
theorem dX11_restore_24 : decode cX11_restore 24 = .ok (.getfield 480, 3) := eX11_restore_14q.2.2.2.2.2.2.1
theorem dX11_restore_27 : decode cX11_restore 27 = .ok (.putfield 253, 3) := eX11_restore_14q.2.2.2.2.2.2.2
theorem eX11_restore_30q : (decode cX11_restore 30 = .ok (.aload_n 0, 1)) ∧ (decode cX11_restore 31 = .ok (.getfield 60, 3)) ∧ (decode cX11_restore 34 = .ok (.aload_n 0, 1)) ∧ (decode cX11_restore 35 = .ok (.getfield 121, 3)) ∧ (decode cX11_restore 38 = .ok (.invokestatic 467, 3)) ∧ (decode cX11_restore 41 = .ok (.aload_n 0, 1)) ∧ (decode cX11_restore 42 = .ok (.getfield 84, 3)) ∧ (decode cX11_restore 45 = .ok (.aload_n 0, 1)) := by decide +kernel
theorem dX11_restore_30 : decode cX11_restore 30 = .ok (.aload_n 0, 1) := eX11_restore_30q.1
theorem dX11_restore_31 : decode cX11_restore 31 = .ok (.getfield 60, 3) := eX11_restore_30q.2.1
theorem dX11_restore_34 : decode cX11_restore 34 = .ok (.aload_n 0, 1) := eX11_restore_30q.2.2.1
theorem dX11_restore_35 : decode cX11_restore 35 = .ok (.getfield 121, 3) := eX11_restore_30q.2.2.2.1
theorem dX11_restore_38 : decode cX11_restore 38 = .ok (.invokestatic 467, 3) := eX11_restore_30q.2.2.2.2.1
theorem dX11_restore_41 : decode cX11_restore 41 = .ok (.aload_n 0, 1) := eX11_restore_30q.2.2.2.2.2.1
theorem dX11_restore_42 : decode cX11_restore 42 = .ok (.getfield 84, 3) := eX11_restore_30q.2.2.2.2.2.2.1
theorem dX11_restore_45 : decode cX11_restore 45 = .ok (.aload_n 0, 1) := eX11_restore_30q.2.2.2.2.2.2.2
theorem eX11_restore_46q : (decode cX11_restore 46 = .ok (.getfield 124, 3)) ∧ (decode cX11_restore 49 = .ok (.invokestatic 467, 3)) ∧ (decode cX11_restore 52 = .ok (.aload_n 0, 1)) ∧ (decode cX11_restore 53 = .ok (.getfield 103, 3)) ∧ (decode cX11_restore 56 = .ok (.aload_n 0, 1)) ∧ (decode cX11_restore 57 = .ok (.getfield 127, 3)) ∧ (decode cX11_restore 60 = .ok (.invokestatic 467, 3)) ∧ (decode cX11_restore 63 = .ok (.aload_n 0, 1)) := by decide +kernel
theorem dX11_restore_46 : decode cX11_restore 46 = .ok (.getfield 124, 3) := eX11_restore_46q.1
theorem dX11_restore_49 : decode cX11_restore 49 = .ok (.invokestatic 467, 3) := eX11_restore_46q.2.1
theorem dX11_restore_52 : decode cX11_restore 52 = .ok (.aload_n 0, 1) := eX11_restore_46q.2.2.1
theorem dX11_restore_53 : decode cX11_restore 53 = .ok (.getfield 103, 3) := eX11_restore_46q.2.2.2.1
theorem dX11_restore_56 : decode cX11_restore 56 = .ok (.aload_n 0, 1) := eX11_restore_46q.2.2.2.2.1
theorem dX11_restore_57 : decode cX11_restore 57 = .ok (.getfield 127, 3) := eX11_restore_46q.2.2.2.2.2.1
theorem dX11_restore_60 : decode cX11_restore 60 = .ok (.invokestatic 467, 3) := eX11_restore_46q.2.2.2.2.2.2.1
theorem dX11_restore_63 : decode cX11_restore 63 = .ok (.aload_n 0, 1) := eX11_restore_46q.2.2.2.2.2.2.2
theorem eX11_restore_64q : (decode cX11_restore 64 = .ok (.getfield 106, 3)) ∧ (decode cX11_restore 67 = .ok (.aload_n 0, 1)) ∧ (decode cX11_restore 68 = .ok (.getfield 130, 3)) ∧ (decode cX11_restore 71 = .ok (.invokestatic 467, 3)) ∧ (decode cX11_restore 74 = .ok (.aload_n 0, 1)) ∧ (decode cX11_restore 75 = .ok (.getfield 109, 3)) ∧ (decode cX11_restore 78 = .ok (.aload_n 0, 1)) ∧ (decode cX11_restore 79 = .ok (.getfield 133, 3)) := by decide +kernel
theorem dX11_restore_64 : decode cX11_restore 64 = .ok (.getfield 106, 3) := eX11_restore_64q.1
theorem dX11_restore_67 : decode cX11_restore 67 = .ok (.aload_n 0, 1) := eX11_restore_64q.2.1
theorem dX11_restore_68 : decode cX11_restore 68 = .ok (.getfield 130, 3) := eX11_restore_64q.2.2.1
theorem dX11_restore_71 : decode cX11_restore 71 = .ok (.invokestatic 467, 3) := eX11_restore_64q.2.2.2.1
theorem dX11_restore_74 : decode cX11_restore 74 = .ok (.aload_n 0, 1) := eX11_restore_64q.2.2.2.2.1
theorem dX11_restore_75 : decode cX11_restore 75 = .ok (.getfield 109, 3) := eX11_restore_64q.2.2.2.2.2.1
theorem dX11_restore_78 : decode cX11_restore 78 = .ok (.aload_n 0, 1) := eX11_restore_64q.2.2.2.2.2.2.1
theorem dX11_restore_79 : decode cX11_restore 79 = .ok (.getfield 133, 3) := eX11_restore_64q.2.2.2.2.2.2.2
theorem eX11_restore_82q : (decode cX11_restore 82 = .ok (.invokestatic 467, 3)) ∧ (decode cX11_restore 85 = .ok (.aload_n 0, 1)) ∧ (decode cX11_restore 86 = .ok (.getfield 112, 3)) ∧ (decode cX11_restore 89 = .ok (.aload_n 0, 1)) ∧ (decode cX11_restore 90 = .ok (.getfield 136, 3)) ∧ (decode cX11_restore 93 = .ok (.invokestatic 467, 3)) ∧ (decode cX11_restore 96 = .ok (.aload_n 0, 1)) ∧ (decode cX11_restore 97 = .ok (.getfield 63, 3)) := by decide +kernel
theorem dX11_restore_82 : decode cX11_restore 82 = .ok (.invokestatic 467, 3) := eX11_restore_82q.1
theorem dX11_restore_85 : decode cX11_restore 85 = .ok (.aload_n 0, 1) := eX11_restore_82q.2.1
theorem dX11_restore_86 : decode cX11_restore 86 = .ok (.getfield 112, 3) := eX11_restore_82q.2.2.1
theorem dX11_restore_89 : decode cX11_restore 89 = .ok (.aload_n 0, 1) := eX11_restore_82q.2.2.2.1
theorem dX11_restore_90 : decode cX11_restore 90 = .ok (.getfield 136, 3) := eX11_restore_82q.2.2.2.2.1
theorem dX11_restore_93 : decode cX11_restore 93 = .ok (.invokestatic 467, 3) := eX11_restore_82q.2.2.2.2.2.1
theorem dX11_restore_96 : decode cX11_restore 96 = .ok (.aload_n 0, 1) := eX11_restore_82q.2.2.2.2.2.2.1
theorem dX11_restore_97 : decode cX11_restore 97 = .ok (.getfield 63, 3) := eX11_restore_82q.2.2.2.2.2.2.2
theorem eX11_restore_100q : (decode cX11_restore 100 = .ok (.aload_n 0, 1)) ∧ (decode cX11_restore 101 = .ok (.getfield 139, 3)) ∧ (decode cX11_restore 104 = .ok (.invokestatic 467, 3)) ∧ (decode cX11_restore 107 = .ok (.iconst 1, 1)) ∧ (decode cX11_restore 108 = .ok (.ireturn, 1)) := by decide +kernel
theorem dX11_restore_100 : decode cX11_restore 100 = .ok (.aload_n 0, 1) := eX11_restore_100q.1
theorem dX11_restore_101 : decode cX11_restore 101 = .ok (.getfield 139, 3) := eX11_restore_100q.2.1
theorem dX11_restore_104 : decode cX11_restore 104 = .ok (.invokestatic 467, 3) := eX11_restore_100q.2.2.1
theorem dX11_restore_107 : decode cX11_restore 107 = .ok (.iconst 1, 1) := eX11_restore_100q.2.2.2.1
theorem dX11_restore_108 : decode cX11_restore 108 = .ok (.ireturn, 1) := eX11_restore_100q.2.2.2.2
