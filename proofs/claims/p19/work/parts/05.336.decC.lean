theorem eX3_write_0q : (decode cX3_write 0 = .ok (.aload_n 0, 1)) ∧ (decode cX3_write 1 = .ok (.getfield 24, 3)) ∧ (decode cX3_write 4 = .ok (.bipush 8, 2)) ∧ (decode cX3_write 6 = .ok (.if_icmp .lt 4, 3)) ∧ (decode cX3_write 9 = .ok (.return_, 1)) ∧ (decode cX3_write 10 = .ok (.aload_n 0, 1)) ∧ (decode cX3_write 11 = .ok (.getfield 9, 3)) ∧ (decode cX3_write 14 = .ok (.aload_n 0, 1)) := by decide +kernel
theorem dX3_write_0 : decode cX3_write 0 = .ok (.aload_n 0, 1) := eX3_write_0q.1
theorem dX3_write_1 : decode cX3_write 1 = .ok (.getfield 24, 3) := eX3_write_0q.2.1
theorem dX3_write_4 : decode cX3_write 4 = .ok (.bipush 8, 2) := eX3_write_0q.2.2.1
theorem dX3_write_6 : decode cX3_write 6 = .ok (.if_icmp .lt 4, 3) := eX3_write_0q.2.2.2.1
theorem dX3_write_9 : decode cX3_write 9 = .ok (.return_, 1) := eX3_write_0q.2.2.2.2.1
theorem dX3_write_10 : decode cX3_write 10 = .ok (.aload_n 0, 1) := eX3_write_0q.2.2.2.2.2.1
theorem dX3_write_11 : decode cX3_write 11 = .ok (.getfield 9, 3) := eX3_write_0q.2.2.2.2.2.2.1
theorem dX3_write_14 : decode cX3_write 14 = .ok (.aload_n 0, 1) := eX3_write_0q.2.2.2.2.2.2.2
theorem eX3_write_15q : (decode cX3_write 15 = .ok (.getfield 24, 3)) ∧ (decode cX3_write 18 = .ok (.iload_n 1, 1)) ∧ (decode cX3_write 19 = .ok (.iastore, 1)) ∧ (decode cX3_write 20 = .ok (.aload_n 0, 1)) ∧ (decode cX3_write 21 = .ok (.getfield 15, 3)) ∧ (decode cX3_write 24 = .ok (.aload_n 0, 1)) ∧ (decode cX3_write 25 = .ok (.getfield 24, 3)) ∧ (decode cX3_write 28 = .ok (.iload_n 2, 1)) := by decide +kernel
theorem dX3_write_15 : decode cX3_write 15 = .ok (.getfield 24, 3) := eX3_write_15q.1
theorem dX3_write_18 : decode cX3_write 18 = .ok (.iload_n 1, 1) := eX3_write_15q.2.1
theorem dX3_write_19 : decode cX3_write 19 = .ok (.iastore, 1) := eX3_write_15q.2.2.1
theorem dX3_write_20 : decode cX3_write 20 = .ok (.aload_n 0, 1) := eX3_write_15q.2.2.2.1
theorem dX3_write_21 : decode cX3_write 21 = .ok (.getfield 15, 3) := eX3_write_15q.2.2.2.2.1
theorem dX3_write_24 : decode cX3_write 24 = .ok (.aload_n 0, 1) := eX3_write_15q.2.2.2.2.2.1
theorem dX3_write_25 : decode cX3_write 25 = .ok (.getfield 24, 3) := eX3_write_15q.2.2.2.2.2.2.1
theorem dX3_write_28 : decode cX3_write 28 = .ok (.iload_n 2, 1) := eX3_write_15q.2.2.2.2.2.2.2
theorem eX3_write_29q : (decode cX3_write 29 = .ok (.iastore, 1)) ∧ (decode cX3_write 30 = .ok (.aload_n 0, 1)) ∧ (decode cX3_write 31 = .ok (.getfield 18, 3)) ∧ (decode cX3_write 34 = .ok (.aload_n 0, 1)) ∧ (decode cX3_write 35 = .ok (.getfield 24, 3)) ∧ (decode cX3_write 38 = .ok (.iload_n 3, 1)) ∧ (decode cX3_write 39 = .ok (.iastore, 1)) ∧ (decode cX3_write 40 = .ok (.aload_n 0, 1)) := by decide +kernel
theorem dX3_write_29 : decode cX3_write 29 = .ok (.iastore, 1) := eX3_write_29q.1
theorem dX3_write_30 : decode cX3_write 30 = .ok (.aload_n 0, 1) := eX3_write_29q.2.1
theorem dX3_write_31 : decode cX3_write 31 = .ok (.getfield 18, 3) := eX3_write_29q.2.2.1
theorem dX3_write_34 : decode cX3_write 34 = .ok (.aload_n 0, 1) := eX3_write_29q.2.2.2.1
theorem dX3_write_35 : decode cX3_write 35 = .ok (.getfield 24, 3) := eX3_write_29q.2.2.2.2.1
theorem dX3_write_38 : decode cX3_write 38 = .ok (.iload_n 3, 1) := eX3_write_29q.2.2.2.2.2.1
theorem dX3_write_39 : decode cX3_write 39 = .ok (.iastore, 1) := eX3_write_29q.2.2.2.2.2.2.1
theorem dX3_write_40 : decode cX3_write 40 = .ok (.aload_n 0, 1) := eX3_write_29q.2.2.2.2.2.2.2
theorem eX3_write_41q : (decode cX3_write 41 = .ok (.getfield 21, 3)) ∧ (decode cX3_write 44 = .ok (.aload_n 0, 1)) ∧ (decode cX3_write 45 = .ok (.getfield 24, 3)) ∧ (decode cX3_write 48 = .ok (.iload 4, 2)) ∧ (decode cX3_write 50 = .ok (.iastore, 1)) ∧ (decode cX3_write 51 = .ok (.aload_n 0, 1)) ∧ (decode cX3_write 52 = .ok (.dup, 1)) ∧ (decode cX3_write 53 = .ok (.getfield 24, 3)) := by decide +kernel
theorem dX3_write_41 : decode cX3_write 41 = .ok (.getfield 21, 3) := eX3_write_41q.1
theorem dX3_write_44 : decode cX3_write 44 = .ok (.aload_n 0, 1) := eX3_write_41q.2.1
theorem dX3_write_45 : decode cX3_write 45 = .ok (.getfield 24, 3) := eX3_write_41q.2.2.1
theorem dX3_write_48 : decode cX3_write 48 = .ok (.iload 4, 2) := eX3_write_41q.2.2.2.1
theorem dX3_write_50 : decode cX3_write 50 = .ok (.iastore, 1) := eX3_write_41q.2.2.2.2.1
theorem dX3_write_51 : decode cX3_write 51 = .ok (.aload_n 0, 1) := eX3_write_41q.2.2.2.2.2.1
theorem dX3_write_52 : decode cX3_write 52 = .ok (.dup, 1) := eX3_write_41q.2.2.2.2.2.2.1
theorem dX3_write_53 : decode cX3_write 53 = .ok (.getfield 24, 3) := eX3_write_41q.2.2.2.2.2.2.2
theorem eX3_write_56q : (decode cX3_write 56 = .ok (.iconst 1, 1)) ∧ (decode cX3_write 57 = .ok (.iadd, 1)) ∧ (decode cX3_write 58 = .ok (.putfield 24, 3)) ∧ (decode cX3_write 61 = .ok (.return_, 1)) := by decide +kernel
theorem dX3_write_56 : decode cX3_write 56 = .ok (.iconst 1, 1) := eX3_write_56q.1
theorem dX3_write_57 : decode cX3_write 57 = .ok (.iadd, 1) := eX3_write_56q.2.1
theorem dX3_write_58 : decode cX3_write 58 = .ok (.putfield 24, 3) := eX3_write_56q.2.2.1
theorem dX3_write_61 : decode cX3_write 61 = .ok (.return_, 1) := eX3_write_56q.2.2.2
theorem eX3_copyFrom_0q : (decode cX3_copyFrom 0 = .ok (.aload_n 1, 1)) ∧ (decode cX3_copyFrom 1 = .ok (.getfield 9, 3)) ∧ (decode cX3_copyFrom 4 = .ok (.iconst 0, 1)) ∧ (decode cX3_copyFrom 5 = .ok (.aload_n 0, 1)) ∧ (decode cX3_copyFrom 6 = .ok (.getfield 9, 3)) ∧ (decode cX3_copyFrom 9 = .ok (.iconst 0, 1)) ∧ (decode cX3_copyFrom 10 = .ok (.bipush 8, 2)) ∧ (decode cX3_copyFrom 12 = .ok (.invokestatic 42, 3)) := by decide +kernel
theorem dX3_copyFrom_0 : decode cX3_copyFrom 0 = .ok (.aload_n 1, 1) := eX3_copyFrom_0q.1
theorem dX3_copyFrom_1 : decode cX3_copyFrom 1 = .ok (.getfield 9, 3) := eX3_copyFrom_0q.2.1
theorem dX3_copyFrom_4 : decode cX3_copyFrom 4 = .ok (.iconst 0, 1) := eX3_copyFrom_0q.2.2.1
theorem dX3_copyFrom_5 : decode cX3_copyFrom 5 = .ok (.aload_n 0, 1) := eX3_copyFrom_0q.2.2.2.1
theorem dX3_copyFrom_6 : decode cX3_copyFrom 6 = .ok (.getfield 9, 3) := eX3_copyFrom_0q.2.2.2.2.1
theorem dX3_copyFrom_9 : decode cX3_copyFrom 9 = .ok (.iconst 0, 1) := eX3_copyFrom_0q.2.2.2.2.2.1
theorem dX3_copyFrom_10 : decode cX3_copyFrom 10 = .ok (.bipush 8, 2) := eX3_copyFrom_0q.2.2.2.2.2.2.1
theorem dX3_copyFrom_12 : decode cX3_copyFrom 12 = .ok (.invokestatic 42, 3) := eX3_copyFrom_0q.2.2.2.2.2.2.2
theorem eX3_copyFrom_15q : (decode cX3_copyFrom 15 = .ok (.aload_n 1, 1)) ∧ (decode cX3_copyFrom 16 = .ok (.getfield 15, 3)) ∧ (decode cX3_copyFrom 19 = .ok (.iconst 0, 1)) ∧ (decode cX3_copyFrom 20 = .ok (.aload_n 0, 1)) ∧ (decode cX3_copyFrom 21 = .ok (.getfield 15, 3)) ∧ (decode cX3_copyFrom 24 = .ok (.iconst 0, 1)) ∧ (decode cX3_copyFrom 25 = .ok (.bipush 8, 2)) ∧ (decode cX3_copyFrom 27 = .ok (.invokestatic 42, 3)) := by decide +kernel
theorem dX3_copyFrom_15 : decode cX3_copyFrom 15 = .ok (.aload_n 1, 1) := eX3_copyFrom_15q.1
theorem dX3_copyFrom_16 : decode cX3_copyFrom 16 = .ok (.getfield 15, 3) := eX3_copyFrom_15q.2.1
theorem dX3_copyFrom_19 : decode cX3_copyFrom 19 = .ok (.iconst 0, 1) := eX3_copyFrom_15q.2.2.1
theorem dX3_copyFrom_20 : decode cX3_copyFrom 20 = .ok (.aload_n 0, 1) := eX3_copyFrom_15q.2.2.2.1
theorem dX3_copyFrom_21 : decode cX3_copyFrom 21 = .ok (.getfield 15, 3) := eX3_copyFrom_15q.2.2.2.2.1
theorem dX3_copyFrom_24 : decode cX3_copyFrom 24 = .ok (.iconst 0, 1) := eX3_copyFrom_15q.2.2.2.2.2.1
theorem dX3_copyFrom_25 : decode cX3_copyFrom 25 = .ok (.bipush 8, 2) := eX3_copyFrom_15q.2.2.2.2.2.2.1
theorem dX3_copyFrom_27 : decode cX3_copyFrom 27 = .ok (.invokestatic 42, 3) := eX3_copyFrom_15q.2.2.2.2.2.2.2
theorem eX3_copyFrom_30q : (decode cX3_copyFrom 30 = .ok (.aload_n 1, 1)) ∧ (decode cX3_copyFrom 31 = .ok (.getfield 18, 3)) ∧ (decode cX3_copyFrom 34 = .ok (.iconst 0, 1)) ∧ (decode cX3_copyFrom 35 = .ok (.aload_n 0, 1)) ∧ (decode cX3_copyFrom 36 = .ok (.getfield 18, 3)) ∧ (decode cX3_copyFrom 39 = .ok (.iconst 0, 1)) ∧ (decode cX3_copyFrom 40 = .ok (.bipush 8, 2)) ∧ (decode cX3_copyFrom 42 = .ok (.invokestatic 42, 3)) := by decide +kernel
theorem dX3_copyFrom_30 : decode cX3_copyFrom 30 = .ok (.aload_n 1, 1) := eX3_copyFrom_30q.1
theorem dX3_copyFrom_31 : decode cX3_copyFrom 31 = .ok (.getfield 18, 3) := eX3_copyFrom_30q.2.1
theorem dX3_copyFrom_34 : decode cX3_copyFrom 34 = .ok (.iconst 0, 1) := eX3_copyFrom_30q.2.2.1
theorem dX3_copyFrom_35 : decode cX3_copyFrom 35 = .ok (.aload_n 0, 1) := eX3_copyFrom_30q.2.2.2.1
theorem dX3_copyFrom_36 : decode cX3_copyFrom 36 = .ok (.getfield 18, 3) := eX3_copyFrom_30q.2.2.2.2.1
theorem dX3_copyFrom_39 : decode cX3_copyFrom 39 = .ok (.iconst 0, 1) := eX3_copyFrom_30q.2.2.2.2.2.1
theorem dX3_copyFrom_40 : decode cX3_copyFrom 40 = .ok (.bipush 8, 2) := eX3_copyFrom_30q.2.2.2.2.2.2.1
theorem dX3_copyFrom_42 : decode cX3_copyFrom 42 = .ok (.invokestatic 42, 3) := eX3_copyFrom_30q.2.2.2.2.2.2.2
theorem eX3_copyFrom_45q : (decode cX3_copyFrom 45 = .ok (.aload_n 1, 1)) ∧ (decode cX3_copyFrom 46 = .ok (.getfield 21, 3)) ∧ (decode cX3_copyFrom 49 = .ok (.iconst 0, 1)) ∧ (decode cX3_copyFrom 50 = .ok (.aload_n 0, 1)) ∧ (decode cX3_copyFrom 51 = .ok (.getfield 21, 3)) ∧ (decode cX3_copyFrom 54 = .ok (.iconst 0, 1)) ∧ (decode cX3_copyFrom 55 = .ok (.bipush 8, 2)) ∧ (decode cX3_copyFrom 57 = .ok (.invokestatic 42, 3)) := by decide +kernel
theorem dX3_copyFrom_45 : decode cX3_copyFrom 45 = .ok (.aload_n 1, 1) := eX3_copyFrom_45q.1
theorem dX3_copyFrom_46 : decode cX3_copyFrom 46 = .ok (.getfield 21, 3) := eX3_copyFrom_45q.2.1
theorem dX3_copyFrom_49 : decode cX3_copyFrom 49 = .ok (.iconst 0, 1) := eX3_copyFrom_45q.2.2.1
theorem dX3_copyFrom_50 : decode cX3_copyFrom 50 = .ok (.aload_n 0, 1) := eX3_copyFrom_45q.2.2.2.1
theorem dX3_copyFrom_51 : decode cX3_copyFrom 51 = .ok (.getfield 21, 3) := eX3_copyFrom_45q.2.2.2.2.1
theorem dX3_copyFrom_54 : decode cX3_copyFrom 54 = .ok (.iconst 0, 1) := eX3_copyFrom_45q.2.2.2.2.2.1
theorem dX3_copyFrom_55 : decode cX3_copyFrom 55 = .ok (.bipush 8, 2) := eX3_copyFrom_45q.2.2.2.2.2.2.1
theorem dX3_copyFrom_57 : decode cX3_copyFrom 57 = .ok (.invokestatic 42, 3) := eX3_copyFrom_45q.2.2.2.2.2.2.2
theorem eX3_copyFrom_60q : (decode cX3_copyFrom 60 = .ok (.aload_n 0, 1)) ∧ (decode cX3_copyFrom 61 = .ok (.aload_n 1, 1)) ∧ (decode cX3_copyFrom 62 = .ok (.getfield 24, 3)) ∧ (decode cX3_copyFrom 65 = .ok (.putfield 24, 3)) ∧ (decode cX3_copyFrom 68 = .ok (.return_, 1)) := by decide +kernel
theorem dX3_copyFrom_60 : decode cX3_copyFrom 60 = .ok (.aload_n 0, 1) := eX3_copyFrom_60q.1
theorem dX3_copyFrom_61 : decode cX3_copyFrom 61 = .ok (.aload_n 1, 1) := eX3_copyFrom_60q.2.1
theorem dX3_copyFrom_62 : decode cX3_copyFrom 62 = .ok (.getfield 24, 3) := eX3_copyFrom_60q.2.2.1
theorem dX3_copyFrom_65 : decode cX3_copyFrom 65 = .ok (.putfield 24, 3) := eX3_copyFrom_60q.2.2.2.1
theorem dX3_copyFrom_68 : decode cX3_copyFrom 68 = .ok (.return_, 1) := eX3_copyFrom_60q.2.2.2.2
set_option maxRecDepth 20000 in
theorem ggX3_fitting_X3_fittingNote : GoodIn wsX3_fitting wsX3_fittingNote := by
  have h := goodIn_app (goodIn_app (goodIn_app (goodIn_app (goodIn_r (big := wsX3_fitting) (.code yX3_fittingNote cX3_fittingNote 9 (some .long) :: (wsX3_fittingNote_r1 ++ (wsX3_fittingNote_r2 ++ wsX3_fittingNote_r3)) : List Cond) [7, 8, 9, 10, 11, 12, 13, 14, 15, 16, 17, 18, 19, 20, 21, 22, 23, 24, 25, 26, 27, 28, 29, 30, 31, 32, 33, 34, 35, 36, 37, 38, 39, 40, 41, 42, 43, 44, 45, 46, 47, 48, 49, 50, 51, 52, 53, 54, 55, 56, 57, 58, 59, 60, 61, 62, 63, 64, 65, 66, 67, 68, 69, 70, 71, 72, 73, 74, 75, 76, 77, 78, 79] rfl (by decide +kernel)) (goodIn_few (big := wsX3_fitting) (fun _ h9 => List.mem_cons_of_mem _ (List.mem_append_left _ (List.mem_append_left _ (List.mem_append_left _ (List.mem_append_right _ h9))))) gb_8)) (goodIn_few (big := wsX3_fitting) (fun _ h9 => List.mem_cons_of_mem _ (List.mem_append_left _ (List.mem_append_left _ (List.mem_append_right _ h9)))) gb_5)) (goodIn_few (big := wsX3_fitting) (fun _ h9 => List.mem_cons_of_mem _ (List.mem_append_left _ (List.mem_append_right _ h9))) gb_2)) (goodIn_few (big := wsX3_fitting) (fun _ h9 => List.mem_cons_of_mem _ (List.mem_append_right _ h9)) gb_1)
  exact h
set_option maxRecDepth 20000 in
theorem gX3_fitting_X3_fittingNote : GoodIn wsX3_fitting (wsV RX3 50 RX3 yX3_fittingNote wsX3_fittingNote) := goodIn_app (goodIn_r _ [3, 4, 5, 6] rfl (by decide +kernel)) ggX3_fitting_X3_fittingNote
theorem eX3_fitting_0q : (decode cX3_fitting 0 = .ok (.lconst 0, 1)) ∧ (decode cX3_fitting 1 = .ok (.lstore_n 2, 1)) ∧ (decode cX3_fitting 2 = .ok (.iconst 0, 1)) ∧ (decode cX3_fitting 3 = .ok (.istore 4, 2)) ∧ (decode cX3_fitting 5 = .ok (.iload 4, 2)) ∧ (decode cX3_fitting 7 = .ok (.iconst 3, 1)) ∧ (decode cX3_fitting 8 = .ok (.if_icmp .gt 27, 3)) ∧ (decode cX3_fitting 11 = .ok (.iload 4, 2)) := by decide +kernel
theorem dX3_fitting_0 : decode cX3_fitting 0 = .ok (.lconst 0, 1) := eX3_fitting_0q.1
theorem dX3_fitting_1 : decode cX3_fitting 1 = .ok (.lstore_n 2, 1) := eX3_fitting_0q.2.1
theorem dX3_fitting_2 : decode cX3_fitting 2 = .ok (.iconst 0, 1) := eX3_fitting_0q.2.2.1
theorem dX3_fitting_3 : decode cX3_fitting 3 = .ok (.istore 4, 2) := eX3_fitting_0q.2.2.2.1
theorem dX3_fitting_5 : decode cX3_fitting 5 = .ok (.iload 4, 2) := eX3_fitting_0q.2.2.2.2.1
theorem dX3_fitting_7 : decode cX3_fitting 7 = .ok (.iconst 3, 1) := eX3_fitting_0q.2.2.2.2.2.1
theorem dX3_fitting_8 : decode cX3_fitting 8 = .ok (.if_icmp .gt 27, 3) := eX3_fitting_0q.2.2.2.2.2.2.1
theorem dX3_fitting_11 : decode cX3_fitting 11 = .ok (.iload 4, 2) := eX3_fitting_0q.2.2.2.2.2.2.2
theorem eX3_fitting_13q : (decode cX3_fitting 13 = .ok (.iconst 2, 1)) ∧ (decode cX3_fitting 14 = .ok (.if_icmp .eq 15, 3)) ∧ (decode cX3_fitting 17 = .ok (.lload_n 2, 1)) ∧ (decode cX3_fitting 18 = .ok (.ldc2_w 48, 3)) ∧ (decode cX3_fitting 21 = .ok (.bipush 16, 2)) ∧ (decode cX3_fitting 23 = .ok (.iload 4, 2)) ∧ (decode cX3_fitting 25 = .ok (.imul, 1)) ∧ (decode cX3_fitting 26 = .ok (.lshl, 1)) := by decide +kernel
theorem dX3_fitting_13 : decode cX3_fitting 13 = .ok (.iconst 2, 1) := eX3_fitting_13q.1
theorem dX3_fitting_14 : decode cX3_fitting 14 = .ok (.if_icmp .eq 15, 3) := eX3_fitting_13q.2.1
theorem dX3_fitting_17 : decode cX3_fitting 17 = .ok (.lload_n 2, 1) := eX3_fitting_13q.2.2.1
theorem dX3_fitting_18 : decode cX3_fitting 18 = .ok (.ldc2_w 48, 3) := eX3_fitting_13q.2.2.2.1
theorem dX3_fitting_21 : decode cX3_fitting 21 = .ok (.bipush 16, 2) := eX3_fitting_13q.2.2.2.2.1
theorem dX3_fitting_23 : decode cX3_fitting 23 = .ok (.iload 4, 2) := eX3_fitting_13q.2.2.2.2.2.1
theorem dX3_fitting_25 : decode cX3_fitting 25 = .ok (.imul, 1) := eX3_fitting_13q.2.2.2.2.2.2.1
theorem dX3_fitting_26 : decode cX3_fitting 26 = .ok (.lshl, 1) := eX3_fitting_13q.2.2.2.2.2.2.2
theorem eX3_fitting_27q : (decode cX3_fitting 27 = .ok (.lor, 1)) ∧ (decode cX3_fitting 28 = .ok (.lstore_n 2, 1)) ∧ (decode cX3_fitting 29 = .ok (.iinc 4 1, 3)) ∧ (decode cX3_fitting 32 = .ok (.goto (-27), 3)) ∧ (decode cX3_fitting 35 = .ok (.iconst 0, 1)) ∧ (decode cX3_fitting 36 = .ok (.istore 4, 2)) ∧ (decode cX3_fitting 38 = .ok (.iload 4, 2)) ∧ (decode cX3_fitting 40 = .ok (.aload_n 0, 1)) := by decide +kernel
theorem dX3_fitting_27 : decode cX3_fitting 27 = .ok (.lor, 1) := eX3_fitting_27q.1
theorem dX3_fitting_28 : decode cX3_fitting 28 = .ok (.lstore_n 2, 1) := eX3_fitting_27q.2.1
theorem dX3_fitting_29 : decode cX3_fitting 29 = .ok (.iinc 4 1, 3) := eX3_fitting_27q.2.2.1
theorem dX3_fitting_32 : decode cX3_fitting 32 = .ok (.goto (-27), 3) := eX3_fitting_27q.2.2.2.1
theorem dX3_fitting_35 : decode cX3_fitting 35 = .ok (.iconst 0, 1) := eX3_fitting_27q.2.2.2.2.1
theorem dX3_fitting_36 : decode cX3_fitting 36 = .ok (.istore 4, 2) := eX3_fitting_27q.2.2.2.2.2.1
theorem dX3_fitting_38 : decode cX3_fitting 38 = .ok (.iload 4, 2) := eX3_fitting_27q.2.2.2.2.2.2.1
theorem dX3_fitting_40 : decode cX3_fitting 40 = .ok (.aload_n 0, 1) := eX3_fitting_27q.2.2.2.2.2.2.2
theorem eX3_fitting_41q : (decode cX3_fitting 41 = .ok (.getfield 24, 3)) ∧ (decode cX3_fitting 44 = .ok (.if_icmp .ge 19, 3)) ∧ (decode cX3_fitting 47 = .ok (.lload_n 2, 1)) ∧ (decode cX3_fitting 48 = .ok (.aload_n 0, 1)) ∧ (decode cX3_fitting 49 = .ok (.iload_n 1, 1)) ∧ (decode cX3_fitting 50 = .ok (.iload 4, 2)) ∧ (decode cX3_fitting 52 = .ok (.invokevirtual 50, 3)) ∧ (decode cX3_fitting 55 = .ok (.land, 1)) := by decide +kernel
theorem dX3_fitting_41 : decode cX3_fitting 41 = .ok (.getfield 24, 3) := eX3_fitting_41q.1
theorem dX3_fitting_44 : decode cX3_fitting 44 = .ok (.if_icmp .ge 19, 3) := eX3_fitting_41q.2.1
theorem dX3_fitting_47 : decode cX3_fitting 47 = .ok (.lload_n 2, 1) := eX3_fitting_41q.2.2.1
theorem dX3_fitting_48 : decode cX3_fitting 48 = .ok (.aload_n 0, 1) := eX3_fitting_41q.2.2.2.1
theorem dX3_fitting_49 : decode cX3_fitting 49 = .ok (.iload_n 1, 1) := eX3_fitting_41q.2.2.2.2.1
theorem dX3_fitting_50 : decode cX3_fitting 50 = .ok (.iload 4, 2) := eX3_fitting_41q.2.2.2.2.2.1
theorem dX3_fitting_52 : decode cX3_fitting 52 = .ok (.invokevirtual 50, 3) := eX3_fitting_41q.2.2.2.2.2.2.1
theorem dX3_fitting_55 : decode cX3_fitting 55 = .ok (.land, 1) := eX3_fitting_41q.2.2.2.2.2.2.2
theorem eX3_fitting_56q : (decode cX3_fitting 56 = .ok (.lstore_n 2, 1)) ∧ (decode cX3_fitting 57 = .ok (.iinc 4 1, 3)) ∧ (decode cX3_fitting 60 = .ok (.goto (-22), 3)) ∧ (decode cX3_fitting 63 = .ok (.lload_n 2, 1)) ∧ (decode cX3_fitting 64 = .ok (.lreturn, 1)) := by decide +kernel
theorem dX3_fitting_56 : decode cX3_fitting 56 = .ok (.lstore_n 2, 1) := eX3_fitting_56q.1
theorem dX3_fitting_57 : decode cX3_fitting 57 = .ok (.iinc 4 1, 3) := eX3_fitting_56q.2.1
theorem dX3_fitting_60 : decode cX3_fitting 60 = .ok (.goto (-22), 3) := eX3_fitting_56q.2.2.1
theorem dX3_fitting_63 : decode cX3_fitting 63 = .ok (.lload_n 2, 1) := eX3_fitting_56q.2.2.2.1
theorem dX3_fitting_64 : decode cX3_fitting 64 = .ok (.lreturn, 1) := eX3_fitting_56q.2.2.2.2
set_option maxRecDepth 20000 in
theorem ggX3_fittingNote_X2_branchesOf : GoodIn wsX3_fittingNote wsX2_branchesOf := by
  have h := goodIn_app (goodIn_r (big := wsX3_fittingNote) (.code yX2_branchesOf cX2_branchesOf 3 (some .int) :: ([.fieldLink RX2 49 "PathProber$Net" "branches" "[I"]) : List Cond) [16, 17] rfl (by decide +kernel)) (goodIn_few (big := wsX3_fittingNote) (fun _ h9 => List.mem_cons_of_mem _ (List.mem_append_left _ (List.mem_append_right _ h9))) gb_2)
  exact h
set_option maxRecDepth 20000 in
theorem gX3_fittingNote_X2_branchesOf : GoodIn wsX3_fittingNote (wsV RX3 54 RX2 yX2_branchesOf wsX2_branchesOf) := goodIn_app (goodIn_r _ [12, 13, 14, 15] rfl (by decide +kernel)) ggX3_fittingNote_X2_branchesOf
set_option maxRecDepth 20000 in
theorem ggX3_fittingNote_X9_sway : GoodIn wsX3_fittingNote wsX9_sway := by
  have h := goodIn_app (goodIn_r (big := wsX3_fittingNote) (.code yX9_sway cX9_sway 3 none :: ([.fieldLink RX9 9 "PathProber$Walk" "swayed" "I", .fieldLink RX9 15 "PathProber$Walk" "swayedTo" "I"]) : List Cond) [22, 23, 24] rfl (by decide +kernel)) (goodIn_few (big := wsX3_fittingNote) (fun _ h9 => List.mem_cons_of_mem _ (List.mem_append_left _ (List.mem_append_left _ (List.mem_append_right _ h9)))) gb_5)
  exact h
set_option maxRecDepth 20000 in
theorem gX3_fittingNote_X9_sway : GoodIn wsX3_fittingNote (wsV RX3 65 RX9 yX9_sway wsX9_sway) := goodIn_app (goodIn_r _ [18, 19, 20, 21] rfl (by decide +kernel)) ggX3_fittingNote_X9_sway
set_option maxRecDepth 20000 in
theorem ggX3_fittingNote_X9_take : GoodIn wsX3_fittingNote wsX9_take := by
  have h := goodIn_app (goodIn_app (goodIn_app (goodIn_r (big := wsX3_fittingNote) (.code yX9_take cX9_take 6 none :: (wsX9_take_r1 ++ wsX9_take_r2) : List Cond) [28, 29, 30, 31, 32, 33, 34, 35, 36, 37, 38, 39, 40, 21, 41, 42, 43, 44, 45, 23, 24, 46, 47, 13, 14, 15, 16, 17, 48, 49, 50, 51, 52, 53, 54, 55] rfl (by decide +kernel)) (goodIn_few (big := wsX3_fittingNote) (fun _ h9 => List.mem_cons_of_mem _ (List.mem_append_left _ (List.mem_append_left _ (List.mem_append_right _ h9)))) gb_5)) (goodIn_few (big := wsX3_fittingNote) (fun _ h9 => List.mem_cons_of_mem _ (List.mem_append_left _ (List.mem_append_right _ h9))) gb_2)) (goodIn_few (big := wsX3_fittingNote) (fun _ h9 => List.mem_cons_of_mem _ (List.mem_append_right _ h9)) gb_1)
  exact h
set_option maxRecDepth 20000 in
theorem gX3_fittingNote_X9_take : GoodIn wsX3_fittingNote (wsV RX3 71 RX9 yX9_take wsX9_take) := goodIn_app (goodIn_r _ [25, 26, 27, 21] rfl (by decide +kernel)) ggX3_fittingNote_X9_take
set_option maxRecDepth 20000 in
theorem ggX3_fittingNote_X9_isAnswered : GoodIn wsX3_fittingNote wsX9_isAnswered := by
  have h := goodIn_app (goodIn_app (goodIn_r (big := wsX3_fittingNote) (.code yX9_isAnswered cX9_isAnswered 1 (some .boolean) :: ([.fieldLink RX9 33 "PathProber$Walk" "lost" "Z", .fieldLink RX9 37 "PathProber$Walk" "net" "LPathProber$Net;", .fieldLink RX9 55 "PathProber$Net" "manner" "[I", .fieldLink RX9 18 "PathProber$Walk" "router" "I", .methodLink RX9 88 yX2_goalAt, .instanceMethod yX2_goalAt, .selects RX2 yX2_goalAt yX2_goalAt, .initialized RX2, .code yX2_goalAt cX2_goalAt 3 (some .int), .fieldLink RX2 40 "PathProber$Net" "goals" "I", .fieldLink RX2 30 "PathProber$Net" "goal" "[I"]) : List Cond) [59, 34, 35, 37, 29, 60, 61, 62, 15, 63, 64, 65] rfl (by decide +kernel)) (goodIn_few (big := wsX3_fittingNote) (fun _ h9 => List.mem_cons_of_mem _ (List.mem_append_left _ (List.mem_append_left _ (List.mem_append_right _ h9)))) gb_5)) (goodIn_few (big := wsX3_fittingNote) (fun _ h9 => List.mem_cons_of_mem _ (List.mem_append_left _ (List.mem_append_right _ h9))) gb_2)
  exact h
set_option maxRecDepth 20000 in
theorem gX3_fittingNote_X9_isAnswered : GoodIn wsX3_fittingNote (wsV RX3 75 RX9 yX9_isAnswered wsX9_isAnswered) := goodIn_app (goodIn_r _ [56, 57, 58, 21] rfl (by decide +kernel)) ggX3_fittingNote_X9_isAnswered
set_option maxRecDepth 20000 in
theorem ggX3_fittingNote_X9_swayNone : GoodIn wsX3_fittingNote wsX9_swayNone := by
  have h := goodIn_app (goodIn_r (big := wsX3_fittingNote) (.code yX9_swayNone cX9_swayNone 1 none :: ([.fieldLink RX9 9 "PathProber$Walk" "swayed" "I"]) : List Cond) [69, 23] rfl (by decide +kernel)) (goodIn_few (big := wsX3_fittingNote) (fun _ h9 => List.mem_cons_of_mem _ (List.mem_append_left _ (List.mem_append_left _ (List.mem_append_right _ h9)))) gb_5)
  exact h
set_option maxRecDepth 20000 in
theorem gX3_fittingNote_X9_swayNone : GoodIn wsX3_fittingNote (wsV RX3 81 RX9 yX9_swayNone wsX9_swayNone) := goodIn_app (goodIn_r _ [66, 67, 68, 21] rfl (by decide +kernel)) ggX3_fittingNote_X9_swayNone
set_option maxRecDepth 20000 in
theorem ggX3_fittingNote_X9_choiceByCode : GoodIn wsX3_fittingNote wsX9_choiceByCode := goodIn_r _ [72, 48, 49, 21, 50] rfl (by decide +kernel)
set_option maxRecDepth 20000 in
theorem gX3_fittingNote_X9_choiceByCode : GoodIn wsX3_fittingNote (va_wsS RX3 84 yX9_choiceByCode wsX9_choiceByCode) := goodIn_app (goodIn_r _ [70, 71, 21] rfl (by decide +kernel)) ggX3_fittingNote_X9_choiceByCode
theorem eX3_fittingNote_0q : (decode cX3_fittingNote 0 = .ok (.aload_n 0, 1)) ∧ (decode cX3_fittingNote 1 = .ok (.getfield 34, 3)) ∧ (decode cX3_fittingNote 4 = .ok (.iload_n 1, 1)) ∧ (decode cX3_fittingNote 5 = .ok (.aload_n 0, 1)) ∧ (decode cX3_fittingNote 6 = .ok (.getfield 15, 3)) ∧ (decode cX3_fittingNote 9 = .ok (.iload_n 2, 1)) ∧ (decode cX3_fittingNote 10 = .ok (.iaload, 1)) ∧ (decode cX3_fittingNote 11 = .ok (.invokevirtual 54, 3)) := by decide +kernel
theorem dX3_fittingNote_0 : decode cX3_fittingNote 0 = .ok (.aload_n 0, 1) := eX3_fittingNote_0q.1
theorem dX3_fittingNote_1 : decode cX3_fittingNote 1 = .ok (.getfield 34, 3) := eX3_fittingNote_0q.2.1
theorem dX3_fittingNote_4 : decode cX3_fittingNote 4 = .ok (.iload_n 1, 1) := eX3_fittingNote_0q.2.2.1
theorem dX3_fittingNote_5 : decode cX3_fittingNote 5 = .ok (.aload_n 0, 1) := eX3_fittingNote_0q.2.2.2.1
theorem dX3_fittingNote_6 : decode cX3_fittingNote 6 = .ok (.getfield 15, 3) := eX3_fittingNote_0q.2.2.2.2.1
theorem dX3_fittingNote_9 : decode cX3_fittingNote 9 = .ok (.iload_n 2, 1) := eX3_fittingNote_0q.2.2.2.2.2.1
theorem dX3_fittingNote_10 : decode cX3_fittingNote 10 = .ok (.iaload, 1) := eX3_fittingNote_0q.2.2.2.2.2.2.1
theorem dX3_fittingNote_11 : decode cX3_fittingNote 11 = .ok (.invokevirtual 54, 3) := eX3_fittingNote_0q.2.2.2.2.2.2.2
theorem eX3_fittingNote_14q : (decode cX3_fittingNote 14 = .ok (.istore_n 3, 1)) ∧ (decode cX3_fittingNote 15 = .ok (.iconst 0, 1)) ∧ (decode cX3_fittingNote 16 = .ok (.istore 4, 2)) ∧ (decode cX3_fittingNote 18 = .ok (.iconst 0, 1)) ∧ (decode cX3_fittingNote 19 = .ok (.istore 5, 2)) ∧ (decode cX3_fittingNote 21 = .ok (.iload 5, 2)) ∧ (decode cX3_fittingNote 23 = .ok (.iconst 1, 1)) ∧ (decode cX3_fittingNote 24 = .ok (.iload_n 3, 1)) := by decide +kernel
theorem dX3_fittingNote_14 : decode cX3_fittingNote 14 = .ok (.istore_n 3, 1) := eX3_fittingNote_14q.1
theorem dX3_fittingNote_15 : decode cX3_fittingNote 15 = .ok (.iconst 0, 1) := eX3_fittingNote_14q.2.1
theorem dX3_fittingNote_16 : decode cX3_fittingNote 16 = .ok (.istore 4, 2) := eX3_fittingNote_14q.2.2.1
theorem dX3_fittingNote_18 : decode cX3_fittingNote 18 = .ok (.iconst 0, 1) := eX3_fittingNote_14q.2.2.2.1
theorem dX3_fittingNote_19 : decode cX3_fittingNote 19 = .ok (.istore 5, 2) := eX3_fittingNote_14q.2.2.2.2.1
theorem dX3_fittingNote_21 : decode cX3_fittingNote 21 = .ok (.iload 5, 2) := eX3_fittingNote_14q.2.2.2.2.2.1
theorem dX3_fittingNote_23 : decode cX3_fittingNote 23 = .ok (.iconst 1, 1) := eX3_fittingNote_14q.2.2.2.2.2.2.1
theorem dX3_fittingNote_24 : decode cX3_fittingNote 24 = .ok (.iload_n 3, 1) := eX3_fittingNote_14q.2.2.2.2.2.2.2
theorem eX3_fittingNote_25q : (decode cX3_fittingNote 25 = .ok (.invokestatic 60, 3)) ∧ (decode cX3_fittingNote 28 = .ok (.if_icmp .ge 79, 3)) ∧ (decode cX3_fittingNote 31 = .ok (.aload_n 0, 1)) ∧ (decode cX3_fittingNote 32 = .ok (.getfield 38, 3)) ∧ (decode cX3_fittingNote 35 = .ok (.iload_n 1, 1)) ∧ (decode cX3_fittingNote 36 = .ok (.iload 5, 2)) ∧ (decode cX3_fittingNote 38 = .ok (.invokevirtual 65, 3)) ∧ (decode cX3_fittingNote 41 = .ok (.aload_n 0, 1)) := by decide +kernel
theorem dX3_fittingNote_25 : decode cX3_fittingNote 25 = .ok (.invokestatic 60, 3) := eX3_fittingNote_25q.1
theorem dX3_fittingNote_28 : decode cX3_fittingNote 28 = .ok (.if_icmp .ge 79, 3) := eX3_fittingNote_25q.2.1
theorem dX3_fittingNote_31 : decode cX3_fittingNote 31 = .ok (.aload_n 0, 1) := eX3_fittingNote_25q.2.2.1
theorem dX3_fittingNote_32 : decode cX3_fittingNote 32 = .ok (.getfield 38, 3) := eX3_fittingNote_25q.2.2.2.1
theorem dX3_fittingNote_35 : decode cX3_fittingNote 35 = .ok (.iload_n 1, 1) := eX3_fittingNote_25q.2.2.2.2.1
theorem dX3_fittingNote_36 : decode cX3_fittingNote 36 = .ok (.iload 5, 2) := eX3_fittingNote_25q.2.2.2.2.2.1
theorem dX3_fittingNote_38 : decode cX3_fittingNote 38 = .ok (.invokevirtual 65, 3) := eX3_fittingNote_25q.2.2.2.2.2.2.1
theorem dX3_fittingNote_41 : decode cX3_fittingNote 41 = .ok (.aload_n 0, 1) := eX3_fittingNote_25q.2.2.2.2.2.2.2
theorem eX3_fittingNote_42q : (decode cX3_fittingNote 42 = .ok (.getfield 38, 3)) ∧ (decode cX3_fittingNote 45 = .ok (.aload_n 0, 1)) ∧ (decode cX3_fittingNote 46 = .ok (.getfield 9, 3)) ∧ (decode cX3_fittingNote 49 = .ok (.iload_n 2, 1)) ∧ (decode cX3_fittingNote 50 = .ok (.iaload, 1)) ∧ (decode cX3_fittingNote 51 = .ok (.aload_n 0, 1)) ∧ (decode cX3_fittingNote 52 = .ok (.getfield 15, 3)) ∧ (decode cX3_fittingNote 55 = .ok (.iload_n 2, 1)) := by decide +kernel
theorem dX3_fittingNote_42 : decode cX3_fittingNote 42 = .ok (.getfield 38, 3) := eX3_fittingNote_42q.1
theorem dX3_fittingNote_45 : decode cX3_fittingNote 45 = .ok (.aload_n 0, 1) := eX3_fittingNote_42q.2.1
theorem dX3_fittingNote_46 : decode cX3_fittingNote 46 = .ok (.getfield 9, 3) := eX3_fittingNote_42q.2.2.1
theorem dX3_fittingNote_49 : decode cX3_fittingNote 49 = .ok (.iload_n 2, 1) := eX3_fittingNote_42q.2.2.2.1
theorem dX3_fittingNote_50 : decode cX3_fittingNote 50 = .ok (.iaload, 1) := eX3_fittingNote_42q.2.2.2.2.1
theorem dX3_fittingNote_51 : decode cX3_fittingNote 51 = .ok (.aload_n 0, 1) := eX3_fittingNote_42q.2.2.2.2.2.1
theorem dX3_fittingNote_52 : decode cX3_fittingNote 52 = .ok (.getfield 15, 3) := eX3_fittingNote_42q.2.2.2.2.2.2.1
theorem dX3_fittingNote_55 : decode cX3_fittingNote 55 = .ok (.iload_n 2, 1) := eX3_fittingNote_42q.2.2.2.2.2.2.2
theorem eX3_fittingNote_56q : (decode cX3_fittingNote 56 = .ok (.iaload, 1)) ∧ (decode cX3_fittingNote 57 = .ok (.aload_n 0, 1)) ∧ (decode cX3_fittingNote 58 = .ok (.getfield 18, 3)) ∧ (decode cX3_fittingNote 61 = .ok (.iload_n 2, 1)) ∧ (decode cX3_fittingNote 62 = .ok (.iaload, 1)) ∧ (decode cX3_fittingNote 63 = .ok (.invokevirtual 71, 3)) ∧ (decode cX3_fittingNote 66 = .ok (.aload_n 0, 1)) ∧ (decode cX3_fittingNote 67 = .ok (.getfield 38, 3)) := by decide +kernel
theorem dX3_fittingNote_56 : decode cX3_fittingNote 56 = .ok (.iaload, 1) := eX3_fittingNote_56q.1
theorem dX3_fittingNote_57 : decode cX3_fittingNote 57 = .ok (.aload_n 0, 1) := eX3_fittingNote_56q.2.1
theorem dX3_fittingNote_58 : decode cX3_fittingNote 58 = .ok (.getfield 18, 3) := eX3_fittingNote_56q.2.2.1
theorem dX3_fittingNote_61 : decode cX3_fittingNote 61 = .ok (.iload_n 2, 1) := eX3_fittingNote_56q.2.2.2.1
theorem dX3_fittingNote_62 : decode cX3_fittingNote 62 = .ok (.iaload, 1) := eX3_fittingNote_56q.2.2.2.2.1
theorem dX3_fittingNote_63 : decode cX3_fittingNote 63 = .ok (.invokevirtual 71, 3) := eX3_fittingNote_56q.2.2.2.2.2.1
theorem dX3_fittingNote_66 : decode cX3_fittingNote 66 = .ok (.aload_n 0, 1) := eX3_fittingNote_56q.2.2.2.2.2.2.1
theorem dX3_fittingNote_67 : decode cX3_fittingNote 67 = .ok (.getfield 38, 3) := eX3_fittingNote_56q.2.2.2.2.2.2.2
theorem eX3_fittingNote_70q : (decode cX3_fittingNote 70 = .ok (.invokevirtual 75, 3)) ∧ (decode cX3_fittingNote 73 = .ok (.ifCond .eq 28, 3)) ∧ (decode cX3_fittingNote 76 = .ok (.aload_n 0, 1)) ∧ (decode cX3_fittingNote 77 = .ok (.getfield 38, 3)) ∧ (decode cX3_fittingNote 80 = .ok (.getfield 79, 3)) ∧ (decode cX3_fittingNote 83 = .ok (.aload_n 0, 1)) ∧ (decode cX3_fittingNote 84 = .ok (.getfield 21, 3)) ∧ (decode cX3_fittingNote 87 = .ok (.iload_n 2, 1)) := by decide +kernel
theorem dX3_fittingNote_70 : decode cX3_fittingNote 70 = .ok (.invokevirtual 75, 3) := eX3_fittingNote_70q.1
theorem dX3_fittingNote_73 : decode cX3_fittingNote 73 = .ok (.ifCond .eq 28, 3) := eX3_fittingNote_70q.2.1
theorem dX3_fittingNote_76 : decode cX3_fittingNote 76 = .ok (.aload_n 0, 1) := eX3_fittingNote_70q.2.2.1
theorem dX3_fittingNote_77 : decode cX3_fittingNote 77 = .ok (.getfield 38, 3) := eX3_fittingNote_70q.2.2.2.1
theorem dX3_fittingNote_80 : decode cX3_fittingNote 80 = .ok (.getfield 79, 3) := eX3_fittingNote_70q.2.2.2.2.1
theorem dX3_fittingNote_83 : decode cX3_fittingNote 83 = .ok (.aload_n 0, 1) := eX3_fittingNote_70q.2.2.2.2.2.1
theorem dX3_fittingNote_84 : decode cX3_fittingNote 84 = .ok (.getfield 21, 3) := eX3_fittingNote_70q.2.2.2.2.2.2.1
theorem dX3_fittingNote_87 : decode cX3_fittingNote 87 = .ok (.iload_n 2, 1) := eX3_fittingNote_70q.2.2.2.2.2.2.2
theorem eX3_fittingNote_88q : (decode cX3_fittingNote 88 = .ok (.iaload, 1)) ∧ (decode cX3_fittingNote 89 = .ok (.if_icmp .ne 12, 3)) ∧ (decode cX3_fittingNote 92 = .ok (.iload 4, 2)) ∧ (decode cX3_fittingNote 94 = .ok (.iconst 1, 1)) ∧ (decode cX3_fittingNote 95 = .ok (.iload 5, 2)) ∧ (decode cX3_fittingNote 97 = .ok (.ishl, 1)) ∧ (decode cX3_fittingNote 98 = .ok (.ior, 1)) ∧ (decode cX3_fittingNote 99 = .ok (.istore 4, 2)) := by decide +kernel
theorem dX3_fittingNote_88 : decode cX3_fittingNote 88 = .ok (.iaload, 1) := eX3_fittingNote_88q.1
theorem dX3_fittingNote_89 : decode cX3_fittingNote 89 = .ok (.if_icmp .ne 12, 3) := eX3_fittingNote_88q.2.1
theorem dX3_fittingNote_92 : decode cX3_fittingNote 92 = .ok (.iload 4, 2) := eX3_fittingNote_88q.2.2.1
theorem dX3_fittingNote_94 : decode cX3_fittingNote 94 = .ok (.iconst 1, 1) := eX3_fittingNote_88q.2.2.2.1
theorem dX3_fittingNote_95 : decode cX3_fittingNote 95 = .ok (.iload 5, 2) := eX3_fittingNote_88q.2.2.2.2.1
theorem dX3_fittingNote_97 : decode cX3_fittingNote 97 = .ok (.ishl, 1) := eX3_fittingNote_88q.2.2.2.2.2.1
theorem dX3_fittingNote_98 : decode cX3_fittingNote 98 = .ok (.ior, 1) := eX3_fittingNote_88q.2.2.2.2.2.2.1
theorem dX3_fittingNote_99 : decode cX3_fittingNote 99 = .ok (.istore 4, 2) := eX3_fittingNote_88q.2.2.2.2.2.2.2
theorem eX3_fittingNote_101q : (decode cX3_fittingNote 101 = .ok (.iinc 5 1, 3)) ∧ (decode cX3_fittingNote 104 = .ok (.goto (-83), 3)) ∧ (decode cX3_fittingNote 107 = .ok (.aload_n 0, 1)) ∧ (decode cX3_fittingNote 108 = .ok (.getfield 38, 3)) ∧ (decode cX3_fittingNote 111 = .ok (.invokevirtual 81, 3)) ∧ (decode cX3_fittingNote 114 = .ok (.lconst 0, 1)) ∧ (decode cX3_fittingNote 115 = .ok (.lstore 5, 2)) ∧ (decode cX3_fittingNote 117 = .ok (.iconst 0, 1)) := by decide +kernel
theorem dX3_fittingNote_101 : decode cX3_fittingNote 101 = .ok (.iinc 5 1, 3) := eX3_fittingNote_101q.1
theorem dX3_fittingNote_104 : decode cX3_fittingNote 104 = .ok (.goto (-83), 3) := eX3_fittingNote_101q.2.1
theorem dX3_fittingNote_107 : decode cX3_fittingNote 107 = .ok (.aload_n 0, 1) := eX3_fittingNote_101q.2.2.1
theorem dX3_fittingNote_108 : decode cX3_fittingNote 108 = .ok (.getfield 38, 3) := eX3_fittingNote_101q.2.2.2.1
theorem dX3_fittingNote_111 : decode cX3_fittingNote 111 = .ok (.invokevirtual 81, 3) := eX3_fittingNote_101q.2.2.2.2.1
theorem dX3_fittingNote_114 : decode cX3_fittingNote 114 = .ok (.lconst 0, 1) := eX3_fittingNote_101q.2.2.2.2.2.1
theorem dX3_fittingNote_115 : decode cX3_fittingNote 115 = .ok (.lstore 5, 2) := eX3_fittingNote_101q.2.2.2.2.2.2.1
theorem dX3_fittingNote_117 : decode cX3_fittingNote 117 = .ok (.iconst 0, 1) := eX3_fittingNote_101q.2.2.2.2.2.2.2
theorem eX3_fittingNote_118q : (decode cX3_fittingNote 118 = .ok (.istore 7, 2)) ∧ (decode cX3_fittingNote 120 = .ok (.iload 7, 2)) ∧ (decode cX3_fittingNote 122 = .ok (.bipush 64, 2)) ∧ (decode cX3_fittingNote 124 = .ok (.if_icmp .ge 49, 3)) ∧ (decode cX3_fittingNote 127 = .ok (.iload 7, 2)) ∧ (decode cX3_fittingNote 129 = .ok (.aload_n 0, 1)) ∧ (decode cX3_fittingNote 130 = .ok (.getfield 9, 3)) ∧ (decode cX3_fittingNote 133 = .ok (.iload_n 2, 1)) := by decide +kernel
theorem dX3_fittingNote_118 : decode cX3_fittingNote 118 = .ok (.istore 7, 2) := eX3_fittingNote_118q.1
theorem dX3_fittingNote_120 : decode cX3_fittingNote 120 = .ok (.iload 7, 2) := eX3_fittingNote_118q.2.1
theorem dX3_fittingNote_122 : decode cX3_fittingNote 122 = .ok (.bipush 64, 2) := eX3_fittingNote_118q.2.2.1
theorem dX3_fittingNote_124 : decode cX3_fittingNote 124 = .ok (.if_icmp .ge 49, 3) := eX3_fittingNote_118q.2.2.2.1
theorem dX3_fittingNote_127 : decode cX3_fittingNote 127 = .ok (.iload 7, 2) := eX3_fittingNote_118q.2.2.2.2.1
theorem dX3_fittingNote_129 : decode cX3_fittingNote 129 = .ok (.aload_n 0, 1) := eX3_fittingNote_118q.2.2.2.2.2.1
theorem dX3_fittingNote_130 : decode cX3_fittingNote 130 = .ok (.getfield 9, 3) := eX3_fittingNote_118q.2.2.2.2.2.2.1
theorem dX3_fittingNote_133 : decode cX3_fittingNote 133 = .ok (.iload_n 2, 1) := eX3_fittingNote_118q.2.2.2.2.2.2.2
theorem eX3_fittingNote_134q : (decode cX3_fittingNote 134 = .ok (.iaload, 1)) ∧ (decode cX3_fittingNote 135 = .ok (.aload_n 0, 1)) ∧ (decode cX3_fittingNote 136 = .ok (.getfield 15, 3)) ∧ (decode cX3_fittingNote 139 = .ok (.iload_n 2, 1)) ∧ (decode cX3_fittingNote 140 = .ok (.iaload, 1)) ∧ (decode cX3_fittingNote 141 = .ok (.iload_n 3, 1)) ∧ (decode cX3_fittingNote 142 = .ok (.invokestatic 84, 3)) ∧ (decode cX3_fittingNote 145 = .ok (.istore 8, 2)) := by decide +kernel
theorem dX3_fittingNote_134 : decode cX3_fittingNote 134 = .ok (.iaload, 1) := eX3_fittingNote_134q.1
theorem dX3_fittingNote_135 : decode cX3_fittingNote 135 = .ok (.aload_n 0, 1) := eX3_fittingNote_134q.2.1
theorem dX3_fittingNote_136 : decode cX3_fittingNote 136 = .ok (.getfield 15, 3) := eX3_fittingNote_134q.2.2.1
theorem dX3_fittingNote_139 : decode cX3_fittingNote 139 = .ok (.iload_n 2, 1) := eX3_fittingNote_134q.2.2.2.1
theorem dX3_fittingNote_140 : decode cX3_fittingNote 140 = .ok (.iaload, 1) := eX3_fittingNote_134q.2.2.2.2.1
theorem dX3_fittingNote_141 : decode cX3_fittingNote 141 = .ok (.iload_n 3, 1) := eX3_fittingNote_134q.2.2.2.2.2.1
theorem dX3_fittingNote_142 : decode cX3_fittingNote 142 = .ok (.invokestatic 84, 3) := eX3_fittingNote_134q.2.2.2.2.2.2.1
theorem dX3_fittingNote_145 : decode cX3_fittingNote 145 = .ok (.istore 8, 2) := eX3_fittingNote_134q.2.2.2.2.2.2.2
theorem eX3_fittingNote_147q : (decode cX3_fittingNote 147 = .ok (.iload 4, 2)) ∧ (decode cX3_fittingNote 149 = .ok (.iload 8, 2)) ∧ (decode cX3_fittingNote 151 = .ok (.ishr, 1)) ∧ (decode cX3_fittingNote 152 = .ok (.iconst 1, 1)) ∧ (decode cX3_fittingNote 153 = .ok (.iand, 1)) ∧ (decode cX3_fittingNote 154 = .ok (.iconst 1, 1)) ∧ (decode cX3_fittingNote 155 = .ok (.if_icmp .ne 12, 3)) ∧ (decode cX3_fittingNote 158 = .ok (.lload 5, 2)) := by decide +kernel
theorem dX3_fittingNote_147 : decode cX3_fittingNote 147 = .ok (.iload 4, 2) := eX3_fittingNote_147q.1
theorem dX3_fittingNote_149 : decode cX3_fittingNote 149 = .ok (.iload 8, 2) := eX3_fittingNote_147q.2.1
theorem dX3_fittingNote_151 : decode cX3_fittingNote 151 = .ok (.ishr, 1) := eX3_fittingNote_147q.2.2.1
theorem dX3_fittingNote_152 : decode cX3_fittingNote 152 = .ok (.iconst 1, 1) := eX3_fittingNote_147q.2.2.2.1
theorem dX3_fittingNote_153 : decode cX3_fittingNote 153 = .ok (.iand, 1) := eX3_fittingNote_147q.2.2.2.2.1
theorem dX3_fittingNote_154 : decode cX3_fittingNote 154 = .ok (.iconst 1, 1) := eX3_fittingNote_147q.2.2.2.2.2.1
theorem dX3_fittingNote_155 : decode cX3_fittingNote 155 = .ok (.if_icmp .ne 12, 3) := eX3_fittingNote_147q.2.2.2.2.2.2.1
theorem dX3_fittingNote_158 : decode cX3_fittingNote 158 = .ok (.lload 5, 2) := eX3_fittingNote_147q.2.2.2.2.2.2.2
theorem eX3_fittingNote_160q : (decode cX3_fittingNote 160 = .ok (.lconst 1, 1)) ∧ (decode cX3_fittingNote 161 = .ok (.iload 7, 2)) ∧ (decode cX3_fittingNote 163 = .ok (.lshl, 1)) ∧ (decode cX3_fittingNote 164 = .ok (.lor, 1)) ∧ (decode cX3_fittingNote 165 = .ok (.lstore 5, 2)) ∧ (decode cX3_fittingNote 167 = .ok (.iinc 7 1, 3)) ∧ (decode cX3_fittingNote 170 = .ok (.goto (-50), 3)) ∧ (decode cX3_fittingNote 173 = .ok (.lload 5, 2)) := by decide +kernel
theorem dX3_fittingNote_160 : decode cX3_fittingNote 160 = .ok (.lconst 1, 1) := eX3_fittingNote_160q.1
theorem dX3_fittingNote_161 : decode cX3_fittingNote 161 = .ok (.iload 7, 2) := eX3_fittingNote_160q.2.1
theorem dX3_fittingNote_163 : decode cX3_fittingNote 163 = .ok (.lshl, 1) := eX3_fittingNote_160q.2.2.1
theorem dX3_fittingNote_164 : decode cX3_fittingNote 164 = .ok (.lor, 1) := eX3_fittingNote_160q.2.2.2.1
theorem dX3_fittingNote_165 : decode cX3_fittingNote 165 = .ok (.lstore 5, 2) := eX3_fittingNote_160q.2.2.2.2.1
theorem dX3_fittingNote_167 : decode cX3_fittingNote 167 = .ok (.iinc 7 1, 3) := eX3_fittingNote_160q.2.2.2.2.2.1
theorem dX3_fittingNote_170 : decode cX3_fittingNote 170 = .ok (.goto (-50), 3) := eX3_fittingNote_160q.2.2.2.2.2.2.1
theorem dX3_fittingNote_173 : decode cX3_fittingNote 173 = .ok (.lload 5, 2) := eX3_fittingNote_160q.2.2.2.2.2.2.2
theorem dX3_fittingNote_175 : decode cX3_fittingNote 175 = .ok (.lreturn, 1) := by decide +kernel
set_option maxRecDepth 20000 in
theorem ggX3_unlikeBy_X2_branchesOf : GoodIn wsX3_unlikeBy wsX2_branchesOf := by
  have h := goodIn_app (goodIn_r (big := wsX3_unlikeBy) (.code yX2_branchesOf cX2_branchesOf 3 (some .int) :: ([.fieldLink RX2 49 "PathProber$Net" "branches" "[I"]) : List Cond) [8, 9] rfl (by decide +kernel)) (goodIn_few (big := wsX3_unlikeBy) (fun _ h9 => List.mem_cons_of_mem _ (List.mem_append_left _ (List.mem_append_right _ h9))) gb_2)
  exact h
set_option maxRecDepth 20000 in
theorem gX3_unlikeBy_X2_branchesOf : GoodIn wsX3_unlikeBy (wsV RX3 54 RX2 yX2_branchesOf wsX2_branchesOf) := goodIn_app (goodIn_r _ [4, 5, 6, 7] rfl (by decide +kernel)) ggX3_unlikeBy_X2_branchesOf
set_option maxRecDepth 20000 in
theorem ggX3_unlikeBy_X9_choiceByCode : GoodIn wsX3_unlikeBy wsX9_choiceByCode := goodIn_r _ [13, 14, 15, 12, 16] rfl (by decide +kernel)
set_option maxRecDepth 20000 in
theorem gX3_unlikeBy_X9_choiceByCode : GoodIn wsX3_unlikeBy (va_wsS RX3 84 yX9_choiceByCode wsX9_choiceByCode) := goodIn_app (goodIn_r _ [10, 11, 12] rfl (by decide +kernel)) ggX3_unlikeBy_X9_choiceByCode
set_option maxRecDepth 20000 in
theorem ggX3_unlikeBy_X9_sway : GoodIn wsX3_unlikeBy wsX9_sway := by
  have h := goodIn_app (goodIn_r (big := wsX3_unlikeBy) (.code yX9_sway cX9_sway 3 none :: ([.fieldLink RX9 9 "PathProber$Walk" "swayed" "I", .fieldLink RX9 15 "PathProber$Walk" "swayedTo" "I"]) : List Cond) [20, 21, 22] rfl (by decide +kernel)) (goodIn_few (big := wsX3_unlikeBy) (fun _ h9 => List.mem_cons_of_mem _ (List.mem_append_left _ (List.mem_append_left _ (List.mem_append_right _ h9)))) gb_5)
  exact h
set_option maxRecDepth 20000 in
theorem gX3_unlikeBy_X9_sway : GoodIn wsX3_unlikeBy (wsV RX3 65 RX9 yX9_sway wsX9_sway) := goodIn_app (goodIn_r _ [17, 18, 19, 12] rfl (by decide +kernel)) ggX3_unlikeBy_X9_sway
set_option maxRecDepth 20000 in
theorem ggX3_unlikeBy_X9_takeAll : GoodIn wsX3_unlikeBy wsX9_takeAll := by
  have h := goodIn_app (goodIn_app (goodIn_app (goodIn_r (big := wsX3_unlikeBy) (.code yX9_takeAll cX9_takeAll 3 none :: (wsX9_takeAll_r1 ++ wsX9_takeAll_r2) : List Cond) [26, 27, 28, 29, 12, 30, 31, 32, 33, 34, 35, 36, 37, 38, 39, 40, 41, 42, 43, 44, 45, 46, 47, 21, 22, 48, 49, 5, 6, 7, 8, 9, 14, 15, 16, 50, 51, 52, 53, 54] rfl (by decide +kernel)) (goodIn_few (big := wsX3_unlikeBy) (fun _ h9 => List.mem_cons_of_mem _ (List.mem_append_left _ (List.mem_append_left _ (List.mem_append_right _ h9)))) gb_5)) (goodIn_few (big := wsX3_unlikeBy) (fun _ h9 => List.mem_cons_of_mem _ (List.mem_append_left _ (List.mem_append_right _ h9))) gb_2)) (goodIn_few (big := wsX3_unlikeBy) (fun _ h9 => List.mem_cons_of_mem _ (List.mem_append_right _ h9)) gb_1)
  exact h
set_option maxRecDepth 20000 in
theorem gX3_unlikeBy_X9_takeAll : GoodIn wsX3_unlikeBy (wsV RX3 96 RX9 yX9_takeAll wsX9_takeAll) := goodIn_app (goodIn_r _ [23, 24, 25, 12] rfl (by decide +kernel)) ggX3_unlikeBy_X9_takeAll
set_option maxRecDepth 20000 in
theorem ggX3_unlikeBy_X9_swayNone : GoodIn wsX3_unlikeBy wsX9_swayNone := by
  have h := goodIn_app (goodIn_r (big := wsX3_unlikeBy) (.code yX9_swayNone cX9_swayNone 1 none :: ([.fieldLink RX9 9 "PathProber$Walk" "swayed" "I"]) : List Cond) [58, 21] rfl (by decide +kernel)) (goodIn_few (big := wsX3_unlikeBy) (fun _ h9 => List.mem_cons_of_mem _ (List.mem_append_left _ (List.mem_append_left _ (List.mem_append_right _ h9)))) gb_5)
  exact h
set_option maxRecDepth 20000 in
theorem gX3_unlikeBy_X9_swayNone : GoodIn wsX3_unlikeBy (wsV RX3 81 RX9 yX9_swayNone wsX9_swayNone) := goodIn_app (goodIn_r _ [55, 56, 57, 12] rfl (by decide +kernel)) ggX3_unlikeBy_X9_swayNone
set_option maxRecDepth 20000 in
theorem ggX3_unlikeBy_J6_bitCount_0f7a4 : GoodIn wsX3_unlikeBy wsJ6_bitCount_0f7a4 := goodIn_r _ [62, 63, 64, 65] rfl (by decide +kernel)
set_option maxRecDepth 20000 in
theorem gX3_unlikeBy_J6_bitCount_0f7a4 : GoodIn wsX3_unlikeBy (va_wsS RX3 102 yJ6_bitCount_0f7a4 wsJ6_bitCount_0f7a4) := goodIn_app (goodIn_r _ [59, 60, 61] rfl (by decide +kernel)) ggX3_unlikeBy_J6_bitCount_0f7a4
theorem eX3_unlikeBy_0q : (decode cX3_unlikeBy 0 = .ok (.aload_n 0, 1)) ∧ (decode cX3_unlikeBy 1 = .ok (.getfield 34, 3)) ∧ (decode cX3_unlikeBy 4 = .ok (.iload_n 3, 1)) ∧ (decode cX3_unlikeBy 5 = .ok (.iload 5, 2)) ∧ (decode cX3_unlikeBy 7 = .ok (.invokevirtual 54, 3)) ∧ (decode cX3_unlikeBy 10 = .ok (.istore 6, 2)) ∧ (decode cX3_unlikeBy 12 = .ok (.iconst 0, 1)) ∧ (decode cX3_unlikeBy 13 = .ok (.istore 7, 2)) := by decide +kernel
theorem dX3_unlikeBy_0 : decode cX3_unlikeBy 0 = .ok (.aload_n 0, 1) := eX3_unlikeBy_0q.1
theorem dX3_unlikeBy_1 : decode cX3_unlikeBy 1 = .ok (.getfield 34, 3) := eX3_unlikeBy_0q.2.1
theorem dX3_unlikeBy_4 : decode cX3_unlikeBy 4 = .ok (.iload_n 3, 1) := eX3_unlikeBy_0q.2.2.1
theorem dX3_unlikeBy_5 : decode cX3_unlikeBy 5 = .ok (.iload 5, 2) := eX3_unlikeBy_0q.2.2.2.1
theorem dX3_unlikeBy_7 : decode cX3_unlikeBy 7 = .ok (.invokevirtual 54, 3) := eX3_unlikeBy_0q.2.2.2.2.1
theorem dX3_unlikeBy_10 : decode cX3_unlikeBy 10 = .ok (.istore 6, 2) := eX3_unlikeBy_0q.2.2.2.2.2.1
theorem dX3_unlikeBy_12 : decode cX3_unlikeBy 12 = .ok (.iconst 0, 1) := eX3_unlikeBy_0q.2.2.2.2.2.2.1
theorem dX3_unlikeBy_13 : decode cX3_unlikeBy 13 = .ok (.istore 7, 2) := eX3_unlikeBy_0q.2.2.2.2.2.2.2
theorem eX3_unlikeBy_15q : (decode cX3_unlikeBy 15 = .ok (.iconst 0, 1)) ∧ (decode cX3_unlikeBy 16 = .ok (.istore 8, 2)) ∧ (decode cX3_unlikeBy 18 = .ok (.iload 8, 2)) ∧ (decode cX3_unlikeBy 20 = .ok (.bipush 64, 2)) ∧ (decode cX3_unlikeBy 22 = .ok (.if_icmp .ge 38, 3)) ∧ (decode cX3_unlikeBy 25 = .ok (.lload_n 1, 1)) ∧ (decode cX3_unlikeBy 26 = .ok (.iload 8, 2)) ∧ (decode cX3_unlikeBy 28 = .ok (.lshr, 1)) := by decide +kernel
theorem dX3_unlikeBy_15 : decode cX3_unlikeBy 15 = .ok (.iconst 0, 1) := eX3_unlikeBy_15q.1
theorem dX3_unlikeBy_16 : decode cX3_unlikeBy 16 = .ok (.istore 8, 2) := eX3_unlikeBy_15q.2.1
theorem dX3_unlikeBy_18 : decode cX3_unlikeBy 18 = .ok (.iload 8, 2) := eX3_unlikeBy_15q.2.2.1
theorem dX3_unlikeBy_20 : decode cX3_unlikeBy 20 = .ok (.bipush 64, 2) := eX3_unlikeBy_15q.2.2.2.1
theorem dX3_unlikeBy_22 : decode cX3_unlikeBy 22 = .ok (.if_icmp .ge 38, 3) := eX3_unlikeBy_15q.2.2.2.2.1
theorem dX3_unlikeBy_25 : decode cX3_unlikeBy 25 = .ok (.lload_n 1, 1) := eX3_unlikeBy_15q.2.2.2.2.2.1
theorem dX3_unlikeBy_26 : decode cX3_unlikeBy 26 = .ok (.iload 8, 2) := eX3_unlikeBy_15q.2.2.2.2.2.2.1
theorem dX3_unlikeBy_28 : decode cX3_unlikeBy 28 = .ok (.lshr, 1) := eX3_unlikeBy_15q.2.2.2.2.2.2.2
theorem eX3_unlikeBy_29q : (decode cX3_unlikeBy 29 = .ok (.lconst 1, 1)) ∧ (decode cX3_unlikeBy 30 = .ok (.land, 1)) ∧ (decode cX3_unlikeBy 31 = .ok (.lconst 1, 1)) ∧ (decode cX3_unlikeBy 32 = .ok (.lcmp, 1)) ∧ (decode cX3_unlikeBy 33 = .ok (.ifCond .ne 21, 3)) ∧ (decode cX3_unlikeBy 36 = .ok (.iload 7, 2)) ∧ (decode cX3_unlikeBy 38 = .ok (.iconst 1, 1)) ∧ (decode cX3_unlikeBy 39 = .ok (.iload 8, 2)) := by decide +kernel
theorem dX3_unlikeBy_29 : decode cX3_unlikeBy 29 = .ok (.lconst 1, 1) := eX3_unlikeBy_29q.1
theorem dX3_unlikeBy_30 : decode cX3_unlikeBy 30 = .ok (.land, 1) := eX3_unlikeBy_29q.2.1
theorem dX3_unlikeBy_31 : decode cX3_unlikeBy 31 = .ok (.lconst 1, 1) := eX3_unlikeBy_29q.2.2.1
theorem dX3_unlikeBy_32 : decode cX3_unlikeBy 32 = .ok (.lcmp, 1) := eX3_unlikeBy_29q.2.2.2.1
theorem dX3_unlikeBy_33 : decode cX3_unlikeBy 33 = .ok (.ifCond .ne 21, 3) := eX3_unlikeBy_29q.2.2.2.2.1
theorem dX3_unlikeBy_36 : decode cX3_unlikeBy 36 = .ok (.iload 7, 2) := eX3_unlikeBy_29q.2.2.2.2.2.1
theorem dX3_unlikeBy_38 : decode cX3_unlikeBy 38 = .ok (.iconst 1, 1) := eX3_unlikeBy_29q.2.2.2.2.2.2.1
theorem dX3_unlikeBy_39 : decode cX3_unlikeBy 39 = .ok (.iload 8, 2) := eX3_unlikeBy_29q.2.2.2.2.2.2.2
theorem eX3_unlikeBy_41q : (decode cX3_unlikeBy 41 = .ok (.iload 4, 2)) ∧ (decode cX3_unlikeBy 43 = .ok (.iload 5, 2)) ∧ (decode cX3_unlikeBy 45 = .ok (.iload 6, 2)) ∧ (decode cX3_unlikeBy 47 = .ok (.invokestatic 84, 3)) ∧ (decode cX3_unlikeBy 50 = .ok (.ishl, 1)) ∧ (decode cX3_unlikeBy 51 = .ok (.ior, 1)) ∧ (decode cX3_unlikeBy 52 = .ok (.istore 7, 2)) ∧ (decode cX3_unlikeBy 54 = .ok (.iinc 8 1, 3)) := by decide +kernel
theorem dX3_unlikeBy_41 : decode cX3_unlikeBy 41 = .ok (.iload 4, 2) := eX3_unlikeBy_41q.1
theorem dX3_unlikeBy_43 : decode cX3_unlikeBy 43 = .ok (.iload 5, 2) := eX3_unlikeBy_41q.2.1
theorem dX3_unlikeBy_45 : decode cX3_unlikeBy 45 = .ok (.iload 6, 2) := eX3_unlikeBy_41q.2.2.1
theorem dX3_unlikeBy_47 : decode cX3_unlikeBy 47 = .ok (.invokestatic 84, 3) := eX3_unlikeBy_41q.2.2.2.1
theorem dX3_unlikeBy_50 : decode cX3_unlikeBy 50 = .ok (.ishl, 1) := eX3_unlikeBy_41q.2.2.2.2.1
theorem dX3_unlikeBy_51 : decode cX3_unlikeBy 51 = .ok (.ior, 1) := eX3_unlikeBy_41q.2.2.2.2.2.1
theorem dX3_unlikeBy_52 : decode cX3_unlikeBy 52 = .ok (.istore 7, 2) := eX3_unlikeBy_41q.2.2.2.2.2.2.1
theorem dX3_unlikeBy_54 : decode cX3_unlikeBy 54 = .ok (.iinc 8 1, 3) := eX3_unlikeBy_41q.2.2.2.2.2.2.2
theorem eX3_unlikeBy_57q : (decode cX3_unlikeBy 57 = .ok (.goto (-39), 3)) ∧ (decode cX3_unlikeBy 60 = .ok (.iconst 0, 1)) ∧ (decode cX3_unlikeBy 61 = .ok (.istore 8, 2)) ∧ (decode cX3_unlikeBy 63 = .ok (.iconst 0, 1)) ∧ (decode cX3_unlikeBy 64 = .ok (.istore 9, 2)) ∧ (decode cX3_unlikeBy 66 = .ok (.iload 9, 2)) ∧ (decode cX3_unlikeBy 68 = .ok (.iconst 4, 1)) ∧ (decode cX3_unlikeBy 69 = .ok (.if_icmp .ge 57, 3)) := by decide +kernel
theorem dX3_unlikeBy_57 : decode cX3_unlikeBy 57 = .ok (.goto (-39), 3) := eX3_unlikeBy_57q.1
theorem dX3_unlikeBy_60 : decode cX3_unlikeBy 60 = .ok (.iconst 0, 1) := eX3_unlikeBy_57q.2.1
theorem dX3_unlikeBy_61 : decode cX3_unlikeBy 61 = .ok (.istore 8, 2) := eX3_unlikeBy_57q.2.2.1
theorem dX3_unlikeBy_63 : decode cX3_unlikeBy 63 = .ok (.iconst 0, 1) := eX3_unlikeBy_57q.2.2.2.1
theorem dX3_unlikeBy_64 : decode cX3_unlikeBy 64 = .ok (.istore 9, 2) := eX3_unlikeBy_57q.2.2.2.2.1
theorem dX3_unlikeBy_66 : decode cX3_unlikeBy 66 = .ok (.iload 9, 2) := eX3_unlikeBy_57q.2.2.2.2.2.1
theorem dX3_unlikeBy_68 : decode cX3_unlikeBy 68 = .ok (.iconst 4, 1) := eX3_unlikeBy_57q.2.2.2.2.2.2.1
theorem dX3_unlikeBy_69 : decode cX3_unlikeBy 69 = .ok (.if_icmp .ge 57, 3) := eX3_unlikeBy_57q.2.2.2.2.2.2.2
theorem eX3_unlikeBy_72q : (decode cX3_unlikeBy 72 = .ok (.iload 7, 2)) ∧ (decode cX3_unlikeBy 74 = .ok (.iload 9, 2)) ∧ (decode cX3_unlikeBy 76 = .ok (.ishr, 1)) ∧ (decode cX3_unlikeBy 77 = .ok (.iconst 1, 1)) ∧ (decode cX3_unlikeBy 78 = .ok (.iand, 1)) ∧ (decode cX3_unlikeBy 79 = .ok (.iconst 1, 1)) ∧ (decode cX3_unlikeBy 80 = .ok (.if_icmp .ne 40, 3)) ∧ (decode cX3_unlikeBy 83 = .ok (.aload_n 0, 1)) := by decide +kernel
theorem dX3_unlikeBy_72 : decode cX3_unlikeBy 72 = .ok (.iload 7, 2) := eX3_unlikeBy_72q.1
theorem dX3_unlikeBy_74 : decode cX3_unlikeBy 74 = .ok (.iload 9, 2) := eX3_unlikeBy_72q.2.1
theorem dX3_unlikeBy_76 : decode cX3_unlikeBy 76 = .ok (.ishr, 1) := eX3_unlikeBy_72q.2.2.1
theorem dX3_unlikeBy_77 : decode cX3_unlikeBy 77 = .ok (.iconst 1, 1) := eX3_unlikeBy_72q.2.2.2.1
theorem dX3_unlikeBy_78 : decode cX3_unlikeBy 78 = .ok (.iand, 1) := eX3_unlikeBy_72q.2.2.2.2.1
theorem dX3_unlikeBy_79 : decode cX3_unlikeBy 79 = .ok (.iconst 1, 1) := eX3_unlikeBy_72q.2.2.2.2.2.1
theorem dX3_unlikeBy_80 : decode cX3_unlikeBy 80 = .ok (.if_icmp .ne 40, 3) := eX3_unlikeBy_72q.2.2.2.2.2.2.1
theorem dX3_unlikeBy_83 : decode cX3_unlikeBy 83 = .ok (.aload_n 0, 1) := eX3_unlikeBy_72q.2.2.2.2.2.2.2
theorem eX3_unlikeBy_84q : (decode cX3_unlikeBy 84 = .ok (.getfield 38, 3)) ∧ (decode cX3_unlikeBy 87 = .ok (.iload_n 3, 1)) ∧ (decode cX3_unlikeBy 88 = .ok (.iload 9, 2)) ∧ (decode cX3_unlikeBy 90 = .ok (.invokevirtual 65, 3)) ∧ (decode cX3_unlikeBy 93 = .ok (.aload_n 0, 1)) ∧ (decode cX3_unlikeBy 94 = .ok (.getfield 38, 3)) ∧ (decode cX3_unlikeBy 97 = .ok (.iload 4, 2)) ∧ (decode cX3_unlikeBy 99 = .ok (.iload 5, 2)) := by decide +kernel
theorem dX3_unlikeBy_84 : decode cX3_unlikeBy 84 = .ok (.getfield 38, 3) := eX3_unlikeBy_84q.1
theorem dX3_unlikeBy_87 : decode cX3_unlikeBy 87 = .ok (.iload_n 3, 1) := eX3_unlikeBy_84q.2.1
theorem dX3_unlikeBy_88 : decode cX3_unlikeBy 88 = .ok (.iload 9, 2) := eX3_unlikeBy_84q.2.2.1
theorem dX3_unlikeBy_90 : decode cX3_unlikeBy 90 = .ok (.invokevirtual 65, 3) := eX3_unlikeBy_84q.2.2.2.1
theorem dX3_unlikeBy_93 : decode cX3_unlikeBy 93 = .ok (.aload_n 0, 1) := eX3_unlikeBy_84q.2.2.2.2.1
theorem dX3_unlikeBy_94 : decode cX3_unlikeBy 94 = .ok (.getfield 38, 3) := eX3_unlikeBy_84q.2.2.2.2.2.1
theorem dX3_unlikeBy_97 : decode cX3_unlikeBy 97 = .ok (.iload 4, 2) := eX3_unlikeBy_84q.2.2.2.2.2.2.1
theorem dX3_unlikeBy_99 : decode cX3_unlikeBy 99 = .ok (.iload 5, 2) := eX3_unlikeBy_84q.2.2.2.2.2.2.2
theorem eX3_unlikeBy_101q : (decode cX3_unlikeBy 101 = .ok (.invokevirtual 96, 3)) ∧ (decode cX3_unlikeBy 104 = .ok (.iload 8, 2)) ∧ (decode cX3_unlikeBy 106 = .ok (.iconst 1, 1)) ∧ (decode cX3_unlikeBy 107 = .ok (.aload_n 0, 1)) ∧ (decode cX3_unlikeBy 108 = .ok (.getfield 38, 3)) ∧ (decode cX3_unlikeBy 111 = .ok (.getfield 99, 3)) ∧ (decode cX3_unlikeBy 114 = .ok (.iconst 1, 1)) ∧ (decode cX3_unlikeBy 115 = .ok (.iadd, 1)) := by decide +kernel
theorem dX3_unlikeBy_101 : decode cX3_unlikeBy 101 = .ok (.invokevirtual 96, 3) := eX3_unlikeBy_101q.1
theorem dX3_unlikeBy_104 : decode cX3_unlikeBy 104 = .ok (.iload 8, 2) := eX3_unlikeBy_101q.2.1
theorem dX3_unlikeBy_106 : decode cX3_unlikeBy 106 = .ok (.iconst 1, 1) := eX3_unlikeBy_101q.2.2.1
theorem dX3_unlikeBy_107 : decode cX3_unlikeBy 107 = .ok (.aload_n 0, 1) := eX3_unlikeBy_101q.2.2.2.1
theorem dX3_unlikeBy_108 : decode cX3_unlikeBy 108 = .ok (.getfield 38, 3) := eX3_unlikeBy_101q.2.2.2.2.1
theorem dX3_unlikeBy_111 : decode cX3_unlikeBy 111 = .ok (.getfield 99, 3) := eX3_unlikeBy_101q.2.2.2.2.2.1
theorem dX3_unlikeBy_114 : decode cX3_unlikeBy 114 = .ok (.iconst 1, 1) := eX3_unlikeBy_101q.2.2.2.2.2.2.1
theorem dX3_unlikeBy_115 : decode cX3_unlikeBy 115 = .ok (.iadd, 1) := eX3_unlikeBy_101q.2.2.2.2.2.2.2
theorem eX3_unlikeBy_116q : (decode cX3_unlikeBy 116 = .ok (.ishl, 1)) ∧ (decode cX3_unlikeBy 117 = .ok (.ior, 1)) ∧ (decode cX3_unlikeBy 118 = .ok (.istore 8, 2)) ∧ (decode cX3_unlikeBy 120 = .ok (.iinc 9 1, 3)) ∧ (decode cX3_unlikeBy 123 = .ok (.goto (-57), 3)) ∧ (decode cX3_unlikeBy 126 = .ok (.aload_n 0, 1)) ∧ (decode cX3_unlikeBy 127 = .ok (.getfield 38, 3)) ∧ (decode cX3_unlikeBy 130 = .ok (.invokevirtual 81, 3)) := by decide +kernel
theorem dX3_unlikeBy_116 : decode cX3_unlikeBy 116 = .ok (.ishl, 1) := eX3_unlikeBy_116q.1
theorem dX3_unlikeBy_117 : decode cX3_unlikeBy 117 = .ok (.ior, 1) := eX3_unlikeBy_116q.2.1
theorem dX3_unlikeBy_118 : decode cX3_unlikeBy 118 = .ok (.istore 8, 2) := eX3_unlikeBy_116q.2.2.1
theorem dX3_unlikeBy_120 : decode cX3_unlikeBy 120 = .ok (.iinc 9 1, 3) := eX3_unlikeBy_116q.2.2.2.1
theorem dX3_unlikeBy_123 : decode cX3_unlikeBy 123 = .ok (.goto (-57), 3) := eX3_unlikeBy_116q.2.2.2.2.1
theorem dX3_unlikeBy_126 : decode cX3_unlikeBy 126 = .ok (.aload_n 0, 1) := eX3_unlikeBy_116q.2.2.2.2.2.1
theorem dX3_unlikeBy_127 : decode cX3_unlikeBy 127 = .ok (.getfield 38, 3) := eX3_unlikeBy_116q.2.2.2.2.2.2.1
theorem dX3_unlikeBy_130 : decode cX3_unlikeBy 130 = .ok (.invokevirtual 81, 3) := eX3_unlikeBy_116q.2.2.2.2.2.2.2
theorem eX3_unlikeBy_133q : (decode cX3_unlikeBy 133 = .ok (.iload 8, 2)) ∧ (decode cX3_unlikeBy 135 = .ok (.invokestatic 102, 3)) ∧ (decode cX3_unlikeBy 138 = .ok (.ireturn, 1)) := by decide +kernel
theorem dX3_unlikeBy_133 : decode cX3_unlikeBy 133 = .ok (.iload 8, 2) := eX3_unlikeBy_133q.1
theorem dX3_unlikeBy_135 : decode cX3_unlikeBy 135 = .ok (.invokestatic 102, 3) := eX3_unlikeBy_133q.2.1
theorem dX3_unlikeBy_138 : decode cX3_unlikeBy 138 = .ok (.ireturn, 1) := eX3_unlikeBy_133q.2.2
set_option maxRecDepth 20000 in
theorem ggX6_sendOne_X0_openWindow : GoodIn wsX6_sendOne wsX0_openWindow := by
  have h := goodIn_app (goodIn_r (big := wsX6_sendOne) (.code yX0_openWindow cX0_openWindow 1 none :: ([.fieldLink RX0 29 "PathProber$Condition" "opened" "I", .fieldLink RX0 32 "PathProber$Condition" "open" "I", .fieldLink RX0 35 "PathProber$Condition" "deep" "I", .methodLink RX0 57 Lib.Math.max.name, .static Lib.Math.max.name, .initialized "java/lang/Math", .code Lib.Math.max.name Lib.Math.max.code 2 (some .int)]) : List Cond) [12, 13, 14, 15, 16, 17, 18, 19] rfl (by decide +kernel)) (goodIn_few (big := wsX6_sendOne) (fun _ h9 => List.mem_cons_of_mem _ (List.mem_append_left _ (List.mem_append_right _ h9))) gb_1)
  exact h
set_option maxRecDepth 20000 in
theorem gX6_sendOne_X0_openWindow : GoodIn wsX6_sendOne (wsV RX6 31 RX0 yX0_openWindow wsX0_openWindow) := goodIn_app (goodIn_r _ [8, 9, 10, 11] rfl (by decide +kernel)) ggX6_sendOne_X0_openWindow
set_option maxRecDepth 20000 in
theorem ggX6_sendOne_X0_countSent : GoodIn wsX6_sendOne wsX0_countSent := by
  have h := goodIn_app (goodIn_r (big := wsX6_sendOne) (.code yX0_countSent cX0_countSent 3 none :: ([.fieldLink RX0 15 "PathProber$Condition" "sent" "[I"]) : List Cond) [23, 24] rfl (by decide +kernel)) (goodIn_few (big := wsX6_sendOne) (fun _ h9 => List.mem_cons_of_mem _ (List.mem_append_left _ (List.mem_append_right _ h9))) gb_1)
  exact h
set_option maxRecDepth 20000 in
theorem gX6_sendOne_X0_countSent : GoodIn wsX6_sendOne (wsV RX6 36 RX0 yX0_countSent wsX0_countSent) := goodIn_app (goodIn_r _ [20, 21, 22, 11] rfl (by decide +kernel)) ggX6_sendOne_X0_countSent
set_option maxRecDepth 20000 in
theorem ggX6_sendOne_X9_take : GoodIn wsX6_sendOne wsX9_take := by
  have h := goodIn_app (goodIn_app (goodIn_app (goodIn_r (big := wsX6_sendOne) (.code yX9_take cX9_take 6 none :: (wsX9_take_r1 ++ wsX9_take_r2) : List Cond) [29, 30, 31, 32, 33, 34, 35, 36, 37, 38, 39, 40, 41, 28, 42, 43, 44, 45, 46, 47, 48, 49, 50, 51, 52, 53, 54, 55, 56, 57, 58, 59, 60, 61, 62, 63] rfl (by decide +kernel)) (goodIn_few (big := wsX6_sendOne) (fun _ h9 => List.mem_cons_of_mem _ (List.mem_append_left _ (List.mem_append_left _ (List.mem_append_right _ h9)))) gb_5)) (goodIn_few (big := wsX6_sendOne) (fun _ h9 => List.mem_cons_of_mem _ (List.mem_append_right _ h9)) gb_2)) (goodIn_few (big := wsX6_sendOne) (fun _ h9 => List.mem_cons_of_mem _ (List.mem_append_left _ (List.mem_append_right _ h9))) gb_1)
  exact h
set_option maxRecDepth 20000 in
theorem gX6_sendOne_X9_take : GoodIn wsX6_sendOne (wsV RX6 40 RX9 yX9_take wsX9_take) := goodIn_app (goodIn_r _ [25, 26, 27, 28] rfl (by decide +kernel)) ggX6_sendOne_X9_take
set_option maxRecDepth 20000 in
theorem ggX6_sendOne_X6_turnWhoShareByPackets : GoodIn wsX6_sendOne wsX6_turnWhoShareByPackets := by
  have h := goodIn_app (goodIn_app (goodIn_app (goodIn_app (goodIn_r (big := wsX6_sendOne) (.code yX6_turnWhoShareByPackets cX6_turnWhoShareByPackets 2 none :: ([.fieldLink RX6 15 "PathProber$Sender" "net" "LPathProber$Net;", .fieldLink RX6 79 "PathProber$Net" "routers" "I", .fieldLink RX6 23 "PathProber$Sender" "walk" "LPathProber$Walk;", .fieldLink RX6 84 "PathProber$Walk" "left" "I", .fieldLink RX6 87 "PathProber$Net" "kind" "[I", .fieldLink RX6 19 "PathProber$Sender" "now" "LPathProber$Condition;", .fieldLink RX6 91 "PathProber$Condition" "turn" "[I"]) : List Cond) [68, 69, 70, 2, 71, 72, 1, 73] rfl (by decide +kernel)) (goodIn_few (big := wsX6_sendOne) (fun _ h9 => List.mem_cons_of_mem _ (List.mem_append_left _ (List.mem_append_left _ (List.mem_append_left _ (List.mem_append_right _ h9))))) gb_6)) (goodIn_few (big := wsX6_sendOne) (fun _ h9 => List.mem_cons_of_mem _ (List.mem_append_right _ h9)) gb_2)) (goodIn_few (big := wsX6_sendOne) (fun _ h9 => List.mem_cons_of_mem _ (List.mem_append_left _ (List.mem_append_left _ (List.mem_append_right _ h9)))) gb_5)) (goodIn_few (big := wsX6_sendOne) (fun _ h9 => List.mem_cons_of_mem _ (List.mem_append_left _ (List.mem_append_right _ h9))) gb_1)
  exact h
set_option maxRecDepth 20000 in
theorem gX6_sendOne_X6_turnWhoShareByPackets : GoodIn wsX6_sendOne (wsV RX6 46 RX6 yX6_turnWhoShareByPackets wsX6_turnWhoShareByPackets) := goodIn_app (goodIn_r _ [64, 65, 66, 67] rfl (by decide +kernel)) ggX6_sendOne_X6_turnWhoShareByPackets
set_option maxRecDepth 20000 in
theorem ggX6_sendOne_X9_isAnswered : GoodIn wsX6_sendOne wsX9_isAnswered := by
  have h := goodIn_app (goodIn_app (goodIn_r (big := wsX6_sendOne) (.code yX9_isAnswered cX9_isAnswered 1 (some .boolean) :: ([.fieldLink RX9 33 "PathProber$Walk" "lost" "Z", .fieldLink RX9 37 "PathProber$Walk" "net" "LPathProber$Net;", .fieldLink RX9 55 "PathProber$Net" "manner" "[I", .fieldLink RX9 18 "PathProber$Walk" "router" "I", .methodLink RX9 88 yX2_goalAt, .instanceMethod yX2_goalAt, .selects RX2 yX2_goalAt yX2_goalAt, .initialized RX2, .code yX2_goalAt cX2_goalAt 3 (some .int), .fieldLink RX2 40 "PathProber$Net" "goals" "I", .fieldLink RX2 30 "PathProber$Net" "goal" "[I"]) : List Cond) [77, 35, 36, 38, 30, 78, 79, 80, 53, 81, 82, 83] rfl (by decide +kernel)) (goodIn_few (big := wsX6_sendOne) (fun _ h9 => List.mem_cons_of_mem _ (List.mem_append_left _ (List.mem_append_left _ (List.mem_append_right _ h9)))) gb_5)) (goodIn_few (big := wsX6_sendOne) (fun _ h9 => List.mem_cons_of_mem _ (List.mem_append_right _ h9)) gb_2)
  exact h
set_option maxRecDepth 20000 in
theorem gX6_sendOne_X9_isAnswered : GoodIn wsX6_sendOne (wsV RX6 55 RX9 yX9_isAnswered wsX9_isAnswered) := goodIn_app (goodIn_r _ [74, 75, 76, 28] rfl (by decide +kernel)) ggX6_sendOne_X9_isAnswered
set_option maxRecDepth 20000 in
theorem ggX6_sendOne_X6_stepCounter : GoodIn wsX6_sendOne wsX6_stepCounter := by
  have h := goodIn_app (goodIn_app (goodIn_app (goodIn_r (big := wsX6_sendOne) (.code yX6_stepCounter cX6_stepCounter 2 (some .int) :: ([.fieldLink RX6 19 "PathProber$Sender" "now" "LPathProber$Condition;", .fieldLink RX6 94 "PathProber$Condition" "counter" "[I", .fieldLink RX6 15 "PathProber$Sender" "net" "LPathProber$Net;", .fieldLink RX6 97 "PathProber$Net" "pace" "[I"]) : List Cond) [87, 1, 88, 69, 89] rfl (by decide +kernel)) (goodIn_few (big := wsX6_sendOne) (fun _ h9 => List.mem_cons_of_mem _ (List.mem_append_left _ (List.mem_append_left _ (List.mem_append_left _ (List.mem_append_right _ h9))))) gb_6)) (goodIn_few (big := wsX6_sendOne) (fun _ h9 => List.mem_cons_of_mem _ (List.mem_append_left _ (List.mem_append_right _ h9))) gb_1)) (goodIn_few (big := wsX6_sendOne) (fun _ h9 => List.mem_cons_of_mem _ (List.mem_append_right _ h9)) gb_2)
  exact h
set_option maxRecDepth 20000 in
theorem gX6_sendOne_X6_stepCounter : GoodIn wsX6_sendOne (wsV RX6 65 RX6 yX6_stepCounter wsX6_stepCounter) := goodIn_app (goodIn_r _ [84, 85, 86, 67] rfl (by decide +kernel)) ggX6_sendOne_X6_stepCounter
set_option maxRecDepth 20000 in
theorem ggX6_sendOne_X0_see : GoodIn wsX6_sendOne wsX0_see := by
  have h := goodIn_app (goodIn_r (big := wsX6_sendOne) (.code yX0_see cX0_see 8 none :: ([.fieldLink RX0 9 "PathProber$Condition" "seen" "[J", .constantLong RX0 53 (31), .constantLong RX0 55 (-1)]) : List Cond) [93, 94, 95, 96] rfl (by decide +kernel)) (goodIn_few (big := wsX6_sendOne) (fun _ h9 => List.mem_cons_of_mem _ (List.mem_append_left _ (List.mem_append_right _ h9))) gb_1)
  exact h
set_option maxRecDepth 20000 in
theorem gX6_sendOne_X0_see : GoodIn wsX6_sendOne (wsV RX6 69 RX0 yX0_see wsX0_see) := goodIn_app (goodIn_r _ [90, 91, 92, 11] rfl (by decide +kernel)) ggX6_sendOne_X0_see
set_option maxRecDepth 20000 in
theorem ggX6_sendOne_X0_shutWindow : GoodIn wsX6_sendOne wsX0_shutWindow := by
  have h := goodIn_app (goodIn_r (big := wsX6_sendOne) (.code yX0_shutWindow cX0_shutWindow 1 none :: ([.fieldLink RX0 32 "PathProber$Condition" "open" "I"]) : List Cond) [100, 14] rfl (by decide +kernel)) (goodIn_few (big := wsX6_sendOne) (fun _ h9 => List.mem_cons_of_mem _ (List.mem_append_left _ (List.mem_append_right _ h9))) gb_1)
  exact h
set_option maxRecDepth 20000 in
theorem gX6_sendOne_X0_shutWindow : GoodIn wsX6_sendOne (wsV RX6 76 RX0 yX0_shutWindow wsX0_shutWindow) := goodIn_app (goodIn_r _ [97, 98, 99, 11] rfl (by decide +kernel)) ggX6_sendOne_X0_shutWindow
theorem eX6_sendOne_0q : (decode cX6_sendOne 0 = .ok (.aload_n 0, 1)) ∧ (decode cX6_sendOne 1 = .ok (.getfield 19, 3)) ∧ (decode cX6_sendOne 4 = .ok (.invokevirtual 31, 3)) ∧ (decode cX6_sendOne 7 = .ok (.aload_n 0, 1)) ∧ (decode cX6_sendOne 8 = .ok (.getfield 19, 3)) ∧ (decode cX6_sendOne 11 = .ok (.iload_n 2, 1)) ∧ (decode cX6_sendOne 12 = .ok (.iload_n 3, 1)) ∧ (decode cX6_sendOne 13 = .ok (.invokevirtual 36, 3)) := by decide +kernel
theorem dX6_sendOne_0 : decode cX6_sendOne 0 = .ok (.aload_n 0, 1) := eX6_sendOne_0q.1
theorem dX6_sendOne_1 : decode cX6_sendOne 1 = .ok (.getfield 19, 3) := eX6_sendOne_0q.2.1
theorem dX6_sendOne_4 : decode cX6_sendOne 4 = .ok (.invokevirtual 31, 3) := eX6_sendOne_0q.2.2.1
theorem dX6_sendOne_7 : decode cX6_sendOne 7 = .ok (.aload_n 0, 1) := eX6_sendOne_0q.2.2.2.1
theorem dX6_sendOne_8 : decode cX6_sendOne 8 = .ok (.getfield 19, 3) := eX6_sendOne_0q.2.2.2.2.1
theorem dX6_sendOne_11 : decode cX6_sendOne 11 = .ok (.iload_n 2, 1) := eX6_sendOne_0q.2.2.2.2.2.1
theorem dX6_sendOne_12 : decode cX6_sendOne 12 = .ok (.iload_n 3, 1) := eX6_sendOne_0q.2.2.2.2.2.2.1
theorem dX6_sendOne_13 : decode cX6_sendOne 13 = .ok (.invokevirtual 36, 3) := eX6_sendOne_0q.2.2.2.2.2.2.2
theorem eX6_sendOne_16q : (decode cX6_sendOne 16 = .ok (.aload_n 0, 1)) ∧ (decode cX6_sendOne 17 = .ok (.getfield 23, 3)) ∧ (decode cX6_sendOne 20 = .ok (.iload_n 1, 1)) ∧ (decode cX6_sendOne 21 = .ok (.iload_n 2, 1)) ∧ (decode cX6_sendOne 22 = .ok (.iload_n 3, 1)) ∧ (decode cX6_sendOne 23 = .ok (.invokevirtual 40, 3)) ∧ (decode cX6_sendOne 26 = .ok (.aload_n 0, 1)) ∧ (decode cX6_sendOne 27 = .ok (.invokevirtual 46, 3)) := by decide +kernel
theorem dX6_sendOne_16 : decode cX6_sendOne 16 = .ok (.aload_n 0, 1) := eX6_sendOne_16q.1
theorem dX6_sendOne_17 : decode cX6_sendOne 17 = .ok (.getfield 23, 3) := eX6_sendOne_16q.2.1
theorem dX6_sendOne_20 : decode cX6_sendOne 20 = .ok (.iload_n 1, 1) := eX6_sendOne_16q.2.2.1
theorem dX6_sendOne_21 : decode cX6_sendOne 21 = .ok (.iload_n 2, 1) := eX6_sendOne_16q.2.2.2.1
theorem dX6_sendOne_22 : decode cX6_sendOne 22 = .ok (.iload_n 3, 1) := eX6_sendOne_16q.2.2.2.2.1
theorem dX6_sendOne_23 : decode cX6_sendOne 23 = .ok (.invokevirtual 40, 3) := eX6_sendOne_16q.2.2.2.2.2.1
theorem dX6_sendOne_26 : decode cX6_sendOne 26 = .ok (.aload_n 0, 1) := eX6_sendOne_16q.2.2.2.2.2.2.1
theorem dX6_sendOne_27 : decode cX6_sendOne 27 = .ok (.invokevirtual 46, 3) := eX6_sendOne_16q.2.2.2.2.2.2.2
theorem eX6_sendOne_30q : (decode cX6_sendOne 30 = .ok (.iconst (-1), 1)) ∧ (decode cX6_sendOne 31 = .ok (.istore 4, 2)) ∧ (decode cX6_sendOne 33 = .ok (.aload_n 0, 1)) ∧ (decode cX6_sendOne 34 = .ok (.getfield 23, 3)) ∧ (decode cX6_sendOne 37 = .ok (.getfield 49, 3)) ∧ (decode cX6_sendOne 40 = .ok (.ifCond .eq 19, 3)) ∧ (decode cX6_sendOne 43 = .ok (.aload_n 0, 1)) ∧ (decode cX6_sendOne 44 = .ok (.getfield 19, 3)) := by decide +kernel
theorem dX6_sendOne_30 : decode cX6_sendOne 30 = .ok (.iconst (-1), 1) := eX6_sendOne_30q.1
theorem dX6_sendOne_31 : decode cX6_sendOne 31 = .ok (.istore 4, 2) := eX6_sendOne_30q.2.1
theorem dX6_sendOne_33 : decode cX6_sendOne 33 = .ok (.aload_n 0, 1) := eX6_sendOne_30q.2.2.1
theorem dX6_sendOne_34 : decode cX6_sendOne 34 = .ok (.getfield 23, 3) := eX6_sendOne_30q.2.2.2.1
theorem dX6_sendOne_37 : decode cX6_sendOne 37 = .ok (.getfield 49, 3) := eX6_sendOne_30q.2.2.2.2.1
theorem dX6_sendOne_40 : decode cX6_sendOne 40 = .ok (.ifCond .eq 19, 3) := eX6_sendOne_30q.2.2.2.2.2.1
theorem dX6_sendOne_43 : decode cX6_sendOne 43 = .ok (.aload_n 0, 1) := eX6_sendOne_30q.2.2.2.2.2.2.1
theorem dX6_sendOne_44 : decode cX6_sendOne 44 = .ok (.getfield 19, 3) := eX6_sendOne_30q.2.2.2.2.2.2.2
theorem eX6_sendOne_47q : (decode cX6_sendOne 47 = .ok (.dup, 1)) ∧ (decode cX6_sendOne 48 = .ok (.getfield 53, 3)) ∧ (decode cX6_sendOne 51 = .ok (.iconst 1, 1)) ∧ (decode cX6_sendOne 52 = .ok (.iadd, 1)) ∧ (decode cX6_sendOne 53 = .ok (.putfield 53, 3)) ∧ (decode cX6_sendOne 56 = .ok (.goto 62, 3)) ∧ (decode cX6_sendOne 59 = .ok (.aload_n 0, 1)) ∧ (decode cX6_sendOne 60 = .ok (.getfield 23, 3)) := by decide +kernel
theorem dX6_sendOne_47 : decode cX6_sendOne 47 = .ok (.dup, 1) := eX6_sendOne_47q.1
theorem dX6_sendOne_48 : decode cX6_sendOne 48 = .ok (.getfield 53, 3) := eX6_sendOne_47q.2.1
theorem dX6_sendOne_51 : decode cX6_sendOne 51 = .ok (.iconst 1, 1) := eX6_sendOne_47q.2.2.1
theorem dX6_sendOne_52 : decode cX6_sendOne 52 = .ok (.iadd, 1) := eX6_sendOne_47q.2.2.2.1
theorem dX6_sendOne_53 : decode cX6_sendOne 53 = .ok (.putfield 53, 3) := eX6_sendOne_47q.2.2.2.2.1
theorem dX6_sendOne_56 : decode cX6_sendOne 56 = .ok (.goto 62, 3) := eX6_sendOne_47q.2.2.2.2.2.1
theorem dX6_sendOne_59 : decode cX6_sendOne 59 = .ok (.aload_n 0, 1) := eX6_sendOne_47q.2.2.2.2.2.2.1
theorem dX6_sendOne_60 : decode cX6_sendOne 60 = .ok (.getfield 23, 3) := eX6_sendOne_47q.2.2.2.2.2.2.2
theorem eX6_sendOne_63q : (decode cX6_sendOne 63 = .ok (.invokevirtual 55, 3)) ∧ (decode cX6_sendOne 66 = .ok (.ifCond .eq 39, 3)) ∧ (decode cX6_sendOne 69 = .ok (.aload_n 0, 1)) ∧ (decode cX6_sendOne 70 = .ok (.getfield 23, 3)) ∧ (decode cX6_sendOne 73 = .ok (.getfield 59, 3)) ∧ (decode cX6_sendOne 76 = .ok (.istore 4, 2)) ∧ (decode cX6_sendOne 78 = .ok (.aload_n 0, 1)) ∧ (decode cX6_sendOne 79 = .ok (.aload_n 0, 1)) := by decide +kernel
theorem dX6_sendOne_63 : decode cX6_sendOne 63 = .ok (.invokevirtual 55, 3) := eX6_sendOne_63q.1
theorem dX6_sendOne_66 : decode cX6_sendOne 66 = .ok (.ifCond .eq 39, 3) := eX6_sendOne_63q.2.1
theorem dX6_sendOne_69 : decode cX6_sendOne 69 = .ok (.aload_n 0, 1) := eX6_sendOne_63q.2.2.1
theorem dX6_sendOne_70 : decode cX6_sendOne 70 = .ok (.getfield 23, 3) := eX6_sendOne_63q.2.2.2.1
theorem dX6_sendOne_73 : decode cX6_sendOne 73 = .ok (.getfield 59, 3) := eX6_sendOne_63q.2.2.2.2.1
theorem dX6_sendOne_76 : decode cX6_sendOne 76 = .ok (.istore 4, 2) := eX6_sendOne_63q.2.2.2.2.2.1
theorem dX6_sendOne_78 : decode cX6_sendOne 78 = .ok (.aload_n 0, 1) := eX6_sendOne_63q.2.2.2.2.2.2.1
theorem dX6_sendOne_79 : decode cX6_sendOne 79 = .ok (.aload_n 0, 1) := eX6_sendOne_63q.2.2.2.2.2.2.2
theorem eX6_sendOne_80q : (decode cX6_sendOne 80 = .ok (.getfield 23, 3)) ∧ (decode cX6_sendOne 83 = .ok (.getfield 62, 3)) ∧ (decode cX6_sendOne 86 = .ok (.invokevirtual 65, 3)) ∧ (decode cX6_sendOne 89 = .ok (.pop, 1)) ∧ (decode cX6_sendOne 90 = .ok (.aload_n 0, 1)) ∧ (decode cX6_sendOne 91 = .ok (.getfield 19, 3)) ∧ (decode cX6_sendOne 94 = .ok (.iload_n 1, 1)) ∧ (decode cX6_sendOne 95 = .ok (.iload_n 2, 1)) := by decide +kernel
theorem dX6_sendOne_80 : decode cX6_sendOne 80 = .ok (.getfield 23, 3) := eX6_sendOne_80q.1
theorem dX6_sendOne_83 : decode cX6_sendOne 83 = .ok (.getfield 62, 3) := eX6_sendOne_80q.2.1
theorem dX6_sendOne_86 : decode cX6_sendOne 86 = .ok (.invokevirtual 65, 3) := eX6_sendOne_80q.2.2.1
theorem dX6_sendOne_89 : decode cX6_sendOne 89 = .ok (.pop, 1) := eX6_sendOne_80q.2.2.2.1
theorem dX6_sendOne_90 : decode cX6_sendOne 90 = .ok (.aload_n 0, 1) := eX6_sendOne_80q.2.2.2.2.1
theorem dX6_sendOne_91 : decode cX6_sendOne 91 = .ok (.getfield 19, 3) := eX6_sendOne_80q.2.2.2.2.2.1
theorem dX6_sendOne_94 : decode cX6_sendOne 94 = .ok (.iload_n 1, 1) := eX6_sendOne_80q.2.2.2.2.2.2.1
theorem dX6_sendOne_95 : decode cX6_sendOne 95 = .ok (.iload_n 2, 1) := eX6_sendOne_80q.2.2.2.2.2.2.2
theorem eX6_sendOne_96q : (decode cX6_sendOne 96 = .ok (.iload_n 3, 1)) ∧ (decode cX6_sendOne 97 = .ok (.iload 4, 2)) ∧ (decode cX6_sendOne 99 = .ok (.invokevirtual 69, 3)) ∧ (decode cX6_sendOne 102 = .ok (.goto 16, 3)) ∧ (decode cX6_sendOne 105 = .ok (.aload_n 0, 1)) ∧ (decode cX6_sendOne 106 = .ok (.getfield 19, 3)) ∧ (decode cX6_sendOne 109 = .ok (.dup, 1)) ∧ (decode cX6_sendOne 110 = .ok (.getfield 73, 3)) := by decide +kernel
theorem dX6_sendOne_96 : decode cX6_sendOne 96 = .ok (.iload_n 3, 1) := eX6_sendOne_96q.1
theorem dX6_sendOne_97 : decode cX6_sendOne 97 = .ok (.iload 4, 2) := eX6_sendOne_96q.2.1
theorem dX6_sendOne_99 : decode cX6_sendOne 99 = .ok (.invokevirtual 69, 3) := eX6_sendOne_96q.2.2.1
theorem dX6_sendOne_102 : decode cX6_sendOne 102 = .ok (.goto 16, 3) := eX6_sendOne_96q.2.2.2.1
theorem dX6_sendOne_105 : decode cX6_sendOne 105 = .ok (.aload_n 0, 1) := eX6_sendOne_96q.2.2.2.2.1
theorem dX6_sendOne_106 : decode cX6_sendOne 106 = .ok (.getfield 19, 3) := eX6_sendOne_96q.2.2.2.2.2.1
theorem dX6_sendOne_109 : decode cX6_sendOne 109 = .ok (.dup, 1) := eX6_sendOne_96q.2.2.2.2.2.2.1
theorem dX6_sendOne_110 : decode cX6_sendOne 110 = .ok (.getfield 73, 3) := eX6_sendOne_96q.2.2.2.2.2.2.2
theorem eX6_sendOne_113q : (decode cX6_sendOne 113 = .ok (.iconst 1, 1)) ∧ (decode cX6_sendOne 114 = .ok (.iadd, 1)) ∧ (decode cX6_sendOne 115 = .ok (.putfield 73, 3)) ∧ (decode cX6_sendOne 118 = .ok (.aload_n 0, 1)) ∧ (decode cX6_sendOne 119 = .ok (.getfield 19, 3)) ∧ (decode cX6_sendOne 122 = .ok (.invokevirtual 76, 3)) ∧ (decode cX6_sendOne 125 = .ok (.iload 4, 2)) ∧ (decode cX6_sendOne 127 = .ok (.ireturn, 1)) := by decide +kernel
theorem dX6_sendOne_113 : decode cX6_sendOne 113 = .ok (.iconst 1, 1) := eX6_sendOne_113q.1
theorem dX6_sendOne_114 : decode cX6_sendOne 114 = .ok (.iadd, 1) := eX6_sendOne_113q.2.1
theorem dX6_sendOne_115 : decode cX6_sendOne 115 = .ok (.putfield 73, 3) := eX6_sendOne_113q.2.2.1
theorem dX6_sendOne_118 : decode cX6_sendOne 118 = .ok (.aload_n 0, 1) := eX6_sendOne_113q.2.2.2.1
theorem dX6_sendOne_119 : decode cX6_sendOne 119 = .ok (.getfield 19, 3) := eX6_sendOne_113q.2.2.2.2.1
theorem dX6_sendOne_122 : decode cX6_sendOne 122 = .ok (.invokevirtual 76, 3) := eX6_sendOne_113q.2.2.2.2.2.1
theorem dX6_sendOne_125 : decode cX6_sendOne 125 = .ok (.iload 4, 2) := eX6_sendOne_113q.2.2.2.2.2.2.1
theorem dX6_sendOne_127 : decode cX6_sendOne 127 = .ok (.ireturn, 1) := eX6_sendOne_113q.2.2.2.2.2.2.2
theorem eX6_turnWhoShareByPackets_0q : (decode cX6_turnWhoShareByPackets 0 = .ok (.iconst 0, 1)) ∧ (decode cX6_turnWhoShareByPackets 1 = .ok (.istore_n 1, 1)) ∧ (decode cX6_turnWhoShareByPackets 2 = .ok (.iload_n 1, 1)) ∧ (decode cX6_turnWhoShareByPackets 3 = .ok (.aload_n 0, 1)) ∧ (decode cX6_turnWhoShareByPackets 4 = .ok (.getfield 15, 3)) ∧ (decode cX6_turnWhoShareByPackets 7 = .ok (.getfield 79, 3)) ∧ (decode cX6_turnWhoShareByPackets 10 = .ok (.if_icmp .ge 60, 3)) ∧ (decode cX6_turnWhoShareByPackets 13 = .ok (.aload_n 0, 1)) := by decide +kernel
theorem dX6_turnWhoShareByPackets_0 : decode cX6_turnWhoShareByPackets 0 = .ok (.iconst 0, 1) := eX6_turnWhoShareByPackets_0q.1
theorem dX6_turnWhoShareByPackets_1 : decode cX6_turnWhoShareByPackets 1 = .ok (.istore_n 1, 1) := eX6_turnWhoShareByPackets_0q.2.1
theorem dX6_turnWhoShareByPackets_2 : decode cX6_turnWhoShareByPackets 2 = .ok (.iload_n 1, 1) := eX6_turnWhoShareByPackets_0q.2.2.1
theorem dX6_turnWhoShareByPackets_3 : decode cX6_turnWhoShareByPackets 3 = .ok (.aload_n 0, 1) := eX6_turnWhoShareByPackets_0q.2.2.2.1
theorem dX6_turnWhoShareByPackets_4 : decode cX6_turnWhoShareByPackets 4 = .ok (.getfield 15, 3) := eX6_turnWhoShareByPackets_0q.2.2.2.2.1
theorem dX6_turnWhoShareByPackets_7 : decode cX6_turnWhoShareByPackets 7 = .ok (.getfield 79, 3) := eX6_turnWhoShareByPackets_0q.2.2.2.2.2.1
theorem dX6_turnWhoShareByPackets_10 : decode cX6_turnWhoShareByPackets 10 = .ok (.if_icmp .ge 60, 3) := eX6_turnWhoShareByPackets_0q.2.2.2.2.2.2.1
theorem dX6_turnWhoShareByPackets_13 : decode cX6_turnWhoShareByPackets 13 = .ok (.aload_n 0, 1) := eX6_turnWhoShareByPackets_0q.2.2.2.2.2.2.2
theorem eX6_turnWhoShareByPackets_14q : (decode cX6_turnWhoShareByPackets 14 = .ok (.getfield 23, 3)) ∧ (decode cX6_turnWhoShareByPackets 17 = .ok (.getfield 84, 3)) ∧ (decode cX6_turnWhoShareByPackets 20 = .ok (.iload_n 1, 1)) ∧ (decode cX6_turnWhoShareByPackets 21 = .ok (.ishr, 1)) ∧ (decode cX6_turnWhoShareByPackets 22 = .ok (.iconst 1, 1)) ∧ (decode cX6_turnWhoShareByPackets 23 = .ok (.iand, 1)) ∧ (decode cX6_turnWhoShareByPackets 24 = .ok (.iconst 1, 1)) ∧ (decode cX6_turnWhoShareByPackets 25 = .ok (.if_icmp .ne 39, 3)) := by decide +kernel
theorem dX6_turnWhoShareByPackets_14 : decode cX6_turnWhoShareByPackets 14 = .ok (.getfield 23, 3) := eX6_turnWhoShareByPackets_14q.1
theorem dX6_turnWhoShareByPackets_17 : decode cX6_turnWhoShareByPackets 17 = .ok (.getfield 84, 3) := eX6_turnWhoShareByPackets_14q.2.1
theorem dX6_turnWhoShareByPackets_20 : decode cX6_turnWhoShareByPackets 20 = .ok (.iload_n 1, 1) := eX6_turnWhoShareByPackets_14q.2.2.1
theorem dX6_turnWhoShareByPackets_21 : decode cX6_turnWhoShareByPackets 21 = .ok (.ishr, 1) := eX6_turnWhoShareByPackets_14q.2.2.2.1
theorem dX6_turnWhoShareByPackets_22 : decode cX6_turnWhoShareByPackets 22 = .ok (.iconst 1, 1) := eX6_turnWhoShareByPackets_14q.2.2.2.2.1
theorem dX6_turnWhoShareByPackets_23 : decode cX6_turnWhoShareByPackets 23 = .ok (.iand, 1) := eX6_turnWhoShareByPackets_14q.2.2.2.2.2.1
theorem dX6_turnWhoShareByPackets_24 : decode cX6_turnWhoShareByPackets 24 = .ok (.iconst 1, 1) := eX6_turnWhoShareByPackets_14q.2.2.2.2.2.2.1
theorem dX6_turnWhoShareByPackets_25 : decode cX6_turnWhoShareByPackets 25 = .ok (.if_icmp .ne 39, 3) := eX6_turnWhoShareByPackets_14q.2.2.2.2.2.2.2
theorem eX6_turnWhoShareByPackets_28q : (decode cX6_turnWhoShareByPackets 28 = .ok (.aload_n 0, 1)) ∧ (decode cX6_turnWhoShareByPackets 29 = .ok (.getfield 15, 3)) ∧ (decode cX6_turnWhoShareByPackets 32 = .ok (.getfield 87, 3)) ∧ (decode cX6_turnWhoShareByPackets 35 = .ok (.iload_n 1, 1)) ∧ (decode cX6_turnWhoShareByPackets 36 = .ok (.iaload, 1)) ∧ (decode cX6_turnWhoShareByPackets 37 = .ok (.iconst 2, 1)) ∧ (decode cX6_turnWhoShareByPackets 38 = .ok (.if_icmp .ne 26, 3)) ∧ (decode cX6_turnWhoShareByPackets 41 = .ok (.aload_n 0, 1)) := by decide +kernel
theorem dX6_turnWhoShareByPackets_28 : decode cX6_turnWhoShareByPackets 28 = .ok (.aload_n 0, 1) := eX6_turnWhoShareByPackets_28q.1
theorem dX6_turnWhoShareByPackets_29 : decode cX6_turnWhoShareByPackets 29 = .ok (.getfield 15, 3) := eX6_turnWhoShareByPackets_28q.2.1
theorem dX6_turnWhoShareByPackets_32 : decode cX6_turnWhoShareByPackets 32 = .ok (.getfield 87, 3) := eX6_turnWhoShareByPackets_28q.2.2.1
theorem dX6_turnWhoShareByPackets_35 : decode cX6_turnWhoShareByPackets 35 = .ok (.iload_n 1, 1) := eX6_turnWhoShareByPackets_28q.2.2.2.1
theorem dX6_turnWhoShareByPackets_36 : decode cX6_turnWhoShareByPackets 36 = .ok (.iaload, 1) := eX6_turnWhoShareByPackets_28q.2.2.2.2.1
theorem dX6_turnWhoShareByPackets_37 : decode cX6_turnWhoShareByPackets 37 = .ok (.iconst 2, 1) := eX6_turnWhoShareByPackets_28q.2.2.2.2.2.1
theorem dX6_turnWhoShareByPackets_38 : decode cX6_turnWhoShareByPackets 38 = .ok (.if_icmp .ne 26, 3) := eX6_turnWhoShareByPackets_28q.2.2.2.2.2.2.1
theorem dX6_turnWhoShareByPackets_41 : decode cX6_turnWhoShareByPackets 41 = .ok (.aload_n 0, 1) := eX6_turnWhoShareByPackets_28q.2.2.2.2.2.2.2
theorem eX6_turnWhoShareByPackets_42q : (decode cX6_turnWhoShareByPackets 42 = .ok (.getfield 19, 3)) ∧ (decode cX6_turnWhoShareByPackets 45 = .ok (.getfield 91, 3)) ∧ (decode cX6_turnWhoShareByPackets 48 = .ok (.iload_n 1, 1)) ∧ (decode cX6_turnWhoShareByPackets 49 = .ok (.aload_n 0, 1)) ∧ (decode cX6_turnWhoShareByPackets 50 = .ok (.getfield 19, 3)) ∧ (decode cX6_turnWhoShareByPackets 53 = .ok (.getfield 91, 3)) ∧ (decode cX6_turnWhoShareByPackets 56 = .ok (.iload_n 1, 1)) ∧ (decode cX6_turnWhoShareByPackets 57 = .ok (.iaload, 1)) := by decide +kernel
theorem dX6_turnWhoShareByPackets_42 : decode cX6_turnWhoShareByPackets 42 = .ok (.getfield 19, 3) := eX6_turnWhoShareByPackets_42q.1
theorem dX6_turnWhoShareByPackets_45 : decode cX6_turnWhoShareByPackets 45 = .ok (.getfield 91, 3) := eX6_turnWhoShareByPackets_42q.2.1
theorem dX6_turnWhoShareByPackets_48 : decode cX6_turnWhoShareByPackets 48 = .ok (.iload_n 1, 1) := eX6_turnWhoShareByPackets_42q.2.2.1
theorem dX6_turnWhoShareByPackets_49 : decode cX6_turnWhoShareByPackets 49 = .ok (.aload_n 0, 1) := eX6_turnWhoShareByPackets_42q.2.2.2.1
theorem dX6_turnWhoShareByPackets_50 : decode cX6_turnWhoShareByPackets 50 = .ok (.getfield 19, 3) := eX6_turnWhoShareByPackets_42q.2.2.2.2.1
theorem dX6_turnWhoShareByPackets_53 : decode cX6_turnWhoShareByPackets 53 = .ok (.getfield 91, 3) := eX6_turnWhoShareByPackets_42q.2.2.2.2.2.1
theorem dX6_turnWhoShareByPackets_56 : decode cX6_turnWhoShareByPackets 56 = .ok (.iload_n 1, 1) := eX6_turnWhoShareByPackets_42q.2.2.2.2.2.2.1
theorem dX6_turnWhoShareByPackets_57 : decode cX6_turnWhoShareByPackets 57 = .ok (.iaload, 1) := eX6_turnWhoShareByPackets_42q.2.2.2.2.2.2.2
theorem eX6_turnWhoShareByPackets_58q : (decode cX6_turnWhoShareByPackets 58 = .ok (.iconst 1, 1)) ∧ (decode cX6_turnWhoShareByPackets 59 = .ok (.iadd, 1)) ∧ (decode cX6_turnWhoShareByPackets 60 = .ok (.bipush 60, 2)) ∧ (decode cX6_turnWhoShareByPackets 62 = .ok (.irem, 1)) ∧ (decode cX6_turnWhoShareByPackets 63 = .ok (.iastore, 1)) ∧ (decode cX6_turnWhoShareByPackets 64 = .ok (.iinc 1 1, 3)) ∧ (decode cX6_turnWhoShareByPackets 67 = .ok (.goto (-65), 3)) ∧ (decode cX6_turnWhoShareByPackets 70 = .ok (.return_, 1)) := by decide +kernel
theorem dX6_turnWhoShareByPackets_58 : decode cX6_turnWhoShareByPackets 58 = .ok (.iconst 1, 1) := eX6_turnWhoShareByPackets_58q.1
theorem dX6_turnWhoShareByPackets_59 : decode cX6_turnWhoShareByPackets 59 = .ok (.iadd, 1) := eX6_turnWhoShareByPackets_58q.2.1
theorem dX6_turnWhoShareByPackets_60 : decode cX6_turnWhoShareByPackets 60 = .ok (.bipush 60, 2) := eX6_turnWhoShareByPackets_58q.2.2.1
theorem dX6_turnWhoShareByPackets_62 : decode cX6_turnWhoShareByPackets 62 = .ok (.irem, 1) := eX6_turnWhoShareByPackets_58q.2.2.2.1
theorem dX6_turnWhoShareByPackets_63 : decode cX6_turnWhoShareByPackets 63 = .ok (.iastore, 1) := eX6_turnWhoShareByPackets_58q.2.2.2.2.1
theorem dX6_turnWhoShareByPackets_64 : decode cX6_turnWhoShareByPackets 64 = .ok (.iinc 1 1, 3) := eX6_turnWhoShareByPackets_58q.2.2.2.2.2.1
theorem dX6_turnWhoShareByPackets_67 : decode cX6_turnWhoShareByPackets 67 = .ok (.goto (-65), 3) := eX6_turnWhoShareByPackets_58q.2.2.2.2.2.2.1
theorem dX6_turnWhoShareByPackets_70 : decode cX6_turnWhoShareByPackets 70 = .ok (.return_, 1) := eX6_turnWhoShareByPackets_58q.2.2.2.2.2.2.2
set_option maxRecDepth 20000 in
theorem ggX6_pingByTurns_X6_pingOne : GoodIn wsX6_pingByTurns wsX6_pingOne := by
  have h := goodIn_app (goodIn_app (goodIn_app (goodIn_r (big := wsX6_pingByTurns) (.code yX6_pingOne cX6_pingOne 2 (some .int) :: ([.fieldLink RX6 15 "PathProber$Sender" "net" "LPathProber$Net;", .methodLink RX6 100 yX2_routerOf, .instanceMethod yX2_routerOf, .selects RX2 yX2_routerOf yX2_routerOf, .initialized RX2, .code yX2_routerOf cX2_routerOf 2 (some .int), .fieldLink RX2 37 "PathProber$Net" "links" "I", .fieldLink RX2 27 "PathProber$Net" "to" "[I", .methodLink RX6 65 yX6_stepCounter, .instanceMethod yX6_stepCounter, .selects RX6 yX6_stepCounter yX6_stepCounter, .initialized RX6, .code yX6_stepCounter cX6_stepCounter 2 (some .int), .fieldLink RX6 19 "PathProber$Sender" "now" "LPathProber$Condition;", .fieldLink RX6 94 "PathProber$Condition" "counter" "[I", .fieldLink RX6 97 "PathProber$Net" "pace" "[I"]) : List Cond) [5, 6, 7, 8, 9, 10, 11, 12, 13, 14, 15, 16, 4, 17, 18, 19, 20] rfl (by decide +kernel)) (goodIn_few (big := wsX6_pingByTurns) (fun _ h9 => List.mem_cons_of_mem _ (List.mem_append_left _ (List.mem_append_left _ (List.mem_append_right _ h9)))) gb_6)) (goodIn_few (big := wsX6_pingByTurns) (fun _ h9 => List.mem_cons_of_mem _ (List.mem_append_left _ (List.mem_append_right _ h9))) gb_2)) (goodIn_few (big := wsX6_pingByTurns) (fun _ h9 => List.mem_cons_of_mem _ (List.mem_append_right _ h9)) gb_1)
  exact h
set_option maxRecDepth 20000 in
theorem gX6_pingByTurns_X6_pingOne : GoodIn wsX6_pingByTurns (wsV RX6 103 RX6 yX6_pingOne wsX6_pingOne) := goodIn_app (goodIn_r _ [1, 2, 3, 4] rfl (by decide +kernel)) ggX6_pingByTurns_X6_pingOne
theorem eX6_pingByTurns_0q : (decode cX6_pingByTurns 0 = .ok (.iconst 1, 1)) ∧ (decode cX6_pingByTurns 1 = .ok (.istore_n 3, 1)) ∧ (decode cX6_pingByTurns 2 = .ok (.iconst (-1), 1)) ∧ (decode cX6_pingByTurns 3 = .ok (.istore 4, 2)) ∧ (decode cX6_pingByTurns 5 = .ok (.iconst 0, 1)) ∧ (decode cX6_pingByTurns 6 = .ok (.istore 5, 2)) ∧ (decode cX6_pingByTurns 8 = .ok (.iload 5, 2)) ∧ (decode cX6_pingByTurns 10 = .ok (.bipush 6, 2)) := by decide +kernel
theorem dX6_pingByTurns_0 : decode cX6_pingByTurns 0 = .ok (.iconst 1, 1) := eX6_pingByTurns_0q.1
theorem dX6_pingByTurns_1 : decode cX6_pingByTurns 1 = .ok (.istore_n 3, 1) := eX6_pingByTurns_0q.2.1
theorem dX6_pingByTurns_2 : decode cX6_pingByTurns 2 = .ok (.iconst (-1), 1) := eX6_pingByTurns_0q.2.2.1
theorem dX6_pingByTurns_3 : decode cX6_pingByTurns 3 = .ok (.istore 4, 2) := eX6_pingByTurns_0q.2.2.2.1
theorem dX6_pingByTurns_5 : decode cX6_pingByTurns 5 = .ok (.iconst 0, 1) := eX6_pingByTurns_0q.2.2.2.2.1
theorem dX6_pingByTurns_6 : decode cX6_pingByTurns 6 = .ok (.istore 5, 2) := eX6_pingByTurns_0q.2.2.2.2.2.1
theorem dX6_pingByTurns_8 : decode cX6_pingByTurns 8 = .ok (.iload 5, 2) := eX6_pingByTurns_0q.2.2.2.2.2.2.1
theorem dX6_pingByTurns_10 : decode cX6_pingByTurns 10 = .ok (.bipush 6, 2) := eX6_pingByTurns_0q.2.2.2.2.2.2.2
theorem eX6_pingByTurns_12q : (decode cX6_pingByTurns 12 = .ok (.if_icmp .ge 67, 3)) ∧ (decode cX6_pingByTurns 15 = .ok (.aload_n 0, 1)) ∧ (decode cX6_pingByTurns 16 = .ok (.iload 5, 2)) ∧ (decode cX6_pingByTurns 18 = .ok (.iconst 2, 1)) ∧ (decode cX6_pingByTurns 19 = .ok (.irem, 1)) ∧ (decode cX6_pingByTurns 20 = .ok (.ifCond .ne 7, 3)) ∧ (decode cX6_pingByTurns 23 = .ok (.iload_n 1, 1)) ∧ (decode cX6_pingByTurns 24 = .ok (.goto 4, 3)) := by decide +kernel
theorem dX6_pingByTurns_12 : decode cX6_pingByTurns 12 = .ok (.if_icmp .ge 67, 3) := eX6_pingByTurns_12q.1
theorem dX6_pingByTurns_15 : decode cX6_pingByTurns 15 = .ok (.aload_n 0, 1) := eX6_pingByTurns_12q.2.1
theorem dX6_pingByTurns_16 : decode cX6_pingByTurns 16 = .ok (.iload 5, 2) := eX6_pingByTurns_12q.2.2.1
theorem dX6_pingByTurns_18 : decode cX6_pingByTurns 18 = .ok (.iconst 2, 1) := eX6_pingByTurns_12q.2.2.2.1
theorem dX6_pingByTurns_19 : decode cX6_pingByTurns 19 = .ok (.irem, 1) := eX6_pingByTurns_12q.2.2.2.2.1
theorem dX6_pingByTurns_20 : decode cX6_pingByTurns 20 = .ok (.ifCond .ne 7, 3) := eX6_pingByTurns_12q.2.2.2.2.2.1
theorem dX6_pingByTurns_23 : decode cX6_pingByTurns 23 = .ok (.iload_n 1, 1) := eX6_pingByTurns_12q.2.2.2.2.2.2.1
theorem dX6_pingByTurns_24 : decode cX6_pingByTurns 24 = .ok (.goto 4, 3) := eX6_pingByTurns_12q.2.2.2.2.2.2.2
theorem eX6_pingByTurns_27q : (decode cX6_pingByTurns 27 = .ok (.iload_n 2, 1)) ∧ (decode cX6_pingByTurns 28 = .ok (.invokevirtual 103, 3)) ∧ (decode cX6_pingByTurns 31 = .ok (.istore 6, 2)) ∧ (decode cX6_pingByTurns 33 = .ok (.iload 6, 2)) ∧ (decode cX6_pingByTurns 35 = .ok (.iload 4, 2)) ∧ (decode cX6_pingByTurns 37 = .ok (.isub, 1)) ∧ (decode cX6_pingByTurns 38 = .ok (.sipush 256, 3)) ∧ (decode cX6_pingByTurns 41 = .ok (.iadd, 1)) := by decide +kernel
theorem dX6_pingByTurns_27 : decode cX6_pingByTurns 27 = .ok (.iload_n 2, 1) := eX6_pingByTurns_27q.1
theorem dX6_pingByTurns_28 : decode cX6_pingByTurns 28 = .ok (.invokevirtual 103, 3) := eX6_pingByTurns_27q.2.1
theorem dX6_pingByTurns_31 : decode cX6_pingByTurns 31 = .ok (.istore 6, 2) := eX6_pingByTurns_27q.2.2.1
theorem dX6_pingByTurns_33 : decode cX6_pingByTurns 33 = .ok (.iload 6, 2) := eX6_pingByTurns_27q.2.2.2.1
theorem dX6_pingByTurns_35 : decode cX6_pingByTurns 35 = .ok (.iload 4, 2) := eX6_pingByTurns_27q.2.2.2.2.1
theorem dX6_pingByTurns_37 : decode cX6_pingByTurns 37 = .ok (.isub, 1) := eX6_pingByTurns_27q.2.2.2.2.2.1
theorem dX6_pingByTurns_38 : decode cX6_pingByTurns 38 = .ok (.sipush 256, 3) := eX6_pingByTurns_27q.2.2.2.2.2.2.1
theorem dX6_pingByTurns_41 : decode cX6_pingByTurns 41 = .ok (.iadd, 1) := eX6_pingByTurns_27q.2.2.2.2.2.2.2
theorem eX6_pingByTurns_42q : (decode cX6_pingByTurns 42 = .ok (.sipush 256, 3)) ∧ (decode cX6_pingByTurns 45 = .ok (.irem, 1)) ∧ (decode cX6_pingByTurns 46 = .ok (.istore 7, 2)) ∧ (decode cX6_pingByTurns 48 = .ok (.iload 4, 2)) ∧ (decode cX6_pingByTurns 50 = .ok (.iconst (-1), 1)) ∧ (decode cX6_pingByTurns 51 = .ok (.if_icmp .eq 18, 3)) ∧ (decode cX6_pingByTurns 54 = .ok (.iload 7, 2)) ∧ (decode cX6_pingByTurns 56 = .ok (.iconst 1, 1)) := by decide +kernel
theorem dX6_pingByTurns_42 : decode cX6_pingByTurns 42 = .ok (.sipush 256, 3) := eX6_pingByTurns_42q.1
theorem dX6_pingByTurns_45 : decode cX6_pingByTurns 45 = .ok (.irem, 1) := eX6_pingByTurns_42q.2.1
theorem dX6_pingByTurns_46 : decode cX6_pingByTurns 46 = .ok (.istore 7, 2) := eX6_pingByTurns_42q.2.2.1
theorem dX6_pingByTurns_48 : decode cX6_pingByTurns 48 = .ok (.iload 4, 2) := eX6_pingByTurns_42q.2.2.2.1
theorem dX6_pingByTurns_50 : decode cX6_pingByTurns 50 = .ok (.iconst (-1), 1) := eX6_pingByTurns_42q.2.2.2.2.1
theorem dX6_pingByTurns_51 : decode cX6_pingByTurns 51 = .ok (.if_icmp .eq 18, 3) := eX6_pingByTurns_42q.2.2.2.2.2.1
theorem dX6_pingByTurns_54 : decode cX6_pingByTurns 54 = .ok (.iload 7, 2) := eX6_pingByTurns_42q.2.2.2.2.2.2.1
theorem dX6_pingByTurns_56 : decode cX6_pingByTurns 56 = .ok (.iconst 1, 1) := eX6_pingByTurns_42q.2.2.2.2.2.2.2
theorem eX6_pingByTurns_57q : (decode cX6_pingByTurns 57 = .ok (.if_icmp .lt 10, 3)) ∧ (decode cX6_pingByTurns 60 = .ok (.iload 7, 2)) ∧ (decode cX6_pingByTurns 62 = .ok (.bipush 120, 2)) ∧ (decode cX6_pingByTurns 64 = .ok (.if_icmp .le 5, 3)) ∧ (decode cX6_pingByTurns 67 = .ok (.iconst 0, 1)) ∧ (decode cX6_pingByTurns 68 = .ok (.istore_n 3, 1)) ∧ (decode cX6_pingByTurns 69 = .ok (.iload 6, 2)) ∧ (decode cX6_pingByTurns 71 = .ok (.istore 4, 2)) := by decide +kernel
theorem dX6_pingByTurns_57 : decode cX6_pingByTurns 57 = .ok (.if_icmp .lt 10, 3) := eX6_pingByTurns_57q.1
theorem dX6_pingByTurns_60 : decode cX6_pingByTurns 60 = .ok (.iload 7, 2) := eX6_pingByTurns_57q.2.1
theorem dX6_pingByTurns_62 : decode cX6_pingByTurns 62 = .ok (.bipush 120, 2) := eX6_pingByTurns_57q.2.2.1
theorem dX6_pingByTurns_64 : decode cX6_pingByTurns 64 = .ok (.if_icmp .le 5, 3) := eX6_pingByTurns_57q.2.2.2.1
theorem dX6_pingByTurns_67 : decode cX6_pingByTurns 67 = .ok (.iconst 0, 1) := eX6_pingByTurns_57q.2.2.2.2.1
theorem dX6_pingByTurns_68 : decode cX6_pingByTurns 68 = .ok (.istore_n 3, 1) := eX6_pingByTurns_57q.2.2.2.2.2.1
theorem dX6_pingByTurns_69 : decode cX6_pingByTurns 69 = .ok (.iload 6, 2) := eX6_pingByTurns_57q.2.2.2.2.2.2.1
theorem dX6_pingByTurns_71 : decode cX6_pingByTurns 71 = .ok (.istore 4, 2) := eX6_pingByTurns_57q.2.2.2.2.2.2.2
theorem eX6_pingByTurns_73q : (decode cX6_pingByTurns 73 = .ok (.iinc 5 1, 3)) ∧ (decode cX6_pingByTurns 76 = .ok (.goto (-68), 3)) ∧ (decode cX6_pingByTurns 79 = .ok (.iload_n 3, 1)) ∧ (decode cX6_pingByTurns 80 = .ok (.ireturn, 1)) := by decide +kernel
theorem dX6_pingByTurns_73 : decode cX6_pingByTurns 73 = .ok (.iinc 5 1, 3) := eX6_pingByTurns_73q.1
theorem dX6_pingByTurns_76 : decode cX6_pingByTurns 76 = .ok (.goto (-68), 3) := eX6_pingByTurns_73q.2.1
theorem dX6_pingByTurns_79 : decode cX6_pingByTurns 79 = .ok (.iload_n 3, 1) := eX6_pingByTurns_73q.2.2.1
theorem dX6_pingByTurns_80 : decode cX6_pingByTurns 80 = .ok (.ireturn, 1) := eX6_pingByTurns_73q.2.2.2
set_option maxRecDepth 20000 in
theorem ggX6_sendSweep_X0_openWindow : GoodIn wsX6_sendSweep wsX0_openWindow := by
  have h := goodIn_app (goodIn_r (big := wsX6_sendSweep) (.code yX0_openWindow cX0_openWindow 1 none :: ([.fieldLink RX0 29 "PathProber$Condition" "opened" "I", .fieldLink RX0 32 "PathProber$Condition" "open" "I", .fieldLink RX0 35 "PathProber$Condition" "deep" "I", .methodLink RX0 57 Lib.Math.max.name, .static Lib.Math.max.name, .initialized "java/lang/Math", .code Lib.Math.max.name Lib.Math.max.code 2 (some .int)]) : List Cond) [6, 7, 8, 9, 10, 11, 12, 13] rfl (by decide +kernel)) (goodIn_few (big := wsX6_sendSweep) (fun _ h9 => List.mem_cons_of_mem _ (List.mem_append_left _ (List.mem_append_left _ (List.mem_append_left _ (List.mem_append_right _ h9))))) gb_1)
  exact h
set_option maxRecDepth 20000 in
theorem gX6_sendSweep_X0_openWindow : GoodIn wsX6_sendSweep (wsV RX6 31 RX0 yX0_openWindow wsX0_openWindow) := goodIn_app (goodIn_r _ [2, 3, 4, 5] rfl (by decide +kernel)) ggX6_sendSweep_X0_openWindow
set_option maxRecDepth 20000 in
theorem ggX6_sendSweep_X6_enoughAt : GoodIn wsX6_sendSweep wsX6_enoughAt := by
  have h := goodIn_app (goodIn_app (goodIn_app (goodIn_r (big := wsX6_sendSweep) (.code yX6_enoughAt cX6_enoughAt 6 (some .int) :: (wsX6_enoughAt_r1 ++ wsX6_enoughAt_r2) : List Cond) [18, 1, 19, 20, 12, 21, 22, 11, 13, 23, 24, 25, 26, 27, 5, 28, 29, 30, 31, 32, 33, 34, 35, 36, 37, 38, 39, 40, 41, 42, 43, 44, 45, 46, 47, 48, 49, 50, 51, 52, 53, 54, 55, 56, 57, 58, 59] rfl (by decide +kernel)) (goodIn_few (big := wsX6_sendSweep) (fun _ h9 => List.mem_cons_of_mem _ (List.mem_append_left _ (List.mem_append_left _ (List.mem_append_left _ (List.mem_append_left _ (List.mem_append_right _ h9)))))) gb_6)) (goodIn_few (big := wsX6_sendSweep) (fun _ h9 => List.mem_cons_of_mem _ (List.mem_append_left _ (List.mem_append_left _ (List.mem_append_left _ (List.mem_append_right _ h9))))) gb_1)) (goodIn_few (big := wsX6_sendSweep) (fun _ h9 => List.mem_cons_of_mem _ (List.mem_append_left _ (List.mem_append_left _ (List.mem_append_right _ h9)))) gb_3)
  exact h
set_option maxRecDepth 20000 in
theorem gX6_sendSweep_X6_enoughAt : GoodIn wsX6_sendSweep (wsV RX6 106 RX6 yX6_enoughAt wsX6_enoughAt) := goodIn_app (goodIn_r _ [14, 15, 16, 17] rfl (by decide +kernel)) ggX6_sendSweep_X6_enoughAt
set_option maxRecDepth 20000 in
theorem ggX6_sendSweep_X6_sendOne : GoodIn wsX6_sendSweep wsX6_sendOne := by
  have h := goodIn_app (goodIn_app (goodIn_app (goodIn_app (goodIn_r (big := wsX6_sendSweep) (.code yX6_sendOne cX6_sendOne 5 (some .int) :: (wsX6_sendOne_r1 ++ (wsX6_sendOne_r2 ++ (wsX6_sendOne_r3 ++ (wsX6_sendOne_r4 ++ wsX6_sendOne_r5)))) : List Cond) [63, 1, 64, 65, 66, 67, 68, 69, 2, 3, 4, 5, 6, 7, 8, 9, 10, 11, 12, 13, 70, 71, 72, 73, 74, 75, 76, 77, 78, 79, 80, 81, 82, 83, 84, 85, 86, 87, 88, 89, 90, 91, 92, 93, 94, 95, 96, 97, 98, 99, 100, 101, 102, 103, 104, 105, 106, 107, 108, 109, 110, 111, 112, 113, 114, 115, 116, 17, 117, 118, 119, 120, 121, 122, 123, 124, 125, 126, 127, 128, 129, 130, 131, 132, 133, 134, 135, 136, 137, 138, 139, 140, 141, 142, 29, 30, 143, 144, 145, 146, 147] rfl (by decide +kernel)) (goodIn_few (big := wsX6_sendSweep) (fun _ h9 => List.mem_cons_of_mem _ (List.mem_append_left _ (List.mem_append_left _ (List.mem_append_left _ (List.mem_append_left _ (List.mem_append_right _ h9)))))) gb_6)) (goodIn_few (big := wsX6_sendSweep) (fun _ h9 => List.mem_cons_of_mem _ (List.mem_append_left _ (List.mem_append_right _ h9))) gb_5)) (goodIn_few (big := wsX6_sendSweep) (fun _ h9 => List.mem_cons_of_mem _ (List.mem_append_left _ (List.mem_append_left _ (List.mem_append_left _ (List.mem_append_right _ h9))))) gb_1)) (goodIn_few (big := wsX6_sendSweep) (fun _ h9 => List.mem_cons_of_mem _ (List.mem_append_right _ h9)) gb_2)
  exact h
set_option maxRecDepth 20000 in
theorem gX6_sendSweep_X6_sendOne : GoodIn wsX6_sendSweep (wsV RX6 110 RX6 yX6_sendOne wsX6_sendOne) := goodIn_app (goodIn_r _ [60, 61, 62, 17] rfl (by decide +kernel)) ggX6_sendSweep_X6_sendOne
set_option maxRecDepth 20000 in
theorem ggX6_sendSweep_X0_shutWindow : GoodIn wsX6_sendSweep wsX0_shutWindow := by
  have h := goodIn_app (goodIn_r (big := wsX6_sendSweep) (.code yX0_shutWindow cX0_shutWindow 1 none :: ([.fieldLink RX0 32 "PathProber$Condition" "open" "I"]) : List Cond) [147, 8] rfl (by decide +kernel)) (goodIn_few (big := wsX6_sendSweep) (fun _ h9 => List.mem_cons_of_mem _ (List.mem_append_left _ (List.mem_append_left _ (List.mem_append_left _ (List.mem_append_right _ h9))))) gb_1)
  exact h
set_option maxRecDepth 20000 in
theorem gX6_sendSweep_X0_shutWindow : GoodIn wsX6_sendSweep (wsV RX6 76 RX0 yX0_shutWindow wsX0_shutWindow) := goodIn_app (goodIn_r _ [144, 145, 146, 5] rfl (by decide +kernel)) ggX6_sendSweep_X0_shutWindow
theorem eX6_sendSweep_0q : (decode cX6_sendSweep 0 = .ok (.aload_n 0, 1)) ∧ (decode cX6_sendSweep 1 = .ok (.getfield 19, 3)) ∧ (decode cX6_sendSweep 4 = .ok (.invokevirtual 31, 3)) ∧ (decode cX6_sendSweep 7 = .ok (.iconst 0, 1)) ∧ (decode cX6_sendSweep 8 = .ok (.istore_n 3, 1)) ∧ (decode cX6_sendSweep 9 = .ok (.iload_n 3, 1)) ∧ (decode cX6_sendSweep 10 = .ok (.bipush 32, 2)) ∧ (decode cX6_sendSweep 12 = .ok (.if_icmp .ge 27, 3)) := by decide +kernel
theorem dX6_sendSweep_0 : decode cX6_sendSweep 0 = .ok (.aload_n 0, 1) := eX6_sendSweep_0q.1
theorem dX6_sendSweep_1 : decode cX6_sendSweep 1 = .ok (.getfield 19, 3) := eX6_sendSweep_0q.2.1
theorem dX6_sendSweep_4 : decode cX6_sendSweep 4 = .ok (.invokevirtual 31, 3) := eX6_sendSweep_0q.2.2.1
theorem dX6_sendSweep_7 : decode cX6_sendSweep 7 = .ok (.iconst 0, 1) := eX6_sendSweep_0q.2.2.2.1
theorem dX6_sendSweep_8 : decode cX6_sendSweep 8 = .ok (.istore_n 3, 1) := eX6_sendSweep_0q.2.2.2.2.1
theorem dX6_sendSweep_9 : decode cX6_sendSweep 9 = .ok (.iload_n 3, 1) := eX6_sendSweep_0q.2.2.2.2.2.1
theorem dX6_sendSweep_10 : decode cX6_sendSweep 10 = .ok (.bipush 32, 2) := eX6_sendSweep_0q.2.2.2.2.2.2.1
theorem dX6_sendSweep_12 : decode cX6_sendSweep 12 = .ok (.if_icmp .ge 27, 3) := eX6_sendSweep_0q.2.2.2.2.2.2.2
theorem eX6_sendSweep_15q : (decode cX6_sendSweep 15 = .ok (.iload_n 3, 1)) ∧ (decode cX6_sendSweep 16 = .ok (.aload_n 0, 1)) ∧ (decode cX6_sendSweep 17 = .ok (.iload_n 1, 1)) ∧ (decode cX6_sendSweep 18 = .ok (.iload_n 2, 1)) ∧ (decode cX6_sendSweep 19 = .ok (.invokevirtual 106, 3)) ∧ (decode cX6_sendSweep 22 = .ok (.if_icmp .ge 17, 3)) ∧ (decode cX6_sendSweep 25 = .ok (.aload_n 0, 1)) ∧ (decode cX6_sendSweep 26 = .ok (.iload_n 3, 1)) := by decide +kernel
theorem dX6_sendSweep_15 : decode cX6_sendSweep 15 = .ok (.iload_n 3, 1) := eX6_sendSweep_15q.1
theorem dX6_sendSweep_16 : decode cX6_sendSweep 16 = .ok (.aload_n 0, 1) := eX6_sendSweep_15q.2.1
theorem dX6_sendSweep_17 : decode cX6_sendSweep 17 = .ok (.iload_n 1, 1) := eX6_sendSweep_15q.2.2.1
theorem dX6_sendSweep_18 : decode cX6_sendSweep 18 = .ok (.iload_n 2, 1) := eX6_sendSweep_15q.2.2.2.1
theorem dX6_sendSweep_19 : decode cX6_sendSweep 19 = .ok (.invokevirtual 106, 3) := eX6_sendSweep_15q.2.2.2.2.1
theorem dX6_sendSweep_22 : decode cX6_sendSweep 22 = .ok (.if_icmp .ge 17, 3) := eX6_sendSweep_15q.2.2.2.2.2.1
theorem dX6_sendSweep_25 : decode cX6_sendSweep 25 = .ok (.aload_n 0, 1) := eX6_sendSweep_15q.2.2.2.2.2.2.1
theorem dX6_sendSweep_26 : decode cX6_sendSweep 26 = .ok (.iload_n 3, 1) := eX6_sendSweep_15q.2.2.2.2.2.2.2
theorem eX6_sendSweep_27q : (decode cX6_sendSweep 27 = .ok (.iload_n 1, 1)) ∧ (decode cX6_sendSweep 28 = .ok (.iload_n 2, 1)) ∧ (decode cX6_sendSweep 29 = .ok (.invokevirtual 110, 3)) ∧ (decode cX6_sendSweep 32 = .ok (.pop, 1)) ∧ (decode cX6_sendSweep 33 = .ok (.iinc 3 1, 3)) ∧ (decode cX6_sendSweep 36 = .ok (.goto (-27), 3)) ∧ (decode cX6_sendSweep 39 = .ok (.aload_n 0, 1)) ∧ (decode cX6_sendSweep 40 = .ok (.getfield 19, 3)) := by decide +kernel
theorem dX6_sendSweep_27 : decode cX6_sendSweep 27 = .ok (.iload_n 1, 1) := eX6_sendSweep_27q.1
theorem dX6_sendSweep_28 : decode cX6_sendSweep 28 = .ok (.iload_n 2, 1) := eX6_sendSweep_27q.2.1
theorem dX6_sendSweep_29 : decode cX6_sendSweep 29 = .ok (.invokevirtual 110, 3) := eX6_sendSweep_27q.2.2.1
theorem dX6_sendSweep_32 : decode cX6_sendSweep 32 = .ok (.pop, 1) := eX6_sendSweep_27q.2.2.2.1
theorem dX6_sendSweep_33 : decode cX6_sendSweep 33 = .ok (.iinc 3 1, 3) := eX6_sendSweep_27q.2.2.2.2.1
theorem dX6_sendSweep_36 : decode cX6_sendSweep 36 = .ok (.goto (-27), 3) := eX6_sendSweep_27q.2.2.2.2.2.1
theorem dX6_sendSweep_39 : decode cX6_sendSweep 39 = .ok (.aload_n 0, 1) := eX6_sendSweep_27q.2.2.2.2.2.2.1
theorem dX6_sendSweep_40 : decode cX6_sendSweep 40 = .ok (.getfield 19, 3) := eX6_sendSweep_27q.2.2.2.2.2.2.2
theorem eX6_sendSweep_43q : (decode cX6_sendSweep 43 = .ok (.invokevirtual 76, 3)) ∧ (decode cX6_sendSweep 46 = .ok (.iload_n 3, 1)) ∧ (decode cX6_sendSweep 47 = .ok (.ireturn, 1)) := by decide +kernel
theorem dX6_sendSweep_43 : decode cX6_sendSweep 43 = .ok (.invokevirtual 76, 3) := eX6_sendSweep_43q.1
theorem dX6_sendSweep_46 : decode cX6_sendSweep 46 = .ok (.iload_n 3, 1) := eX6_sendSweep_43q.2.1
theorem dX6_sendSweep_47 : decode cX6_sendSweep 47 = .ok (.ireturn, 1) := eX6_sendSweep_43q.2.2
set_option maxRecDepth 20000 in
theorem ggX6_enoughAt_X0_seenAt : GoodIn wsX6_enoughAt wsX0_seenAt := by
  have h := goodIn_app (goodIn_r (big := wsX6_enoughAt) (.code yX0_seenAt cX0_seenAt 6 (some .int) :: ([.fieldLink RX0 9 "PathProber$Condition" "seen" "[J", .constantLong RX0 53 (31)]) : List Cond) [15, 16, 17] rfl (by decide +kernel)) (goodIn_few (big := wsX6_enoughAt) (fun _ h9 => List.mem_cons_of_mem _ (List.mem_append_left _ (List.mem_append_right _ h9))) gb_1)
  exact h
set_option maxRecDepth 20000 in
theorem gX6_enoughAt_X0_seenAt : GoodIn wsX6_enoughAt (wsV RX6 114 RX0 yX0_seenAt wsX0_seenAt) := goodIn_app (goodIn_r _ [11, 12, 13, 14] rfl (by decide +kernel)) ggX6_enoughAt_X0_seenAt
set_option maxRecDepth 20000 in
theorem ggX6_enoughAt_J6_bitCount_0f7a4 : GoodIn wsX6_enoughAt wsJ6_bitCount_0f7a4 := goodIn_r _ [21, 22, 23, 24] rfl (by decide +kernel)
set_option maxRecDepth 20000 in
theorem gX6_enoughAt_J6_bitCount_0f7a4 : GoodIn wsX6_enoughAt (va_wsS RX6 117 yJ6_bitCount_0f7a4 wsJ6_bitCount_0f7a4) := goodIn_app (goodIn_r _ [18, 19, 20] rfl (by decide +kernel)) ggX6_enoughAt_J6_bitCount_0f7a4
set_option maxRecDepth 20000 in
theorem ggX6_enoughAt_X4_enoughFor : GoodIn wsX6_enoughAt wsX4_enoughFor := by
  have h := goodIn_app (goodIn_r (big := wsX6_enoughAt) (.code yX4_enoughFor cX4_enoughFor 4 (some .int) :: ([.fieldLink RX4 19 "PathProber$Odds" "lossOfEnough" "I", .fieldLink RX4 15 "PathProber$Odds" "enough" "[I", .constantLong RX4 32 (10000000000), .methodLink RX4 34 yX4_leastFor, .instanceMethod yX4_leastFor, .selects RX4 yX4_leastFor yX4_leastFor, .initialized RX4, .code yX4_leastFor cX4_leastFor 5 (some .int), .constantLong RX4 23 (1000000000000), .fieldLink RX4 9 "PathProber$Odds" "met" "[J", .methodLink RX4 25 yX4_begin, .instanceMethod yX4_begin, .selects RX4 yX4_begin yX4_begin, .code yX4_begin cX4_begin 3 none, .methodLink RX4 29 yX4_sendNext, .instanceMethod yX4_sendNext, .selects RX4 yX4_sendNext yX4_sendNext, .code yX4_sendNext cX4_sendNext 5 none]) : List Cond) [29, 30, 31, 32, 33, 34, 35, 28, 36, 37, 38, 39, 40, 41, 42, 43, 44, 45, 46] rfl (by decide +kernel)) (goodIn_few (big := wsX6_enoughAt) (fun _ h9 => List.mem_cons_of_mem _ (List.mem_append_right _ h9)) gb_3)
  exact h
set_option maxRecDepth 20000 in
theorem gX6_enoughAt_X4_enoughFor : GoodIn wsX6_enoughAt (wsV RX6 133 RX4 yX4_enoughFor wsX4_enoughFor) := goodIn_app (goodIn_r _ [25, 26, 27, 28] rfl (by decide +kernel)) ggX6_enoughAt_X4_enoughFor
theorem eX6_enoughAt_0q : (decode cX6_enoughAt 0 = .ok (.aload_n 0, 1)) ∧ (decode cX6_enoughAt 1 = .ok (.getfield 19, 3)) ∧ (decode cX6_enoughAt 4 = .ok (.iload_n 1, 1)) ∧ (decode cX6_enoughAt 5 = .ok (.iload_n 2, 1)) ∧ (decode cX6_enoughAt 6 = .ok (.invokevirtual 114, 3)) ∧ (decode cX6_enoughAt 9 = .ok (.invokestatic 117, 3)) ∧ (decode cX6_enoughAt 12 = .ok (.istore_n 3, 1)) ∧ (decode cX6_enoughAt 13 = .ok (.iconst 1, 1)) := by decide +kernel
theorem dX6_enoughAt_0 : decode cX6_enoughAt 0 = .ok (.aload_n 0, 1) := eX6_enoughAt_0q.1
theorem dX6_enoughAt_1 : decode cX6_enoughAt 1 = .ok (.getfield 19, 3) := eX6_enoughAt_0q.2.1
theorem dX6_enoughAt_4 : decode cX6_enoughAt 4 = .ok (.iload_n 1, 1) := eX6_enoughAt_0q.2.2.1
theorem dX6_enoughAt_5 : decode cX6_enoughAt 5 = .ok (.iload_n 2, 1) := eX6_enoughAt_0q.2.2.2.1
theorem dX6_enoughAt_6 : decode cX6_enoughAt 6 = .ok (.invokevirtual 114, 3) := eX6_enoughAt_0q.2.2.2.2.1
theorem dX6_enoughAt_9 : decode cX6_enoughAt 9 = .ok (.invokestatic 117, 3) := eX6_enoughAt_0q.2.2.2.2.2.1
theorem dX6_enoughAt_12 : decode cX6_enoughAt 12 = .ok (.istore_n 3, 1) := eX6_enoughAt_0q.2.2.2.2.2.2.1
theorem dX6_enoughAt_13 : decode cX6_enoughAt 13 = .ok (.iconst 1, 1) := eX6_enoughAt_0q.2.2.2.2.2.2.2
theorem eX6_enoughAt_14q : (decode cX6_enoughAt 14 = .ok (.iconst 4, 1)) ∧ (decode cX6_enoughAt 15 = .ok (.iload_n 3, 1)) ∧ (decode cX6_enoughAt 16 = .ok (.invokestatic 122, 3)) ∧ (decode cX6_enoughAt 19 = .ok (.invokestatic 127, 3)) ∧ (decode cX6_enoughAt 22 = .ok (.istore 4, 2)) ∧ (decode cX6_enoughAt 24 = .ok (.aload_n 0, 1)) ∧ (decode cX6_enoughAt 25 = .ok (.getfield 27, 3)) ∧ (decode cX6_enoughAt 28 = .ok (.iload 4, 2)) := by decide +kernel
theorem dX6_enoughAt_14 : decode cX6_enoughAt 14 = .ok (.iconst 4, 1) := eX6_enoughAt_14q.1
theorem dX6_enoughAt_15 : decode cX6_enoughAt 15 = .ok (.iload_n 3, 1) := eX6_enoughAt_14q.2.1
theorem dX6_enoughAt_16 : decode cX6_enoughAt 16 = .ok (.invokestatic 122, 3) := eX6_enoughAt_14q.2.2.1
theorem dX6_enoughAt_19 : decode cX6_enoughAt 19 = .ok (.invokestatic 127, 3) := eX6_enoughAt_14q.2.2.2.1
theorem dX6_enoughAt_22 : decode cX6_enoughAt 22 = .ok (.istore 4, 2) := eX6_enoughAt_14q.2.2.2.2.1
theorem dX6_enoughAt_24 : decode cX6_enoughAt 24 = .ok (.aload_n 0, 1) := eX6_enoughAt_14q.2.2.2.2.2.1
theorem dX6_enoughAt_25 : decode cX6_enoughAt 25 = .ok (.getfield 27, 3) := eX6_enoughAt_14q.2.2.2.2.2.2.1
theorem dX6_enoughAt_28 : decode cX6_enoughAt 28 = .ok (.iload 4, 2) := eX6_enoughAt_14q.2.2.2.2.2.2.2
theorem eX6_enoughAt_30q : (decode cX6_enoughAt 30 = .ok (.aload_n 0, 1)) ∧ (decode cX6_enoughAt 31 = .ok (.getfield 19, 3)) ∧ (decode cX6_enoughAt 34 = .ok (.getfield 130, 3)) ∧ (decode cX6_enoughAt 37 = .ok (.invokevirtual 133, 3)) ∧ (decode cX6_enoughAt 40 = .ok (.istore 5, 2)) ∧ (decode cX6_enoughAt 42 = .ok (.iload 5, 2)) ∧ (decode cX6_enoughAt 44 = .ok (.iconst (-1), 1)) ∧ (decode cX6_enoughAt 45 = .ok (.if_icmp .ne 8, 3)) := by decide +kernel
theorem dX6_enoughAt_30 : decode cX6_enoughAt 30 = .ok (.aload_n 0, 1) := eX6_enoughAt_30q.1
theorem dX6_enoughAt_31 : decode cX6_enoughAt 31 = .ok (.getfield 19, 3) := eX6_enoughAt_30q.2.1
theorem dX6_enoughAt_34 : decode cX6_enoughAt 34 = .ok (.getfield 130, 3) := eX6_enoughAt_30q.2.2.1
theorem dX6_enoughAt_37 : decode cX6_enoughAt 37 = .ok (.invokevirtual 133, 3) := eX6_enoughAt_30q.2.2.2.1
theorem dX6_enoughAt_40 : decode cX6_enoughAt 40 = .ok (.istore 5, 2) := eX6_enoughAt_30q.2.2.2.2.1
theorem dX6_enoughAt_42 : decode cX6_enoughAt 42 = .ok (.iload 5, 2) := eX6_enoughAt_30q.2.2.2.2.2.1
theorem dX6_enoughAt_44 : decode cX6_enoughAt 44 = .ok (.iconst (-1), 1) := eX6_enoughAt_30q.2.2.2.2.2.2.1
theorem dX6_enoughAt_45 : decode cX6_enoughAt 45 = .ok (.if_icmp .ne 8, 3) := eX6_enoughAt_30q.2.2.2.2.2.2.2
theorem eX6_enoughAt_48q : (decode cX6_enoughAt 48 = .ok (.bipush 32, 2)) ∧ (decode cX6_enoughAt 50 = .ok (.goto 5, 3)) ∧ (decode cX6_enoughAt 53 = .ok (.iload 5, 2)) ∧ (decode cX6_enoughAt 55 = .ok (.ireturn, 1)) := by decide +kernel
theorem dX6_enoughAt_48 : decode cX6_enoughAt 48 = .ok (.bipush 32, 2) := eX6_enoughAt_48q.1
theorem dX6_enoughAt_50 : decode cX6_enoughAt 50 = .ok (.goto 5, 3) := eX6_enoughAt_48q.2.1
theorem dX6_enoughAt_53 : decode cX6_enoughAt 53 = .ok (.iload 5, 2) := eX6_enoughAt_48q.2.2.1
theorem dX6_enoughAt_55 : decode cX6_enoughAt 55 = .ok (.ireturn, 1) := eX6_enoughAt_48q.2.2.2
set_option maxRecDepth 20000 in
theorem ggX6_sendTrace_X0_openWindow : GoodIn wsX6_sendTrace wsX0_openWindow := by
  have h := goodIn_app (goodIn_r (big := wsX6_sendTrace) (.code yX0_openWindow cX0_openWindow 1 none :: ([.fieldLink RX0 29 "PathProber$Condition" "opened" "I", .fieldLink RX0 32 "PathProber$Condition" "open" "I", .fieldLink RX0 35 "PathProber$Condition" "deep" "I", .methodLink RX0 57 Lib.Math.max.name, .static Lib.Math.max.name, .initialized "java/lang/Math", .code Lib.Math.max.name Lib.Math.max.code 2 (some .int)]) : List Cond) [8, 9, 10, 11, 12, 13, 14, 15] rfl (by decide +kernel)) (goodIn_few (big := wsX6_sendTrace) (fun _ h9 => List.mem_cons_of_mem _ (List.mem_append_left _ (List.mem_append_right _ h9))) gb_1)
  exact h
set_option maxRecDepth 20000 in
theorem gX6_sendTrace_X0_openWindow : GoodIn wsX6_sendTrace (wsV RX6 31 RX0 yX0_openWindow wsX0_openWindow) := goodIn_app (goodIn_r _ [4, 5, 6, 7] rfl (by decide +kernel)) ggX6_sendTrace_X0_openWindow
set_option maxRecDepth 20000 in
theorem ggX6_sendTrace_X6_sendOne : GoodIn wsX6_sendTrace wsX6_sendOne := by
  have h := goodIn_app (goodIn_app (goodIn_app (goodIn_app (goodIn_r (big := wsX6_sendTrace) (.code yX6_sendOne cX6_sendOne 5 (some .int) :: (wsX6_sendOne_r1 ++ (wsX6_sendOne_r2 ++ (wsX6_sendOne_r3 ++ (wsX6_sendOne_r4 ++ wsX6_sendOne_r5)))) : List Cond) [20, 1, 21, 22, 23, 24, 25, 26, 4, 5, 6, 7, 8, 9, 10, 11, 12, 13, 14, 15, 27, 28, 29, 30, 31, 32, 33, 34, 35, 36, 37, 38, 39, 40, 41, 42, 43, 44, 45, 46, 47, 48, 49, 50, 51, 52, 53, 54, 55, 56, 57, 58, 59, 60, 61, 62, 63, 64, 65, 66, 67, 68, 69, 70, 71, 72, 73, 19, 74, 2, 75, 76, 77, 78, 79, 80, 81, 82, 83, 84, 85, 86, 87, 88, 89, 90, 91, 92, 93, 94, 95, 96, 97, 98, 99, 100, 101, 102, 103, 104, 105] rfl (by decide +kernel)) (goodIn_few (big := wsX6_sendTrace) (fun _ h9 => List.mem_cons_of_mem _ (List.mem_append_left _ (List.mem_append_left _ (List.mem_append_left _ (List.mem_append_right _ h9))))) gb_6)) (goodIn_few (big := wsX6_sendTrace) (fun _ h9 => List.mem_cons_of_mem _ (List.mem_append_right _ h9)) gb_5)) (goodIn_few (big := wsX6_sendTrace) (fun _ h9 => List.mem_cons_of_mem _ (List.mem_append_left _ (List.mem_append_right _ h9))) gb_1)) (goodIn_few (big := wsX6_sendTrace) (fun _ h9 => List.mem_cons_of_mem _ (List.mem_append_left _ (List.mem_append_left _ (List.mem_append_right _ h9)))) gb_2)
  exact h
set_option maxRecDepth 20000 in
theorem gX6_sendTrace_X6_sendOne : GoodIn wsX6_sendTrace (wsV RX6 110 RX6 yX6_sendOne wsX6_sendOne) := goodIn_app (goodIn_r _ [16, 17, 18, 19] rfl (by decide +kernel)) ggX6_sendTrace_X6_sendOne
set_option maxRecDepth 20000 in
theorem ggX6_sendTrace_X2_routerOf : GoodIn wsX6_sendTrace wsX2_routerOf := by
  have h := goodIn_app (goodIn_r (big := wsX6_sendTrace) (.code yX2_routerOf cX2_routerOf 2 (some .int) :: ([.fieldLink RX2 37 "PathProber$Net" "links" "I", .fieldLink RX2 27 "PathProber$Net" "to" "[I"]) : List Cond) [109, 110, 111] rfl (by decide +kernel)) (goodIn_few (big := wsX6_sendTrace) (fun _ h9 => List.mem_cons_of_mem _ (List.mem_append_left _ (List.mem_append_left _ (List.mem_append_right _ h9)))) gb_2)
  exact h
set_option maxRecDepth 20000 in
theorem gX6_sendTrace_X2_routerOf : GoodIn wsX6_sendTrace (wsV RX6 100 RX2 yX2_routerOf wsX2_routerOf) := goodIn_app (goodIn_r _ [106, 107, 108, 60] rfl (by decide +kernel)) ggX6_sendTrace_X2_routerOf
set_option maxRecDepth 20000 in
theorem ggX6_sendTrace_X0_shutWindow : GoodIn wsX6_sendTrace wsX0_shutWindow := by
  have h := goodIn_app (goodIn_r (big := wsX6_sendTrace) (.code yX0_shutWindow cX0_shutWindow 1 none :: ([.fieldLink RX0 32 "PathProber$Condition" "open" "I"]) : List Cond) [105, 10] rfl (by decide +kernel)) (goodIn_few (big := wsX6_sendTrace) (fun _ h9 => List.mem_cons_of_mem _ (List.mem_append_left _ (List.mem_append_right _ h9))) gb_1)
  exact h
set_option maxRecDepth 20000 in
theorem gX6_sendTrace_X0_shutWindow : GoodIn wsX6_sendTrace (wsV RX6 76 RX0 yX0_shutWindow wsX0_shutWindow) := goodIn_app (goodIn_r _ [102, 103, 104, 7] rfl (by decide +kernel)) ggX6_sendTrace_X0_shutWindow
theorem eX6_sendTrace_0q : (decode cX6_sendTrace 0 = .ok (.aload_n 0, 1)) ∧ (decode cX6_sendTrace 1 = .ok (.getfield 19, 3)) ∧ (decode cX6_sendTrace 4 = .ok (.invokevirtual 31, 3)) ∧ (decode cX6_sendTrace 7 = .ok (.iconst 0, 1)) ∧ (decode cX6_sendTrace 8 = .ok (.istore_n 3, 1)) ∧ (decode cX6_sendTrace 9 = .ok (.iconst 0, 1)) ∧ (decode cX6_sendTrace 10 = .ok (.istore 4, 2)) ∧ (decode cX6_sendTrace 12 = .ok (.iload_n 3, 1)) := by decide +kernel
theorem dX6_sendTrace_0 : decode cX6_sendTrace 0 = .ok (.aload_n 0, 1) := eX6_sendTrace_0q.1
theorem dX6_sendTrace_1 : decode cX6_sendTrace 1 = .ok (.getfield 19, 3) := eX6_sendTrace_0q.2.1
theorem dX6_sendTrace_4 : decode cX6_sendTrace 4 = .ok (.invokevirtual 31, 3) := eX6_sendTrace_0q.2.2.1
theorem dX6_sendTrace_7 : decode cX6_sendTrace 7 = .ok (.iconst 0, 1) := eX6_sendTrace_0q.2.2.2.1
theorem dX6_sendTrace_8 : decode cX6_sendTrace 8 = .ok (.istore_n 3, 1) := eX6_sendTrace_0q.2.2.2.2.1
theorem dX6_sendTrace_9 : decode cX6_sendTrace 9 = .ok (.iconst 0, 1) := eX6_sendTrace_0q.2.2.2.2.2.1
theorem dX6_sendTrace_10 : decode cX6_sendTrace 10 = .ok (.istore 4, 2) := eX6_sendTrace_0q.2.2.2.2.2.2.1
theorem dX6_sendTrace_12 : decode cX6_sendTrace 12 = .ok (.iload_n 3, 1) := eX6_sendTrace_0q.2.2.2.2.2.2.2
theorem eX6_sendTrace_13q : (decode cX6_sendTrace 13 = .ok (.bipush 10, 2)) ∧ (decode cX6_sendTrace 15 = .ok (.if_icmp .ge 57, 3)) ∧ (decode cX6_sendTrace 18 = .ok (.iload 4, 2)) ∧ (decode cX6_sendTrace 20 = .ok (.ifCond .ne 52, 3)) ∧ (decode cX6_sendTrace 23 = .ok (.iinc 3 1, 3)) ∧ (decode cX6_sendTrace 26 = .ok (.aload_n 0, 1)) ∧ (decode cX6_sendTrace 27 = .ok (.iload_n 1, 1)) ∧ (decode cX6_sendTrace 28 = .ok (.iload_n 2, 1)) := by decide +kernel
theorem dX6_sendTrace_13 : decode cX6_sendTrace 13 = .ok (.bipush 10, 2) := eX6_sendTrace_13q.1
theorem dX6_sendTrace_15 : decode cX6_sendTrace 15 = .ok (.if_icmp .ge 57, 3) := eX6_sendTrace_13q.2.1
theorem dX6_sendTrace_18 : decode cX6_sendTrace 18 = .ok (.iload 4, 2) := eX6_sendTrace_13q.2.2.1
theorem dX6_sendTrace_20 : decode cX6_sendTrace 20 = .ok (.ifCond .ne 52, 3) := eX6_sendTrace_13q.2.2.2.1
theorem dX6_sendTrace_23 : decode cX6_sendTrace 23 = .ok (.iinc 3 1, 3) := eX6_sendTrace_13q.2.2.2.2.1
theorem dX6_sendTrace_26 : decode cX6_sendTrace 26 = .ok (.aload_n 0, 1) := eX6_sendTrace_13q.2.2.2.2.2.1
theorem dX6_sendTrace_27 : decode cX6_sendTrace 27 = .ok (.iload_n 1, 1) := eX6_sendTrace_13q.2.2.2.2.2.2.1
theorem dX6_sendTrace_28 : decode cX6_sendTrace 28 = .ok (.iload_n 2, 1) := eX6_sendTrace_13q.2.2.2.2.2.2.2
theorem eX6_sendTrace_29q : (decode cX6_sendTrace 29 = .ok (.iload_n 3, 1)) ∧ (decode cX6_sendTrace 30 = .ok (.invokevirtual 110, 3)) ∧ (decode cX6_sendTrace 33 = .ok (.istore 5, 2)) ∧ (decode cX6_sendTrace 35 = .ok (.iload 5, 2)) ∧ (decode cX6_sendTrace 37 = .ok (.iconst (-1), 1)) ∧ (decode cX6_sendTrace 38 = .ok (.if_icmp .eq 28, 3)) ∧ (decode cX6_sendTrace 41 = .ok (.aload_n 0, 1)) ∧ (decode cX6_sendTrace 42 = .ok (.getfield 15, 3)) := by decide +kernel
theorem dX6_sendTrace_29 : decode cX6_sendTrace 29 = .ok (.iload_n 3, 1) := eX6_sendTrace_29q.1
theorem dX6_sendTrace_30 : decode cX6_sendTrace 30 = .ok (.invokevirtual 110, 3) := eX6_sendTrace_29q.2.1
theorem dX6_sendTrace_33 : decode cX6_sendTrace 33 = .ok (.istore 5, 2) := eX6_sendTrace_29q.2.2.1
theorem dX6_sendTrace_35 : decode cX6_sendTrace 35 = .ok (.iload 5, 2) := eX6_sendTrace_29q.2.2.2.1
theorem dX6_sendTrace_37 : decode cX6_sendTrace 37 = .ok (.iconst (-1), 1) := eX6_sendTrace_29q.2.2.2.2.1
theorem dX6_sendTrace_38 : decode cX6_sendTrace 38 = .ok (.if_icmp .eq 28, 3) := eX6_sendTrace_29q.2.2.2.2.2.1
theorem dX6_sendTrace_41 : decode cX6_sendTrace 41 = .ok (.aload_n 0, 1) := eX6_sendTrace_29q.2.2.2.2.2.2.1
theorem dX6_sendTrace_42 : decode cX6_sendTrace 42 = .ok (.getfield 15, 3) := eX6_sendTrace_29q.2.2.2.2.2.2.2
theorem eX6_sendTrace_45q : (decode cX6_sendTrace 45 = .ok (.iload 5, 2)) ∧ (decode cX6_sendTrace 47 = .ok (.invokevirtual 100, 3)) ∧ (decode cX6_sendTrace 50 = .ok (.aload_n 0, 1)) ∧ (decode cX6_sendTrace 51 = .ok (.getfield 15, 3)) ∧ (decode cX6_sendTrace 54 = .ok (.getfield 138, 3)) ∧ (decode cX6_sendTrace 57 = .ok (.iload_n 2, 1)) ∧ (decode cX6_sendTrace 58 = .ok (.iaload, 1)) ∧ (decode cX6_sendTrace 59 = .ok (.if_icmp .ne 7, 3)) := by decide +kernel
theorem dX6_sendTrace_45 : decode cX6_sendTrace 45 = .ok (.iload 5, 2) := eX6_sendTrace_45q.1
theorem dX6_sendTrace_47 : decode cX6_sendTrace 47 = .ok (.invokevirtual 100, 3) := eX6_sendTrace_45q.2.1
theorem dX6_sendTrace_50 : decode cX6_sendTrace 50 = .ok (.aload_n 0, 1) := eX6_sendTrace_45q.2.2.1
theorem dX6_sendTrace_51 : decode cX6_sendTrace 51 = .ok (.getfield 15, 3) := eX6_sendTrace_45q.2.2.2.1
theorem dX6_sendTrace_54 : decode cX6_sendTrace 54 = .ok (.getfield 138, 3) := eX6_sendTrace_45q.2.2.2.2.1
theorem dX6_sendTrace_57 : decode cX6_sendTrace 57 = .ok (.iload_n 2, 1) := eX6_sendTrace_45q.2.2.2.2.2.1
theorem dX6_sendTrace_58 : decode cX6_sendTrace 58 = .ok (.iaload, 1) := eX6_sendTrace_45q.2.2.2.2.2.2.1
theorem dX6_sendTrace_59 : decode cX6_sendTrace 59 = .ok (.if_icmp .ne 7, 3) := eX6_sendTrace_45q.2.2.2.2.2.2.2
theorem eX6_sendTrace_62q : (decode cX6_sendTrace 62 = .ok (.iconst 1, 1)) ∧ (decode cX6_sendTrace 63 = .ok (.goto 4, 3)) ∧ (decode cX6_sendTrace 66 = .ok (.iconst 0, 1)) ∧ (decode cX6_sendTrace 67 = .ok (.istore 4, 2)) ∧ (decode cX6_sendTrace 69 = .ok (.goto (-57), 3)) ∧ (decode cX6_sendTrace 72 = .ok (.aload_n 0, 1)) ∧ (decode cX6_sendTrace 73 = .ok (.getfield 19, 3)) ∧ (decode cX6_sendTrace 76 = .ok (.invokevirtual 76, 3)) := by decide +kernel
theorem dX6_sendTrace_62 : decode cX6_sendTrace 62 = .ok (.iconst 1, 1) := eX6_sendTrace_62q.1
theorem dX6_sendTrace_63 : decode cX6_sendTrace 63 = .ok (.goto 4, 3) := eX6_sendTrace_62q.2.1
theorem dX6_sendTrace_66 : decode cX6_sendTrace 66 = .ok (.iconst 0, 1) := eX6_sendTrace_62q.2.2.1
theorem dX6_sendTrace_67 : decode cX6_sendTrace 67 = .ok (.istore 4, 2) := eX6_sendTrace_62q.2.2.2.1
theorem dX6_sendTrace_69 : decode cX6_sendTrace 69 = .ok (.goto (-57), 3) := eX6_sendTrace_62q.2.2.2.2.1
theorem dX6_sendTrace_72 : decode cX6_sendTrace 72 = .ok (.aload_n 0, 1) := eX6_sendTrace_62q.2.2.2.2.2.1
theorem dX6_sendTrace_73 : decode cX6_sendTrace 73 = .ok (.getfield 19, 3) := eX6_sendTrace_62q.2.2.2.2.2.2.1
theorem dX6_sendTrace_76 : decode cX6_sendTrace 76 = .ok (.invokevirtual 76, 3) := eX6_sendTrace_62q.2.2.2.2.2.2.2
theorem dX6_sendTrace_79 : decode cX6_sendTrace 79 = .ok (.iload_n 3, 1) := by decide +kernel
theorem dX6_sendTrace_80 : decode cX6_sendTrace 80 = .ok (.ireturn, 1) := by decide +kernel
set_option maxRecDepth 20000 in
theorem ggX6_passYear_X6_draw : GoodIn wsX6_passYear wsX6_draw := by
  have h := goodIn_app (goodIn_r (big := wsX6_passYear) (.code yX6_draw cX6_draw 2 (some .int) :: ([.fieldLink RX6 9 "PathProber$Sender" "seed" "I", .constant RX6 153 (1103515245)]) : List Cond) [7, 8, 9] rfl (by decide +kernel)) (goodIn_few (big := wsX6_passYear) (fun _ h9 => List.mem_cons_of_mem _ (List.mem_append_left _ (List.mem_append_left _ (List.mem_append_left _ (List.mem_append_left _ (List.mem_append_right _ h9)))))) gb_6)
  exact h
set_option maxRecDepth 20000 in
theorem gX6_passYear_X6_draw : GoodIn wsX6_passYear (wsV RX6 141 RX6 yX6_draw wsX6_draw) := goodIn_app (goodIn_r _ [3, 4, 5, 6] rfl (by decide +kernel)) ggX6_passYear_X6_draw
set_option maxRecDepth 20000 in
theorem ggX6_passYear_X6_sendSweep : GoodIn wsX6_passYear wsX6_sendSweep := by
  have h := goodIn_app (goodIn_app (goodIn_app (goodIn_app (goodIn_app (goodIn_r (big := wsX6_passYear) (.code yX6_sendSweep cX6_sendSweep 4 (some .int) :: (wsX6_sendSweep_r1 ++ (wsX6_sendSweep_r2 ++ (wsX6_sendSweep_r3 ++ (wsX6_sendSweep_r4 ++ (wsX6_sendSweep_r5 ++ (wsX6_sendSweep_r6 ++ wsX6_sendSweep_r7)))))) : List Cond) [13, 14, 15, 16, 17, 18, 19, 20, 21, 22, 23, 24, 25, 26, 27, 28, 29, 6, 30, 31, 32, 33, 34, 35, 36, 37, 38, 39, 40, 41, 42, 43, 44, 45, 46, 47, 48, 49, 50, 51, 52, 53, 54, 55, 56, 57, 58, 59, 60, 61, 62, 63, 64, 65, 66, 67, 68, 69, 70, 71, 72, 73, 74, 75, 76, 77, 78, 79, 80, 81, 82, 83, 84, 85, 86, 87, 88, 89, 90, 91, 92, 93, 94, 95, 96, 97, 98, 99, 100, 101, 102, 103, 104, 105, 106, 107, 108, 109, 110, 111, 112, 113, 114, 115, 116, 117, 118, 119, 120, 121, 122, 123, 124, 125, 126, 127, 128, 129, 1, 130, 131, 132, 133, 134, 135, 136, 137, 138, 139, 140, 141, 142, 143, 144, 145, 146, 147, 148, 149, 150, 151, 152, 153, 154, 155, 156, 157, 158] rfl (by decide +kernel)) (goodIn_few (big := wsX6_passYear) (fun _ h9 => List.mem_cons_of_mem _ (List.mem_append_left _ (List.mem_append_left _ (List.mem_append_left _ (List.mem_append_left _ (List.mem_append_right _ h9)))))) gb_6)) (goodIn_few (big := wsX6_passYear) (fun _ h9 => List.mem_cons_of_mem _ (List.mem_append_left _ (List.mem_append_left _ (List.mem_append_right _ h9)))) gb_1)) (goodIn_few (big := wsX6_passYear) (fun _ h9 => List.mem_cons_of_mem _ (List.mem_append_left _ (List.mem_append_right _ h9))) gb_3)) (goodIn_few (big := wsX6_passYear) (fun _ h9 => List.mem_cons_of_mem _ (List.mem_append_right _ h9)) gb_5)) (goodIn_few (big := wsX6_passYear) (fun _ h9 => List.mem_cons_of_mem _ (List.mem_append_left _ (List.mem_append_left _ (List.mem_append_left _ (List.mem_append_right _ h9))))) gb_2)
  exact h
set_option maxRecDepth 20000 in
theorem gX6_passYear_X6_sendSweep : GoodIn wsX6_passYear (wsV RX6 147 RX6 yX6_sendSweep wsX6_sendSweep) := goodIn_app (goodIn_r _ [10, 11, 12, 6] rfl (by decide +kernel)) ggX6_passYear_X6_sendSweep
set_option maxRecDepth 20000 in
theorem ggX6_passYear_X6_sendTrace : GoodIn wsX6_passYear wsX6_sendTrace := by
  have h := goodIn_app (goodIn_app (goodIn_app (goodIn_app (goodIn_r (big := wsX6_passYear) (.code yX6_sendTrace cX6_sendTrace 6 (some .int) :: (wsX6_sendTrace_r1 ++ (wsX6_sendTrace_r2 ++ (wsX6_sendTrace_r3 ++ (wsX6_sendTrace_r4 ++ wsX6_sendTrace_r5)))) : List Cond) [162, 14, 1, 163, 15, 16, 17, 18, 19, 20, 21, 22, 23, 24, 25, 26, 72, 73, 74, 6, 75, 76, 77, 78, 79, 80, 81, 82, 83, 84, 85, 86, 87, 88, 89, 90, 91, 92, 93, 94, 95, 96, 97, 98, 99, 100, 101, 102, 103, 104, 105, 106, 107, 108, 109, 110, 111, 112, 113, 114, 115, 116, 117, 118, 119, 120, 121, 122, 123, 124, 125, 126, 127, 128, 129, 130, 131, 132, 133, 134, 135, 136, 137, 138, 139, 140, 141, 142, 143, 144, 145, 146, 147, 148, 149, 150, 151, 152, 153, 41, 42, 154, 155, 156, 157, 158, 164, 165, 166, 167, 168, 169] rfl (by decide +kernel)) (goodIn_few (big := wsX6_passYear) (fun _ h9 => List.mem_cons_of_mem _ (List.mem_append_left _ (List.mem_append_left _ (List.mem_append_left _ (List.mem_append_left _ (List.mem_append_right _ h9)))))) gb_6)) (goodIn_few (big := wsX6_passYear) (fun _ h9 => List.mem_cons_of_mem _ (List.mem_append_left _ (List.mem_append_left _ (List.mem_append_left _ (List.mem_append_right _ h9))))) gb_2)) (goodIn_few (big := wsX6_passYear) (fun _ h9 => List.mem_cons_of_mem _ (List.mem_append_left _ (List.mem_append_left _ (List.mem_append_right _ h9)))) gb_1)) (goodIn_few (big := wsX6_passYear) (fun _ h9 => List.mem_cons_of_mem _ (List.mem_append_right _ h9)) gb_5)
  exact h
set_option maxRecDepth 20000 in
theorem gX6_passYear_X6_sendTrace : GoodIn wsX6_passYear (wsV RX6 150 RX6 yX6_sendTrace wsX6_sendTrace) := goodIn_app (goodIn_r _ [159, 160, 161, 6] rfl (by decide +kernel)) ggX6_passYear_X6_sendTrace
set_option maxRecDepth 20000 in
theorem ggX6_passYear_X6_sendOne : GoodIn wsX6_passYear wsX6_sendOne := by
  have h := goodIn_app (goodIn_app (goodIn_app (goodIn_app (goodIn_r (big := wsX6_passYear) (.code yX6_sendOne cX6_sendOne 5 (some .int) :: (wsX6_sendOne_r1 ++ (wsX6_sendOne_r2 ++ (wsX6_sendOne_r3 ++ (wsX6_sendOne_r4 ++ wsX6_sendOne_r5)))) : List Cond) [75, 14, 76, 77, 78, 79, 80, 81, 15, 16, 17, 18, 19, 20, 21, 22, 23, 24, 25, 26, 82, 83, 84, 85, 86, 87, 88, 89, 90, 91, 92, 93, 94, 95, 96, 97, 98, 99, 100, 101, 102, 103, 104, 105, 106, 107, 108, 109, 110, 111, 112, 113, 114, 115, 116, 117, 118, 119, 120, 121, 122, 123, 124, 125, 126, 127, 128, 6, 129, 1, 130, 131, 132, 133, 134, 135, 136, 137, 138, 139, 140, 141, 142, 143, 144, 145, 146, 147, 148, 149, 150, 151, 152, 153, 41, 42, 154, 155, 156, 157, 158] rfl (by decide +kernel)) (goodIn_few (big := wsX6_passYear) (fun _ h9 => List.mem_cons_of_mem _ (List.mem_append_left _ (List.mem_append_left _ (List.mem_append_left _ (List.mem_append_left _ (List.mem_append_right _ h9)))))) gb_6)) (goodIn_few (big := wsX6_passYear) (fun _ h9 => List.mem_cons_of_mem _ (List.mem_append_right _ h9)) gb_5)) (goodIn_few (big := wsX6_passYear) (fun _ h9 => List.mem_cons_of_mem _ (List.mem_append_left _ (List.mem_append_left _ (List.mem_append_right _ h9)))) gb_1)) (goodIn_few (big := wsX6_passYear) (fun _ h9 => List.mem_cons_of_mem _ (List.mem_append_left _ (List.mem_append_left _ (List.mem_append_left _ (List.mem_append_right _ h9))))) gb_2)
  exact h
set_option maxRecDepth 20000 in
theorem gX6_passYear_X6_sendOne : GoodIn wsX6_passYear (wsV RX6 110 RX6 yX6_sendOne wsX6_sendOne) := goodIn_app (goodIn_r _ [72, 73, 74, 6] rfl (by decide +kernel)) ggX6_passYear_X6_sendOne
theorem eX6_passYear_0q : (decode cX6_passYear 0 = .ok (.aload_n 0, 1)) ∧ (decode cX6_passYear 1 = .ok (.iconst 4, 1)) ∧ (decode cX6_passYear 2 = .ok (.invokevirtual 141, 3)) ∧ (decode cX6_passYear 5 = .ok (.istore_n 1, 1)) ∧ (decode cX6_passYear 6 = .ok (.aload_n 0, 1)) ∧ (decode cX6_passYear 7 = .ok (.getfield 15, 3)) ∧ (decode cX6_passYear 10 = .ok (.getfield 144, 3)) ∧ (decode cX6_passYear 13 = .ok (.ifCond .gt 5, 3)) := by decide +kernel
theorem dX6_passYear_0 : decode cX6_passYear 0 = .ok (.aload_n 0, 1) := eX6_passYear_0q.1
theorem dX6_passYear_1 : decode cX6_passYear 1 = .ok (.iconst 4, 1) := eX6_passYear_0q.2.1
theorem dX6_passYear_2 : decode cX6_passYear 2 = .ok (.invokevirtual 141, 3) := eX6_passYear_0q.2.2.1
theorem dX6_passYear_5 : decode cX6_passYear 5 = .ok (.istore_n 1, 1) := eX6_passYear_0q.2.2.2.1
theorem dX6_passYear_6 : decode cX6_passYear 6 = .ok (.aload_n 0, 1) := eX6_passYear_0q.2.2.2.2.1
theorem dX6_passYear_7 : decode cX6_passYear 7 = .ok (.getfield 15, 3) := eX6_passYear_0q.2.2.2.2.2.1
theorem dX6_passYear_10 : decode cX6_passYear 10 = .ok (.getfield 144, 3) := eX6_passYear_0q.2.2.2.2.2.2.1
theorem dX6_passYear_13 : decode cX6_passYear 13 = .ok (.ifCond .gt 5, 3) := eX6_passYear_0q.2.2.2.2.2.2.2
theorem eX6_passYear_16q : (decode cX6_passYear 16 = .ok (.iconst 0, 1)) ∧ (decode cX6_passYear 17 = .ok (.ireturn, 1)) ∧ (decode cX6_passYear 18 = .ok (.iload_n 1, 1)) ∧ (decode cX6_passYear 19 = .ok (.iconst 2, 1)) ∧ (decode cX6_passYear 20 = .ok (.if_icmp .ne 29, 3)) ∧ (decode cX6_passYear 23 = .ok (.aload_n 0, 1)) ∧ (decode cX6_passYear 24 = .ok (.aload_n 0, 1)) ∧ (decode cX6_passYear 25 = .ok (.getfield 15, 3)) := by decide +kernel
theorem dX6_passYear_16 : decode cX6_passYear 16 = .ok (.iconst 0, 1) := eX6_passYear_16q.1
theorem dX6_passYear_17 : decode cX6_passYear 17 = .ok (.ireturn, 1) := eX6_passYear_16q.2.1
theorem dX6_passYear_18 : decode cX6_passYear 18 = .ok (.iload_n 1, 1) := eX6_passYear_16q.2.2.1
theorem dX6_passYear_19 : decode cX6_passYear 19 = .ok (.iconst 2, 1) := eX6_passYear_16q.2.2.2.1
theorem dX6_passYear_20 : decode cX6_passYear 20 = .ok (.if_icmp .ne 29, 3) := eX6_passYear_16q.2.2.2.2.1
theorem dX6_passYear_23 : decode cX6_passYear 23 = .ok (.aload_n 0, 1) := eX6_passYear_16q.2.2.2.2.2.1
theorem dX6_passYear_24 : decode cX6_passYear 24 = .ok (.aload_n 0, 1) := eX6_passYear_16q.2.2.2.2.2.2.1
theorem dX6_passYear_25 : decode cX6_passYear 25 = .ok (.getfield 15, 3) := eX6_passYear_16q.2.2.2.2.2.2.2
theorem eX6_passYear_28q : (decode cX6_passYear 28 = .ok (.getfield 144, 3)) ∧ (decode cX6_passYear 31 = .ok (.invokevirtual 141, 3)) ∧ (decode cX6_passYear 34 = .ok (.istore_n 2, 1)) ∧ (decode cX6_passYear 35 = .ok (.aload_n 0, 1)) ∧ (decode cX6_passYear 36 = .ok (.iload_n 2, 1)) ∧ (decode cX6_passYear 37 = .ok (.aload_n 0, 1)) ∧ (decode cX6_passYear 38 = .ok (.bipush 10, 2)) ∧ (decode cX6_passYear 40 = .ok (.invokevirtual 141, 3)) := by decide +kernel
theorem dX6_passYear_28 : decode cX6_passYear 28 = .ok (.getfield 144, 3) := eX6_passYear_28q.1
theorem dX6_passYear_31 : decode cX6_passYear 31 = .ok (.invokevirtual 141, 3) := eX6_passYear_28q.2.1
theorem dX6_passYear_34 : decode cX6_passYear 34 = .ok (.istore_n 2, 1) := eX6_passYear_28q.2.2.1
theorem dX6_passYear_35 : decode cX6_passYear 35 = .ok (.aload_n 0, 1) := eX6_passYear_28q.2.2.2.1
theorem dX6_passYear_36 : decode cX6_passYear 36 = .ok (.iload_n 2, 1) := eX6_passYear_28q.2.2.2.2.1
theorem dX6_passYear_37 : decode cX6_passYear 37 = .ok (.aload_n 0, 1) := eX6_passYear_28q.2.2.2.2.2.1
theorem dX6_passYear_38 : decode cX6_passYear 38 = .ok (.bipush 10, 2) := eX6_passYear_28q.2.2.2.2.2.2.1
theorem dX6_passYear_40 : decode cX6_passYear 40 = .ok (.invokevirtual 141, 3) := eX6_passYear_28q.2.2.2.2.2.2.2
theorem eX6_passYear_43q : (decode cX6_passYear 43 = .ok (.iconst 1, 1)) ∧ (decode cX6_passYear 44 = .ok (.iadd, 1)) ∧ (decode cX6_passYear 45 = .ok (.invokevirtual 147, 3)) ∧ (decode cX6_passYear 48 = .ok (.ireturn, 1)) ∧ (decode cX6_passYear 49 = .ok (.aload_n 0, 1)) ∧ (decode cX6_passYear 50 = .ok (.bipush 32, 2)) ∧ (decode cX6_passYear 52 = .ok (.invokevirtual 141, 3)) ∧ (decode cX6_passYear 55 = .ok (.istore_n 2, 1)) := by decide +kernel
theorem dX6_passYear_43 : decode cX6_passYear 43 = .ok (.iconst 1, 1) := eX6_passYear_43q.1
theorem dX6_passYear_44 : decode cX6_passYear 44 = .ok (.iadd, 1) := eX6_passYear_43q.2.1
theorem dX6_passYear_45 : decode cX6_passYear 45 = .ok (.invokevirtual 147, 3) := eX6_passYear_43q.2.2.1
theorem dX6_passYear_48 : decode cX6_passYear 48 = .ok (.ireturn, 1) := eX6_passYear_43q.2.2.2.1
theorem dX6_passYear_49 : decode cX6_passYear 49 = .ok (.aload_n 0, 1) := eX6_passYear_43q.2.2.2.2.1
theorem dX6_passYear_50 : decode cX6_passYear 50 = .ok (.bipush 32, 2) := eX6_passYear_43q.2.2.2.2.2.1
theorem dX6_passYear_52 : decode cX6_passYear 52 = .ok (.invokevirtual 141, 3) := eX6_passYear_43q.2.2.2.2.2.2.1
theorem dX6_passYear_55 : decode cX6_passYear 55 = .ok (.istore_n 2, 1) := eX6_passYear_43q.2.2.2.2.2.2.2
theorem eX6_passYear_56q : (decode cX6_passYear 56 = .ok (.aload_n 0, 1)) ∧ (decode cX6_passYear 57 = .ok (.aload_n 0, 1)) ∧ (decode cX6_passYear 58 = .ok (.getfield 15, 3)) ∧ (decode cX6_passYear 61 = .ok (.getfield 144, 3)) ∧ (decode cX6_passYear 64 = .ok (.invokevirtual 141, 3)) ∧ (decode cX6_passYear 67 = .ok (.istore_n 3, 1)) ∧ (decode cX6_passYear 68 = .ok (.iload_n 1, 1)) ∧ (decode cX6_passYear 69 = .ok (.iconst 3, 1)) := by decide +kernel
theorem dX6_passYear_56 : decode cX6_passYear 56 = .ok (.aload_n 0, 1) := eX6_passYear_56q.1
theorem dX6_passYear_57 : decode cX6_passYear 57 = .ok (.aload_n 0, 1) := eX6_passYear_56q.2.1
theorem dX6_passYear_58 : decode cX6_passYear 58 = .ok (.getfield 15, 3) := eX6_passYear_56q.2.2.1
theorem dX6_passYear_61 : decode cX6_passYear 61 = .ok (.getfield 144, 3) := eX6_passYear_56q.2.2.2.1
theorem dX6_passYear_64 : decode cX6_passYear 64 = .ok (.invokevirtual 141, 3) := eX6_passYear_56q.2.2.2.2.1
theorem dX6_passYear_67 : decode cX6_passYear 67 = .ok (.istore_n 3, 1) := eX6_passYear_56q.2.2.2.2.2.1
theorem dX6_passYear_68 : decode cX6_passYear 68 = .ok (.iload_n 1, 1) := eX6_passYear_56q.2.2.2.2.2.2.1
theorem dX6_passYear_69 : decode cX6_passYear 69 = .ok (.iconst 3, 1) := eX6_passYear_56q.2.2.2.2.2.2.2
theorem eX6_passYear_70q : (decode cX6_passYear 70 = .ok (.if_icmp .ne 10, 3)) ∧ (decode cX6_passYear 73 = .ok (.aload_n 0, 1)) ∧ (decode cX6_passYear 74 = .ok (.iload_n 2, 1)) ∧ (decode cX6_passYear 75 = .ok (.iload_n 3, 1)) ∧ (decode cX6_passYear 76 = .ok (.invokevirtual 150, 3)) ∧ (decode cX6_passYear 79 = .ok (.ireturn, 1)) ∧ (decode cX6_passYear 80 = .ok (.aload_n 0, 1)) ∧ (decode cX6_passYear 81 = .ok (.iload_n 2, 1)) := by decide +kernel
theorem dX6_passYear_70 : decode cX6_passYear 70 = .ok (.if_icmp .ne 10, 3) := eX6_passYear_70q.1
theorem dX6_passYear_73 : decode cX6_passYear 73 = .ok (.aload_n 0, 1) := eX6_passYear_70q.2.1
theorem dX6_passYear_74 : decode cX6_passYear 74 = .ok (.iload_n 2, 1) := eX6_passYear_70q.2.2.1
theorem dX6_passYear_75 : decode cX6_passYear 75 = .ok (.iload_n 3, 1) := eX6_passYear_70q.2.2.2.1
theorem dX6_passYear_76 : decode cX6_passYear 76 = .ok (.invokevirtual 150, 3) := eX6_passYear_70q.2.2.2.2.1
theorem dX6_passYear_79 : decode cX6_passYear 79 = .ok (.ireturn, 1) := eX6_passYear_70q.2.2.2.2.2.1
theorem dX6_passYear_80 : decode cX6_passYear 80 = .ok (.aload_n 0, 1) := eX6_passYear_70q.2.2.2.2.2.2.1
theorem dX6_passYear_81 : decode cX6_passYear 81 = .ok (.iload_n 2, 1) := eX6_passYear_70q.2.2.2.2.2.2.2
theorem eX6_passYear_82q : (decode cX6_passYear 82 = .ok (.iload_n 3, 1)) ∧ (decode cX6_passYear 83 = .ok (.aload_n 0, 1)) ∧ (decode cX6_passYear 84 = .ok (.bipush 10, 2)) ∧ (decode cX6_passYear 86 = .ok (.invokevirtual 141, 3)) ∧ (decode cX6_passYear 89 = .ok (.iconst 1, 1)) ∧ (decode cX6_passYear 90 = .ok (.iadd, 1)) ∧ (decode cX6_passYear 91 = .ok (.invokevirtual 110, 3)) ∧ (decode cX6_passYear 94 = .ok (.pop, 1)) := by decide +kernel
theorem dX6_passYear_82 : decode cX6_passYear 82 = .ok (.iload_n 3, 1) := eX6_passYear_82q.1
theorem dX6_passYear_83 : decode cX6_passYear 83 = .ok (.aload_n 0, 1) := eX6_passYear_82q.2.1
theorem dX6_passYear_84 : decode cX6_passYear 84 = .ok (.bipush 10, 2) := eX6_passYear_82q.2.2.1
theorem dX6_passYear_86 : decode cX6_passYear 86 = .ok (.invokevirtual 141, 3) := eX6_passYear_82q.2.2.2.1
theorem dX6_passYear_89 : decode cX6_passYear 89 = .ok (.iconst 1, 1) := eX6_passYear_82q.2.2.2.2.1
theorem dX6_passYear_90 : decode cX6_passYear 90 = .ok (.iadd, 1) := eX6_passYear_82q.2.2.2.2.2.1
theorem dX6_passYear_91 : decode cX6_passYear 91 = .ok (.invokevirtual 110, 3) := eX6_passYear_82q.2.2.2.2.2.2.1
theorem dX6_passYear_94 : decode cX6_passYear 94 = .ok (.pop, 1) := eX6_passYear_82q.2.2.2.2.2.2.2
theorem dX6_passYear_95 : decode cX6_passYear 95 = .ok (.iconst 1, 1) := by decide +kernel
theorem dX6_passYear_96 : decode cX6_passYear 96 = .ok (.ireturn, 1) := by decide +kernel
theorem eX6_draw_0q : (decode cX6_draw 0 = .ok (.aload_n 0, 1)) ∧ (decode cX6_draw 1 = .ok (.aload_n 0, 1)) ∧ (decode cX6_draw 2 = .ok (.getfield 9, 3)) ∧ (decode cX6_draw 5 = .ok (.ldc 153, 2)) ∧ (decode cX6_draw 7 = .ok (.imul, 1)) ∧ (decode cX6_draw 8 = .ok (.sipush 12345, 3)) ∧ (decode cX6_draw 11 = .ok (.iadd, 1)) ∧ (decode cX6_draw 12 = .ok (.putfield 9, 3)) := by decide +kernel
theorem dX6_draw_0 : decode cX6_draw 0 = .ok (.aload_n 0, 1) := eX6_draw_0q.1
theorem dX6_draw_1 : decode cX6_draw 1 = .ok (.aload_n 0, 1) := eX6_draw_0q.2.1
theorem dX6_draw_2 : decode cX6_draw 2 = .ok (.getfield 9, 3) := eX6_draw_0q.2.2.1
theorem dX6_draw_5 : decode cX6_draw 5 = .ok (.ldc 153, 2) := eX6_draw_0q.2.2.2.1
theorem dX6_draw_7 : decode cX6_draw 7 = .ok (.imul, 1) := eX6_draw_0q.2.2.2.2.1
theorem dX6_draw_8 : decode cX6_draw 8 = .ok (.sipush 12345, 3) := eX6_draw_0q.2.2.2.2.2.1
theorem dX6_draw_11 : decode cX6_draw 11 = .ok (.iadd, 1) := eX6_draw_0q.2.2.2.2.2.2.1
theorem dX6_draw_12 : decode cX6_draw 12 = .ok (.putfield 9, 3) := eX6_draw_0q.2.2.2.2.2.2.2
theorem eX6_draw_15q : (decode cX6_draw 15 = .ok (.iload_n 1, 1)) ∧ (decode cX6_draw 16 = .ok (.ifCond .gt 7, 3)) ∧ (decode cX6_draw 19 = .ok (.iconst 0, 1)) ∧ (decode cX6_draw 20 = .ok (.goto 16, 3)) ∧ (decode cX6_draw 23 = .ok (.aload_n 0, 1)) ∧ (decode cX6_draw 24 = .ok (.getfield 9, 3)) ∧ (decode cX6_draw 27 = .ok (.bipush 16, 2)) ∧ (decode cX6_draw 29 = .ok (.ishr, 1)) := by decide +kernel
theorem dX6_draw_15 : decode cX6_draw 15 = .ok (.iload_n 1, 1) := eX6_draw_15q.1
theorem dX6_draw_16 : decode cX6_draw 16 = .ok (.ifCond .gt 7, 3) := eX6_draw_15q.2.1
theorem dX6_draw_19 : decode cX6_draw 19 = .ok (.iconst 0, 1) := eX6_draw_15q.2.2.1
theorem dX6_draw_20 : decode cX6_draw 20 = .ok (.goto 16, 3) := eX6_draw_15q.2.2.2.1
theorem dX6_draw_23 : decode cX6_draw 23 = .ok (.aload_n 0, 1) := eX6_draw_15q.2.2.2.2.1
theorem dX6_draw_24 : decode cX6_draw 24 = .ok (.getfield 9, 3) := eX6_draw_15q.2.2.2.2.2.1
theorem dX6_draw_27 : decode cX6_draw 27 = .ok (.bipush 16, 2) := eX6_draw_15q.2.2.2.2.2.2.1
theorem dX6_draw_29 : decode cX6_draw 29 = .ok (.ishr, 1) := eX6_draw_15q.2.2.2.2.2.2.2
theorem eX6_draw_30q : (decode cX6_draw 30 = .ok (.sipush 32767, 3)) ∧ (decode cX6_draw 33 = .ok (.iand, 1)) ∧ (decode cX6_draw 34 = .ok (.iload_n 1, 1)) ∧ (decode cX6_draw 35 = .ok (.irem, 1)) ∧ (decode cX6_draw 36 = .ok (.ireturn, 1)) := by decide +kernel
theorem dX6_draw_30 : decode cX6_draw 30 = .ok (.sipush 32767, 3) := eX6_draw_30q.1
theorem dX6_draw_33 : decode cX6_draw 33 = .ok (.iand, 1) := eX6_draw_30q.2.1
theorem dX6_draw_34 : decode cX6_draw 34 = .ok (.iload_n 1, 1) := eX6_draw_30q.2.2.1
theorem dX6_draw_35 : decode cX6_draw 35 = .ok (.irem, 1) := eX6_draw_30q.2.2.2.1
theorem dX6_draw_36 : decode cX6_draw 36 = .ok (.ireturn, 1) := eX6_draw_30q.2.2.2.2
