theorem eX0_init_0q : (decode cX0_init 0 = .ok (.aload_n 0, 1)) ∧ (decode cX0_init 1 = .ok (.invokespecial 3, 3)) ∧ (decode cX0_init 4 = .ok (.aload_n 0, 1)) ∧ (decode cX0_init 5 = .ok (.bipush 96, 2)) ∧ (decode cX0_init 7 = .ok (.newarray .long, 2)) ∧ (decode cX0_init 9 = .ok (.putfield 9, 3)) ∧ (decode cX0_init 12 = .ok (.aload_n 0, 1)) ∧ (decode cX0_init 13 = .ok (.bipush 30, 2)) := by decide +kernel
theorem dX0_init_0 : decode cX0_init 0 = .ok (.aload_n 0, 1) := eX0_init_0q.1
theorem dX0_init_1 : decode cX0_init 1 = .ok (.invokespecial 3, 3) := eX0_init_0q.2.1
theorem dX0_init_4 : decode cX0_init 4 = .ok (.aload_n 0, 1) := eX0_init_0q.2.2.1
theorem dX0_init_5 : decode cX0_init 5 = .ok (.bipush 96, 2) := eX0_init_0q.2.2.2.1
theorem dX0_init_7 : decode cX0_init 7 = .ok (.newarray .long, 2) := eX0_init_0q.2.2.2.2.1
theorem dX0_init_9 : decode cX0_init 9 = .ok (.putfield 9, 3) := eX0_init_0q.2.2.2.2.2.1
theorem dX0_init_12 : decode cX0_init 12 = .ok (.aload_n 0, 1) := eX0_init_0q.2.2.2.2.2.2.1
theorem dX0_init_13 : decode cX0_init 13 = .ok (.bipush 30, 2) := eX0_init_0q.2.2.2.2.2.2.2
theorem eX0_init_15q : (decode cX0_init 15 = .ok (.newarray .int, 2)) ∧ (decode cX0_init 17 = .ok (.putfield 15, 3)) ∧ (decode cX0_init 20 = .ok (.aload_n 0, 1)) ∧ (decode cX0_init 21 = .ok (.bipush 12, 2)) ∧ (decode cX0_init 23 = .ok (.newarray .int, 2)) ∧ (decode cX0_init 25 = .ok (.putfield 19, 3)) ∧ (decode cX0_init 28 = .ok (.aload_n 0, 1)) ∧ (decode cX0_init 29 = .ok (.bipush 12, 2)) := by decide +kernel
theorem dX0_init_15 : decode cX0_init 15 = .ok (.newarray .int, 2) := eX0_init_15q.1
theorem dX0_init_17 : decode cX0_init 17 = .ok (.putfield 15, 3) := eX0_init_15q.2.1
theorem dX0_init_20 : decode cX0_init 20 = .ok (.aload_n 0, 1) := eX0_init_15q.2.2.1
theorem dX0_init_21 : decode cX0_init 21 = .ok (.bipush 12, 2) := eX0_init_15q.2.2.2.1
theorem dX0_init_23 : decode cX0_init 23 = .ok (.newarray .int, 2) := eX0_init_15q.2.2.2.2.1
theorem dX0_init_25 : decode cX0_init 25 = .ok (.putfield 19, 3) := eX0_init_15q.2.2.2.2.2.1
theorem dX0_init_28 : decode cX0_init 28 = .ok (.aload_n 0, 1) := eX0_init_15q.2.2.2.2.2.2.1
theorem dX0_init_29 : decode cX0_init 29 = .ok (.bipush 12, 2) := eX0_init_15q.2.2.2.2.2.2.2
theorem eX0_init_31q : (decode cX0_init 31 = .ok (.newarray .int, 2)) ∧ (decode cX0_init 33 = .ok (.putfield 22, 3)) ∧ (decode cX0_init 36 = .ok (.aload_n 0, 1)) ∧ (decode cX0_init 37 = .ok (.iconst 5, 1)) ∧ (decode cX0_init 38 = .ok (.putfield 25, 3)) ∧ (decode cX0_init 41 = .ok (.aload_n 0, 1)) ∧ (decode cX0_init 42 = .ok (.iconst 0, 1)) ∧ (decode cX0_init 43 = .ok (.putfield 29, 3)) := by decide +kernel
theorem dX0_init_31 : decode cX0_init 31 = .ok (.newarray .int, 2) := eX0_init_31q.1
theorem dX0_init_33 : decode cX0_init 33 = .ok (.putfield 22, 3) := eX0_init_31q.2.1
theorem dX0_init_36 : decode cX0_init 36 = .ok (.aload_n 0, 1) := eX0_init_31q.2.2.1
theorem dX0_init_37 : decode cX0_init 37 = .ok (.iconst 5, 1) := eX0_init_31q.2.2.2.1
theorem dX0_init_38 : decode cX0_init 38 = .ok (.putfield 25, 3) := eX0_init_31q.2.2.2.2.1
theorem dX0_init_41 : decode cX0_init 41 = .ok (.aload_n 0, 1) := eX0_init_31q.2.2.2.2.2.1
theorem dX0_init_42 : decode cX0_init 42 = .ok (.iconst 0, 1) := eX0_init_31q.2.2.2.2.2.2.1
theorem dX0_init_43 : decode cX0_init 43 = .ok (.putfield 29, 3) := eX0_init_31q.2.2.2.2.2.2.2
theorem eX0_init_46q : (decode cX0_init 46 = .ok (.aload_n 0, 1)) ∧ (decode cX0_init 47 = .ok (.iconst 0, 1)) ∧ (decode cX0_init 48 = .ok (.putfield 32, 3)) ∧ (decode cX0_init 51 = .ok (.aload_n 0, 1)) ∧ (decode cX0_init 52 = .ok (.iconst 0, 1)) ∧ (decode cX0_init 53 = .ok (.putfield 35, 3)) ∧ (decode cX0_init 56 = .ok (.aload_n 0, 1)) ∧ (decode cX0_init 57 = .ok (.iconst 0, 1)) := by decide +kernel
theorem dX0_init_46 : decode cX0_init 46 = .ok (.aload_n 0, 1) := eX0_init_46q.1
theorem dX0_init_47 : decode cX0_init 47 = .ok (.iconst 0, 1) := eX0_init_46q.2.1
theorem dX0_init_48 : decode cX0_init 48 = .ok (.putfield 32, 3) := eX0_init_46q.2.2.1
theorem dX0_init_51 : decode cX0_init 51 = .ok (.aload_n 0, 1) := eX0_init_46q.2.2.2.1
theorem dX0_init_52 : decode cX0_init 52 = .ok (.iconst 0, 1) := eX0_init_46q.2.2.2.2.1
theorem dX0_init_53 : decode cX0_init 53 = .ok (.putfield 35, 3) := eX0_init_46q.2.2.2.2.2.1
theorem dX0_init_56 : decode cX0_init 56 = .ok (.aload_n 0, 1) := eX0_init_46q.2.2.2.2.2.2.1
theorem dX0_init_57 : decode cX0_init 57 = .ok (.iconst 0, 1) := eX0_init_46q.2.2.2.2.2.2.2
theorem eX0_init_58q : (decode cX0_init 58 = .ok (.putfield 38, 3)) ∧ (decode cX0_init 61 = .ok (.aload_n 0, 1)) ∧ (decode cX0_init 62 = .ok (.iconst 0, 1)) ∧ (decode cX0_init 63 = .ok (.putfield 41, 3)) ∧ (decode cX0_init 66 = .ok (.return_, 1)) := by decide +kernel
theorem dX0_init_58 : decode cX0_init 58 = .ok (.putfield 38, 3) := eX0_init_58q.1
theorem dX0_init_61 : decode cX0_init 61 = .ok (.aload_n 0, 1) := eX0_init_58q.2.1
theorem dX0_init_62 : decode cX0_init 62 = .ok (.iconst 0, 1) := eX0_init_58q.2.2.1
theorem dX0_init_63 : decode cX0_init 63 = .ok (.putfield 41, 3) := eX0_init_58q.2.2.2.1
theorem dX0_init_66 : decode cX0_init 66 = .ok (.return_, 1) := eX0_init_58q.2.2.2.2
theorem eX1_init_0q : (decode cX1_init 0 = .ok (.aload_n 0, 1)) ∧ (decode cX1_init 1 = .ok (.invokespecial 3, 3)) ∧ (decode cX1_init 4 = .ok (.aload_n 0, 1)) ∧ (decode cX1_init 5 = .ok (.bipush 40, 2)) ∧ (decode cX1_init 7 = .ok (.anewarray 9, 3)) ∧ (decode cX1_init 10 = .ok (.putfield 11, 3)) ∧ (decode cX1_init 13 = .ok (.aload_n 0, 1)) ∧ (decode cX1_init 14 = .ok (.iconst 0, 1)) := by decide +kernel
theorem dX1_init_0 : decode cX1_init 0 = .ok (.aload_n 0, 1) := eX1_init_0q.1
theorem dX1_init_1 : decode cX1_init 1 = .ok (.invokespecial 3, 3) := eX1_init_0q.2.1
theorem dX1_init_4 : decode cX1_init 4 = .ok (.aload_n 0, 1) := eX1_init_0q.2.2.1
theorem dX1_init_5 : decode cX1_init 5 = .ok (.bipush 40, 2) := eX1_init_0q.2.2.2.1
theorem dX1_init_7 : decode cX1_init 7 = .ok (.anewarray 9, 3) := eX1_init_0q.2.2.2.2.1
theorem dX1_init_10 : decode cX1_init 10 = .ok (.putfield 11, 3) := eX1_init_0q.2.2.2.2.2.1
theorem dX1_init_13 : decode cX1_init 13 = .ok (.aload_n 0, 1) := eX1_init_0q.2.2.2.2.2.2.1
theorem dX1_init_14 : decode cX1_init 14 = .ok (.iconst 0, 1) := eX1_init_0q.2.2.2.2.2.2.2
theorem eX1_init_15q : (decode cX1_init 15 = .ok (.putfield 17, 3)) ∧ (decode cX1_init 18 = .ok (.aload_n 0, 1)) ∧ (decode cX1_init 19 = .ok (.iconst 0, 1)) ∧ (decode cX1_init 20 = .ok (.putfield 21, 3)) ∧ (decode cX1_init 23 = .ok (.return_, 1)) := by decide +kernel
theorem dX1_init_15 : decode cX1_init 15 = .ok (.putfield 17, 3) := eX1_init_15q.1
theorem dX1_init_18 : decode cX1_init 18 = .ok (.aload_n 0, 1) := eX1_init_15q.2.1
theorem dX1_init_19 : decode cX1_init 19 = .ok (.iconst 0, 1) := eX1_init_15q.2.2.1
theorem dX1_init_20 : decode cX1_init 20 = .ok (.putfield 21, 3) := eX1_init_15q.2.2.2.1
theorem dX1_init_23 : decode cX1_init 23 = .ok (.return_, 1) := eX1_init_15q.2.2.2.2
theorem eX2_init_0q : (decode cX2_init 0 = .ok (.aload_n 0, 1)) ∧ (decode cX2_init 1 = .ok (.invokespecial 3, 3)) ∧ (decode cX2_init 4 = .ok (.aload_n 0, 1)) ∧ (decode cX2_init 5 = .ok (.bipush 12, 2)) ∧ (decode cX2_init 7 = .ok (.newarray .int, 2)) ∧ (decode cX2_init 9 = .ok (.putfield 9, 3)) ∧ (decode cX2_init 12 = .ok (.aload_n 0, 1)) ∧ (decode cX2_init 13 = .ok (.bipush 12, 2)) := by decide +kernel
theorem dX2_init_0 : decode cX2_init 0 = .ok (.aload_n 0, 1) := eX2_init_0q.1
theorem dX2_init_1 : decode cX2_init 1 = .ok (.invokespecial 3, 3) := eX2_init_0q.2.1
theorem dX2_init_4 : decode cX2_init 4 = .ok (.aload_n 0, 1) := eX2_init_0q.2.2.1
theorem dX2_init_5 : decode cX2_init 5 = .ok (.bipush 12, 2) := eX2_init_0q.2.2.2.1
theorem dX2_init_7 : decode cX2_init 7 = .ok (.newarray .int, 2) := eX2_init_0q.2.2.2.2.1
theorem dX2_init_9 : decode cX2_init 9 = .ok (.putfield 9, 3) := eX2_init_0q.2.2.2.2.2.1
theorem dX2_init_12 : decode cX2_init 12 = .ok (.aload_n 0, 1) := eX2_init_0q.2.2.2.2.2.2.1
theorem dX2_init_13 : decode cX2_init 13 = .ok (.bipush 12, 2) := eX2_init_0q.2.2.2.2.2.2.2
theorem eX2_init_15q : (decode cX2_init 15 = .ok (.newarray .int, 2)) ∧ (decode cX2_init 17 = .ok (.putfield 15, 3)) ∧ (decode cX2_init 20 = .ok (.aload_n 0, 1)) ∧ (decode cX2_init 21 = .ok (.bipush 12, 2)) ∧ (decode cX2_init 23 = .ok (.newarray .int, 2)) ∧ (decode cX2_init 25 = .ok (.putfield 18, 3)) ∧ (decode cX2_init 28 = .ok (.aload_n 0, 1)) ∧ (decode cX2_init 29 = .ok (.bipush 12, 2)) := by decide +kernel
theorem dX2_init_15 : decode cX2_init 15 = .ok (.newarray .int, 2) := eX2_init_15q.1
theorem dX2_init_17 : decode cX2_init 17 = .ok (.putfield 15, 3) := eX2_init_15q.2.1
theorem dX2_init_20 : decode cX2_init 20 = .ok (.aload_n 0, 1) := eX2_init_15q.2.2.1
theorem dX2_init_21 : decode cX2_init 21 = .ok (.bipush 12, 2) := eX2_init_15q.2.2.2.1
theorem dX2_init_23 : decode cX2_init 23 = .ok (.newarray .int, 2) := eX2_init_15q.2.2.2.2.1
theorem dX2_init_25 : decode cX2_init 25 = .ok (.putfield 18, 3) := eX2_init_15q.2.2.2.2.2.1
theorem dX2_init_28 : decode cX2_init 28 = .ok (.aload_n 0, 1) := eX2_init_15q.2.2.2.2.2.2.1
theorem dX2_init_29 : decode cX2_init 29 = .ok (.bipush 12, 2) := eX2_init_15q.2.2.2.2.2.2.2
theorem eX2_init_31q : (decode cX2_init 31 = .ok (.newarray .int, 2)) ∧ (decode cX2_init 33 = .ok (.putfield 21, 3)) ∧ (decode cX2_init 36 = .ok (.aload_n 0, 1)) ∧ (decode cX2_init 37 = .ok (.bipush 20, 2)) ∧ (decode cX2_init 39 = .ok (.newarray .int, 2)) ∧ (decode cX2_init 41 = .ok (.putfield 24, 3)) ∧ (decode cX2_init 44 = .ok (.aload_n 0, 1)) ∧ (decode cX2_init 45 = .ok (.bipush 20, 2)) := by decide +kernel
theorem dX2_init_31 : decode cX2_init 31 = .ok (.newarray .int, 2) := eX2_init_31q.1
theorem dX2_init_33 : decode cX2_init 33 = .ok (.putfield 21, 3) := eX2_init_31q.2.1
theorem dX2_init_36 : decode cX2_init 36 = .ok (.aload_n 0, 1) := eX2_init_31q.2.2.1
theorem dX2_init_37 : decode cX2_init 37 = .ok (.bipush 20, 2) := eX2_init_31q.2.2.2.1
theorem dX2_init_39 : decode cX2_init 39 = .ok (.newarray .int, 2) := eX2_init_31q.2.2.2.2.1
theorem dX2_init_41 : decode cX2_init 41 = .ok (.putfield 24, 3) := eX2_init_31q.2.2.2.2.2.1
theorem dX2_init_44 : decode cX2_init 44 = .ok (.aload_n 0, 1) := eX2_init_31q.2.2.2.2.2.2.1
theorem dX2_init_45 : decode cX2_init 45 = .ok (.bipush 20, 2) := eX2_init_31q.2.2.2.2.2.2.2
theorem eX2_init_47q : (decode cX2_init 47 = .ok (.newarray .int, 2)) ∧ (decode cX2_init 49 = .ok (.putfield 27, 3)) ∧ (decode cX2_init 52 = .ok (.aload_n 0, 1)) ∧ (decode cX2_init 53 = .ok (.iconst 3, 1)) ∧ (decode cX2_init 54 = .ok (.newarray .int, 2)) ∧ (decode cX2_init 56 = .ok (.putfield 30, 3)) ∧ (decode cX2_init 59 = .ok (.aload_n 0, 1)) ∧ (decode cX2_init 60 = .ok (.iconst 0, 1)) := by decide +kernel
theorem dX2_init_47 : decode cX2_init 47 = .ok (.newarray .int, 2) := eX2_init_47q.1
theorem dX2_init_49 : decode cX2_init 49 = .ok (.putfield 27, 3) := eX2_init_47q.2.1
theorem dX2_init_52 : decode cX2_init 52 = .ok (.aload_n 0, 1) := eX2_init_47q.2.2.1
theorem dX2_init_53 : decode cX2_init 53 = .ok (.iconst 3, 1) := eX2_init_47q.2.2.2.1
theorem dX2_init_54 : decode cX2_init 54 = .ok (.newarray .int, 2) := eX2_init_47q.2.2.2.2.1
theorem dX2_init_56 : decode cX2_init 56 = .ok (.putfield 30, 3) := eX2_init_47q.2.2.2.2.2.1
theorem dX2_init_59 : decode cX2_init 59 = .ok (.aload_n 0, 1) := eX2_init_47q.2.2.2.2.2.2.1
theorem dX2_init_60 : decode cX2_init 60 = .ok (.iconst 0, 1) := eX2_init_47q.2.2.2.2.2.2.2
theorem eX2_init_61q : (decode cX2_init 61 = .ok (.putfield 33, 3)) ∧ (decode cX2_init 64 = .ok (.aload_n 0, 1)) ∧ (decode cX2_init 65 = .ok (.iconst 0, 1)) ∧ (decode cX2_init 66 = .ok (.putfield 37, 3)) ∧ (decode cX2_init 69 = .ok (.aload_n 0, 1)) ∧ (decode cX2_init 70 = .ok (.iconst 0, 1)) ∧ (decode cX2_init 71 = .ok (.putfield 40, 3)) ∧ (decode cX2_init 74 = .ok (.aload_n 0, 1)) := by decide +kernel
theorem dX2_init_61 : decode cX2_init 61 = .ok (.putfield 33, 3) := eX2_init_61q.1
theorem dX2_init_64 : decode cX2_init 64 = .ok (.aload_n 0, 1) := eX2_init_61q.2.1
theorem dX2_init_65 : decode cX2_init 65 = .ok (.iconst 0, 1) := eX2_init_61q.2.2.1
theorem dX2_init_66 : decode cX2_init 66 = .ok (.putfield 37, 3) := eX2_init_61q.2.2.2.1
theorem dX2_init_69 : decode cX2_init 69 = .ok (.aload_n 0, 1) := eX2_init_61q.2.2.2.2.1
theorem dX2_init_70 : decode cX2_init 70 = .ok (.iconst 0, 1) := eX2_init_61q.2.2.2.2.2.1
theorem dX2_init_71 : decode cX2_init 71 = .ok (.putfield 40, 3) := eX2_init_61q.2.2.2.2.2.2.1
theorem dX2_init_74 : decode cX2_init 74 = .ok (.aload_n 0, 1) := eX2_init_61q.2.2.2.2.2.2.2
theorem eX2_init_75q : (decode cX2_init 75 = .ok (.iconst 5, 1)) ∧ (decode cX2_init 76 = .ok (.putfield 43, 3)) ∧ (decode cX2_init 79 = .ok (.aload_n 0, 1)) ∧ (decode cX2_init 80 = .ok (.bipush 12, 2)) ∧ (decode cX2_init 82 = .ok (.newarray .int, 2)) ∧ (decode cX2_init 84 = .ok (.putfield 46, 3)) ∧ (decode cX2_init 87 = .ok (.aload_n 0, 1)) ∧ (decode cX2_init 88 = .ok (.bipush 36, 2)) := by decide +kernel
theorem dX2_init_75 : decode cX2_init 75 = .ok (.iconst 5, 1) := eX2_init_75q.1
theorem dX2_init_76 : decode cX2_init 76 = .ok (.putfield 43, 3) := eX2_init_75q.2.1
theorem dX2_init_79 : decode cX2_init 79 = .ok (.aload_n 0, 1) := eX2_init_75q.2.2.1
theorem dX2_init_80 : decode cX2_init 80 = .ok (.bipush 12, 2) := eX2_init_75q.2.2.2.1
theorem dX2_init_82 : decode cX2_init 82 = .ok (.newarray .int, 2) := eX2_init_75q.2.2.2.2.1
theorem dX2_init_84 : decode cX2_init 84 = .ok (.putfield 46, 3) := eX2_init_75q.2.2.2.2.2.1
theorem dX2_init_87 : decode cX2_init 87 = .ok (.aload_n 0, 1) := eX2_init_75q.2.2.2.2.2.2.1
theorem dX2_init_88 : decode cX2_init 88 = .ok (.bipush 36, 2) := eX2_init_75q.2.2.2.2.2.2.2
theorem eX2_init_90q : (decode cX2_init 90 = .ok (.newarray .int, 2)) ∧ (decode cX2_init 92 = .ok (.putfield 49, 3)) ∧ (decode cX2_init 95 = .ok (.aload_n 0, 1)) ∧ (decode cX2_init 96 = .ok (.sipush 144, 3)) ∧ (decode cX2_init 99 = .ok (.newarray .int, 2)) ∧ (decode cX2_init 101 = .ok (.putfield 52, 3)) ∧ (decode cX2_init 104 = .ok (.aload_n 0, 1)) ∧ (decode cX2_init 105 = .ok (.bipush 12, 2)) := by decide +kernel
theorem dX2_init_90 : decode cX2_init 90 = .ok (.newarray .int, 2) := eX2_init_90q.1
theorem dX2_init_92 : decode cX2_init 92 = .ok (.putfield 49, 3) := eX2_init_90q.2.1
theorem dX2_init_95 : decode cX2_init 95 = .ok (.aload_n 0, 1) := eX2_init_90q.2.2.1
theorem dX2_init_96 : decode cX2_init 96 = .ok (.sipush 144, 3) := eX2_init_90q.2.2.2.1
theorem dX2_init_99 : decode cX2_init 99 = .ok (.newarray .int, 2) := eX2_init_90q.2.2.2.2.1
theorem dX2_init_101 : decode cX2_init 101 = .ok (.putfield 52, 3) := eX2_init_90q.2.2.2.2.2.1
theorem dX2_init_104 : decode cX2_init 104 = .ok (.aload_n 0, 1) := eX2_init_90q.2.2.2.2.2.2.1
theorem dX2_init_105 : decode cX2_init 105 = .ok (.bipush 12, 2) := eX2_init_90q.2.2.2.2.2.2.2
theorem eX2_init_107q : (decode cX2_init 107 = .ok (.newarray .int, 2)) ∧ (decode cX2_init 109 = .ok (.putfield 55, 3)) ∧ (decode cX2_init 112 = .ok (.return_, 1)) := by decide +kernel
theorem dX2_init_107 : decode cX2_init 107 = .ok (.newarray .int, 2) := eX2_init_107q.1
theorem dX2_init_109 : decode cX2_init 109 = .ok (.putfield 55, 3) := eX2_init_107q.2.1
theorem dX2_init_112 : decode cX2_init 112 = .ok (.return_, 1) := eX2_init_107q.2.2
theorem eX3_init_0q : (decode cX3_init 0 = .ok (.aload_n 0, 1)) ∧ (decode cX3_init 1 = .ok (.invokespecial 3, 3)) ∧ (decode cX3_init 4 = .ok (.aload_n 0, 1)) ∧ (decode cX3_init 5 = .ok (.bipush 8, 2)) ∧ (decode cX3_init 7 = .ok (.newarray .int, 2)) ∧ (decode cX3_init 9 = .ok (.putfield 9, 3)) ∧ (decode cX3_init 12 = .ok (.aload_n 0, 1)) ∧ (decode cX3_init 13 = .ok (.bipush 8, 2)) := by decide +kernel
theorem dX3_init_0 : decode cX3_init 0 = .ok (.aload_n 0, 1) := eX3_init_0q.1
theorem dX3_init_1 : decode cX3_init 1 = .ok (.invokespecial 3, 3) := eX3_init_0q.2.1
theorem dX3_init_4 : decode cX3_init 4 = .ok (.aload_n 0, 1) := eX3_init_0q.2.2.1
theorem dX3_init_5 : decode cX3_init 5 = .ok (.bipush 8, 2) := eX3_init_0q.2.2.2.1
theorem dX3_init_7 : decode cX3_init 7 = .ok (.newarray .int, 2) := eX3_init_0q.2.2.2.2.1
theorem dX3_init_9 : decode cX3_init 9 = .ok (.putfield 9, 3) := eX3_init_0q.2.2.2.2.2.1
theorem dX3_init_12 : decode cX3_init 12 = .ok (.aload_n 0, 1) := eX3_init_0q.2.2.2.2.2.2.1
theorem dX3_init_13 : decode cX3_init 13 = .ok (.bipush 8, 2) := eX3_init_0q.2.2.2.2.2.2.2
theorem eX3_init_15q : (decode cX3_init 15 = .ok (.newarray .int, 2)) ∧ (decode cX3_init 17 = .ok (.putfield 15, 3)) ∧ (decode cX3_init 20 = .ok (.aload_n 0, 1)) ∧ (decode cX3_init 21 = .ok (.bipush 8, 2)) ∧ (decode cX3_init 23 = .ok (.newarray .int, 2)) ∧ (decode cX3_init 25 = .ok (.putfield 18, 3)) ∧ (decode cX3_init 28 = .ok (.aload_n 0, 1)) ∧ (decode cX3_init 29 = .ok (.bipush 8, 2)) := by decide +kernel
theorem dX3_init_15 : decode cX3_init 15 = .ok (.newarray .int, 2) := eX3_init_15q.1
theorem dX3_init_17 : decode cX3_init 17 = .ok (.putfield 15, 3) := eX3_init_15q.2.1
theorem dX3_init_20 : decode cX3_init 20 = .ok (.aload_n 0, 1) := eX3_init_15q.2.2.1
theorem dX3_init_21 : decode cX3_init 21 = .ok (.bipush 8, 2) := eX3_init_15q.2.2.2.1
theorem dX3_init_23 : decode cX3_init 23 = .ok (.newarray .int, 2) := eX3_init_15q.2.2.2.2.1
theorem dX3_init_25 : decode cX3_init 25 = .ok (.putfield 18, 3) := eX3_init_15q.2.2.2.2.2.1
theorem dX3_init_28 : decode cX3_init 28 = .ok (.aload_n 0, 1) := eX3_init_15q.2.2.2.2.2.2.1
theorem dX3_init_29 : decode cX3_init 29 = .ok (.bipush 8, 2) := eX3_init_15q.2.2.2.2.2.2.2
theorem eX3_init_31q : (decode cX3_init 31 = .ok (.newarray .int, 2)) ∧ (decode cX3_init 33 = .ok (.putfield 21, 3)) ∧ (decode cX3_init 36 = .ok (.aload_n 0, 1)) ∧ (decode cX3_init 37 = .ok (.iconst 0, 1)) ∧ (decode cX3_init 38 = .ok (.putfield 24, 3)) ∧ (decode cX3_init 41 = .ok (.aload_n 0, 1)) ∧ (decode cX3_init 42 = .ok (.iconst (-1), 1)) ∧ (decode cX3_init 43 = .ok (.putfield 28, 3)) := by decide +kernel
theorem dX3_init_31 : decode cX3_init 31 = .ok (.newarray .int, 2) := eX3_init_31q.1
theorem dX3_init_33 : decode cX3_init 33 = .ok (.putfield 21, 3) := eX3_init_31q.2.1
theorem dX3_init_36 : decode cX3_init 36 = .ok (.aload_n 0, 1) := eX3_init_31q.2.2.1
theorem dX3_init_37 : decode cX3_init 37 = .ok (.iconst 0, 1) := eX3_init_31q.2.2.2.1
theorem dX3_init_38 : decode cX3_init 38 = .ok (.putfield 24, 3) := eX3_init_31q.2.2.2.2.1
theorem dX3_init_41 : decode cX3_init 41 = .ok (.aload_n 0, 1) := eX3_init_31q.2.2.2.2.2.1
theorem dX3_init_42 : decode cX3_init 42 = .ok (.iconst (-1), 1) := eX3_init_31q.2.2.2.2.2.2.1
theorem dX3_init_43 : decode cX3_init 43 = .ok (.putfield 28, 3) := eX3_init_31q.2.2.2.2.2.2.2
theorem eX3_init_46q : (decode cX3_init 46 = .ok (.aload_n 0, 1)) ∧ (decode cX3_init 47 = .ok (.iconst 0, 1)) ∧ (decode cX3_init 48 = .ok (.putfield 31, 3)) ∧ (decode cX3_init 51 = .ok (.aload_n 0, 1)) ∧ (decode cX3_init 52 = .ok (.aload_n 1, 1)) ∧ (decode cX3_init 53 = .ok (.putfield 34, 3)) ∧ (decode cX3_init 56 = .ok (.aload_n 0, 1)) ∧ (decode cX3_init 57 = .ok (.aload_n 2, 1)) := by decide +kernel
theorem dX3_init_46 : decode cX3_init 46 = .ok (.aload_n 0, 1) := eX3_init_46q.1
theorem dX3_init_47 : decode cX3_init 47 = .ok (.iconst 0, 1) := eX3_init_46q.2.1
theorem dX3_init_48 : decode cX3_init 48 = .ok (.putfield 31, 3) := eX3_init_46q.2.2.1
theorem dX3_init_51 : decode cX3_init 51 = .ok (.aload_n 0, 1) := eX3_init_46q.2.2.2.1
theorem dX3_init_52 : decode cX3_init 52 = .ok (.aload_n 1, 1) := eX3_init_46q.2.2.2.2.1
theorem dX3_init_53 : decode cX3_init 53 = .ok (.putfield 34, 3) := eX3_init_46q.2.2.2.2.2.1
theorem dX3_init_56 : decode cX3_init 56 = .ok (.aload_n 0, 1) := eX3_init_46q.2.2.2.2.2.2.1
theorem dX3_init_57 : decode cX3_init 57 = .ok (.aload_n 2, 1) := eX3_init_46q.2.2.2.2.2.2.2
theorem dX3_init_58 : decode cX3_init 58 = .ok (.putfield 38, 3) := by decide +kernel
theorem dX3_init_61 : decode cX3_init 61 = .ok (.return_, 1) := by decide +kernel
theorem eX4_init_0q : (decode cX4_init 0 = .ok (.aload_n 0, 1)) ∧ (decode cX4_init 1 = .ok (.invokespecial 3, 3)) ∧ (decode cX4_init 4 = .ok (.aload_n 0, 1)) ∧ (decode cX4_init 5 = .ok (.bipush 23, 2)) ∧ (decode cX4_init 7 = .ok (.newarray .long, 2)) ∧ (decode cX4_init 9 = .ok (.putfield 9, 3)) ∧ (decode cX4_init 12 = .ok (.aload_n 0, 1)) ∧ (decode cX4_init 13 = .ok (.iconst 4, 1)) := by decide +kernel
theorem dX4_init_0 : decode cX4_init 0 = .ok (.aload_n 0, 1) := eX4_init_0q.1
theorem dX4_init_1 : decode cX4_init 1 = .ok (.invokespecial 3, 3) := eX4_init_0q.2.1
theorem dX4_init_4 : decode cX4_init 4 = .ok (.aload_n 0, 1) := eX4_init_0q.2.2.1
theorem dX4_init_5 : decode cX4_init 5 = .ok (.bipush 23, 2) := eX4_init_0q.2.2.2.1
theorem dX4_init_7 : decode cX4_init 7 = .ok (.newarray .long, 2) := eX4_init_0q.2.2.2.2.1
theorem dX4_init_9 : decode cX4_init 9 = .ok (.putfield 9, 3) := eX4_init_0q.2.2.2.2.2.1
theorem dX4_init_12 : decode cX4_init 12 = .ok (.aload_n 0, 1) := eX4_init_0q.2.2.2.2.2.2.1
theorem dX4_init_13 : decode cX4_init 13 = .ok (.iconst 4, 1) := eX4_init_0q.2.2.2.2.2.2.2
theorem eX4_init_14q : (decode cX4_init 14 = .ok (.newarray .int, 2)) ∧ (decode cX4_init 16 = .ok (.putfield 15, 3)) ∧ (decode cX4_init 19 = .ok (.aload_n 0, 1)) ∧ (decode cX4_init 20 = .ok (.iconst 0, 1)) ∧ (decode cX4_init 21 = .ok (.putfield 19, 3)) ∧ (decode cX4_init 24 = .ok (.return_, 1)) := by decide +kernel
theorem dX4_init_14 : decode cX4_init 14 = .ok (.newarray .int, 2) := eX4_init_14q.1
theorem dX4_init_16 : decode cX4_init 16 = .ok (.putfield 15, 3) := eX4_init_14q.2.1
theorem dX4_init_19 : decode cX4_init 19 = .ok (.aload_n 0, 1) := eX4_init_14q.2.2.1
theorem dX4_init_20 : decode cX4_init 20 = .ok (.iconst 0, 1) := eX4_init_14q.2.2.2.1
theorem dX4_init_21 : decode cX4_init 21 = .ok (.putfield 19, 3) := eX4_init_14q.2.2.2.2.1
theorem dX4_init_24 : decode cX4_init 24 = .ok (.return_, 1) := eX4_init_14q.2.2.2.2.2
theorem eX5_init_0q : (decode cX5_init 0 = .ok (.aload_n 0, 1)) ∧ (decode cX5_init 1 = .ok (.invokespecial 3, 3)) ∧ (decode cX5_init 4 = .ok (.aload_n 0, 1)) ∧ (decode cX5_init 5 = .ok (.iconst (-1), 1)) ∧ (decode cX5_init 6 = .ok (.putfield 9, 3)) ∧ (decode cX5_init 9 = .ok (.aload_n 0, 1)) ∧ (decode cX5_init 10 = .ok (.iconst 0, 1)) ∧ (decode cX5_init 11 = .ok (.putfield 15, 3)) := by decide +kernel
theorem dX5_init_0 : decode cX5_init 0 = .ok (.aload_n 0, 1) := eX5_init_0q.1
theorem dX5_init_1 : decode cX5_init 1 = .ok (.invokespecial 3, 3) := eX5_init_0q.2.1
theorem dX5_init_4 : decode cX5_init 4 = .ok (.aload_n 0, 1) := eX5_init_0q.2.2.1
theorem dX5_init_5 : decode cX5_init 5 = .ok (.iconst (-1), 1) := eX5_init_0q.2.2.2.1
theorem dX5_init_6 : decode cX5_init 6 = .ok (.putfield 9, 3) := eX5_init_0q.2.2.2.2.1
theorem dX5_init_9 : decode cX5_init 9 = .ok (.aload_n 0, 1) := eX5_init_0q.2.2.2.2.2.1
theorem dX5_init_10 : decode cX5_init 10 = .ok (.iconst 0, 1) := eX5_init_0q.2.2.2.2.2.2.1
theorem dX5_init_11 : decode cX5_init 11 = .ok (.putfield 15, 3) := eX5_init_0q.2.2.2.2.2.2.2
theorem eX5_init_14q : (decode cX5_init 14 = .ok (.aload_n 0, 1)) ∧ (decode cX5_init 15 = .ok (.iconst 0, 1)) ∧ (decode cX5_init 16 = .ok (.putfield 18, 3)) ∧ (decode cX5_init 19 = .ok (.aload_n 0, 1)) ∧ (decode cX5_init 20 = .ok (.iconst 0, 1)) ∧ (decode cX5_init 21 = .ok (.putfield 21, 3)) ∧ (decode cX5_init 24 = .ok (.aload_n 0, 1)) ∧ (decode cX5_init 25 = .ok (.iconst 0, 1)) := by decide +kernel
theorem dX5_init_14 : decode cX5_init 14 = .ok (.aload_n 0, 1) := eX5_init_14q.1
theorem dX5_init_15 : decode cX5_init 15 = .ok (.iconst 0, 1) := eX5_init_14q.2.1
theorem dX5_init_16 : decode cX5_init 16 = .ok (.putfield 18, 3) := eX5_init_14q.2.2.1
theorem dX5_init_19 : decode cX5_init 19 = .ok (.aload_n 0, 1) := eX5_init_14q.2.2.2.1
theorem dX5_init_20 : decode cX5_init 20 = .ok (.iconst 0, 1) := eX5_init_14q.2.2.2.2.1
theorem dX5_init_21 : decode cX5_init 21 = .ok (.putfield 21, 3) := eX5_init_14q.2.2.2.2.2.1
theorem dX5_init_24 : decode cX5_init 24 = .ok (.aload_n 0, 1) := eX5_init_14q.2.2.2.2.2.2.1
theorem dX5_init_25 : decode cX5_init 25 = .ok (.iconst 0, 1) := eX5_init_14q.2.2.2.2.2.2.2
theorem eX5_init_26q : (decode cX5_init 26 = .ok (.putfield 24, 3)) ∧ (decode cX5_init 29 = .ok (.aload_n 0, 1)) ∧ (decode cX5_init 30 = .ok (.iconst 0, 1)) ∧ (decode cX5_init 31 = .ok (.putfield 27, 3)) ∧ (decode cX5_init 34 = .ok (.aload_n 0, 1)) ∧ (decode cX5_init 35 = .ok (.iconst 0, 1)) ∧ (decode cX5_init 36 = .ok (.putfield 30, 3)) ∧ (decode cX5_init 39 = .ok (.aload_n 0, 1)) := by decide +kernel
theorem dX5_init_26 : decode cX5_init 26 = .ok (.putfield 24, 3) := eX5_init_26q.1
theorem dX5_init_29 : decode cX5_init 29 = .ok (.aload_n 0, 1) := eX5_init_26q.2.1
theorem dX5_init_30 : decode cX5_init 30 = .ok (.iconst 0, 1) := eX5_init_26q.2.2.1
theorem dX5_init_31 : decode cX5_init 31 = .ok (.putfield 27, 3) := eX5_init_26q.2.2.2.1
theorem dX5_init_34 : decode cX5_init 34 = .ok (.aload_n 0, 1) := eX5_init_26q.2.2.2.2.1
theorem dX5_init_35 : decode cX5_init 35 = .ok (.iconst 0, 1) := eX5_init_26q.2.2.2.2.2.1
theorem dX5_init_36 : decode cX5_init 36 = .ok (.putfield 30, 3) := eX5_init_26q.2.2.2.2.2.2.1
theorem dX5_init_39 : decode cX5_init 39 = .ok (.aload_n 0, 1) := eX5_init_26q.2.2.2.2.2.2.2
theorem eX5_init_40q : (decode cX5_init 40 = .ok (.aload_n 1, 1)) ∧ (decode cX5_init 41 = .ok (.putfield 34, 3)) ∧ (decode cX5_init 44 = .ok (.aload_n 0, 1)) ∧ (decode cX5_init 45 = .ok (.aload_n 2, 1)) ∧ (decode cX5_init 46 = .ok (.getfield 38, 3)) ∧ (decode cX5_init 49 = .ok (.putfield 44, 3)) ∧ (decode cX5_init 52 = .ok (.return_, 1)) := by decide +kernel
theorem dX5_init_40 : decode cX5_init 40 = .ok (.aload_n 1, 1) := eX5_init_40q.1
theorem dX5_init_41 : decode cX5_init 41 = .ok (.putfield 34, 3) := eX5_init_40q.2.1
theorem dX5_init_44 : decode cX5_init 44 = .ok (.aload_n 0, 1) := eX5_init_40q.2.2.1
theorem dX5_init_45 : decode cX5_init 45 = .ok (.aload_n 2, 1) := eX5_init_40q.2.2.2.1
theorem dX5_init_46 : decode cX5_init 46 = .ok (.getfield 38, 3) := eX5_init_40q.2.2.2.2.1
theorem dX5_init_49 : decode cX5_init 49 = .ok (.putfield 44, 3) := eX5_init_40q.2.2.2.2.2.1
theorem dX5_init_52 : decode cX5_init 52 = .ok (.return_, 1) := eX5_init_40q.2.2.2.2.2.2
theorem eX6_init_0q : (decode cX6_init 0 = .ok (.aload_n 0, 1)) ∧ (decode cX6_init 1 = .ok (.invokespecial 3, 3)) ∧ (decode cX6_init 4 = .ok (.aload_n 0, 1)) ∧ (decode cX6_init 5 = .ok (.iconst 0, 1)) ∧ (decode cX6_init 6 = .ok (.putfield 9, 3)) ∧ (decode cX6_init 9 = .ok (.aload_n 0, 1)) ∧ (decode cX6_init 10 = .ok (.aload_n 1, 1)) ∧ (decode cX6_init 11 = .ok (.putfield 15, 3)) := by decide +kernel
theorem dX6_init_0 : decode cX6_init 0 = .ok (.aload_n 0, 1) := eX6_init_0q.1
theorem dX6_init_1 : decode cX6_init 1 = .ok (.invokespecial 3, 3) := eX6_init_0q.2.1
theorem dX6_init_4 : decode cX6_init 4 = .ok (.aload_n 0, 1) := eX6_init_0q.2.2.1
theorem dX6_init_5 : decode cX6_init 5 = .ok (.iconst 0, 1) := eX6_init_0q.2.2.2.1
theorem dX6_init_6 : decode cX6_init 6 = .ok (.putfield 9, 3) := eX6_init_0q.2.2.2.2.1
theorem dX6_init_9 : decode cX6_init 9 = .ok (.aload_n 0, 1) := eX6_init_0q.2.2.2.2.2.1
theorem dX6_init_10 : decode cX6_init 10 = .ok (.aload_n 1, 1) := eX6_init_0q.2.2.2.2.2.2.1
theorem dX6_init_11 : decode cX6_init 11 = .ok (.putfield 15, 3) := eX6_init_0q.2.2.2.2.2.2.2
theorem eX6_init_14q : (decode cX6_init 14 = .ok (.aload_n 0, 1)) ∧ (decode cX6_init 15 = .ok (.aload_n 2, 1)) ∧ (decode cX6_init 16 = .ok (.putfield 19, 3)) ∧ (decode cX6_init 19 = .ok (.aload_n 0, 1)) ∧ (decode cX6_init 20 = .ok (.aload_n 3, 1)) ∧ (decode cX6_init 21 = .ok (.putfield 23, 3)) ∧ (decode cX6_init 24 = .ok (.aload_n 0, 1)) ∧ (decode cX6_init 25 = .ok (.aload 4, 2)) := by decide +kernel
theorem dX6_init_14 : decode cX6_init 14 = .ok (.aload_n 0, 1) := eX6_init_14q.1
theorem dX6_init_15 : decode cX6_init 15 = .ok (.aload_n 2, 1) := eX6_init_14q.2.1
theorem dX6_init_16 : decode cX6_init 16 = .ok (.putfield 19, 3) := eX6_init_14q.2.2.1
theorem dX6_init_19 : decode cX6_init 19 = .ok (.aload_n 0, 1) := eX6_init_14q.2.2.2.1
theorem dX6_init_20 : decode cX6_init 20 = .ok (.aload_n 3, 1) := eX6_init_14q.2.2.2.2.1
theorem dX6_init_21 : decode cX6_init 21 = .ok (.putfield 23, 3) := eX6_init_14q.2.2.2.2.2.1
theorem dX6_init_24 : decode cX6_init 24 = .ok (.aload_n 0, 1) := eX6_init_14q.2.2.2.2.2.2.1
theorem dX6_init_25 : decode cX6_init 25 = .ok (.aload 4, 2) := eX6_init_14q.2.2.2.2.2.2.2
theorem dX6_init_27 : decode cX6_init 27 = .ok (.putfield 27, 3) := by decide +kernel
theorem dX6_init_30 : decode cX6_init 30 = .ok (.return_, 1) := by decide +kernel
theorem eX7_init_0q : (decode cX7_init 0 = .ok (.aload_n 0, 1)) ∧ (decode cX7_init 1 = .ok (.invokespecial 3, 3)) ∧ (decode cX7_init 4 = .ok (.aload_n 0, 1)) ∧ (decode cX7_init 5 = .ok (.bipush 21, 2)) ∧ (decode cX7_init 7 = .ok (.newarray .int, 2)) ∧ (decode cX7_init 9 = .ok (.putfield 9, 3)) ∧ (decode cX7_init 12 = .ok (.aload_n 0, 1)) ∧ (decode cX7_init 13 = .ok (.bipush 10, 2)) := by decide +kernel
theorem dX7_init_0 : decode cX7_init 0 = .ok (.aload_n 0, 1) := eX7_init_0q.1
theorem dX7_init_1 : decode cX7_init 1 = .ok (.invokespecial 3, 3) := eX7_init_0q.2.1
theorem dX7_init_4 : decode cX7_init 4 = .ok (.aload_n 0, 1) := eX7_init_0q.2.2.1
theorem dX7_init_5 : decode cX7_init 5 = .ok (.bipush 21, 2) := eX7_init_0q.2.2.2.1
theorem dX7_init_7 : decode cX7_init 7 = .ok (.newarray .int, 2) := eX7_init_0q.2.2.2.2.1
theorem dX7_init_9 : decode cX7_init 9 = .ok (.putfield 9, 3) := eX7_init_0q.2.2.2.2.2.1
theorem dX7_init_12 : decode cX7_init 12 = .ok (.aload_n 0, 1) := eX7_init_0q.2.2.2.2.2.2.1
theorem dX7_init_13 : decode cX7_init 13 = .ok (.bipush 10, 2) := eX7_init_0q.2.2.2.2.2.2.2
theorem eX7_init_15q : (decode cX7_init 15 = .ok (.newarray .int, 2)) ∧ (decode cX7_init 17 = .ok (.putfield 15, 3)) ∧ (decode cX7_init 20 = .ok (.aload_n 0, 1)) ∧ (decode cX7_init 21 = .ok (.bipush 10, 2)) ∧ (decode cX7_init 23 = .ok (.newarray .int, 2)) ∧ (decode cX7_init 25 = .ok (.putfield 18, 3)) ∧ (decode cX7_init 28 = .ok (.aload_n 0, 1)) ∧ (decode cX7_init 29 = .ok (.aload_n 1, 1)) := by decide +kernel
theorem dX7_init_15 : decode cX7_init 15 = .ok (.newarray .int, 2) := eX7_init_15q.1
theorem dX7_init_17 : decode cX7_init 17 = .ok (.putfield 15, 3) := eX7_init_15q.2.1
theorem dX7_init_20 : decode cX7_init 20 = .ok (.aload_n 0, 1) := eX7_init_15q.2.2.1
theorem dX7_init_21 : decode cX7_init 21 = .ok (.bipush 10, 2) := eX7_init_15q.2.2.2.1
theorem dX7_init_23 : decode cX7_init 23 = .ok (.newarray .int, 2) := eX7_init_15q.2.2.2.2.1
theorem dX7_init_25 : decode cX7_init 25 = .ok (.putfield 18, 3) := eX7_init_15q.2.2.2.2.2.1
theorem dX7_init_28 : decode cX7_init 28 = .ok (.aload_n 0, 1) := eX7_init_15q.2.2.2.2.2.2.1
theorem dX7_init_29 : decode cX7_init 29 = .ok (.aload_n 1, 1) := eX7_init_15q.2.2.2.2.2.2.2
theorem eX7_init_30q : (decode cX7_init 30 = .ok (.putfield 21, 3)) ∧ (decode cX7_init 33 = .ok (.aload_n 0, 1)) ∧ (decode cX7_init 34 = .ok (.aload_n 2, 1)) ∧ (decode cX7_init 35 = .ok (.putfield 25, 3)) ∧ (decode cX7_init 38 = .ok (.return_, 1)) := by decide +kernel
theorem dX7_init_30 : decode cX7_init 30 = .ok (.putfield 21, 3) := eX7_init_30q.1
theorem dX7_init_33 : decode cX7_init 33 = .ok (.aload_n 0, 1) := eX7_init_30q.2.1
theorem dX7_init_34 : decode cX7_init 34 = .ok (.aload_n 2, 1) := eX7_init_30q.2.2.1
theorem dX7_init_35 : decode cX7_init 35 = .ok (.putfield 25, 3) := eX7_init_30q.2.2.2.1
theorem dX7_init_38 : decode cX7_init 38 = .ok (.return_, 1) := eX7_init_30q.2.2.2.2
theorem eX8_init_0q : (decode cX8_init 0 = .ok (.aload_n 0, 1)) ∧ (decode cX8_init 1 = .ok (.invokespecial 3, 3)) ∧ (decode cX8_init 4 = .ok (.aload_n 0, 1)) ∧ (decode cX8_init 5 = .ok (.sipush 700, 3)) ∧ (decode cX8_init 8 = .ok (.newarray .byte, 2)) ∧ (decode cX8_init 10 = .ok (.putfield 9, 3)) ∧ (decode cX8_init 13 = .ok (.aload_n 0, 1)) ∧ (decode cX8_init 14 = .ok (.iconst 0, 1)) := by decide +kernel
theorem dX8_init_0 : decode cX8_init 0 = .ok (.aload_n 0, 1) := eX8_init_0q.1
theorem dX8_init_1 : decode cX8_init 1 = .ok (.invokespecial 3, 3) := eX8_init_0q.2.1
theorem dX8_init_4 : decode cX8_init 4 = .ok (.aload_n 0, 1) := eX8_init_0q.2.2.1
theorem dX8_init_5 : decode cX8_init 5 = .ok (.sipush 700, 3) := eX8_init_0q.2.2.2.1
theorem dX8_init_8 : decode cX8_init 8 = .ok (.newarray .byte, 2) := eX8_init_0q.2.2.2.2.1
theorem dX8_init_10 : decode cX8_init 10 = .ok (.putfield 9, 3) := eX8_init_0q.2.2.2.2.2.1
theorem dX8_init_13 : decode cX8_init 13 = .ok (.aload_n 0, 1) := eX8_init_0q.2.2.2.2.2.2.1
theorem dX8_init_14 : decode cX8_init 14 = .ok (.iconst 0, 1) := eX8_init_0q.2.2.2.2.2.2.2
theorem dX8_init_15 : decode cX8_init 15 = .ok (.putfield 15, 3) := by decide +kernel
theorem dX8_init_18 : decode cX8_init 18 = .ok (.return_, 1) := by decide +kernel
theorem eX9_init_0q : (decode cX9_init 0 = .ok (.aload_n 0, 1)) ∧ (decode cX9_init 1 = .ok (.invokespecial 3, 3)) ∧ (decode cX9_init 4 = .ok (.aload_n 0, 1)) ∧ (decode cX9_init 5 = .ok (.iconst (-1), 1)) ∧ (decode cX9_init 6 = .ok (.putfield 9, 3)) ∧ (decode cX9_init 9 = .ok (.aload_n 0, 1)) ∧ (decode cX9_init 10 = .ok (.iconst 0, 1)) ∧ (decode cX9_init 11 = .ok (.putfield 15, 3)) := by decide +kernel
theorem dX9_init_0 : decode cX9_init 0 = .ok (.aload_n 0, 1) := eX9_init_0q.1
theorem dX9_init_1 : decode cX9_init 1 = .ok (.invokespecial 3, 3) := eX9_init_0q.2.1
theorem dX9_init_4 : decode cX9_init 4 = .ok (.aload_n 0, 1) := eX9_init_0q.2.2.1
theorem dX9_init_5 : decode cX9_init 5 = .ok (.iconst (-1), 1) := eX9_init_0q.2.2.2.1
theorem dX9_init_6 : decode cX9_init 6 = .ok (.putfield 9, 3) := eX9_init_0q.2.2.2.2.1
theorem dX9_init_9 : decode cX9_init 9 = .ok (.aload_n 0, 1) := eX9_init_0q.2.2.2.2.2.1
theorem dX9_init_10 : decode cX9_init 10 = .ok (.iconst 0, 1) := eX9_init_0q.2.2.2.2.2.2.1
theorem dX9_init_11 : decode cX9_init 11 = .ok (.putfield 15, 3) := eX9_init_0q.2.2.2.2.2.2.2
theorem eX9_init_14q : (decode cX9_init 14 = .ok (.aload_n 0, 1)) ∧ (decode cX9_init 15 = .ok (.iconst 0, 1)) ∧ (decode cX9_init 16 = .ok (.putfield 18, 3)) ∧ (decode cX9_init 19 = .ok (.aload_n 0, 1)) ∧ (decode cX9_init 20 = .ok (.iconst 0, 1)) ∧ (decode cX9_init 21 = .ok (.putfield 21, 3)) ∧ (decode cX9_init 24 = .ok (.aload_n 0, 1)) ∧ (decode cX9_init 25 = .ok (.iconst (-1), 1)) := by decide +kernel
theorem dX9_init_14 : decode cX9_init 14 = .ok (.aload_n 0, 1) := eX9_init_14q.1
theorem dX9_init_15 : decode cX9_init 15 = .ok (.iconst 0, 1) := eX9_init_14q.2.1
theorem dX9_init_16 : decode cX9_init 16 = .ok (.putfield 18, 3) := eX9_init_14q.2.2.1
theorem dX9_init_19 : decode cX9_init 19 = .ok (.aload_n 0, 1) := eX9_init_14q.2.2.2.1
theorem dX9_init_20 : decode cX9_init 20 = .ok (.iconst 0, 1) := eX9_init_14q.2.2.2.2.1
theorem dX9_init_21 : decode cX9_init 21 = .ok (.putfield 21, 3) := eX9_init_14q.2.2.2.2.2.1
theorem dX9_init_24 : decode cX9_init 24 = .ok (.aload_n 0, 1) := eX9_init_14q.2.2.2.2.2.2.1
theorem dX9_init_25 : decode cX9_init 25 = .ok (.iconst (-1), 1) := eX9_init_14q.2.2.2.2.2.2.2
theorem eX9_init_26q : (decode cX9_init 26 = .ok (.putfield 24, 3)) ∧ (decode cX9_init 29 = .ok (.aload_n 0, 1)) ∧ (decode cX9_init 30 = .ok (.iconst 0, 1)) ∧ (decode cX9_init 31 = .ok (.putfield 27, 3)) ∧ (decode cX9_init 34 = .ok (.aload_n 0, 1)) ∧ (decode cX9_init 35 = .ok (.iconst 0, 1)) ∧ (decode cX9_init 36 = .ok (.putfield 30, 3)) ∧ (decode cX9_init 39 = .ok (.aload_n 0, 1)) := by decide +kernel
theorem dX9_init_26 : decode cX9_init 26 = .ok (.putfield 24, 3) := eX9_init_26q.1
theorem dX9_init_29 : decode cX9_init 29 = .ok (.aload_n 0, 1) := eX9_init_26q.2.1
theorem dX9_init_30 : decode cX9_init 30 = .ok (.iconst 0, 1) := eX9_init_26q.2.2.1
theorem dX9_init_31 : decode cX9_init 31 = .ok (.putfield 27, 3) := eX9_init_26q.2.2.2.1
theorem dX9_init_34 : decode cX9_init 34 = .ok (.aload_n 0, 1) := eX9_init_26q.2.2.2.2.1
theorem dX9_init_35 : decode cX9_init 35 = .ok (.iconst 0, 1) := eX9_init_26q.2.2.2.2.2.1
theorem dX9_init_36 : decode cX9_init 36 = .ok (.putfield 30, 3) := eX9_init_26q.2.2.2.2.2.2.1
theorem dX9_init_39 : decode cX9_init 39 = .ok (.aload_n 0, 1) := eX9_init_26q.2.2.2.2.2.2.2
theorem eX9_init_40q : (decode cX9_init 40 = .ok (.iconst 0, 1)) ∧ (decode cX9_init 41 = .ok (.putfield 33, 3)) ∧ (decode cX9_init 44 = .ok (.aload_n 0, 1)) ∧ (decode cX9_init 45 = .ok (.aload_n 1, 1)) ∧ (decode cX9_init 46 = .ok (.putfield 37, 3)) ∧ (decode cX9_init 49 = .ok (.aload_n 0, 1)) ∧ (decode cX9_init 50 = .ok (.aload_n 2, 1)) ∧ (decode cX9_init 51 = .ok (.putfield 41, 3)) := by decide +kernel
theorem dX9_init_40 : decode cX9_init 40 = .ok (.iconst 0, 1) := eX9_init_40q.1
theorem dX9_init_41 : decode cX9_init 41 = .ok (.putfield 33, 3) := eX9_init_40q.2.1
theorem dX9_init_44 : decode cX9_init 44 = .ok (.aload_n 0, 1) := eX9_init_40q.2.2.1
theorem dX9_init_45 : decode cX9_init 45 = .ok (.aload_n 1, 1) := eX9_init_40q.2.2.2.1
theorem dX9_init_46 : decode cX9_init 46 = .ok (.putfield 37, 3) := eX9_init_40q.2.2.2.2.1
theorem dX9_init_49 : decode cX9_init 49 = .ok (.aload_n 0, 1) := eX9_init_40q.2.2.2.2.2.1
theorem dX9_init_50 : decode cX9_init 50 = .ok (.aload_n 2, 1) := eX9_init_40q.2.2.2.2.2.2.1
theorem dX9_init_51 : decode cX9_init 51 = .ok (.putfield 41, 3) := eX9_init_40q.2.2.2.2.2.2.2
theorem dX9_init_54 : decode cX9_init 54 = .ok (.return_, 1) := by decide +kernel
set_option maxRecDepth 20000 in
theorem ggX10_init_X8_init : GoodIn wsX10_init wsX8_init := goodIn_r _ [55, 56, 2, 3, 57, 58, 59, 164, 165] rfl (by decide +kernel)
set_option maxRecDepth 20000 in
theorem gX10_init_X8_init_n11 : GoodIn wsX10_init (wsX8_init) := ggX10_init_X8_init
set_option maxRecDepth 20000 in
theorem ggX10_init_X2_init : GoodIn wsX10_init wsX2_init := goodIn_r _ [61, 62, 2, 3, 46, 63, 64, 65, 66, 67, 68, 69, 70, 71, 72, 73, 74, 75, 76, 77, 185, 186, 187, 188, 189, 190, 191, 192, 193, 194, 195, 196, 197, 198, 199] rfl (by decide +kernel)
set_option maxRecDepth 20000 in
theorem gX10_init_X2_init_n18 : GoodIn wsX10_init (wsX2_init) := ggX10_init_X2_init
set_option maxRecDepth 20000 in
theorem ggX10_init_X5_init : GoodIn wsX10_init wsX5_init := goodIn_r _ [80, 81, 2, 3, 82, 83, 84, 85, 86, 87, 88, 89, 90, 91, 200, 201, 202, 203, 204, 205, 206, 207, 208, 164, 165] rfl (by decide +kernel)
set_option maxRecDepth 20000 in
theorem gX10_init_X5_init : GoodIn wsX10_init (wsX5_init) := ggX10_init_X5_init
set_option maxRecDepth 20000 in
theorem ggX10_init_X0_init : GoodIn wsX10_init wsX0_init := goodIn_r _ [93, 94, 2, 3, 95, 96, 46, 97, 98, 99, 100, 101, 102, 103, 104, 105, 209, 210, 211, 212, 213, 214, 215, 216, 217, 218] rfl (by decide +kernel)
set_option maxRecDepth 20000 in
theorem gX10_init_X0_init_n37 : GoodIn wsX10_init (wsX0_init) := ggX10_init_X0_init
set_option maxRecDepth 20000 in
theorem ggX10_init_X4_init : GoodIn wsX10_init wsX4_init := goodIn_r _ [107, 108, 2, 3, 95, 109, 46, 110, 111, 219, 220, 221] rfl (by decide +kernel)
set_option maxRecDepth 20000 in
theorem gX10_init_X4_init_n47 : GoodIn wsX10_init (wsX4_init) := ggX10_init_X4_init
set_option maxRecDepth 20000 in
theorem ggX10_init_X7_init : GoodIn wsX10_init wsX7_init := goodIn_r _ [114, 115, 2, 3, 46, 116, 117, 118, 119, 120, 222, 223, 224, 225, 226] rfl (by decide +kernel)
set_option maxRecDepth 20000 in
theorem gX10_init_X7_init : GoodIn wsX10_init (wsX7_init) := ggX10_init_X7_init
set_option maxRecDepth 20000 in
theorem ggX10_init_X9_init : GoodIn wsX10_init wsX9_init := goodIn_r _ [123, 124, 2, 3, 125, 126, 127, 128, 129, 130, 131, 132, 133, 134, 227, 228, 229, 230, 231, 232, 233, 234, 235, 236] rfl (by decide +kernel)
set_option maxRecDepth 20000 in
theorem gX10_init_X9_init : GoodIn wsX10_init (wsX9_init) := ggX10_init_X9_init
set_option maxRecDepth 20000 in
theorem ggX10_init_X6_init : GoodIn wsX10_init wsX6_init := goodIn_r _ [137, 138, 2, 3, 139, 140, 141, 142, 143, 237, 238, 239, 240, 241] rfl (by decide +kernel)
set_option maxRecDepth 20000 in
theorem gX10_init_X6_init : GoodIn wsX10_init (wsX6_init) := ggX10_init_X6_init
set_option maxRecDepth 20000 in
theorem ggX10_init_X3_init : GoodIn wsX10_init wsX3_init := goodIn_r _ [146, 147, 2, 3, 46, 148, 149, 150, 151, 152, 153, 154, 155, 156, 242, 243, 244, 245, 246, 247, 248, 249, 250] rfl (by decide +kernel)
set_option maxRecDepth 20000 in
theorem gX10_init_X3_init : GoodIn wsX10_init (wsX3_init) := ggX10_init_X3_init
set_option maxRecDepth 20000 in
theorem ggX10_init_X1_init : GoodIn wsX10_init wsX1_init := goodIn_r _ [158, 159, 2, 3, 160, 161, 162, 163, 251, 252, 253] rfl (by decide +kernel)
set_option maxRecDepth 20000 in
theorem gX10_init_X1_init_n88 : GoodIn wsX10_init (wsX1_init) := ggX10_init_X1_init
theorem eX10_init_0q : (decode cX10_init 0 = .ok (.aload_n 0, 1)) ∧ (decode cX10_init 1 = .ok (.invokespecial 3, 3)) ∧ (decode cX10_init 4 = .ok (.aload_n 0, 1)) ∧ (decode cX10_init 5 = .ok (.new 9, 3)) ∧ (decode cX10_init 8 = .ok (.dup, 1)) ∧ (decode cX10_init 9 = .ok (.invokespecial 11, 3)) ∧ (decode cX10_init 12 = .ok (.putfield 12, 3)) ∧ (decode cX10_init 15 = .ok (.aload_n 0, 1)) := by decide +kernel
theorem dX10_init_0 : decode cX10_init 0 = .ok (.aload_n 0, 1) := eX10_init_0q.1
theorem dX10_init_1 : decode cX10_init 1 = .ok (.invokespecial 3, 3) := eX10_init_0q.2.1
theorem dX10_init_4 : decode cX10_init 4 = .ok (.aload_n 0, 1) := eX10_init_0q.2.2.1
theorem dX10_init_5 : decode cX10_init 5 = .ok (.new 9, 3) := eX10_init_0q.2.2.2.1
theorem dX10_init_8 : decode cX10_init 8 = .ok (.dup, 1) := eX10_init_0q.2.2.2.2.1
theorem dX10_init_9 : decode cX10_init 9 = .ok (.invokespecial 11, 3) := eX10_init_0q.2.2.2.2.2.1
theorem dX10_init_12 : decode cX10_init 12 = .ok (.putfield 12, 3) := eX10_init_0q.2.2.2.2.2.2.1
theorem dX10_init_15 : decode cX10_init 15 = .ok (.aload_n 0, 1) := eX10_init_0q.2.2.2.2.2.2.2
theorem eX10_init_16q : (decode cX10_init 16 = .ok (.new 16, 3)) ∧ (decode cX10_init 19 = .ok (.dup, 1)) ∧ (decode cX10_init 20 = .ok (.invokespecial 18, 3)) ∧ (decode cX10_init 23 = .ok (.putfield 19, 3)) ∧ (decode cX10_init 26 = .ok (.aload_n 0, 1)) ∧ (decode cX10_init 27 = .ok (.new 16, 3)) ∧ (decode cX10_init 30 = .ok (.dup, 1)) ∧ (decode cX10_init 31 = .ok (.invokespecial 18, 3)) := by decide +kernel
theorem dX10_init_16 : decode cX10_init 16 = .ok (.new 16, 3) := eX10_init_16q.1
theorem dX10_init_19 : decode cX10_init 19 = .ok (.dup, 1) := eX10_init_16q.2.1
theorem dX10_init_20 : decode cX10_init 20 = .ok (.invokespecial 18, 3) := eX10_init_16q.2.2.1
theorem dX10_init_23 : decode cX10_init 23 = .ok (.putfield 19, 3) := eX10_init_16q.2.2.2.1
theorem dX10_init_26 : decode cX10_init 26 = .ok (.aload_n 0, 1) := eX10_init_16q.2.2.2.2.1
theorem dX10_init_27 : decode cX10_init 27 = .ok (.new 16, 3) := eX10_init_16q.2.2.2.2.2.1
theorem dX10_init_30 : decode cX10_init 30 = .ok (.dup, 1) := eX10_init_16q.2.2.2.2.2.2.1
theorem dX10_init_31 : decode cX10_init 31 = .ok (.invokespecial 18, 3) := eX10_init_16q.2.2.2.2.2.2.2
theorem eX10_init_34q : (decode cX10_init 34 = .ok (.putfield 23, 3)) ∧ (decode cX10_init 37 = .ok (.aload_n 0, 1)) ∧ (decode cX10_init 38 = .ok (.new 26, 3)) ∧ (decode cX10_init 41 = .ok (.dup, 1)) ∧ (decode cX10_init 42 = .ok (.aload_n 0, 1)) ∧ (decode cX10_init 43 = .ok (.getfield 23, 3)) ∧ (decode cX10_init 46 = .ok (.aload_n 0, 1)) ∧ (decode cX10_init 47 = .ok (.getfield 12, 3)) := by decide +kernel
theorem dX10_init_34 : decode cX10_init 34 = .ok (.putfield 23, 3) := eX10_init_34q.1
theorem dX10_init_37 : decode cX10_init 37 = .ok (.aload_n 0, 1) := eX10_init_34q.2.1
theorem dX10_init_38 : decode cX10_init 38 = .ok (.new 26, 3) := eX10_init_34q.2.2.1
theorem dX10_init_41 : decode cX10_init 41 = .ok (.dup, 1) := eX10_init_34q.2.2.2.1
theorem dX10_init_42 : decode cX10_init 42 = .ok (.aload_n 0, 1) := eX10_init_34q.2.2.2.2.1
theorem dX10_init_43 : decode cX10_init 43 = .ok (.getfield 23, 3) := eX10_init_34q.2.2.2.2.2.1
theorem dX10_init_46 : decode cX10_init 46 = .ok (.aload_n 0, 1) := eX10_init_34q.2.2.2.2.2.2.1
theorem dX10_init_47 : decode cX10_init 47 = .ok (.getfield 12, 3) := eX10_init_34q.2.2.2.2.2.2.2
theorem eX10_init_50q : (decode cX10_init 50 = .ok (.invokespecial 28, 3)) ∧ (decode cX10_init 53 = .ok (.putfield 31, 3)) ∧ (decode cX10_init 56 = .ok (.aload_n 0, 1)) ∧ (decode cX10_init 57 = .ok (.new 35, 3)) ∧ (decode cX10_init 60 = .ok (.dup, 1)) ∧ (decode cX10_init 61 = .ok (.invokespecial 37, 3)) ∧ (decode cX10_init 64 = .ok (.putfield 38, 3)) ∧ (decode cX10_init 67 = .ok (.aload_n 0, 1)) := by decide +kernel
theorem dX10_init_50 : decode cX10_init 50 = .ok (.invokespecial 28, 3) := eX10_init_50q.1
theorem dX10_init_53 : decode cX10_init 53 = .ok (.putfield 31, 3) := eX10_init_50q.2.1
theorem dX10_init_56 : decode cX10_init 56 = .ok (.aload_n 0, 1) := eX10_init_50q.2.2.1
theorem dX10_init_57 : decode cX10_init 57 = .ok (.new 35, 3) := eX10_init_50q.2.2.2.1
theorem dX10_init_60 : decode cX10_init 60 = .ok (.dup, 1) := eX10_init_50q.2.2.2.2.1
theorem dX10_init_61 : decode cX10_init 61 = .ok (.invokespecial 37, 3) := eX10_init_50q.2.2.2.2.2.1
theorem dX10_init_64 : decode cX10_init 64 = .ok (.putfield 38, 3) := eX10_init_50q.2.2.2.2.2.2.1
theorem dX10_init_67 : decode cX10_init 67 = .ok (.aload_n 0, 1) := eX10_init_50q.2.2.2.2.2.2.2
theorem eX10_init_68q : (decode cX10_init 68 = .ok (.new 35, 3)) ∧ (decode cX10_init 71 = .ok (.dup, 1)) ∧ (decode cX10_init 72 = .ok (.invokespecial 37, 3)) ∧ (decode cX10_init 75 = .ok (.putfield 42, 3)) ∧ (decode cX10_init 78 = .ok (.aload_n 0, 1)) ∧ (decode cX10_init 79 = .ok (.new 45, 3)) ∧ (decode cX10_init 82 = .ok (.dup, 1)) ∧ (decode cX10_init 83 = .ok (.invokespecial 47, 3)) := by decide +kernel
theorem dX10_init_68 : decode cX10_init 68 = .ok (.new 35, 3) := eX10_init_68q.1
theorem dX10_init_71 : decode cX10_init 71 = .ok (.dup, 1) := eX10_init_68q.2.1
theorem dX10_init_72 : decode cX10_init 72 = .ok (.invokespecial 37, 3) := eX10_init_68q.2.2.1
theorem dX10_init_75 : decode cX10_init 75 = .ok (.putfield 42, 3) := eX10_init_68q.2.2.2.1
theorem dX10_init_78 : decode cX10_init 78 = .ok (.aload_n 0, 1) := eX10_init_68q.2.2.2.2.1
theorem dX10_init_79 : decode cX10_init 79 = .ok (.new 45, 3) := eX10_init_68q.2.2.2.2.2.1
theorem dX10_init_82 : decode cX10_init 82 = .ok (.dup, 1) := eX10_init_68q.2.2.2.2.2.2.1
theorem dX10_init_83 : decode cX10_init 83 = .ok (.invokespecial 47, 3) := eX10_init_68q.2.2.2.2.2.2.2
theorem eX10_init_86q : (decode cX10_init 86 = .ok (.putfield 48, 3)) ∧ (decode cX10_init 89 = .ok (.aload_n 0, 1)) ∧ (decode cX10_init 90 = .ok (.new 52, 3)) ∧ (decode cX10_init 93 = .ok (.dup, 1)) ∧ (decode cX10_init 94 = .ok (.aload_n 0, 1)) ∧ (decode cX10_init 95 = .ok (.getfield 19, 3)) ∧ (decode cX10_init 98 = .ok (.aload_n 0, 1)) ∧ (decode cX10_init 99 = .ok (.getfield 38, 3)) := by decide +kernel
theorem dX10_init_86 : decode cX10_init 86 = .ok (.putfield 48, 3) := eX10_init_86q.1
theorem dX10_init_89 : decode cX10_init 89 = .ok (.aload_n 0, 1) := eX10_init_86q.2.1
theorem dX10_init_90 : decode cX10_init 90 = .ok (.new 52, 3) := eX10_init_86q.2.2.1
theorem dX10_init_93 : decode cX10_init 93 = .ok (.dup, 1) := eX10_init_86q.2.2.2.1
theorem dX10_init_94 : decode cX10_init 94 = .ok (.aload_n 0, 1) := eX10_init_86q.2.2.2.2.1
theorem dX10_init_95 : decode cX10_init 95 = .ok (.getfield 19, 3) := eX10_init_86q.2.2.2.2.2.1
theorem dX10_init_98 : decode cX10_init 98 = .ok (.aload_n 0, 1) := eX10_init_86q.2.2.2.2.2.2.1
theorem dX10_init_99 : decode cX10_init 99 = .ok (.getfield 38, 3) := eX10_init_86q.2.2.2.2.2.2.2
theorem eX10_init_102q : (decode cX10_init 102 = .ok (.invokespecial 54, 3)) ∧ (decode cX10_init 105 = .ok (.putfield 57, 3)) ∧ (decode cX10_init 108 = .ok (.aload_n 0, 1)) ∧ (decode cX10_init 109 = .ok (.new 61, 3)) ∧ (decode cX10_init 112 = .ok (.dup, 1)) ∧ (decode cX10_init 113 = .ok (.aload_n 0, 1)) ∧ (decode cX10_init 114 = .ok (.getfield 19, 3)) ∧ (decode cX10_init 117 = .ok (.aload_n 0, 1)) := by decide +kernel
theorem dX10_init_102 : decode cX10_init 102 = .ok (.invokespecial 54, 3) := eX10_init_102q.1
theorem dX10_init_105 : decode cX10_init 105 = .ok (.putfield 57, 3) := eX10_init_102q.2.1
theorem dX10_init_108 : decode cX10_init 108 = .ok (.aload_n 0, 1) := eX10_init_102q.2.2.1
theorem dX10_init_109 : decode cX10_init 109 = .ok (.new 61, 3) := eX10_init_102q.2.2.2.1
theorem dX10_init_112 : decode cX10_init 112 = .ok (.dup, 1) := eX10_init_102q.2.2.2.2.1
theorem dX10_init_113 : decode cX10_init 113 = .ok (.aload_n 0, 1) := eX10_init_102q.2.2.2.2.2.1
theorem dX10_init_114 : decode cX10_init 114 = .ok (.getfield 19, 3) := eX10_init_102q.2.2.2.2.2.2.1
theorem dX10_init_117 : decode cX10_init 117 = .ok (.aload_n 0, 1) := eX10_init_102q.2.2.2.2.2.2.2
theorem eX10_init_118q : (decode cX10_init 118 = .ok (.getfield 38, 3)) ∧ (decode cX10_init 121 = .ok (.invokespecial 63, 3)) ∧ (decode cX10_init 124 = .ok (.putfield 64, 3)) ∧ (decode cX10_init 127 = .ok (.aload_n 0, 1)) ∧ (decode cX10_init 128 = .ok (.new 68, 3)) ∧ (decode cX10_init 131 = .ok (.dup, 1)) ∧ (decode cX10_init 132 = .ok (.aload_n 0, 1)) ∧ (decode cX10_init 133 = .ok (.getfield 19, 3)) := by decide +kernel
theorem dX10_init_118 : decode cX10_init 118 = .ok (.getfield 38, 3) := eX10_init_118q.1
theorem dX10_init_121 : decode cX10_init 121 = .ok (.invokespecial 63, 3) := eX10_init_118q.2.1
theorem dX10_init_124 : decode cX10_init 124 = .ok (.putfield 64, 3) := eX10_init_118q.2.2.1
theorem dX10_init_127 : decode cX10_init 127 = .ok (.aload_n 0, 1) := eX10_init_118q.2.2.2.1
theorem dX10_init_128 : decode cX10_init 128 = .ok (.new 68, 3) := eX10_init_118q.2.2.2.2.1
theorem dX10_init_131 : decode cX10_init 131 = .ok (.dup, 1) := eX10_init_118q.2.2.2.2.2.1
theorem dX10_init_132 : decode cX10_init 132 = .ok (.aload_n 0, 1) := eX10_init_118q.2.2.2.2.2.2.1
theorem dX10_init_133 : decode cX10_init 133 = .ok (.getfield 19, 3) := eX10_init_118q.2.2.2.2.2.2.2
theorem eX10_init_136q : (decode cX10_init 136 = .ok (.aload_n 0, 1)) ∧ (decode cX10_init 137 = .ok (.getfield 38, 3)) ∧ (decode cX10_init 140 = .ok (.aload_n 0, 1)) ∧ (decode cX10_init 141 = .ok (.getfield 64, 3)) ∧ (decode cX10_init 144 = .ok (.aload_n 0, 1)) ∧ (decode cX10_init 145 = .ok (.getfield 48, 3)) ∧ (decode cX10_init 148 = .ok (.invokespecial 70, 3)) ∧ (decode cX10_init 151 = .ok (.putfield 73, 3)) := by decide +kernel
theorem dX10_init_136 : decode cX10_init 136 = .ok (.aload_n 0, 1) := eX10_init_136q.1
theorem dX10_init_137 : decode cX10_init 137 = .ok (.getfield 38, 3) := eX10_init_136q.2.1
theorem dX10_init_140 : decode cX10_init 140 = .ok (.aload_n 0, 1) := eX10_init_136q.2.2.1
theorem dX10_init_141 : decode cX10_init 141 = .ok (.getfield 64, 3) := eX10_init_136q.2.2.2.1
theorem dX10_init_144 : decode cX10_init 144 = .ok (.aload_n 0, 1) := eX10_init_136q.2.2.2.2.1
theorem dX10_init_145 : decode cX10_init 145 = .ok (.getfield 48, 3) := eX10_init_136q.2.2.2.2.2.1
theorem dX10_init_148 : decode cX10_init 148 = .ok (.invokespecial 70, 3) := eX10_init_136q.2.2.2.2.2.2.1
theorem dX10_init_151 : decode cX10_init 151 = .ok (.putfield 73, 3) := eX10_init_136q.2.2.2.2.2.2.2
theorem eX10_init_154q : (decode cX10_init 154 = .ok (.aload_n 0, 1)) ∧ (decode cX10_init 155 = .ok (.new 77, 3)) ∧ (decode cX10_init 158 = .ok (.dup, 1)) ∧ (decode cX10_init 159 = .ok (.aload_n 0, 1)) ∧ (decode cX10_init 160 = .ok (.getfield 19, 3)) ∧ (decode cX10_init 163 = .ok (.aload_n 0, 1)) ∧ (decode cX10_init 164 = .ok (.getfield 64, 3)) ∧ (decode cX10_init 167 = .ok (.invokespecial 79, 3)) := by decide +kernel
theorem dX10_init_154 : decode cX10_init 154 = .ok (.aload_n 0, 1) := eX10_init_154q.1
theorem dX10_init_155 : decode cX10_init 155 = .ok (.new 77, 3) := eX10_init_154q.2.1
theorem dX10_init_158 : decode cX10_init 158 = .ok (.dup, 1) := eX10_init_154q.2.2.1
theorem dX10_init_159 : decode cX10_init 159 = .ok (.aload_n 0, 1) := eX10_init_154q.2.2.2.1
theorem dX10_init_160 : decode cX10_init 160 = .ok (.getfield 19, 3) := eX10_init_154q.2.2.2.2.1
theorem dX10_init_163 : decode cX10_init 163 = .ok (.aload_n 0, 1) := eX10_init_154q.2.2.2.2.2.1
theorem dX10_init_164 : decode cX10_init 164 = .ok (.getfield 64, 3) := eX10_init_154q.2.2.2.2.2.2.1
theorem dX10_init_167 : decode cX10_init 167 = .ok (.invokespecial 79, 3) := eX10_init_154q.2.2.2.2.2.2.2
theorem eX10_init_170q : (decode cX10_init 170 = .ok (.putfield 82, 3)) ∧ (decode cX10_init 173 = .ok (.aload_n 0, 1)) ∧ (decode cX10_init 174 = .ok (.new 86, 3)) ∧ (decode cX10_init 177 = .ok (.dup, 1)) ∧ (decode cX10_init 178 = .ok (.invokespecial 88, 3)) ∧ (decode cX10_init 181 = .ok (.putfield 89, 3)) ∧ (decode cX10_init 184 = .ok (.aload_n 0, 1)) ∧ (decode cX10_init 185 = .ok (.iconst 3, 1)) := by decide +kernel
theorem dX10_init_170 : decode cX10_init 170 = .ok (.putfield 82, 3) := eX10_init_170q.1
theorem dX10_init_173 : decode cX10_init 173 = .ok (.aload_n 0, 1) := eX10_init_170q.2.1
theorem dX10_init_174 : decode cX10_init 174 = .ok (.new 86, 3) := eX10_init_170q.2.2.1
theorem dX10_init_177 : decode cX10_init 177 = .ok (.dup, 1) := eX10_init_170q.2.2.2.1
theorem dX10_init_178 : decode cX10_init 178 = .ok (.invokespecial 88, 3) := eX10_init_170q.2.2.2.2.1
theorem dX10_init_181 : decode cX10_init 181 = .ok (.putfield 89, 3) := eX10_init_170q.2.2.2.2.2.1
theorem dX10_init_184 : decode cX10_init 184 = .ok (.aload_n 0, 1) := eX10_init_170q.2.2.2.2.2.2.1
theorem dX10_init_185 : decode cX10_init 185 = .ok (.iconst 3, 1) := eX10_init_170q.2.2.2.2.2.2.2
theorem eX10_init_186q : (decode cX10_init 186 = .ok (.newarray .int, 2)) ∧ (decode cX10_init 188 = .ok (.putfield 93, 3)) ∧ (decode cX10_init 191 = .ok (.aload_n 0, 1)) ∧ (decode cX10_init 192 = .ok (.iconst 0, 1)) ∧ (decode cX10_init 193 = .ok (.putfield 97, 3)) ∧ (decode cX10_init 196 = .ok (.aload_n 0, 1)) ∧ (decode cX10_init 197 = .ok (.new 35, 3)) ∧ (decode cX10_init 200 = .ok (.dup, 1)) := by decide +kernel
theorem dX10_init_186 : decode cX10_init 186 = .ok (.newarray .int, 2) := eX10_init_186q.1
theorem dX10_init_188 : decode cX10_init 188 = .ok (.putfield 93, 3) := eX10_init_186q.2.1
theorem dX10_init_191 : decode cX10_init 191 = .ok (.aload_n 0, 1) := eX10_init_186q.2.2.1
theorem dX10_init_192 : decode cX10_init 192 = .ok (.iconst 0, 1) := eX10_init_186q.2.2.2.1
theorem dX10_init_193 : decode cX10_init 193 = .ok (.putfield 97, 3) := eX10_init_186q.2.2.2.2.1
theorem dX10_init_196 : decode cX10_init 196 = .ok (.aload_n 0, 1) := eX10_init_186q.2.2.2.2.2.1
theorem dX10_init_197 : decode cX10_init 197 = .ok (.new 35, 3) := eX10_init_186q.2.2.2.2.2.2.1
theorem dX10_init_200 : decode cX10_init 200 = .ok (.dup, 1) := eX10_init_186q.2.2.2.2.2.2.2
theorem eX10_init_201q : (decode cX10_init 201 = .ok (.invokespecial 37, 3)) ∧ (decode cX10_init 204 = .ok (.putfield 101, 3)) ∧ (decode cX10_init 207 = .ok (.aload_n 0, 1)) ∧ (decode cX10_init 208 = .ok (.new 86, 3)) ∧ (decode cX10_init 211 = .ok (.dup, 1)) ∧ (decode cX10_init 212 = .ok (.invokespecial 88, 3)) ∧ (decode cX10_init 215 = .ok (.putfield 104, 3)) ∧ (decode cX10_init 218 = .ok (.aload_n 0, 1)) := by decide +kernel
theorem dX10_init_201 : decode cX10_init 201 = .ok (.invokespecial 37, 3) := eX10_init_201q.1
theorem dX10_init_204 : decode cX10_init 204 = .ok (.putfield 101, 3) := eX10_init_201q.2.1
theorem dX10_init_207 : decode cX10_init 207 = .ok (.aload_n 0, 1) := eX10_init_201q.2.2.1
theorem dX10_init_208 : decode cX10_init 208 = .ok (.new 86, 3) := eX10_init_201q.2.2.2.1
theorem dX10_init_211 : decode cX10_init 211 = .ok (.dup, 1) := eX10_init_201q.2.2.2.2.1
theorem dX10_init_212 : decode cX10_init 212 = .ok (.invokespecial 88, 3) := eX10_init_201q.2.2.2.2.2.1
theorem dX10_init_215 : decode cX10_init 215 = .ok (.putfield 104, 3) := eX10_init_201q.2.2.2.2.2.2.1
theorem dX10_init_218 : decode cX10_init 218 = .ok (.aload_n 0, 1) := eX10_init_201q.2.2.2.2.2.2.2
theorem eX10_init_219q : (decode cX10_init 219 = .ok (.new 77, 3)) ∧ (decode cX10_init 222 = .ok (.dup, 1)) ∧ (decode cX10_init 223 = .ok (.aload_n 0, 1)) ∧ (decode cX10_init 224 = .ok (.getfield 19, 3)) ∧ (decode cX10_init 227 = .ok (.aload_n 0, 1)) ∧ (decode cX10_init 228 = .ok (.getfield 64, 3)) ∧ (decode cX10_init 231 = .ok (.invokespecial 79, 3)) ∧ (decode cX10_init 234 = .ok (.putfield 107, 3)) := by decide +kernel
theorem dX10_init_219 : decode cX10_init 219 = .ok (.new 77, 3) := eX10_init_219q.1
theorem dX10_init_222 : decode cX10_init 222 = .ok (.dup, 1) := eX10_init_219q.2.1
theorem dX10_init_223 : decode cX10_init 223 = .ok (.aload_n 0, 1) := eX10_init_219q.2.2.1
theorem dX10_init_224 : decode cX10_init 224 = .ok (.getfield 19, 3) := eX10_init_219q.2.2.2.1
theorem dX10_init_227 : decode cX10_init 227 = .ok (.aload_n 0, 1) := eX10_init_219q.2.2.2.2.1
theorem dX10_init_228 : decode cX10_init 228 = .ok (.getfield 64, 3) := eX10_init_219q.2.2.2.2.2.1
theorem dX10_init_231 : decode cX10_init 231 = .ok (.invokespecial 79, 3) := eX10_init_219q.2.2.2.2.2.2.1
theorem dX10_init_234 : decode cX10_init 234 = .ok (.putfield 107, 3) := eX10_init_219q.2.2.2.2.2.2.2
theorem eX10_init_237q : (decode cX10_init 237 = .ok (.aload_n 0, 1)) ∧ (decode cX10_init 238 = .ok (.iconst 3, 1)) ∧ (decode cX10_init 239 = .ok (.newarray .int, 2)) ∧ (decode cX10_init 241 = .ok (.putfield 110, 3)) ∧ (decode cX10_init 244 = .ok (.aload_n 0, 1)) ∧ (decode cX10_init 245 = .ok (.iconst (-1), 1)) ∧ (decode cX10_init 246 = .ok (.putfield 113, 3)) ∧ (decode cX10_init 249 = .ok (.return_, 1)) := by decide +kernel
theorem dX10_init_237 : decode cX10_init 237 = .ok (.aload_n 0, 1) := eX10_init_237q.1
theorem dX10_init_238 : decode cX10_init 238 = .ok (.iconst 3, 1) := eX10_init_237q.2.1
theorem dX10_init_239 : decode cX10_init 239 = .ok (.newarray .int, 2) := eX10_init_237q.2.2.1
theorem dX10_init_241 : decode cX10_init 241 = .ok (.putfield 110, 3) := eX10_init_237q.2.2.2.1
theorem dX10_init_244 : decode cX10_init 244 = .ok (.aload_n 0, 1) := eX10_init_237q.2.2.2.2.1
theorem dX10_init_245 : decode cX10_init 245 = .ok (.iconst (-1), 1) := eX10_init_237q.2.2.2.2.2.1
theorem dX10_init_246 : decode cX10_init 246 = .ok (.putfield 113, 3) := eX10_init_237q.2.2.2.2.2.2.1
theorem dX10_init_249 : decode cX10_init 249 = .ok (.return_, 1) := eX10_init_237q.2.2.2.2.2.2.2
theorem eX11_init_0q : (decode cX11_init 0 = .ok (.aload_n 0, 1)) ∧ (decode cX11_init 1 = .ok (.invokespecial 1, 3)) ∧ (decode cX11_init 4 = .ok (.aload_n 0, 1)) ∧ (decode cX11_init 5 = .ok (.iconst 4, 1)) ∧ (decode cX11_init 6 = .ok (.anewarray 7, 3)) ∧ (decode cX11_init 9 = .ok (.dup, 1)) ∧ (decode cX11_init 10 = .ok (.iconst 0, 1)) ∧ (decode cX11_init 11 = .ok (.ldc 9, 2)) := by decide +kernel
theorem dX11_init_0 : decode cX11_init 0 = .ok (.aload_n 0, 1) := eX11_init_0q.1
theorem dX11_init_1 : decode cX11_init 1 = .ok (.invokespecial 1, 3) := eX11_init_0q.2.1
theorem dX11_init_4 : decode cX11_init 4 = .ok (.aload_n 0, 1) := eX11_init_0q.2.2.1
theorem dX11_init_5 : decode cX11_init 5 = .ok (.iconst 4, 1) := eX11_init_0q.2.2.2.1
theorem dX11_init_6 : decode cX11_init 6 = .ok (.anewarray 7, 3) := eX11_init_0q.2.2.2.2.1
theorem dX11_init_9 : decode cX11_init 9 = .ok (.dup, 1) := eX11_init_0q.2.2.2.2.2.1
theorem dX11_init_10 : decode cX11_init 10 = .ok (.iconst 0, 1) := eX11_init_0q.2.2.2.2.2.2.1
theorem dX11_init_11 : decode cX11_init 11 = .ok (.ldc 9, 2) := eX11_init_0q.2.2.2.2.2.2.2
theorem eX11_init_13q : (decode cX11_init 13 = .ok (.aastore, 1)) ∧ (decode cX11_init 14 = .ok (.dup, 1)) ∧ (decode cX11_init 15 = .ok (.iconst 1, 1)) ∧ (decode cX11_init 16 = .ok (.ldc 11, 2)) ∧ (decode cX11_init 18 = .ok (.aastore, 1)) ∧ (decode cX11_init 19 = .ok (.dup, 1)) ∧ (decode cX11_init 20 = .ok (.iconst 2, 1)) ∧ (decode cX11_init 21 = .ok (.ldc 13, 2)) := by decide +kernel
theorem dX11_init_13 : decode cX11_init 13 = .ok (.aastore, 1) := eX11_init_13q.1
theorem dX11_init_14 : decode cX11_init 14 = .ok (.dup, 1) := eX11_init_13q.2.1
theorem dX11_init_15 : decode cX11_init 15 = .ok (.iconst 1, 1) := eX11_init_13q.2.2.1
theorem dX11_init_16 : decode cX11_init 16 = .ok (.ldc 11, 2) := eX11_init_13q.2.2.2.1
theorem dX11_init_18 : decode cX11_init 18 = .ok (.aastore, 1) := eX11_init_13q.2.2.2.2.1
theorem dX11_init_19 : decode cX11_init 19 = .ok (.dup, 1) := eX11_init_13q.2.2.2.2.2.1
theorem dX11_init_20 : decode cX11_init 20 = .ok (.iconst 2, 1) := eX11_init_13q.2.2.2.2.2.2.1
theorem dX11_init_21 : decode cX11_init 21 = .ok (.ldc 13, 2) := eX11_init_13q.2.2.2.2.2.2.2
theorem eX11_init_23q : (decode cX11_init 23 = .ok (.aastore, 1)) ∧ (decode cX11_init 24 = .ok (.dup, 1)) ∧ (decode cX11_init 25 = .ok (.iconst 3, 1)) ∧ (decode cX11_init 26 = .ok (.ldc 15, 2)) ∧ (decode cX11_init 28 = .ok (.aastore, 1)) ∧ (decode cX11_init 29 = .ok (.putfield 17, 3)) ∧ (decode cX11_init 32 = .ok (.aload_n 0, 1)) ∧ (decode cX11_init 33 = .ok (.iconst 4, 1)) := by decide +kernel
theorem dX11_init_23 : decode cX11_init 23 = .ok (.aastore, 1) := eX11_init_23q.1
theorem dX11_init_24 : decode cX11_init 24 = .ok (.dup, 1) := eX11_init_23q.2.1
theorem dX11_init_25 : decode cX11_init 25 = .ok (.iconst 3, 1) := eX11_init_23q.2.2.1
theorem dX11_init_26 : decode cX11_init 26 = .ok (.ldc 15, 2) := eX11_init_23q.2.2.2.1
theorem dX11_init_28 : decode cX11_init 28 = .ok (.aastore, 1) := eX11_init_23q.2.2.2.2.1
theorem dX11_init_29 : decode cX11_init 29 = .ok (.putfield 17, 3) := eX11_init_23q.2.2.2.2.2.1
theorem dX11_init_32 : decode cX11_init 32 = .ok (.aload_n 0, 1) := eX11_init_23q.2.2.2.2.2.2.1
theorem dX11_init_33 : decode cX11_init 33 = .ok (.iconst 4, 1) := eX11_init_23q.2.2.2.2.2.2.2
theorem eX11_init_34q : (decode cX11_init 34 = .ok (.anewarray 7, 3)) ∧ (decode cX11_init 37 = .ok (.dup, 1)) ∧ (decode cX11_init 38 = .ok (.iconst 0, 1)) ∧ (decode cX11_init 39 = .ok (.ldc 23, 2)) ∧ (decode cX11_init 41 = .ok (.aastore, 1)) ∧ (decode cX11_init 42 = .ok (.dup, 1)) ∧ (decode cX11_init 43 = .ok (.iconst 1, 1)) ∧ (decode cX11_init 44 = .ok (.ldc 25, 2)) := by decide +kernel
theorem dX11_init_34 : decode cX11_init 34 = .ok (.anewarray 7, 3) := eX11_init_34q.1
theorem dX11_init_37 : decode cX11_init 37 = .ok (.dup, 1) := eX11_init_34q.2.1
theorem dX11_init_38 : decode cX11_init 38 = .ok (.iconst 0, 1) := eX11_init_34q.2.2.1
theorem dX11_init_39 : decode cX11_init 39 = .ok (.ldc 23, 2) := eX11_init_34q.2.2.2.1
theorem dX11_init_41 : decode cX11_init 41 = .ok (.aastore, 1) := eX11_init_34q.2.2.2.2.1
theorem dX11_init_42 : decode cX11_init 42 = .ok (.dup, 1) := eX11_init_34q.2.2.2.2.2.1
theorem dX11_init_43 : decode cX11_init 43 = .ok (.iconst 1, 1) := eX11_init_34q.2.2.2.2.2.2.1
theorem dX11_init_44 : decode cX11_init 44 = .ok (.ldc 25, 2) := eX11_init_34q.2.2.2.2.2.2.2
theorem eX11_init_46q : (decode cX11_init 46 = .ok (.aastore, 1)) ∧ (decode cX11_init 47 = .ok (.dup, 1)) ∧ (decode cX11_init 48 = .ok (.iconst 2, 1)) ∧ (decode cX11_init 49 = .ok (.ldc 27, 2)) ∧ (decode cX11_init 51 = .ok (.aastore, 1)) ∧ (decode cX11_init 52 = .ok (.dup, 1)) ∧ (decode cX11_init 53 = .ok (.iconst 3, 1)) ∧ (decode cX11_init 54 = .ok (.ldc 29, 2)) := by decide +kernel
theorem dX11_init_46 : decode cX11_init 46 = .ok (.aastore, 1) := eX11_init_46q.1
theorem dX11_init_47 : decode cX11_init 47 = .ok (.dup, 1) := eX11_init_46q.2.1
theorem dX11_init_48 : decode cX11_init 48 = .ok (.iconst 2, 1) := eX11_init_46q.2.2.1
theorem dX11_init_49 : decode cX11_init 49 = .ok (.ldc 27, 2) := eX11_init_46q.2.2.2.1
theorem dX11_init_51 : decode cX11_init 51 = .ok (.aastore, 1) := eX11_init_46q.2.2.2.2.1
theorem dX11_init_52 : decode cX11_init 52 = .ok (.dup, 1) := eX11_init_46q.2.2.2.2.2.1
theorem dX11_init_53 : decode cX11_init 53 = .ok (.iconst 3, 1) := eX11_init_46q.2.2.2.2.2.2.1
theorem dX11_init_54 : decode cX11_init 54 = .ok (.ldc 29, 2) := eX11_init_46q.2.2.2.2.2.2.2
theorem eX11_init_56q : (decode cX11_init 56 = .ok (.aastore, 1)) ∧ (decode cX11_init 57 = .ok (.putfield 31, 3)) ∧ (decode cX11_init 60 = .ok (.aload_n 0, 1)) ∧ (decode cX11_init 61 = .ok (.bipush 8, 2)) ∧ (decode cX11_init 63 = .ok (.newarray .int, 2)) ∧ (decode cX11_init 65 = .ok (.putfield 34, 3)) ∧ (decode cX11_init 68 = .ok (.aload_n 0, 1)) ∧ (decode cX11_init 69 = .ok (.bipush 24, 2)) := by decide +kernel
theorem dX11_init_56 : decode cX11_init 56 = .ok (.aastore, 1) := eX11_init_56q.1
theorem dX11_init_57 : decode cX11_init 57 = .ok (.putfield 31, 3) := eX11_init_56q.2.1
theorem dX11_init_60 : decode cX11_init 60 = .ok (.aload_n 0, 1) := eX11_init_56q.2.2.1
theorem dX11_init_61 : decode cX11_init 61 = .ok (.bipush 8, 2) := eX11_init_56q.2.2.2.1
theorem dX11_init_63 : decode cX11_init 63 = .ok (.newarray .int, 2) := eX11_init_56q.2.2.2.2.1
theorem dX11_init_65 : decode cX11_init 65 = .ok (.putfield 34, 3) := eX11_init_56q.2.2.2.2.2.1
theorem dX11_init_68 : decode cX11_init 68 = .ok (.aload_n 0, 1) := eX11_init_56q.2.2.2.2.2.2.1
theorem dX11_init_69 : decode cX11_init 69 = .ok (.bipush 24, 2) := eX11_init_56q.2.2.2.2.2.2.2
theorem eX11_init_71q : (decode cX11_init 71 = .ok (.newarray .int, 2)) ∧ (decode cX11_init 73 = .ok (.putfield 38, 3)) ∧ (decode cX11_init 76 = .ok (.aload_n 0, 1)) ∧ (decode cX11_init 77 = .ok (.bipush 24, 2)) ∧ (decode cX11_init 79 = .ok (.newarray .int, 2)) ∧ (decode cX11_init 81 = .ok (.putfield 41, 3)) ∧ (decode cX11_init 84 = .ok (.aload_n 0, 1)) ∧ (decode cX11_init 85 = .ok (.bipush 24, 2)) := by decide +kernel
theorem dX11_init_71 : decode cX11_init 71 = .ok (.newarray .int, 2) := eX11_init_71q.1
theorem dX11_init_73 : decode cX11_init 73 = .ok (.putfield 38, 3) := eX11_init_71q.2.1
theorem dX11_init_76 : decode cX11_init 76 = .ok (.aload_n 0, 1) := eX11_init_71q.2.2.1
theorem dX11_init_77 : decode cX11_init 77 = .ok (.bipush 24, 2) := eX11_init_71q.2.2.2.1
theorem dX11_init_79 : decode cX11_init 79 = .ok (.newarray .int, 2) := eX11_init_71q.2.2.2.2.1
theorem dX11_init_81 : decode cX11_init 81 = .ok (.putfield 41, 3) := eX11_init_71q.2.2.2.2.2.1
theorem dX11_init_84 : decode cX11_init 84 = .ok (.aload_n 0, 1) := eX11_init_71q.2.2.2.2.2.2.1
theorem dX11_init_85 : decode cX11_init 85 = .ok (.bipush 24, 2) := eX11_init_71q.2.2.2.2.2.2.2
theorem eX11_init_87q : (decode cX11_init 87 = .ok (.newarray .int, 2)) ∧ (decode cX11_init 89 = .ok (.putfield 44, 3)) ∧ (decode cX11_init 92 = .ok (.aload_n 0, 1)) ∧ (decode cX11_init 93 = .ok (.bipush 24, 2)) ∧ (decode cX11_init 95 = .ok (.newarray .int, 2)) ∧ (decode cX11_init 97 = .ok (.putfield 47, 3)) ∧ (decode cX11_init 100 = .ok (.aload_n 0, 1)) ∧ (decode cX11_init 101 = .ok (.bipush 24, 2)) := by decide +kernel
theorem dX11_init_87 : decode cX11_init 87 = .ok (.newarray .int, 2) := eX11_init_87q.1
theorem dX11_init_89 : decode cX11_init 89 = .ok (.putfield 44, 3) := eX11_init_87q.2.1
theorem dX11_init_92 : decode cX11_init 92 = .ok (.aload_n 0, 1) := eX11_init_87q.2.2.1
theorem dX11_init_93 : decode cX11_init 93 = .ok (.bipush 24, 2) := eX11_init_87q.2.2.2.1
theorem dX11_init_95 : decode cX11_init 95 = .ok (.newarray .int, 2) := eX11_init_87q.2.2.2.2.1
theorem dX11_init_97 : decode cX11_init 97 = .ok (.putfield 47, 3) := eX11_init_87q.2.2.2.2.2.1
theorem dX11_init_100 : decode cX11_init 100 = .ok (.aload_n 0, 1) := eX11_init_87q.2.2.2.2.2.2.1
theorem dX11_init_101 : decode cX11_init 101 = .ok (.bipush 24, 2) := eX11_init_87q.2.2.2.2.2.2.2
theorem eX11_init_103q : (decode cX11_init 103 = .ok (.newarray .int, 2)) ∧ (decode cX11_init 105 = .ok (.putfield 50, 3)) ∧ (decode cX11_init 108 = .ok (.aload_n 0, 1)) ∧ (decode cX11_init 109 = .ok (.bipush 40, 2)) ∧ (decode cX11_init 111 = .ok (.newarray .int, 2)) ∧ (decode cX11_init 113 = .ok (.putfield 53, 3)) ∧ (decode cX11_init 116 = .ok (.aload_n 0, 1)) ∧ (decode cX11_init 117 = .ok (.bipush 40, 2)) := by decide +kernel
theorem dX11_init_103 : decode cX11_init 103 = .ok (.newarray .int, 2) := eX11_init_103q.1
theorem dX11_init_105 : decode cX11_init 105 = .ok (.putfield 50, 3) := eX11_init_103q.2.1
theorem dX11_init_108 : decode cX11_init 108 = .ok (.aload_n 0, 1) := eX11_init_103q.2.2.1
theorem dX11_init_109 : decode cX11_init 109 = .ok (.bipush 40, 2) := eX11_init_103q.2.2.2.1
theorem dX11_init_111 : decode cX11_init 111 = .ok (.newarray .int, 2) := eX11_init_103q.2.2.2.2.1
theorem dX11_init_113 : decode cX11_init 113 = .ok (.putfield 53, 3) := eX11_init_103q.2.2.2.2.2.1
theorem dX11_init_116 : decode cX11_init 116 = .ok (.aload_n 0, 1) := eX11_init_103q.2.2.2.2.2.2.1
theorem dX11_init_117 : decode cX11_init 117 = .ok (.bipush 40, 2) := eX11_init_103q.2.2.2.2.2.2.2
theorem eX11_init_119q : (decode cX11_init 119 = .ok (.newarray .int, 2)) ∧ (decode cX11_init 121 = .ok (.putfield 56, 3)) ∧ (decode cX11_init 124 = .ok (.aload_n 0, 1)) ∧ (decode cX11_init 125 = .ok (.bipush 6, 2)) ∧ (decode cX11_init 127 = .ok (.newarray .int, 2)) ∧ (decode cX11_init 129 = .ok (.putfield 58, 3)) ∧ (decode cX11_init 132 = .ok (.aload_n 0, 1)) ∧ (decode cX11_init 133 = .ok (.sipush 1019, 3)) := by decide +kernel
theorem dX11_init_119 : decode cX11_init 119 = .ok (.newarray .int, 2) := eX11_init_119q.1
theorem dX11_init_121 : decode cX11_init 121 = .ok (.putfield 56, 3) := eX11_init_119q.2.1
theorem dX11_init_124 : decode cX11_init 124 = .ok (.aload_n 0, 1) := eX11_init_119q.2.2.1
theorem dX11_init_125 : decode cX11_init 125 = .ok (.bipush 6, 2) := eX11_init_119q.2.2.2.1
theorem dX11_init_127 : decode cX11_init 127 = .ok (.newarray .int, 2) := eX11_init_119q.2.2.2.2.1
theorem dX11_init_129 : decode cX11_init 129 = .ok (.putfield 58, 3) := eX11_init_119q.2.2.2.2.2.1
theorem dX11_init_132 : decode cX11_init 132 = .ok (.aload_n 0, 1) := eX11_init_119q.2.2.2.2.2.2.1
theorem dX11_init_133 : decode cX11_init 133 = .ok (.sipush 1019, 3) := eX11_init_119q.2.2.2.2.2.2.2
theorem eX11_init_136q : (decode cX11_init 136 = .ok (.newarray .int, 2)) ∧ (decode cX11_init 138 = .ok (.putfield 60, 3)) ∧ (decode cX11_init 141 = .ok (.aload_n 0, 1)) ∧ (decode cX11_init 142 = .ok (.iconst 3, 1)) ∧ (decode cX11_init 143 = .ok (.newarray .int, 2)) ∧ (decode cX11_init 145 = .ok (.putfield 63, 3)) ∧ (decode cX11_init 148 = .ok (.aload_n 0, 1)) ∧ (decode cX11_init 149 = .ok (.sipush 700, 3)) := by decide +kernel
theorem dX11_init_136 : decode cX11_init 136 = .ok (.newarray .int, 2) := eX11_init_136q.1
theorem dX11_init_138 : decode cX11_init 138 = .ok (.putfield 60, 3) := eX11_init_136q.2.1
theorem dX11_init_141 : decode cX11_init 141 = .ok (.aload_n 0, 1) := eX11_init_136q.2.2.1
theorem dX11_init_142 : decode cX11_init 142 = .ok (.iconst 3, 1) := eX11_init_136q.2.2.2.1
theorem dX11_init_143 : decode cX11_init 143 = .ok (.newarray .int, 2) := eX11_init_136q.2.2.2.2.1
theorem dX11_init_145 : decode cX11_init 145 = .ok (.putfield 63, 3) := eX11_init_136q.2.2.2.2.2.1
theorem dX11_init_148 : decode cX11_init 148 = .ok (.aload_n 0, 1) := eX11_init_136q.2.2.2.2.2.2.1
theorem dX11_init_149 : decode cX11_init 149 = .ok (.sipush 700, 3) := eX11_init_136q.2.2.2.2.2.2.2
theorem eX11_init_152q : (decode cX11_init 152 = .ok (.newarray .int, 2)) ∧ (decode cX11_init 154 = .ok (.putfield 66, 3)) ∧ (decode cX11_init 157 = .ok (.aload_n 0, 1)) ∧ (decode cX11_init 158 = .ok (.iconst (-1), 1)) ∧ (decode cX11_init 159 = .ok (.putfield 69, 3)) ∧ (decode cX11_init 162 = .ok (.aload_n 0, 1)) ∧ (decode cX11_init 163 = .ok (.bipush 12, 2)) ∧ (decode cX11_init 165 = .ok (.newarray .int, 2)) := by decide +kernel
theorem dX11_init_152 : decode cX11_init 152 = .ok (.newarray .int, 2) := eX11_init_152q.1
theorem dX11_init_154 : decode cX11_init 154 = .ok (.putfield 66, 3) := eX11_init_152q.2.1
theorem dX11_init_157 : decode cX11_init 157 = .ok (.aload_n 0, 1) := eX11_init_152q.2.2.1
theorem dX11_init_158 : decode cX11_init 158 = .ok (.iconst (-1), 1) := eX11_init_152q.2.2.2.1
theorem dX11_init_159 : decode cX11_init 159 = .ok (.putfield 69, 3) := eX11_init_152q.2.2.2.2.1
theorem dX11_init_162 : decode cX11_init 162 = .ok (.aload_n 0, 1) := eX11_init_152q.2.2.2.2.2.1
theorem dX11_init_163 : decode cX11_init 163 = .ok (.bipush 12, 2) := eX11_init_152q.2.2.2.2.2.2.1
theorem dX11_init_165 : decode cX11_init 165 = .ok (.newarray .int, 2) := eX11_init_152q.2.2.2.2.2.2.2
theorem eX11_init_167q : (decode cX11_init 167 = .ok (.putfield 73, 3)) ∧ (decode cX11_init 170 = .ok (.aload_n 0, 1)) ∧ (decode cX11_init 171 = .ok (.iconst (-1), 1)) ∧ (decode cX11_init 172 = .ok (.putfield 76, 3)) ∧ (decode cX11_init 175 = .ok (.aload_n 0, 1)) ∧ (decode cX11_init 176 = .ok (.bipush 24, 2)) ∧ (decode cX11_init 178 = .ok (.newarray .long, 2)) ∧ (decode cX11_init 180 = .ok (.putfield 79, 3)) := by decide +kernel
theorem dX11_init_167 : decode cX11_init 167 = .ok (.putfield 73, 3) := eX11_init_167q.1
theorem dX11_init_170 : decode cX11_init 170 = .ok (.aload_n 0, 1) := eX11_init_167q.2.1
theorem dX11_init_171 : decode cX11_init 171 = .ok (.iconst (-1), 1) := eX11_init_167q.2.2.1
theorem dX11_init_172 : decode cX11_init 172 = .ok (.putfield 76, 3) := eX11_init_167q.2.2.2.1
theorem dX11_init_175 : decode cX11_init 175 = .ok (.aload_n 0, 1) := eX11_init_167q.2.2.2.2.1
theorem dX11_init_176 : decode cX11_init 176 = .ok (.bipush 24, 2) := eX11_init_167q.2.2.2.2.2.1
theorem dX11_init_178 : decode cX11_init 178 = .ok (.newarray .long, 2) := eX11_init_167q.2.2.2.2.2.2.1
theorem dX11_init_180 : decode cX11_init 180 = .ok (.putfield 79, 3) := eX11_init_167q.2.2.2.2.2.2.2
theorem eX11_init_183q : (decode cX11_init 183 = .ok (.aload_n 0, 1)) ∧ (decode cX11_init 184 = .ok (.ldc 83, 2)) ∧ (decode cX11_init 186 = .ok (.newarray .int, 2)) ∧ (decode cX11_init 188 = .ok (.putfield 84, 3)) ∧ (decode cX11_init 191 = .ok (.aload_n 0, 1)) ∧ (decode cX11_init 192 = .ok (.sipush 168, 3)) ∧ (decode cX11_init 195 = .ok (.newarray .boolean, 2)) ∧ (decode cX11_init 197 = .ok (.putfield 87, 3)) := by decide +kernel
theorem dX11_init_183 : decode cX11_init 183 = .ok (.aload_n 0, 1) := eX11_init_183q.1
theorem dX11_init_184 : decode cX11_init 184 = .ok (.ldc 83, 2) := eX11_init_183q.2.1
theorem dX11_init_186 : decode cX11_init 186 = .ok (.newarray .int, 2) := eX11_init_183q.2.2.1
theorem dX11_init_188 : decode cX11_init 188 = .ok (.putfield 84, 3) := eX11_init_183q.2.2.2.1
theorem dX11_init_191 : decode cX11_init 191 = .ok (.aload_n 0, 1) := eX11_init_183q.2.2.2.2.1
theorem dX11_init_192 : decode cX11_init 192 = .ok (.sipush 168, 3) := eX11_init_183q.2.2.2.2.2.1
theorem dX11_init_195 : decode cX11_init 195 = .ok (.newarray .boolean, 2) := eX11_init_183q.2.2.2.2.2.2.1
theorem dX11_init_197 : decode cX11_init 197 = .ok (.putfield 87, 3) := eX11_init_183q.2.2.2.2.2.2.2
theorem eX11_init_200q : (decode cX11_init 200 = .ok (.aload_n 0, 1)) ∧ (decode cX11_init 201 = .ok (.bipush 12, 2)) ∧ (decode cX11_init 203 = .ok (.newarray .int, 2)) ∧ (decode cX11_init 205 = .ok (.putfield 91, 3)) ∧ (decode cX11_init 208 = .ok (.aload_n 0, 1)) ∧ (decode cX11_init 209 = .ok (.bipush 12, 2)) ∧ (decode cX11_init 211 = .ok (.newarray .int, 2)) ∧ (decode cX11_init 213 = .ok (.putfield 94, 3)) := by decide +kernel
theorem dX11_init_200 : decode cX11_init 200 = .ok (.aload_n 0, 1) := eX11_init_200q.1
theorem dX11_init_201 : decode cX11_init 201 = .ok (.bipush 12, 2) := eX11_init_200q.2.1
theorem dX11_init_203 : decode cX11_init 203 = .ok (.newarray .int, 2) := eX11_init_200q.2.2.1
theorem dX11_init_205 : decode cX11_init 205 = .ok (.putfield 91, 3) := eX11_init_200q.2.2.2.1
theorem dX11_init_208 : decode cX11_init 208 = .ok (.aload_n 0, 1) := eX11_init_200q.2.2.2.2.1
theorem dX11_init_209 : decode cX11_init 209 = .ok (.bipush 12, 2) := eX11_init_200q.2.2.2.2.2.1
theorem dX11_init_211 : decode cX11_init 211 = .ok (.newarray .int, 2) := eX11_init_200q.2.2.2.2.2.2.1
theorem dX11_init_213 : decode cX11_init 213 = .ok (.putfield 94, 3) := eX11_init_200q.2.2.2.2.2.2.2
theorem eX11_init_216q : (decode cX11_init 216 = .ok (.aload_n 0, 1)) ∧ (decode cX11_init 217 = .ok (.bipush 10, 2)) ∧ (decode cX11_init 219 = .ok (.newarray .int, 2)) ∧ (decode cX11_init 221 = .ok (.putfield 97, 3)) ∧ (decode cX11_init 224 = .ok (.aload_n 0, 1)) ∧ (decode cX11_init 225 = .ok (.bipush 10, 2)) ∧ (decode cX11_init 227 = .ok (.newarray .int, 2)) ∧ (decode cX11_init 229 = .ok (.putfield 100, 3)) := by decide +kernel
theorem dX11_init_216 : decode cX11_init 216 = .ok (.aload_n 0, 1) := eX11_init_216q.1
theorem dX11_init_217 : decode cX11_init 217 = .ok (.bipush 10, 2) := eX11_init_216q.2.1
theorem dX11_init_219 : decode cX11_init 219 = .ok (.newarray .int, 2) := eX11_init_216q.2.2.1
theorem dX11_init_221 : decode cX11_init 221 = .ok (.putfield 97, 3) := eX11_init_216q.2.2.2.1
theorem dX11_init_224 : decode cX11_init 224 = .ok (.aload_n 0, 1) := eX11_init_216q.2.2.2.2.1
theorem dX11_init_225 : decode cX11_init 225 = .ok (.bipush 10, 2) := eX11_init_216q.2.2.2.2.2.1
theorem dX11_init_227 : decode cX11_init 227 = .ok (.newarray .int, 2) := eX11_init_216q.2.2.2.2.2.2.1
theorem dX11_init_229 : decode cX11_init 229 = .ok (.putfield 100, 3) := eX11_init_216q.2.2.2.2.2.2.2
theorem eX11_init_232q : (decode cX11_init 232 = .ok (.aload_n 0, 1)) ∧ (decode cX11_init 233 = .ok (.bipush 8, 2)) ∧ (decode cX11_init 235 = .ok (.newarray .int, 2)) ∧ (decode cX11_init 237 = .ok (.putfield 103, 3)) ∧ (decode cX11_init 240 = .ok (.aload_n 0, 1)) ∧ (decode cX11_init 241 = .ok (.bipush 8, 2)) ∧ (decode cX11_init 243 = .ok (.newarray .int, 2)) ∧ (decode cX11_init 245 = .ok (.putfield 106, 3)) := by decide +kernel
theorem dX11_init_232 : decode cX11_init 232 = .ok (.aload_n 0, 1) := eX11_init_232q.1
theorem dX11_init_233 : decode cX11_init 233 = .ok (.bipush 8, 2) := eX11_init_232q.2.1
theorem dX11_init_235 : decode cX11_init 235 = .ok (.newarray .int, 2) := eX11_init_232q.2.2.1
theorem dX11_init_237 : decode cX11_init 237 = .ok (.putfield 103, 3) := eX11_init_232q.2.2.2.1
theorem dX11_init_240 : decode cX11_init 240 = .ok (.aload_n 0, 1) := eX11_init_232q.2.2.2.2.1
theorem dX11_init_241 : decode cX11_init 241 = .ok (.bipush 8, 2) := eX11_init_232q.2.2.2.2.2.1
theorem dX11_init_243 : decode cX11_init 243 = .ok (.newarray .int, 2) := eX11_init_232q.2.2.2.2.2.2.1
theorem dX11_init_245 : decode cX11_init 245 = .ok (.putfield 106, 3) := eX11_init_232q.2.2.2.2.2.2.2
theorem eX11_init_248q : (decode cX11_init 248 = .ok (.aload_n 0, 1)) ∧ (decode cX11_init 249 = .ok (.bipush 8, 2)) ∧ (decode cX11_init 251 = .ok (.newarray .int, 2)) ∧ (decode cX11_init 253 = .ok (.putfield 109, 3)) ∧ (decode cX11_init 256 = .ok (.aload_n 0, 1)) ∧ (decode cX11_init 257 = .ok (.bipush 8, 2)) ∧ (decode cX11_init 259 = .ok (.newarray .int, 2)) ∧ (decode cX11_init 261 = .ok (.putfield 112, 3)) := by decide +kernel
theorem dX11_init_248 : decode cX11_init 248 = .ok (.aload_n 0, 1) := eX11_init_248q.1
theorem dX11_init_249 : decode cX11_init 249 = .ok (.bipush 8, 2) := eX11_init_248q.2.1
theorem dX11_init_251 : decode cX11_init 251 = .ok (.newarray .int, 2) := eX11_init_248q.2.2.1
theorem dX11_init_253 : decode cX11_init 253 = .ok (.putfield 109, 3) := eX11_init_248q.2.2.2.1
theorem dX11_init_256 : decode cX11_init 256 = .ok (.aload_n 0, 1) := eX11_init_248q.2.2.2.2.1
theorem dX11_init_257 : decode cX11_init 257 = .ok (.bipush 8, 2) := eX11_init_248q.2.2.2.2.2.1
theorem dX11_init_259 : decode cX11_init 259 = .ok (.newarray .int, 2) := eX11_init_248q.2.2.2.2.2.2.1
theorem dX11_init_261 : decode cX11_init 261 = .ok (.putfield 112, 3) := eX11_init_248q.2.2.2.2.2.2.2
theorem eX11_init_264q : (decode cX11_init 264 = .ok (.aload_n 0, 1)) ∧ (decode cX11_init 265 = .ok (.bipush 64, 2)) ∧ (decode cX11_init 267 = .ok (.newarray .boolean, 2)) ∧ (decode cX11_init 269 = .ok (.putfield 115, 3)) ∧ (decode cX11_init 272 = .ok (.aload_n 0, 1)) ∧ (decode cX11_init 273 = .ok (.sipush 1019, 3)) ∧ (decode cX11_init 276 = .ok (.newarray .int, 2)) ∧ (decode cX11_init 278 = .ok (.putfield 118, 3)) := by decide +kernel
theorem dX11_init_264 : decode cX11_init 264 = .ok (.aload_n 0, 1) := eX11_init_264q.1
theorem dX11_init_265 : decode cX11_init 265 = .ok (.bipush 64, 2) := eX11_init_264q.2.1
theorem dX11_init_267 : decode cX11_init 267 = .ok (.newarray .boolean, 2) := eX11_init_264q.2.2.1
theorem dX11_init_269 : decode cX11_init 269 = .ok (.putfield 115, 3) := eX11_init_264q.2.2.2.1
theorem dX11_init_272 : decode cX11_init 272 = .ok (.aload_n 0, 1) := eX11_init_264q.2.2.2.2.1
theorem dX11_init_273 : decode cX11_init 273 = .ok (.sipush 1019, 3) := eX11_init_264q.2.2.2.2.2.1
theorem dX11_init_276 : decode cX11_init 276 = .ok (.newarray .int, 2) := eX11_init_264q.2.2.2.2.2.2.1
theorem dX11_init_278 : decode cX11_init 278 = .ok (.putfield 118, 3) := eX11_init_264q.2.2.2.2.2.2.2
theorem eX11_init_281q : (decode cX11_init 281 = .ok (.aload_n 0, 1)) ∧ (decode cX11_init 282 = .ok (.sipush 1019, 3)) ∧ (decode cX11_init 285 = .ok (.newarray .int, 2)) ∧ (decode cX11_init 287 = .ok (.putfield 121, 3)) ∧ (decode cX11_init 290 = .ok (.aload_n 0, 1)) ∧ (decode cX11_init 291 = .ok (.ldc 83, 2)) ∧ (decode cX11_init 293 = .ok (.newarray .int, 2)) ∧ (decode cX11_init 295 = .ok (.putfield 124, 3)) := by decide +kernel
theorem dX11_init_281 : decode cX11_init 281 = .ok (.aload_n 0, 1) := eX11_init_281q.1
theorem dX11_init_282 : decode cX11_init 282 = .ok (.sipush 1019, 3) := eX11_init_281q.2.1
theorem dX11_init_285 : decode cX11_init 285 = .ok (.newarray .int, 2) := eX11_init_281q.2.2.1
theorem dX11_init_287 : decode cX11_init 287 = .ok (.putfield 121, 3) := eX11_init_281q.2.2.2.1
theorem dX11_init_290 : decode cX11_init 290 = .ok (.aload_n 0, 1) := eX11_init_281q.2.2.2.2.1
theorem dX11_init_291 : decode cX11_init 291 = .ok (.ldc 83, 2) := eX11_init_281q.2.2.2.2.2.1
theorem dX11_init_293 : decode cX11_init 293 = .ok (.newarray .int, 2) := eX11_init_281q.2.2.2.2.2.2.1
theorem dX11_init_295 : decode cX11_init 295 = .ok (.putfield 124, 3) := eX11_init_281q.2.2.2.2.2.2.2
theorem eX11_init_298q : (decode cX11_init 298 = .ok (.aload_n 0, 1)) ∧ (decode cX11_init 299 = .ok (.bipush 8, 2)) ∧ (decode cX11_init 301 = .ok (.newarray .int, 2)) ∧ (decode cX11_init 303 = .ok (.putfield 127, 3)) ∧ (decode cX11_init 306 = .ok (.aload_n 0, 1)) ∧ (decode cX11_init 307 = .ok (.bipush 8, 2)) ∧ (decode cX11_init 309 = .ok (.newarray .int, 2)) ∧ (decode cX11_init 311 = .ok (.putfield 130, 3)) := by decide +kernel
theorem dX11_init_298 : decode cX11_init 298 = .ok (.aload_n 0, 1) := eX11_init_298q.1
theorem dX11_init_299 : decode cX11_init 299 = .ok (.bipush 8, 2) := eX11_init_298q.2.1
theorem dX11_init_301 : decode cX11_init 301 = .ok (.newarray .int, 2) := eX11_init_298q.2.2.1
theorem dX11_init_303 : decode cX11_init 303 = .ok (.putfield 127, 3) := eX11_init_298q.2.2.2.1
theorem dX11_init_306 : decode cX11_init 306 = .ok (.aload_n 0, 1) := eX11_init_298q.2.2.2.2.1
theorem dX11_init_307 : decode cX11_init 307 = .ok (.bipush 8, 2) := eX11_init_298q.2.2.2.2.2.1
theorem dX11_init_309 : decode cX11_init 309 = .ok (.newarray .int, 2) := eX11_init_298q.2.2.2.2.2.2.1
theorem dX11_init_311 : decode cX11_init 311 = .ok (.putfield 130, 3) := eX11_init_298q.2.2.2.2.2.2.2
theorem eX11_init_314q : (decode cX11_init 314 = .ok (.aload_n 0, 1)) ∧ (decode cX11_init 315 = .ok (.bipush 8, 2)) ∧ (decode cX11_init 317 = .ok (.newarray .int, 2)) ∧ (decode cX11_init 319 = .ok (.putfield 133, 3)) ∧ (decode cX11_init 322 = .ok (.aload_n 0, 1)) ∧ (decode cX11_init 323 = .ok (.bipush 8, 2)) ∧ (decode cX11_init 325 = .ok (.newarray .int, 2)) ∧ (decode cX11_init 327 = .ok (.putfield 136, 3)) := by decide +kernel
theorem dX11_init_314 : decode cX11_init 314 = .ok (.aload_n 0, 1) := eX11_init_314q.1
theorem dX11_init_315 : decode cX11_init 315 = .ok (.bipush 8, 2) := eX11_init_314q.2.1
theorem dX11_init_317 : decode cX11_init 317 = .ok (.newarray .int, 2) := eX11_init_314q.2.2.1
theorem dX11_init_319 : decode cX11_init 319 = .ok (.putfield 133, 3) := eX11_init_314q.2.2.2.1
theorem dX11_init_322 : decode cX11_init 322 = .ok (.aload_n 0, 1) := eX11_init_314q.2.2.2.2.1
theorem dX11_init_323 : decode cX11_init 323 = .ok (.bipush 8, 2) := eX11_init_314q.2.2.2.2.2.1
theorem dX11_init_325 : decode cX11_init 325 = .ok (.newarray .int, 2) := eX11_init_314q.2.2.2.2.2.2.1
theorem dX11_init_327 : decode cX11_init 327 = .ok (.putfield 136, 3) := eX11_init_314q.2.2.2.2.2.2.2
theorem eX11_init_330q : (decode cX11_init 330 = .ok (.aload_n 0, 1)) ∧ (decode cX11_init 331 = .ok (.iconst 3, 1)) ∧ (decode cX11_init 332 = .ok (.newarray .int, 2)) ∧ (decode cX11_init 334 = .ok (.putfield 139, 3)) ∧ (decode cX11_init 337 = .ok (.aload_n 0, 1)) ∧ (decode cX11_init 338 = .ok (.getfield 60, 3)) ∧ (decode cX11_init 341 = .ok (.bipush 54, 2)) ∧ (decode cX11_init 343 = .ok (.iconst 5, 1)) := by decide +kernel
theorem dX11_init_330 : decode cX11_init 330 = .ok (.aload_n 0, 1) := eX11_init_330q.1
theorem dX11_init_331 : decode cX11_init 331 = .ok (.iconst 3, 1) := eX11_init_330q.2.1
theorem dX11_init_332 : decode cX11_init 332 = .ok (.newarray .int, 2) := eX11_init_330q.2.2.1
theorem dX11_init_334 : decode cX11_init 334 = .ok (.putfield 139, 3) := eX11_init_330q.2.2.2.1
theorem dX11_init_337 : decode cX11_init 337 = .ok (.aload_n 0, 1) := eX11_init_330q.2.2.2.2.1
theorem dX11_init_338 : decode cX11_init 338 = .ok (.getfield 60, 3) := eX11_init_330q.2.2.2.2.2.1
theorem dX11_init_341 : decode cX11_init 341 = .ok (.bipush 54, 2) := eX11_init_330q.2.2.2.2.2.2.1
theorem dX11_init_343 : decode cX11_init 343 = .ok (.iconst 5, 1) := eX11_init_330q.2.2.2.2.2.2.2
theorem dX11_init_344 : decode cX11_init 344 = .ok (.iastore, 1) := by decide +kernel
theorem dX11_init_345 : decode cX11_init 345 = .ok (.return_, 1) := by decide +kernel
