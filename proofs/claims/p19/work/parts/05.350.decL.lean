set_option maxRecDepth 20000 in
theorem ggL_years_X10_years : GoodIn wsL_years wsX10_years := goodIn_ca (goodIn_ca (goodIn_r _ [7, 8, 9, 10, 11, 12, 13, 14, 15, 16, 6, 17, 18, 19, 20, 21, 22, 23, 24, 25, 26, 27, 28, 29, 30, 31, 32, 33, 34, 35, 36, 37, 38, 39, 40, 41, 42, 43, 44, 45, 46, 47, 48, 49, 50, 51, 52, 53, 54, 55, 56, 57, 58, 59, 60, 61, 62, 63, 64, 65, 66, 67, 68, 69, 70, 71, 72, 73, 74, 75, 76, 77, 78, 79, 80, 81, 82, 83, 84, 85, 86, 87, 88, 89, 90, 91, 92, 93, 94, 95, 96, 97, 98, 99, 100, 101, 102, 103, 104, 105, 106, 107, 108, 109, 110, 111, 112, 113, 114, 115, 116, 117, 118, 119, 120, 121, 122, 123, 124, 125, 126, 127, 128, 129, 130, 131, 132, 133, 134, 135, 136, 137, 138, 139, 140, 141, 142, 143, 144, 145, 146, 147, 148, 149, 150, 151, 152, 153, 154, 155, 156, 157, 158, 159, 160, 161, 162, 163, 164, 165, 166, 167, 168, 169, 170, 171, 172, 173, 174, 175, 176, 177, 178, 179, 180, 181, 182, 183, 184, 185, 186, 187, 188, 189, 190, 191, 192, 193, 194, 195, 196, 197, 198, 199, 200, 201, 202, 203, 204, 205, 206, 207, 208, 209, 210, 211, 212, 213, 214, 215, 216, 217, 218, 219, 220, 221, 222, 223, 224, 225, 226, 227, 228, 229, 230, 231, 232, 233, 234, 235, 236, 237, 238, 239, 240, 241, 242, 243, 244, 245, 246, 247, 248, 249, 250, 251, 252, 253, 254, 255, 256, 257, 258, 259, 260, 261, 262, 263, 264, 265, 266, 267, 268, 269, 270, 271, 272, 273, 274, 275, 276, 277, 278, 279, 280, 281, 282, 283, 284, 285, 286, 287, 288, 289, 290, 291, 292, 293, 294, 295, 296, 297, 298] rfl (by decide +kernel)) (goodIn_sub (fun _ h => List.mem_cons_of_mem _ (List.mem_append_left _ (List.mem_append_right _ h))) (by decide +kernel))) (goodIn_sub (fun _ h => List.mem_cons_of_mem _ (List.mem_append_right _ h)) (by decide +kernel))
set_option maxRecDepth 20000 in
theorem gL_years_X10_years : GoodIn wsL_years (wsV RL 72 RX10 yX10_years wsX10_years) := goodIn_app (goodIn_r _ [3, 4, 5, 6] rfl (by decide +kernel)) ggL_years_X10_years
theorem eL_years_0q : (decode cL_years 0 = .ok (.aload 4, 2)) ∧ (decode cL_years 2 = .ok (.iconst 0, 1)) ∧ (decode cL_years 3 = .ok (.aload_n 0, 1)) ∧ (decode cL_years 4 = .ok (.iload_n 1, 1)) ∧ (decode cL_years 5 = .ok (.iload_n 2, 1)) ∧ (decode cL_years 6 = .ok (.iload_n 3, 1)) ∧ (decode cL_years 7 = .ok (.invokevirtual 72, 3)) ∧ (decode cL_years 10 = .ok (.i2l, 1)) := by decide +kernel
theorem dL_years_0 : decode cL_years 0 = .ok (.aload 4, 2) := eL_years_0q.1
theorem dL_years_2 : decode cL_years 2 = .ok (.iconst 0, 1) := eL_years_0q.2.1
theorem dL_years_3 : decode cL_years 3 = .ok (.aload_n 0, 1) := eL_years_0q.2.2.1
theorem dL_years_4 : decode cL_years 4 = .ok (.iload_n 1, 1) := eL_years_0q.2.2.2.1
theorem dL_years_5 : decode cL_years 5 = .ok (.iload_n 2, 1) := eL_years_0q.2.2.2.2.1
theorem dL_years_6 : decode cL_years 6 = .ok (.iload_n 3, 1) := eL_years_0q.2.2.2.2.2.1
theorem dL_years_7 : decode cL_years 7 = .ok (.invokevirtual 72, 3) := eL_years_0q.2.2.2.2.2.2.1
theorem dL_years_10 : decode cL_years 10 = .ok (.i2l, 1) := eL_years_0q.2.2.2.2.2.2.2
theorem eL_years_11q : (decode cL_years 11 = .ok (.lastore, 1)) ∧ (decode cL_years 12 = .ok (.goto 11, 3)) ∧ (decode cL_years 15 = .ok (.astore 5, 2)) ∧ (decode cL_years 17 = .ok (.iconst 1, 1)) ∧ (decode cL_years 18 = .ok (.ireturn, 1)) ∧ (decode cL_years 19 = .ok (.astore 5, 2)) ∧ (decode cL_years 21 = .ok (.iconst 2, 1)) ∧ (decode cL_years 22 = .ok (.ireturn, 1)) := by decide +kernel
theorem dL_years_11 : decode cL_years 11 = .ok (.lastore, 1) := eL_years_11q.1
theorem dL_years_12 : decode cL_years 12 = .ok (.goto 11, 3) := eL_years_11q.2.1
theorem dL_years_15 : decode cL_years 15 = .ok (.astore 5, 2) := eL_years_11q.2.2.1
theorem dL_years_17 : decode cL_years 17 = .ok (.iconst 1, 1) := eL_years_11q.2.2.2.1
theorem dL_years_18 : decode cL_years 18 = .ok (.ireturn, 1) := eL_years_11q.2.2.2.2.1
theorem dL_years_19 : decode cL_years 19 = .ok (.astore 5, 2) := eL_years_11q.2.2.2.2.2.1
theorem dL_years_21 : decode cL_years 21 = .ok (.iconst 2, 1) := eL_years_11q.2.2.2.2.2.2.1
theorem dL_years_22 : decode cL_years 22 = .ok (.ireturn, 1) := eL_years_11q.2.2.2.2.2.2.2
theorem dL_years_23 : decode cL_years 23 = .ok (.iconst 0, 1) := by decide +kernel
theorem dL_years_24 : decode cL_years 24 = .ok (.ireturn, 1) := by decide +kernel
