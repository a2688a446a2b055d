set_option maxRecDepth 20000 in
theorem ggX4_enoughFor_X4_leastFor : GoodIn wsX4_enoughFor wsX4_leastFor := goodIn_r _ [8, 9, 10, 11, 12, 13, 7, 14, 15, 16, 17, 18, 19, 20, 21] (by decide +kernel) (by decide +kernel)
set_option maxRecDepth 20000 in
theorem gX4_enoughFor_X4_leastFor : GoodIn wsX4_enoughFor (wsV RX4 34 RX4 yX4_leastFor wsX4_leastFor) := goodIn_app (goodIn_of _ (by decide +kernel)) ggX4_enoughFor_X4_leastFor
theorem dX4_enoughFor_0 : decode cX4_enoughFor 0 = .ok (.iload_n 1, 1) := by decide +kernel
theorem dX4_enoughFor_1 : decode cX4_enoughFor 1 = .ok (.iconst 1, 1) := by decide +kernel
theorem dX4_enoughFor_2 : decode cX4_enoughFor 2 = .ok (.if_icmp .lt 8, 3) := by decide +kernel
theorem dX4_enoughFor_5 : decode cX4_enoughFor 5 = .ok (.iload_n 1, 1) := by decide +kernel
theorem dX4_enoughFor_6 : decode cX4_enoughFor 6 = .ok (.iconst 4, 1) := by decide +kernel
theorem dX4_enoughFor_7 : decode cX4_enoughFor 7 = .ok (.if_icmp .le 5, 3) := by decide +kernel
theorem dX4_enoughFor_10 : decode cX4_enoughFor 10 = .ok (.iconst (-1), 1) := by decide +kernel
theorem dX4_enoughFor_11 : decode cX4_enoughFor 11 = .ok (.ireturn, 1) := by decide +kernel
theorem dX4_enoughFor_12 : decode cX4_enoughFor 12 = .ok (.iload_n 2, 1) := by decide +kernel
theorem dX4_enoughFor_13 : decode cX4_enoughFor 13 = .ok (.aload_n 0, 1) := by decide +kernel
theorem dX4_enoughFor_14 : decode cX4_enoughFor 14 = .ok (.getfield 19, 3) := by decide +kernel
theorem dX4_enoughFor_17 : decode cX4_enoughFor 17 = .ok (.if_icmp .eq 42, 3) := by decide +kernel
theorem dX4_enoughFor_20 : decode cX4_enoughFor 20 = .ok (.iconst 1, 1) := by decide +kernel
theorem dX4_enoughFor_21 : decode cX4_enoughFor 21 = .ok (.istore_n 3, 1) := by decide +kernel
theorem dX4_enoughFor_22 : decode cX4_enoughFor 22 = .ok (.iload_n 3, 1) := by decide +kernel
theorem dX4_enoughFor_23 : decode cX4_enoughFor 23 = .ok (.iconst 4, 1) := by decide +kernel
theorem dX4_enoughFor_24 : decode cX4_enoughFor 24 = .ok (.if_icmp .gt 30, 3) := by decide +kernel
theorem dX4_enoughFor_27 : decode cX4_enoughFor 27 = .ok (.aload_n 0, 1) := by decide +kernel
theorem dX4_enoughFor_28 : decode cX4_enoughFor 28 = .ok (.getfield 15, 3) := by decide +kernel
theorem dX4_enoughFor_31 : decode cX4_enoughFor 31 = .ok (.iload_n 3, 1) := by decide +kernel
theorem dX4_enoughFor_32 : decode cX4_enoughFor 32 = .ok (.iconst 1, 1) := by decide +kernel
theorem dX4_enoughFor_33 : decode cX4_enoughFor 33 = .ok (.isub, 1) := by decide +kernel
theorem dX4_enoughFor_34 : decode cX4_enoughFor 34 = .ok (.aload_n 0, 1) := by decide +kernel
theorem dX4_enoughFor_35 : decode cX4_enoughFor 35 = .ok (.iload_n 3, 1) := by decide +kernel
theorem dX4_enoughFor_36 : decode cX4_enoughFor 36 = .ok (.iconst 1, 1) := by decide +kernel
theorem dX4_enoughFor_37 : decode cX4_enoughFor 37 = .ok (.iadd, 1) := by decide +kernel
theorem dX4_enoughFor_38 : decode cX4_enoughFor 38 = .ok (.iload_n 2, 1) := by decide +kernel
theorem dX4_enoughFor_39 : decode cX4_enoughFor 39 = .ok (.i2l, 1) := by decide +kernel
theorem dX4_enoughFor_40 : decode cX4_enoughFor 40 = .ok (.ldc2_w 32, 3) := by decide +kernel
theorem dX4_enoughFor_43 : decode cX4_enoughFor 43 = .ok (.lmul, 1) := by decide +kernel
theorem dX4_enoughFor_44 : decode cX4_enoughFor 44 = .ok (.invokevirtual 34, 3) := by decide +kernel
theorem dX4_enoughFor_47 : decode cX4_enoughFor 47 = .ok (.iastore, 1) := by decide +kernel
theorem dX4_enoughFor_48 : decode cX4_enoughFor 48 = .ok (.iinc 3 1, 3) := by decide +kernel
theorem dX4_enoughFor_51 : decode cX4_enoughFor 51 = .ok (.goto (-29), 3) := by decide +kernel
theorem dX4_enoughFor_54 : decode cX4_enoughFor 54 = .ok (.aload_n 0, 1) := by decide +kernel
theorem dX4_enoughFor_55 : decode cX4_enoughFor 55 = .ok (.iload_n 2, 1) := by decide +kernel
theorem dX4_enoughFor_56 : decode cX4_enoughFor 56 = .ok (.putfield 19, 3) := by decide +kernel
theorem dX4_enoughFor_59 : decode cX4_enoughFor 59 = .ok (.aload_n 0, 1) := by decide +kernel
theorem dX4_enoughFor_60 : decode cX4_enoughFor 60 = .ok (.getfield 15, 3) := by decide +kernel
theorem dX4_enoughFor_63 : decode cX4_enoughFor 63 = .ok (.iload_n 1, 1) := by decide +kernel
theorem dX4_enoughFor_64 : decode cX4_enoughFor 64 = .ok (.iconst 1, 1) := by decide +kernel
theorem dX4_enoughFor_65 : decode cX4_enoughFor 65 = .ok (.isub, 1) := by decide +kernel
theorem dX4_enoughFor_66 : decode cX4_enoughFor 66 = .ok (.iaload, 1) := by decide +kernel
theorem dX4_enoughFor_67 : decode cX4_enoughFor 67 = .ok (.ireturn, 1) := by decide +kernel
set_option maxRecDepth 20000 in
theorem ggX4_leastFor_X4_begin : GoodIn wsX4_leastFor wsX4_begin := goodIn_r _ [7, 2, 1, 12, 13, 14] (by decide +kernel) (by decide +kernel)
set_option maxRecDepth 20000 in
theorem gX4_leastFor_X4_begin : GoodIn wsX4_leastFor (wsV RX4 25 RX4 yX4_begin wsX4_begin) := goodIn_app (goodIn_of _ (by decide +kernel)) ggX4_leastFor_X4_begin
set_option maxRecDepth 20000 in
theorem ggX4_leastFor_X4_sendNext : GoodIn wsX4_leastFor wsX4_sendNext := goodIn_r _ [11, 2, 12, 13, 14] (by decide +kernel) (by decide +kernel)
set_option maxRecDepth 20000 in
theorem gX4_leastFor_X4_sendNext : GoodIn wsX4_leastFor (wsV RX4 29 RX4 yX4_sendNext wsX4_sendNext) := goodIn_app (goodIn_of _ (by decide +kernel)) ggX4_leastFor_X4_sendNext
theorem dX4_leastFor_0 : decode cX4_leastFor 0 = .ok (.aload_n 0, 1) := by decide +kernel
theorem dX4_leastFor_1 : decode cX4_leastFor 1 = .ok (.iload_n 1, 1) := by decide +kernel
theorem dX4_leastFor_2 : decode cX4_leastFor 2 = .ok (.invokevirtual 25, 3) := by decide +kernel
theorem dX4_leastFor_5 : decode cX4_leastFor 5 = .ok (.iconst 1, 1) := by decide +kernel
theorem dX4_leastFor_6 : decode cX4_leastFor 6 = .ok (.istore 4, 2) := by decide +kernel
theorem dX4_leastFor_8 : decode cX4_leastFor 8 = .ok (.iload 4, 2) := by decide +kernel
theorem dX4_leastFor_10 : decode cX4_leastFor 10 = .ok (.bipush 60, 2) := by decide +kernel
theorem dX4_leastFor_12 : decode cX4_leastFor 12 = .ok (.if_icmp .gt 32, 3) := by decide +kernel
theorem dX4_leastFor_15 : decode cX4_leastFor 15 = .ok (.aload_n 0, 1) := by decide +kernel
theorem dX4_leastFor_16 : decode cX4_leastFor 16 = .ok (.iload_n 1, 1) := by decide +kernel
theorem dX4_leastFor_17 : decode cX4_leastFor 17 = .ok (.invokevirtual 29, 3) := by decide +kernel
theorem dX4_leastFor_20 : decode cX4_leastFor 20 = .ok (.ldc2_w 23, 3) := by decide +kernel
theorem dX4_leastFor_23 : decode cX4_leastFor 23 = .ok (.aload_n 0, 1) := by decide +kernel
theorem dX4_leastFor_24 : decode cX4_leastFor 24 = .ok (.getfield 9, 3) := by decide +kernel
theorem dX4_leastFor_27 : decode cX4_leastFor 27 = .ok (.iload_n 1, 1) := by decide +kernel
theorem dX4_leastFor_28 : decode cX4_leastFor 28 = .ok (.laload, 1) := by decide +kernel
theorem dX4_leastFor_29 : decode cX4_leastFor 29 = .ok (.lsub, 1) := by decide +kernel
theorem dX4_leastFor_30 : decode cX4_leastFor 30 = .ok (.lload_n 2, 1) := by decide +kernel
theorem dX4_leastFor_31 : decode cX4_leastFor 31 = .ok (.lcmp, 1) := by decide +kernel
theorem dX4_leastFor_32 : decode cX4_leastFor 32 = .ok (.ifCond .ge 6, 3) := by decide +kernel
theorem dX4_leastFor_35 : decode cX4_leastFor 35 = .ok (.iload 4, 2) := by decide +kernel
theorem dX4_leastFor_37 : decode cX4_leastFor 37 = .ok (.ireturn, 1) := by decide +kernel
theorem dX4_leastFor_38 : decode cX4_leastFor 38 = .ok (.iinc 4 1, 3) := by decide +kernel
theorem dX4_leastFor_41 : decode cX4_leastFor 41 = .ok (.goto (-33), 3) := by decide +kernel
theorem dX4_leastFor_44 : decode cX4_leastFor 44 = .ok (.iconst (-1), 1) := by decide +kernel
theorem dX4_leastFor_45 : decode cX4_leastFor 45 = .ok (.ireturn, 1) := by decide +kernel
set_option maxRecDepth 20000 in
theorem ggX10_count_X4_enoughFor : GoodIn wsX10_count wsX4_enoughFor := goodIn_r _ [27, 28, 29, 30, 31, 32, 33, 26, 34, 35, 36, 37, 38, 39, 40, 41, 42, 43, 44, 123, 124, 125] (by decide +kernel) (by decide +kernel)
set_option maxRecDepth 20000 in
theorem gX10_count_X4_enoughFor : GoodIn wsX10_count (wsV RX10 160 RX4 yX4_enoughFor wsX4_enoughFor) := goodIn_app (goodIn_of _ (by decide +kernel)) ggX10_count_X4_enoughFor
set_option maxRecDepth 20000 in
theorem ggX10_count_X7_addressesEverywhere : GoodIn wsX10_count wsX7_addressesEverywhere := goodIn_r _ [49, 50, 51, 52, 53, 54, 55, 56, 57, 58, 59, 126, 127, 128, 129, 130, 94, 95, 96, 97, 98, 99, 100, 101, 102, 103, 104, 105, 106, 107, 108, 84, 85, 86, 87, 88, 89, 90, 91, 92, 93] (by decide +kernel) (by decide +kernel)
set_option maxRecDepth 20000 in
theorem gX10_count_X7_addressesEverywhere : GoodIn wsX10_count (wsV RX10 173 RX7 yX7_addressesEverywhere wsX7_addressesEverywhere) := goodIn_app (goodIn_of _ (by decide +kernel)) ggX10_count_X7_addressesEverywhere
set_option maxRecDepth 20000 in
theorem ggX10_count_X0_sentInAll : GoodIn wsX10_count wsX0_sentInAll := goodIn_r _ [63, 64, 84, 85, 86, 87, 88, 89, 90, 91, 92, 93] (by decide +kernel) (by decide +kernel)
set_option maxRecDepth 20000 in
theorem gX10_count_X0_sentInAll : GoodIn wsX10_count (wsV RX10 177 RX0 yX0_sentInAll wsX0_sentInAll) := goodIn_app (goodIn_of _ (by decide +kernel)) ggX10_count_X0_sentInAll
theorem dX10_count_0 : decode cX10_count 0 = .ok (.iload_n 1, 1) := by decide +kernel
theorem dX10_count_1 : decode cX10_count 1 = .ok (.iconst 4, 1) := by decide +kernel
theorem dX10_count_2 : decode cX10_count 2 = .ok (.if_icmp .lt 27, 3) := by decide +kernel
theorem dX10_count_5 : decode cX10_count 5 = .ok (.iload_n 1, 1) := by decide +kernel
theorem dX10_count_6 : decode cX10_count 6 = .ok (.bipush 7, 2) := by decide +kernel
theorem dX10_count_8 : decode cX10_count 8 = .ok (.if_icmp .gt 21, 3) := by decide +kernel
theorem dX10_count_11 : decode cX10_count 11 = .ok (.aload_n 0, 1) := by decide +kernel
theorem dX10_count_12 : decode cX10_count 12 = .ok (.getfield 48, 3) := by decide +kernel
theorem dX10_count_15 : decode cX10_count 15 = .ok (.iload_n 1, 1) := by decide +kernel
theorem dX10_count_16 : decode cX10_count 16 = .ok (.iconst 3, 1) := by decide +kernel
theorem dX10_count_17 : decode cX10_count 17 = .ok (.isub, 1) := by decide +kernel
theorem dX10_count_18 : decode cX10_count 18 = .ok (.aload_n 0, 1) := by decide +kernel
theorem dX10_count_19 : decode cX10_count 19 = .ok (.getfield 38, 3) := by decide +kernel
theorem dX10_count_22 : decode cX10_count 22 = .ok (.getfield 159, 3) := by decide +kernel
theorem dX10_count_25 : decode cX10_count 25 = .ok (.invokevirtual 160, 3) := by decide +kernel
theorem dX10_count_28 : decode cX10_count 28 = .ok (.ireturn, 1) := by decide +kernel
theorem dX10_count_29 : decode cX10_count 29 = .ok (.iload_n 1, 1) := by decide +kernel
theorem dX10_count_30 : decode cX10_count 30 = .ok (.bipush 13, 2) := by decide +kernel
theorem dX10_count_32 : decode cX10_count 32 = .ok (.if_icmp .lt 19, 3) := by decide +kernel
theorem dX10_count_35 : decode cX10_count 35 = .ok (.iload_n 1, 1) := by decide +kernel
theorem dX10_count_36 : decode cX10_count 36 = .ok (.bipush 15, 2) := by decide +kernel
theorem dX10_count_38 : decode cX10_count 38 = .ok (.if_icmp .gt 13, 3) := by decide +kernel
theorem dX10_count_41 : decode cX10_count 41 = .ok (.aload_n 0, 1) := by decide +kernel
theorem dX10_count_42 : decode cX10_count 42 = .ok (.getfield 93, 3) := by decide +kernel
theorem dX10_count_45 : decode cX10_count 45 = .ok (.iload_n 1, 1) := by decide +kernel
theorem dX10_count_46 : decode cX10_count 46 = .ok (.bipush 13, 2) := by decide +kernel
theorem dX10_count_48 : decode cX10_count 48 = .ok (.isub, 1) := by decide +kernel
theorem dX10_count_49 : decode cX10_count 49 = .ok (.iaload, 1) := by decide +kernel
theorem dX10_count_50 : decode cX10_count 50 = .ok (.ireturn, 1) := by decide +kernel
theorem dX10_count_51 : decode cX10_count 51 = .ok (.iload_n 1, 1) := by decide +kernel
theorem dX10_count_52 : decode cX10_count 52 = .ok (.tableswitch 212 0 20 #[100, 108, 116, 124, 212, 212, 212, 212, 132, 140, 148, 156, 164, 212, 212, 212, 172, 180, 188, 196, 204], 100) := by decide +kernel
theorem dX10_count_152 : decode cX10_count 152 = .ok (.aload_n 0, 1) := by decide +kernel
theorem dX10_count_153 : decode cX10_count 153 = .ok (.getfield 19, 3) := by decide +kernel
theorem dX10_count_156 : decode cX10_count 156 = .ok (.getfield 164, 3) := by decide +kernel
theorem dX10_count_159 : decode cX10_count 159 = .ok (.ireturn, 1) := by decide +kernel
theorem dX10_count_160 : decode cX10_count 160 = .ok (.aload_n 0, 1) := by decide +kernel
theorem dX10_count_161 : decode cX10_count 161 = .ok (.getfield 19, 3) := by decide +kernel
theorem dX10_count_164 : decode cX10_count 164 = .ok (.getfield 167, 3) := by decide +kernel
theorem dX10_count_167 : decode cX10_count 167 = .ok (.ireturn, 1) := by decide +kernel
theorem dX10_count_168 : decode cX10_count 168 = .ok (.aload_n 0, 1) := by decide +kernel
theorem dX10_count_169 : decode cX10_count 169 = .ok (.getfield 19, 3) := by decide +kernel
theorem dX10_count_172 : decode cX10_count 172 = .ok (.getfield 170, 3) := by decide +kernel
theorem dX10_count_175 : decode cX10_count 175 = .ok (.ireturn, 1) := by decide +kernel
theorem dX10_count_176 : decode cX10_count 176 = .ok (.aload_n 0, 1) := by decide +kernel
theorem dX10_count_177 : decode cX10_count 177 = .ok (.getfield 38, 3) := by decide +kernel
theorem dX10_count_180 : decode cX10_count 180 = .ok (.getfield 159, 3) := by decide +kernel
theorem dX10_count_183 : decode cX10_count 183 = .ok (.ireturn, 1) := by decide +kernel
theorem dX10_count_184 : decode cX10_count 184 = .ok (.aload_n 0, 1) := by decide +kernel
theorem dX10_count_185 : decode cX10_count 185 = .ok (.getfield 57, 3) := by decide +kernel
theorem dX10_count_188 : decode cX10_count 188 = .ok (.invokevirtual 173, 3) := by decide +kernel
theorem dX10_count_191 : decode cX10_count 191 = .ok (.ireturn, 1) := by decide +kernel
theorem dX10_count_192 : decode cX10_count 192 = .ok (.aload_n 0, 1) := by decide +kernel
theorem dX10_count_193 : decode cX10_count 193 = .ok (.getfield 38, 3) := by decide +kernel
theorem dX10_count_196 : decode cX10_count 196 = .ok (.invokevirtual 177, 3) := by decide +kernel
theorem dX10_count_199 : decode cX10_count 199 = .ok (.ireturn, 1) := by decide +kernel
theorem dX10_count_200 : decode cX10_count 200 = .ok (.aload_n 0, 1) := by decide +kernel
theorem dX10_count_201 : decode cX10_count 201 = .ok (.getfield 89, 3) := by decide +kernel
theorem dX10_count_204 : decode cX10_count 204 = .ok (.getfield 155, 3) := by decide +kernel
theorem dX10_count_207 : decode cX10_count 207 = .ok (.ireturn, 1) := by decide +kernel
theorem dX10_count_208 : decode cX10_count 208 = .ok (.aload_n 0, 1) := by decide +kernel
theorem dX10_count_209 : decode cX10_count 209 = .ok (.getfield 82, 3) := by decide +kernel
theorem dX10_count_212 : decode cX10_count 212 = .ok (.getfield 158, 3) := by decide +kernel
theorem dX10_count_215 : decode cX10_count 215 = .ok (.ireturn, 1) := by decide +kernel
theorem dX10_count_216 : decode cX10_count 216 = .ok (.aload_n 0, 1) := by decide +kernel
theorem dX10_count_217 : decode cX10_count 217 = .ok (.getfield 12, 3) := by decide +kernel
theorem dX10_count_220 : decode cX10_count 220 = .ok (.getfield 125, 3) := by decide +kernel
theorem dX10_count_223 : decode cX10_count 223 = .ok (.ireturn, 1) := by decide +kernel
theorem dX10_count_224 : decode cX10_count 224 = .ok (.aload_n 0, 1) := by decide +kernel
theorem dX10_count_225 : decode cX10_count 225 = .ok (.getfield 38, 3) := by decide +kernel
theorem dX10_count_228 : decode cX10_count 228 = .ok (.getfield 180, 3) := by decide +kernel
theorem dX10_count_231 : decode cX10_count 231 = .ok (.ireturn, 1) := by decide +kernel
theorem dX10_count_232 : decode cX10_count 232 = .ok (.aload_n 0, 1) := by decide +kernel
theorem dX10_count_233 : decode cX10_count 233 = .ok (.getfield 38, 3) := by decide +kernel
theorem dX10_count_236 : decode cX10_count 236 = .ok (.getfield 183, 3) := by decide +kernel
theorem dX10_count_239 : decode cX10_count 239 = .ok (.ireturn, 1) := by decide +kernel
theorem dX10_count_240 : decode cX10_count 240 = .ok (.aload_n 0, 1) := by decide +kernel
theorem dX10_count_241 : decode cX10_count 241 = .ok (.getfield 38, 3) := by decide +kernel
theorem dX10_count_244 : decode cX10_count 244 = .ok (.getfield 186, 3) := by decide +kernel
theorem dX10_count_247 : decode cX10_count 247 = .ok (.ireturn, 1) := by decide +kernel
theorem dX10_count_248 : decode cX10_count 248 = .ok (.aload_n 0, 1) := by decide +kernel
theorem dX10_count_249 : decode cX10_count 249 = .ok (.getfield 38, 3) := by decide +kernel
theorem dX10_count_252 : decode cX10_count 252 = .ok (.getfield 189, 3) := by decide +kernel
theorem dX10_count_255 : decode cX10_count 255 = .ok (.ireturn, 1) := by decide +kernel
theorem dX10_count_256 : decode cX10_count 256 = .ok (.aload_n 0, 1) := by decide +kernel
theorem dX10_count_257 : decode cX10_count 257 = .ok (.getfield 38, 3) := by decide +kernel
theorem dX10_count_260 : decode cX10_count 260 = .ok (.getfield 192, 3) := by decide +kernel
theorem dX10_count_263 : decode cX10_count 263 = .ok (.ireturn, 1) := by decide +kernel
theorem dX10_count_264 : decode cX10_count 264 = .ok (.new 195, 3) := by decide +kernel
theorem dX10_count_267 : decode cX10_count 267 = .ok (.dup, 1) := by decide +kernel
theorem dX10_count_268 : decode cX10_count 268 = .ok (.ldc 197, 2) := by decide +kernel
theorem dX10_count_270 : decode cX10_count 270 = .ok (.invokespecial 199, 3) := by decide +kernel
theorem dX10_count_273 : decode cX10_count 273 = .ok (.athrow, 1) := by decide +kernel
set_option maxRecDepth 20000 in
theorem ggX10_missing_X4_missed : GoodIn wsX10_missing wsX4_missed := goodIn_r _ [8, 9, 10, 11, 12, 13, 7, 14, 15, 16, 17, 18, 38, 39, 40] (by decide +kernel) (by decide +kernel)
set_option maxRecDepth 20000 in
theorem gX10_missing_X4_missed : GoodIn wsX10_missing (wsV RX10 279 RX4 yX4_missed wsX4_missed) := goodIn_app (goodIn_of _ (by decide +kernel)) ggX10_missing_X4_missed
theorem dX10_missing_0 : decode cX10_missing 0 = .ok (.iload_n 1, 1) := by decide +kernel
theorem dX10_missing_1 : decode cX10_missing 1 = .ok (.ifCond .lt 19, 3) := by decide +kernel
theorem dX10_missing_4 : decode cX10_missing 4 = .ok (.iload_n 1, 1) := by decide +kernel
theorem dX10_missing_5 : decode cX10_missing 5 = .ok (.bipush 60, 2) := by decide +kernel
theorem dX10_missing_7 : decode cX10_missing 7 = .ok (.if_icmp .gt 13, 3) := by decide +kernel
theorem dX10_missing_10 : decode cX10_missing 10 = .ok (.iload_n 2, 1) := by decide +kernel
theorem dX10_missing_11 : decode cX10_missing 11 = .ok (.iconst 1, 1) := by decide +kernel
theorem dX10_missing_12 : decode cX10_missing 12 = .ok (.if_icmp .lt 8, 3) := by decide +kernel
theorem dX10_missing_15 : decode cX10_missing 15 = .ok (.iload_n 2, 1) := by decide +kernel
theorem dX10_missing_16 : decode cX10_missing 16 = .ok (.iconst 5, 1) := by decide +kernel
theorem dX10_missing_17 : decode cX10_missing 17 = .ok (.if_icmp .le 14, 3) := by decide +kernel
theorem dX10_missing_20 : decode cX10_missing 20 = .ok (.new 128, 3) := by decide +kernel
theorem dX10_missing_23 : decode cX10_missing 23 = .ok (.dup, 1) := by decide +kernel
theorem dX10_missing_24 : decode cX10_missing 24 = .ok (.ldc_w 283, 3) := by decide +kernel
theorem dX10_missing_27 : decode cX10_missing 27 = .ok (.invokespecial 132, 3) := by decide +kernel
theorem dX10_missing_30 : decode cX10_missing 30 = .ok (.athrow, 1) := by decide +kernel
theorem dX10_missing_31 : decode cX10_missing 31 = .ok (.aload_n 0, 1) := by decide +kernel
theorem dX10_missing_32 : decode cX10_missing 32 = .ok (.getfield 48, 3) := by decide +kernel
theorem dX10_missing_35 : decode cX10_missing 35 = .ok (.iload_n 1, 1) := by decide +kernel
theorem dX10_missing_36 : decode cX10_missing 36 = .ok (.iload_n 2, 1) := by decide +kernel
theorem dX10_missing_37 : decode cX10_missing 37 = .ok (.invokevirtual 279, 3) := by decide +kernel
theorem dX10_missing_40 : decode cX10_missing 40 = .ok (.lreturn, 1) := by decide +kernel
set_option maxRecDepth 20000 in
theorem ggX11_allSeen_X11_goals : GoodIn wsX11_allSeen wsX11_goals := goodIn_r _ [5, 6, 19, 20, 21, 22, 23, 24, 25, 26, 27, 28, 29, 30, 31, 32, 33, 34, 35, 36, 37, 38, 39, 40, 41, 42, 43, 44, 45, 46, 47, 48, 49, 50, 51, 52, 53, 54, 55, 56, 57, 58, 59, 60, 61, 62, 63, 64, 65, 66, 67, 68, 69, 70, 71, 72, 73, 74, 75, 76, 77, 78, 79] (by decide +kernel) (by decide +kernel)
set_option maxRecDepth 20000 in
theorem gX11_allSeen_X11_goals : GoodIn wsX11_allSeen (wsV RX11 304 RX11 yX11_goals wsX11_goals) := goodIn_app (goodIn_of _ (by decide +kernel)) ggX11_allSeen_X11_goals
set_option maxRecDepth 20000 in
theorem ggX11_allSeen_X11_addresses : GoodIn wsX11_allSeen wsX11_addresses := goodIn_r _ [10, 11, 12, 13, 4, 14, 15, 16, 17, 18, 19, 20, 21, 22, 23, 24, 25, 26, 27, 28, 29, 30, 31, 32, 33, 34, 35, 36, 37, 38, 39, 40, 41, 42, 43, 44, 45, 46, 47, 48, 49, 50, 51, 52, 53, 54, 55, 56, 57, 58, 59, 60, 61, 62, 63, 64, 65, 66, 67, 68, 69, 70, 71, 72, 73, 74, 75, 76, 77, 78, 79] (by decide +kernel) (by decide +kernel)
set_option maxRecDepth 20000 in
theorem gX11_allSeen_X11_addresses : GoodIn wsX11_allSeen (wsV RX11 307 RX11 yX11_addresses wsX11_addresses) := goodIn_app (goodIn_of _ (by decide +kernel)) ggX11_allSeen_X11_addresses
theorem dX11_allSeen_0 : decode cX11_allSeen 0 = .ok (.iconst 0, 1) := by decide +kernel
theorem dX11_allSeen_1 : decode cX11_allSeen 1 = .ok (.istore_n 1, 1) := by decide +kernel
theorem dX11_allSeen_2 : decode cX11_allSeen 2 = .ok (.iconst 0, 1) := by decide +kernel
theorem dX11_allSeen_3 : decode cX11_allSeen 3 = .ok (.istore_n 2, 1) := by decide +kernel
theorem dX11_allSeen_4 : decode cX11_allSeen 4 = .ok (.iload_n 2, 1) := by decide +kernel
theorem dX11_allSeen_5 : decode cX11_allSeen 5 = .ok (.aload_n 0, 1) := by decide +kernel
theorem dX11_allSeen_6 : decode cX11_allSeen 6 = .ok (.invokevirtual 304, 3) := by decide +kernel
theorem dX11_allSeen_9 : decode cX11_allSeen 9 = .ok (.if_icmp .ge 32, 3) := by decide +kernel
theorem dX11_allSeen_12 : decode cX11_allSeen 12 = .ok (.iconst 1, 1) := by decide +kernel
theorem dX11_allSeen_13 : decode cX11_allSeen 13 = .ok (.istore_n 3, 1) := by decide +kernel
theorem dX11_allSeen_14 : decode cX11_allSeen 14 = .ok (.iload_n 3, 1) := by decide +kernel
theorem dX11_allSeen_15 : decode cX11_allSeen 15 = .ok (.bipush 10, 2) := by decide +kernel
theorem dX11_allSeen_17 : decode cX11_allSeen 17 = .ok (.if_icmp .gt 18, 3) := by decide +kernel
theorem dX11_allSeen_20 : decode cX11_allSeen 20 = .ok (.iload_n 1, 1) := by decide +kernel
theorem dX11_allSeen_21 : decode cX11_allSeen 21 = .ok (.aload_n 0, 1) := by decide +kernel
theorem dX11_allSeen_22 : decode cX11_allSeen 22 = .ok (.iload_n 2, 1) := by decide +kernel
theorem dX11_allSeen_23 : decode cX11_allSeen 23 = .ok (.iload_n 3, 1) := by decide +kernel
theorem dX11_allSeen_24 : decode cX11_allSeen 24 = .ok (.invokevirtual 307, 3) := by decide +kernel
theorem dX11_allSeen_27 : decode cX11_allSeen 27 = .ok (.ior, 1) := by decide +kernel
theorem dX11_allSeen_28 : decode cX11_allSeen 28 = .ok (.istore_n 1, 1) := by decide +kernel
theorem dX11_allSeen_29 : decode cX11_allSeen 29 = .ok (.iinc 3 1, 3) := by decide +kernel
theorem dX11_allSeen_32 : decode cX11_allSeen 32 = .ok (.goto (-18), 3) := by decide +kernel
theorem dX11_allSeen_35 : decode cX11_allSeen 35 = .ok (.iinc 2 1, 3) := by decide +kernel
theorem dX11_allSeen_38 : decode cX11_allSeen 38 = .ok (.goto (-34), 3) := by decide +kernel
theorem dX11_allSeen_41 : decode cX11_allSeen 41 = .ok (.iload_n 1, 1) := by decide +kernel
theorem dX11_allSeen_42 : decode cX11_allSeen 42 = .ok (.ireturn, 1) := by decide +kernel
theorem dX11_missingOf_0 : decode cX11_missingOf 0 = .ok (.iconst 0, 1) := by decide +kernel
theorem dX11_missingOf_1 : decode cX11_missingOf 1 = .ok (.istore_n 3, 1) := by decide +kernel
theorem dX11_missingOf_2 : decode cX11_missingOf 2 = .ok (.iload_n 3, 1) := by decide +kernel
theorem dX11_missingOf_3 : decode cX11_missingOf 3 = .ok (.iload_n 2, 1) := by decide +kernel
theorem dX11_missingOf_4 : decode cX11_missingOf 4 = .ok (.if_icmp .gt 26, 3) := by decide +kernel
theorem dX11_missingOf_7 : decode cX11_missingOf 7 = .ok (.aload_n 0, 1) := by decide +kernel
theorem dX11_missingOf_8 : decode cX11_missingOf 8 = .ok (.getfield 79, 3) := by decide +kernel
theorem dX11_missingOf_11 : decode cX11_missingOf 11 = .ok (.iload_n 3, 1) := by decide +kernel
theorem dX11_missingOf_12 : decode cX11_missingOf 12 = .ok (.iload_n 3, 1) := by decide +kernel
theorem dX11_missingOf_13 : decode cX11_missingOf 13 = .ok (.ifCond .ne 9, 3) := by decide +kernel
theorem dX11_missingOf_16 : decode cX11_missingOf 16 = .ok (.ldc2_w 320, 3) := by decide +kernel
theorem dX11_missingOf_19 : decode cX11_missingOf 19 = .ok (.goto 4, 3) := by decide +kernel
theorem dX11_missingOf_22 : decode cX11_missingOf 22 = .ok (.lconst 0, 1) := by decide +kernel
theorem dX11_missingOf_23 : decode cX11_missingOf 23 = .ok (.lastore, 1) := by decide +kernel
theorem dX11_missingOf_24 : decode cX11_missingOf 24 = .ok (.iinc 3 1, 3) := by decide +kernel
theorem dX11_missingOf_27 : decode cX11_missingOf 27 = .ok (.goto (-25), 3) := by decide +kernel
theorem dX11_missingOf_30 : decode cX11_missingOf 30 = .ok (.iconst 0, 1) := by decide +kernel
theorem dX11_missingOf_31 : decode cX11_missingOf 31 = .ok (.istore_n 3, 1) := by decide +kernel
theorem dX11_missingOf_32 : decode cX11_missingOf 32 = .ok (.iload_n 3, 1) := by decide +kernel
theorem dX11_missingOf_33 : decode cX11_missingOf 33 = .ok (.iload_n 1, 1) := by decide +kernel
theorem dX11_missingOf_34 : decode cX11_missingOf 34 = .ok (.if_icmp .ge 72, 3) := by decide +kernel
theorem dX11_missingOf_37 : decode cX11_missingOf 37 = .ok (.iload_n 2, 1) := by decide +kernel
theorem dX11_missingOf_38 : decode cX11_missingOf 38 = .ok (.iconst 1, 1) := by decide +kernel
theorem dX11_missingOf_39 : decode cX11_missingOf 39 = .ok (.isub, 1) := by decide +kernel
theorem dX11_missingOf_40 : decode cX11_missingOf 40 = .ok (.istore 4, 2) := by decide +kernel
theorem dX11_missingOf_42 : decode cX11_missingOf 42 = .ok (.iload 4, 2) := by decide +kernel
theorem dX11_missingOf_44 : decode cX11_missingOf 44 = .ok (.ifCond .lt 56, 3) := by decide +kernel
theorem dX11_missingOf_47 : decode cX11_missingOf 47 = .ok (.aload_n 0, 1) := by decide +kernel
theorem dX11_missingOf_48 : decode cX11_missingOf 48 = .ok (.getfield 79, 3) := by decide +kernel
theorem dX11_missingOf_51 : decode cX11_missingOf 51 = .ok (.iload 4, 2) := by decide +kernel
theorem dX11_missingOf_53 : decode cX11_missingOf 53 = .ok (.laload, 1) := by decide +kernel
theorem dX11_missingOf_54 : decode cX11_missingOf 54 = .ok (.iload 4, 2) := by decide +kernel
theorem dX11_missingOf_56 : decode cX11_missingOf 56 = .ok (.i2l, 1) := by decide +kernel
theorem dX11_missingOf_57 : decode cX11_missingOf 57 = .ok (.lmul, 1) := by decide +kernel
theorem dX11_missingOf_58 : decode cX11_missingOf 58 = .ok (.iload_n 2, 1) := by decide +kernel
theorem dX11_missingOf_59 : decode cX11_missingOf 59 = .ok (.i2l, 1) := by decide +kernel
theorem dX11_missingOf_60 : decode cX11_missingOf 60 = .ok (.ldiv, 1) := by decide +kernel
theorem dX11_missingOf_61 : decode cX11_missingOf 61 = .ok (.lstore 5, 2) := by decide +kernel
theorem dX11_missingOf_63 : decode cX11_missingOf 63 = .ok (.aload_n 0, 1) := by decide +kernel
theorem dX11_missingOf_64 : decode cX11_missingOf 64 = .ok (.getfield 79, 3) := by decide +kernel
theorem dX11_missingOf_67 : decode cX11_missingOf 67 = .ok (.iload 4, 2) := by decide +kernel
theorem dX11_missingOf_69 : decode cX11_missingOf 69 = .ok (.iconst 1, 1) := by decide +kernel
theorem dX11_missingOf_70 : decode cX11_missingOf 70 = .ok (.iadd, 1) := by decide +kernel
theorem dX11_missingOf_71 : decode cX11_missingOf 71 = .ok (.dup2, 1) := by decide +kernel
theorem dX11_missingOf_72 : decode cX11_missingOf 72 = .ok (.laload, 1) := by decide +kernel
theorem dX11_missingOf_73 : decode cX11_missingOf 73 = .ok (.aload_n 0, 1) := by decide +kernel
theorem dX11_missingOf_74 : decode cX11_missingOf 74 = .ok (.getfield 79, 3) := by decide +kernel
theorem dX11_missingOf_77 : decode cX11_missingOf 77 = .ok (.iload 4, 2) := by decide +kernel
theorem dX11_missingOf_79 : decode cX11_missingOf 79 = .ok (.laload, 1) := by decide +kernel
theorem dX11_missingOf_80 : decode cX11_missingOf 80 = .ok (.lload 5, 2) := by decide +kernel
theorem dX11_missingOf_82 : decode cX11_missingOf 82 = .ok (.lsub, 1) := by decide +kernel
theorem dX11_missingOf_83 : decode cX11_missingOf 83 = .ok (.ladd, 1) := by decide +kernel
theorem dX11_missingOf_84 : decode cX11_missingOf 84 = .ok (.lastore, 1) := by decide +kernel
theorem dX11_missingOf_85 : decode cX11_missingOf 85 = .ok (.aload_n 0, 1) := by decide +kernel
theorem dX11_missingOf_86 : decode cX11_missingOf 86 = .ok (.getfield 79, 3) := by decide +kernel
theorem dX11_missingOf_89 : decode cX11_missingOf 89 = .ok (.iload 4, 2) := by decide +kernel
theorem dX11_missingOf_91 : decode cX11_missingOf 91 = .ok (.lload 5, 2) := by decide +kernel
theorem dX11_missingOf_93 : decode cX11_missingOf 93 = .ok (.lastore, 1) := by decide +kernel
theorem dX11_missingOf_94 : decode cX11_missingOf 94 = .ok (.iinc 4 (-1), 3) := by decide +kernel
theorem dX11_missingOf_97 : decode cX11_missingOf 97 = .ok (.goto (-55), 3) := by decide +kernel
theorem dX11_missingOf_100 : decode cX11_missingOf 100 = .ok (.iinc 3 1, 3) := by decide +kernel
theorem dX11_missingOf_103 : decode cX11_missingOf 103 = .ok (.goto (-71), 3) := by decide +kernel
theorem dX11_missingOf_106 : decode cX11_missingOf 106 = .ok (.ldc2_w 320, 3) := by decide +kernel
theorem dX11_missingOf_109 : decode cX11_missingOf 109 = .ok (.aload_n 0, 1) := by decide +kernel
theorem dX11_missingOf_110 : decode cX11_missingOf 110 = .ok (.getfield 79, 3) := by decide +kernel
theorem dX11_missingOf_113 : decode cX11_missingOf 113 = .ok (.iload_n 2, 1) := by decide +kernel
theorem dX11_missingOf_114 : decode cX11_missingOf 114 = .ok (.laload, 1) := by decide +kernel
theorem dX11_missingOf_115 : decode cX11_missingOf 115 = .ok (.lsub, 1) := by decide +kernel
theorem dX11_missingOf_116 : decode cX11_missingOf 116 = .ok (.lreturn, 1) := by decide +kernel
set_option maxRecDepth 20000 in
theorem ggX11_enough_X11_missingOf : GoodIn wsX11_enough wsX11_missingOf := goodIn_r _ [7, 8, 9, 10, 11, 12, 13, 14, 15, 16, 17, 18, 19, 20, 21, 22, 23, 24, 25, 26, 27, 28, 29, 30, 31, 32, 33, 34, 35, 36, 37, 38, 39, 40, 41, 42, 43, 44, 45, 46, 47, 48, 49, 50, 51, 52, 53, 54, 55, 56, 57, 58, 59, 60, 61, 62, 63, 64, 65, 66, 67, 68, 69, 70] (by decide +kernel) (by decide +kernel)
set_option maxRecDepth 20000 in
theorem gX11_enough_X11_missingOf : GoodIn wsX11_enough (wsV RX11 322 RX11 yX11_missingOf wsX11_missingOf) := goodIn_app (goodIn_of _ (by decide +kernel)) ggX11_enough_X11_missingOf
theorem dX11_enough_0 : decode cX11_enough 0 = .ok (.iconst 1, 1) := by decide +kernel
theorem dX11_enough_1 : decode cX11_enough 1 = .ok (.istore_n 2, 1) := by decide +kernel
theorem dX11_enough_2 : decode cX11_enough 2 = .ok (.iload_n 2, 1) := by decide +kernel
theorem dX11_enough_3 : decode cX11_enough 3 = .ok (.bipush 60, 2) := by decide +kernel
theorem dX11_enough_5 : decode cX11_enough 5 = .ok (.if_icmp .gt 35, 3) := by decide +kernel
theorem dX11_enough_8 : decode cX11_enough 8 = .ok (.aload_n 0, 1) := by decide +kernel
theorem dX11_enough_9 : decode cX11_enough 9 = .ok (.iload_n 2, 1) := by decide +kernel
theorem dX11_enough_10 : decode cX11_enough 10 = .ok (.iload_n 1, 1) := by decide +kernel
theorem dX11_enough_11 : decode cX11_enough 11 = .ok (.iconst 1, 1) := by decide +kernel
theorem dX11_enough_12 : decode cX11_enough 12 = .ok (.iadd, 1) := by decide +kernel
theorem dX11_enough_13 : decode cX11_enough 13 = .ok (.invokevirtual 322, 3) := by decide +kernel
theorem dX11_enough_16 : decode cX11_enough 16 = .ok (.aload_n 0, 1) := by decide +kernel
theorem dX11_enough_17 : decode cX11_enough 17 = .ok (.getfield 60, 3) := by decide +kernel
theorem dX11_enough_20 : decode cX11_enough 20 = .ok (.bipush 54, 2) := by decide +kernel
theorem dX11_enough_22 : decode cX11_enough 22 = .ok (.iaload, 1) := by decide +kernel
theorem dX11_enough_23 : decode cX11_enough 23 = .ok (.i2l, 1) := by decide +kernel
theorem dX11_enough_24 : decode cX11_enough 24 = .ok (.ldc2_w 326, 3) := by decide +kernel
theorem dX11_enough_27 : decode cX11_enough 27 = .ok (.lmul, 1) := by decide +kernel
theorem dX11_enough_28 : decode cX11_enough 28 = .ok (.lcmp, 1) := by decide +kernel
theorem dX11_enough_29 : decode cX11_enough 29 = .ok (.ifCond .ge 5, 3) := by decide +kernel
theorem dX11_enough_32 : decode cX11_enough 32 = .ok (.iload_n 2, 1) := by decide +kernel
theorem dX11_enough_33 : decode cX11_enough 33 = .ok (.ireturn, 1) := by decide +kernel
theorem dX11_enough_34 : decode cX11_enough 34 = .ok (.iinc 2 1, 3) := by decide +kernel
theorem dX11_enough_37 : decode cX11_enough 37 = .ok (.goto (-35), 3) := by decide +kernel
theorem dX11_enough_40 : decode cX11_enough 40 = .ok (.iconst (-1), 1) := by decide +kernel
theorem dX11_enough_41 : decode cX11_enough 41 = .ok (.ireturn, 1) := by decide +kernel
set_option maxRecDepth 20000 in
theorem ggX11_count_X11_enough : GoodIn wsX11_count wsX11_enough := goodIn_r _ [12, 3, 13, 14, 15, 16, 11, 17, 18, 19, 47, 48, 49, 50, 51, 52, 53, 54, 55, 56, 57, 58, 59, 60, 61, 62, 63, 64, 65, 66, 67, 68, 69, 70, 71, 72, 73, 74, 75, 76, 77, 78, 79, 80, 81, 82, 83, 84, 85, 86, 87, 88, 89, 90, 91, 92, 93, 94, 95, 96, 97, 98, 99, 100, 101, 102, 103, 104, 105, 106, 107] (by decide +kernel) (by decide +kernel)
set_option maxRecDepth 20000 in
theorem gX11_count_X11_enough : GoodIn wsX11_count (wsV RX11 356 RX11 yX11_enough wsX11_enough) := goodIn_app (goodIn_of _ (by decide +kernel)) ggX11_count_X11_enough
set_option maxRecDepth 20000 in
theorem ggX11_count_X11_allSeen : GoodIn wsX11_count wsX11_allSeen := goodIn_r _ [23, 24, 25, 26, 11, 27, 2, 28, 29, 30, 31, 32, 33, 34, 35, 3, 36, 37, 38, 47, 48, 49, 50, 51, 52, 53, 54, 55, 56, 57, 58, 59, 60, 61, 62, 63, 64, 65, 66, 67, 68, 69, 70, 71, 72, 73, 74, 75, 76, 77, 78, 79, 80, 81, 82, 83, 84, 85, 86, 87, 88, 89, 90, 91, 92, 93, 94, 95, 96, 97, 98, 99, 100, 101, 102, 103, 104, 105, 106, 107] (by decide +kernel) (by decide +kernel)
set_option maxRecDepth 20000 in
theorem gX11_count_X11_allSeen : GoodIn wsX11_count (wsV RX11 365 RX11 yX11_allSeen wsX11_allSeen) := goodIn_app (goodIn_of _ (by decide +kernel)) ggX11_count_X11_allSeen
set_option maxRecDepth 20000 in
theorem ggX11_count_X11_sentAll : GoodIn wsX11_count wsX11_sentAll := goodIn_r _ [42, 3, 47, 48, 49, 50, 51, 52, 53, 54, 55, 56, 57, 58, 59, 60, 61, 62, 63, 64, 65, 66, 67, 68, 69, 70, 71, 72, 73, 74, 75, 76, 77, 78, 79, 80, 81, 82, 83, 84, 85, 86, 87, 88, 89, 90, 91, 92, 93, 94, 95, 96, 97, 98, 99, 100, 101, 102, 103, 104, 105, 106, 107] (by decide +kernel) (by decide +kernel)
set_option maxRecDepth 20000 in
theorem gX11_count_X11_sentAll : GoodIn wsX11_count (wsV RX11 395 RX11 yX11_sentAll wsX11_sentAll) := goodIn_app (goodIn_of _ (by decide +kernel)) ggX11_count_X11_sentAll
set_option maxRecDepth 20000 in
theorem ggX11_count_X11_fail : GoodIn wsX11_count wsX11_fail := goodIn_r _ [46, 1, 47, 48, 49, 50, 51, 52, 53, 54, 55, 56, 57, 58, 59, 60, 61, 62, 63, 64, 65, 66, 67, 68, 69, 70, 71, 72, 73, 74, 75, 76, 77, 78, 79, 80, 81, 82, 83, 84, 85, 86, 87, 88, 89, 90, 91, 92, 93, 94, 95, 96, 97, 98, 99, 100, 101, 102, 103, 104, 105, 106, 107] (by decide +kernel) (by decide +kernel)
set_option maxRecDepth 20000 in
theorem gX11_count_X11_fail : GoodIn wsX11_count (wsV RX11 240 RX11 yX11_fail wsX11_fail) := goodIn_app (goodIn_of _ (by decide +kernel)) ggX11_count_X11_fail
theorem dX11_count_0 : decode cX11_count 0 = .ok (.aload_n 0, 1) := by decide +kernel
theorem dX11_count_1 : decode cX11_count 1 = .ok (.iconst 0, 1) := by decide +kernel
theorem dX11_count_2 : decode cX11_count 2 = .ok (.putfield 142, 3) := by decide +kernel
theorem dX11_count_5 : decode cX11_count 5 = .ok (.iload_n 1, 1) := by decide +kernel
theorem dX11_count_6 : decode cX11_count 6 = .ok (.tableswitch 190 0 20 #[98, 98, 98, 105, 113, 113, 113, 113, 121, 126, 131, 136, 141, 146, 146, 146, 156, 164, 166, 174, 182], 98) := by decide +kernel
theorem dX11_count_104 : decode cX11_count 104 = .ok (.aload_n 0, 1) := by decide +kernel
theorem dX11_count_105 : decode cX11_count 105 = .ok (.getfield 34, 3) := by decide +kernel
theorem dX11_count_108 : decode cX11_count 108 = .ok (.iload_n 1, 1) := by decide +kernel
theorem dX11_count_109 : decode cX11_count 109 = .ok (.iaload, 1) := by decide +kernel
theorem dX11_count_110 : decode cX11_count 110 = .ok (.ireturn, 1) := by decide +kernel
theorem dX11_count_111 : decode cX11_count 111 = .ok (.aload_n 0, 1) := by decide +kernel
theorem dX11_count_112 : decode cX11_count 112 = .ok (.getfield 60, 3) := by decide +kernel
theorem dX11_count_115 : decode cX11_count 115 = .ok (.bipush 54, 2) := by decide +kernel
theorem dX11_count_117 : decode cX11_count 117 = .ok (.iaload, 1) := by decide +kernel
theorem dX11_count_118 : decode cX11_count 118 = .ok (.ireturn, 1) := by decide +kernel
theorem dX11_count_119 : decode cX11_count 119 = .ok (.aload_n 0, 1) := by decide +kernel
theorem dX11_count_120 : decode cX11_count 120 = .ok (.iload_n 1, 1) := by decide +kernel
theorem dX11_count_121 : decode cX11_count 121 = .ok (.iconst 3, 1) := by decide +kernel
theorem dX11_count_122 : decode cX11_count 122 = .ok (.isub, 1) := by decide +kernel
theorem dX11_count_123 : decode cX11_count 123 = .ok (.invokevirtual 356, 3) := by decide +kernel
theorem dX11_count_126 : decode cX11_count 126 = .ok (.ireturn, 1) := by decide +kernel
theorem dX11_count_127 : decode cX11_count 127 = .ok (.aload_n 0, 1) := by decide +kernel
theorem dX11_count_128 : decode cX11_count 128 = .ok (.invokevirtual 365, 3) := by decide +kernel
theorem dX11_count_131 : decode cX11_count 131 = .ok (.ireturn, 1) := by decide +kernel
theorem dX11_count_132 : decode cX11_count 132 = .ok (.aload_n 0, 1) := by decide +kernel
theorem dX11_count_133 : decode cX11_count 133 = .ok (.invokevirtual 395, 3) := by decide +kernel
theorem dX11_count_136 : decode cX11_count 136 = .ok (.ireturn, 1) := by decide +kernel
theorem dX11_count_137 : decode cX11_count 137 = .ok (.aload_n 0, 1) := by decide +kernel
theorem dX11_count_138 : decode cX11_count 138 = .ok (.getfield 250, 3) := by decide +kernel
theorem dX11_count_141 : decode cX11_count 141 = .ok (.ireturn, 1) := by decide +kernel
theorem dX11_count_142 : decode cX11_count 142 = .ok (.aload_n 0, 1) := by decide +kernel
theorem dX11_count_143 : decode cX11_count 143 = .ok (.getfield 253, 3) := by decide +kernel
theorem dX11_count_146 : decode cX11_count 146 = .ok (.ireturn, 1) := by decide +kernel
theorem dX11_count_147 : decode cX11_count 147 = .ok (.aload_n 0, 1) := by decide +kernel
theorem dX11_count_148 : decode cX11_count 148 = .ok (.getfield 145, 3) := by decide +kernel
theorem dX11_count_151 : decode cX11_count 151 = .ok (.ireturn, 1) := by decide +kernel
theorem dX11_count_152 : decode cX11_count 152 = .ok (.aload_n 0, 1) := by decide +kernel
theorem dX11_count_153 : decode cX11_count 153 = .ok (.getfield 63, 3) := by decide +kernel
theorem dX11_count_156 : decode cX11_count 156 = .ok (.iload_n 1, 1) := by decide +kernel
theorem dX11_count_157 : decode cX11_count 157 = .ok (.bipush 13, 2) := by decide +kernel
theorem dX11_count_159 : decode cX11_count 159 = .ok (.isub, 1) := by decide +kernel
theorem dX11_count_160 : decode cX11_count 160 = .ok (.iaload, 1) := by decide +kernel
theorem dX11_count_161 : decode cX11_count 161 = .ok (.ireturn, 1) := by decide +kernel
theorem dX11_count_162 : decode cX11_count 162 = .ok (.aload_n 0, 1) := by decide +kernel
theorem dX11_count_163 : decode cX11_count 163 = .ok (.getfield 60, 3) := by decide +kernel
theorem dX11_count_166 : decode cX11_count 166 = .ok (.bipush 55, 2) := by decide +kernel
theorem dX11_count_168 : decode cX11_count 168 = .ok (.iaload, 1) := by decide +kernel
theorem dX11_count_169 : decode cX11_count 169 = .ok (.ireturn, 1) := by decide +kernel
theorem dX11_count_170 : decode cX11_count 170 = .ok (.iconst 0, 1) := by decide +kernel
theorem dX11_count_171 : decode cX11_count 171 = .ok (.ireturn, 1) := by decide +kernel
theorem dX11_count_172 : decode cX11_count 172 = .ok (.aload_n 0, 1) := by decide +kernel
theorem dX11_count_173 : decode cX11_count 173 = .ok (.getfield 60, 3) := by decide +kernel
theorem dX11_count_176 : decode cX11_count 176 = .ok (.bipush 56, 2) := by decide +kernel
theorem dX11_count_178 : decode cX11_count 178 = .ok (.iaload, 1) := by decide +kernel
theorem dX11_count_179 : decode cX11_count 179 = .ok (.ireturn, 1) := by decide +kernel
theorem dX11_count_180 : decode cX11_count 180 = .ok (.aload_n 0, 1) := by decide +kernel
theorem dX11_count_181 : decode cX11_count 181 = .ok (.getfield 60, 3) := by decide +kernel
theorem dX11_count_184 : decode cX11_count 184 = .ok (.bipush 57, 2) := by decide +kernel
theorem dX11_count_186 : decode cX11_count 186 = .ok (.iaload, 1) := by decide +kernel
theorem dX11_count_187 : decode cX11_count 187 = .ok (.ireturn, 1) := by decide +kernel
theorem dX11_count_188 : decode cX11_count 188 = .ok (.aload_n 0, 1) := by decide +kernel
theorem dX11_count_189 : decode cX11_count 189 = .ok (.getfield 60, 3) := by decide +kernel
theorem dX11_count_192 : decode cX11_count 192 = .ok (.bipush 58, 2) := by decide +kernel
theorem dX11_count_194 : decode cX11_count 194 = .ok (.iaload, 1) := by decide +kernel
theorem dX11_count_195 : decode cX11_count 195 = .ok (.ireturn, 1) := by decide +kernel
theorem dX11_count_196 : decode cX11_count 196 = .ok (.aload_n 0, 1) := by decide +kernel
theorem dX11_count_197 : decode cX11_count 197 = .ok (.iconst 1, 1) := by decide +kernel
theorem dX11_count_198 : decode cX11_count 198 = .ok (.invokevirtual 240, 3) := by decide +kernel
theorem dX11_count_201 : decode cX11_count 201 = .ok (.ireturn, 1) := by decide +kernel
set_option maxRecDepth 20000 in
theorem ggX11_missing_X11_isIn : GoodIn wsX11_missing wsX11_isIn := goodIn_r _ [5] (by decide +kernel) (by decide +kernel)
set_option maxRecDepth 20000 in
theorem gX11_missing_X11_isIn : GoodIn wsX11_missing (va_wsS RX11 359 yX11_isIn wsX11_isIn) := goodIn_app (goodIn_of _ (by decide +kernel)) ggX11_missing_X11_isIn
set_option maxRecDepth 20000 in
theorem ggX11_missing_X11_missingOf : GoodIn wsX11_missing wsX11_missingOf := goodIn_r _ [9, 10, 11, 16, 17, 18, 19, 20, 21, 22, 23, 24, 25, 26, 27, 28, 29, 30, 31, 32, 33, 34, 35, 36, 37, 38, 39, 40, 41, 42, 43, 44, 45, 46, 47, 48, 49, 50, 51, 52, 53, 54, 55, 56, 57, 58, 59, 60, 61, 62, 63, 64, 65, 66, 67, 68, 69, 70, 71, 72, 73, 74, 75, 76] (by decide +kernel) (by decide +kernel)
set_option maxRecDepth 20000 in
theorem gX11_missing_X11_missingOf : GoodIn wsX11_missing (wsV RX11 322 RX11 yX11_missingOf wsX11_missingOf) := goodIn_app (goodIn_of _ (by decide +kernel)) ggX11_missing_X11_missingOf
set_option maxRecDepth 20000 in
theorem ggX11_missing_X11_fail : GoodIn wsX11_missing wsX11_fail := goodIn_r _ [15, 1, 16, 17, 18, 19, 20, 21, 22, 23, 24, 25, 26, 27, 28, 29, 30, 31, 32, 33, 34, 35, 36, 37, 38, 39, 40, 41, 42, 43, 44, 45, 46, 47, 48, 49, 50, 51, 52, 53, 54, 55, 56, 57, 58, 59, 60, 61, 62, 63, 64, 65, 66, 67, 68, 69, 70, 71, 72, 73, 74, 75, 76] (by decide +kernel) (by decide +kernel)
set_option maxRecDepth 20000 in
theorem gX11_missing_X11_fail : GoodIn wsX11_missing (wsV RX11 240 RX11 yX11_fail wsX11_fail) := goodIn_app (goodIn_of _ (by decide +kernel)) ggX11_missing_X11_fail
theorem dX11_missing_0 : decode cX11_missing 0 = .ok (.aload_n 0, 1) := by decide +kernel
theorem dX11_missing_1 : decode cX11_missing 1 = .ok (.iconst 0, 1) := by decide +kernel
theorem dX11_missing_2 : decode cX11_missing 2 = .ok (.putfield 142, 3) := by decide +kernel
theorem dX11_missing_5 : decode cX11_missing 5 = .ok (.iload_n 1, 1) := by decide +kernel
theorem dX11_missing_6 : decode cX11_missing 6 = .ok (.iconst 0, 1) := by decide +kernel
theorem dX11_missing_7 : decode cX11_missing 7 = .ok (.bipush 60, 2) := by decide +kernel
theorem dX11_missing_9 : decode cX11_missing 9 = .ok (.invokestatic 359, 3) := by decide +kernel
theorem dX11_missing_12 : decode cX11_missing 12 = .ok (.ifCond .eq 21, 3) := by decide +kernel
theorem dX11_missing_15 : decode cX11_missing 15 = .ok (.iload_n 2, 1) := by decide +kernel
theorem dX11_missing_16 : decode cX11_missing 16 = .ok (.iconst 1, 1) := by decide +kernel
theorem dX11_missing_17 : decode cX11_missing 17 = .ok (.iconst 5, 1) := by decide +kernel
theorem dX11_missing_18 : decode cX11_missing 18 = .ok (.invokestatic 359, 3) := by decide +kernel
theorem dX11_missing_21 : decode cX11_missing 21 = .ok (.ifCond .eq 12, 3) := by decide +kernel
theorem dX11_missing_24 : decode cX11_missing 24 = .ok (.aload_n 0, 1) := by decide +kernel
theorem dX11_missing_25 : decode cX11_missing 25 = .ok (.iload_n 1, 1) := by decide +kernel
theorem dX11_missing_26 : decode cX11_missing 26 = .ok (.iload_n 2, 1) := by decide +kernel
theorem dX11_missing_27 : decode cX11_missing 27 = .ok (.invokevirtual 322, 3) := by decide +kernel
theorem dX11_missing_30 : decode cX11_missing 30 = .ok (.goto 9, 3) := by decide +kernel
theorem dX11_missing_33 : decode cX11_missing 33 = .ok (.aload_n 0, 1) := by decide +kernel
theorem dX11_missing_34 : decode cX11_missing 34 = .ok (.iconst 1, 1) := by decide +kernel
theorem dX11_missing_35 : decode cX11_missing 35 = .ok (.invokevirtual 240, 3) := by decide +kernel
theorem dX11_missing_38 : decode cX11_missing 38 = .ok (.i2l, 1) := by decide +kernel
theorem dX11_missing_39 : decode cX11_missing 39 = .ok (.lreturn, 1) := by decide +kernel
