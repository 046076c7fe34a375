set_option maxRecDepth 20000 in
theorem ggL_roll_X5_pegsIn : GoodIn wsL_roll wsX5_pegsIn := goodIn_ca (goodIn_r _ [6, 7, 8, 9, 10, 11, 12, 5, 13, 14, 15, 16, 17, 18, 19, 20, 21, 22, 23, 24, 25, 26, 27, 28] (by decide +kernel) (by decide +kernel)) (goodIn_sub (fun _ h => List.mem_cons_of_mem _ (List.mem_append_right _ h)) (by decide +kernel))
set_option maxRecDepth 20000 in
theorem gL_roll_X5_pegsIn : GoodIn wsL_roll (wsV RL 11 RX5 yX5_pegsIn wsX5_pegsIn) := goodIn_app (goodIn_of _ (by decide +kernel)) ggL_roll_X5_pegsIn
theorem dL_roll_0 : decode cL_roll 0 = .ok (.lconst 1, 1) := by decide +kernel
theorem dL_roll_1 : decode cL_roll 1 = .ok (.lstore_n 1, 1) := by decide +kernel
theorem dL_roll_2 : decode cL_roll 2 = .ok (.iconst 0, 1) := by decide +kernel
theorem dL_roll_3 : decode cL_roll 3 = .ok (.istore_n 3, 1) := by decide +kernel
theorem dL_roll_4 : decode cL_roll 4 = .ok (.iload_n 3, 1) := by decide +kernel
theorem dL_roll_5 : decode cL_roll 5 = .ok (.bipush 32, 2) := by decide +kernel
theorem dL_roll_7 : decode cL_roll 7 = .ok (.if_icmp .ge 22, 3) := by decide +kernel
theorem dL_roll_10 : decode cL_roll 10 = .ok (.ldc2_w 9, 3) := by decide +kernel
theorem dL_roll_13 : decode cL_roll 13 = .ok (.lload_n 1, 1) := by decide +kernel
theorem dL_roll_14 : decode cL_roll 14 = .ok (.lmul, 1) := by decide +kernel
theorem dL_roll_15 : decode cL_roll 15 = .ok (.aload_n 0, 1) := by decide +kernel
theorem dL_roll_16 : decode cL_roll 16 = .ok (.iload_n 3, 1) := by decide +kernel
theorem dL_roll_17 : decode cL_roll 17 = .ok (.invokevirtual 11, 3) := by decide +kernel
theorem dL_roll_20 : decode cL_roll 20 = .ok (.i2l, 1) := by decide +kernel
theorem dL_roll_21 : decode cL_roll 21 = .ok (.ladd, 1) := by decide +kernel
theorem dL_roll_22 : decode cL_roll 22 = .ok (.lstore_n 1, 1) := by decide +kernel
theorem dL_roll_23 : decode cL_roll 23 = .ok (.iinc 3 1, 3) := by decide +kernel
theorem dL_roll_26 : decode cL_roll 26 = .ok (.goto (-22), 3) := by decide +kernel
theorem dL_roll_29 : decode cL_roll 29 = .ok (.lload_n 1, 1) := by decide +kernel
theorem dL_roll_30 : decode cL_roll 30 = .ok (.lreturn, 1) := by decide +kernel
set_option maxRecDepth 20000 in
theorem ggL_change_X5_undoable : GoodIn wsL_change wsX5_undoable := goodIn_r _ [5, 6, 7, 290, 291, 292, 293, 294, 295, 296] (by decide +kernel) (by decide +kernel)
set_option maxRecDepth 20000 in
theorem gL_change_X5_undoable : GoodIn wsL_change (wsV RL 17 RX5 yX5_undoable wsX5_undoable) := goodIn_app (goodIn_of _ (by decide +kernel)) ggL_change_X5_undoable
set_option maxRecDepth 20000 in
theorem ggL_change_X5_pegs : GoodIn wsL_change wsX5_pegs := goodIn_r _ [11, 12, 13, 14, 15, 16, 17, 18, 19, 20, 21, 22, 23, 24, 25, 290, 291, 292, 293, 294, 297, 298, 299, 300, 301, 302, 303, 304, 305, 306] (by decide +kernel) (by decide +kernel)
set_option maxRecDepth 20000 in
theorem gL_change_X5_pegs : GoodIn wsL_change (wsV RL 21 RX5 yX5_pegs wsX5_pegs) := goodIn_app (goodIn_of _ (by decide +kernel)) ggL_change_X5_pegs
set_option maxRecDepth 20000 in
theorem ggL_change_L_low : GoodIn wsL_change wsL_low := goodIn_r _ [29, 30] (by decide +kernel) (by decide +kernel)
set_option maxRecDepth 20000 in
theorem gL_change_L_low : GoodIn wsL_change (va_wsS RL 24 yL_low wsL_low) := goodIn_app (goodIn_of _ (by decide +kernel)) ggL_change_L_low
set_option maxRecDepth 20000 in
theorem ggL_change_X5_pegsIn : GoodIn wsL_change wsX5_pegsIn := goodIn_ca (goodIn_r _ [34, 35, 36, 12, 37, 38, 39, 4, 40, 290, 291, 292, 293, 294, 297, 298, 299, 300, 301, 302, 303, 304, 305, 306] (by decide +kernel) (by decide +kernel)) (goodIn_sub (fun _ h => List.mem_cons_of_mem _ (List.mem_append_left _ (List.mem_append_left _ (List.mem_append_left _ (List.mem_append_right _ h))))) (by decide +kernel))
set_option maxRecDepth 20000 in
theorem gL_change_X5_pegsIn : GoodIn wsL_change (wsV RL 11 RX5 yX5_pegsIn wsX5_pegsIn) := goodIn_app (goodIn_of _ (by decide +kernel)) ggL_change_X5_pegsIn
set_option maxRecDepth 20000 in
theorem ggL_change_X5_turnPeg : GoodIn wsL_change wsX5_turnPeg := goodIn_ca (goodIn_r _ [44, 35, 36, 6, 12, 37, 38, 39, 4, 40, 45, 46, 47, 48, 49, 50, 51, 52, 53, 54, 55, 56, 57, 58, 59, 60, 61, 16, 62, 18, 63, 64, 65, 66, 67, 68, 69, 70, 71, 72, 73, 74, 75, 76, 77, 78, 79, 80, 81, 82, 83, 84, 85, 290, 291, 292, 293, 294, 297, 298, 299, 300, 301, 302, 303, 304, 305, 306, 295, 296, 307] (by decide +kernel) (by decide +kernel)) (goodIn_sub (fun _ h => List.mem_cons_of_mem _ (List.mem_append_left _ (List.mem_append_left _ (List.mem_append_left _ (List.mem_append_right _ h))))) (by decide +kernel))
set_option maxRecDepth 20000 in
theorem gL_change_X5_turnPeg : GoodIn wsL_change (wsV RL 30 RX5 yX5_turnPeg wsX5_turnPeg) := goodIn_app (goodIn_of _ (by decide +kernel)) ggL_change_X5_turnPeg
set_option maxRecDepth 20000 in
theorem ggL_change_X5_setColumn : GoodIn wsL_change wsX5_setColumn := goodIn_ca (goodIn_ca (goodIn_r _ [89, 35, 36, 90, 91, 6, 12, 37, 38, 39, 4, 40, 48, 49, 50, 51, 52, 53, 54, 55, 56, 57, 58, 59, 60, 61, 16, 62, 18, 63, 64, 65, 66, 67, 68, 69, 70, 71, 72, 73, 74, 75, 76, 77, 78, 79, 80, 81, 82, 92, 93, 94, 95, 19, 20, 21, 22, 23, 24, 25, 290, 291, 292, 293, 294, 297, 298, 299, 300, 301, 302, 303, 304, 305, 306, 295, 296, 307] (by decide +kernel) (by decide +kernel)) (goodIn_sub (fun _ h => List.mem_cons_of_mem _ (List.mem_append_left _ (List.mem_append_left _ (List.mem_append_left _ (List.mem_append_right _ h))))) (by decide +kernel))) (goodIn_sub (fun _ h => List.mem_cons_of_mem _ (List.mem_append_left _ (List.mem_append_left _ (List.mem_append_right _ h)))) (by decide +kernel))
set_option maxRecDepth 20000 in
theorem gL_change_X5_setColumn : GoodIn wsL_change (wsV RL 34 RX5 yX5_setColumn wsX5_setColumn) := goodIn_app (goodIn_of _ (by decide +kernel)) ggL_change_X5_setColumn
set_option maxRecDepth 20000 in
theorem ggL_change_L_count : GoodIn wsL_change wsL_count := goodIn_r _ [98] (by decide +kernel) (by decide +kernel)
set_option maxRecDepth 20000 in
theorem gL_change_L_count : GoodIn wsL_change (va_wsS RL 37 yL_count wsL_count) := goodIn_app (goodIn_of _ (by decide +kernel)) ggL_change_L_count
set_option maxRecDepth 20000 in
theorem ggL_change_X5_tempoOf : GoodIn wsL_change wsX5_tempoOf := goodIn_ca (goodIn_r _ [102, 35, 36, 12, 103, 104, 105, 4, 106, 290, 291, 292, 293, 294, 297, 298, 299, 300, 301, 302, 303, 304, 305, 306] (by decide +kernel) (by decide +kernel)) (goodIn_sub (fun _ h => List.mem_cons_of_mem _ (List.mem_append_left _ (List.mem_append_left _ (List.mem_append_left _ (List.mem_append_right _ h))))) (by decide +kernel))
set_option maxRecDepth 20000 in
theorem gL_change_X5_tempoOf : GoodIn wsL_change (wsV RL 40 RX5 yX5_tempoOf wsX5_tempoOf) := goodIn_app (goodIn_of _ (by decide +kernel)) ggL_change_X5_tempoOf
set_option maxRecDepth 20000 in
theorem ggL_change_X5_ticksOfRound : GoodIn wsL_change wsX5_ticksOfRound := goodIn_r _ [110, 12, 111, 112, 113, 16, 114, 67, 115, 116, 117, 118, 290, 291, 292, 293, 294, 297, 298, 299, 300, 301, 302, 303, 304, 305, 306] (by decide +kernel) (by decide +kernel)
set_option maxRecDepth 20000 in
theorem gL_change_X5_ticksOfRound : GoodIn wsL_change (wsV RL 43 RX5 yX5_ticksOfRound wsX5_ticksOfRound) := goodIn_app (goodIn_of _ (by decide +kernel)) ggL_change_X5_ticksOfRound
set_option maxRecDepth 20000 in
theorem ggL_change_X5_setTempo : GoodIn wsL_change wsX5_setTempo := goodIn_ca (goodIn_ca (goodIn_r _ [122, 35, 36, 90, 91, 6, 12, 103, 104, 105, 4, 106, 48, 49, 50, 51, 52, 53, 54, 55, 56, 57, 58, 59, 60, 61, 16, 62, 18, 63, 64, 65, 66, 67, 68, 69, 70, 71, 72, 73, 74, 75, 76, 77, 78, 79, 80, 81, 82, 290, 291, 292, 293, 294, 297, 298, 299, 300, 301, 302, 303, 304, 305, 306, 295, 296, 307] (by decide +kernel) (by decide +kernel)) (goodIn_sub (fun _ h => List.mem_cons_of_mem _ (List.mem_append_left _ (List.mem_append_left _ (List.mem_append_left _ (List.mem_append_right _ h))))) (by decide +kernel))) (goodIn_sub (fun _ h => List.mem_cons_of_mem _ (List.mem_append_left _ (List.mem_append_left _ (List.mem_append_right _ h)))) (by decide +kernel))
set_option maxRecDepth 20000 in
theorem gL_change_X5_setTempo : GoodIn wsL_change (wsV RL 47 RX5 yX5_setTempo wsX5_setTempo) := goodIn_app (goodIn_of _ (by decide +kernel)) ggL_change_X5_setTempo
set_option maxRecDepth 20000 in
theorem ggL_change_X5_weightOf : GoodIn wsL_change wsX5_weightOf := goodIn_ca (goodIn_r _ [126, 35, 36, 12, 127, 45, 46, 4, 47, 290, 291, 292, 293, 294, 297, 298, 299, 300, 301, 302, 303, 304, 305, 306] (by decide +kernel) (by decide +kernel)) (goodIn_sub (fun _ h => List.mem_cons_of_mem _ (List.mem_append_left _ (List.mem_append_left _ (List.mem_append_left _ (List.mem_append_right _ h))))) (by decide +kernel))
set_option maxRecDepth 20000 in
theorem gL_change_X5_weightOf : GoodIn wsL_change (wsV RL 50 RX5 yX5_weightOf wsX5_weightOf) := goodIn_app (goodIn_of _ (by decide +kernel)) ggL_change_X5_weightOf
set_option maxRecDepth 20000 in
theorem ggL_change_X5_setWeight : GoodIn wsL_change wsX5_setWeight := goodIn_ca (goodIn_ca (goodIn_r _ [131, 35, 36, 90, 91, 6, 12, 127, 45, 46, 4, 47, 48, 49, 50, 51, 52, 53, 54, 55, 56, 57, 58, 59, 60, 61, 16, 62, 18, 63, 64, 65, 66, 67, 68, 69, 70, 71, 72, 73, 74, 75, 76, 77, 78, 79, 80, 81, 82, 290, 291, 292, 293, 294, 297, 298, 299, 300, 301, 302, 303, 304, 305, 306, 295, 296, 307] (by decide +kernel) (by decide +kernel)) (goodIn_sub (fun _ h => List.mem_cons_of_mem _ (List.mem_append_left _ (List.mem_append_left _ (List.mem_append_left _ (List.mem_append_right _ h))))) (by decide +kernel))) (goodIn_sub (fun _ h => List.mem_cons_of_mem _ (List.mem_append_left _ (List.mem_append_left _ (List.mem_append_right _ h)))) (by decide +kernel))
set_option maxRecDepth 20000 in
theorem gL_change_X5_setWeight : GoodIn wsL_change (wsV RL 53 RX5 yX5_setWeight wsX5_setWeight) := goodIn_app (goodIn_of _ (by decide +kernel)) ggL_change_X5_setWeight
set_option maxRecDepth 20000 in
theorem ggL_change_X5_setBound : GoodIn wsL_change wsX5_setBound := goodIn_ca (goodIn_r _ [135, 90, 91, 6, 12, 136, 48, 49, 50, 51, 52, 53, 54, 55, 56, 57, 58, 59, 60, 61, 16, 62, 18, 63, 64, 65, 66, 67, 68, 69, 70, 71, 72, 73, 74, 75, 76, 77, 78, 79, 80, 81, 82, 290, 291, 292, 293, 294, 297, 298, 299, 300, 301, 302, 303, 304, 305, 306, 295, 296, 307] (by decide +kernel) (by decide +kernel)) (goodIn_sub (fun _ h => List.mem_cons_of_mem _ (List.mem_append_left _ (List.mem_append_left _ (List.mem_append_right _ h)))) (by decide +kernel))
set_option maxRecDepth 20000 in
theorem gL_change_X5_setBound : GoodIn wsL_change (wsV RL 56 RX5 yX5_setBound wsX5_setBound) := goodIn_app (goodIn_of _ (by decide +kernel)) ggL_change_X5_setBound
set_option maxRecDepth 20000 in
theorem ggL_change_L_turns : GoodIn wsL_change wsL_turns := goodIn_ca (goodIn_ca (goodIn_r _ [139, 140, 141, 28, 142, 143, 31, 32, 33, 4, 34, 35, 36, 12, 37, 38, 39, 40, 8, 9, 10, 11, 13, 14, 15, 16, 17, 18, 19, 20, 21, 22, 23, 24, 25, 144, 145, 146, 147, 6, 48, 49, 50, 51, 52, 53, 54, 55, 56, 57, 58, 59, 60, 61, 62, 63, 64, 65, 66, 67, 68, 69, 70, 71, 72, 73, 74, 75, 76, 77, 78, 79, 80, 81, 82, 92, 93, 94, 95, 148, 149, 150, 151, 7, 152, 153, 154, 155, 156, 157, 158, 290, 291, 292, 293, 294, 297, 298, 299, 300, 301, 302, 303, 304, 305, 306, 295, 296, 307] rfl (by decide +kernel)) (goodIn_sub (fun _ h => List.mem_cons_of_mem _ (List.mem_append_left _ (List.mem_append_left _ (List.mem_append_left _ (List.mem_append_right _ h))))) (by decide +kernel))) (goodIn_sub (fun _ h => List.mem_cons_of_mem _ (List.mem_append_left _ (List.mem_append_right _ h))) (by decide +kernel))
set_option maxRecDepth 20000 in
theorem gL_change_L_turns : GoodIn wsL_change (va_wsS RL 59 yL_turns wsL_turns) := goodIn_app (goodIn_of _ (by decide +kernel)) ggL_change_L_turns
set_option maxRecDepth 20000 in
theorem ggL_change_L_moves : GoodIn wsL_change wsL_moves := goodIn_ca (goodIn_ca (goodIn_ca (goodIn_r _ [161, 140, 141, 28, 142, 143, 31, 32, 33, 4, 34, 35, 36, 12, 37, 38, 39, 40, 162, 163, 164, 165, 90, 91, 6, 48, 49, 50, 51, 52, 53, 54, 55, 56, 57, 58, 59, 60, 61, 16, 62, 18, 63, 64, 65, 66, 67, 68, 69, 70, 71, 72, 73, 74, 75, 76, 77, 78, 79, 80, 81, 82, 92, 93, 94, 95, 19, 20, 21, 22, 23, 24, 25, 148, 149, 150, 151, 7, 152, 153, 154, 155, 156, 157, 158, 290, 291, 292, 293, 294, 297, 298, 299, 300, 301, 302, 303, 304, 305, 306, 295, 296, 307] rfl (by decide +kernel)) (goodIn_sub (fun _ h => List.mem_cons_of_mem _ (List.mem_append_left _ (List.mem_append_left _ (List.mem_append_left _ (List.mem_append_right _ h))))) (by decide +kernel))) (goodIn_sub (fun _ h => List.mem_cons_of_mem _ (List.mem_append_left _ (List.mem_append_left _ (List.mem_append_right _ h)))) (by decide +kernel))) (goodIn_sub (fun _ h => List.mem_cons_of_mem _ (List.mem_append_left _ (List.mem_append_right _ h))) (by decide +kernel))
set_option maxRecDepth 20000 in
theorem gL_change_L_moves : GoodIn wsL_change (va_wsS RL 63 yL_moves wsL_moves) := goodIn_app (goodIn_of _ (by decide +kernel)) ggL_change_L_moves
set_option maxRecDepth 20000 in
theorem ggL_change_X5_raise : GoodIn wsL_change wsX5_raise := goodIn_r _ [169, 6, 12, 37, 48, 49, 50, 51, 52, 53, 54, 55, 56, 57, 58, 59, 60, 61, 16, 62, 18, 63, 64, 65, 66, 67, 68, 69, 70, 71, 72, 73, 74, 75, 76, 77, 78, 79, 80, 81, 82, 83, 84, 4, 85, 290, 291, 292, 293, 294, 297, 298, 299, 300, 301, 302, 303, 304, 305, 306, 295, 296, 307] (by decide +kernel) (by decide +kernel)
set_option maxRecDepth 20000 in
theorem gL_change_X5_raise : GoodIn wsL_change (wsV RL 67 RX5 yX5_raise wsX5_raise) := goodIn_app (goodIn_of _ (by decide +kernel)) ggL_change_X5_raise
set_option maxRecDepth 20000 in
theorem ggL_change_X5_column : GoodIn wsL_change wsX5_column := goodIn_r _ [173, 12, 174, 290, 291, 292, 293, 294, 297, 298, 299, 300, 301, 302, 303, 304, 305, 306] (by decide +kernel) (by decide +kernel)
set_option maxRecDepth 20000 in
theorem gL_change_X5_column : GoodIn wsL_change (wsV RL 70 RX5 yX5_column wsX5_column) := goodIn_app (goodIn_of _ (by decide +kernel)) ggL_change_X5_column
set_option maxRecDepth 20000 in
theorem ggL_change_X5_time : GoodIn wsL_change wsX5_time := goodIn_r _ [178, 12, 179, 290, 291, 292, 293, 294, 297, 298, 299, 300, 301, 302, 303, 304, 305, 306] (by decide +kernel) (by decide +kernel)
set_option maxRecDepth 20000 in
theorem gL_change_X5_time : GoodIn wsL_change (wsV RL 73 RX5 yX5_time wsX5_time) := goodIn_app (goodIn_of _ (by decide +kernel)) ggL_change_X5_time
set_option maxRecDepth 20000 in
theorem ggL_change_X5_turnBack : GoodIn wsL_change wsX5_turnBack := goodIn_r _ [183, 6, 12, 174, 184, 48, 49, 50, 51, 52, 53, 54, 55, 56, 57, 58, 59, 60, 61, 16, 62, 18, 63, 64, 65, 66, 67, 68, 69, 70, 71, 72, 73, 74, 75, 76, 77, 78, 79, 80, 81, 82, 185, 186, 187, 188, 189, 190, 191, 192, 290, 291, 292, 293, 294, 297, 298, 299, 300, 301, 302, 303, 304, 305, 306, 295, 296, 307] (by decide +kernel) (by decide +kernel)
set_option maxRecDepth 20000 in
theorem gL_change_X5_turnBack : GoodIn wsL_change (wsV RL 76 RX5 yX5_turnBack wsX5_turnBack) := goodIn_app (goodIn_of _ (by decide +kernel)) ggL_change_X5_turnBack
set_option maxRecDepth 20000 in
theorem ggL_change_L_cranks : GoodIn wsL_change wsL_cranks := goodIn_ca (goodIn_ca (goodIn_ca (goodIn_r _ [195, 196, 197, 198, 4, 199, 35, 36, 200, 201, 202, 16, 12, 203, 204, 205, 206, 207, 208, 209, 210, 211, 212, 18, 67, 68, 69, 213, 214, 79, 70, 71, 72, 73, 74, 75, 215, 216, 217, 218, 81, 189, 190, 191, 192, 219, 158, 60, 61, 62, 63, 64, 65, 66, 76, 77, 78, 80, 82, 13, 14, 15, 17, 19, 20, 21, 22, 23, 24, 25, 170, 171, 172, 173, 174, 220, 221, 222, 223, 90, 91, 6, 48, 49, 50, 51, 52, 53, 54, 55, 56, 57, 58, 59, 224, 225, 226, 227, 228, 229, 230, 231, 232, 233, 234, 235, 236, 237, 238, 239, 84, 85, 240, 241, 242, 243, 244, 245, 246, 247, 248, 249, 250, 251, 252, 253, 254, 255, 256, 257, 258, 259, 260, 261, 262, 263, 264, 265, 266, 267, 268, 269, 175, 176, 177, 178, 179, 270, 271, 272, 273, 274, 157, 275, 276, 28, 277, 278, 31, 32, 33, 34, 37, 38, 39, 40, 279, 280, 281, 282, 184, 127, 45, 46, 47, 83, 283, 284, 123, 124, 125, 126, 96, 97, 98, 99, 100, 101, 102, 103, 104, 105, 106, 285, 286, 287, 288, 289, 290, 291, 292, 293, 294, 297, 298, 299, 300, 301, 302, 303, 304, 305, 306, 307, 295, 296] rfl (by decide +kernel)) (goodIn_sub (fun _ h => List.mem_cons_of_mem _ (List.mem_append_left _ (List.mem_append_left _ (List.mem_append_left _ (List.mem_append_right _ h))))) (by decide +kernel))) (goodIn_sub (fun _ h => List.mem_cons_of_mem _ (List.mem_append_left _ (List.mem_append_left _ (List.mem_append_right _ h)))) (by decide +kernel))) (goodIn_sub (fun _ h => List.mem_cons_of_mem _ (List.mem_append_right _ h)) (by decide +kernel))
set_option maxRecDepth 20000 in
theorem gL_change_L_cranks : GoodIn wsL_change (va_wsS RL 79 yL_cranks wsL_cranks) := goodIn_app (goodIn_of _ (by decide +kernel)) ggL_change_L_cranks
theorem dL_change_0 : decode cL_change 0 = .ok (.aload_n 0, 1) := by decide +kernel
theorem dL_change_1 : decode cL_change 1 = .ok (.invokevirtual 17, 3) := by decide +kernel
theorem dL_change_4 : decode cL_change 4 = .ok (.istore 4, 2) := by decide +kernel
theorem dL_change_6 : decode cL_change 6 = .ok (.aload_n 0, 1) := by decide +kernel
theorem dL_change_7 : decode cL_change 7 = .ok (.invokevirtual 21, 3) := by decide +kernel
theorem dL_change_10 : decode cL_change 10 = .ok (.istore 5, 2) := by decide +kernel
theorem dL_change_12 : decode cL_change 12 = .ok (.iconst 1, 1) := by decide +kernel
theorem dL_change_13 : decode cL_change 13 = .ok (.istore 6, 2) := by decide +kernel
theorem dL_change_15 : decode cL_change 15 = .ok (.iload_n 1, 1) := by decide +kernel
theorem dL_change_16 : decode cL_change 16 = .ok (.tableswitch 641 0 10 #[60, 177, 177, 177, 294, 369, 435, 483, 488, 501, 594], 60) := by decide +kernel
theorem dL_change_76 : decode cL_change 76 = .ok (.iload_n 2, 1) := by decide +kernel
theorem dL_change_77 : decode cL_change 77 = .ok (.bipush 32, 2) := by decide +kernel
theorem dL_change_79 : decode cL_change 79 = .ok (.invokestatic 24, 3) := by decide +kernel
theorem dL_change_82 : decode cL_change 82 = .ok (.istore 7, 2) := by decide +kernel
theorem dL_change_84 : decode cL_change 84 = .ok (.aload_n 0, 1) := by decide +kernel
theorem dL_change_85 : decode cL_change 85 = .ok (.iload 7, 2) := by decide +kernel
theorem dL_change_87 : decode cL_change 87 = .ok (.invokevirtual 11, 3) := by decide +kernel
theorem dL_change_90 : decode cL_change 90 = .ok (.iload_n 3, 1) := by decide +kernel
theorem dL_change_91 : decode cL_change 91 = .ok (.bipush 10, 2) := by decide +kernel
theorem dL_change_93 : decode cL_change 93 = .ok (.invokestatic 24, 3) := by decide +kernel
theorem dL_change_96 : decode cL_change 96 = .ok (.ishr, 1) := by decide +kernel
theorem dL_change_97 : decode cL_change 97 = .ok (.iconst 1, 1) := by decide +kernel
theorem dL_change_98 : decode cL_change 98 = .ok (.iand, 1) := by decide +kernel
theorem dL_change_99 : decode cL_change 99 = .ok (.iconst 1, 1) := by decide +kernel
theorem dL_change_100 : decode cL_change 100 = .ok (.if_icmp .ne 7, 3) := by decide +kernel
theorem dL_change_103 : decode cL_change 103 = .ok (.iconst 1, 1) := by decide +kernel
theorem dL_change_104 : decode cL_change 104 = .ok (.goto 4, 3) := by decide +kernel
theorem dL_change_107 : decode cL_change 107 = .ok (.iconst 0, 1) := by decide +kernel
theorem dL_change_108 : decode cL_change 108 = .ok (.istore 8, 2) := by decide +kernel
theorem dL_change_110 : decode cL_change 110 = .ok (.aload_n 0, 1) := by decide +kernel
theorem dL_change_111 : decode cL_change 111 = .ok (.iload 7, 2) := by decide +kernel
theorem dL_change_113 : decode cL_change 113 = .ok (.iload_n 3, 1) := by decide +kernel
theorem dL_change_114 : decode cL_change 114 = .ok (.bipush 10, 2) := by decide +kernel
theorem dL_change_116 : decode cL_change 116 = .ok (.invokestatic 24, 3) := by decide +kernel
theorem dL_change_119 : decode cL_change 119 = .ok (.invokevirtual 30, 3) := by decide +kernel
theorem dL_change_122 : decode cL_change 122 = .ok (.iload 8, 2) := by decide +kernel
theorem dL_change_124 : decode cL_change 124 = .ok (.ifCond .ne 7, 3) := by decide +kernel
theorem dL_change_127 : decode cL_change 127 = .ok (.iconst 1, 1) := by decide +kernel
theorem dL_change_128 : decode cL_change 128 = .ok (.goto 4, 3) := by decide +kernel
theorem dL_change_131 : decode cL_change 131 = .ok (.iconst 0, 1) := by decide +kernel
theorem dL_change_132 : decode cL_change 132 = .ok (.if_icmp .ne 55, 3) := by decide +kernel
theorem dL_change_135 : decode cL_change 135 = .ok (.aload_n 0, 1) := by decide +kernel
theorem dL_change_136 : decode cL_change 136 = .ok (.iload 7, 2) := by decide +kernel
theorem dL_change_138 : decode cL_change 138 = .ok (.invokevirtual 11, 3) := by decide +kernel
theorem dL_change_141 : decode cL_change 141 = .ok (.iload_n 3, 1) := by decide +kernel
theorem dL_change_142 : decode cL_change 142 = .ok (.bipush 10, 2) := by decide +kernel
theorem dL_change_144 : decode cL_change 144 = .ok (.invokestatic 24, 3) := by decide +kernel
theorem dL_change_147 : decode cL_change 147 = .ok (.ishr, 1) := by decide +kernel
theorem dL_change_148 : decode cL_change 148 = .ok (.iconst 1, 1) := by decide +kernel
theorem dL_change_149 : decode cL_change 149 = .ok (.iand, 1) := by decide +kernel
theorem dL_change_150 : decode cL_change 150 = .ok (.iload 8, 2) := by decide +kernel
theorem dL_change_152 : decode cL_change 152 = .ok (.ifCond .eq 7, 3) := by decide +kernel
theorem dL_change_155 : decode cL_change 155 = .ok (.iconst 0, 1) := by decide +kernel
theorem dL_change_156 : decode cL_change 156 = .ok (.goto 4, 3) := by decide +kernel
theorem dL_change_159 : decode cL_change 159 = .ok (.iconst 1, 1) := by decide +kernel
theorem dL_change_160 : decode cL_change 160 = .ok (.if_icmp .ne 27, 3) := by decide +kernel
theorem dL_change_163 : decode cL_change 163 = .ok (.aload_n 0, 1) := by decide +kernel
theorem dL_change_164 : decode cL_change 164 = .ok (.invokevirtual 21, 3) := by decide +kernel
theorem dL_change_167 : decode cL_change 167 = .ok (.iload 5, 2) := by decide +kernel
theorem dL_change_169 : decode cL_change 169 = .ok (.iload 8, 2) := by decide +kernel
theorem dL_change_171 : decode cL_change 171 = .ok (.ifCond .eq 7, 3) := by decide +kernel
theorem dL_change_174 : decode cL_change 174 = .ok (.iconst (-1), 1) := by decide +kernel
theorem dL_change_175 : decode cL_change 175 = .ok (.goto 4, 3) := by decide +kernel
theorem dL_change_178 : decode cL_change 178 = .ok (.iconst 1, 1) := by decide +kernel
theorem dL_change_179 : decode cL_change 179 = .ok (.iadd, 1) := by decide +kernel
theorem dL_change_180 : decode cL_change 180 = .ok (.if_icmp .ne 7, 3) := by decide +kernel
theorem dL_change_183 : decode cL_change 183 = .ok (.iconst 1, 1) := by decide +kernel
theorem dL_change_184 : decode cL_change 184 = .ok (.goto 4, 3) := by decide +kernel
theorem dL_change_187 : decode cL_change 187 = .ok (.iconst 0, 1) := by decide +kernel
theorem dL_change_188 : decode cL_change 188 = .ok (.istore 6, 2) := by decide +kernel
theorem dL_change_190 : decode cL_change 190 = .ok (.goto 492, 3) := by decide +kernel
theorem dL_change_193 : decode cL_change 193 = .ok (.iload_n 2, 1) := by decide +kernel
theorem dL_change_194 : decode cL_change 194 = .ok (.bipush 32, 2) := by decide +kernel
theorem dL_change_196 : decode cL_change 196 = .ok (.invokestatic 24, 3) := by decide +kernel
theorem dL_change_199 : decode cL_change 199 = .ok (.istore 9, 2) := by decide +kernel
theorem dL_change_201 : decode cL_change 201 = .ok (.iload_n 3, 1) := by decide +kernel
theorem dL_change_202 : decode cL_change 202 = .ok (.iconst 3, 1) := by decide +kernel
theorem dL_change_203 : decode cL_change 203 = .ok (.iand, 1) := by decide +kernel
theorem dL_change_204 : decode cL_change 204 = .ok (.ifCond .ne 15, 3) := by decide +kernel
theorem dL_change_207 : decode cL_change 207 = .ok (.iload_n 3, 1) := by decide +kernel
theorem dL_change_208 : decode cL_change 208 = .ok (.iconst 2, 1) := by decide +kernel
theorem dL_change_209 : decode cL_change 209 = .ok (.ishr, 1) := by decide +kernel
theorem dL_change_210 : decode cL_change 210 = .ok (.sipush 1024, 3) := by decide +kernel
theorem dL_change_213 : decode cL_change 213 = .ok (.invokestatic 24, 3) := by decide +kernel
theorem dL_change_216 : decode cL_change 216 = .ok (.goto 23, 3) := by decide +kernel
theorem dL_change_219 : decode cL_change 219 = .ok (.iload_n 3, 1) := by decide +kernel
theorem dL_change_220 : decode cL_change 220 = .ok (.iconst 2, 1) := by decide +kernel
theorem dL_change_221 : decode cL_change 221 = .ok (.ishr, 1) := by decide +kernel
theorem dL_change_222 : decode cL_change 222 = .ok (.sipush 1024, 3) := by decide +kernel
theorem dL_change_225 : decode cL_change 225 = .ok (.invokestatic 24, 3) := by decide +kernel
theorem dL_change_228 : decode cL_change 228 = .ok (.iload_n 3, 1) := by decide +kernel
theorem dL_change_229 : decode cL_change 229 = .ok (.bipush 7, 2) := by decide +kernel
theorem dL_change_231 : decode cL_change 231 = .ok (.ishr, 1) := by decide +kernel
theorem dL_change_232 : decode cL_change 232 = .ok (.sipush 1024, 3) := by decide +kernel
theorem dL_change_235 : decode cL_change 235 = .ok (.invokestatic 24, 3) := by decide +kernel
theorem dL_change_238 : decode cL_change 238 = .ok (.iand, 1) := by decide +kernel
theorem dL_change_239 : decode cL_change 239 = .ok (.istore 10, 2) := by decide +kernel
theorem dL_change_241 : decode cL_change 241 = .ok (.aload_n 0, 1) := by decide +kernel
theorem dL_change_242 : decode cL_change 242 = .ok (.iload 9, 2) := by decide +kernel
theorem dL_change_244 : decode cL_change 244 = .ok (.invokevirtual 11, 3) := by decide +kernel
theorem dL_change_247 : decode cL_change 247 = .ok (.istore 11, 2) := by decide +kernel
theorem dL_change_249 : decode cL_change 249 = .ok (.aload_n 0, 1) := by decide +kernel
theorem dL_change_250 : decode cL_change 250 = .ok (.iload 9, 2) := by decide +kernel
theorem dL_change_252 : decode cL_change 252 = .ok (.iload 10, 2) := by decide +kernel
theorem dL_change_254 : decode cL_change 254 = .ok (.invokevirtual 34, 3) := by decide +kernel
theorem dL_change_257 : decode cL_change 257 = .ok (.iload 11, 2) := by decide +kernel
theorem dL_change_259 : decode cL_change 259 = .ok (.iload 10, 2) := by decide +kernel
theorem dL_change_261 : decode cL_change 261 = .ok (.ixor, 1) := by decide +kernel
theorem dL_change_262 : decode cL_change 262 = .ok (.invokestatic 37, 3) := by decide +kernel
theorem dL_change_265 : decode cL_change 265 = .ok (.if_icmp .ne 39, 3) := by decide +kernel
theorem dL_change_268 : decode cL_change 268 = .ok (.aload_n 0, 1) := by decide +kernel
theorem dL_change_269 : decode cL_change 269 = .ok (.iload 9, 2) := by decide +kernel
theorem dL_change_271 : decode cL_change 271 = .ok (.invokevirtual 11, 3) := by decide +kernel
theorem dL_change_274 : decode cL_change 274 = .ok (.iload 10, 2) := by decide +kernel
theorem dL_change_276 : decode cL_change 276 = .ok (.if_icmp .ne 28, 3) := by decide +kernel
theorem dL_change_279 : decode cL_change 279 = .ok (.aload_n 0, 1) := by decide +kernel
theorem dL_change_280 : decode cL_change 280 = .ok (.invokevirtual 21, 3) := by decide +kernel
theorem dL_change_283 : decode cL_change 283 = .ok (.iload 5, 2) := by decide +kernel
theorem dL_change_285 : decode cL_change 285 = .ok (.iload 11, 2) := by decide +kernel
theorem dL_change_287 : decode cL_change 287 = .ok (.invokestatic 37, 3) := by decide +kernel
theorem dL_change_290 : decode cL_change 290 = .ok (.isub, 1) := by decide +kernel
theorem dL_change_291 : decode cL_change 291 = .ok (.iload 10, 2) := by decide +kernel
theorem dL_change_293 : decode cL_change 293 = .ok (.invokestatic 37, 3) := by decide +kernel
theorem dL_change_296 : decode cL_change 296 = .ok (.iadd, 1) := by decide +kernel
theorem dL_change_297 : decode cL_change 297 = .ok (.if_icmp .ne 7, 3) := by decide +kernel
theorem dL_change_300 : decode cL_change 300 = .ok (.iconst 1, 1) := by decide +kernel
theorem dL_change_301 : decode cL_change 301 = .ok (.goto 4, 3) := by decide +kernel
theorem dL_change_304 : decode cL_change 304 = .ok (.iconst 0, 1) := by decide +kernel
theorem dL_change_305 : decode cL_change 305 = .ok (.istore 6, 2) := by decide +kernel
theorem dL_change_307 : decode cL_change 307 = .ok (.goto 375, 3) := by decide +kernel
theorem dL_change_310 : decode cL_change 310 = .ok (.aload_n 0, 1) := by decide +kernel
theorem dL_change_311 : decode cL_change 311 = .ok (.iload_n 2, 1) := by decide +kernel
theorem dL_change_312 : decode cL_change 312 = .ok (.iconst 4, 1) := by decide +kernel
theorem dL_change_313 : decode cL_change 313 = .ok (.invokestatic 24, 3) := by decide +kernel
theorem dL_change_316 : decode cL_change 316 = .ok (.invokevirtual 40, 3) := by decide +kernel
theorem dL_change_319 : decode cL_change 319 = .ok (.istore 12, 2) := by decide +kernel
theorem dL_change_321 : decode cL_change 321 = .ok (.aload_n 0, 1) := by decide +kernel
theorem dL_change_322 : decode cL_change 322 = .ok (.iconst 1, 1) := by decide +kernel
theorem dL_change_323 : decode cL_change 323 = .ok (.invokevirtual 43, 3) := by decide +kernel
theorem dL_change_326 : decode cL_change 326 = .ok (.istore 13, 2) := by decide +kernel
theorem dL_change_328 : decode cL_change 328 = .ok (.aload_n 0, 1) := by decide +kernel
theorem dL_change_329 : decode cL_change 329 = .ok (.iload_n 2, 1) := by decide +kernel
theorem dL_change_330 : decode cL_change 330 = .ok (.iconst 4, 1) := by decide +kernel
theorem dL_change_331 : decode cL_change 331 = .ok (.invokestatic 24, 3) := by decide +kernel
theorem dL_change_334 : decode cL_change 334 = .ok (.iconst 1, 1) := by decide +kernel
theorem dL_change_335 : decode cL_change 335 = .ok (.iload_n 3, 1) := by decide +kernel
theorem dL_change_336 : decode cL_change 336 = .ok (.bipush 9, 2) := by decide +kernel
theorem dL_change_338 : decode cL_change 338 = .ok (.invokestatic 24, 3) := by decide +kernel
theorem dL_change_341 : decode cL_change 341 = .ok (.iadd, 1) := by decide +kernel
theorem dL_change_342 : decode cL_change 342 = .ok (.invokevirtual 47, 3) := by decide +kernel
theorem dL_change_345 : decode cL_change 345 = .ok (.iload 12, 2) := by decide +kernel
theorem dL_change_347 : decode cL_change 347 = .ok (.if_icmp .ne 32, 3) := by decide +kernel
theorem dL_change_350 : decode cL_change 350 = .ok (.aload_n 0, 1) := by decide +kernel
theorem dL_change_351 : decode cL_change 351 = .ok (.iconst 0, 1) := by decide +kernel
theorem dL_change_352 : decode cL_change 352 = .ok (.invokevirtual 43, 3) := by decide +kernel
theorem dL_change_355 : decode cL_change 355 = .ok (.iload 13, 2) := by decide +kernel
theorem dL_change_357 : decode cL_change 357 = .ok (.bipush 8, 2) := by decide +kernel
theorem dL_change_359 : decode cL_change 359 = .ok (.iconst 1, 1) := by decide +kernel
theorem dL_change_360 : decode cL_change 360 = .ok (.iload_n 3, 1) := by decide +kernel
theorem dL_change_361 : decode cL_change 361 = .ok (.bipush 9, 2) := by decide +kernel
theorem dL_change_363 : decode cL_change 363 = .ok (.invokestatic 24, 3) := by decide +kernel
theorem dL_change_366 : decode cL_change 366 = .ok (.iadd, 1) := by decide +kernel
theorem dL_change_367 : decode cL_change 367 = .ok (.iload 12, 2) := by decide +kernel
theorem dL_change_369 : decode cL_change 369 = .ok (.isub, 1) := by decide +kernel
theorem dL_change_370 : decode cL_change 370 = .ok (.imul, 1) := by decide +kernel
theorem dL_change_371 : decode cL_change 371 = .ok (.iadd, 1) := by decide +kernel
theorem dL_change_372 : decode cL_change 372 = .ok (.if_icmp .ne 7, 3) := by decide +kernel
theorem dL_change_375 : decode cL_change 375 = .ok (.iconst 1, 1) := by decide +kernel
theorem dL_change_376 : decode cL_change 376 = .ok (.goto 4, 3) := by decide +kernel
theorem dL_change_379 : decode cL_change 379 = .ok (.iconst 0, 1) := by decide +kernel
theorem dL_change_380 : decode cL_change 380 = .ok (.istore 6, 2) := by decide +kernel
theorem dL_change_382 : decode cL_change 382 = .ok (.goto 300, 3) := by decide +kernel
theorem dL_change_385 : decode cL_change 385 = .ok (.aload_n 0, 1) := by decide +kernel
theorem dL_change_386 : decode cL_change 386 = .ok (.iload_n 2, 1) := by decide +kernel
theorem dL_change_387 : decode cL_change 387 = .ok (.bipush 10, 2) := by decide +kernel
theorem dL_change_389 : decode cL_change 389 = .ok (.invokestatic 24, 3) := by decide +kernel
theorem dL_change_392 : decode cL_change 392 = .ok (.invokevirtual 50, 3) := by decide +kernel
theorem dL_change_395 : decode cL_change 395 = .ok (.istore 14, 2) := by decide +kernel
theorem dL_change_397 : decode cL_change 397 = .ok (.aload_n 0, 1) := by decide +kernel
theorem dL_change_398 : decode cL_change 398 = .ok (.iload_n 2, 1) := by decide +kernel
theorem dL_change_399 : decode cL_change 399 = .ok (.bipush 10, 2) := by decide +kernel
theorem dL_change_401 : decode cL_change 401 = .ok (.invokestatic 24, 3) := by decide +kernel
theorem dL_change_404 : decode cL_change 404 = .ok (.iconst 1, 1) := by decide +kernel
theorem dL_change_405 : decode cL_change 405 = .ok (.iload_n 3, 1) := by decide +kernel
theorem dL_change_406 : decode cL_change 406 = .ok (.bipush 60, 2) := by decide +kernel
theorem dL_change_408 : decode cL_change 408 = .ok (.invokestatic 24, 3) := by decide +kernel
theorem dL_change_411 : decode cL_change 411 = .ok (.iadd, 1) := by decide +kernel
theorem dL_change_412 : decode cL_change 412 = .ok (.invokevirtual 53, 3) := by decide +kernel
theorem dL_change_415 : decode cL_change 415 = .ok (.iload 14, 2) := by decide +kernel
theorem dL_change_417 : decode cL_change 417 = .ok (.if_icmp .ne 28, 3) := by decide +kernel
theorem dL_change_420 : decode cL_change 420 = .ok (.aload_n 0, 1) := by decide +kernel
theorem dL_change_421 : decode cL_change 421 = .ok (.iload_n 2, 1) := by decide +kernel
theorem dL_change_422 : decode cL_change 422 = .ok (.bipush 10, 2) := by decide +kernel
theorem dL_change_424 : decode cL_change 424 = .ok (.invokestatic 24, 3) := by decide +kernel
theorem dL_change_427 : decode cL_change 427 = .ok (.invokevirtual 50, 3) := by decide +kernel
theorem dL_change_430 : decode cL_change 430 = .ok (.iconst 1, 1) := by decide +kernel
theorem dL_change_431 : decode cL_change 431 = .ok (.iload_n 3, 1) := by decide +kernel
theorem dL_change_432 : decode cL_change 432 = .ok (.bipush 60, 2) := by decide +kernel
theorem dL_change_434 : decode cL_change 434 = .ok (.invokestatic 24, 3) := by decide +kernel
theorem dL_change_437 : decode cL_change 437 = .ok (.iadd, 1) := by decide +kernel
theorem dL_change_438 : decode cL_change 438 = .ok (.if_icmp .ne 7, 3) := by decide +kernel
theorem dL_change_441 : decode cL_change 441 = .ok (.iconst 1, 1) := by decide +kernel
theorem dL_change_442 : decode cL_change 442 = .ok (.goto 4, 3) := by decide +kernel
theorem dL_change_445 : decode cL_change 445 = .ok (.iconst 0, 1) := by decide +kernel
theorem dL_change_446 : decode cL_change 446 = .ok (.istore 6, 2) := by decide +kernel
theorem dL_change_448 : decode cL_change 448 = .ok (.goto 234, 3) := by decide +kernel
theorem dL_change_451 : decode cL_change 451 = .ok (.aload_n 0, 1) := by decide +kernel
theorem dL_change_452 : decode cL_change 452 = .ok (.iconst 1, 1) := by decide +kernel
theorem dL_change_453 : decode cL_change 453 = .ok (.iload_n 2, 1) := by decide +kernel
theorem dL_change_454 : decode cL_change 454 = .ok (.sipush 300, 3) := by decide +kernel
theorem dL_change_457 : decode cL_change 457 = .ok (.invokestatic 24, 3) := by decide +kernel
theorem dL_change_460 : decode cL_change 460 = .ok (.iadd, 1) := by decide +kernel
theorem dL_change_461 : decode cL_change 461 = .ok (.invokevirtual 56, 3) := by decide +kernel
theorem dL_change_464 : decode cL_change 464 = .ok (.istore 15, 2) := by decide +kernel
theorem dL_change_466 : decode cL_change 466 = .ok (.iload 15, 2) := by decide +kernel
theorem dL_change_468 : decode cL_change 468 = .ok (.iconst 1, 1) := by decide +kernel
theorem dL_change_469 : decode cL_change 469 = .ok (.if_icmp .lt 24, 3) := by decide +kernel
theorem dL_change_472 : decode cL_change 472 = .ok (.iload 15, 2) := by decide +kernel
theorem dL_change_474 : decode cL_change 474 = .ok (.sipush 300, 3) := by decide +kernel
theorem dL_change_477 : decode cL_change 477 = .ok (.if_icmp .gt 16, 3) := by decide +kernel
theorem dL_change_480 : decode cL_change 480 = .ok (.aload_n 0, 1) := by decide +kernel
theorem dL_change_481 : decode cL_change 481 = .ok (.invokevirtual 21, 3) := by decide +kernel
theorem dL_change_484 : decode cL_change 484 = .ok (.iload 5, 2) := by decide +kernel
theorem dL_change_486 : decode cL_change 486 = .ok (.if_icmp .ne 7, 3) := by decide +kernel
theorem dL_change_489 : decode cL_change 489 = .ok (.iconst 1, 1) := by decide +kernel
theorem dL_change_490 : decode cL_change 490 = .ok (.goto 4, 3) := by decide +kernel
theorem dL_change_493 : decode cL_change 493 = .ok (.iconst 0, 1) := by decide +kernel
theorem dL_change_494 : decode cL_change 494 = .ok (.istore 6, 2) := by decide +kernel
theorem dL_change_496 : decode cL_change 496 = .ok (.goto 186, 3) := by decide +kernel
theorem dL_change_499 : decode cL_change 499 = .ok (.aload_n 0, 1) := by decide +kernel
theorem dL_change_500 : decode cL_change 500 = .ok (.invokestatic 59, 3) := by decide +kernel
theorem dL_change_503 : decode cL_change 503 = .ok (.ireturn, 1) := by decide +kernel
theorem dL_change_504 : decode cL_change 504 = .ok (.aload_n 0, 1) := by decide +kernel
theorem dL_change_505 : decode cL_change 505 = .ok (.iconst 1, 1) := by decide +kernel
theorem dL_change_506 : decode cL_change 506 = .ok (.iload_n 2, 1) := by decide +kernel
theorem dL_change_507 : decode cL_change 507 = .ok (.bipush 31, 2) := by decide +kernel
theorem dL_change_509 : decode cL_change 509 = .ok (.invokestatic 24, 3) := by decide +kernel
theorem dL_change_512 : decode cL_change 512 = .ok (.iadd, 1) := by decide +kernel
theorem dL_change_513 : decode cL_change 513 = .ok (.invokestatic 63, 3) := by decide +kernel
theorem dL_change_516 : decode cL_change 516 = .ok (.ireturn, 1) := by decide +kernel
theorem dL_change_517 : decode cL_change 517 = .ok (.iconst 0, 1) := by decide +kernel
theorem dL_change_518 : decode cL_change 518 = .ok (.istore 16, 2) := by decide +kernel
theorem dL_change_520 : decode cL_change 520 = .ok (.iconst 0, 1) := by decide +kernel
theorem dL_change_521 : decode cL_change 521 = .ok (.istore 17, 2) := by decide +kernel
theorem dL_change_523 : decode cL_change 523 = .ok (.iload 17, 2) := by decide +kernel
theorem dL_change_525 : decode cL_change 525 = .ok (.bipush 32, 2) := by decide +kernel
theorem dL_change_527 : decode cL_change 527 = .ok (.if_icmp .ge 23, 3) := by decide +kernel
theorem dL_change_530 : decode cL_change 530 = .ok (.iload 16, 2) := by decide +kernel
theorem dL_change_532 : decode cL_change 532 = .ok (.aload_n 0, 1) := by decide +kernel
theorem dL_change_533 : decode cL_change 533 = .ok (.iload 17, 2) := by decide +kernel
theorem dL_change_535 : decode cL_change 535 = .ok (.invokevirtual 11, 3) := by decide +kernel
theorem dL_change_538 : decode cL_change 538 = .ok (.bipush 9, 2) := by decide +kernel
theorem dL_change_540 : decode cL_change 540 = .ok (.ishr, 1) := by decide +kernel
theorem dL_change_541 : decode cL_change 541 = .ok (.iadd, 1) := by decide +kernel
theorem dL_change_542 : decode cL_change 542 = .ok (.istore 16, 2) := by decide +kernel
theorem dL_change_544 : decode cL_change 544 = .ok (.iinc 17 1, 3) := by decide +kernel
theorem dL_change_547 : decode cL_change 547 = .ok (.goto (-24), 3) := by decide +kernel
theorem dL_change_550 : decode cL_change 550 = .ok (.iload_n 3, 1) := by decide +kernel
theorem dL_change_551 : decode cL_change 551 = .ok (.iconst 1, 1) := by decide +kernel
theorem dL_change_552 : decode cL_change 552 = .ok (.iand, 1) := by decide +kernel
theorem dL_change_553 : decode cL_change 553 = .ok (.ifCond .ne 26, 3) := by decide +kernel
theorem dL_change_556 : decode cL_change 556 = .ok (.iload 16, 2) := by decide +kernel
theorem dL_change_558 : decode cL_change 558 = .ok (.iconst 2, 1) := by decide +kernel
theorem dL_change_559 : decode cL_change 559 = .ok (.if_icmp .le 20, 3) := by decide +kernel
theorem dL_change_562 : decode cL_change 562 = .ok (.aload_n 0, 1) := by decide +kernel
theorem dL_change_563 : decode cL_change 563 = .ok (.bipush 120, 2) := by decide +kernel
theorem dL_change_565 : decode cL_change 565 = .ok (.invokevirtual 56, 3) := by decide +kernel
theorem dL_change_568 : decode cL_change 568 = .ok (.ifCond .le 7, 3) := by decide +kernel
theorem dL_change_571 : decode cL_change 571 = .ok (.iconst 1, 1) := by decide +kernel
theorem dL_change_572 : decode cL_change 572 = .ok (.goto 33, 3) := by decide +kernel
theorem dL_change_575 : decode cL_change 575 = .ok (.iconst 0, 1) := by decide +kernel
theorem dL_change_576 : decode cL_change 576 = .ok (.goto 29, 3) := by decide +kernel
theorem dL_change_579 : decode cL_change 579 = .ok (.aload_n 0, 1) := by decide +kernel
theorem dL_change_580 : decode cL_change 580 = .ok (.invokevirtual 67, 3) := by decide +kernel
theorem dL_change_583 : decode cL_change 583 = .ok (.iload 16, 2) := by decide +kernel
theorem dL_change_585 : decode cL_change 585 = .ok (.if_icmp .ne 19, 3) := by decide +kernel
theorem dL_change_588 : decode cL_change 588 = .ok (.aload_n 0, 1) := by decide +kernel
theorem dL_change_589 : decode cL_change 589 = .ok (.invokevirtual 21, 3) := by decide +kernel
theorem dL_change_592 : decode cL_change 592 = .ok (.iload 5, 2) := by decide +kernel
theorem dL_change_594 : decode cL_change 594 = .ok (.iload 16, 2) := by decide +kernel
theorem dL_change_596 : decode cL_change 596 = .ok (.isub, 1) := by decide +kernel
theorem dL_change_597 : decode cL_change 597 = .ok (.if_icmp .ne 7, 3) := by decide +kernel
theorem dL_change_600 : decode cL_change 600 = .ok (.iconst 1, 1) := by decide +kernel
theorem dL_change_601 : decode cL_change 601 = .ok (.goto 4, 3) := by decide +kernel
theorem dL_change_604 : decode cL_change 604 = .ok (.iconst 0, 1) := by decide +kernel
theorem dL_change_605 : decode cL_change 605 = .ok (.istore 6, 2) := by decide +kernel
theorem dL_change_607 : decode cL_change 607 = .ok (.goto 75, 3) := by decide +kernel
theorem dL_change_610 : decode cL_change 610 = .ok (.aload_n 0, 1) := by decide +kernel
theorem dL_change_611 : decode cL_change 611 = .ok (.invokevirtual 70, 3) := by decide +kernel
theorem dL_change_614 : decode cL_change 614 = .ok (.istore 17, 2) := by decide +kernel
theorem dL_change_616 : decode cL_change 616 = .ok (.aload_n 0, 1) := by decide +kernel
theorem dL_change_617 : decode cL_change 617 = .ok (.invokevirtual 73, 3) := by decide +kernel
theorem dL_change_620 : decode cL_change 620 = .ok (.istore 18, 2) := by decide +kernel
theorem dL_change_622 : decode cL_change 622 = .ok (.aload_n 0, 1) := by decide +kernel
theorem dL_change_623 : decode cL_change 623 = .ok (.invokevirtual 76, 3) := by decide +kernel
theorem dL_change_626 : decode cL_change 626 = .ok (.iload 17, 2) := by decide +kernel
theorem dL_change_628 : decode cL_change 628 = .ok (.if_icmp .ne 23, 3) := by decide +kernel
theorem dL_change_631 : decode cL_change 631 = .ok (.aload_n 0, 1) := by decide +kernel
theorem dL_change_632 : decode cL_change 632 = .ok (.invokevirtual 70, 3) := by decide +kernel
theorem dL_change_635 : decode cL_change 635 = .ok (.ifCond .ne 16, 3) := by decide +kernel
theorem dL_change_638 : decode cL_change 638 = .ok (.aload_n 0, 1) := by decide +kernel
theorem dL_change_639 : decode cL_change 639 = .ok (.invokevirtual 73, 3) := by decide +kernel
theorem dL_change_642 : decode cL_change 642 = .ok (.iload 18, 2) := by decide +kernel
theorem dL_change_644 : decode cL_change 644 = .ok (.if_icmp .ne 7, 3) := by decide +kernel
theorem dL_change_647 : decode cL_change 647 = .ok (.iconst 1, 1) := by decide +kernel
theorem dL_change_648 : decode cL_change 648 = .ok (.goto 4, 3) := by decide +kernel
theorem dL_change_651 : decode cL_change 651 = .ok (.iconst 0, 1) := by decide +kernel
theorem dL_change_652 : decode cL_change 652 = .ok (.istore 6, 2) := by decide +kernel
theorem dL_change_654 : decode cL_change 654 = .ok (.goto 28, 3) := by decide +kernel
theorem dL_change_657 : decode cL_change 657 = .ok (.aload_n 0, 1) := by decide +kernel
theorem dL_change_658 : decode cL_change 658 = .ok (.iconst 1, 1) := by decide +kernel
theorem dL_change_659 : decode cL_change 659 = .ok (.iload_n 2, 1) := by decide +kernel
theorem dL_change_660 : decode cL_change 660 = .ok (.iload_n 3, 1) := by decide +kernel
theorem dL_change_661 : decode cL_change 661 = .ok (.iconst 3, 1) := by decide +kernel
theorem dL_change_662 : decode cL_change 662 = .ok (.iand, 1) := by decide +kernel
theorem dL_change_663 : decode cL_change 663 = .ok (.ifCond .ne 9, 3) := by decide +kernel
theorem dL_change_666 : decode cL_change 666 = .ok (.sipush 200, 3) := by decide +kernel
theorem dL_change_669 : decode cL_change 669 = .ok (.goto 5, 3) := by decide +kernel
theorem dL_change_672 : decode cL_change 672 = .ok (.bipush 12, 2) := by decide +kernel
theorem dL_change_674 : decode cL_change 674 = .ok (.invokestatic 24, 3) := by decide +kernel
theorem dL_change_677 : decode cL_change 677 = .ok (.iadd, 1) := by decide +kernel
theorem dL_change_678 : decode cL_change 678 = .ok (.invokestatic 79, 3) := by decide +kernel
theorem dL_change_681 : decode cL_change 681 = .ok (.ireturn, 1) := by decide +kernel
theorem dL_change_682 : decode cL_change 682 = .ok (.iload 6, 2) := by decide +kernel
theorem dL_change_684 : decode cL_change 684 = .ok (.ifCond .eq 30, 3) := by decide +kernel
theorem dL_change_687 : decode cL_change 687 = .ok (.aload_n 0, 1) := by decide +kernel
theorem dL_change_688 : decode cL_change 688 = .ok (.invokevirtual 17, 3) := by decide +kernel
theorem dL_change_691 : decode cL_change 691 = .ok (.iload 4, 2) := by decide +kernel
theorem dL_change_693 : decode cL_change 693 = .ok (.bipush 6, 2) := by decide +kernel
theorem dL_change_695 : decode cL_change 695 = .ok (.if_icmp .ne 8, 3) := by decide +kernel
theorem dL_change_698 : decode cL_change 698 = .ok (.bipush 6, 2) := by decide +kernel
theorem dL_change_700 : decode cL_change 700 = .ok (.goto 7, 3) := by decide +kernel
theorem dL_change_703 : decode cL_change 703 = .ok (.iload 4, 2) := by decide +kernel
theorem dL_change_705 : decode cL_change 705 = .ok (.iconst 1, 1) := by decide +kernel
theorem dL_change_706 : decode cL_change 706 = .ok (.iadd, 1) := by decide +kernel
theorem dL_change_707 : decode cL_change 707 = .ok (.if_icmp .ne 7, 3) := by decide +kernel
theorem dL_change_710 : decode cL_change 710 = .ok (.iconst 1, 1) := by decide +kernel
theorem dL_change_711 : decode cL_change 711 = .ok (.goto 4, 3) := by decide +kernel
theorem dL_change_714 : decode cL_change 714 = .ok (.iconst 0, 1) := by decide +kernel
theorem dL_change_715 : decode cL_change 715 = .ok (.ireturn, 1) := by decide +kernel
set_option maxRecDepth 20000 in
theorem ggL_turns_L_roll : GoodIn wsL_turns wsL_roll := goodIn_ca (goodIn_r _ [4, 5, 6, 7, 8, 9, 10, 11, 12, 13, 14, 15, 16, 17, 91, 92, 93, 94, 95, 96, 97, 98, 99, 100, 101, 102, 103, 104, 105] (by decide +kernel) (by decide +kernel)) (goodIn_sub (fun _ h => List.mem_cons_of_mem _ (List.mem_append_left _ (List.mem_append_right _ h))) (by decide +kernel))
set_option maxRecDepth 20000 in
theorem gL_turns_L_roll : GoodIn wsL_turns (va_wsS RL 82 yL_roll wsL_roll) := goodIn_app (goodIn_of _ (by decide +kernel)) ggL_turns_L_roll
set_option maxRecDepth 20000 in
theorem ggL_turns_X5_pegs : GoodIn wsL_turns wsX5_pegs := goodIn_r _ [21, 13, 22, 23, 24, 25, 26, 27, 28, 29, 30, 31, 32, 33, 34, 91, 92, 93, 94, 95, 96, 97, 98, 99, 100, 101, 102, 103, 104, 105] (by decide +kernel) (by decide +kernel)
set_option maxRecDepth 20000 in
theorem gL_turns_X5_pegs : GoodIn wsL_turns (wsV RL 21 RX5 yX5_pegs wsX5_pegs) := goodIn_app (goodIn_of _ (by decide +kernel)) ggL_turns_X5_pegs
set_option maxRecDepth 20000 in
theorem ggL_turns_X5_turnRound : GoodIn wsL_turns wsX5_turnRound := goodIn_r _ [38, 39, 13, 14, 40, 41, 42, 43, 44, 45, 46, 47, 48, 49, 50, 51, 52, 53, 25, 54, 27, 55, 56, 57, 58, 59, 60, 61, 62, 63, 64, 65, 66, 67, 68, 69, 70, 71, 72, 73, 74, 75, 76, 77, 78, 28, 29, 30, 31, 32, 33, 34, 91, 92, 93, 94, 95, 96, 97, 98, 99, 100, 101, 102, 103, 104, 105, 106, 107, 108] (by decide +kernel) (by decide +kernel)
set_option maxRecDepth 20000 in
theorem gL_turns_X5_turnRound : GoodIn wsL_turns (wsV RL 86 RX5 yX5_turnRound wsX5_turnRound) := goodIn_app (goodIn_of _ (by decide +kernel)) ggL_turns_X5_turnRound
set_option maxRecDepth 20000 in
theorem ggL_turns_X5_undo : GoodIn wsL_turns wsX5_undo := goodIn_ca (goodIn_r _ [82, 13, 39, 83, 84, 85, 86, 43, 87, 88, 89, 45, 46, 90, 52, 53, 25, 54, 27, 55, 56, 57, 58, 59, 60, 61, 62, 63, 64, 65, 66, 67, 68, 69, 70, 71, 72, 73, 74, 91, 92, 93, 94, 95, 106, 107, 96, 97, 98, 99, 100, 101, 102, 103, 104, 105, 108] (by decide +kernel) (by decide +kernel)) (goodIn_sub (fun _ h => List.mem_cons_of_mem _ (List.mem_append_right _ h)) (by decide +kernel))
set_option maxRecDepth 20000 in
theorem gL_turns_X5_undo : GoodIn wsL_turns (wsV RL 89 RX5 yX5_undo wsX5_undo) := goodIn_app (goodIn_of _ (by decide +kernel)) ggL_turns_X5_undo
theorem dL_turns_0 : decode cL_turns 0 = .ok (.aload_n 0, 1) := by decide +kernel
theorem dL_turns_1 : decode cL_turns 1 = .ok (.invokestatic 82, 3) := by decide +kernel
theorem dL_turns_4 : decode cL_turns 4 = .ok (.lstore_n 1, 1) := by decide +kernel
theorem dL_turns_5 : decode cL_turns 5 = .ok (.aload_n 0, 1) := by decide +kernel
theorem dL_turns_6 : decode cL_turns 6 = .ok (.invokevirtual 21, 3) := by decide +kernel
theorem dL_turns_9 : decode cL_turns 9 = .ok (.istore_n 3, 1) := by decide +kernel
theorem dL_turns_10 : decode cL_turns 10 = .ok (.aload_n 0, 1) := by decide +kernel
theorem dL_turns_11 : decode cL_turns 11 = .ok (.invokevirtual 86, 3) := by decide +kernel
theorem dL_turns_14 : decode cL_turns 14 = .ok (.istore 4, 2) := by decide +kernel
theorem dL_turns_16 : decode cL_turns 16 = .ok (.iload 4, 2) := by decide +kernel
theorem dL_turns_18 : decode cL_turns 18 = .ok (.ifCond .lt 22, 3) := by decide +kernel
theorem dL_turns_21 : decode cL_turns 21 = .ok (.aload_n 0, 1) := by decide +kernel
theorem dL_turns_22 : decode cL_turns 22 = .ok (.invokevirtual 21, 3) := by decide +kernel
theorem dL_turns_25 : decode cL_turns 25 = .ok (.iload_n 3, 1) := by decide +kernel
theorem dL_turns_26 : decode cL_turns 26 = .ok (.if_icmp .ne 14, 3) := by decide +kernel
theorem dL_turns_29 : decode cL_turns 29 = .ok (.iload 4, 2) := by decide +kernel
theorem dL_turns_31 : decode cL_turns 31 = .ok (.iconst 2, 1) := by decide +kernel
theorem dL_turns_32 : decode cL_turns 32 = .ok (.irem, 1) := by decide +kernel
theorem dL_turns_33 : decode cL_turns 33 = .ok (.ifCond .ne 7, 3) := by decide +kernel
theorem dL_turns_36 : decode cL_turns 36 = .ok (.iconst 1, 1) := by decide +kernel
theorem dL_turns_37 : decode cL_turns 37 = .ok (.goto 4, 3) := by decide +kernel
theorem dL_turns_40 : decode cL_turns 40 = .ok (.iconst 0, 1) := by decide +kernel
theorem dL_turns_41 : decode cL_turns 41 = .ok (.istore 5, 2) := by decide +kernel
theorem dL_turns_43 : decode cL_turns 43 = .ok (.aload_n 0, 1) := by decide +kernel
theorem dL_turns_44 : decode cL_turns 44 = .ok (.invokestatic 82, 3) := by decide +kernel
theorem dL_turns_47 : decode cL_turns 47 = .ok (.lstore 6, 2) := by decide +kernel
theorem dL_turns_49 : decode cL_turns 49 = .ok (.iload 5, 2) := by decide +kernel
theorem dL_turns_51 : decode cL_turns 51 = .ok (.ifCond .eq 32, 3) := by decide +kernel
theorem dL_turns_54 : decode cL_turns 54 = .ok (.aload_n 0, 1) := by decide +kernel
theorem dL_turns_55 : decode cL_turns 55 = .ok (.invokevirtual 86, 3) := by decide +kernel
theorem dL_turns_58 : decode cL_turns 58 = .ok (.iload 4, 2) := by decide +kernel
theorem dL_turns_60 : decode cL_turns 60 = .ok (.if_icmp .ne 23, 3) := by decide +kernel
theorem dL_turns_63 : decode cL_turns 63 = .ok (.aload_n 0, 1) := by decide +kernel
theorem dL_turns_64 : decode cL_turns 64 = .ok (.invokestatic 82, 3) := by decide +kernel
theorem dL_turns_67 : decode cL_turns 67 = .ok (.lload_n 1, 1) := by decide +kernel
theorem dL_turns_68 : decode cL_turns 68 = .ok (.lcmp, 1) := by decide +kernel
theorem dL_turns_69 : decode cL_turns 69 = .ok (.ifCond .ne 14, 3) := by decide +kernel
theorem dL_turns_72 : decode cL_turns 72 = .ok (.aload_n 0, 1) := by decide +kernel
theorem dL_turns_73 : decode cL_turns 73 = .ok (.invokevirtual 89, 3) := by decide +kernel
theorem dL_turns_76 : decode cL_turns 76 = .ok (.ifCond .lt 7, 3) := by decide +kernel
theorem dL_turns_79 : decode cL_turns 79 = .ok (.iconst 1, 1) := by decide +kernel
theorem dL_turns_80 : decode cL_turns 80 = .ok (.goto 4, 3) := by decide +kernel
theorem dL_turns_83 : decode cL_turns 83 = .ok (.iconst 0, 1) := by decide +kernel
theorem dL_turns_84 : decode cL_turns 84 = .ok (.istore 5, 2) := by decide +kernel
theorem dL_turns_86 : decode cL_turns 86 = .ok (.iload 5, 2) := by decide +kernel
theorem dL_turns_88 : decode cL_turns 88 = .ok (.ifCond .eq 17, 3) := by decide +kernel
theorem dL_turns_91 : decode cL_turns 91 = .ok (.aload_n 0, 1) := by decide +kernel
theorem dL_turns_92 : decode cL_turns 92 = .ok (.invokestatic 82, 3) := by decide +kernel
theorem dL_turns_95 : decode cL_turns 95 = .ok (.lload 6, 2) := by decide +kernel
theorem dL_turns_97 : decode cL_turns 97 = .ok (.lcmp, 1) := by decide +kernel
theorem dL_turns_98 : decode cL_turns 98 = .ok (.ifCond .ne 7, 3) := by decide +kernel
theorem dL_turns_101 : decode cL_turns 101 = .ok (.iconst 1, 1) := by decide +kernel
theorem dL_turns_102 : decode cL_turns 102 = .ok (.goto 4, 3) := by decide +kernel
theorem dL_turns_105 : decode cL_turns 105 = .ok (.iconst 0, 1) := by decide +kernel
theorem dL_turns_106 : decode cL_turns 106 = .ok (.ireturn, 1) := by decide +kernel
set_option maxRecDepth 20000 in
theorem ggL_moves_L_roll : GoodIn wsL_moves wsL_roll := goodIn_ca (goodIn_r _ [4, 5, 6, 7, 8, 9, 10, 11, 12, 13, 14, 15, 16, 17, 85, 86, 87, 88, 89, 90, 91, 92, 93, 94, 95, 96, 97, 98, 99] (by decide +kernel) (by decide +kernel)) (goodIn_sub (fun _ h => List.mem_cons_of_mem _ (List.mem_append_left _ (List.mem_append_left _ (List.mem_append_right _ h)))) (by decide +kernel))
set_option maxRecDepth 20000 in
theorem gL_moves_L_roll : GoodIn wsL_moves (va_wsS RL 82 yL_roll wsL_roll) := goodIn_app (goodIn_of _ (by decide +kernel)) ggL_moves_L_roll
set_option maxRecDepth 20000 in
theorem ggL_moves_X5_pegsIn : GoodIn wsL_moves wsX5_pegsIn := goodIn_ca (goodIn_r _ [10, 11, 12, 13, 14, 15, 16, 9, 17, 85, 86, 87, 88, 89, 90, 91, 92, 93, 94, 95, 96, 97, 98, 99] (by decide +kernel) (by decide +kernel)) (goodIn_sub (fun _ h => List.mem_cons_of_mem _ (List.mem_append_left _ (List.mem_append_left _ (List.mem_append_right _ h)))) (by decide +kernel))
set_option maxRecDepth 20000 in
theorem gL_moves_X5_pegsIn : GoodIn wsL_moves (wsV RL 11 RX5 yX5_pegsIn wsX5_pegsIn) := goodIn_app (goodIn_of _ (by decide +kernel)) ggL_moves_X5_pegsIn
set_option maxRecDepth 20000 in
theorem ggL_moves_X5_move : GoodIn wsL_moves wsX5_move := goodIn_ca (goodIn_r _ [21, 22, 23, 24, 13, 14, 25, 26, 27, 28, 29, 30, 31, 32, 33, 34, 35, 36, 37, 38, 39, 40, 41, 42, 43, 44, 45, 46, 47, 48, 49, 50, 51, 52, 53, 54, 55, 56, 57, 58, 59, 60, 61, 62, 63, 64, 65, 66, 67, 68, 69, 70, 71, 72, 85, 86, 87, 88, 89, 90, 91, 92, 93, 94, 95, 96, 97, 98, 99, 100, 101, 102] (by decide +kernel) (by decide +kernel)) (goodIn_sub (fun _ h => List.mem_cons_of_mem _ (List.mem_append_left _ (List.mem_append_right _ h))) (by decide +kernel))
set_option maxRecDepth 20000 in
theorem gL_moves_X5_move : GoodIn wsL_moves (wsV RL 92 RX5 yX5_move wsX5_move) := goodIn_app (goodIn_of _ (by decide +kernel)) ggL_moves_X5_move
set_option maxRecDepth 20000 in
theorem ggL_moves_X5_undo : GoodIn wsL_moves wsX5_undo := goodIn_ca (goodIn_r _ [76, 13, 24, 77, 78, 79, 80, 28, 81, 82, 83, 30, 31, 84, 37, 38, 39, 40, 41, 42, 43, 44, 45, 46, 47, 48, 49, 50, 51, 52, 53, 54, 55, 56, 57, 58, 59, 60, 61, 85, 86, 87, 88, 89, 100, 101, 90, 91, 92, 93, 94, 95, 96, 97, 98, 99, 102] (by decide +kernel) (by decide +kernel)) (goodIn_sub (fun _ h => List.mem_cons_of_mem _ (List.mem_append_right _ h)) (by decide +kernel))
set_option maxRecDepth 20000 in
theorem gL_moves_X5_undo : GoodIn wsL_moves (wsV RL 89 RX5 yX5_undo wsX5_undo) := goodIn_app (goodIn_of _ (by decide +kernel)) ggL_moves_X5_undo
theorem dL_moves_0 : decode cL_moves 0 = .ok (.aload_n 0, 1) := by decide +kernel
theorem dL_moves_1 : decode cL_moves 1 = .ok (.invokestatic 82, 3) := by decide +kernel
theorem dL_moves_4 : decode cL_moves 4 = .ok (.lstore_n 2, 1) := by decide +kernel
theorem dL_moves_5 : decode cL_moves 5 = .ok (.aload_n 0, 1) := by decide +kernel
theorem dL_moves_6 : decode cL_moves 6 = .ok (.iconst 0, 1) := by decide +kernel
theorem dL_moves_7 : decode cL_moves 7 = .ok (.invokevirtual 11, 3) := by decide +kernel
theorem dL_moves_10 : decode cL_moves 10 = .ok (.istore 4, 2) := by decide +kernel
theorem dL_moves_12 : decode cL_moves 12 = .ok (.aload_n 0, 1) := by decide +kernel
theorem dL_moves_13 : decode cL_moves 13 = .ok (.bipush 31, 2) := by decide +kernel
theorem dL_moves_15 : decode cL_moves 15 = .ok (.invokevirtual 11, 3) := by decide +kernel
theorem dL_moves_18 : decode cL_moves 18 = .ok (.istore 5, 2) := by decide +kernel
theorem dL_moves_20 : decode cL_moves 20 = .ok (.aload_n 0, 1) := by decide +kernel
theorem dL_moves_21 : decode cL_moves 21 = .ok (.iload_n 1, 1) := by decide +kernel
theorem dL_moves_22 : decode cL_moves 22 = .ok (.invokevirtual 92, 3) := by decide +kernel
theorem dL_moves_25 : decode cL_moves 25 = .ok (.istore 6, 2) := by decide +kernel
theorem dL_moves_27 : decode cL_moves 27 = .ok (.aload_n 0, 1) := by decide +kernel
theorem dL_moves_28 : decode cL_moves 28 = .ok (.invokestatic 82, 3) := by decide +kernel
theorem dL_moves_31 : decode cL_moves 31 = .ok (.lstore 7, 2) := by decide +kernel
theorem dL_moves_33 : decode cL_moves 33 = .ok (.aload_n 0, 1) := by decide +kernel
theorem dL_moves_34 : decode cL_moves 34 = .ok (.iload_n 1, 1) := by decide +kernel
theorem dL_moves_35 : decode cL_moves 35 = .ok (.invokevirtual 11, 3) := by decide +kernel
theorem dL_moves_38 : decode cL_moves 38 = .ok (.iload 4, 2) := by decide +kernel
theorem dL_moves_40 : decode cL_moves 40 = .ok (.if_icmp .ne 48, 3) := by decide +kernel
theorem dL_moves_43 : decode cL_moves 43 = .ok (.aload_n 0, 1) := by decide +kernel
theorem dL_moves_44 : decode cL_moves 44 = .ok (.iload_n 1, 1) := by decide +kernel
theorem dL_moves_45 : decode cL_moves 45 = .ok (.iconst 1, 1) := by decide +kernel
theorem dL_moves_46 : decode cL_moves 46 = .ok (.isub, 1) := by decide +kernel
theorem dL_moves_47 : decode cL_moves 47 = .ok (.invokevirtual 11, 3) := by decide +kernel
theorem dL_moves_50 : decode cL_moves 50 = .ok (.iload 5, 2) := by decide +kernel
theorem dL_moves_52 : decode cL_moves 52 = .ok (.if_icmp .ne 36, 3) := by decide +kernel
theorem dL_moves_55 : decode cL_moves 55 = .ok (.aload_n 0, 1) := by decide +kernel
theorem dL_moves_56 : decode cL_moves 56 = .ok (.bipush 32, 2) := by decide +kernel
theorem dL_moves_58 : decode cL_moves 58 = .ok (.iload_n 1, 1) := by decide +kernel
theorem dL_moves_59 : decode cL_moves 59 = .ok (.isub, 1) := by decide +kernel
theorem dL_moves_60 : decode cL_moves 60 = .ok (.invokevirtual 92, 3) := by decide +kernel
theorem dL_moves_63 : decode cL_moves 63 = .ok (.iload 6, 2) := by decide +kernel
theorem dL_moves_65 : decode cL_moves 65 = .ok (.if_icmp .ne 23, 3) := by decide +kernel
theorem dL_moves_68 : decode cL_moves 68 = .ok (.aload_n 0, 1) := by decide +kernel
theorem dL_moves_69 : decode cL_moves 69 = .ok (.invokestatic 82, 3) := by decide +kernel
theorem dL_moves_72 : decode cL_moves 72 = .ok (.lload_n 2, 1) := by decide +kernel
theorem dL_moves_73 : decode cL_moves 73 = .ok (.lcmp, 1) := by decide +kernel
theorem dL_moves_74 : decode cL_moves 74 = .ok (.ifCond .ne 14, 3) := by decide +kernel
theorem dL_moves_77 : decode cL_moves 77 = .ok (.aload_n 0, 1) := by decide +kernel
theorem dL_moves_78 : decode cL_moves 78 = .ok (.invokevirtual 89, 3) := by decide +kernel
theorem dL_moves_81 : decode cL_moves 81 = .ok (.ifCond .lt 7, 3) := by decide +kernel
theorem dL_moves_84 : decode cL_moves 84 = .ok (.iconst 1, 1) := by decide +kernel
theorem dL_moves_85 : decode cL_moves 85 = .ok (.goto 4, 3) := by decide +kernel
theorem dL_moves_88 : decode cL_moves 88 = .ok (.iconst 0, 1) := by decide +kernel
theorem dL_moves_89 : decode cL_moves 89 = .ok (.istore 9, 2) := by decide +kernel
theorem dL_moves_91 : decode cL_moves 91 = .ok (.iload 9, 2) := by decide +kernel
theorem dL_moves_93 : decode cL_moves 93 = .ok (.ifCond .eq 17, 3) := by decide +kernel
theorem dL_moves_96 : decode cL_moves 96 = .ok (.aload_n 0, 1) := by decide +kernel
theorem dL_moves_97 : decode cL_moves 97 = .ok (.invokestatic 82, 3) := by decide +kernel
theorem dL_moves_100 : decode cL_moves 100 = .ok (.lload 7, 2) := by decide +kernel
theorem dL_moves_102 : decode cL_moves 102 = .ok (.lcmp, 1) := by decide +kernel
theorem dL_moves_103 : decode cL_moves 103 = .ok (.ifCond .ne 7, 3) := by decide +kernel
theorem dL_moves_106 : decode cL_moves 106 = .ok (.iconst 1, 1) := by decide +kernel
theorem dL_moves_107 : decode cL_moves 107 = .ok (.goto 4, 3) := by decide +kernel
theorem dL_moves_110 : decode cL_moves 110 = .ok (.iconst 0, 1) := by decide +kernel
theorem dL_moves_111 : decode cL_moves 111 = .ok (.ireturn, 1) := by decide +kernel
set_option maxRecDepth 20000 in
theorem ggL_cranks_X5_save : GoodIn wsL_cranks wsX5_save := goodIn_ca (goodIn_r _ [5, 6, 7, 8, 9, 10, 11, 12, 13, 14, 4, 15, 16, 17, 18, 19, 20, 21, 22, 23, 24, 25, 26, 27, 28, 29, 30, 31, 32, 33, 34, 35, 36, 37, 38, 39, 40, 41, 42, 43, 44, 45, 46, 47, 48, 49, 50, 51, 52, 53, 54, 55, 56, 57, 58, 59, 60, 61, 62, 63, 64, 65, 66, 67, 68, 69, 198, 199, 200, 201, 202, 203, 204, 205, 206, 207, 208, 209, 210, 211, 212, 213] (by decide +kernel) (by decide +kernel)) (goodIn_sub (fun _ h => List.mem_cons_of_mem _ (List.mem_append_left _ (List.mem_append_left _ (List.mem_append_right _ h)))) (by decide +kernel))
set_option maxRecDepth 20000 in
theorem gL_cranks_X5_save : GoodIn wsL_cranks (wsV RL 95 RX5 yX5_save wsX5_save) := goodIn_app (goodIn_of _ (by decide +kernel)) ggL_cranks_X5_save
set_option maxRecDepth 20000 in
theorem ggL_cranks_X5_column : GoodIn wsL_cranks wsX5_column := goodIn_r _ [73, 12, 74, 198, 199, 200, 201, 202, 203, 204, 205, 206, 207, 208, 209, 210, 211, 212] (by decide +kernel) (by decide +kernel)
set_option maxRecDepth 20000 in
theorem gL_cranks_X5_column : GoodIn wsL_cranks (wsV RL 70 RX5 yX5_column wsX5_column) := goodIn_app (goodIn_of _ (by decide +kernel)) ggL_cranks_X5_column
set_option maxRecDepth 20000 in
theorem ggL_cranks_X5_crank : GoodIn wsL_cranks wsX5_crank := goodIn_ca (goodIn_r _ [78, 79, 80, 81, 12, 82, 83, 84, 85, 86, 87, 88, 89, 90, 91, 92, 93, 47, 48, 11, 49, 23, 50, 51, 52, 53, 24, 25, 26, 30, 31, 32, 33, 34, 35, 54, 55, 56, 29, 57, 40, 58, 94, 95, 96, 97, 98, 99, 100, 101, 102, 103, 104, 105, 106, 107, 108, 109, 110, 4, 111, 112, 113, 114, 115, 116, 117, 118, 119, 120, 121, 122, 123, 124, 125, 126, 127, 63, 64, 65, 66, 67, 68, 69, 198, 199, 200, 201, 202, 214, 215, 203, 204, 205, 206, 207, 208, 209, 210, 211, 212, 213] (by decide +kernel) (by decide +kernel)) (goodIn_sub (fun _ h => List.mem_cons_of_mem _ (List.mem_append_left _ (List.mem_append_right _ h))) (by decide +kernel))
set_option maxRecDepth 20000 in
theorem gL_cranks_X5_crank : GoodIn wsL_cranks (wsV RL 98 RX5 yX5_crank wsX5_crank) := goodIn_app (goodIn_of _ (by decide +kernel)) ggL_cranks_X5_crank
set_option maxRecDepth 20000 in
theorem ggL_cranks_X5_heard : GoodIn wsL_cranks wsX5_heard := goodIn_r _ [131, 12, 132, 133, 134, 135, 11, 136, 26, 198, 199, 200, 201, 202, 203, 204, 205, 206, 207, 208, 209, 210, 211, 212] (by decide +kernel) (by decide +kernel)
set_option maxRecDepth 20000 in
theorem gL_cranks_X5_heard : GoodIn wsL_cranks (wsV RL 101 RX5 yX5_heard wsX5_heard) := goodIn_app (goodIn_of _ (by decide +kernel)) ggL_cranks_X5_heard
set_option maxRecDepth 20000 in
theorem ggL_cranks_X5_missed : GoodIn wsL_cranks wsX5_missed := goodIn_r _ [140, 12, 141, 198, 199, 200, 201, 202, 203, 204, 205, 206, 207, 208, 209, 210, 211, 212] (by decide +kernel) (by decide +kernel)
set_option maxRecDepth 20000 in
theorem gL_cranks_X5_missed : GoodIn wsL_cranks (wsV RL 104 RX5 yX5_missed wsX5_missed) := goodIn_app (goodIn_of _ (by decide +kernel)) ggL_cranks_X5_missed
set_option maxRecDepth 20000 in
theorem ggL_cranks_X5_time : GoodIn wsL_cranks wsX5_time := goodIn_r _ [145, 12, 146, 198, 199, 200, 201, 202, 203, 204, 205, 206, 207, 208, 209, 210, 211, 212] (by decide +kernel) (by decide +kernel)
set_option maxRecDepth 20000 in
theorem gL_cranks_X5_time : GoodIn wsL_cranks (wsV RL 73 RX5 yX5_time wsX5_time) := goodIn_app (goodIn_of _ (by decide +kernel)) ggL_cranks_X5_time
set_option maxRecDepth 20000 in
theorem ggL_cranks_X5_restore : GoodIn wsL_cranks wsX5_restore := goodIn_ca (goodIn_ca (goodIn_r _ [150, 6, 7, 151, 152, 8, 81, 12, 13, 14, 4, 15, 82, 83, 84, 85, 86, 87, 88, 89, 90, 91, 92, 93, 47, 48, 11, 49, 23, 50, 51, 52, 53, 24, 25, 26, 30, 31, 32, 33, 34, 35, 54, 55, 56, 29, 57, 40, 58, 46, 59, 60, 61, 62, 63, 64, 65, 66, 67, 68, 69, 198, 199, 200, 201, 202, 214, 215, 203, 204, 205, 206, 207, 208, 209, 210, 211, 212, 213] (by decide +kernel) (by decide +kernel)) (goodIn_sub (fun _ h => List.mem_cons_of_mem _ (List.mem_append_left _ (List.mem_append_left _ (List.mem_append_right _ h)))) (by decide +kernel))) (goodIn_sub (fun _ h => List.mem_cons_of_mem _ (List.mem_append_right _ h)) (by decide +kernel))
set_option maxRecDepth 20000 in
theorem gL_cranks_X5_restore : GoodIn wsL_cranks (wsV RL 107 RX5 yX5_restore wsX5_restore) := goodIn_app (goodIn_of _ (by decide +kernel)) ggL_cranks_X5_restore
set_option maxRecDepth 20000 in
theorem ggL_cranks_L_one : GoodIn wsL_cranks wsL_one := goodIn_ca (goodIn_ca (goodIn_r _ [156, 157, 70, 71, 72, 4, 73, 12, 74, 158, 159, 160, 161, 6, 7, 162, 163, 164, 165, 137, 138, 139, 140, 141, 142, 143, 144, 145, 146, 128, 129, 130, 131, 132, 133, 134, 135, 11, 136, 26, 166, 167, 168, 169, 170, 171, 172, 173, 174, 175, 110, 111, 176, 113, 114, 29, 115, 40, 177, 103, 104, 105, 30, 23, 32, 25, 31, 106, 107, 108, 109, 112, 178, 179, 180, 181, 75, 76, 77, 78, 79, 80, 81, 82, 83, 84, 85, 86, 87, 88, 89, 90, 91, 92, 93, 47, 48, 49, 50, 51, 52, 53, 24, 33, 34, 35, 54, 55, 56, 57, 58, 94, 95, 96, 97, 98, 99, 100, 101, 102, 116, 117, 118, 119, 120, 121, 122, 123, 124, 125, 126, 127, 63, 64, 65, 66, 67, 68, 69, 182, 183, 155, 184, 185, 186, 187, 188, 189, 190, 191, 192, 193, 194, 195, 196, 197, 198, 199, 200, 201, 202, 203, 204, 205, 206, 207, 208, 209, 210, 211, 212, 213, 214, 215] rfl (by decide +kernel)) (goodIn_sub (fun _ h => List.mem_cons_of_mem _ (List.mem_append_left _ (List.mem_append_left _ (List.mem_append_right _ h)))) (by decide +kernel))) (goodIn_sub (fun _ h => List.mem_cons_of_mem _ (List.mem_append_left _ (List.mem_append_right _ h))) (by decide +kernel))
set_option maxRecDepth 20000 in
theorem gL_cranks_L_one : GoodIn wsL_cranks (va_wsS RL 110 yL_one wsL_one) := goodIn_app (goodIn_of _ (by decide +kernel)) ggL_cranks_L_one
theorem dL_cranks_0 : decode cL_cranks 0 = .ok (.aload_n 0, 1) := by decide +kernel
theorem dL_cranks_1 : decode cL_cranks 1 = .ok (.iconst 1, 1) := by decide +kernel
theorem dL_cranks_2 : decode cL_cranks 2 = .ok (.invokevirtual 95, 3) := by decide +kernel
theorem dL_cranks_5 : decode cL_cranks 5 = .ok (.istore_n 2, 1) := by decide +kernel
theorem dL_cranks_6 : decode cL_cranks 6 = .ok (.aload_n 0, 1) := by decide +kernel
theorem dL_cranks_7 : decode cL_cranks 7 = .ok (.invokevirtual 70, 3) := by decide +kernel
theorem dL_cranks_10 : decode cL_cranks 10 = .ok (.istore_n 3, 1) := by decide +kernel
theorem dL_cranks_11 : decode cL_cranks 11 = .ok (.aload_n 0, 1) := by decide +kernel
theorem dL_cranks_12 : decode cL_cranks 12 = .ok (.iload_n 1, 1) := by decide +kernel
theorem dL_cranks_13 : decode cL_cranks 13 = .ok (.invokevirtual 98, 3) := by decide +kernel
theorem dL_cranks_16 : decode cL_cranks 16 = .ok (.istore 4, 2) := by decide +kernel
theorem dL_cranks_18 : decode cL_cranks 18 = .ok (.aload_n 0, 1) := by decide +kernel
theorem dL_cranks_19 : decode cL_cranks 19 = .ok (.iconst 1, 1) := by decide +kernel
theorem dL_cranks_20 : decode cL_cranks 20 = .ok (.invokevirtual 101, 3) := by decide +kernel
theorem dL_cranks_23 : decode cL_cranks 23 = .ok (.istore 5, 2) := by decide +kernel
theorem dL_cranks_25 : decode cL_cranks 25 = .ok (.aload_n 0, 1) := by decide +kernel
theorem dL_cranks_26 : decode cL_cranks 26 = .ok (.invokevirtual 104, 3) := by decide +kernel
theorem dL_cranks_29 : decode cL_cranks 29 = .ok (.istore 6, 2) := by decide +kernel
theorem dL_cranks_31 : decode cL_cranks 31 = .ok (.aload_n 0, 1) := by decide +kernel
theorem dL_cranks_32 : decode cL_cranks 32 = .ok (.invokevirtual 73, 3) := by decide +kernel
theorem dL_cranks_35 : decode cL_cranks 35 = .ok (.istore 7, 2) := by decide +kernel
theorem dL_cranks_37 : decode cL_cranks 37 = .ok (.aload_n 0, 1) := by decide +kernel
theorem dL_cranks_38 : decode cL_cranks 38 = .ok (.invokevirtual 70, 3) := by decide +kernel
theorem dL_cranks_41 : decode cL_cranks 41 = .ok (.iload_n 3, 1) := by decide +kernel
theorem dL_cranks_42 : decode cL_cranks 42 = .ok (.iload_n 1, 1) := by decide +kernel
theorem dL_cranks_43 : decode cL_cranks 43 = .ok (.iadd, 1) := by decide +kernel
theorem dL_cranks_44 : decode cL_cranks 44 = .ok (.bipush 32, 2) := by decide +kernel
theorem dL_cranks_46 : decode cL_cranks 46 = .ok (.irem, 1) := by decide +kernel
theorem dL_cranks_47 : decode cL_cranks 47 = .ok (.if_icmp .ne 24, 3) := by decide +kernel
theorem dL_cranks_50 : decode cL_cranks 50 = .ok (.aload_n 0, 1) := by decide +kernel
theorem dL_cranks_51 : decode cL_cranks 51 = .ok (.iconst 1, 1) := by decide +kernel
theorem dL_cranks_52 : decode cL_cranks 52 = .ok (.invokevirtual 107, 3) := by decide +kernel
theorem dL_cranks_55 : decode cL_cranks 55 = .ok (.iload_n 2, 1) := by decide +kernel
theorem dL_cranks_56 : decode cL_cranks 56 = .ok (.if_icmp .ne 15, 3) := by decide +kernel
theorem dL_cranks_59 : decode cL_cranks 59 = .ok (.aload_n 0, 1) := by decide +kernel
theorem dL_cranks_60 : decode cL_cranks 60 = .ok (.invokevirtual 70, 3) := by decide +kernel
theorem dL_cranks_63 : decode cL_cranks 63 = .ok (.iload_n 3, 1) := by decide +kernel
theorem dL_cranks_64 : decode cL_cranks 64 = .ok (.if_icmp .ne 7, 3) := by decide +kernel
theorem dL_cranks_67 : decode cL_cranks 67 = .ok (.iconst 1, 1) := by decide +kernel
theorem dL_cranks_68 : decode cL_cranks 68 = .ok (.goto 4, 3) := by decide +kernel
theorem dL_cranks_71 : decode cL_cranks 71 = .ok (.iconst 0, 1) := by decide +kernel
theorem dL_cranks_72 : decode cL_cranks 72 = .ok (.istore 8, 2) := by decide +kernel
theorem dL_cranks_74 : decode cL_cranks 74 = .ok (.iconst 0, 1) := by decide +kernel
theorem dL_cranks_75 : decode cL_cranks 75 = .ok (.istore 9, 2) := by decide +kernel
theorem dL_cranks_77 : decode cL_cranks 77 = .ok (.iconst 0, 1) := by decide +kernel
theorem dL_cranks_78 : decode cL_cranks 78 = .ok (.istore 10, 2) := by decide +kernel
theorem dL_cranks_80 : decode cL_cranks 80 = .ok (.iload 10, 2) := by decide +kernel
theorem dL_cranks_82 : decode cL_cranks 82 = .ok (.iload_n 1, 1) := by decide +kernel
theorem dL_cranks_83 : decode cL_cranks 83 = .ok (.if_icmp .ge 42, 3) := by decide +kernel
theorem dL_cranks_86 : decode cL_cranks 86 = .ok (.iload 10, 2) := by decide +kernel
theorem dL_cranks_88 : decode cL_cranks 88 = .ok (.bipush 40, 2) := by decide +kernel
theorem dL_cranks_90 : decode cL_cranks 90 = .ok (.if_icmp .ge 35, 3) := by decide +kernel
theorem dL_cranks_93 : decode cL_cranks 93 = .ok (.iload 8, 2) := by decide +kernel
theorem dL_cranks_95 : decode cL_cranks 95 = .ok (.ifCond .eq 30, 3) := by decide +kernel
theorem dL_cranks_98 : decode cL_cranks 98 = .ok (.iload 9, 2) := by decide +kernel
theorem dL_cranks_100 : decode cL_cranks 100 = .ok (.aload_n 0, 1) := by decide +kernel
theorem dL_cranks_101 : decode cL_cranks 101 = .ok (.invokestatic 110, 3) := by decide +kernel
theorem dL_cranks_104 : decode cL_cranks 104 = .ok (.iadd, 1) := by decide +kernel
theorem dL_cranks_105 : decode cL_cranks 105 = .ok (.istore 9, 2) := by decide +kernel
theorem dL_cranks_107 : decode cL_cranks 107 = .ok (.iload 9, 2) := by decide +kernel
theorem dL_cranks_109 : decode cL_cranks 109 = .ok (.ifCond .lt 7, 3) := by decide +kernel
theorem dL_cranks_112 : decode cL_cranks 112 = .ok (.iconst 1, 1) := by decide +kernel
theorem dL_cranks_113 : decode cL_cranks 113 = .ok (.goto 4, 3) := by decide +kernel
theorem dL_cranks_116 : decode cL_cranks 116 = .ok (.iconst 0, 1) := by decide +kernel
theorem dL_cranks_117 : decode cL_cranks 117 = .ok (.istore 8, 2) := by decide +kernel
theorem dL_cranks_119 : decode cL_cranks 119 = .ok (.iinc 10 1, 3) := by decide +kernel
theorem dL_cranks_122 : decode cL_cranks 122 = .ok (.goto (-42), 3) := by decide +kernel
theorem dL_cranks_125 : decode cL_cranks 125 = .ok (.iload_n 1, 1) := by decide +kernel
theorem dL_cranks_126 : decode cL_cranks 126 = .ok (.bipush 40, 2) := by decide +kernel
theorem dL_cranks_128 : decode cL_cranks 128 = .ok (.if_icmp .le 58, 3) := by decide +kernel
theorem dL_cranks_131 : decode cL_cranks 131 = .ok (.iload 8, 2) := by decide +kernel
theorem dL_cranks_133 : decode cL_cranks 133 = .ok (.ifCond .eq 51, 3) := by decide +kernel
theorem dL_cranks_136 : decode cL_cranks 136 = .ok (.aload_n 0, 1) := by decide +kernel
theorem dL_cranks_137 : decode cL_cranks 137 = .ok (.iload_n 1, 1) := by decide +kernel
theorem dL_cranks_138 : decode cL_cranks 138 = .ok (.bipush 40, 2) := by decide +kernel
theorem dL_cranks_140 : decode cL_cranks 140 = .ok (.isub, 1) := by decide +kernel
theorem dL_cranks_141 : decode cL_cranks 141 = .ok (.invokevirtual 98, 3) := by decide +kernel
theorem dL_cranks_144 : decode cL_cranks 144 = .ok (.iload 4, 2) := by decide +kernel
theorem dL_cranks_146 : decode cL_cranks 146 = .ok (.iload 9, 2) := by decide +kernel
theorem dL_cranks_148 : decode cL_cranks 148 = .ok (.isub, 1) := by decide +kernel
theorem dL_cranks_149 : decode cL_cranks 149 = .ok (.if_icmp .ne 35, 3) := by decide +kernel
theorem dL_cranks_152 : decode cL_cranks 152 = .ok (.aload_n 0, 1) := by decide +kernel
theorem dL_cranks_153 : decode cL_cranks 153 = .ok (.iconst 0, 1) := by decide +kernel
theorem dL_cranks_154 : decode cL_cranks 154 = .ok (.invokevirtual 101, 3) := by decide +kernel
theorem dL_cranks_157 : decode cL_cranks 157 = .ok (.iload 5, 2) := by decide +kernel
theorem dL_cranks_159 : decode cL_cranks 159 = .ok (.if_icmp .ne 25, 3) := by decide +kernel
theorem dL_cranks_162 : decode cL_cranks 162 = .ok (.aload_n 0, 1) := by decide +kernel
theorem dL_cranks_163 : decode cL_cranks 163 = .ok (.invokevirtual 104, 3) := by decide +kernel
theorem dL_cranks_166 : decode cL_cranks 166 = .ok (.iload 6, 2) := by decide +kernel
theorem dL_cranks_168 : decode cL_cranks 168 = .ok (.if_icmp .ne 16, 3) := by decide +kernel
theorem dL_cranks_171 : decode cL_cranks 171 = .ok (.aload_n 0, 1) := by decide +kernel
theorem dL_cranks_172 : decode cL_cranks 172 = .ok (.invokevirtual 73, 3) := by decide +kernel
theorem dL_cranks_175 : decode cL_cranks 175 = .ok (.iload 7, 2) := by decide +kernel
theorem dL_cranks_177 : decode cL_cranks 177 = .ok (.if_icmp .ne 7, 3) := by decide +kernel
theorem dL_cranks_180 : decode cL_cranks 180 = .ok (.iconst 1, 1) := by decide +kernel
theorem dL_cranks_181 : decode cL_cranks 181 = .ok (.goto 4, 3) := by decide +kernel
theorem dL_cranks_184 : decode cL_cranks 184 = .ok (.iconst 0, 1) := by decide +kernel
theorem dL_cranks_185 : decode cL_cranks 185 = .ok (.ireturn, 1) := by decide +kernel
theorem dL_cranks_186 : decode cL_cranks 186 = .ok (.iload 8, 2) := by decide +kernel
theorem dL_cranks_188 : decode cL_cranks 188 = .ok (.ifCond .eq 42, 3) := by decide +kernel
theorem dL_cranks_191 : decode cL_cranks 191 = .ok (.iload 9, 2) := by decide +kernel
theorem dL_cranks_193 : decode cL_cranks 193 = .ok (.iload 4, 2) := by decide +kernel
theorem dL_cranks_195 : decode cL_cranks 195 = .ok (.if_icmp .ne 35, 3) := by decide +kernel
theorem dL_cranks_198 : decode cL_cranks 198 = .ok (.aload_n 0, 1) := by decide +kernel
theorem dL_cranks_199 : decode cL_cranks 199 = .ok (.iconst 0, 1) := by decide +kernel
theorem dL_cranks_200 : decode cL_cranks 200 = .ok (.invokevirtual 101, 3) := by decide +kernel
theorem dL_cranks_203 : decode cL_cranks 203 = .ok (.iload 5, 2) := by decide +kernel
theorem dL_cranks_205 : decode cL_cranks 205 = .ok (.if_icmp .ne 25, 3) := by decide +kernel
theorem dL_cranks_208 : decode cL_cranks 208 = .ok (.aload_n 0, 1) := by decide +kernel
theorem dL_cranks_209 : decode cL_cranks 209 = .ok (.invokevirtual 104, 3) := by decide +kernel
theorem dL_cranks_212 : decode cL_cranks 212 = .ok (.iload 6, 2) := by decide +kernel
theorem dL_cranks_214 : decode cL_cranks 214 = .ok (.if_icmp .ne 16, 3) := by decide +kernel
theorem dL_cranks_217 : decode cL_cranks 217 = .ok (.aload_n 0, 1) := by decide +kernel
theorem dL_cranks_218 : decode cL_cranks 218 = .ok (.invokevirtual 73, 3) := by decide +kernel
theorem dL_cranks_221 : decode cL_cranks 221 = .ok (.iload 7, 2) := by decide +kernel
theorem dL_cranks_223 : decode cL_cranks 223 = .ok (.if_icmp .ne 7, 3) := by decide +kernel
theorem dL_cranks_226 : decode cL_cranks 226 = .ok (.iconst 1, 1) := by decide +kernel
theorem dL_cranks_227 : decode cL_cranks 227 = .ok (.goto 4, 3) := by decide +kernel
theorem dL_cranks_230 : decode cL_cranks 230 = .ok (.iconst 0, 1) := by decide +kernel
theorem dL_cranks_231 : decode cL_cranks 231 = .ok (.ireturn, 1) := by decide +kernel
set_option maxRecDepth 20000 in
theorem ggL_one_X5_column : GoodIn wsL_one wsX5_column := goodIn_r _ [6, 7, 8, 156, 157, 158, 159, 160, 161, 162, 163, 164, 165, 166, 167, 168, 169, 170] (by decide +kernel) (by decide +kernel)
set_option maxRecDepth 20000 in
theorem gL_one_X5_column : GoodIn wsL_one (wsV RL 70 RX5 yX5_column wsX5_column) := goodIn_app (goodIn_of _ (by decide +kernel)) ggL_one_X5_column
set_option maxRecDepth 20000 in
theorem ggL_one_X5_pegsIn : GoodIn wsL_one wsX5_pegsIn := goodIn_ca (goodIn_r _ [12, 13, 14, 7, 15, 16, 17, 5, 18, 156, 157, 158, 159, 160, 161, 162, 163, 164, 165, 166, 167, 168, 169, 170] (by decide +kernel) (by decide +kernel)) (goodIn_sub (fun _ h => List.mem_cons_of_mem _ (List.mem_append_left _ (List.mem_append_right _ h))) (by decide +kernel))
set_option maxRecDepth 20000 in
theorem gL_one_X5_pegsIn : GoodIn wsL_one (wsV RL 11 RX5 yX5_pegsIn wsX5_pegsIn) := goodIn_app (goodIn_of _ (by decide +kernel)) ggL_one_X5_pegsIn
set_option maxRecDepth 20000 in
theorem ggL_one_X5_missed : GoodIn wsL_one wsX5_missed := goodIn_r _ [22, 7, 23, 156, 157, 158, 159, 160, 161, 162, 163, 164, 165, 166, 167, 168, 169, 170] (by decide +kernel) (by decide +kernel)
set_option maxRecDepth 20000 in
theorem gL_one_X5_missed : GoodIn wsL_one (wsV RL 104 RX5 yX5_missed wsX5_missed) := goodIn_app (goodIn_of _ (by decide +kernel)) ggL_one_X5_missed
set_option maxRecDepth 20000 in
theorem ggL_one_X5_time : GoodIn wsL_one wsX5_time := goodIn_r _ [27, 7, 28, 156, 157, 158, 159, 160, 161, 162, 163, 164, 165, 166, 167, 168, 169, 170] (by decide +kernel) (by decide +kernel)
set_option maxRecDepth 20000 in
theorem gL_one_X5_time : GoodIn wsL_one (wsV RL 73 RX5 yX5_time wsX5_time) := goodIn_app (goodIn_of _ (by decide +kernel)) ggL_one_X5_time
set_option maxRecDepth 20000 in
theorem ggL_one_X5_heard : GoodIn wsL_one wsX5_heard := goodIn_r _ [32, 7, 33, 34, 35, 36, 37, 38, 39, 156, 157, 158, 159, 160, 161, 162, 163, 164, 165, 166, 167, 168, 169, 170] (by decide +kernel) (by decide +kernel)
set_option maxRecDepth 20000 in
theorem gL_one_X5_heard : GoodIn wsL_one (wsV RL 101 RX5 yX5_heard wsX5_heard) := goodIn_app (goodIn_of _ (by decide +kernel)) ggL_one_X5_heard
set_option maxRecDepth 20000 in
theorem ggL_one_X5_whyMissed : GoodIn wsL_one wsX5_whyMissed := goodIn_ca (goodIn_r _ [43, 13, 14, 7, 15, 8, 44, 45, 46, 47, 5, 48, 49, 50, 51, 52, 53, 54, 55, 56, 57, 58, 59, 60, 37, 61, 62, 63, 64, 65, 66, 67, 68, 69, 70, 71, 156, 157, 158, 159, 160, 161, 162, 163, 164, 165, 166, 167, 168, 169, 170, 171] (by decide +kernel) (by decide +kernel)) (goodIn_sub (fun _ h => List.mem_cons_of_mem _ (List.mem_append_left _ (List.mem_append_right _ h))) (by decide +kernel))
set_option maxRecDepth 20000 in
theorem gL_one_X5_whyMissed : GoodIn wsL_one (wsV RL 114 RX5 yX5_whyMissed wsX5_whyMissed) := goodIn_app (goodIn_of _ (by decide +kernel)) ggL_one_X5_whyMissed
set_option maxRecDepth 20000 in
theorem ggL_one_X5_weightOf : GoodIn wsL_one wsX5_weightOf := goodIn_ca (goodIn_r _ [75, 13, 14, 7, 45, 46, 47, 5, 48, 156, 157, 158, 159, 160, 161, 162, 163, 164, 165, 166, 167, 168, 169, 170] (by decide +kernel) (by decide +kernel)) (goodIn_sub (fun _ h => List.mem_cons_of_mem _ (List.mem_append_left _ (List.mem_append_right _ h))) (by decide +kernel))
set_option maxRecDepth 20000 in
theorem gL_one_X5_weightOf : GoodIn wsL_one (wsV RL 50 RX5 yX5_weightOf wsX5_weightOf) := goodIn_app (goodIn_of _ (by decide +kernel)) ggL_one_X5_weightOf
set_option maxRecDepth 20000 in
theorem ggL_one_X5_crank : GoodIn wsL_one wsX5_crank := goodIn_ca (goodIn_r _ [79, 80, 81, 82, 7, 83, 84, 85, 86, 87, 88, 89, 90, 91, 92, 93, 94, 95, 96, 37, 97, 63, 98, 99, 100, 101, 102, 65, 39, 62, 66, 64, 103, 104, 105, 106, 107, 108, 55, 109, 57, 110, 111, 112, 113, 114, 115, 116, 117, 118, 119, 59, 60, 61, 67, 68, 69, 70, 50, 5, 51, 71, 53, 54, 56, 120, 121, 122, 123, 124, 125, 126, 127, 128, 129, 130, 131, 132, 133, 134, 135, 136, 137, 138, 156, 157, 158, 159, 160, 172, 173, 161, 162, 163, 164, 165, 166, 167, 168, 169, 170, 171] (by decide +kernel) (by decide +kernel)) (goodIn_sub (fun _ h => List.mem_cons_of_mem _ (List.mem_append_right _ h)) (by decide +kernel))
set_option maxRecDepth 20000 in
theorem gL_one_X5_crank : GoodIn wsL_one (wsV RL 98 RX5 yX5_crank wsX5_crank) := goodIn_app (goodIn_of _ (by decide +kernel)) ggL_one_X5_crank
set_option maxRecDepth 20000 in
theorem ggL_one_L_count : GoodIn wsL_one wsL_count := goodIn_r _ [142] (by decide +kernel) (by decide +kernel)
set_option maxRecDepth 20000 in
theorem gL_one_L_count : GoodIn wsL_one (va_wsS RL 37 yL_count wsL_count) := goodIn_app (goodIn_of _ (by decide +kernel)) ggL_one_L_count
set_option maxRecDepth 20000 in
theorem ggL_one_X5_tempoOf : GoodIn wsL_one wsX5_tempoOf := goodIn_ca (goodIn_r _ [146, 13, 14, 7, 147, 148, 149, 5, 150, 156, 157, 158, 159, 160, 161, 162, 163, 164, 165, 166, 167, 168, 169, 170] (by decide +kernel) (by decide +kernel)) (goodIn_sub (fun _ h => List.mem_cons_of_mem _ (List.mem_append_left _ (List.mem_append_right _ h))) (by decide +kernel))
set_option maxRecDepth 20000 in
theorem gL_one_X5_tempoOf : GoodIn wsL_one (wsV RL 40 RX5 yX5_tempoOf wsX5_tempoOf) := goodIn_app (goodIn_of _ (by decide +kernel)) ggL_one_X5_tempoOf
set_option maxRecDepth 20000 in
theorem ggL_one_X5_heardOf : GoodIn wsL_one wsX5_heardOf := goodIn_ca (goodIn_r _ [154, 13, 14, 7, 155, 46, 47, 5, 48, 156, 157, 158, 159, 160, 161, 162, 163, 164, 165, 166, 167, 168, 169, 170] (by decide +kernel) (by decide +kernel)) (goodIn_sub (fun _ h => List.mem_cons_of_mem _ (List.mem_append_left _ (List.mem_append_right _ h))) (by decide +kernel))
set_option maxRecDepth 20000 in
theorem gL_one_X5_heardOf : GoodIn wsL_one (wsV RL 117 RX5 yX5_heardOf wsX5_heardOf) := goodIn_app (goodIn_of _ (by decide +kernel)) ggL_one_X5_heardOf
theorem dL_one_0 : decode cL_one 0 = .ok (.aload_n 0, 1) := by decide +kernel
theorem dL_one_1 : decode cL_one 1 = .ok (.invokevirtual 70, 3) := by decide +kernel
theorem dL_one_4 : decode cL_one 4 = .ok (.istore_n 1, 1) := by decide +kernel
theorem dL_one_5 : decode cL_one 5 = .ok (.aload_n 0, 1) := by decide +kernel
theorem dL_one_6 : decode cL_one 6 = .ok (.iload_n 1, 1) := by decide +kernel
theorem dL_one_7 : decode cL_one 7 = .ok (.invokevirtual 11, 3) := by decide +kernel
theorem dL_one_10 : decode cL_one 10 = .ok (.istore_n 2, 1) := by decide +kernel
theorem dL_one_11 : decode cL_one 11 = .ok (.iconst 0, 1) := by decide +kernel
theorem dL_one_12 : decode cL_one 12 = .ok (.istore_n 3, 1) := by decide +kernel
theorem dL_one_13 : decode cL_one 13 = .ok (.iconst 0, 1) := by decide +kernel
theorem dL_one_14 : decode cL_one 14 = .ok (.istore 4, 2) := by decide +kernel
theorem dL_one_16 : decode cL_one 16 = .ok (.aload_n 0, 1) := by decide +kernel
theorem dL_one_17 : decode cL_one 17 = .ok (.invokevirtual 104, 3) := by decide +kernel
theorem dL_one_20 : decode cL_one 20 = .ok (.istore 5, 2) := by decide +kernel
theorem dL_one_22 : decode cL_one 22 = .ok (.aload_n 0, 1) := by decide +kernel
theorem dL_one_23 : decode cL_one 23 = .ok (.invokevirtual 73, 3) := by decide +kernel
theorem dL_one_26 : decode cL_one 26 = .ok (.istore 6, 2) := by decide +kernel
theorem dL_one_28 : decode cL_one 28 = .ok (.aload_n 0, 1) := by decide +kernel
theorem dL_one_29 : decode cL_one 29 = .ok (.iconst 1, 1) := by decide +kernel
theorem dL_one_30 : decode cL_one 30 = .ok (.invokevirtual 101, 3) := by decide +kernel
theorem dL_one_33 : decode cL_one 33 = .ok (.istore 7, 2) := by decide +kernel
theorem dL_one_35 : decode cL_one 35 = .ok (.iconst 1, 1) := by decide +kernel
theorem dL_one_36 : decode cL_one 36 = .ok (.istore 8, 2) := by decide +kernel
theorem dL_one_38 : decode cL_one 38 = .ok (.iconst 0, 1) := by decide +kernel
theorem dL_one_39 : decode cL_one 39 = .ok (.istore 9, 2) := by decide +kernel
theorem dL_one_41 : decode cL_one 41 = .ok (.iload 9, 2) := by decide +kernel
theorem dL_one_43 : decode cL_one 43 = .ok (.bipush 10, 2) := by decide +kernel
theorem dL_one_45 : decode cL_one 45 = .ok (.if_icmp .ge 93, 3) := by decide +kernel
theorem dL_one_48 : decode cL_one 48 = .ok (.aload_n 0, 1) := by decide +kernel
theorem dL_one_49 : decode cL_one 49 = .ok (.iload 9, 2) := by decide +kernel
theorem dL_one_51 : decode cL_one 51 = .ok (.invokevirtual 114, 3) := by decide +kernel
theorem dL_one_54 : decode cL_one 54 = .ok (.istore 10, 2) := by decide +kernel
theorem dL_one_56 : decode cL_one 56 = .ok (.iload 8, 2) := by decide +kernel
theorem dL_one_58 : decode cL_one 58 = .ok (.ifCond .eq 35, 3) := by decide +kernel
theorem dL_one_61 : decode cL_one 61 = .ok (.iload 10, 2) := by decide +kernel
theorem dL_one_63 : decode cL_one 63 = .ok (.iconst 3, 1) := by decide +kernel
theorem dL_one_64 : decode cL_one 64 = .ok (.if_icmp .ne 7, 3) := by decide +kernel
theorem dL_one_67 : decode cL_one 67 = .ok (.iconst 1, 1) := by decide +kernel
theorem dL_one_68 : decode cL_one 68 = .ok (.goto 4, 3) := by decide +kernel
theorem dL_one_71 : decode cL_one 71 = .ok (.iconst 0, 1) := by decide +kernel
theorem dL_one_72 : decode cL_one 72 = .ok (.iload_n 2, 1) := by decide +kernel
theorem dL_one_73 : decode cL_one 73 = .ok (.iload 9, 2) := by decide +kernel
theorem dL_one_75 : decode cL_one 75 = .ok (.ishr, 1) := by decide +kernel
theorem dL_one_76 : decode cL_one 76 = .ok (.iconst 1, 1) := by decide +kernel
theorem dL_one_77 : decode cL_one 77 = .ok (.iand, 1) := by decide +kernel
theorem dL_one_78 : decode cL_one 78 = .ok (.ifCond .ne 7, 3) := by decide +kernel
theorem dL_one_81 : decode cL_one 81 = .ok (.iconst 1, 1) := by decide +kernel
theorem dL_one_82 : decode cL_one 82 = .ok (.goto 4, 3) := by decide +kernel
theorem dL_one_85 : decode cL_one 85 = .ok (.iconst 0, 1) := by decide +kernel
theorem dL_one_86 : decode cL_one 86 = .ok (.if_icmp .ne 7, 3) := by decide +kernel
theorem dL_one_89 : decode cL_one 89 = .ok (.iconst 1, 1) := by decide +kernel
theorem dL_one_90 : decode cL_one 90 = .ok (.goto 4, 3) := by decide +kernel
theorem dL_one_93 : decode cL_one 93 = .ok (.iconst 0, 1) := by decide +kernel
theorem dL_one_94 : decode cL_one 94 = .ok (.istore 8, 2) := by decide +kernel
theorem dL_one_96 : decode cL_one 96 = .ok (.iload_n 3, 1) := by decide +kernel
theorem dL_one_97 : decode cL_one 97 = .ok (.iload 10, 2) := by decide +kernel
theorem dL_one_99 : decode cL_one 99 = .ok (.ifCond .ne 10, 3) := by decide +kernel
theorem dL_one_102 : decode cL_one 102 = .ok (.iconst 1, 1) := by decide +kernel
theorem dL_one_103 : decode cL_one 103 = .ok (.iload 9, 2) := by decide +kernel
theorem dL_one_105 : decode cL_one 105 = .ok (.ishl, 1) := by decide +kernel
theorem dL_one_106 : decode cL_one 106 = .ok (.goto 4, 3) := by decide +kernel
theorem dL_one_109 : decode cL_one 109 = .ok (.iconst 0, 1) := by decide +kernel
theorem dL_one_110 : decode cL_one 110 = .ok (.ior, 1) := by decide +kernel
theorem dL_one_111 : decode cL_one 111 = .ok (.istore_n 3, 1) := by decide +kernel
theorem dL_one_112 : decode cL_one 112 = .ok (.iload 4, 2) := by decide +kernel
theorem dL_one_114 : decode cL_one 114 = .ok (.iload 10, 2) := by decide +kernel
theorem dL_one_116 : decode cL_one 116 = .ok (.ifCond .ne 12, 3) := by decide +kernel
theorem dL_one_119 : decode cL_one 119 = .ok (.aload_n 0, 1) := by decide +kernel
theorem dL_one_120 : decode cL_one 120 = .ok (.iload 9, 2) := by decide +kernel
theorem dL_one_122 : decode cL_one 122 = .ok (.invokevirtual 50, 3) := by decide +kernel
theorem dL_one_125 : decode cL_one 125 = .ok (.goto 4, 3) := by decide +kernel
theorem dL_one_128 : decode cL_one 128 = .ok (.iconst 0, 1) := by decide +kernel
theorem dL_one_129 : decode cL_one 129 = .ok (.iadd, 1) := by decide +kernel
theorem dL_one_130 : decode cL_one 130 = .ok (.istore 4, 2) := by decide +kernel
theorem dL_one_132 : decode cL_one 132 = .ok (.iinc 9 1, 3) := by decide +kernel
theorem dL_one_135 : decode cL_one 135 = .ok (.goto (-94), 3) := by decide +kernel
theorem dL_one_138 : decode cL_one 138 = .ok (.aload_n 0, 1) := by decide +kernel
theorem dL_one_139 : decode cL_one 139 = .ok (.iconst 1, 1) := by decide +kernel
theorem dL_one_140 : decode cL_one 140 = .ok (.invokevirtual 98, 3) := by decide +kernel
theorem dL_one_143 : decode cL_one 143 = .ok (.istore 9, 2) := by decide +kernel
theorem dL_one_145 : decode cL_one 145 = .ok (.iload 8, 2) := by decide +kernel
theorem dL_one_147 : decode cL_one 147 = .ok (.ifCond .eq 77, 3) := by decide +kernel
theorem dL_one_150 : decode cL_one 150 = .ok (.iload 9, 2) := by decide +kernel
theorem dL_one_152 : decode cL_one 152 = .ok (.iload_n 3, 1) := by decide +kernel
theorem dL_one_153 : decode cL_one 153 = .ok (.invokestatic 37, 3) := by decide +kernel
theorem dL_one_156 : decode cL_one 156 = .ok (.if_icmp .ne 68, 3) := by decide +kernel
theorem dL_one_159 : decode cL_one 159 = .ok (.aload_n 0, 1) := by decide +kernel
theorem dL_one_160 : decode cL_one 160 = .ok (.invokevirtual 104, 3) := by decide +kernel
theorem dL_one_163 : decode cL_one 163 = .ok (.iload 5, 2) := by decide +kernel
theorem dL_one_165 : decode cL_one 165 = .ok (.iload_n 2, 1) := by decide +kernel
theorem dL_one_166 : decode cL_one 166 = .ok (.invokestatic 37, 3) := by decide +kernel
theorem dL_one_169 : decode cL_one 169 = .ok (.iadd, 1) := by decide +kernel
theorem dL_one_170 : decode cL_one 170 = .ok (.iload 9, 2) := by decide +kernel
theorem dL_one_172 : decode cL_one 172 = .ok (.isub, 1) := by decide +kernel
theorem dL_one_173 : decode cL_one 173 = .ok (.if_icmp .ne 51, 3) := by decide +kernel
theorem dL_one_176 : decode cL_one 176 = .ok (.aload_n 0, 1) := by decide +kernel
theorem dL_one_177 : decode cL_one 177 = .ok (.iconst 0, 1) := by decide +kernel
theorem dL_one_178 : decode cL_one 178 = .ok (.invokevirtual 101, 3) := by decide +kernel
theorem dL_one_181 : decode cL_one 181 = .ok (.iload 7, 2) := by decide +kernel
theorem dL_one_183 : decode cL_one 183 = .ok (.iload 9, 2) := by decide +kernel
theorem dL_one_185 : decode cL_one 185 = .ok (.iadd, 1) := by decide +kernel
theorem dL_one_186 : decode cL_one 186 = .ok (.if_icmp .ne 38, 3) := by decide +kernel
theorem dL_one_189 : decode cL_one 189 = .ok (.aload_n 0, 1) := by decide +kernel
theorem dL_one_190 : decode cL_one 190 = .ok (.invokevirtual 73, 3) := by decide +kernel
theorem dL_one_193 : decode cL_one 193 = .ok (.iload 6, 2) := by decide +kernel
theorem dL_one_195 : decode cL_one 195 = .ok (.aload_n 0, 1) := by decide +kernel
theorem dL_one_196 : decode cL_one 196 = .ok (.iload_n 1, 1) := by decide +kernel
theorem dL_one_197 : decode cL_one 197 = .ok (.bipush 8, 2) := by decide +kernel
theorem dL_one_199 : decode cL_one 199 = .ok (.idiv, 1) := by decide +kernel
theorem dL_one_200 : decode cL_one 200 = .ok (.invokevirtual 40, 3) := by decide +kernel
theorem dL_one_203 : decode cL_one 203 = .ok (.iadd, 1) := by decide +kernel
theorem dL_one_204 : decode cL_one 204 = .ok (.if_icmp .ne 20, 3) := by decide +kernel
theorem dL_one_207 : decode cL_one 207 = .ok (.aload_n 0, 1) := by decide +kernel
theorem dL_one_208 : decode cL_one 208 = .ok (.invokevirtual 70, 3) := by decide +kernel
theorem dL_one_211 : decode cL_one 211 = .ok (.iload_n 1, 1) := by decide +kernel
theorem dL_one_212 : decode cL_one 212 = .ok (.iconst 1, 1) := by decide +kernel
theorem dL_one_213 : decode cL_one 213 = .ok (.iadd, 1) := by decide +kernel
theorem dL_one_214 : decode cL_one 214 = .ok (.bipush 32, 2) := by decide +kernel
theorem dL_one_216 : decode cL_one 216 = .ok (.irem, 1) := by decide +kernel
theorem dL_one_217 : decode cL_one 217 = .ok (.if_icmp .ne 7, 3) := by decide +kernel
theorem dL_one_220 : decode cL_one 220 = .ok (.iconst 1, 1) := by decide +kernel
theorem dL_one_221 : decode cL_one 221 = .ok (.goto 4, 3) := by decide +kernel
theorem dL_one_224 : decode cL_one 224 = .ok (.iconst 0, 1) := by decide +kernel
theorem dL_one_225 : decode cL_one 225 = .ok (.istore 8, 2) := by decide +kernel
theorem dL_one_227 : decode cL_one 227 = .ok (.iconst 0, 1) := by decide +kernel
theorem dL_one_228 : decode cL_one 228 = .ok (.istore 10, 2) := by decide +kernel
theorem dL_one_230 : decode cL_one 230 = .ok (.iload 10, 2) := by decide +kernel
theorem dL_one_232 : decode cL_one 232 = .ok (.bipush 10, 2) := by decide +kernel
theorem dL_one_234 : decode cL_one 234 = .ok (.if_icmp .ge 39, 3) := by decide +kernel
theorem dL_one_237 : decode cL_one 237 = .ok (.iload 8, 2) := by decide +kernel
theorem dL_one_239 : decode cL_one 239 = .ok (.ifCond .eq 25, 3) := by decide +kernel
theorem dL_one_242 : decode cL_one 242 = .ok (.iload_n 3, 1) := by decide +kernel
theorem dL_one_243 : decode cL_one 243 = .ok (.iload 10, 2) := by decide +kernel
theorem dL_one_245 : decode cL_one 245 = .ok (.ishr, 1) := by decide +kernel
theorem dL_one_246 : decode cL_one 246 = .ok (.iconst 1, 1) := by decide +kernel
theorem dL_one_247 : decode cL_one 247 = .ok (.iand, 1) := by decide +kernel
theorem dL_one_248 : decode cL_one 248 = .ok (.ifCond .eq 12, 3) := by decide +kernel
theorem dL_one_251 : decode cL_one 251 = .ok (.aload_n 0, 1) := by decide +kernel
theorem dL_one_252 : decode cL_one 252 = .ok (.iload 10, 2) := by decide +kernel
theorem dL_one_254 : decode cL_one 254 = .ok (.invokevirtual 117, 3) := by decide +kernel
theorem dL_one_257 : decode cL_one 257 = .ok (.ifCond .le 7, 3) := by decide +kernel
theorem dL_one_260 : decode cL_one 260 = .ok (.iconst 1, 1) := by decide +kernel
theorem dL_one_261 : decode cL_one 261 = .ok (.goto 4, 3) := by decide +kernel
theorem dL_one_264 : decode cL_one 264 = .ok (.iconst 0, 1) := by decide +kernel
theorem dL_one_265 : decode cL_one 265 = .ok (.istore 8, 2) := by decide +kernel
theorem dL_one_267 : decode cL_one 267 = .ok (.iinc 10 1, 3) := by decide +kernel
theorem dL_one_270 : decode cL_one 270 = .ok (.goto (-40), 3) := by decide +kernel
theorem dL_one_273 : decode cL_one 273 = .ok (.iload 8, 2) := by decide +kernel
theorem dL_one_275 : decode cL_one 275 = .ok (.ifCond .eq 16, 3) := by decide +kernel
theorem dL_one_278 : decode cL_one 278 = .ok (.iload 4, 2) := by decide +kernel
theorem dL_one_280 : decode cL_one 280 = .ok (.sipush 300, 3) := by decide +kernel
theorem dL_one_283 : decode cL_one 283 = .ok (.if_icmp .gt 8, 3) := by decide +kernel
theorem dL_one_286 : decode cL_one 286 = .ok (.iload 9, 2) := by decide +kernel
theorem dL_one_288 : decode cL_one 288 = .ok (.goto 5, 3) := by decide +kernel
theorem dL_one_291 : decode cL_one 291 = .ok (.ldc 120, 2) := by decide +kernel
theorem dL_one_293 : decode cL_one 293 = .ok (.ireturn, 1) := by decide +kernel
set_option maxRecDepth 20000 in
theorem ggL_holds_X5_column : GoodIn wsL_holds wsX5_column := goodIn_r _ [5, 6, 7, 156, 157, 158, 159, 160, 161, 162, 163, 164, 165, 166, 167, 168, 169, 170] (by decide +kernel) (by decide +kernel)
set_option maxRecDepth 20000 in
theorem gL_holds_X5_column : GoodIn wsL_holds (wsV RL 70 RX5 yX5_column wsX5_column) := goodIn_app (goodIn_of _ (by decide +kernel)) ggL_holds_X5_column
set_option maxRecDepth 20000 in
theorem ggL_holds_X5_inRound : GoodIn wsL_holds wsX5_inRound := goodIn_ca (goodIn_r _ [11, 12, 13, 14, 6, 15, 16, 17, 18, 4, 19, 20, 21, 22, 23, 24, 25, 26, 27, 28, 29, 30, 31, 32, 33, 34, 35, 36, 37, 38, 39, 40, 41, 42, 43, 44, 45, 46, 47, 48, 49, 50, 51, 52, 53, 54, 55, 56, 57, 58, 59, 60, 61, 62, 63, 156, 157, 158, 159, 160, 161, 162, 163, 164, 165, 166, 167, 168, 169, 170, 171, 172, 173] (by decide +kernel) (by decide +kernel)) (goodIn_sub (fun _ h => List.mem_cons_of_mem _ (List.mem_append_right _ h)) (by decide +kernel))
set_option maxRecDepth 20000 in
theorem gL_holds_X5_inRound : GoodIn wsL_holds (wsV RL 121 RX5 yX5_inRound wsX5_inRound) := goodIn_app (goodIn_of _ (by decide +kernel)) ggL_holds_X5_inRound
set_option maxRecDepth 20000 in
theorem ggL_holds_X5_weightOf : GoodIn wsL_holds wsX5_weightOf := goodIn_ca (goodIn_r _ [67, 12, 13, 6, 68, 69, 70, 4, 71, 156, 157, 158, 159, 160, 161, 162, 163, 164, 165, 166, 167, 168, 169, 170] (by decide +kernel) (by decide +kernel)) (goodIn_sub (fun _ h => List.mem_cons_of_mem _ (List.mem_append_right _ h)) (by decide +kernel))
set_option maxRecDepth 20000 in
theorem gL_holds_X5_weightOf : GoodIn wsL_holds (wsV RL 50 RX5 yX5_weightOf wsX5_weightOf) := goodIn_app (goodIn_of _ (by decide +kernel)) ggL_holds_X5_weightOf
set_option maxRecDepth 20000 in
theorem ggL_holds_X5_pegsIn : GoodIn wsL_holds wsX5_pegsIn := goodIn_ca (goodIn_r _ [75, 12, 13, 6, 76, 17, 18, 4, 19, 156, 157, 158, 159, 160, 161, 162, 163, 164, 165, 166, 167, 168, 169, 170] (by decide +kernel) (by decide +kernel)) (goodIn_sub (fun _ h => List.mem_cons_of_mem _ (List.mem_append_right _ h)) (by decide +kernel))
set_option maxRecDepth 20000 in
theorem gL_holds_X5_pegsIn : GoodIn wsL_holds (wsV RL 11 RX5 yX5_pegsIn wsX5_pegsIn) := goodIn_app (goodIn_of _ (by decide +kernel)) ggL_holds_X5_pegsIn
set_option maxRecDepth 20000 in
theorem ggL_holds_L_count : GoodIn wsL_holds wsL_count := goodIn_r _ [80] (by decide +kernel) (by decide +kernel)
set_option maxRecDepth 20000 in
theorem gL_holds_L_count : GoodIn wsL_holds (va_wsS RL 37 yL_count wsL_count) := goodIn_app (goodIn_of _ (by decide +kernel)) ggL_holds_L_count
set_option maxRecDepth 20000 in
theorem ggL_holds_X5_busiest : GoodIn wsL_holds wsX5_busiest := goodIn_r _ [84, 14, 6, 15, 20, 21, 22, 23, 24, 25, 26, 27, 28, 29, 30, 31, 32, 33, 34, 35, 36, 37, 38, 39, 40, 41, 42, 43, 4, 44, 45, 46, 47, 48, 49, 50, 51, 52, 53, 54, 55, 56, 57, 58, 59, 60, 61, 62, 63, 85, 86, 87, 88, 156, 157, 158, 159, 160, 161, 162, 163, 164, 165, 166, 167, 168, 169, 170, 171, 172, 173] (by decide +kernel) (by decide +kernel)
set_option maxRecDepth 20000 in
theorem gL_holds_X5_busiest : GoodIn wsL_holds (wsV RL 124 RX5 yX5_busiest wsX5_busiest) := goodIn_app (goodIn_of _ (by decide +kernel)) ggL_holds_X5_busiest
set_option maxRecDepth 20000 in
theorem ggL_holds_X5_pegs : GoodIn wsL_holds wsX5_pegs := goodIn_r _ [92, 6, 93, 94, 95, 96, 97, 98, 99, 58, 59, 60, 61, 62, 63, 156, 157, 158, 159, 160, 161, 162, 163, 164, 165, 166, 167, 168, 169, 170] (by decide +kernel) (by decide +kernel)
set_option maxRecDepth 20000 in
theorem gL_holds_X5_pegs : GoodIn wsL_holds (wsV RL 21 RX5 yX5_pegs wsX5_pegs) := goodIn_app (goodIn_of _ (by decide +kernel)) ggL_holds_X5_pegs
set_option maxRecDepth 20000 in
theorem ggL_holds_X5_heardInRound : GoodIn wsL_holds wsX5_heardInRound := goodIn_r _ [103, 14, 6, 15, 20, 21, 22, 23, 24, 25, 26, 27, 28, 29, 30, 31, 32, 33, 34, 35, 36, 37, 38, 39, 40, 41, 42, 43, 4, 44, 45, 46, 47, 48, 49, 50, 51, 52, 53, 54, 55, 56, 57, 58, 59, 60, 61, 62, 63, 104, 105, 106, 107, 156, 157, 158, 159, 160, 161, 162, 163, 164, 165, 166, 167, 168, 169, 170, 171, 172, 173] (by decide +kernel) (by decide +kernel)
set_option maxRecDepth 20000 in
theorem gL_holds_X5_heardInRound : GoodIn wsL_holds (wsV RL 127 RX5 yX5_heardInRound wsX5_heardInRound) := goodIn_app (goodIn_of _ (by decide +kernel)) ggL_holds_X5_heardInRound
set_option maxRecDepth 20000 in
theorem ggL_holds_X5_missedInRound : GoodIn wsL_holds wsX5_missedInRound := goodIn_r _ [111, 6, 14, 15, 93, 94, 95, 96, 97, 98, 99, 58, 59, 60, 61, 62, 63, 20, 21, 22, 23, 24, 25, 26, 27, 28, 29, 30, 31, 32, 33, 34, 35, 36, 37, 38, 39, 40, 41, 42, 43, 4, 44, 45, 46, 47, 48, 49, 50, 51, 52, 53, 54, 55, 56, 57, 156, 157, 158, 159, 160, 161, 162, 163, 164, 165, 166, 167, 168, 169, 170, 171, 172, 173] (by decide +kernel) (by decide +kernel)
set_option maxRecDepth 20000 in
theorem gL_holds_X5_missedInRound : GoodIn wsL_holds (wsV RL 130 RX5 yX5_missedInRound wsX5_missedInRound) := goodIn_app (goodIn_of _ (by decide +kernel)) ggL_holds_X5_missedInRound
set_option maxRecDepth 20000 in
theorem ggL_holds_X5_longestSilence : GoodIn wsL_holds wsX5_longestSilence := goodIn_r _ [115, 14, 6, 15, 16, 116, 117, 55, 118, 20, 21, 22, 23, 24, 25, 26, 27, 28, 29, 30, 31, 32, 33, 34, 35, 36, 37, 38, 39, 40, 41, 42, 43, 4, 44, 45, 46, 47, 48, 49, 50, 51, 52, 53, 54, 56, 57, 58, 59, 60, 61, 62, 63, 156, 157, 158, 159, 160, 161, 162, 163, 164, 165, 166, 167, 168, 169, 170, 171, 172, 173] (by decide +kernel) (by decide +kernel)
set_option maxRecDepth 20000 in
theorem gL_holds_X5_longestSilence : GoodIn wsL_holds (wsV RL 133 RX5 yX5_longestSilence wsX5_longestSilence) := goodIn_app (goodIn_of _ (by decide +kernel)) ggL_holds_X5_longestSilence
set_option maxRecDepth 20000 in
theorem ggL_holds_X5_heaviestColumn : GoodIn wsL_holds wsX5_heaviestColumn := goodIn_r _ [122, 14, 6, 15, 16, 20, 21, 22, 23, 24, 25, 26, 27, 28, 29, 30, 31, 32, 33, 34, 35, 36, 37, 38, 39, 40, 41, 42, 43, 4, 44, 45, 46, 47, 48, 49, 50, 51, 52, 53, 54, 55, 56, 57, 58, 59, 60, 61, 62, 63, 123, 124, 125, 96, 126, 127, 156, 157, 158, 159, 160, 161, 162, 163, 164, 165, 166, 167, 168, 169, 170, 171, 172, 173] (by decide +kernel) (by decide +kernel)
set_option maxRecDepth 20000 in
theorem gL_holds_X5_heaviestColumn : GoodIn wsL_holds (wsV RL 136 RX5 yX5_heaviestColumn wsX5_heaviestColumn) := goodIn_app (goodIn_of _ (by decide +kernel)) ggL_holds_X5_heaviestColumn
set_option maxRecDepth 20000 in
theorem ggL_holds_X5_ticksOfRound : GoodIn wsL_holds wsX5_ticksOfRound := goodIn_r _ [131, 6, 132, 133, 134, 96, 135, 136, 137, 138, 139, 140, 156, 157, 158, 159, 160, 161, 162, 163, 164, 165, 166, 167, 168, 169, 170] (by decide +kernel) (by decide +kernel)
set_option maxRecDepth 20000 in
theorem gL_holds_X5_ticksOfRound : GoodIn wsL_holds (wsV RL 43 RX5 yX5_ticksOfRound wsX5_ticksOfRound) := goodIn_app (goodIn_of _ (by decide +kernel)) ggL_holds_X5_ticksOfRound
set_option maxRecDepth 20000 in
theorem ggL_holds_X5_heard : GoodIn wsL_holds wsX5_heard := goodIn_r _ [144, 6, 145, 146, 147, 148, 96, 149, 150, 156, 157, 158, 159, 160, 161, 162, 163, 164, 165, 166, 167, 168, 169, 170] (by decide +kernel) (by decide +kernel)
set_option maxRecDepth 20000 in
theorem gL_holds_X5_heard : GoodIn wsL_holds (wsV RL 101 RX5 yX5_heard wsX5_heard) := goodIn_app (goodIn_of _ (by decide +kernel)) ggL_holds_X5_heard
set_option maxRecDepth 20000 in
theorem ggL_holds_X5_time : GoodIn wsL_holds wsX5_time := goodIn_r _ [154, 6, 155, 156, 157, 158, 159, 160, 161, 162, 163, 164, 165, 166, 167, 168, 169, 170] (by decide +kernel) (by decide +kernel)
set_option maxRecDepth 20000 in
theorem gL_holds_X5_time : GoodIn wsL_holds (wsV RL 73 RX5 yX5_time wsX5_time) := goodIn_app (goodIn_of _ (by decide +kernel)) ggL_holds_X5_time
theorem dL_holds_0 : decode cL_holds 0 = .ok (.iconst 0, 1) := by decide +kernel
theorem dL_holds_1 : decode cL_holds 1 = .ok (.istore_n 1, 1) := by decide +kernel
theorem dL_holds_2 : decode cL_holds 2 = .ok (.iconst 0, 1) := by decide +kernel
theorem dL_holds_3 : decode cL_holds 3 = .ok (.istore_n 2, 1) := by decide +kernel
theorem dL_holds_4 : decode cL_holds 4 = .ok (.iconst 0, 1) := by decide +kernel
theorem dL_holds_5 : decode cL_holds 5 = .ok (.istore_n 3, 1) := by decide +kernel
theorem dL_holds_6 : decode cL_holds 6 = .ok (.iconst 0, 1) := by decide +kernel
theorem dL_holds_7 : decode cL_holds 7 = .ok (.istore 4, 2) := by decide +kernel
theorem dL_holds_9 : decode cL_holds 9 = .ok (.iconst (-1), 1) := by decide +kernel
theorem dL_holds_10 : decode cL_holds 10 = .ok (.istore 5, 2) := by decide +kernel
theorem dL_holds_12 : decode cL_holds 12 = .ok (.iconst 0, 1) := by decide +kernel
theorem dL_holds_13 : decode cL_holds 13 = .ok (.istore 6, 2) := by decide +kernel
theorem dL_holds_15 : decode cL_holds 15 = .ok (.aload_n 0, 1) := by decide +kernel
theorem dL_holds_16 : decode cL_holds 16 = .ok (.invokevirtual 70, 3) := by decide +kernel
theorem dL_holds_19 : decode cL_holds 19 = .ok (.ifCond .lt 16, 3) := by decide +kernel
theorem dL_holds_22 : decode cL_holds 22 = .ok (.aload_n 0, 1) := by decide +kernel
theorem dL_holds_23 : decode cL_holds 23 = .ok (.invokevirtual 70, 3) := by decide +kernel
theorem dL_holds_26 : decode cL_holds 26 = .ok (.bipush 32, 2) := by decide +kernel
theorem dL_holds_28 : decode cL_holds 28 = .ok (.if_icmp .ge 7, 3) := by decide +kernel
theorem dL_holds_31 : decode cL_holds 31 = .ok (.iconst 1, 1) := by decide +kernel
theorem dL_holds_32 : decode cL_holds 32 = .ok (.goto 4, 3) := by decide +kernel
theorem dL_holds_35 : decode cL_holds 35 = .ok (.iconst 0, 1) := by decide +kernel
theorem dL_holds_36 : decode cL_holds 36 = .ok (.istore 7, 2) := by decide +kernel
theorem dL_holds_38 : decode cL_holds 38 = .ok (.iconst 0, 1) := by decide +kernel
theorem dL_holds_39 : decode cL_holds 39 = .ok (.istore 8, 2) := by decide +kernel
theorem dL_holds_41 : decode cL_holds 41 = .ok (.iload 8, 2) := by decide +kernel
theorem dL_holds_43 : decode cL_holds 43 = .ok (.bipush 32, 2) := by decide +kernel
theorem dL_holds_45 : decode cL_holds 45 = .ok (.if_icmp .ge 160, 3) := by decide +kernel
theorem dL_holds_48 : decode cL_holds 48 = .ok (.iload 7, 2) := by decide +kernel
theorem dL_holds_50 : decode cL_holds 50 = .ok (.ifCond .eq 155, 3) := by decide +kernel
theorem dL_holds_53 : decode cL_holds 53 = .ok (.aload_n 0, 1) := by decide +kernel
theorem dL_holds_54 : decode cL_holds 54 = .ok (.iload 8, 2) := by decide +kernel
theorem dL_holds_56 : decode cL_holds 56 = .ok (.invokevirtual 121, 3) := by decide +kernel
theorem dL_holds_59 : decode cL_holds 59 = .ok (.istore 9, 2) := by decide +kernel
theorem dL_holds_61 : decode cL_holds 61 = .ok (.iconst 0, 1) := by decide +kernel
theorem dL_holds_62 : decode cL_holds 62 = .ok (.istore 10, 2) := by decide +kernel
theorem dL_holds_64 : decode cL_holds 64 = .ok (.iconst 0, 1) := by decide +kernel
theorem dL_holds_65 : decode cL_holds 65 = .ok (.istore 11, 2) := by decide +kernel
theorem dL_holds_67 : decode cL_holds 67 = .ok (.iload 11, 2) := by decide +kernel
theorem dL_holds_69 : decode cL_holds 69 = .ok (.bipush 10, 2) := by decide +kernel
theorem dL_holds_71 : decode cL_holds 71 = .ok (.if_icmp .ge 28, 3) := by decide +kernel
theorem dL_holds_74 : decode cL_holds 74 = .ok (.iload 10, 2) := by decide +kernel
theorem dL_holds_76 : decode cL_holds 76 = .ok (.iload 9, 2) := by decide +kernel
theorem dL_holds_78 : decode cL_holds 78 = .ok (.iload 11, 2) := by decide +kernel
theorem dL_holds_80 : decode cL_holds 80 = .ok (.ishr, 1) := by decide +kernel
theorem dL_holds_81 : decode cL_holds 81 = .ok (.iconst 1, 1) := by decide +kernel
theorem dL_holds_82 : decode cL_holds 82 = .ok (.iand, 1) := by decide +kernel
theorem dL_holds_83 : decode cL_holds 83 = .ok (.aload_n 0, 1) := by decide +kernel
theorem dL_holds_84 : decode cL_holds 84 = .ok (.iload 11, 2) := by decide +kernel
theorem dL_holds_86 : decode cL_holds 86 = .ok (.invokevirtual 50, 3) := by decide +kernel
theorem dL_holds_89 : decode cL_holds 89 = .ok (.imul, 1) := by decide +kernel
theorem dL_holds_90 : decode cL_holds 90 = .ok (.iadd, 1) := by decide +kernel
theorem dL_holds_91 : decode cL_holds 91 = .ok (.istore 10, 2) := by decide +kernel
theorem dL_holds_93 : decode cL_holds 93 = .ok (.iinc 11 1, 3) := by decide +kernel
theorem dL_holds_96 : decode cL_holds 96 = .ok (.goto (-29), 3) := by decide +kernel
theorem dL_holds_99 : decode cL_holds 99 = .ok (.iload_n 2, 1) := by decide +kernel
theorem dL_holds_100 : decode cL_holds 100 = .ok (.aload_n 0, 1) := by decide +kernel
theorem dL_holds_101 : decode cL_holds 101 = .ok (.iload 8, 2) := by decide +kernel
theorem dL_holds_103 : decode cL_holds 103 = .ok (.invokevirtual 11, 3) := by decide +kernel
theorem dL_holds_106 : decode cL_holds 106 = .ok (.invokestatic 37, 3) := by decide +kernel
theorem dL_holds_109 : decode cL_holds 109 = .ok (.iadd, 1) := by decide +kernel
theorem dL_holds_110 : decode cL_holds 110 = .ok (.istore_n 2, 1) := by decide +kernel
theorem dL_holds_111 : decode cL_holds 111 = .ok (.iload_n 1, 1) := by decide +kernel
theorem dL_holds_112 : decode cL_holds 112 = .ok (.iload 9, 2) := by decide +kernel
theorem dL_holds_114 : decode cL_holds 114 = .ok (.invokestatic 37, 3) := by decide +kernel
theorem dL_holds_117 : decode cL_holds 117 = .ok (.iadd, 1) := by decide +kernel
theorem dL_holds_118 : decode cL_holds 118 = .ok (.istore_n 1, 1) := by decide +kernel
theorem dL_holds_119 : decode cL_holds 119 = .ok (.iload 9, 2) := by decide +kernel
theorem dL_holds_121 : decode cL_holds 121 = .ok (.ifCond .ne 9, 3) := by decide +kernel
theorem dL_holds_124 : decode cL_holds 124 = .ok (.iload_n 3, 1) := by decide +kernel
theorem dL_holds_125 : decode cL_holds 125 = .ok (.iconst 1, 1) := by decide +kernel
theorem dL_holds_126 : decode cL_holds 126 = .ok (.iadd, 1) := by decide +kernel
theorem dL_holds_127 : decode cL_holds 127 = .ok (.goto 4, 3) := by decide +kernel
theorem dL_holds_130 : decode cL_holds 130 = .ok (.iconst 0, 1) := by decide +kernel
theorem dL_holds_131 : decode cL_holds 131 = .ok (.istore_n 3, 1) := by decide +kernel
theorem dL_holds_132 : decode cL_holds 132 = .ok (.iload_n 3, 1) := by decide +kernel
theorem dL_holds_133 : decode cL_holds 133 = .ok (.iload 4, 2) := by decide +kernel
theorem dL_holds_135 : decode cL_holds 135 = .ok (.if_icmp .le 7, 3) := by decide +kernel
theorem dL_holds_138 : decode cL_holds 138 = .ok (.iload_n 3, 1) := by decide +kernel
theorem dL_holds_139 : decode cL_holds 139 = .ok (.goto 5, 3) := by decide +kernel
theorem dL_holds_142 : decode cL_holds 142 = .ok (.iload 4, 2) := by decide +kernel
theorem dL_holds_144 : decode cL_holds 144 = .ok (.istore 4, 2) := by decide +kernel
theorem dL_holds_146 : decode cL_holds 146 = .ok (.iload 10, 2) := by decide +kernel
theorem dL_holds_148 : decode cL_holds 148 = .ok (.iload 6, 2) := by decide +kernel
theorem dL_holds_150 : decode cL_holds 150 = .ok (.if_icmp .le 8, 3) := by decide +kernel
theorem dL_holds_153 : decode cL_holds 153 = .ok (.iload 8, 2) := by decide +kernel
theorem dL_holds_155 : decode cL_holds 155 = .ok (.goto 5, 3) := by decide +kernel
theorem dL_holds_158 : decode cL_holds 158 = .ok (.iload 5, 2) := by decide +kernel
theorem dL_holds_160 : decode cL_holds 160 = .ok (.istore 5, 2) := by decide +kernel
theorem dL_holds_162 : decode cL_holds 162 = .ok (.iload 10, 2) := by decide +kernel
theorem dL_holds_164 : decode cL_holds 164 = .ok (.iload 6, 2) := by decide +kernel
theorem dL_holds_166 : decode cL_holds 166 = .ok (.if_icmp .le 8, 3) := by decide +kernel
theorem dL_holds_169 : decode cL_holds 169 = .ok (.iload 10, 2) := by decide +kernel
theorem dL_holds_171 : decode cL_holds 171 = .ok (.goto 5, 3) := by decide +kernel
theorem dL_holds_174 : decode cL_holds 174 = .ok (.iload 6, 2) := by decide +kernel
theorem dL_holds_176 : decode cL_holds 176 = .ok (.istore 6, 2) := by decide +kernel
theorem dL_holds_178 : decode cL_holds 178 = .ok (.iload 9, 2) := by decide +kernel
theorem dL_holds_180 : decode cL_holds 180 = .ok (.aload_n 0, 1) := by decide +kernel
theorem dL_holds_181 : decode cL_holds 181 = .ok (.iload 8, 2) := by decide +kernel
theorem dL_holds_183 : decode cL_holds 183 = .ok (.invokevirtual 11, 3) := by decide +kernel
theorem dL_holds_186 : decode cL_holds 186 = .ok (.iconst (-1), 1) := by decide +kernel
theorem dL_holds_187 : decode cL_holds 187 = .ok (.ixor, 1) := by decide +kernel
theorem dL_holds_188 : decode cL_holds 188 = .ok (.iand, 1) := by decide +kernel
theorem dL_holds_189 : decode cL_holds 189 = .ok (.ifCond .ne 7, 3) := by decide +kernel
theorem dL_holds_192 : decode cL_holds 192 = .ok (.iconst 1, 1) := by decide +kernel
theorem dL_holds_193 : decode cL_holds 193 = .ok (.goto 4, 3) := by decide +kernel
theorem dL_holds_196 : decode cL_holds 196 = .ok (.iconst 0, 1) := by decide +kernel
theorem dL_holds_197 : decode cL_holds 197 = .ok (.istore 7, 2) := by decide +kernel
theorem dL_holds_199 : decode cL_holds 199 = .ok (.iinc 8 1, 3) := by decide +kernel
theorem dL_holds_202 : decode cL_holds 202 = .ok (.goto (-161), 3) := by decide +kernel
theorem dL_holds_205 : decode cL_holds 205 = .ok (.aload_n 0, 1) := by decide +kernel
theorem dL_holds_206 : decode cL_holds 206 = .ok (.invokevirtual 124, 3) := by decide +kernel
theorem dL_holds_209 : decode cL_holds 209 = .ok (.istore 8, 2) := by decide +kernel
theorem dL_holds_211 : decode cL_holds 211 = .ok (.iload 7, 2) := by decide +kernel
theorem dL_holds_213 : decode cL_holds 213 = .ok (.ifCond .eq 117, 3) := by decide +kernel
theorem dL_holds_216 : decode cL_holds 216 = .ok (.aload_n 0, 1) := by decide +kernel
theorem dL_holds_217 : decode cL_holds 217 = .ok (.invokevirtual 21, 3) := by decide +kernel
theorem dL_holds_220 : decode cL_holds 220 = .ok (.iload_n 2, 1) := by decide +kernel
theorem dL_holds_221 : decode cL_holds 221 = .ok (.if_icmp .ne 109, 3) := by decide +kernel
theorem dL_holds_224 : decode cL_holds 224 = .ok (.aload_n 0, 1) := by decide +kernel
theorem dL_holds_225 : decode cL_holds 225 = .ok (.iconst 1, 1) := by decide +kernel
theorem dL_holds_226 : decode cL_holds 226 = .ok (.invokevirtual 127, 3) := by decide +kernel
theorem dL_holds_229 : decode cL_holds 229 = .ok (.iload_n 1, 1) := by decide +kernel
theorem dL_holds_230 : decode cL_holds 230 = .ok (.if_icmp .ne 100, 3) := by decide +kernel
theorem dL_holds_233 : decode cL_holds 233 = .ok (.aload_n 0, 1) := by decide +kernel
theorem dL_holds_234 : decode cL_holds 234 = .ok (.iconst 0, 1) := by decide +kernel
theorem dL_holds_235 : decode cL_holds 235 = .ok (.invokevirtual 127, 3) := by decide +kernel
theorem dL_holds_238 : decode cL_holds 238 = .ok (.iload_n 1, 1) := by decide +kernel
theorem dL_holds_239 : decode cL_holds 239 = .ok (.if_icmp .ne 91, 3) := by decide +kernel
theorem dL_holds_242 : decode cL_holds 242 = .ok (.aload_n 0, 1) := by decide +kernel
theorem dL_holds_243 : decode cL_holds 243 = .ok (.invokevirtual 130, 3) := by decide +kernel
theorem dL_holds_246 : decode cL_holds 246 = .ok (.iload_n 2, 1) := by decide +kernel
theorem dL_holds_247 : decode cL_holds 247 = .ok (.iload_n 1, 1) := by decide +kernel
theorem dL_holds_248 : decode cL_holds 248 = .ok (.isub, 1) := by decide +kernel
theorem dL_holds_249 : decode cL_holds 249 = .ok (.if_icmp .ne 81, 3) := by decide +kernel
theorem dL_holds_252 : decode cL_holds 252 = .ok (.aload_n 0, 1) := by decide +kernel
theorem dL_holds_253 : decode cL_holds 253 = .ok (.invokevirtual 133, 3) := by decide +kernel
theorem dL_holds_256 : decode cL_holds 256 = .ok (.iload 4, 2) := by decide +kernel
theorem dL_holds_258 : decode cL_holds 258 = .ok (.if_icmp .ne 72, 3) := by decide +kernel
theorem dL_holds_261 : decode cL_holds 261 = .ok (.aload_n 0, 1) := by decide +kernel
theorem dL_holds_262 : decode cL_holds 262 = .ok (.invokevirtual 136, 3) := by decide +kernel
theorem dL_holds_265 : decode cL_holds 265 = .ok (.iload 5, 2) := by decide +kernel
theorem dL_holds_267 : decode cL_holds 267 = .ok (.if_icmp .ne 63, 3) := by decide +kernel
theorem dL_holds_270 : decode cL_holds 270 = .ok (.iload 8, 2) := by decide +kernel
theorem dL_holds_272 : decode cL_holds 272 = .ok (.iconst (-1), 1) := by decide +kernel
theorem dL_holds_273 : decode cL_holds 273 = .ok (.if_icmp .ne 7, 3) := by decide +kernel
theorem dL_holds_276 : decode cL_holds 276 = .ok (.iconst 1, 1) := by decide +kernel
theorem dL_holds_277 : decode cL_holds 277 = .ok (.goto 4, 3) := by decide +kernel
theorem dL_holds_280 : decode cL_holds 280 = .ok (.iconst 0, 1) := by decide +kernel
theorem dL_holds_281 : decode cL_holds 281 = .ok (.iload_n 1, 1) := by decide +kernel
theorem dL_holds_282 : decode cL_holds 282 = .ok (.ifCond .ne 7, 3) := by decide +kernel
theorem dL_holds_285 : decode cL_holds 285 = .ok (.iconst 1, 1) := by decide +kernel
theorem dL_holds_286 : decode cL_holds 286 = .ok (.goto 4, 3) := by decide +kernel
theorem dL_holds_289 : decode cL_holds 289 = .ok (.iconst 0, 1) := by decide +kernel
theorem dL_holds_290 : decode cL_holds 290 = .ok (.if_icmp .ne 40, 3) := by decide +kernel
theorem dL_holds_293 : decode cL_holds 293 = .ok (.aload_n 0, 1) := by decide +kernel
theorem dL_holds_294 : decode cL_holds 294 = .ok (.iconst 1, 1) := by decide +kernel
theorem dL_holds_295 : decode cL_holds 295 = .ok (.invokevirtual 43, 3) := by decide +kernel
theorem dL_holds_298 : decode cL_holds 298 = .ok (.aload_n 0, 1) := by decide +kernel
theorem dL_holds_299 : decode cL_holds 299 = .ok (.iconst 0, 1) := by decide +kernel
theorem dL_holds_300 : decode cL_holds 300 = .ok (.invokevirtual 43, 3) := by decide +kernel
theorem dL_holds_303 : decode cL_holds 303 = .ok (.if_icmp .ne 27, 3) := by decide +kernel
theorem dL_holds_306 : decode cL_holds 306 = .ok (.aload_n 0, 1) := by decide +kernel
theorem dL_holds_307 : decode cL_holds 307 = .ok (.iconst 1, 1) := by decide +kernel
theorem dL_holds_308 : decode cL_holds 308 = .ok (.invokevirtual 101, 3) := by decide +kernel
theorem dL_holds_311 : decode cL_holds 311 = .ok (.aload_n 0, 1) := by decide +kernel
theorem dL_holds_312 : decode cL_holds 312 = .ok (.iconst 0, 1) := by decide +kernel
theorem dL_holds_313 : decode cL_holds 313 = .ok (.invokevirtual 101, 3) := by decide +kernel
theorem dL_holds_316 : decode cL_holds 316 = .ok (.if_icmp .ne 14, 3) := by decide +kernel
theorem dL_holds_319 : decode cL_holds 319 = .ok (.aload_n 0, 1) := by decide +kernel
theorem dL_holds_320 : decode cL_holds 320 = .ok (.invokevirtual 73, 3) := by decide +kernel
theorem dL_holds_323 : decode cL_holds 323 = .ok (.ifCond .lt 7, 3) := by decide +kernel
theorem dL_holds_326 : decode cL_holds 326 = .ok (.iconst 1, 1) := by decide +kernel
theorem dL_holds_327 : decode cL_holds 327 = .ok (.goto 4, 3) := by decide +kernel
theorem dL_holds_330 : decode cL_holds 330 = .ok (.iconst 0, 1) := by decide +kernel
theorem dL_holds_331 : decode cL_holds 331 = .ok (.ireturn, 1) := by decide +kernel
set_option maxRecDepth 20000 in
theorem ggL_round_X5_save : GoodIn wsL_round wsX5_save := goodIn_ca (goodIn_r _ [5, 6, 7, 8, 9, 10, 11, 12, 13, 14, 4, 15, 16, 17, 18, 19, 20, 21, 22, 23, 24, 25, 26, 27, 28, 29, 30, 31, 32, 33, 34, 35, 36, 37, 38, 39, 40, 41, 42, 43, 44, 45, 46, 47, 48, 49, 50, 51, 52, 53, 54, 55, 56, 57, 58, 59, 60, 61, 62, 63, 64, 65, 66, 67, 68, 69, 220, 221, 222, 223, 224, 225, 226, 227, 228, 229, 230, 231, 232, 233, 234, 235] (by decide +kernel) (by decide +kernel)) (goodIn_sub (fun _ h => List.mem_cons_of_mem _ (List.mem_append_left _ (List.mem_append_left _ (List.mem_append_right _ h)))) (by decide +kernel))
set_option maxRecDepth 20000 in
theorem gL_round_X5_save : GoodIn wsL_round (wsV RL 95 RX5 yX5_save wsX5_save) := goodIn_app (goodIn_of _ (by decide +kernel)) ggL_round_X5_save
set_option maxRecDepth 20000 in
theorem ggL_round_X5_heardInRound : GoodIn wsL_round wsX5_heardInRound := goodIn_r _ [73, 74, 12, 75, 76, 77, 78, 79, 80, 81, 82, 83, 84, 85, 86, 87, 29, 88, 40, 41, 42, 43, 44, 89, 90, 91, 92, 93, 4, 94, 95, 96, 97, 98, 99, 100, 101, 102, 103, 104, 105, 106, 107, 64, 65, 66, 67, 68, 69, 108, 109, 110, 111, 220, 221, 222, 223, 224, 225, 226, 227, 228, 229, 230, 231, 232, 233, 234, 236, 237, 235] (by decide +kernel) (by decide +kernel)
set_option maxRecDepth 20000 in
theorem gL_round_X5_heardInRound : GoodIn wsL_round (wsV RL 127 RX5 yX5_heardInRound wsX5_heardInRound) := goodIn_app (goodIn_of _ (by decide +kernel)) ggL_round_X5_heardInRound
set_option maxRecDepth 20000 in
theorem ggL_round_X5_missedInRound : GoodIn wsL_round wsX5_missedInRound := goodIn_r _ [115, 12, 74, 75, 59, 60, 61, 11, 62, 23, 63, 64, 65, 66, 67, 68, 69, 76, 77, 78, 79, 80, 81, 82, 83, 84, 85, 86, 87, 29, 88, 40, 41, 42, 43, 44, 89, 90, 91, 92, 93, 4, 94, 95, 96, 97, 98, 99, 100, 101, 102, 103, 104, 105, 106, 107, 220, 221, 222, 223, 224, 225, 226, 227, 228, 229, 230, 231, 232, 233, 234, 236, 237, 235] (by decide +kernel) (by decide +kernel)
set_option maxRecDepth 20000 in
theorem gL_round_X5_missedInRound : GoodIn wsL_round (wsV RL 130 RX5 yX5_missedInRound wsX5_missedInRound) := goodIn_app (goodIn_of _ (by decide +kernel)) ggL_round_X5_missedInRound
set_option maxRecDepth 20000 in
theorem ggL_round_X5_ticksOfRound : GoodIn wsL_round wsX5_ticksOfRound := goodIn_r _ [119, 12, 120, 121, 122, 11, 123, 24, 124, 125, 126, 127, 220, 221, 222, 223, 224, 225, 226, 227, 228, 229, 230, 231, 232, 233, 234] (by decide +kernel) (by decide +kernel)
set_option maxRecDepth 20000 in
theorem gL_round_X5_ticksOfRound : GoodIn wsL_round (wsV RL 43 RX5 yX5_ticksOfRound wsX5_ticksOfRound) := goodIn_app (goodIn_of _ (by decide +kernel)) ggL_round_X5_ticksOfRound
set_option maxRecDepth 20000 in
theorem ggL_round_X5_turnBack : GoodIn wsL_round wsX5_turnBack := goodIn_r _ [131, 132, 12, 133, 134, 135, 136, 137, 138, 139, 140, 141, 142, 143, 144, 145, 146, 47, 48, 11, 49, 23, 50, 51, 52, 53, 24, 25, 26, 30, 31, 32, 33, 34, 35, 54, 55, 56, 29, 57, 40, 58, 147, 86, 87, 88, 41, 42, 43, 44, 220, 221, 222, 223, 224, 225, 226, 227, 228, 229, 230, 231, 232, 233, 234, 238, 239, 235] (by decide +kernel) (by decide +kernel)
set_option maxRecDepth 20000 in
theorem gL_round_X5_turnBack : GoodIn wsL_round (wsV RL 76 RX5 yX5_turnBack wsX5_turnBack) := goodIn_app (goodIn_of _ (by decide +kernel)) ggL_round_X5_turnBack
set_option maxRecDepth 20000 in
theorem ggL_round_X5_missed : GoodIn wsL_round wsX5_missed := goodIn_r _ [151, 12, 152, 220, 221, 222, 223, 224, 225, 226, 227, 228, 229, 230, 231, 232, 233, 234] (by decide +kernel) (by decide +kernel)
set_option maxRecDepth 20000 in
theorem gL_round_X5_missed : GoodIn wsL_round (wsV RL 104 RX5 yX5_missed wsX5_missed) := goodIn_app (goodIn_of _ (by decide +kernel)) ggL_round_X5_missed
set_option maxRecDepth 20000 in
theorem ggL_round_X5_time : GoodIn wsL_round wsX5_time := goodIn_r _ [156, 12, 157, 220, 221, 222, 223, 224, 225, 226, 227, 228, 229, 230, 231, 232, 233, 234] (by decide +kernel) (by decide +kernel)
set_option maxRecDepth 20000 in
theorem gL_round_X5_time : GoodIn wsL_round (wsV RL 73 RX5 yX5_time wsX5_time) := goodIn_app (goodIn_of _ (by decide +kernel)) ggL_round_X5_time
set_option maxRecDepth 20000 in
theorem ggL_round_X5_crank : GoodIn wsL_round wsX5_crank := goodIn_ca (goodIn_r _ [161, 162, 163, 132, 12, 135, 136, 137, 138, 139, 140, 141, 142, 143, 144, 145, 146, 47, 48, 11, 49, 23, 50, 51, 52, 53, 24, 25, 26, 30, 31, 32, 33, 34, 35, 54, 55, 56, 29, 57, 40, 58, 164, 165, 166, 167, 168, 169, 170, 171, 172, 173, 174, 175, 176, 90, 91, 92, 93, 4, 94, 95, 96, 97, 98, 177, 100, 101, 102, 103, 104, 105, 106, 178, 179, 180, 181, 63, 64, 65, 66, 67, 68, 69, 220, 221, 222, 223, 224, 238, 239, 225, 226, 227, 228, 229, 230, 231, 232, 233, 234, 235] (by decide +kernel) (by decide +kernel)) (goodIn_sub (fun _ h => List.mem_cons_of_mem _ (List.mem_append_left _ (List.mem_append_right _ h))) (by decide +kernel))
set_option maxRecDepth 20000 in
theorem gL_round_X5_crank : GoodIn wsL_round (wsV RL 98 RX5 yX5_crank wsX5_crank) := goodIn_app (goodIn_of _ (by decide +kernel)) ggL_round_X5_crank
set_option maxRecDepth 20000 in
theorem ggL_round_X5_column : GoodIn wsL_round wsX5_column := goodIn_r _ [185, 12, 133, 220, 221, 222, 223, 224, 225, 226, 227, 228, 229, 230, 231, 232, 233, 234] (by decide +kernel) (by decide +kernel)
set_option maxRecDepth 20000 in
theorem gL_round_X5_column : GoodIn wsL_round (wsV RL 70 RX5 yX5_column wsX5_column) := goodIn_app (goodIn_of _ (by decide +kernel)) ggL_round_X5_column
set_option maxRecDepth 20000 in
theorem ggL_round_X5_enoughBound : GoodIn wsL_round wsX5_enoughBound := goodIn_r _ [189, 74, 12, 190, 191, 192, 105, 193, 76, 77, 78, 79, 80, 81, 82, 83, 84, 85, 86, 87, 29, 88, 40, 41, 42, 43, 44, 89, 90, 91, 92, 93, 4, 94, 95, 96, 97, 98, 99, 100, 101, 102, 103, 104, 106, 107, 64, 65, 66, 67, 68, 69, 194, 195, 196, 11, 197, 25, 220, 221, 222, 223, 224, 236, 237, 225, 226, 227, 228, 229, 230, 231, 232, 233, 234, 235] (by decide +kernel) (by decide +kernel)
set_option maxRecDepth 20000 in
theorem gL_round_X5_enoughBound : GoodIn wsL_round (wsV RL 139 RX5 yX5_enoughBound wsX5_enoughBound) := goodIn_app (goodIn_of _ (by decide +kernel)) ggL_round_X5_enoughBound
set_option maxRecDepth 20000 in
theorem ggL_round_X5_setBound : GoodIn wsL_round wsX5_setBound := goodIn_ca (goodIn_r _ [201, 162, 163, 132, 12, 75, 135, 136, 137, 138, 139, 140, 141, 142, 143, 144, 145, 146, 47, 48, 11, 49, 23, 50, 51, 52, 53, 24, 25, 26, 30, 31, 32, 33, 34, 35, 54, 55, 56, 29, 57, 40, 58, 220, 221, 222, 223, 224, 225, 226, 227, 228, 229, 230, 231, 232, 233, 234, 238, 239, 235] (by decide +kernel) (by decide +kernel)) (goodIn_sub (fun _ h => List.mem_cons_of_mem _ (List.mem_append_left _ (List.mem_append_right _ h))) (by decide +kernel))
set_option maxRecDepth 20000 in
theorem gL_round_X5_setBound : GoodIn wsL_round (wsV RL 56 RX5 yX5_setBound wsX5_setBound) := goodIn_app (goodIn_of _ (by decide +kernel)) ggL_round_X5_setBound
set_option maxRecDepth 20000 in
theorem ggL_round_X5_whyMissed : GoodIn wsL_round wsX5_whyMissed := goodIn_ca (goodIn_r _ [205, 6, 7, 12, 206, 133, 134, 207, 208, 209, 4, 210, 211, 93, 94, 212, 96, 97, 29, 98, 40, 213, 173, 174, 11, 175, 30, 23, 32, 25, 31, 176, 90, 91, 92, 95, 220, 221, 222, 223, 224, 225, 226, 227, 228, 229, 230, 231, 232, 233, 234, 235] (by decide +kernel) (by decide +kernel)) (goodIn_sub (fun _ h => List.mem_cons_of_mem _ (List.mem_append_left _ (List.mem_append_left _ (List.mem_append_right _ h)))) (by decide +kernel))
set_option maxRecDepth 20000 in
theorem gL_round_X5_whyMissed : GoodIn wsL_round (wsV RL 114 RX5 yX5_whyMissed wsX5_whyMissed) := goodIn_app (goodIn_of _ (by decide +kernel)) ggL_round_X5_whyMissed
set_option maxRecDepth 20000 in
theorem ggL_round_X5_restore : GoodIn wsL_round wsX5_restore := goodIn_ca (goodIn_ca (goodIn_r _ [217, 6, 7, 218, 219, 8, 132, 12, 13, 14, 4, 15, 135, 136, 137, 138, 139, 140, 141, 142, 143, 144, 145, 146, 47, 48, 11, 49, 23, 50, 51, 52, 53, 24, 25, 26, 30, 31, 32, 33, 34, 35, 54, 55, 56, 29, 57, 40, 58, 46, 59, 60, 61, 62, 63, 64, 65, 66, 67, 68, 69, 220, 221, 222, 223, 224, 238, 239, 225, 226, 227, 228, 229, 230, 231, 232, 233, 234, 235] (by decide +kernel) (by decide +kernel)) (goodIn_sub (fun _ h => List.mem_cons_of_mem _ (List.mem_append_left _ (List.mem_append_left _ (List.mem_append_right _ h)))) (by decide +kernel))) (goodIn_sub (fun _ h => List.mem_cons_of_mem _ (List.mem_append_right _ h)) (by decide +kernel))
set_option maxRecDepth 20000 in
theorem gL_round_X5_restore : GoodIn wsL_round (wsV RL 107 RX5 yX5_restore wsX5_restore) := goodIn_app (goodIn_of _ (by decide +kernel)) ggL_round_X5_restore
theorem dL_round_0 : decode cL_round 0 = .ok (.aload_n 0, 1) := by decide +kernel
theorem dL_round_1 : decode cL_round 1 = .ok (.iconst 0, 1) := by decide +kernel
theorem dL_round_2 : decode cL_round 2 = .ok (.invokevirtual 95, 3) := by decide +kernel
theorem dL_round_5 : decode cL_round 5 = .ok (.istore_n 1, 1) := by decide +kernel
theorem dL_round_6 : decode cL_round 6 = .ok (.aload_n 0, 1) := by decide +kernel
theorem dL_round_7 : decode cL_round 7 = .ok (.iconst 0, 1) := by decide +kernel
theorem dL_round_8 : decode cL_round 8 = .ok (.invokevirtual 127, 3) := by decide +kernel
theorem dL_round_11 : decode cL_round 11 = .ok (.istore_n 2, 1) := by decide +kernel
theorem dL_round_12 : decode cL_round 12 = .ok (.aload_n 0, 1) := by decide +kernel
theorem dL_round_13 : decode cL_round 13 = .ok (.invokevirtual 130, 3) := by decide +kernel
theorem dL_round_16 : decode cL_round 16 = .ok (.istore_n 3, 1) := by decide +kernel
theorem dL_round_17 : decode cL_round 17 = .ok (.aload_n 0, 1) := by decide +kernel
theorem dL_round_18 : decode cL_round 18 = .ok (.iconst 0, 1) := by decide +kernel
theorem dL_round_19 : decode cL_round 19 = .ok (.invokevirtual 43, 3) := by decide +kernel
theorem dL_round_22 : decode cL_round 22 = .ok (.istore 4, 2) := by decide +kernel
theorem dL_round_24 : decode cL_round 24 = .ok (.aload_n 0, 1) := by decide +kernel
theorem dL_round_25 : decode cL_round 25 = .ok (.invokevirtual 76, 3) := by decide +kernel
theorem dL_round_28 : decode cL_round 28 = .ok (.istore 5, 2) := by decide +kernel
theorem dL_round_30 : decode cL_round 30 = .ok (.aload_n 0, 1) := by decide +kernel
theorem dL_round_31 : decode cL_round 31 = .ok (.invokevirtual 104, 3) := by decide +kernel
theorem dL_round_34 : decode cL_round 34 = .ok (.istore 6, 2) := by decide +kernel
theorem dL_round_36 : decode cL_round 36 = .ok (.aload_n 0, 1) := by decide +kernel
theorem dL_round_37 : decode cL_round 37 = .ok (.invokevirtual 73, 3) := by decide +kernel
theorem dL_round_40 : decode cL_round 40 = .ok (.istore 7, 2) := by decide +kernel
theorem dL_round_42 : decode cL_round 42 = .ok (.aload_n 0, 1) := by decide +kernel
theorem dL_round_43 : decode cL_round 43 = .ok (.bipush 32, 2) := by decide +kernel
theorem dL_round_45 : decode cL_round 45 = .ok (.invokevirtual 98, 3) := by decide +kernel
theorem dL_round_48 : decode cL_round 48 = .ok (.iload_n 2, 1) := by decide +kernel
theorem dL_round_49 : decode cL_round 49 = .ok (.if_icmp .ne 37, 3) := by decide +kernel
theorem dL_round_52 : decode cL_round 52 = .ok (.aload_n 0, 1) := by decide +kernel
theorem dL_round_53 : decode cL_round 53 = .ok (.invokevirtual 104, 3) := by decide +kernel
theorem dL_round_56 : decode cL_round 56 = .ok (.iload 6, 2) := by decide +kernel
theorem dL_round_58 : decode cL_round 58 = .ok (.iload_n 3, 1) := by decide +kernel
theorem dL_round_59 : decode cL_round 59 = .ok (.iadd, 1) := by decide +kernel
theorem dL_round_60 : decode cL_round 60 = .ok (.if_icmp .ne 26, 3) := by decide +kernel
theorem dL_round_63 : decode cL_round 63 = .ok (.aload_n 0, 1) := by decide +kernel
theorem dL_round_64 : decode cL_round 64 = .ok (.invokevirtual 73, 3) := by decide +kernel
theorem dL_round_67 : decode cL_round 67 = .ok (.iload 7, 2) := by decide +kernel
theorem dL_round_69 : decode cL_round 69 = .ok (.iload 4, 2) := by decide +kernel
theorem dL_round_71 : decode cL_round 71 = .ok (.iadd, 1) := by decide +kernel
theorem dL_round_72 : decode cL_round 72 = .ok (.if_icmp .ne 14, 3) := by decide +kernel
theorem dL_round_75 : decode cL_round 75 = .ok (.aload_n 0, 1) := by decide +kernel
theorem dL_round_76 : decode cL_round 76 = .ok (.invokevirtual 70, 3) := by decide +kernel
theorem dL_round_79 : decode cL_round 79 = .ok (.ifCond .ne 7, 3) := by decide +kernel
theorem dL_round_82 : decode cL_round 82 = .ok (.iconst 1, 1) := by decide +kernel
theorem dL_round_83 : decode cL_round 83 = .ok (.goto 4, 3) := by decide +kernel
theorem dL_round_86 : decode cL_round 86 = .ok (.iconst 0, 1) := by decide +kernel
theorem dL_round_87 : decode cL_round 87 = .ok (.istore 8, 2) := by decide +kernel
theorem dL_round_89 : decode cL_round 89 = .ok (.aload_n 0, 1) := by decide +kernel
theorem dL_round_90 : decode cL_round 90 = .ok (.invokevirtual 139, 3) := by decide +kernel
theorem dL_round_93 : decode cL_round 93 = .ok (.istore 9, 2) := by decide +kernel
theorem dL_round_95 : decode cL_round 95 = .ok (.iload 8, 2) := by decide +kernel
theorem dL_round_97 : decode cL_round 97 = .ok (.ifCond .eq 101, 3) := by decide +kernel
theorem dL_round_100 : decode cL_round 100 = .ok (.iload 9, 2) := by decide +kernel
theorem dL_round_102 : decode cL_round 102 = .ok (.iconst (-1), 1) := by decide +kernel
theorem dL_round_103 : decode cL_round 103 = .ok (.if_icmp .eq 95, 3) := by decide +kernel
theorem dL_round_106 : decode cL_round 106 = .ok (.aload_n 0, 1) := by decide +kernel
theorem dL_round_107 : decode cL_round 107 = .ok (.iload 9, 2) := by decide +kernel
theorem dL_round_109 : decode cL_round 109 = .ok (.invokevirtual 56, 3) := by decide +kernel
theorem dL_round_112 : decode cL_round 112 = .ok (.istore 10, 2) := by decide +kernel
theorem dL_round_114 : decode cL_round 114 = .ok (.aload_n 0, 1) := by decide +kernel
theorem dL_round_115 : decode cL_round 115 = .ok (.invokevirtual 76, 3) := by decide +kernel
theorem dL_round_118 : decode cL_round 118 = .ok (.istore 5, 2) := by decide +kernel
theorem dL_round_120 : decode cL_round 120 = .ok (.iload 10, 2) := by decide +kernel
theorem dL_round_122 : decode cL_round 122 = .ok (.ifCond .le 7, 3) := by decide +kernel
theorem dL_round_125 : decode cL_round 125 = .ok (.iconst 1, 1) := by decide +kernel
theorem dL_round_126 : decode cL_round 126 = .ok (.goto 4, 3) := by decide +kernel
theorem dL_round_129 : decode cL_round 129 = .ok (.iconst 0, 1) := by decide +kernel
theorem dL_round_130 : decode cL_round 130 = .ok (.istore 8, 2) := by decide +kernel
theorem dL_round_132 : decode cL_round 132 = .ok (.iconst 0, 1) := by decide +kernel
theorem dL_round_133 : decode cL_round 133 = .ok (.istore 11, 2) := by decide +kernel
theorem dL_round_135 : decode cL_round 135 = .ok (.iload 11, 2) := by decide +kernel
theorem dL_round_137 : decode cL_round 137 = .ok (.bipush 32, 2) := by decide +kernel
theorem dL_round_139 : decode cL_round 139 = .ok (.if_icmp .ge 59, 3) := by decide +kernel
theorem dL_round_142 : decode cL_round 142 = .ok (.iload 8, 2) := by decide +kernel
theorem dL_round_144 : decode cL_round 144 = .ok (.ifCond .eq 54, 3) := by decide +kernel
theorem dL_round_147 : decode cL_round 147 = .ok (.iconst 0, 1) := by decide +kernel
theorem dL_round_148 : decode cL_round 148 = .ok (.istore 12, 2) := by decide +kernel
theorem dL_round_150 : decode cL_round 150 = .ok (.iload 12, 2) := by decide +kernel
theorem dL_round_152 : decode cL_round 152 = .ok (.bipush 10, 2) := by decide +kernel
theorem dL_round_154 : decode cL_round 154 = .ok (.if_icmp .ge 31, 3) := by decide +kernel
theorem dL_round_157 : decode cL_round 157 = .ok (.iload 8, 2) := by decide +kernel
theorem dL_round_159 : decode cL_round 159 = .ok (.ifCond .eq 17, 3) := by decide +kernel
theorem dL_round_162 : decode cL_round 162 = .ok (.aload_n 0, 1) := by decide +kernel
theorem dL_round_163 : decode cL_round 163 = .ok (.iload 12, 2) := by decide +kernel
theorem dL_round_165 : decode cL_round 165 = .ok (.invokevirtual 114, 3) := by decide +kernel
theorem dL_round_168 : decode cL_round 168 = .ok (.iconst 2, 1) := by decide +kernel
theorem dL_round_169 : decode cL_round 169 = .ok (.if_icmp .eq 7, 3) := by decide +kernel
theorem dL_round_172 : decode cL_round 172 = .ok (.iconst 1, 1) := by decide +kernel
theorem dL_round_173 : decode cL_round 173 = .ok (.goto 4, 3) := by decide +kernel
theorem dL_round_176 : decode cL_round 176 = .ok (.iconst 0, 1) := by decide +kernel
theorem dL_round_177 : decode cL_round 177 = .ok (.istore 8, 2) := by decide +kernel
theorem dL_round_179 : decode cL_round 179 = .ok (.iinc 12 1, 3) := by decide +kernel
theorem dL_round_182 : decode cL_round 182 = .ok (.goto (-32), 3) := by decide +kernel
theorem dL_round_185 : decode cL_round 185 = .ok (.aload_n 0, 1) := by decide +kernel
theorem dL_round_186 : decode cL_round 186 = .ok (.iconst 1, 1) := by decide +kernel
theorem dL_round_187 : decode cL_round 187 = .ok (.invokevirtual 98, 3) := by decide +kernel
theorem dL_round_190 : decode cL_round 190 = .ok (.istore 5, 2) := by decide +kernel
theorem dL_round_192 : decode cL_round 192 = .ok (.iinc 11 1, 3) := by decide +kernel
theorem dL_round_195 : decode cL_round 195 = .ok (.goto (-60), 3) := by decide +kernel
theorem dL_round_198 : decode cL_round 198 = .ok (.iload 8, 2) := by decide +kernel
theorem dL_round_200 : decode cL_round 200 = .ok (.ifCond .eq 16, 3) := by decide +kernel
theorem dL_round_203 : decode cL_round 203 = .ok (.aload_n 0, 1) := by decide +kernel
theorem dL_round_204 : decode cL_round 204 = .ok (.iconst 0, 1) := by decide +kernel
theorem dL_round_205 : decode cL_round 205 = .ok (.invokevirtual 107, 3) := by decide +kernel
theorem dL_round_208 : decode cL_round 208 = .ok (.iload_n 1, 1) := by decide +kernel
theorem dL_round_209 : decode cL_round 209 = .ok (.if_icmp .ne 7, 3) := by decide +kernel
theorem dL_round_212 : decode cL_round 212 = .ok (.iconst 1, 1) := by decide +kernel
theorem dL_round_213 : decode cL_round 213 = .ok (.goto 4, 3) := by decide +kernel
theorem dL_round_216 : decode cL_round 216 = .ok (.iconst 0, 1) := by decide +kernel
theorem dL_round_217 : decode cL_round 217 = .ok (.ireturn, 1) := by decide +kernel
set_option maxRecDepth 20000 in
theorem ggL_law_X5_init : GoodIn wsL_law wsX5_init := goodIn_r _ [5, 6, 7, 8, 9, 10, 11, 12, 13, 14, 15, 16, 17, 18, 19, 20, 21, 22, 23, 24, 25, 26, 27, 28, 29, 30, 31, 32, 33, 34, 35, 36, 37, 38, 39, 40, 41, 42, 43, 44, 45, 46, 47, 48, 49, 50, 51, 52, 53, 54, 55, 56, 57, 58, 59, 60, 61, 62, 63, 64, 65, 66, 67, 68, 69, 70, 71, 72, 73, 74, 396, 397, 398, 399, 400, 401, 402, 403, 404, 405, 391, 392, 393, 394, 395, 406, 407, 408, 409, 410, 411, 412] (by decide +kernel) (by decide +kernel)
set_option maxRecDepth 20000 in
theorem gL_law_X5_init : GoodIn wsL_law (wsX5_init) := ggL_law_X5_init
set_option maxRecDepth 20000 in
theorem ggL_law_L_holds : GoodIn wsL_law wsL_holds := goodIn_ca (goodIn_r _ [78, 79, 80, 81, 2, 82, 12, 83, 84, 85, 86, 87, 88, 89, 16, 90, 91, 92, 93, 94, 95, 96, 97, 15, 98, 59, 99, 100, 57, 101, 102, 103, 37, 104, 48, 49, 50, 51, 52, 105, 106, 107, 108, 109, 110, 111, 112, 113, 114, 115, 116, 117, 118, 119, 120, 121, 122, 123, 124, 125, 126, 127, 128, 129, 130, 131, 132, 133, 134, 135, 136, 137, 138, 139, 140, 141, 142, 143, 144, 77, 145, 146, 147, 148, 149, 150, 151, 152, 153, 154, 155, 156, 157, 158, 159, 160, 11, 161, 31, 162, 163, 164, 165, 166, 167, 168, 169, 170, 171, 172, 173, 174, 175, 176, 177, 178, 179, 180, 181, 182, 183, 184, 185, 186, 187, 188, 189, 33, 190, 191, 192, 193, 194, 195, 196, 197, 32, 198, 199, 200, 201, 202, 203, 204, 205, 206, 207, 208, 209, 210, 34, 211, 212, 213, 214, 215, 391, 392, 393, 394, 395, 396, 397, 398, 399, 400, 401, 402, 403, 404, 405, 406, 407, 412] rfl (by decide +kernel)) (goodIn_sub (fun _ h => List.mem_append_left _ (List.mem_append_left _ (List.mem_append_left _ (List.mem_append_right _ h)))) (by decide +kernel))
set_option maxRecDepth 20000 in
theorem gL_law_L_holds : GoodIn wsL_law (va_wsS RL 143 yL_holds wsL_holds) := goodIn_app (goodIn_of _ (by decide +kernel)) ggL_law_L_holds
set_option maxRecDepth 20000 in
theorem ggL_law_X5_undoable : GoodIn wsL_law wsX5_undoable := goodIn_r _ [219, 24, 220, 391, 392, 393, 394, 395, 410, 411] (by decide +kernel) (by decide +kernel)
set_option maxRecDepth 20000 in
theorem gL_law_X5_undoable : GoodIn wsL_law (wsV RL 17 RX5 yX5_undoable wsX5_undoable) := goodIn_app (goodIn_of _ (by decide +kernel)) ggL_law_X5_undoable
set_option maxRecDepth 20000 in
theorem ggL_law_L_roll : GoodIn wsL_law wsL_roll := goodIn_ca (goodIn_r _ [223, 224, 138, 139, 140, 2, 141, 88, 89, 12, 142, 92, 93, 94, 391, 392, 393, 394, 395, 396, 397, 398, 399, 400, 401, 402, 403, 404, 405] (by decide +kernel) (by decide +kernel)) (goodIn_sub (fun _ h => List.mem_append_left _ (List.mem_append_left _ (List.mem_append_left _ (List.mem_append_right _ h)))) (by decide +kernel))
set_option maxRecDepth 20000 in
theorem gL_law_L_roll : GoodIn wsL_law (va_wsS RL 82 yL_roll wsL_roll) := goodIn_app (goodIn_of _ (by decide +kernel)) ggL_law_L_roll
set_option maxRecDepth 20000 in
theorem ggL_law_X5_time : GoodIn wsL_law wsX5_time := goodIn_r _ [214, 12, 215, 391, 392, 393, 394, 395, 396, 397, 398, 399, 400, 401, 402, 403, 404, 405] (by decide +kernel) (by decide +kernel)
set_option maxRecDepth 20000 in
theorem gL_law_X5_time : GoodIn wsL_law (wsV RL 73 RX5 yX5_time wsX5_time) := goodIn_app (goodIn_of _ (by decide +kernel)) ggL_law_X5_time
set_option maxRecDepth 20000 in
theorem ggL_law_X5_save : GoodIn wsL_law wsX5_save := goodIn_ca (goodIn_r _ [228, 88, 89, 25, 9, 10, 11, 12, 229, 230, 2, 231, 26, 27, 28, 29, 7, 8, 30, 31, 32, 33, 34, 35, 36, 37, 38, 39, 40, 41, 42, 43, 44, 45, 46, 47, 48, 49, 50, 51, 52, 53, 232, 233, 234, 235, 236, 237, 238, 239, 240, 241, 242, 243, 244, 158, 159, 160, 161, 162, 124, 125, 126, 127, 128, 129, 391, 392, 393, 394, 395, 396, 397, 398, 399, 400, 401, 402, 403, 404, 405, 412] (by decide +kernel) (by decide +kernel)) (goodIn_sub (fun _ h => List.mem_append_left _ (List.mem_append_left _ (List.mem_append_left _ (List.mem_append_right _ h)))) (by decide +kernel))
set_option maxRecDepth 20000 in
theorem gL_law_X5_save : GoodIn wsL_law (wsV RL 95 RX5 yX5_save wsX5_save) := goodIn_app (goodIn_of _ (by decide +kernel)) ggL_law_X5_save
set_option maxRecDepth 20000 in
theorem ggL_law_L_cell : GoodIn wsL_law wsL_cell := goodIn_r _ [247, 248] (by decide +kernel) (by decide +kernel)
set_option maxRecDepth 20000 in
theorem gL_law_L_cell : GoodIn wsL_law (va_wsS RL 146 yL_cell wsL_cell) := goodIn_app (goodIn_of _ (by decide +kernel)) ggL_law_L_cell
set_option maxRecDepth 20000 in
theorem ggL_law_L_low : GoodIn wsL_law wsL_low := goodIn_r _ [251, 252] (by decide +kernel) (by decide +kernel)
set_option maxRecDepth 20000 in
theorem gL_law_L_low : GoodIn wsL_law (va_wsS RL 24 yL_low wsL_low) := goodIn_app (goodIn_of _ (by decide +kernel)) ggL_law_L_low
set_option maxRecDepth 20000 in
theorem ggL_law_L_change : GoodIn wsL_law wsL_change := goodIn_ca (goodIn_ca (goodIn_ca (goodIn_ca (goodIn_r _ [255, 216, 217, 218, 2, 219, 24, 220, 154, 155, 156, 157, 12, 158, 159, 160, 11, 161, 31, 162, 124, 125, 126, 127, 128, 129, 249, 250, 77, 251, 252, 138, 139, 140, 141, 88, 89, 142, 92, 93, 94, 256, 257, 258, 259, 135, 136, 137, 260, 261, 262, 23, 263, 73, 72, 264, 265, 266, 267, 268, 233, 234, 235, 236, 237, 238, 239, 32, 33, 34, 38, 39, 40, 41, 42, 43, 240, 241, 242, 37, 243, 48, 244, 269, 109, 110, 270, 271, 272, 273, 274, 275, 276, 277, 278, 279, 143, 144, 145, 280, 281, 282, 283, 284, 285, 286, 287, 190, 191, 192, 193, 194, 195, 196, 197, 198, 199, 200, 201, 288, 289, 290, 291, 130, 131, 132, 133, 134, 292, 293, 294, 295, 296, 297, 298, 299, 90, 300, 301, 302, 221, 222, 223, 224, 303, 304, 305, 306, 307, 308, 309, 310, 311, 312, 313, 314, 315, 316, 232, 317, 318, 319, 320, 321, 322, 323, 324, 325, 326, 327, 79, 80, 81, 82, 83, 211, 212, 213, 214, 215, 328, 329, 330, 331, 332, 333, 102, 103, 104, 49, 50, 51, 52, 334, 335, 336, 225, 226, 227, 228, 25, 9, 10, 229, 230, 231, 26, 27, 28, 29, 7, 8, 30, 35, 36, 44, 45, 46, 47, 53, 337, 338, 339, 340, 341, 342, 343, 344, 345, 346, 347, 348, 349, 350, 351, 352, 353, 106, 107, 108, 111, 112, 113, 114, 354, 116, 117, 118, 119, 120, 121, 122, 355, 356, 357, 358, 202, 203, 204, 205, 206, 207, 208, 209, 210, 359, 360, 361, 362, 363, 364, 365, 366, 367, 368, 369, 370, 371, 372, 373, 374, 375, 376, 377, 378, 379, 380, 381, 382, 383, 391, 392, 393, 394, 395, 410, 411, 396, 397, 398, 399, 400, 401, 402, 403, 404, 405, 412] rfl (by decide +kernel)) (goodIn_sub (fun _ h => List.mem_append_left _ (List.mem_append_left _ (List.mem_append_left _ (List.mem_append_right _ h)))) (by decide +kernel))) (goodIn_sub (fun _ h => List.mem_append_left _ (List.mem_append_left _ (List.mem_append_right _ h))) (by decide +kernel))) (goodIn_sub (fun _ h => List.mem_append_left _ (List.mem_append_right _ h)) (by decide +kernel))) (goodIn_sub (fun _ h => List.mem_append_right _ h) (by decide +kernel))
set_option maxRecDepth 20000 in
theorem gL_law_L_change : GoodIn wsL_law (va_wsS RL 150 yL_change wsL_change) := goodIn_app (goodIn_of _ (by decide +kernel)) ggL_law_L_change
set_option maxRecDepth 20000 in
theorem ggL_law_X5_restore : GoodIn wsL_law wsX5_restore := goodIn_ca (goodIn_ca (goodIn_r _ [367, 88, 89, 368, 316, 25, 24, 12, 229, 230, 2, 231, 260, 261, 262, 23, 263, 73, 72, 264, 265, 266, 267, 268, 233, 234, 11, 235, 31, 236, 237, 238, 239, 32, 33, 34, 38, 39, 40, 41, 42, 43, 240, 241, 242, 37, 243, 48, 244, 232, 158, 159, 160, 161, 162, 124, 125, 126, 127, 128, 129, 391, 392, 393, 394, 395, 410, 411, 396, 397, 398, 399, 400, 401, 402, 403, 404, 405, 412] (by decide +kernel) (by decide +kernel)) (goodIn_sub (fun _ h => List.mem_append_left _ (List.mem_append_left _ (List.mem_append_left _ (List.mem_append_right _ h)))) (by decide +kernel))) (goodIn_sub (fun _ h => List.mem_append_right _ h) (by decide +kernel))
set_option maxRecDepth 20000 in
theorem gL_law_X5_restore : GoodIn wsL_law (wsV RL 107 RX5 yX5_restore wsX5_restore) := goodIn_app (goodIn_of _ (by decide +kernel)) ggL_law_X5_restore
set_option maxRecDepth 20000 in
theorem ggL_law_X5_undo : GoodIn wsL_law wsX5_undo := goodIn_ca (goodIn_r _ [310, 12, 24, 220, 311, 312, 313, 23, 314, 315, 316, 73, 72, 232, 233, 234, 11, 235, 31, 236, 237, 238, 239, 32, 33, 34, 38, 39, 40, 41, 42, 43, 240, 241, 242, 37, 243, 48, 244, 391, 392, 393, 394, 395, 410, 411, 396, 397, 398, 399, 400, 401, 402, 403, 404, 405, 412] (by decide +kernel) (by decide +kernel)) (goodIn_sub (fun _ h => List.mem_append_left _ (List.mem_append_right _ h)) (by decide +kernel))
set_option maxRecDepth 20000 in
theorem gL_law_X5_undo : GoodIn wsL_law (wsV RL 89 RX5 yX5_undo wsX5_undo) := goodIn_app (goodIn_of _ (by decide +kernel)) ggL_law_X5_undo
set_option maxRecDepth 20000 in
theorem ggL_law_L_round : GoodIn wsL_law wsL_round := goodIn_ca (goodIn_ca (goodIn_ca (goodIn_r _ [386, 225, 226, 227, 2, 228, 88, 89, 25, 9, 10, 11, 12, 229, 230, 231, 26, 27, 28, 29, 7, 8, 30, 31, 32, 33, 34, 35, 36, 37, 38, 39, 40, 41, 42, 43, 44, 45, 46, 47, 48, 49, 50, 51, 52, 53, 232, 233, 234, 235, 236, 237, 238, 239, 240, 241, 242, 243, 244, 158, 159, 160, 161, 162, 124, 125, 126, 127, 128, 129, 163, 164, 165, 166, 16, 90, 95, 96, 97, 15, 98, 59, 99, 100, 57, 101, 102, 103, 104, 105, 106, 107, 108, 109, 110, 111, 112, 113, 114, 115, 116, 117, 118, 119, 120, 121, 122, 123, 167, 168, 169, 170, 171, 172, 173, 174, 190, 191, 192, 193, 194, 195, 196, 197, 198, 199, 200, 201, 328, 329, 330, 331, 24, 83, 332, 260, 261, 262, 23, 263, 73, 72, 264, 265, 266, 267, 268, 333, 359, 360, 361, 362, 363, 211, 212, 213, 214, 215, 337, 338, 339, 340, 274, 275, 341, 342, 343, 344, 345, 346, 347, 348, 349, 350, 351, 352, 353, 354, 355, 356, 357, 358, 79, 80, 81, 82, 387, 388, 389, 390, 91, 179, 180, 181, 186, 187, 188, 189, 296, 297, 298, 299, 373, 374, 375, 376, 142, 134, 135, 136, 137, 269, 377, 378, 364, 365, 366, 367, 368, 316, 391, 392, 393, 394, 395, 396, 397, 398, 399, 400, 401, 402, 403, 404, 405, 412, 406, 407, 410, 411] rfl (by decide +kernel)) (goodIn_sub (fun _ h => List.mem_append_left _ (List.mem_append_left _ (List.mem_append_left _ (List.mem_append_right _ h)))) (by decide +kernel))) (goodIn_sub (fun _ h => List.mem_append_left _ (List.mem_append_left _ (List.mem_append_right _ h))) (by decide +kernel))) (goodIn_sub (fun _ h => List.mem_append_right _ h) (by decide +kernel))
set_option maxRecDepth 20000 in
theorem gL_law_L_round : GoodIn wsL_law (va_wsS RL 154 yL_round wsL_round) := goodIn_app (goodIn_of _ (by decide +kernel)) ggL_law_L_round
theorem dL_law_0 : decode cL_law 0 = .ok (.new 12, 3) := by decide +kernel
theorem dL_law_3 : decode cL_law 3 = .ok (.dup, 1) := by decide +kernel
theorem dL_law_4 : decode cL_law 4 = .ok (.invokespecial 142, 3) := by decide +kernel
theorem dL_law_7 : decode cL_law 7 = .ok (.astore_n 1, 1) := by decide +kernel
theorem dL_law_8 : decode cL_law 8 = .ok (.aload_n 1, 1) := by decide +kernel
theorem dL_law_9 : decode cL_law 9 = .ok (.invokestatic 143, 3) := by decide +kernel
theorem dL_law_12 : decode cL_law 12 = .ok (.ifCond .eq 14, 3) := by decide +kernel
theorem dL_law_15 : decode cL_law 15 = .ok (.aload_n 1, 1) := by decide +kernel
theorem dL_law_16 : decode cL_law 16 = .ok (.invokevirtual 17, 3) := by decide +kernel
theorem dL_law_19 : decode cL_law 19 = .ok (.ifCond .ne 7, 3) := by decide +kernel
theorem dL_law_22 : decode cL_law 22 = .ok (.iconst 1, 1) := by decide +kernel
theorem dL_law_23 : decode cL_law 23 = .ok (.goto 4, 3) := by decide +kernel
theorem dL_law_26 : decode cL_law 26 = .ok (.iconst 0, 1) := by decide +kernel
theorem dL_law_27 : decode cL_law 27 = .ok (.istore_n 2, 1) := by decide +kernel
theorem dL_law_28 : decode cL_law 28 = .ok (.aload_n 0, 1) := by decide +kernel
theorem dL_law_29 : decode cL_law 29 = .ok (.arraylength, 1) := by decide +kernel
theorem dL_law_30 : decode cL_law 30 = .ok (.iconst 3, 1) := by decide +kernel
theorem dL_law_31 : decode cL_law 31 = .ok (.idiv, 1) := by decide +kernel
theorem dL_law_32 : decode cL_law 32 = .ok (.bipush 24, 2) := by decide +kernel
theorem dL_law_34 : decode cL_law 34 = .ok (.if_icmp .le 8, 3) := by decide +kernel
theorem dL_law_37 : decode cL_law 37 = .ok (.bipush 24, 2) := by decide +kernel
theorem dL_law_39 : decode cL_law 39 = .ok (.goto 7, 3) := by decide +kernel
theorem dL_law_42 : decode cL_law 42 = .ok (.aload_n 0, 1) := by decide +kernel
theorem dL_law_43 : decode cL_law 43 = .ok (.arraylength, 1) := by decide +kernel
theorem dL_law_44 : decode cL_law 44 = .ok (.iconst 3, 1) := by decide +kernel
theorem dL_law_45 : decode cL_law 45 = .ok (.idiv, 1) := by decide +kernel
theorem dL_law_46 : decode cL_law 46 = .ok (.istore_n 3, 1) := by decide +kernel
theorem dL_law_47 : decode cL_law 47 = .ok (.iconst 0, 1) := by decide +kernel
theorem dL_law_48 : decode cL_law 48 = .ok (.istore 4, 2) := by decide +kernel
theorem dL_law_50 : decode cL_law 50 = .ok (.iload 4, 2) := by decide +kernel
theorem dL_law_52 : decode cL_law 52 = .ok (.iload_n 3, 1) := by decide +kernel
theorem dL_law_53 : decode cL_law 53 = .ok (.if_icmp .ge 177, 3) := by decide +kernel
theorem dL_law_56 : decode cL_law 56 = .ok (.iload_n 2, 1) := by decide +kernel
theorem dL_law_57 : decode cL_law 57 = .ok (.ifCond .eq 173, 3) := by decide +kernel
theorem dL_law_60 : decode cL_law 60 = .ok (.aload_n 1, 1) := by decide +kernel
theorem dL_law_61 : decode cL_law 61 = .ok (.invokestatic 82, 3) := by decide +kernel
theorem dL_law_64 : decode cL_law 64 = .ok (.lstore 5, 2) := by decide +kernel
theorem dL_law_66 : decode cL_law 66 = .ok (.aload_n 1, 1) := by decide +kernel
theorem dL_law_67 : decode cL_law 67 = .ok (.invokevirtual 73, 3) := by decide +kernel
theorem dL_law_70 : decode cL_law 70 = .ok (.istore 7, 2) := by decide +kernel
theorem dL_law_72 : decode cL_law 72 = .ok (.aload_n 1, 1) := by decide +kernel
theorem dL_law_73 : decode cL_law 73 = .ok (.iconst 0, 1) := by decide +kernel
theorem dL_law_74 : decode cL_law 74 = .ok (.invokevirtual 95, 3) := by decide +kernel
theorem dL_law_77 : decode cL_law 77 = .ok (.istore 8, 2) := by decide +kernel
theorem dL_law_79 : decode cL_law 79 = .ok (.iload 4, 2) := by decide +kernel
theorem dL_law_81 : decode cL_law 81 = .ok (.iconst 3, 1) := by decide +kernel
theorem dL_law_82 : decode cL_law 82 = .ok (.if_icmp .ge 7, 3) := by decide +kernel
theorem dL_law_85 : decode cL_law 85 = .ok (.iconst 1, 1) := by decide +kernel
theorem dL_law_86 : decode cL_law 86 = .ok (.goto 16, 3) := by decide +kernel
theorem dL_law_89 : decode cL_law 89 = .ok (.aload_n 0, 1) := by decide +kernel
theorem dL_law_90 : decode cL_law 90 = .ok (.iconst 3, 1) := by decide +kernel
theorem dL_law_91 : decode cL_law 91 = .ok (.iload 4, 2) := by decide +kernel
theorem dL_law_93 : decode cL_law 93 = .ok (.imul, 1) := by decide +kernel
theorem dL_law_94 : decode cL_law 94 = .ok (.invokestatic 146, 3) := by decide +kernel
theorem dL_law_97 : decode cL_law 97 = .ok (.bipush 13, 2) := by decide +kernel
theorem dL_law_99 : decode cL_law 99 = .ok (.invokestatic 24, 3) := by decide +kernel
theorem dL_law_102 : decode cL_law 102 = .ok (.istore 9, 2) := by decide +kernel
theorem dL_law_104 : decode cL_law 104 = .ok (.aload_n 1, 1) := by decide +kernel
theorem dL_law_105 : decode cL_law 105 = .ok (.iload 9, 2) := by decide +kernel
theorem dL_law_107 : decode cL_law 107 = .ok (.aload_n 0, 1) := by decide +kernel
theorem dL_law_108 : decode cL_law 108 = .ok (.iconst 3, 1) := by decide +kernel
theorem dL_law_109 : decode cL_law 109 = .ok (.iload 4, 2) := by decide +kernel
theorem dL_law_111 : decode cL_law 111 = .ok (.imul, 1) := by decide +kernel
theorem dL_law_112 : decode cL_law 112 = .ok (.iconst 1, 1) := by decide +kernel
theorem dL_law_113 : decode cL_law 113 = .ok (.iadd, 1) := by decide +kernel
theorem dL_law_114 : decode cL_law 114 = .ok (.invokestatic 146, 3) := by decide +kernel
theorem dL_law_117 : decode cL_law 117 = .ok (.aload_n 0, 1) := by decide +kernel
theorem dL_law_118 : decode cL_law 118 = .ok (.iconst 3, 1) := by decide +kernel
theorem dL_law_119 : decode cL_law 119 = .ok (.iload 4, 2) := by decide +kernel
theorem dL_law_121 : decode cL_law 121 = .ok (.imul, 1) := by decide +kernel
theorem dL_law_122 : decode cL_law 122 = .ok (.iconst 2, 1) := by decide +kernel
theorem dL_law_123 : decode cL_law 123 = .ok (.iadd, 1) := by decide +kernel
theorem dL_law_124 : decode cL_law 124 = .ok (.invokestatic 146, 3) := by decide +kernel
theorem dL_law_127 : decode cL_law 127 = .ok (.invokestatic 150, 3) := by decide +kernel
theorem dL_law_130 : decode cL_law 130 = .ok (.ifCond .eq 14, 3) := by decide +kernel
theorem dL_law_133 : decode cL_law 133 = .ok (.aload_n 1, 1) := by decide +kernel
theorem dL_law_134 : decode cL_law 134 = .ok (.invokestatic 143, 3) := by decide +kernel
theorem dL_law_137 : decode cL_law 137 = .ok (.ifCond .eq 7, 3) := by decide +kernel
theorem dL_law_140 : decode cL_law 140 = .ok (.iconst 1, 1) := by decide +kernel
theorem dL_law_141 : decode cL_law 141 = .ok (.goto 4, 3) := by decide +kernel
theorem dL_law_144 : decode cL_law 144 = .ok (.iconst 0, 1) := by decide +kernel
theorem dL_law_145 : decode cL_law 145 = .ok (.istore_n 2, 1) := by decide +kernel
theorem dL_law_146 : decode cL_law 146 = .ok (.iload_n 2, 1) := by decide +kernel
theorem dL_law_147 : decode cL_law 147 = .ok (.ifCond .eq 77, 3) := by decide +kernel
theorem dL_law_150 : decode cL_law 150 = .ok (.iload 4, 2) := by decide +kernel
theorem dL_law_152 : decode cL_law 152 = .ok (.bipush 6, 2) := by decide +kernel
theorem dL_law_154 : decode cL_law 154 = .ok (.irem, 1) := by decide +kernel
theorem dL_law_155 : decode cL_law 155 = .ok (.iconst 5, 1) := by decide +kernel
theorem dL_law_156 : decode cL_law 156 = .ok (.if_icmp .ne 68, 3) := by decide +kernel
theorem dL_law_159 : decode cL_law 159 = .ok (.aload_n 1, 1) := by decide +kernel
theorem dL_law_160 : decode cL_law 160 = .ok (.invokestatic 82, 3) := by decide +kernel
theorem dL_law_163 : decode cL_law 163 = .ok (.lstore 10, 2) := by decide +kernel
theorem dL_law_165 : decode cL_law 165 = .ok (.aload_n 1, 1) := by decide +kernel
theorem dL_law_166 : decode cL_law 166 = .ok (.iconst 0, 1) := by decide +kernel
theorem dL_law_167 : decode cL_law 167 = .ok (.invokevirtual 107, 3) := by decide +kernel
theorem dL_law_170 : decode cL_law 170 = .ok (.iload 8, 2) := by decide +kernel
theorem dL_law_172 : decode cL_law 172 = .ok (.if_icmp .ne 50, 3) := by decide +kernel
theorem dL_law_175 : decode cL_law 175 = .ok (.aload_n 1, 1) := by decide +kernel
theorem dL_law_176 : decode cL_law 176 = .ok (.invokestatic 82, 3) := by decide +kernel
theorem dL_law_179 : decode cL_law 179 = .ok (.lload 5, 2) := by decide +kernel
theorem dL_law_181 : decode cL_law 181 = .ok (.lcmp, 1) := by decide +kernel
theorem dL_law_182 : decode cL_law 182 = .ok (.ifCond .ne 40, 3) := by decide +kernel
theorem dL_law_185 : decode cL_law 185 = .ok (.aload_n 1, 1) := by decide +kernel
theorem dL_law_186 : decode cL_law 186 = .ok (.invokevirtual 73, 3) := by decide +kernel
theorem dL_law_189 : decode cL_law 189 = .ok (.iload 7, 2) := by decide +kernel
theorem dL_law_191 : decode cL_law 191 = .ok (.if_icmp .ne 31, 3) := by decide +kernel
theorem dL_law_194 : decode cL_law 194 = .ok (.aload_n 1, 1) := by decide +kernel
theorem dL_law_195 : decode cL_law 195 = .ok (.invokevirtual 89, 3) := by decide +kernel
theorem dL_law_198 : decode cL_law 198 = .ok (.ifCond .lt 24, 3) := by decide +kernel
theorem dL_law_201 : decode cL_law 201 = .ok (.aload_n 1, 1) := by decide +kernel
theorem dL_law_202 : decode cL_law 202 = .ok (.invokestatic 82, 3) := by decide +kernel
theorem dL_law_205 : decode cL_law 205 = .ok (.lload 10, 2) := by decide +kernel
theorem dL_law_207 : decode cL_law 207 = .ok (.lcmp, 1) := by decide +kernel
theorem dL_law_208 : decode cL_law 208 = .ok (.ifCond .ne 14, 3) := by decide +kernel
theorem dL_law_211 : decode cL_law 211 = .ok (.aload_n 1, 1) := by decide +kernel
theorem dL_law_212 : decode cL_law 212 = .ok (.invokestatic 154, 3) := by decide +kernel
theorem dL_law_215 : decode cL_law 215 = .ok (.ifCond .eq 7, 3) := by decide +kernel
theorem dL_law_218 : decode cL_law 218 = .ok (.iconst 1, 1) := by decide +kernel
theorem dL_law_219 : decode cL_law 219 = .ok (.goto 4, 3) := by decide +kernel
theorem dL_law_222 : decode cL_law 222 = .ok (.iconst 0, 1) := by decide +kernel
theorem dL_law_223 : decode cL_law 223 = .ok (.istore_n 2, 1) := by decide +kernel
theorem dL_law_224 : decode cL_law 224 = .ok (.iinc 4 1, 3) := by decide +kernel
theorem dL_law_227 : decode cL_law 227 = .ok (.goto (-177), 3) := by decide +kernel
theorem dL_law_230 : decode cL_law 230 = .ok (.iload_n 2, 1) := by decide +kernel
theorem dL_law_231 : decode cL_law 231 = .ok (.ireturn, 1) := by decide +kernel
