set_option maxRecDepth 20000 in
theorem ggX5_undo_X0_copyFrom : GoodIn wsX5_undo wsX0_copyFrom := goodIn_r _ [17, 18, 19, 20, 21, 22, 23, 24, 25, 26, 27, 28, 29, 30, 31, 32, 33, 34, 35, 36, 37, 38, 46, 47, 48, 49, 50, 51, 52, 53, 54, 55, 56] (by decide +kernel) (by decide +kernel)
set_option maxRecDepth 20000 in
theorem gX5_undo_X0_copyFrom : GoodIn wsX5_undo (wsV RX5 213 RX0 yX0_copyFrom wsX0_copyFrom) := goodIn_app (goodIn_of _ (by decide +kernel)) ggX5_undo_X0_copyFrom
theorem dX5_undo_0 : decode cX5_undo 0 = .ok (.aload_n 0, 1) := by decide +kernel
theorem dX5_undo_1 : decode cX5_undo 1 = .ok (.getfield 10, 3) := by decide +kernel
theorem dX5_undo_4 : decode cX5_undo 4 = .ok (.aload_n 0, 1) := by decide +kernel
theorem dX5_undo_5 : decode cX5_undo 5 = .ok (.getfield 33, 3) := by decide +kernel
theorem dX5_undo_8 : decode cX5_undo 8 = .ok (.invokevirtual 209, 3) := by decide +kernel
theorem dX5_undo_11 : decode cX5_undo 11 = .ok (.invokevirtual 213, 3) := by decide +kernel
theorem dX5_undo_14 : decode cX5_undo 14 = .ok (.aload_n 0, 1) := by decide +kernel
theorem dX5_undo_15 : decode cX5_undo 15 = .ok (.getfield 33, 3) := by decide +kernel
theorem dX5_undo_18 : decode cX5_undo 18 = .ok (.getfield 217, 3) := by decide +kernel
theorem dX5_undo_21 : decode cX5_undo 21 = .ok (.ireturn, 1) := by decide +kernel
theorem dX5_undoable_0 : decode cX5_undoable 0 = .ok (.aload_n 0, 1) := by decide +kernel
theorem dX5_undoable_1 : decode cX5_undoable 1 = .ok (.getfield 33, 3) := by decide +kernel
theorem dX5_undoable_4 : decode cX5_undoable 4 = .ok (.getfield 217, 3) := by decide +kernel
theorem dX5_undoable_7 : decode cX5_undoable 7 = .ok (.ireturn, 1) := by decide +kernel
set_option maxRecDepth 20000 in
theorem ggX5_save_X5_isSlot : GoodIn wsX5_save wsX5_isSlot := goodIn_r _ [11] (by decide +kernel) (by decide +kernel)
set_option maxRecDepth 20000 in
theorem gX5_save_X5_isSlot : GoodIn wsX5_save (va_wsS RX5 220 yX5_isSlot wsX5_isSlot) := goodIn_app (goodIn_of _ (by decide +kernel)) ggX5_save_X5_isSlot
set_option maxRecDepth 20000 in
theorem ggX5_save_X0_init : GoodIn wsX5_save wsX0_init := goodIn_r _ [14, 15, 16, 17, 18, 19, 20, 21, 22, 23, 24, 25, 26, 27, 28, 29, 30, 31, 32, 33, 34, 35, 36, 37, 38, 39, 40, 41, 71, 72, 73, 74, 75, 76, 77, 78, 79, 80, 81] (by decide +kernel) (by decide +kernel)
set_option maxRecDepth 20000 in
theorem gX5_save_X0_init : GoodIn wsX5_save (wsX0_init) := ggX5_save_X0_init
set_option maxRecDepth 20000 in
theorem ggX5_save_X0_copyFrom : GoodIn wsX5_save wsX0_copyFrom := goodIn_r _ [45, 19, 46, 47, 48, 49, 20, 21, 22, 26, 27, 28, 29, 30, 31, 50, 51, 52, 25, 53, 36, 54, 71, 72, 73, 74, 75, 76, 77, 78, 79, 80, 81] (by decide +kernel) (by decide +kernel)
set_option maxRecDepth 20000 in
theorem gX5_save_X0_copyFrom : GoodIn wsX5_save (wsV RX5 213 RX0 yX0_copyFrom wsX0_copyFrom) := goodIn_app (goodIn_of _ (by decide +kernel)) ggX5_save_X0_copyFrom
set_option maxRecDepth 20000 in
theorem ggX5_save_X0_countPegs : GoodIn wsX5_save wsX0_countPegs := goodIn_r _ [58, 19, 59, 60, 61, 62, 63, 64, 65, 71, 72, 73, 74, 75, 76, 77, 78, 79, 80] (by decide +kernel) (by decide +kernel)
set_option maxRecDepth 20000 in
theorem gX5_save_X0_countPegs : GoodIn wsX5_save (wsV RX5 141 RX0 yX0_countPegs wsX0_countPegs) := goodIn_app (goodIn_of _ (by decide +kernel)) ggX5_save_X0_countPegs
theorem dX5_save_0 : decode cX5_save 0 = .ok (.iload_n 1, 1) := by decide +kernel
theorem dX5_save_1 : decode cX5_save 1 = .ok (.invokestatic 220, 3) := by decide +kernel
theorem dX5_save_4 : decode cX5_save 4 = .ok (.ifCond .ne 13, 3) := by decide +kernel
theorem dX5_save_7 : decode cX5_save 7 = .ok (.new 48, 3) := by decide +kernel
theorem dX5_save_10 : decode cX5_save 10 = .ok (.dup, 1) := by decide +kernel
theorem dX5_save_11 : decode cX5_save 11 = .ok (.ldc 223, 2) := by decide +kernel
theorem dX5_save_13 : decode cX5_save 13 = .ok (.invokespecial 52, 3) := by decide +kernel
theorem dX5_save_16 : decode cX5_save 16 = .ok (.athrow, 1) := by decide +kernel
theorem dX5_save_17 : decode cX5_save 17 = .ok (.aload_n 0, 1) := by decide +kernel
theorem dX5_save_18 : decode cX5_save 18 = .ok (.getfield 37, 3) := by decide +kernel
theorem dX5_save_21 : decode cX5_save 21 = .ok (.iload_n 1, 1) := by decide +kernel
theorem dX5_save_22 : decode cX5_save 22 = .ok (.aaload, 1) := by decide +kernel
theorem dX5_save_23 : decode cX5_save 23 = .ok (.astore_n 2, 1) := by decide +kernel
theorem dX5_save_24 : decode cX5_save 24 = .ok (.aload_n 2, 1) := by decide +kernel
theorem dX5_save_25 : decode cX5_save 25 = .ok (.ifnonnull 18, 3) := by decide +kernel
theorem dX5_save_28 : decode cX5_save 28 = .ok (.new 7, 3) := by decide +kernel
theorem dX5_save_31 : decode cX5_save 31 = .ok (.dup, 1) := by decide +kernel
theorem dX5_save_32 : decode cX5_save 32 = .ok (.invokespecial 9, 3) := by decide +kernel
theorem dX5_save_35 : decode cX5_save 35 = .ok (.astore_n 2, 1) := by decide +kernel
theorem dX5_save_36 : decode cX5_save 36 = .ok (.aload_n 0, 1) := by decide +kernel
theorem dX5_save_37 : decode cX5_save 37 = .ok (.getfield 37, 3) := by decide +kernel
theorem dX5_save_40 : decode cX5_save 40 = .ok (.iload_n 1, 1) := by decide +kernel
theorem dX5_save_41 : decode cX5_save 41 = .ok (.aload_n 2, 1) := by decide +kernel
theorem dX5_save_42 : decode cX5_save 42 = .ok (.aastore, 1) := by decide +kernel
theorem dX5_save_43 : decode cX5_save 43 = .ok (.aload_n 2, 1) := by decide +kernel
theorem dX5_save_44 : decode cX5_save 44 = .ok (.aload_n 0, 1) := by decide +kernel
theorem dX5_save_45 : decode cX5_save 45 = .ok (.getfield 10, 3) := by decide +kernel
theorem dX5_save_48 : decode cX5_save 48 = .ok (.invokevirtual 213, 3) := by decide +kernel
theorem dX5_save_51 : decode cX5_save 51 = .ok (.aload_n 0, 1) := by decide +kernel
theorem dX5_save_52 : decode cX5_save 52 = .ok (.getfield 10, 3) := by decide +kernel
theorem dX5_save_55 : decode cX5_save 55 = .ok (.invokevirtual 141, 3) := by decide +kernel
theorem dX5_save_58 : decode cX5_save 58 = .ok (.ireturn, 1) := by decide +kernel
set_option maxRecDepth 20000 in
theorem ggX5_restore_X5_isSlot : GoodIn wsX5_restore wsX5_isSlot := goodIn_r _ [11] (by decide +kernel) (by decide +kernel)
set_option maxRecDepth 20000 in
theorem gX5_restore_X5_isSlot : GoodIn wsX5_restore (va_wsS RX5 220 yX5_isSlot wsX5_isSlot) := goodIn_app (goodIn_of _ (by decide +kernel)) ggX5_restore_X5_isSlot
set_option maxRecDepth 20000 in
theorem ggX5_restore_X2_add : GoodIn wsX5_restore wsX2_add := goodIn_r _ [16, 17, 18, 19, 20, 21, 15, 22, 23, 24, 25, 26, 27, 28, 29, 30, 31, 32, 33, 34, 35, 36, 37, 38, 39, 40, 41, 42, 43, 44, 45, 46, 47, 48, 66, 67, 68, 69, 70, 71, 72, 73, 74, 75, 76, 77, 78] (by decide +kernel) (by decide +kernel)
set_option maxRecDepth 20000 in
theorem gX5_restore_X2_add : GoodIn wsX5_restore (wsV RX5 55 RX2 yX2_add wsX2_add) := goodIn_app (goodIn_of _ (by decide +kernel)) ggX5_restore_X2_add
set_option maxRecDepth 20000 in
theorem ggX5_restore_X0_copyFrom : GoodIn wsX5_restore wsX0_copyFrom := goodIn_r _ [27, 28, 29, 30, 31, 32, 33, 34, 35, 36, 37, 38, 39, 40, 41, 42, 43, 44, 45, 46, 47, 48, 68, 69, 70, 71, 72, 73, 74, 75, 76, 77, 78] (by decide +kernel) (by decide +kernel)
set_option maxRecDepth 20000 in
theorem gX5_restore_X0_copyFrom : GoodIn wsX5_restore (wsV RX5 213 RX0 yX0_copyFrom wsX0_copyFrom) := goodIn_app (goodIn_of _ (by decide +kernel)) ggX5_restore_X0_copyFrom
set_option maxRecDepth 20000 in
theorem ggX5_restore_X0_countPegs : GoodIn wsX5_restore wsX0_countPegs := goodIn_r _ [53, 28, 54, 55, 56, 57, 58, 59, 60, 68, 69, 70, 71, 72, 73, 74, 75, 76, 77] (by decide +kernel) (by decide +kernel)
set_option maxRecDepth 20000 in
theorem gX5_restore_X0_countPegs : GoodIn wsX5_restore (wsV RX5 141 RX0 yX0_countPegs wsX0_countPegs) := goodIn_app (goodIn_of _ (by decide +kernel)) ggX5_restore_X0_countPegs
theorem dX5_restore_0 : decode cX5_restore 0 = .ok (.iload_n 1, 1) := by decide +kernel
theorem dX5_restore_1 : decode cX5_restore 1 = .ok (.invokestatic 220, 3) := by decide +kernel
theorem dX5_restore_4 : decode cX5_restore 4 = .ok (.ifCond .ne 13, 3) := by decide +kernel
theorem dX5_restore_7 : decode cX5_restore 7 = .ok (.new 48, 3) := by decide +kernel
theorem dX5_restore_10 : decode cX5_restore 10 = .ok (.dup, 1) := by decide +kernel
theorem dX5_restore_11 : decode cX5_restore 11 = .ok (.ldc 223, 2) := by decide +kernel
theorem dX5_restore_13 : decode cX5_restore 13 = .ok (.invokespecial 52, 3) := by decide +kernel
theorem dX5_restore_16 : decode cX5_restore 16 = .ok (.athrow, 1) := by decide +kernel
theorem dX5_restore_17 : decode cX5_restore 17 = .ok (.aload_n 0, 1) := by decide +kernel
theorem dX5_restore_18 : decode cX5_restore 18 = .ok (.getfield 37, 3) := by decide +kernel
theorem dX5_restore_21 : decode cX5_restore 21 = .ok (.iload_n 1, 1) := by decide +kernel
theorem dX5_restore_22 : decode cX5_restore 22 = .ok (.aaload, 1) := by decide +kernel
theorem dX5_restore_23 : decode cX5_restore 23 = .ok (.astore_n 2, 1) := by decide +kernel
theorem dX5_restore_24 : decode cX5_restore 24 = .ok (.aload_n 2, 1) := by decide +kernel
theorem dX5_restore_25 : decode cX5_restore 25 = .ok (.ifnonnull 13, 3) := by decide +kernel
theorem dX5_restore_28 : decode cX5_restore 28 = .ok (.new 200, 3) := by decide +kernel
theorem dX5_restore_31 : decode cX5_restore 31 = .ok (.dup, 1) := by decide +kernel
theorem dX5_restore_32 : decode cX5_restore 32 = .ok (.ldc 225, 2) := by decide +kernel
theorem dX5_restore_34 : decode cX5_restore 34 = .ok (.invokespecial 204, 3) := by decide +kernel
theorem dX5_restore_37 : decode cX5_restore 37 = .ok (.athrow, 1) := by decide +kernel
theorem dX5_restore_38 : decode cX5_restore 38 = .ok (.aload_n 0, 1) := by decide +kernel
theorem dX5_restore_39 : decode cX5_restore 39 = .ok (.getfield 33, 3) := by decide +kernel
theorem dX5_restore_42 : decode cX5_restore 42 = .ok (.aload_n 0, 1) := by decide +kernel
theorem dX5_restore_43 : decode cX5_restore 43 = .ok (.getfield 10, 3) := by decide +kernel
theorem dX5_restore_46 : decode cX5_restore 46 = .ok (.invokevirtual 55, 3) := by decide +kernel
theorem dX5_restore_49 : decode cX5_restore 49 = .ok (.pop, 1) := by decide +kernel
theorem dX5_restore_50 : decode cX5_restore 50 = .ok (.aload_n 0, 1) := by decide +kernel
theorem dX5_restore_51 : decode cX5_restore 51 = .ok (.getfield 10, 3) := by decide +kernel
theorem dX5_restore_54 : decode cX5_restore 54 = .ok (.aload_n 2, 1) := by decide +kernel
theorem dX5_restore_55 : decode cX5_restore 55 = .ok (.invokevirtual 213, 3) := by decide +kernel
theorem dX5_restore_58 : decode cX5_restore 58 = .ok (.aload_n 0, 1) := by decide +kernel
theorem dX5_restore_59 : decode cX5_restore 59 = .ok (.getfield 10, 3) := by decide +kernel
theorem dX5_restore_62 : decode cX5_restore 62 = .ok (.invokevirtual 141, 3) := by decide +kernel
theorem dX5_restore_65 : decode cX5_restore 65 = .ok (.ireturn, 1) := by decide +kernel
set_option maxRecDepth 20000 in
theorem ggX5_doPart_X3_at : GoodIn wsX5_doPart wsX3_at := goodIn_r _ [7, 8, 9, 100, 101] (by decide +kernel) (by decide +kernel)
set_option maxRecDepth 20000 in
theorem gX5_doPart_X3_at : GoodIn wsX5_doPart (wsV RX5 130 RX3 yX3_at wsX3_at) := goodIn_app (goodIn_of _ (by decide +kernel)) ggX5_doPart_X3_at
set_option maxRecDepth 20000 in
theorem ggX5_doPart_X3_digitAt : GoodIn wsX5_doPart wsX3_digitAt := goodIn_r _ [13, 14, 4, 5, 6, 7, 8, 9, 100, 101] (by decide +kernel) (by decide +kernel)
set_option maxRecDepth 20000 in
theorem gX5_doPart_X3_digitAt : GoodIn wsX5_doPart (wsV RX5 227 RX3 yX3_digitAt wsX3_digitAt) := goodIn_app (goodIn_of _ (by decide +kernel)) ggX5_doPart_X3_digitAt
set_option maxRecDepth 20000 in
theorem ggX5_doPart_X0_strikeColumns : GoodIn wsX5_doPart wsX0_strikeColumns := goodIn_r _ [19, 20, 21, 22, 23, 18, 24, 25, 26, 27, 28, 29, 30, 31, 32, 33, 34, 35, 36, 37, 38, 39, 40, 41, 42, 43, 44, 45, 46, 47, 48, 49, 50, 51, 52, 53, 54, 55, 56, 57, 58, 59, 60, 61, 62, 63, 64, 65, 66, 67, 68, 69, 102, 103, 104, 105, 106, 107, 108, 109, 110, 111, 112] (by decide +kernel) (by decide +kernel)
set_option maxRecDepth 20000 in
theorem gX5_doPart_X0_strikeColumns : GoodIn wsX5_doPart (wsV RX5 105 RX0 yX0_strikeColumns wsX0_strikeColumns) := goodIn_app (goodIn_of _ (by decide +kernel)) ggX5_doPart_X0_strikeColumns
set_option maxRecDepth 20000 in
theorem ggX5_doPart_X5_changeTempo : GoodIn wsX5_doPart wsX5_changeTempo := goodIn_r _ [73, 2, 74, 75, 76, 43, 77, 95, 96, 97, 98, 99, 102, 103, 104, 105, 106, 107, 108, 109, 110, 111] (by decide +kernel) (by decide +kernel)
set_option maxRecDepth 20000 in
theorem gX5_doPart_X5_changeTempo : GoodIn wsX5_doPart (wsV RX5 230 RX5 yX5_changeTempo wsX5_changeTempo) := goodIn_app (goodIn_of _ (by decide +kernel)) ggX5_doPart_X5_changeTempo
set_option maxRecDepth 20000 in
theorem ggX5_doPart_X5_turnPegs : GoodIn wsX5_doPart wsX5_turnPegs := goodIn_r _ [81, 1, 2, 82, 83, 84, 85, 6, 86, 8, 14, 4, 5, 7, 9, 87, 88, 89, 90, 91, 11, 12, 13, 92, 93, 43, 94, 10, 95, 96, 97, 98, 99, 102, 103, 104, 105, 106, 107, 108, 109, 110, 111, 100, 101] (by decide +kernel) (by decide +kernel)
set_option maxRecDepth 20000 in
theorem gX5_doPart_X5_turnPegs : GoodIn wsX5_doPart (wsV RX5 234 RX5 yX5_turnPegs wsX5_turnPegs) := goodIn_app (goodIn_of _ (by decide +kernel)) ggX5_doPart_X5_turnPegs
theorem dX5_doPart_0 : decode cX5_doPart 0 = .ok (.aload_n 0, 1) := by decide +kernel
theorem dX5_doPart_1 : decode cX5_doPart 1 = .ok (.getfield 26, 3) := by decide +kernel
theorem dX5_doPart_4 : decode cX5_doPart 4 = .ok (.iload_n 1, 1) := by decide +kernel
theorem dX5_doPart_5 : decode cX5_doPart 5 = .ok (.invokevirtual 130, 3) := by decide +kernel
theorem dX5_doPart_8 : decode cX5_doPart 8 = .ok (.istore_n 3, 1) := by decide +kernel
theorem dX5_doPart_9 : decode cX5_doPart 9 = .ok (.iload_n 3, 1) := by decide +kernel
theorem dX5_doPart_10 : decode cX5_doPart 10 = .ok (.bipush 46, 2) := by decide +kernel
theorem dX5_doPart_12 : decode cX5_doPart 12 = .ok (.if_icmp .ne 44, 3) := by decide +kernel
theorem dX5_doPart_15 : decode cX5_doPart 15 = .ok (.iload_n 1, 1) := by decide +kernel
theorem dX5_doPart_16 : decode cX5_doPart 16 = .ok (.iconst 1, 1) := by decide +kernel
theorem dX5_doPart_17 : decode cX5_doPart 17 = .ok (.iadd, 1) := by decide +kernel
theorem dX5_doPart_18 : decode cX5_doPart 18 = .ok (.iload_n 2, 1) := by decide +kernel
theorem dX5_doPart_19 : decode cX5_doPart 19 = .ok (.if_icmp .ne 7, 3) := by decide +kernel
theorem dX5_doPart_22 : decode cX5_doPart 22 = .ok (.iconst 1, 1) := by decide +kernel
theorem dX5_doPart_23 : decode cX5_doPart 23 = .ok (.goto 4, 3) := by decide +kernel
theorem dX5_doPart_26 : decode cX5_doPart 26 = .ok (.iconst 0, 1) := by decide +kernel
theorem dX5_doPart_27 : decode cX5_doPart 27 = .ok (.istore 4, 2) := by decide +kernel
theorem dX5_doPart_29 : decode cX5_doPart 29 = .ok (.aload_n 0, 1) := by decide +kernel
theorem dX5_doPart_30 : decode cX5_doPart 30 = .ok (.getfield 10, 3) := by decide +kernel
theorem dX5_doPart_33 : decode cX5_doPart 33 = .ok (.iload 4, 2) := by decide +kernel
theorem dX5_doPart_35 : decode cX5_doPart 35 = .ok (.ifCond .eq 7, 3) := by decide +kernel
theorem dX5_doPart_38 : decode cX5_doPart 38 = .ok (.iconst 1, 1) := by decide +kernel
theorem dX5_doPart_39 : decode cX5_doPart 39 = .ok (.goto 13, 3) := by decide +kernel
theorem dX5_doPart_42 : decode cX5_doPart 42 = .ok (.aload_n 0, 1) := by decide +kernel
theorem dX5_doPart_43 : decode cX5_doPart 43 = .ok (.getfield 26, 3) := by decide +kernel
theorem dX5_doPart_46 : decode cX5_doPart 46 = .ok (.iload_n 1, 1) := by decide +kernel
theorem dX5_doPart_47 : decode cX5_doPart 47 = .ok (.iconst 1, 1) := by decide +kernel
theorem dX5_doPart_48 : decode cX5_doPart 48 = .ok (.iadd, 1) := by decide +kernel
theorem dX5_doPart_49 : decode cX5_doPart 49 = .ok (.invokevirtual 227, 3) := by decide +kernel
theorem dX5_doPart_52 : decode cX5_doPart 52 = .ok (.invokevirtual 105, 3) := by decide +kernel
theorem dX5_doPart_55 : decode cX5_doPart 55 = .ok (.ireturn, 1) := by decide +kernel
theorem dX5_doPart_56 : decode cX5_doPart 56 = .ok (.iload_n 3, 1) := by decide +kernel
theorem dX5_doPart_57 : decode cX5_doPart 57 = .ok (.bipush 116, 2) := by decide +kernel
theorem dX5_doPart_59 : decode cX5_doPart 59 = .ok (.if_icmp .ne 30, 3) := by decide +kernel
theorem dX5_doPart_62 : decode cX5_doPart 62 = .ok (.aload_n 0, 1) := by decide +kernel
theorem dX5_doPart_63 : decode cX5_doPart 63 = .ok (.aload_n 0, 1) := by decide +kernel
theorem dX5_doPart_64 : decode cX5_doPart 64 = .ok (.getfield 26, 3) := by decide +kernel
theorem dX5_doPart_67 : decode cX5_doPart 67 = .ok (.iload_n 1, 1) := by decide +kernel
theorem dX5_doPart_68 : decode cX5_doPart 68 = .ok (.iconst 1, 1) := by decide +kernel
theorem dX5_doPart_69 : decode cX5_doPart 69 = .ok (.iadd, 1) := by decide +kernel
theorem dX5_doPart_70 : decode cX5_doPart 70 = .ok (.invokevirtual 227, 3) := by decide +kernel
theorem dX5_doPart_73 : decode cX5_doPart 73 = .ok (.aload_n 0, 1) := by decide +kernel
theorem dX5_doPart_74 : decode cX5_doPart 74 = .ok (.getfield 26, 3) := by decide +kernel
theorem dX5_doPart_77 : decode cX5_doPart 77 = .ok (.iload_n 1, 1) := by decide +kernel
theorem dX5_doPart_78 : decode cX5_doPart 78 = .ok (.iconst 2, 1) := by decide +kernel
theorem dX5_doPart_79 : decode cX5_doPart 79 = .ok (.iadd, 1) := by decide +kernel
theorem dX5_doPart_80 : decode cX5_doPart 80 = .ok (.invokevirtual 227, 3) := by decide +kernel
theorem dX5_doPart_83 : decode cX5_doPart 83 = .ok (.invokevirtual 230, 3) := by decide +kernel
theorem dX5_doPart_86 : decode cX5_doPart 86 = .ok (.goto 9, 3) := by decide +kernel
theorem dX5_doPart_89 : decode cX5_doPart 89 = .ok (.aload_n 0, 1) := by decide +kernel
theorem dX5_doPart_90 : decode cX5_doPart 90 = .ok (.iload_n 1, 1) := by decide +kernel
theorem dX5_doPart_91 : decode cX5_doPart 91 = .ok (.iload_n 2, 1) := by decide +kernel
theorem dX5_doPart_92 : decode cX5_doPart 92 = .ok (.invokevirtual 234, 3) := by decide +kernel
theorem dX5_doPart_95 : decode cX5_doPart 95 = .ok (.iconst 0, 1) := by decide +kernel
theorem dX5_doPart_96 : decode cX5_doPart 96 = .ok (.ireturn, 1) := by decide +kernel
set_option maxRecDepth 20000 in
theorem ggX5_changeTempo_X5_isBar : GoodIn wsX5_changeTempo wsX5_isBar := goodIn_r _ [6] (by decide +kernel) (by decide +kernel)
set_option maxRecDepth 20000 in
theorem gX5_changeTempo_X5_isBar : GoodIn wsX5_changeTempo (va_wsS RX5 78 yX5_isBar wsX5_isBar) := goodIn_app (goodIn_of _ (by decide +kernel)) ggX5_changeTempo_X5_isBar
theorem dX5_changeTempo_0 : decode cX5_changeTempo 0 = .ok (.iload_n 1, 1) := by decide +kernel
theorem dX5_changeTempo_1 : decode cX5_changeTempo 1 = .ok (.invokestatic 78, 3) := by decide +kernel
theorem dX5_changeTempo_4 : decode cX5_changeTempo 4 = .ok (.ifCond .eq 13, 3) := by decide +kernel
theorem dX5_changeTempo_7 : decode cX5_changeTempo 7 = .ok (.aload_n 0, 1) := by decide +kernel
theorem dX5_changeTempo_8 : decode cX5_changeTempo 8 = .ok (.getfield 10, 3) := by decide +kernel
theorem dX5_changeTempo_11 : decode cX5_changeTempo 11 = .ok (.getfield 85, 3) := by decide +kernel
theorem dX5_changeTempo_14 : decode cX5_changeTempo 14 = .ok (.iload_n 1, 1) := by decide +kernel
theorem dX5_changeTempo_15 : decode cX5_changeTempo 15 = .ok (.iload_n 2, 1) := by decide +kernel
theorem dX5_changeTempo_16 : decode cX5_changeTempo 16 = .ok (.iastore, 1) := by decide +kernel
theorem dX5_changeTempo_17 : decode cX5_changeTempo 17 = .ok (.return_, 1) := by decide +kernel
set_option maxRecDepth 20000 in
theorem ggX5_turnPegs_X3_colonFrom : GoodIn wsX5_turnPegs wsX3_colonFrom := goodIn_r _ [8, 9, 10, 11, 12, 7, 13, 14, 43, 44] (by decide +kernel) (by decide +kernel)
set_option maxRecDepth 20000 in
theorem gX5_turnPegs_X3_colonFrom : GoodIn wsX5_turnPegs (wsV RX5 237 RX3 yX3_colonFrom wsX3_colonFrom) := goodIn_app (goodIn_of _ (by decide +kernel)) ggX5_turnPegs_X3_colonFrom
set_option maxRecDepth 20000 in
theorem ggX5_turnPegs_X3_numberIn : GoodIn wsX5_turnPegs wsX3_numberIn := goodIn_r _ [18, 19, 20, 21, 7, 22, 10, 11, 12, 13, 9, 14, 43, 44] (by decide +kernel) (by decide +kernel)
set_option maxRecDepth 20000 in
theorem gX5_turnPegs_X3_numberIn : GoodIn wsX5_turnPegs (wsV RX5 240 RX3 yX3_numberIn wsX3_numberIn) := goodIn_app (goodIn_of _ (by decide +kernel)) ggX5_turnPegs_X3_numberIn
set_option maxRecDepth 20000 in
theorem ggX5_turnPegs_X5_isColumn : GoodIn wsX5_turnPegs wsX5_isColumn := goodIn_r _ [26] (by decide +kernel) (by decide +kernel)
set_option maxRecDepth 20000 in
theorem gX5_turnPegs_X5_isColumn : GoodIn wsX5_turnPegs (va_wsS RX5 41 yX5_isColumn wsX5_isColumn) := goodIn_app (goodIn_of _ (by decide +kernel)) ggX5_turnPegs_X5_isColumn
set_option maxRecDepth 20000 in
theorem ggX5_turnPegs_X3_digitAt : GoodIn wsX5_turnPegs wsX3_digitAt := goodIn_r _ [22, 10, 11, 12, 7, 13, 9, 14, 43, 44] (by decide +kernel) (by decide +kernel)
set_option maxRecDepth 20000 in
theorem gX5_turnPegs_X3_digitAt : GoodIn wsX5_turnPegs (wsV RX5 227 RX3 yX3_digitAt wsX3_digitAt) := goodIn_app (goodIn_of _ (by decide +kernel)) ggX5_turnPegs_X3_digitAt
theorem dX5_turnPegs_0 : decode cX5_turnPegs 0 = .ok (.aload_n 0, 1) := by decide +kernel
theorem dX5_turnPegs_1 : decode cX5_turnPegs 1 = .ok (.getfield 26, 3) := by decide +kernel
theorem dX5_turnPegs_4 : decode cX5_turnPegs 4 = .ok (.iload_n 1, 1) := by decide +kernel
theorem dX5_turnPegs_5 : decode cX5_turnPegs 5 = .ok (.invokevirtual 237, 3) := by decide +kernel
theorem dX5_turnPegs_8 : decode cX5_turnPegs 8 = .ok (.istore_n 3, 1) := by decide +kernel
theorem dX5_turnPegs_9 : decode cX5_turnPegs 9 = .ok (.aload_n 0, 1) := by decide +kernel
theorem dX5_turnPegs_10 : decode cX5_turnPegs 10 = .ok (.getfield 26, 3) := by decide +kernel
theorem dX5_turnPegs_13 : decode cX5_turnPegs 13 = .ok (.iload_n 1, 1) := by decide +kernel
theorem dX5_turnPegs_14 : decode cX5_turnPegs 14 = .ok (.iload_n 3, 1) := by decide +kernel
theorem dX5_turnPegs_15 : decode cX5_turnPegs 15 = .ok (.invokevirtual 240, 3) := by decide +kernel
theorem dX5_turnPegs_18 : decode cX5_turnPegs 18 = .ok (.istore 4, 2) := by decide +kernel
theorem dX5_turnPegs_20 : decode cX5_turnPegs 20 = .ok (.iload 4, 2) := by decide +kernel
theorem dX5_turnPegs_22 : decode cX5_turnPegs 22 = .ok (.invokestatic 41, 3) := by decide +kernel
theorem dX5_turnPegs_25 : decode cX5_turnPegs 25 = .ok (.ifCond .eq 44, 3) := by decide +kernel
theorem dX5_turnPegs_28 : decode cX5_turnPegs 28 = .ok (.iload_n 3, 1) := by decide +kernel
theorem dX5_turnPegs_29 : decode cX5_turnPegs 29 = .ok (.iconst 1, 1) := by decide +kernel
theorem dX5_turnPegs_30 : decode cX5_turnPegs 30 = .ok (.iadd, 1) := by decide +kernel
theorem dX5_turnPegs_31 : decode cX5_turnPegs 31 = .ok (.istore 5, 2) := by decide +kernel
theorem dX5_turnPegs_33 : decode cX5_turnPegs 33 = .ok (.iload 5, 2) := by decide +kernel
theorem dX5_turnPegs_35 : decode cX5_turnPegs 35 = .ok (.iload_n 2, 1) := by decide +kernel
theorem dX5_turnPegs_36 : decode cX5_turnPegs 36 = .ok (.if_icmp .ge 33, 3) := by decide +kernel
theorem dX5_turnPegs_39 : decode cX5_turnPegs 39 = .ok (.aload_n 0, 1) := by decide +kernel
theorem dX5_turnPegs_40 : decode cX5_turnPegs 40 = .ok (.getfield 10, 3) := by decide +kernel
theorem dX5_turnPegs_43 : decode cX5_turnPegs 43 = .ok (.getfield 59, 3) := by decide +kernel
theorem dX5_turnPegs_46 : decode cX5_turnPegs 46 = .ok (.iload 4, 2) := by decide +kernel
theorem dX5_turnPegs_48 : decode cX5_turnPegs 48 = .ok (.dup2, 1) := by decide +kernel
theorem dX5_turnPegs_49 : decode cX5_turnPegs 49 = .ok (.iaload, 1) := by decide +kernel
theorem dX5_turnPegs_50 : decode cX5_turnPegs 50 = .ok (.iconst 1, 1) := by decide +kernel
theorem dX5_turnPegs_51 : decode cX5_turnPegs 51 = .ok (.aload_n 0, 1) := by decide +kernel
theorem dX5_turnPegs_52 : decode cX5_turnPegs 52 = .ok (.getfield 26, 3) := by decide +kernel
theorem dX5_turnPegs_55 : decode cX5_turnPegs 55 = .ok (.iload 5, 2) := by decide +kernel
theorem dX5_turnPegs_57 : decode cX5_turnPegs 57 = .ok (.invokevirtual 227, 3) := by decide +kernel
theorem dX5_turnPegs_60 : decode cX5_turnPegs 60 = .ok (.ishl, 1) := by decide +kernel
theorem dX5_turnPegs_61 : decode cX5_turnPegs 61 = .ok (.ixor, 1) := by decide +kernel
theorem dX5_turnPegs_62 : decode cX5_turnPegs 62 = .ok (.iastore, 1) := by decide +kernel
theorem dX5_turnPegs_63 : decode cX5_turnPegs 63 = .ok (.iinc 5 1, 3) := by decide +kernel
theorem dX5_turnPegs_66 : decode cX5_turnPegs 66 = .ok (.goto (-33), 3) := by decide +kernel
theorem dX5_turnPegs_69 : decode cX5_turnPegs 69 = .ok (.return_, 1) := by decide +kernel
theorem dX5_isColumn_0 : decode cX5_isColumn 0 = .ok (.iload_n 0, 1) := by decide +kernel
theorem dX5_isColumn_1 : decode cX5_isColumn 1 = .ok (.ifCond .lt 13, 3) := by decide +kernel
theorem dX5_isColumn_4 : decode cX5_isColumn 4 = .ok (.iload_n 0, 1) := by decide +kernel
theorem dX5_isColumn_5 : decode cX5_isColumn 5 = .ok (.bipush 32, 2) := by decide +kernel
theorem dX5_isColumn_7 : decode cX5_isColumn 7 = .ok (.if_icmp .ge 7, 3) := by decide +kernel
theorem dX5_isColumn_10 : decode cX5_isColumn 10 = .ok (.iconst 1, 1) := by decide +kernel
theorem dX5_isColumn_11 : decode cX5_isColumn 11 = .ok (.goto 4, 3) := by decide +kernel
theorem dX5_isColumn_14 : decode cX5_isColumn 14 = .ok (.iconst 0, 1) := by decide +kernel
theorem dX5_isColumn_15 : decode cX5_isColumn 15 = .ok (.ireturn, 1) := by decide +kernel
theorem dX5_isBar_0 : decode cX5_isBar 0 = .ok (.iload_n 0, 1) := by decide +kernel
theorem dX5_isBar_1 : decode cX5_isBar 1 = .ok (.ifCond .lt 12, 3) := by decide +kernel
theorem dX5_isBar_4 : decode cX5_isBar 4 = .ok (.iload_n 0, 1) := by decide +kernel
theorem dX5_isBar_5 : decode cX5_isBar 5 = .ok (.iconst 4, 1) := by decide +kernel
theorem dX5_isBar_6 : decode cX5_isBar 6 = .ok (.if_icmp .ge 7, 3) := by decide +kernel
theorem dX5_isBar_9 : decode cX5_isBar 9 = .ok (.iconst 1, 1) := by decide +kernel
theorem dX5_isBar_10 : decode cX5_isBar 10 = .ok (.goto 4, 3) := by decide +kernel
theorem dX5_isBar_13 : decode cX5_isBar 13 = .ok (.iconst 0, 1) := by decide +kernel
theorem dX5_isBar_14 : decode cX5_isBar 14 = .ok (.ireturn, 1) := by decide +kernel
theorem dX5_isBell_0 : decode cX5_isBell 0 = .ok (.iload_n 0, 1) := by decide +kernel
theorem dX5_isBell_1 : decode cX5_isBell 1 = .ok (.ifCond .lt 13, 3) := by decide +kernel
theorem dX5_isBell_4 : decode cX5_isBell 4 = .ok (.iload_n 0, 1) := by decide +kernel
theorem dX5_isBell_5 : decode cX5_isBell 5 = .ok (.bipush 10, 2) := by decide +kernel
theorem dX5_isBell_7 : decode cX5_isBell 7 = .ok (.if_icmp .ge 7, 3) := by decide +kernel
theorem dX5_isBell_10 : decode cX5_isBell 10 = .ok (.iconst 1, 1) := by decide +kernel
theorem dX5_isBell_11 : decode cX5_isBell 11 = .ok (.goto 4, 3) := by decide +kernel
theorem dX5_isBell_14 : decode cX5_isBell 14 = .ok (.iconst 0, 1) := by decide +kernel
theorem dX5_isBell_15 : decode cX5_isBell 15 = .ok (.ireturn, 1) := by decide +kernel
theorem dX5_isSlot_0 : decode cX5_isSlot 0 = .ok (.iload_n 0, 1) := by decide +kernel
theorem dX5_isSlot_1 : decode cX5_isSlot 1 = .ok (.ifCond .lt 12, 3) := by decide +kernel
theorem dX5_isSlot_4 : decode cX5_isSlot 4 = .ok (.iload_n 0, 1) := by decide +kernel
theorem dX5_isSlot_5 : decode cX5_isSlot 5 = .ok (.iconst 2, 1) := by decide +kernel
theorem dX5_isSlot_6 : decode cX5_isSlot 6 = .ok (.if_icmp .ge 7, 3) := by decide +kernel
theorem dX5_isSlot_9 : decode cX5_isSlot 9 = .ok (.iconst 1, 1) := by decide +kernel
theorem dX5_isSlot_10 : decode cX5_isSlot 10 = .ok (.goto 4, 3) := by decide +kernel
theorem dX5_isSlot_13 : decode cX5_isSlot 13 = .ok (.iconst 0, 1) := by decide +kernel
theorem dX5_isSlot_14 : decode cX5_isSlot 14 = .ok (.ireturn, 1) := by decide +kernel
theorem dX5_holds_0 : decode cX5_holds 0 = .ok (.iload_n 0, 1) := by decide +kernel
theorem dX5_holds_1 : decode cX5_holds 1 = .ok (.iload_n 1, 1) := by decide +kernel
theorem dX5_holds_2 : decode cX5_holds 2 = .ok (.ishr, 1) := by decide +kernel
theorem dX5_holds_3 : decode cX5_holds 3 = .ok (.iconst 1, 1) := by decide +kernel
theorem dX5_holds_4 : decode cX5_holds 4 = .ok (.iand, 1) := by decide +kernel
theorem dX5_holds_5 : decode cX5_holds 5 = .ok (.iconst 1, 1) := by decide +kernel
theorem dX5_holds_6 : decode cX5_holds 6 = .ok (.if_icmp .ne 7, 3) := by decide +kernel
theorem dX5_holds_9 : decode cX5_holds 9 = .ok (.iconst 1, 1) := by decide +kernel
theorem dX5_holds_10 : decode cX5_holds 10 = .ok (.goto 4, 3) := by decide +kernel
theorem dX5_holds_13 : decode cX5_holds 13 = .ok (.iconst 0, 1) := by decide +kernel
theorem dX5_holds_14 : decode cX5_holds 14 = .ok (.ireturn, 1) := by decide +kernel
theorem dX6_init_0 : decode cX6_init 0 = .ok (.aload_n 0, 1) := by decide +kernel
theorem dX6_init_1 : decode cX6_init 1 = .ok (.invokespecial 1, 3) := by decide +kernel
theorem dX6_init_4 : decode cX6_init 4 = .ok (.aload_n 0, 1) := by decide +kernel
theorem dX6_init_5 : decode cX6_init 5 = .ok (.bipush 70, 2) := by decide +kernel
theorem dX6_init_7 : decode cX6_init 7 = .ok (.newarray .int, 2) := by decide +kernel
theorem dX6_init_9 : decode cX6_init 9 = .ok (.putfield 7, 3) := by decide +kernel
theorem dX6_init_12 : decode cX6_init 12 = .ok (.aload_n 0, 1) := by decide +kernel
theorem dX6_init_13 : decode cX6_init 13 = .ok (.sipush 140, 3) := by decide +kernel
theorem dX6_init_16 : decode cX6_init 16 = .ok (.newarray .int, 2) := by decide +kernel
theorem dX6_init_18 : decode cX6_init 18 = .ok (.putfield 13, 3) := by decide +kernel
theorem dX6_init_21 : decode cX6_init 21 = .ok (.aload_n 0, 1) := by decide +kernel
theorem dX6_init_22 : decode cX6_init 22 = .ok (.iconst 2, 1) := by decide +kernel
theorem dX6_init_23 : decode cX6_init 23 = .ok (.newarray .boolean, 2) := by decide +kernel
theorem dX6_init_25 : decode cX6_init 25 = .ok (.putfield 16, 3) := by decide +kernel
theorem dX6_init_28 : decode cX6_init 28 = .ok (.aload_n 0, 1) := by decide +kernel
theorem dX6_init_29 : decode cX6_init 29 = .ok (.sipush 420, 3) := by decide +kernel
theorem dX6_init_32 : decode cX6_init 32 = .ok (.newarray .int, 2) := by decide +kernel
theorem dX6_init_34 : decode cX6_init 34 = .ok (.putfield 20, 3) := by decide +kernel
theorem dX6_init_37 : decode cX6_init 37 = .ok (.aload_n 0, 1) := by decide +kernel
theorem dX6_init_38 : decode cX6_init 38 = .ok (.bipush 60, 2) := by decide +kernel
theorem dX6_init_40 : decode cX6_init 40 = .ok (.newarray .int, 2) := by decide +kernel
theorem dX6_init_42 : decode cX6_init 42 = .ok (.putfield 23, 3) := by decide +kernel
theorem dX6_init_45 : decode cX6_init 45 = .ok (.aload_n 0, 1) := by decide +kernel
theorem dX6_init_46 : decode cX6_init 46 = .ok (.bipush 10, 2) := by decide +kernel
theorem dX6_init_48 : decode cX6_init 48 = .ok (.newarray .int, 2) := by decide +kernel
theorem dX6_init_50 : decode cX6_init 50 = .ok (.putfield 26, 3) := by decide +kernel
theorem dX6_init_53 : decode cX6_init 53 = .ok (.aload_n 0, 1) := by decide +kernel
theorem dX6_init_54 : decode cX6_init 54 = .ok (.bipush 32, 2) := by decide +kernel
theorem dX6_init_56 : decode cX6_init 56 = .ok (.newarray .int, 2) := by decide +kernel
theorem dX6_init_58 : decode cX6_init 58 = .ok (.putfield 29, 3) := by decide +kernel
theorem dX6_init_61 : decode cX6_init 61 = .ok (.iconst 0, 1) := by decide +kernel
theorem dX6_init_62 : decode cX6_init 62 = .ok (.istore_n 1, 1) := by decide +kernel
theorem dX6_init_63 : decode cX6_init 63 = .ok (.iload_n 1, 1) := by decide +kernel
theorem dX6_init_64 : decode cX6_init 64 = .ok (.iconst 4, 1) := by decide +kernel
theorem dX6_init_65 : decode cX6_init 65 = .ok (.if_icmp .ge 19, 3) := by decide +kernel
theorem dX6_init_68 : decode cX6_init 68 = .ok (.aload_n 0, 1) := by decide +kernel
theorem dX6_init_69 : decode cX6_init 69 = .ok (.getfield 7, 3) := by decide +kernel
theorem dX6_init_72 : decode cX6_init 72 = .ok (.bipush 32, 2) := by decide +kernel
theorem dX6_init_74 : decode cX6_init 74 = .ok (.iload_n 1, 1) := by decide +kernel
theorem dX6_init_75 : decode cX6_init 75 = .ok (.iadd, 1) := by decide +kernel
theorem dX6_init_76 : decode cX6_init 76 = .ok (.iconst 4, 1) := by decide +kernel
theorem dX6_init_77 : decode cX6_init 77 = .ok (.iastore, 1) := by decide +kernel
theorem dX6_init_78 : decode cX6_init 78 = .ok (.iinc 1 1, 3) := by decide +kernel
theorem dX6_init_81 : decode cX6_init 81 = .ok (.goto (-18), 3) := by decide +kernel
theorem dX6_init_84 : decode cX6_init 84 = .ok (.iconst 0, 1) := by decide +kernel
theorem dX6_init_85 : decode cX6_init 85 = .ok (.istore_n 1, 1) := by decide +kernel
theorem dX6_init_86 : decode cX6_init 86 = .ok (.iload_n 1, 1) := by decide +kernel
theorem dX6_init_87 : decode cX6_init 87 = .ok (.bipush 10, 2) := by decide +kernel
theorem dX6_init_89 : decode cX6_init 89 = .ok (.if_icmp .ge 36, 3) := by decide +kernel
theorem dX6_init_92 : decode cX6_init 92 = .ok (.aload_n 0, 1) := by decide +kernel
theorem dX6_init_93 : decode cX6_init 93 = .ok (.getfield 7, 3) := by decide +kernel
theorem dX6_init_96 : decode cX6_init 96 = .ok (.bipush 36, 2) := by decide +kernel
theorem dX6_init_98 : decode cX6_init 98 = .ok (.iload_n 1, 1) := by decide +kernel
theorem dX6_init_99 : decode cX6_init 99 = .ok (.iadd, 1) := by decide +kernel
theorem dX6_init_100 : decode cX6_init 100 = .ok (.bipush 60, 2) := by decide +kernel
theorem dX6_init_102 : decode cX6_init 102 = .ok (.bipush 6, 2) := by decide +kernel
theorem dX6_init_104 : decode cX6_init 104 = .ok (.iload_n 1, 1) := by decide +kernel
theorem dX6_init_105 : decode cX6_init 105 = .ok (.imul, 1) := by decide +kernel
theorem dX6_init_106 : decode cX6_init 106 = .ok (.isub, 1) := by decide +kernel
theorem dX6_init_107 : decode cX6_init 107 = .ok (.iastore, 1) := by decide +kernel
theorem dX6_init_108 : decode cX6_init 108 = .ok (.aload_n 0, 1) := by decide +kernel
theorem dX6_init_109 : decode cX6_init 109 = .ok (.getfield 7, 3) := by decide +kernel
theorem dX6_init_112 : decode cX6_init 112 = .ok (.bipush 60, 2) := by decide +kernel
theorem dX6_init_114 : decode cX6_init 114 = .ok (.iload_n 1, 1) := by decide +kernel
theorem dX6_init_115 : decode cX6_init 115 = .ok (.iadd, 1) := by decide +kernel
theorem dX6_init_116 : decode cX6_init 116 = .ok (.bipush 9, 2) := by decide +kernel
theorem dX6_init_118 : decode cX6_init 118 = .ok (.iastore, 1) := by decide +kernel
theorem dX6_init_119 : decode cX6_init 119 = .ok (.iinc 1 1, 3) := by decide +kernel
theorem dX6_init_122 : decode cX6_init 122 = .ok (.goto (-36), 3) := by decide +kernel
theorem dX6_init_125 : decode cX6_init 125 = .ok (.aload_n 0, 1) := by decide +kernel
theorem dX6_init_126 : decode cX6_init 126 = .ok (.getfield 7, 3) := by decide +kernel
theorem dX6_init_129 : decode cX6_init 129 = .ok (.bipush 46, 2) := by decide +kernel
theorem dX6_init_131 : decode cX6_init 131 = .ok (.bipush 120, 2) := by decide +kernel
theorem dX6_init_133 : decode cX6_init 133 = .ok (.iastore, 1) := by decide +kernel
theorem dX6_init_134 : decode cX6_init 134 = .ok (.return_, 1) := by decide +kernel
theorem dX6_thrown_0 : decode cX6_thrown 0 = .ok (.aload_n 0, 1) := by decide +kernel
theorem dX6_thrown_1 : decode cX6_thrown 1 = .ok (.getfield 32, 3) := by decide +kernel
theorem dX6_thrown_4 : decode cX6_thrown 4 = .ok (.ireturn, 1) := by decide +kernel
theorem dX6_in_0 : decode cX6_in 0 = .ok (.iload_n 0, 1) := by decide +kernel
theorem dX6_in_1 : decode cX6_in 1 = .ok (.iload_n 1, 1) := by decide +kernel
theorem dX6_in_2 : decode cX6_in 2 = .ok (.if_icmp .lt 12, 3) := by decide +kernel
theorem dX6_in_5 : decode cX6_in 5 = .ok (.iload_n 0, 1) := by decide +kernel
theorem dX6_in_6 : decode cX6_in 6 = .ok (.iload_n 2, 1) := by decide +kernel
theorem dX6_in_7 : decode cX6_in 7 = .ok (.if_icmp .gt 7, 3) := by decide +kernel
theorem dX6_in_10 : decode cX6_in 10 = .ok (.iconst 1, 1) := by decide +kernel
theorem dX6_in_11 : decode cX6_in 11 = .ok (.goto 4, 3) := by decide +kernel
theorem dX6_in_14 : decode cX6_in 14 = .ok (.iconst 0, 1) := by decide +kernel
theorem dX6_in_15 : decode cX6_in 15 = .ok (.ireturn, 1) := by decide +kernel
theorem dX6_holds_0 : decode cX6_holds 0 = .ok (.aload_n 0, 1) := by decide +kernel
theorem dX6_holds_1 : decode cX6_holds 1 = .ok (.iload_n 1, 1) := by decide +kernel
theorem dX6_holds_2 : decode cX6_holds 2 = .ok (.putfield 32, 3) := by decide +kernel
theorem dX6_holds_5 : decode cX6_holds 5 = .ok (.iload_n 1, 1) := by decide +kernel
theorem dX6_holds_6 : decode cX6_holds 6 = .ok (.ifCond .ne 7, 3) := by decide +kernel
theorem dX6_holds_9 : decode cX6_holds 9 = .ok (.iconst 1, 1) := by decide +kernel
theorem dX6_holds_10 : decode cX6_holds 10 = .ok (.goto 4, 3) := by decide +kernel
theorem dX6_holds_13 : decode cX6_holds 13 = .ok (.iconst 0, 1) := by decide +kernel
theorem dX6_holds_14 : decode cX6_holds 14 = .ok (.ireturn, 1) := by decide +kernel
set_option maxRecDepth 20000 in
theorem ggX6_isColumn_X6_in : GoodIn wsX6_isColumn wsX6_in := goodIn_r _ [4] (by decide +kernel) (by decide +kernel)
set_option maxRecDepth 20000 in
theorem gX6_isColumn_X6_in : GoodIn wsX6_isColumn (va_wsS RX6 36 yX6_in wsX6_in) := goodIn_app (goodIn_of _ (by decide +kernel)) ggX6_isColumn_X6_in
theorem dX6_isColumn_0 : decode cX6_isColumn 0 = .ok (.iload_n 0, 1) := by decide +kernel
theorem dX6_isColumn_1 : decode cX6_isColumn 1 = .ok (.iconst 0, 1) := by decide +kernel
theorem dX6_isColumn_2 : decode cX6_isColumn 2 = .ok (.bipush 31, 2) := by decide +kernel
theorem dX6_isColumn_4 : decode cX6_isColumn 4 = .ok (.invokestatic 36, 3) := by decide +kernel
theorem dX6_isColumn_7 : decode cX6_isColumn 7 = .ok (.ireturn, 1) := by decide +kernel
set_option maxRecDepth 20000 in
theorem ggX6_isBell_X6_in : GoodIn wsX6_isBell wsX6_in := goodIn_r _ [4] (by decide +kernel) (by decide +kernel)
set_option maxRecDepth 20000 in
theorem gX6_isBell_X6_in : GoodIn wsX6_isBell (va_wsS RX6 36 yX6_in wsX6_in) := goodIn_app (goodIn_of _ (by decide +kernel)) ggX6_isBell_X6_in
theorem dX6_isBell_0 : decode cX6_isBell 0 = .ok (.iload_n 0, 1) := by decide +kernel
theorem dX6_isBell_1 : decode cX6_isBell 1 = .ok (.iconst 0, 1) := by decide +kernel
theorem dX6_isBell_2 : decode cX6_isBell 2 = .ok (.bipush 9, 2) := by decide +kernel
theorem dX6_isBell_4 : decode cX6_isBell 4 = .ok (.invokestatic 36, 3) := by decide +kernel
theorem dX6_isBell_7 : decode cX6_isBell 7 = .ok (.ireturn, 1) := by decide +kernel
set_option maxRecDepth 20000 in
theorem ggX6_isBar_X6_in : GoodIn wsX6_isBar wsX6_in := goodIn_r _ [4] (by decide +kernel) (by decide +kernel)
set_option maxRecDepth 20000 in
theorem gX6_isBar_X6_in : GoodIn wsX6_isBar (va_wsS RX6 36 yX6_in wsX6_in) := goodIn_app (goodIn_of _ (by decide +kernel)) ggX6_isBar_X6_in
theorem dX6_isBar_0 : decode cX6_isBar 0 = .ok (.iload_n 0, 1) := by decide +kernel
theorem dX6_isBar_1 : decode cX6_isBar 1 = .ok (.iconst 0, 1) := by decide +kernel
theorem dX6_isBar_2 : decode cX6_isBar 2 = .ok (.iconst 3, 1) := by decide +kernel
theorem dX6_isBar_3 : decode cX6_isBar 3 = .ok (.invokestatic 36, 3) := by decide +kernel
theorem dX6_isBar_6 : decode cX6_isBar 6 = .ok (.ireturn, 1) := by decide +kernel
theorem dX6_records_0 : decode cX6_records 0 = .ok (.aload_n 0, 1) := by decide +kernel
theorem dX6_records_1 : decode cX6_records 1 = .ok (.getfield 40, 3) := by decide +kernel
theorem dX6_records_4 : decode cX6_records 4 = .ok (.bipush 6, 2) := by decide +kernel
theorem dX6_records_6 : decode cX6_records 6 = .ok (.if_icmp .ne 43, 3) := by decide +kernel
theorem dX6_records_9 : decode cX6_records 9 = .ok (.iconst 0, 1) := by decide +kernel
theorem dX6_records_10 : decode cX6_records 10 = .ok (.istore_n 1, 1) := by decide +kernel
theorem dX6_records_11 : decode cX6_records 11 = .ok (.iload_n 1, 1) := by decide +kernel
theorem dX6_records_12 : decode cX6_records 12 = .ok (.sipush 350, 3) := by decide +kernel
theorem dX6_records_15 : decode cX6_records 15 = .ok (.if_icmp .ge 24, 3) := by decide +kernel
theorem dX6_records_18 : decode cX6_records 18 = .ok (.aload_n 0, 1) := by decide +kernel
theorem dX6_records_19 : decode cX6_records 19 = .ok (.getfield 20, 3) := by decide +kernel
theorem dX6_records_22 : decode cX6_records 22 = .ok (.iload_n 1, 1) := by decide +kernel
theorem dX6_records_23 : decode cX6_records 23 = .ok (.aload_n 0, 1) := by decide +kernel
theorem dX6_records_24 : decode cX6_records 24 = .ok (.getfield 20, 3) := by decide +kernel
theorem dX6_records_27 : decode cX6_records 27 = .ok (.bipush 70, 2) := by decide +kernel
theorem dX6_records_29 : decode cX6_records 29 = .ok (.iload_n 1, 1) := by decide +kernel
theorem dX6_records_30 : decode cX6_records 30 = .ok (.iadd, 1) := by decide +kernel
theorem dX6_records_31 : decode cX6_records 31 = .ok (.iaload, 1) := by decide +kernel
theorem dX6_records_32 : decode cX6_records 32 = .ok (.iastore, 1) := by decide +kernel
theorem dX6_records_33 : decode cX6_records 33 = .ok (.iinc 1 1, 3) := by decide +kernel
theorem dX6_records_36 : decode cX6_records 36 = .ok (.goto (-25), 3) := by decide +kernel
theorem dX6_records_39 : decode cX6_records 39 = .ok (.aload_n 0, 1) := by decide +kernel
theorem dX6_records_40 : decode cX6_records 40 = .ok (.dup, 1) := by decide +kernel
theorem dX6_records_41 : decode cX6_records 41 = .ok (.getfield 40, 3) := by decide +kernel
theorem dX6_records_44 : decode cX6_records 44 = .ok (.iconst 1, 1) := by decide +kernel
theorem dX6_records_45 : decode cX6_records 45 = .ok (.isub, 1) := by decide +kernel
theorem dX6_records_46 : decode cX6_records 46 = .ok (.putfield 40, 3) := by decide +kernel
theorem dX6_records_49 : decode cX6_records 49 = .ok (.iconst 0, 1) := by decide +kernel
theorem dX6_records_50 : decode cX6_records 50 = .ok (.istore_n 1, 1) := by decide +kernel
theorem dX6_records_51 : decode cX6_records 51 = .ok (.iload_n 1, 1) := by decide +kernel
theorem dX6_records_52 : decode cX6_records 52 = .ok (.bipush 70, 2) := by decide +kernel
theorem dX6_records_54 : decode cX6_records 54 = .ok (.if_icmp .ge 29, 3) := by decide +kernel
theorem dX6_records_57 : decode cX6_records 57 = .ok (.aload_n 0, 1) := by decide +kernel
theorem dX6_records_58 : decode cX6_records 58 = .ok (.getfield 20, 3) := by decide +kernel
theorem dX6_records_61 : decode cX6_records 61 = .ok (.bipush 70, 2) := by decide +kernel
theorem dX6_records_63 : decode cX6_records 63 = .ok (.aload_n 0, 1) := by decide +kernel
theorem dX6_records_64 : decode cX6_records 64 = .ok (.getfield 40, 3) := by decide +kernel
theorem dX6_records_67 : decode cX6_records 67 = .ok (.imul, 1) := by decide +kernel
theorem dX6_records_68 : decode cX6_records 68 = .ok (.iload_n 1, 1) := by decide +kernel
theorem dX6_records_69 : decode cX6_records 69 = .ok (.iadd, 1) := by decide +kernel
theorem dX6_records_70 : decode cX6_records 70 = .ok (.aload_n 0, 1) := by decide +kernel
theorem dX6_records_71 : decode cX6_records 71 = .ok (.getfield 7, 3) := by decide +kernel
theorem dX6_records_74 : decode cX6_records 74 = .ok (.iload_n 1, 1) := by decide +kernel
theorem dX6_records_75 : decode cX6_records 75 = .ok (.iaload, 1) := by decide +kernel
theorem dX6_records_76 : decode cX6_records 76 = .ok (.iastore, 1) := by decide +kernel
theorem dX6_records_77 : decode cX6_records 77 = .ok (.iinc 1 1, 3) := by decide +kernel
theorem dX6_records_80 : decode cX6_records 80 = .ok (.goto (-29), 3) := by decide +kernel
theorem dX6_records_83 : decode cX6_records 83 = .ok (.aload_n 0, 1) := by decide +kernel
theorem dX6_records_84 : decode cX6_records 84 = .ok (.dup, 1) := by decide +kernel
theorem dX6_records_85 : decode cX6_records 85 = .ok (.getfield 40, 3) := by decide +kernel
theorem dX6_records_88 : decode cX6_records 88 = .ok (.iconst 1, 1) := by decide +kernel
theorem dX6_records_89 : decode cX6_records 89 = .ok (.iadd, 1) := by decide +kernel
theorem dX6_records_90 : decode cX6_records 90 = .ok (.putfield 40, 3) := by decide +kernel
theorem dX6_records_93 : decode cX6_records 93 = .ok (.return_, 1) := by decide +kernel
theorem dX6_count_0 : decode cX6_count 0 = .ok (.iconst 0, 1) := by decide +kernel
theorem dX6_count_1 : decode cX6_count 1 = .ok (.istore_n 1, 1) := by decide +kernel
theorem dX6_count_2 : decode cX6_count 2 = .ok (.iconst 0, 1) := by decide +kernel
theorem dX6_count_3 : decode cX6_count 3 = .ok (.istore_n 2, 1) := by decide +kernel
theorem dX6_count_4 : decode cX6_count 4 = .ok (.iload_n 2, 1) := by decide +kernel
theorem dX6_count_5 : decode cX6_count 5 = .ok (.bipush 10, 2) := by decide +kernel
theorem dX6_count_7 : decode cX6_count 7 = .ok (.if_icmp .ge 17, 3) := by decide +kernel
theorem dX6_count_10 : decode cX6_count 10 = .ok (.iload_n 1, 1) := by decide +kernel
theorem dX6_count_11 : decode cX6_count 11 = .ok (.iload_n 0, 1) := by decide +kernel
theorem dX6_count_12 : decode cX6_count 12 = .ok (.iload_n 2, 1) := by decide +kernel
theorem dX6_count_13 : decode cX6_count 13 = .ok (.ishr, 1) := by decide +kernel
theorem dX6_count_14 : decode cX6_count 14 = .ok (.iconst 1, 1) := by decide +kernel
theorem dX6_count_15 : decode cX6_count 15 = .ok (.iand, 1) := by decide +kernel
theorem dX6_count_16 : decode cX6_count 16 = .ok (.iadd, 1) := by decide +kernel
theorem dX6_count_17 : decode cX6_count 17 = .ok (.istore_n 1, 1) := by decide +kernel
theorem dX6_count_18 : decode cX6_count 18 = .ok (.iinc 2 1, 3) := by decide +kernel
theorem dX6_count_21 : decode cX6_count 21 = .ok (.goto (-17), 3) := by decide +kernel
theorem dX6_count_24 : decode cX6_count 24 = .ok (.iload_n 1, 1) := by decide +kernel
theorem dX6_count_25 : decode cX6_count 25 = .ok (.ireturn, 1) := by decide +kernel
set_option maxRecDepth 20000 in
theorem ggX6_allPegs_X6_count : GoodIn wsX6_allPegs wsX6_count := goodIn_r _ [5] (by decide +kernel) (by decide +kernel)
set_option maxRecDepth 20000 in
theorem gX6_allPegs_X6_count : GoodIn wsX6_allPegs (va_wsS RX6 43 yX6_count wsX6_count) := goodIn_app (goodIn_of _ (by decide +kernel)) ggX6_allPegs_X6_count
theorem dX6_allPegs_0 : decode cX6_allPegs 0 = .ok (.iconst 0, 1) := by decide +kernel
theorem dX6_allPegs_1 : decode cX6_allPegs 1 = .ok (.istore_n 1, 1) := by decide +kernel
theorem dX6_allPegs_2 : decode cX6_allPegs 2 = .ok (.iconst 0, 1) := by decide +kernel
theorem dX6_allPegs_3 : decode cX6_allPegs 3 = .ok (.istore_n 2, 1) := by decide +kernel
theorem dX6_allPegs_4 : decode cX6_allPegs 4 = .ok (.iload_n 2, 1) := by decide +kernel
theorem dX6_allPegs_5 : decode cX6_allPegs 5 = .ok (.bipush 32, 2) := by decide +kernel
theorem dX6_allPegs_7 : decode cX6_allPegs 7 = .ok (.if_icmp .ge 23, 3) := by decide +kernel
theorem dX6_allPegs_10 : decode cX6_allPegs 10 = .ok (.iload_n 1, 1) := by decide +kernel
theorem dX6_allPegs_11 : decode cX6_allPegs 11 = .ok (.aload_n 0, 1) := by decide +kernel
theorem dX6_allPegs_12 : decode cX6_allPegs 12 = .ok (.getfield 7, 3) := by decide +kernel
theorem dX6_allPegs_15 : decode cX6_allPegs 15 = .ok (.iconst 0, 1) := by decide +kernel
theorem dX6_allPegs_16 : decode cX6_allPegs 16 = .ok (.iload_n 2, 1) := by decide +kernel
theorem dX6_allPegs_17 : decode cX6_allPegs 17 = .ok (.iadd, 1) := by decide +kernel
theorem dX6_allPegs_18 : decode cX6_allPegs 18 = .ok (.iaload, 1) := by decide +kernel
theorem dX6_allPegs_19 : decode cX6_allPegs 19 = .ok (.invokestatic 43, 3) := by decide +kernel
theorem dX6_allPegs_22 : decode cX6_allPegs 22 = .ok (.iadd, 1) := by decide +kernel
theorem dX6_allPegs_23 : decode cX6_allPegs 23 = .ok (.istore_n 1, 1) := by decide +kernel
theorem dX6_allPegs_24 : decode cX6_allPegs 24 = .ok (.iinc 2 1, 3) := by decide +kernel
theorem dX6_allPegs_27 : decode cX6_allPegs 27 = .ok (.goto (-23), 3) := by decide +kernel
theorem dX6_allPegs_30 : decode cX6_allPegs 30 = .ok (.iload_n 1, 1) := by decide +kernel
theorem dX6_allPegs_31 : decode cX6_allPegs 31 = .ok (.ireturn, 1) := by decide +kernel
theorem dX6_weightIn_0 : decode cX6_weightIn 0 = .ok (.iconst 0, 1) := by decide +kernel
theorem dX6_weightIn_1 : decode cX6_weightIn 1 = .ok (.istore_n 2, 1) := by decide +kernel
theorem dX6_weightIn_2 : decode cX6_weightIn 2 = .ok (.iconst 0, 1) := by decide +kernel
theorem dX6_weightIn_3 : decode cX6_weightIn 3 = .ok (.istore_n 3, 1) := by decide +kernel
theorem dX6_weightIn_4 : decode cX6_weightIn 4 = .ok (.iload_n 3, 1) := by decide +kernel
theorem dX6_weightIn_5 : decode cX6_weightIn 5 = .ok (.bipush 10, 2) := by decide +kernel
theorem dX6_weightIn_7 : decode cX6_weightIn 7 = .ok (.if_icmp .ge 27, 3) := by decide +kernel
theorem dX6_weightIn_10 : decode cX6_weightIn 10 = .ok (.iload_n 2, 1) := by decide +kernel
theorem dX6_weightIn_11 : decode cX6_weightIn 11 = .ok (.iload_n 1, 1) := by decide +kernel
theorem dX6_weightIn_12 : decode cX6_weightIn 12 = .ok (.iload_n 3, 1) := by decide +kernel
theorem dX6_weightIn_13 : decode cX6_weightIn 13 = .ok (.ishr, 1) := by decide +kernel
theorem dX6_weightIn_14 : decode cX6_weightIn 14 = .ok (.iconst 1, 1) := by decide +kernel
theorem dX6_weightIn_15 : decode cX6_weightIn 15 = .ok (.iand, 1) := by decide +kernel
theorem dX6_weightIn_16 : decode cX6_weightIn 16 = .ok (.aload_n 0, 1) := by decide +kernel
theorem dX6_weightIn_17 : decode cX6_weightIn 17 = .ok (.getfield 7, 3) := by decide +kernel
theorem dX6_weightIn_20 : decode cX6_weightIn 20 = .ok (.bipush 36, 2) := by decide +kernel
theorem dX6_weightIn_22 : decode cX6_weightIn 22 = .ok (.iload_n 3, 1) := by decide +kernel
theorem dX6_weightIn_23 : decode cX6_weightIn 23 = .ok (.iadd, 1) := by decide +kernel
theorem dX6_weightIn_24 : decode cX6_weightIn 24 = .ok (.iaload, 1) := by decide +kernel
theorem dX6_weightIn_25 : decode cX6_weightIn 25 = .ok (.imul, 1) := by decide +kernel
theorem dX6_weightIn_26 : decode cX6_weightIn 26 = .ok (.iadd, 1) := by decide +kernel
theorem dX6_weightIn_27 : decode cX6_weightIn 27 = .ok (.istore_n 2, 1) := by decide +kernel
theorem dX6_weightIn_28 : decode cX6_weightIn 28 = .ok (.iinc 3 1, 3) := by decide +kernel
theorem dX6_weightIn_31 : decode cX6_weightIn 31 = .ok (.goto (-27), 3) := by decide +kernel
theorem dX6_weightIn_34 : decode cX6_weightIn 34 = .ok (.iload_n 2, 1) := by decide +kernel
theorem dX6_weightIn_35 : decode cX6_weightIn 35 = .ok (.ireturn, 1) := by decide +kernel
set_option maxRecDepth 20000 in
theorem ggX6_missedFor_X6_weightIn : GoodIn wsX6_missedFor wsX6_weightIn := goodIn_r _ [6, 1, 7, 8, 9, 10, 11, 12, 13, 14, 15, 16, 17] (by decide +kernel) (by decide +kernel)
set_option maxRecDepth 20000 in
theorem gX6_missedFor_X6_weightIn : GoodIn wsX6_missedFor (wsV RX6 47 RX6 yX6_weightIn wsX6_weightIn) := goodIn_app (goodIn_of _ (by decide +kernel)) ggX6_missedFor_X6_weightIn
theorem dX6_missedFor_0 : decode cX6_missedFor 0 = .ok (.iload_n 3, 1) := by decide +kernel
theorem dX6_missedFor_1 : decode cX6_missedFor 1 = .ok (.bipush 9, 2) := by decide +kernel
theorem dX6_missedFor_3 : decode cX6_missedFor 3 = .ok (.if_icmp .ge 25, 3) := by decide +kernel
theorem dX6_missedFor_6 : decode cX6_missedFor 6 = .ok (.iload_n 3, 1) := by decide +kernel
theorem dX6_missedFor_7 : decode cX6_missedFor 7 = .ok (.iconst 1, 1) := by decide +kernel
theorem dX6_missedFor_8 : decode cX6_missedFor 8 = .ok (.iadd, 1) := by decide +kernel
theorem dX6_missedFor_9 : decode cX6_missedFor 9 = .ok (.aload_n 0, 1) := by decide +kernel
theorem dX6_missedFor_10 : decode cX6_missedFor 10 = .ok (.getfield 7, 3) := by decide +kernel
theorem dX6_missedFor_13 : decode cX6_missedFor 13 = .ok (.bipush 36, 2) := by decide +kernel
theorem dX6_missedFor_15 : decode cX6_missedFor 15 = .ok (.iload_n 1, 1) := by decide +kernel
theorem dX6_missedFor_16 : decode cX6_missedFor 16 = .ok (.iadd, 1) := by decide +kernel
theorem dX6_missedFor_17 : decode cX6_missedFor 17 = .ok (.iaload, 1) := by decide +kernel
theorem dX6_missedFor_18 : decode cX6_missedFor 18 = .ok (.bipush 20, 2) := by decide +kernel
theorem dX6_missedFor_20 : decode cX6_missedFor 20 = .ok (.idiv, 1) := by decide +kernel
theorem dX6_missedFor_21 : decode cX6_missedFor 21 = .ok (.iconst 1, 1) := by decide +kernel
theorem dX6_missedFor_22 : decode cX6_missedFor 22 = .ok (.iadd, 1) := by decide +kernel
theorem dX6_missedFor_23 : decode cX6_missedFor 23 = .ok (.if_icmp .ge 5, 3) := by decide +kernel
theorem dX6_missedFor_26 : decode cX6_missedFor 26 = .ok (.iconst 1, 1) := by decide +kernel
theorem dX6_missedFor_27 : decode cX6_missedFor 27 = .ok (.ireturn, 1) := by decide +kernel
theorem dX6_missedFor_28 : decode cX6_missedFor 28 = .ok (.aload_n 0, 1) := by decide +kernel
theorem dX6_missedFor_29 : decode cX6_missedFor 29 = .ok (.iload_n 2, 1) := by decide +kernel
theorem dX6_missedFor_30 : decode cX6_missedFor 30 = .ok (.invokevirtual 47, 3) := by decide +kernel
theorem dX6_missedFor_33 : decode cX6_missedFor 33 = .ok (.aload_n 0, 1) := by decide +kernel
theorem dX6_missedFor_34 : decode cX6_missedFor 34 = .ok (.getfield 7, 3) := by decide +kernel
theorem dX6_missedFor_37 : decode cX6_missedFor 37 = .ok (.bipush 36, 2) := by decide +kernel
theorem dX6_missedFor_39 : decode cX6_missedFor 39 = .ok (.iload_n 1, 1) := by decide +kernel
theorem dX6_missedFor_40 : decode cX6_missedFor 40 = .ok (.iadd, 1) := by decide +kernel
theorem dX6_missedFor_41 : decode cX6_missedFor 41 = .ok (.iaload, 1) := by decide +kernel
theorem dX6_missedFor_42 : decode cX6_missedFor 42 = .ok (.iadd, 1) := by decide +kernel
theorem dX6_missedFor_43 : decode cX6_missedFor 43 = .ok (.iload 4, 2) := by decide +kernel
theorem dX6_missedFor_45 : decode cX6_missedFor 45 = .ok (.if_icmp .le 7, 3) := by decide +kernel
theorem dX6_missedFor_48 : decode cX6_missedFor 48 = .ok (.iconst 2, 1) := by decide +kernel
theorem dX6_missedFor_49 : decode cX6_missedFor 49 = .ok (.goto 4, 3) := by decide +kernel
theorem dX6_missedFor_52 : decode cX6_missedFor 52 = .ok (.iconst 0, 1) := by decide +kernel
theorem dX6_missedFor_53 : decode cX6_missedFor 53 = .ok (.ireturn, 1) := by decide +kernel
theorem dX6_later_0 : decode cX6_later 0 = .ok (.iload_n 0, 1) := by decide +kernel
theorem dX6_later_1 : decode cX6_later 1 = .ok (.bipush 9, 2) := by decide +kernel
theorem dX6_later_3 : decode cX6_later 3 = .ok (.if_icmp .ge 9, 3) := by decide +kernel
theorem dX6_later_6 : decode cX6_later 6 = .ok (.iload_n 0, 1) := by decide +kernel
theorem dX6_later_7 : decode cX6_later 7 = .ok (.iconst 1, 1) := by decide +kernel
theorem dX6_later_8 : decode cX6_later 8 = .ok (.iadd, 1) := by decide +kernel
theorem dX6_later_9 : decode cX6_later 9 = .ok (.goto 5, 3) := by decide +kernel
theorem dX6_later_12 : decode cX6_later 12 = .ok (.bipush 9, 2) := by decide +kernel
theorem dX6_later_14 : decode cX6_later 14 = .ok (.ireturn, 1) := by decide +kernel
set_option maxRecDepth 20000 in
theorem ggX6_strikes_X6_missedFor : GoodIn wsX6_strikes wsX6_missedFor := goodIn_r _ [6, 1, 7, 8, 9, 5, 10, 17, 18, 19, 20, 21, 22, 23, 24, 25, 26, 27] (by decide +kernel) (by decide +kernel)
set_option maxRecDepth 20000 in
theorem gX6_strikes_X6_missedFor : GoodIn wsX6_strikes (wsV RX6 50 RX6 yX6_missedFor wsX6_missedFor) := goodIn_app (goodIn_of _ (by decide +kernel)) ggX6_strikes_X6_missedFor
set_option maxRecDepth 20000 in
theorem ggX6_strikes_X6_later : GoodIn wsX6_strikes wsX6_later := goodIn_r _ [13] (by decide +kernel) (by decide +kernel)
set_option maxRecDepth 20000 in
theorem gX6_strikes_X6_later : GoodIn wsX6_strikes (va_wsS RX6 54 yX6_later wsX6_later) := goodIn_app (goodIn_of _ (by decide +kernel)) ggX6_strikes_X6_later
set_option maxRecDepth 20000 in
theorem ggX6_strikes_X6_count : GoodIn wsX6_strikes wsX6_count := goodIn_r _ [16] (by decide +kernel) (by decide +kernel)
set_option maxRecDepth 20000 in
theorem gX6_strikes_X6_count : GoodIn wsX6_strikes (va_wsS RX6 43 yX6_count wsX6_count) := goodIn_app (goodIn_of _ (by decide +kernel)) ggX6_strikes_X6_count
theorem dX6_strikes_0 : decode cX6_strikes 0 = .ok (.aload_n 0, 1) := by decide +kernel
theorem dX6_strikes_1 : decode cX6_strikes 1 = .ok (.getfield 7, 3) := by decide +kernel
theorem dX6_strikes_4 : decode cX6_strikes 4 = .ok (.bipush 47, 2) := by decide +kernel
theorem dX6_strikes_6 : decode cX6_strikes 6 = .ok (.iaload, 1) := by decide +kernel
theorem dX6_strikes_7 : decode cX6_strikes 7 = .ok (.istore_n 1, 1) := by decide +kernel
theorem dX6_strikes_8 : decode cX6_strikes 8 = .ok (.iconst 0, 1) := by decide +kernel
theorem dX6_strikes_9 : decode cX6_strikes 9 = .ok (.istore_n 2, 1) := by decide +kernel
theorem dX6_strikes_10 : decode cX6_strikes 10 = .ok (.iconst 0, 1) := by decide +kernel
theorem dX6_strikes_11 : decode cX6_strikes 11 = .ok (.istore_n 3, 1) := by decide +kernel
theorem dX6_strikes_12 : decode cX6_strikes 12 = .ok (.iload_n 3, 1) := by decide +kernel
theorem dX6_strikes_13 : decode cX6_strikes 13 = .ok (.bipush 10, 2) := by decide +kernel
theorem dX6_strikes_15 : decode cX6_strikes 15 = .ok (.if_icmp .ge 161, 3) := by decide +kernel
theorem dX6_strikes_18 : decode cX6_strikes 18 = .ok (.aload_n 0, 1) := by decide +kernel
theorem dX6_strikes_19 : decode cX6_strikes 19 = .ok (.getfield 7, 3) := by decide +kernel
theorem dX6_strikes_22 : decode cX6_strikes 22 = .ok (.iconst 0, 1) := by decide +kernel
theorem dX6_strikes_23 : decode cX6_strikes 23 = .ok (.iload_n 1, 1) := by decide +kernel
theorem dX6_strikes_24 : decode cX6_strikes 24 = .ok (.iadd, 1) := by decide +kernel
theorem dX6_strikes_25 : decode cX6_strikes 25 = .ok (.iaload, 1) := by decide +kernel
theorem dX6_strikes_26 : decode cX6_strikes 26 = .ok (.iload_n 3, 1) := by decide +kernel
theorem dX6_strikes_27 : decode cX6_strikes 27 = .ok (.ishr, 1) := by decide +kernel
theorem dX6_strikes_28 : decode cX6_strikes 28 = .ok (.iconst 1, 1) := by decide +kernel
theorem dX6_strikes_29 : decode cX6_strikes 29 = .ok (.iand, 1) := by decide +kernel
theorem dX6_strikes_30 : decode cX6_strikes 30 = .ok (.iconst 1, 1) := by decide +kernel
theorem dX6_strikes_31 : decode cX6_strikes 31 = .ok (.if_icmp .ne 7, 3) := by decide +kernel
theorem dX6_strikes_34 : decode cX6_strikes 34 = .ok (.iconst 1, 1) := by decide +kernel
theorem dX6_strikes_35 : decode cX6_strikes 35 = .ok (.goto 4, 3) := by decide +kernel
theorem dX6_strikes_38 : decode cX6_strikes 38 = .ok (.iconst 0, 1) := by decide +kernel
theorem dX6_strikes_39 : decode cX6_strikes 39 = .ok (.istore 4, 2) := by decide +kernel
theorem dX6_strikes_41 : decode cX6_strikes 41 = .ok (.iload 4, 2) := by decide +kernel
theorem dX6_strikes_43 : decode cX6_strikes 43 = .ok (.ifCond .eq 32, 3) := by decide +kernel
theorem dX6_strikes_46 : decode cX6_strikes 46 = .ok (.aload_n 0, 1) := by decide +kernel
theorem dX6_strikes_47 : decode cX6_strikes 47 = .ok (.iload_n 3, 1) := by decide +kernel
theorem dX6_strikes_48 : decode cX6_strikes 48 = .ok (.iload_n 2, 1) := by decide +kernel
theorem dX6_strikes_49 : decode cX6_strikes 49 = .ok (.aload_n 0, 1) := by decide +kernel
theorem dX6_strikes_50 : decode cX6_strikes 50 = .ok (.getfield 7, 3) := by decide +kernel
theorem dX6_strikes_53 : decode cX6_strikes 53 = .ok (.bipush 60, 2) := by decide +kernel
theorem dX6_strikes_55 : decode cX6_strikes 55 = .ok (.iload_n 3, 1) := by decide +kernel
theorem dX6_strikes_56 : decode cX6_strikes 56 = .ok (.iadd, 1) := by decide +kernel
theorem dX6_strikes_57 : decode cX6_strikes 57 = .ok (.iaload, 1) := by decide +kernel
theorem dX6_strikes_58 : decode cX6_strikes 58 = .ok (.aload_n 0, 1) := by decide +kernel
theorem dX6_strikes_59 : decode cX6_strikes 59 = .ok (.getfield 7, 3) := by decide +kernel
theorem dX6_strikes_62 : decode cX6_strikes 62 = .ok (.bipush 46, 2) := by decide +kernel
theorem dX6_strikes_64 : decode cX6_strikes 64 = .ok (.iaload, 1) := by decide +kernel
theorem dX6_strikes_65 : decode cX6_strikes 65 = .ok (.invokevirtual 50, 3) := by decide +kernel
theorem dX6_strikes_68 : decode cX6_strikes 68 = .ok (.ifCond .ne 7, 3) := by decide +kernel
theorem dX6_strikes_71 : decode cX6_strikes 71 = .ok (.iconst 1, 1) := by decide +kernel
theorem dX6_strikes_72 : decode cX6_strikes 72 = .ok (.goto 4, 3) := by decide +kernel
theorem dX6_strikes_75 : decode cX6_strikes 75 = .ok (.iconst 0, 1) := by decide +kernel
theorem dX6_strikes_76 : decode cX6_strikes 76 = .ok (.istore 5, 2) := by decide +kernel
theorem dX6_strikes_78 : decode cX6_strikes 78 = .ok (.iload_n 2, 1) := by decide +kernel
theorem dX6_strikes_79 : decode cX6_strikes 79 = .ok (.iload 5, 2) := by decide +kernel
theorem dX6_strikes_81 : decode cX6_strikes 81 = .ok (.ifCond .eq 9, 3) := by decide +kernel
theorem dX6_strikes_84 : decode cX6_strikes 84 = .ok (.iconst 1, 1) := by decide +kernel
theorem dX6_strikes_85 : decode cX6_strikes 85 = .ok (.iload_n 3, 1) := by decide +kernel
theorem dX6_strikes_86 : decode cX6_strikes 86 = .ok (.ishl, 1) := by decide +kernel
theorem dX6_strikes_87 : decode cX6_strikes 87 = .ok (.goto 4, 3) := by decide +kernel
theorem dX6_strikes_90 : decode cX6_strikes 90 = .ok (.iconst 0, 1) := by decide +kernel
theorem dX6_strikes_91 : decode cX6_strikes 91 = .ok (.ior, 1) := by decide +kernel
theorem dX6_strikes_92 : decode cX6_strikes 92 = .ok (.istore_n 2, 1) := by decide +kernel
theorem dX6_strikes_93 : decode cX6_strikes 93 = .ok (.aload_n 0, 1) := by decide +kernel
theorem dX6_strikes_94 : decode cX6_strikes 94 = .ok (.getfield 7, 3) := by decide +kernel
theorem dX6_strikes_97 : decode cX6_strikes 97 = .ok (.bipush 49, 2) := by decide +kernel
theorem dX6_strikes_99 : decode cX6_strikes 99 = .ok (.iload_n 3, 1) := by decide +kernel
theorem dX6_strikes_100 : decode cX6_strikes 100 = .ok (.iadd, 1) := by decide +kernel
theorem dX6_strikes_101 : decode cX6_strikes 101 = .ok (.dup2, 1) := by decide +kernel
theorem dX6_strikes_102 : decode cX6_strikes 102 = .ok (.iaload, 1) := by decide +kernel
theorem dX6_strikes_103 : decode cX6_strikes 103 = .ok (.iload 5, 2) := by decide +kernel
theorem dX6_strikes_105 : decode cX6_strikes 105 = .ok (.ifCond .eq 7, 3) := by decide +kernel
theorem dX6_strikes_108 : decode cX6_strikes 108 = .ok (.iconst 1, 1) := by decide +kernel
theorem dX6_strikes_109 : decode cX6_strikes 109 = .ok (.goto 4, 3) := by decide +kernel
theorem dX6_strikes_112 : decode cX6_strikes 112 = .ok (.iconst 0, 1) := by decide +kernel
theorem dX6_strikes_113 : decode cX6_strikes 113 = .ok (.iadd, 1) := by decide +kernel
theorem dX6_strikes_114 : decode cX6_strikes 114 = .ok (.iastore, 1) := by decide +kernel
theorem dX6_strikes_115 : decode cX6_strikes 115 = .ok (.aload_n 0, 1) := by decide +kernel
theorem dX6_strikes_116 : decode cX6_strikes 116 = .ok (.getfield 7, 3) := by decide +kernel
theorem dX6_strikes_119 : decode cX6_strikes 119 = .ok (.bipush 59, 2) := by decide +kernel
theorem dX6_strikes_121 : decode cX6_strikes 121 = .ok (.dup2, 1) := by decide +kernel
theorem dX6_strikes_122 : decode cX6_strikes 122 = .ok (.iaload, 1) := by decide +kernel
theorem dX6_strikes_123 : decode cX6_strikes 123 = .ok (.iload 4, 2) := by decide +kernel
theorem dX6_strikes_125 : decode cX6_strikes 125 = .ok (.ifCond .eq 12, 3) := by decide +kernel
theorem dX6_strikes_128 : decode cX6_strikes 128 = .ok (.iload 5, 2) := by decide +kernel
theorem dX6_strikes_130 : decode cX6_strikes 130 = .ok (.ifCond .ne 7, 3) := by decide +kernel
theorem dX6_strikes_133 : decode cX6_strikes 133 = .ok (.iconst 1, 1) := by decide +kernel
theorem dX6_strikes_134 : decode cX6_strikes 134 = .ok (.goto 4, 3) := by decide +kernel
theorem dX6_strikes_137 : decode cX6_strikes 137 = .ok (.iconst 0, 1) := by decide +kernel
theorem dX6_strikes_138 : decode cX6_strikes 138 = .ok (.iadd, 1) := by decide +kernel
theorem dX6_strikes_139 : decode cX6_strikes 139 = .ok (.iastore, 1) := by decide +kernel
theorem dX6_strikes_140 : decode cX6_strikes 140 = .ok (.aload_n 0, 1) := by decide +kernel
theorem dX6_strikes_141 : decode cX6_strikes 141 = .ok (.getfield 7, 3) := by decide +kernel
theorem dX6_strikes_144 : decode cX6_strikes 144 = .ok (.bipush 60, 2) := by decide +kernel
theorem dX6_strikes_146 : decode cX6_strikes 146 = .ok (.iload_n 3, 1) := by decide +kernel
theorem dX6_strikes_147 : decode cX6_strikes 147 = .ok (.iadd, 1) := by decide +kernel
theorem dX6_strikes_148 : decode cX6_strikes 148 = .ok (.iload 5, 2) := by decide +kernel
theorem dX6_strikes_150 : decode cX6_strikes 150 = .ok (.ifCond .eq 7, 3) := by decide +kernel
theorem dX6_strikes_153 : decode cX6_strikes 153 = .ok (.iconst 0, 1) := by decide +kernel
theorem dX6_strikes_154 : decode cX6_strikes 154 = .ok (.goto 15, 3) := by decide +kernel
theorem dX6_strikes_157 : decode cX6_strikes 157 = .ok (.aload_n 0, 1) := by decide +kernel
theorem dX6_strikes_158 : decode cX6_strikes 158 = .ok (.getfield 7, 3) := by decide +kernel
theorem dX6_strikes_161 : decode cX6_strikes 161 = .ok (.bipush 60, 2) := by decide +kernel
theorem dX6_strikes_163 : decode cX6_strikes 163 = .ok (.iload_n 3, 1) := by decide +kernel
theorem dX6_strikes_164 : decode cX6_strikes 164 = .ok (.iadd, 1) := by decide +kernel
theorem dX6_strikes_165 : decode cX6_strikes 165 = .ok (.iaload, 1) := by decide +kernel
theorem dX6_strikes_166 : decode cX6_strikes 166 = .ok (.invokestatic 54, 3) := by decide +kernel
theorem dX6_strikes_169 : decode cX6_strikes 169 = .ok (.iastore, 1) := by decide +kernel
theorem dX6_strikes_170 : decode cX6_strikes 170 = .ok (.iinc 3 1, 3) := by decide +kernel
theorem dX6_strikes_173 : decode cX6_strikes 173 = .ok (.goto (-161), 3) := by decide +kernel
theorem dX6_strikes_176 : decode cX6_strikes 176 = .ok (.aload_n 0, 1) := by decide +kernel
theorem dX6_strikes_177 : decode cX6_strikes 177 = .ok (.getfield 7, 3) := by decide +kernel
theorem dX6_strikes_180 : decode cX6_strikes 180 = .ok (.bipush 48, 2) := by decide +kernel
theorem dX6_strikes_182 : decode cX6_strikes 182 = .ok (.dup2, 1) := by decide +kernel
theorem dX6_strikes_183 : decode cX6_strikes 183 = .ok (.iaload, 1) := by decide +kernel
theorem dX6_strikes_184 : decode cX6_strikes 184 = .ok (.aload_n 0, 1) := by decide +kernel
theorem dX6_strikes_185 : decode cX6_strikes 185 = .ok (.getfield 7, 3) := by decide +kernel
theorem dX6_strikes_188 : decode cX6_strikes 188 = .ok (.bipush 32, 2) := by decide +kernel
theorem dX6_strikes_190 : decode cX6_strikes 190 = .ok (.iload_n 1, 1) := by decide +kernel
theorem dX6_strikes_191 : decode cX6_strikes 191 = .ok (.bipush 8, 2) := by decide +kernel
theorem dX6_strikes_193 : decode cX6_strikes 193 = .ok (.idiv, 1) := by decide +kernel
theorem dX6_strikes_194 : decode cX6_strikes 194 = .ok (.iadd, 1) := by decide +kernel
theorem dX6_strikes_195 : decode cX6_strikes 195 = .ok (.iaload, 1) := by decide +kernel
theorem dX6_strikes_196 : decode cX6_strikes 196 = .ok (.iadd, 1) := by decide +kernel
theorem dX6_strikes_197 : decode cX6_strikes 197 = .ok (.iastore, 1) := by decide +kernel
theorem dX6_strikes_198 : decode cX6_strikes 198 = .ok (.aload_n 0, 1) := by decide +kernel
theorem dX6_strikes_199 : decode cX6_strikes 199 = .ok (.getfield 7, 3) := by decide +kernel
theorem dX6_strikes_202 : decode cX6_strikes 202 = .ok (.bipush 47, 2) := by decide +kernel
theorem dX6_strikes_204 : decode cX6_strikes 204 = .ok (.iload_n 1, 1) := by decide +kernel
theorem dX6_strikes_205 : decode cX6_strikes 205 = .ok (.iconst 1, 1) := by decide +kernel
theorem dX6_strikes_206 : decode cX6_strikes 206 = .ok (.iadd, 1) := by decide +kernel
theorem dX6_strikes_207 : decode cX6_strikes 207 = .ok (.bipush 32, 2) := by decide +kernel
theorem dX6_strikes_209 : decode cX6_strikes 209 = .ok (.irem, 1) := by decide +kernel
theorem dX6_strikes_210 : decode cX6_strikes 210 = .ok (.iastore, 1) := by decide +kernel
theorem dX6_strikes_211 : decode cX6_strikes 211 = .ok (.iload_n 2, 1) := by decide +kernel
theorem dX6_strikes_212 : decode cX6_strikes 212 = .ok (.invokestatic 43, 3) := by decide +kernel
theorem dX6_strikes_215 : decode cX6_strikes 215 = .ok (.ireturn, 1) := by decide +kernel
set_option maxRecDepth 20000 in
theorem ggX6_cranks_X6_strikes : GoodIn wsX6_cranks wsX6_strikes := goodIn_r _ [5, 6, 7, 8, 9, 4, 10, 11, 12, 13, 14, 15, 16, 17, 18, 19, 20, 21, 22, 23, 24, 25, 26, 27, 28, 29, 30, 31] (by decide +kernel) (by decide +kernel)
set_option maxRecDepth 20000 in
theorem gX6_cranks_X6_strikes : GoodIn wsX6_cranks (wsV RX6 57 RX6 yX6_strikes wsX6_strikes) := goodIn_app (goodIn_of _ (by decide +kernel)) ggX6_cranks_X6_strikes
theorem dX6_cranks_0 : decode cX6_cranks 0 = .ok (.iconst 0, 1) := by decide +kernel
theorem dX6_cranks_1 : decode cX6_cranks 1 = .ok (.istore_n 2, 1) := by decide +kernel
theorem dX6_cranks_2 : decode cX6_cranks 2 = .ok (.iconst 0, 1) := by decide +kernel
theorem dX6_cranks_3 : decode cX6_cranks 3 = .ok (.istore_n 3, 1) := by decide +kernel
theorem dX6_cranks_4 : decode cX6_cranks 4 = .ok (.iload_n 3, 1) := by decide +kernel
theorem dX6_cranks_5 : decode cX6_cranks 5 = .ok (.iload_n 1, 1) := by decide +kernel
theorem dX6_cranks_6 : decode cX6_cranks 6 = .ok (.if_icmp .ge 16, 3) := by decide +kernel
theorem dX6_cranks_9 : decode cX6_cranks 9 = .ok (.iload_n 2, 1) := by decide +kernel
theorem dX6_cranks_10 : decode cX6_cranks 10 = .ok (.aload_n 0, 1) := by decide +kernel
theorem dX6_cranks_11 : decode cX6_cranks 11 = .ok (.invokevirtual 57, 3) := by decide +kernel
theorem dX6_cranks_14 : decode cX6_cranks 14 = .ok (.iadd, 1) := by decide +kernel
theorem dX6_cranks_15 : decode cX6_cranks 15 = .ok (.istore_n 2, 1) := by decide +kernel
theorem dX6_cranks_16 : decode cX6_cranks 16 = .ok (.iinc 3 1, 3) := by decide +kernel
theorem dX6_cranks_19 : decode cX6_cranks 19 = .ok (.goto (-15), 3) := by decide +kernel
theorem dX6_cranks_22 : decode cX6_cranks 22 = .ok (.iload_n 2, 1) := by decide +kernel
theorem dX6_cranks_23 : decode cX6_cranks 23 = .ok (.ireturn, 1) := by decide +kernel
set_option maxRecDepth 20000 in
theorem ggX6_rounds_X6_missedFor : GoodIn wsX6_rounds wsX6_missedFor := goodIn_r _ [9, 3, 10, 11, 12, 8, 13, 17, 18, 19, 20, 21, 22, 23, 24, 25, 26, 27] (by decide +kernel) (by decide +kernel)
set_option maxRecDepth 20000 in
theorem gX6_rounds_X6_missedFor : GoodIn wsX6_rounds (wsV RX6 50 RX6 yX6_missedFor wsX6_missedFor) := goodIn_app (goodIn_of _ (by decide +kernel)) ggX6_rounds_X6_missedFor
set_option maxRecDepth 20000 in
theorem ggX6_rounds_X6_later : GoodIn wsX6_rounds wsX6_later := goodIn_r _ [16] (by decide +kernel) (by decide +kernel)
set_option maxRecDepth 20000 in
theorem gX6_rounds_X6_later : GoodIn wsX6_rounds (va_wsS RX6 54 yX6_later wsX6_later) := goodIn_app (goodIn_of _ (by decide +kernel)) ggX6_rounds_X6_later
theorem dX6_rounds_0 : decode cX6_rounds 0 = .ok (.aload_n 0, 1) := by decide +kernel
theorem dX6_rounds_1 : decode cX6_rounds 1 = .ok (.iconst 0, 1) := by decide +kernel
theorem dX6_rounds_2 : decode cX6_rounds 2 = .ok (.putfield 61, 3) := by decide +kernel
theorem dX6_rounds_5 : decode cX6_rounds 5 = .ok (.iconst 0, 1) := by decide +kernel
theorem dX6_rounds_6 : decode cX6_rounds 6 = .ok (.istore_n 2, 1) := by decide +kernel
theorem dX6_rounds_7 : decode cX6_rounds 7 = .ok (.iload_n 2, 1) := by decide +kernel
theorem dX6_rounds_8 : decode cX6_rounds 8 = .ok (.bipush 10, 2) := by decide +kernel
theorem dX6_rounds_10 : decode cX6_rounds 10 = .ok (.if_icmp .ge 17, 3) := by decide +kernel
theorem dX6_rounds_13 : decode cX6_rounds 13 = .ok (.aload_n 0, 1) := by decide +kernel
theorem dX6_rounds_14 : decode cX6_rounds 14 = .ok (.getfield 26, 3) := by decide +kernel
theorem dX6_rounds_17 : decode cX6_rounds 17 = .ok (.iload_n 2, 1) := by decide +kernel
theorem dX6_rounds_18 : decode cX6_rounds 18 = .ok (.bipush 9, 2) := by decide +kernel
theorem dX6_rounds_20 : decode cX6_rounds 20 = .ok (.iastore, 1) := by decide +kernel
theorem dX6_rounds_21 : decode cX6_rounds 21 = .ok (.iinc 2 1, 3) := by decide +kernel
theorem dX6_rounds_24 : decode cX6_rounds 24 = .ok (.goto (-17), 3) := by decide +kernel
theorem dX6_rounds_27 : decode cX6_rounds 27 = .ok (.iconst 0, 1) := by decide +kernel
theorem dX6_rounds_28 : decode cX6_rounds 28 = .ok (.istore_n 2, 1) := by decide +kernel
theorem dX6_rounds_29 : decode cX6_rounds 29 = .ok (.iload_n 2, 1) := by decide +kernel
theorem dX6_rounds_30 : decode cX6_rounds 30 = .ok (.bipush 32, 2) := by decide +kernel
theorem dX6_rounds_32 : decode cX6_rounds 32 = .ok (.if_icmp .ge 159, 3) := by decide +kernel
theorem dX6_rounds_35 : decode cX6_rounds 35 = .ok (.iconst 0, 1) := by decide +kernel
theorem dX6_rounds_36 : decode cX6_rounds 36 = .ok (.istore_n 3, 1) := by decide +kernel
theorem dX6_rounds_37 : decode cX6_rounds 37 = .ok (.iconst 0, 1) := by decide +kernel
theorem dX6_rounds_38 : decode cX6_rounds 38 = .ok (.istore 4, 2) := by decide +kernel
theorem dX6_rounds_40 : decode cX6_rounds 40 = .ok (.iload 4, 2) := by decide +kernel
theorem dX6_rounds_42 : decode cX6_rounds 42 = .ok (.bipush 10, 2) := by decide +kernel
theorem dX6_rounds_44 : decode cX6_rounds 44 = .ok (.if_icmp .ge 134, 3) := by decide +kernel
theorem dX6_rounds_47 : decode cX6_rounds 47 = .ok (.aload_n 0, 1) := by decide +kernel
theorem dX6_rounds_48 : decode cX6_rounds 48 = .ok (.getfield 7, 3) := by decide +kernel
theorem dX6_rounds_51 : decode cX6_rounds 51 = .ok (.iconst 0, 1) := by decide +kernel
theorem dX6_rounds_52 : decode cX6_rounds 52 = .ok (.iload_n 2, 1) := by decide +kernel
theorem dX6_rounds_53 : decode cX6_rounds 53 = .ok (.iadd, 1) := by decide +kernel
theorem dX6_rounds_54 : decode cX6_rounds 54 = .ok (.iaload, 1) := by decide +kernel
theorem dX6_rounds_55 : decode cX6_rounds 55 = .ok (.iload 4, 2) := by decide +kernel
theorem dX6_rounds_57 : decode cX6_rounds 57 = .ok (.ishr, 1) := by decide +kernel
theorem dX6_rounds_58 : decode cX6_rounds 58 = .ok (.iconst 1, 1) := by decide +kernel
theorem dX6_rounds_59 : decode cX6_rounds 59 = .ok (.iand, 1) := by decide +kernel
theorem dX6_rounds_60 : decode cX6_rounds 60 = .ok (.iconst 1, 1) := by decide +kernel
theorem dX6_rounds_61 : decode cX6_rounds 61 = .ok (.if_icmp .ne 7, 3) := by decide +kernel
theorem dX6_rounds_64 : decode cX6_rounds 64 = .ok (.iconst 1, 1) := by decide +kernel
theorem dX6_rounds_65 : decode cX6_rounds 65 = .ok (.goto 4, 3) := by decide +kernel
theorem dX6_rounds_68 : decode cX6_rounds 68 = .ok (.iconst 0, 1) := by decide +kernel
theorem dX6_rounds_69 : decode cX6_rounds 69 = .ok (.istore 5, 2) := by decide +kernel
theorem dX6_rounds_71 : decode cX6_rounds 71 = .ok (.aload_n 0, 1) := by decide +kernel
theorem dX6_rounds_72 : decode cX6_rounds 72 = .ok (.iload 4, 2) := by decide +kernel
theorem dX6_rounds_74 : decode cX6_rounds 74 = .ok (.iload_n 3, 1) := by decide +kernel
theorem dX6_rounds_75 : decode cX6_rounds 75 = .ok (.aload_n 0, 1) := by decide +kernel
theorem dX6_rounds_76 : decode cX6_rounds 76 = .ok (.getfield 26, 3) := by decide +kernel
theorem dX6_rounds_79 : decode cX6_rounds 79 = .ok (.iload 4, 2) := by decide +kernel
theorem dX6_rounds_81 : decode cX6_rounds 81 = .ok (.iaload, 1) := by decide +kernel
theorem dX6_rounds_82 : decode cX6_rounds 82 = .ok (.iload_n 1, 1) := by decide +kernel
theorem dX6_rounds_83 : decode cX6_rounds 83 = .ok (.invokevirtual 50, 3) := by decide +kernel
theorem dX6_rounds_86 : decode cX6_rounds 86 = .ok (.istore 6, 2) := by decide +kernel
theorem dX6_rounds_88 : decode cX6_rounds 88 = .ok (.iload 5, 2) := by decide +kernel
theorem dX6_rounds_90 : decode cX6_rounds 90 = .ok (.ifCond .eq 12, 3) := by decide +kernel
theorem dX6_rounds_93 : decode cX6_rounds 93 = .ok (.iload 6, 2) := by decide +kernel
theorem dX6_rounds_95 : decode cX6_rounds 95 = .ok (.ifCond .ne 7, 3) := by decide +kernel
theorem dX6_rounds_98 : decode cX6_rounds 98 = .ok (.iconst 1, 1) := by decide +kernel
theorem dX6_rounds_99 : decode cX6_rounds 99 = .ok (.goto 4, 3) := by decide +kernel
theorem dX6_rounds_102 : decode cX6_rounds 102 = .ok (.iconst 0, 1) := by decide +kernel
theorem dX6_rounds_103 : decode cX6_rounds 103 = .ok (.istore 7, 2) := by decide +kernel
theorem dX6_rounds_105 : decode cX6_rounds 105 = .ok (.iload_n 3, 1) := by decide +kernel
theorem dX6_rounds_106 : decode cX6_rounds 106 = .ok (.iload 7, 2) := by decide +kernel
theorem dX6_rounds_108 : decode cX6_rounds 108 = .ok (.ifCond .eq 10, 3) := by decide +kernel
theorem dX6_rounds_111 : decode cX6_rounds 111 = .ok (.iconst 1, 1) := by decide +kernel
theorem dX6_rounds_112 : decode cX6_rounds 112 = .ok (.iload 4, 2) := by decide +kernel
theorem dX6_rounds_114 : decode cX6_rounds 114 = .ok (.ishl, 1) := by decide +kernel
theorem dX6_rounds_115 : decode cX6_rounds 115 = .ok (.goto 4, 3) := by decide +kernel
theorem dX6_rounds_118 : decode cX6_rounds 118 = .ok (.iconst 0, 1) := by decide +kernel
theorem dX6_rounds_119 : decode cX6_rounds 119 = .ok (.ior, 1) := by decide +kernel
theorem dX6_rounds_120 : decode cX6_rounds 120 = .ok (.istore_n 3, 1) := by decide +kernel
theorem dX6_rounds_121 : decode cX6_rounds 121 = .ok (.aload_n 0, 1) := by decide +kernel
theorem dX6_rounds_122 : decode cX6_rounds 122 = .ok (.dup, 1) := by decide +kernel
theorem dX6_rounds_123 : decode cX6_rounds 123 = .ok (.getfield 61, 3) := by decide +kernel
theorem dX6_rounds_126 : decode cX6_rounds 126 = .ok (.iload 5, 2) := by decide +kernel
theorem dX6_rounds_128 : decode cX6_rounds 128 = .ok (.ifCond .eq 13, 3) := by decide +kernel
theorem dX6_rounds_131 : decode cX6_rounds 131 = .ok (.iload 6, 2) := by decide +kernel
theorem dX6_rounds_133 : decode cX6_rounds 133 = .ok (.iconst 2, 1) := by decide +kernel
theorem dX6_rounds_134 : decode cX6_rounds 134 = .ok (.if_icmp .ne 7, 3) := by decide +kernel
theorem dX6_rounds_137 : decode cX6_rounds 137 = .ok (.iconst 1, 1) := by decide +kernel
theorem dX6_rounds_138 : decode cX6_rounds 138 = .ok (.goto 4, 3) := by decide +kernel
theorem dX6_rounds_141 : decode cX6_rounds 141 = .ok (.iconst 0, 1) := by decide +kernel
theorem dX6_rounds_142 : decode cX6_rounds 142 = .ok (.iadd, 1) := by decide +kernel
theorem dX6_rounds_143 : decode cX6_rounds 143 = .ok (.putfield 61, 3) := by decide +kernel
theorem dX6_rounds_146 : decode cX6_rounds 146 = .ok (.aload_n 0, 1) := by decide +kernel
theorem dX6_rounds_147 : decode cX6_rounds 147 = .ok (.getfield 26, 3) := by decide +kernel
theorem dX6_rounds_150 : decode cX6_rounds 150 = .ok (.iload 4, 2) := by decide +kernel
theorem dX6_rounds_152 : decode cX6_rounds 152 = .ok (.iload 7, 2) := by decide +kernel
theorem dX6_rounds_154 : decode cX6_rounds 154 = .ok (.ifCond .eq 7, 3) := by decide +kernel
theorem dX6_rounds_157 : decode cX6_rounds 157 = .ok (.iconst 0, 1) := by decide +kernel
theorem dX6_rounds_158 : decode cX6_rounds 158 = .ok (.goto 13, 3) := by decide +kernel
theorem dX6_rounds_161 : decode cX6_rounds 161 = .ok (.aload_n 0, 1) := by decide +kernel
theorem dX6_rounds_162 : decode cX6_rounds 162 = .ok (.getfield 26, 3) := by decide +kernel
theorem dX6_rounds_165 : decode cX6_rounds 165 = .ok (.iload 4, 2) := by decide +kernel
theorem dX6_rounds_167 : decode cX6_rounds 167 = .ok (.iaload, 1) := by decide +kernel
theorem dX6_rounds_168 : decode cX6_rounds 168 = .ok (.invokestatic 54, 3) := by decide +kernel
theorem dX6_rounds_171 : decode cX6_rounds 171 = .ok (.iastore, 1) := by decide +kernel
theorem dX6_rounds_172 : decode cX6_rounds 172 = .ok (.iinc 4 1, 3) := by decide +kernel
theorem dX6_rounds_175 : decode cX6_rounds 175 = .ok (.goto (-135), 3) := by decide +kernel
theorem dX6_rounds_178 : decode cX6_rounds 178 = .ok (.aload_n 0, 1) := by decide +kernel
theorem dX6_rounds_179 : decode cX6_rounds 179 = .ok (.getfield 29, 3) := by decide +kernel
theorem dX6_rounds_182 : decode cX6_rounds 182 = .ok (.iload_n 2, 1) := by decide +kernel
theorem dX6_rounds_183 : decode cX6_rounds 183 = .ok (.iload_n 3, 1) := by decide +kernel
theorem dX6_rounds_184 : decode cX6_rounds 184 = .ok (.iastore, 1) := by decide +kernel
theorem dX6_rounds_185 : decode cX6_rounds 185 = .ok (.iinc 2 1, 3) := by decide +kernel
theorem dX6_rounds_188 : decode cX6_rounds 188 = .ok (.goto (-159), 3) := by decide +kernel
theorem dX6_rounds_191 : decode cX6_rounds 191 = .ok (.return_, 1) := by decide +kernel
set_option maxRecDepth 20000 in
theorem ggX6_heardOfRound_X6_rounds : GoodIn wsX6_heardOfRound wsX6_rounds := goodIn_r _ [7, 8, 9, 1, 2, 10, 11, 12, 6, 13, 14, 15, 16, 17, 18, 19, 20, 24, 25, 26, 27, 28, 29, 30, 31, 32, 33, 34] (by decide +kernel) (by decide +kernel)
set_option maxRecDepth 20000 in
theorem gX6_heardOfRound_X6_rounds : GoodIn wsX6_heardOfRound (wsV RX6 64 RX6 yX6_rounds wsX6_rounds) := goodIn_app (goodIn_of _ (by decide +kernel)) ggX6_heardOfRound_X6_rounds
set_option maxRecDepth 20000 in
theorem ggX6_heardOfRound_X6_count : GoodIn wsX6_heardOfRound wsX6_count := goodIn_r _ [23] (by decide +kernel) (by decide +kernel)
set_option maxRecDepth 20000 in
theorem gX6_heardOfRound_X6_count : GoodIn wsX6_heardOfRound (va_wsS RX6 43 yX6_count wsX6_count) := goodIn_app (goodIn_of _ (by decide +kernel)) ggX6_heardOfRound_X6_count
theorem dX6_heardOfRound_0 : decode cX6_heardOfRound 0 = .ok (.aload_n 0, 1) := by decide +kernel
theorem dX6_heardOfRound_1 : decode cX6_heardOfRound 1 = .ok (.aload_n 0, 1) := by decide +kernel
theorem dX6_heardOfRound_2 : decode cX6_heardOfRound 2 = .ok (.getfield 7, 3) := by decide +kernel
theorem dX6_heardOfRound_5 : decode cX6_heardOfRound 5 = .ok (.bipush 46, 2) := by decide +kernel
theorem dX6_heardOfRound_7 : decode cX6_heardOfRound 7 = .ok (.iaload, 1) := by decide +kernel
theorem dX6_heardOfRound_8 : decode cX6_heardOfRound 8 = .ok (.invokevirtual 64, 3) := by decide +kernel
theorem dX6_heardOfRound_11 : decode cX6_heardOfRound 11 = .ok (.iconst 0, 1) := by decide +kernel
theorem dX6_heardOfRound_12 : decode cX6_heardOfRound 12 = .ok (.istore_n 1, 1) := by decide +kernel
theorem dX6_heardOfRound_13 : decode cX6_heardOfRound 13 = .ok (.iconst 0, 1) := by decide +kernel
theorem dX6_heardOfRound_14 : decode cX6_heardOfRound 14 = .ok (.istore_n 2, 1) := by decide +kernel
theorem dX6_heardOfRound_15 : decode cX6_heardOfRound 15 = .ok (.iload_n 2, 1) := by decide +kernel
theorem dX6_heardOfRound_16 : decode cX6_heardOfRound 16 = .ok (.bipush 32, 2) := by decide +kernel
theorem dX6_heardOfRound_18 : decode cX6_heardOfRound 18 = .ok (.if_icmp .ge 21, 3) := by decide +kernel
theorem dX6_heardOfRound_21 : decode cX6_heardOfRound 21 = .ok (.iload_n 1, 1) := by decide +kernel
theorem dX6_heardOfRound_22 : decode cX6_heardOfRound 22 = .ok (.aload_n 0, 1) := by decide +kernel
theorem dX6_heardOfRound_23 : decode cX6_heardOfRound 23 = .ok (.getfield 29, 3) := by decide +kernel
theorem dX6_heardOfRound_26 : decode cX6_heardOfRound 26 = .ok (.iload_n 2, 1) := by decide +kernel
theorem dX6_heardOfRound_27 : decode cX6_heardOfRound 27 = .ok (.iaload, 1) := by decide +kernel
theorem dX6_heardOfRound_28 : decode cX6_heardOfRound 28 = .ok (.invokestatic 43, 3) := by decide +kernel
theorem dX6_heardOfRound_31 : decode cX6_heardOfRound 31 = .ok (.iadd, 1) := by decide +kernel
theorem dX6_heardOfRound_32 : decode cX6_heardOfRound 32 = .ok (.istore_n 1, 1) := by decide +kernel
theorem dX6_heardOfRound_33 : decode cX6_heardOfRound 33 = .ok (.iinc 2 1, 3) := by decide +kernel
theorem dX6_heardOfRound_36 : decode cX6_heardOfRound 36 = .ok (.goto (-21), 3) := by decide +kernel
theorem dX6_heardOfRound_39 : decode cX6_heardOfRound 39 = .ok (.iload_n 1, 1) := by decide +kernel
theorem dX6_heardOfRound_40 : decode cX6_heardOfRound 40 = .ok (.ireturn, 1) := by decide +kernel
set_option maxRecDepth 20000 in
theorem ggX6_turnPeg_X6_isColumn : GoodIn wsX6_turnPeg wsX6_isColumn := goodIn_r _ [5, 6, 7, 4, 8] (by decide +kernel) (by decide +kernel)
set_option maxRecDepth 20000 in
theorem gX6_turnPeg_X6_isColumn : GoodIn wsX6_turnPeg (va_wsS RX6 68 yX6_isColumn wsX6_isColumn) := goodIn_app (goodIn_of _ (by decide +kernel)) ggX6_turnPeg_X6_isColumn
set_option maxRecDepth 20000 in
theorem ggX6_turnPeg_X6_isBell : GoodIn wsX6_turnPeg wsX6_isBell := goodIn_r _ [11, 6, 7, 4, 8] (by decide +kernel) (by decide +kernel)
set_option maxRecDepth 20000 in
theorem gX6_turnPeg_X6_isBell : GoodIn wsX6_turnPeg (va_wsS RX6 72 yX6_isBell wsX6_isBell) := goodIn_app (goodIn_of _ (by decide +kernel)) ggX6_turnPeg_X6_isBell
set_option maxRecDepth 20000 in
theorem ggX6_turnPeg_X6_holds : GoodIn wsX6_turnPeg wsX6_holds := goodIn_r _ [15, 16, 23, 24, 25, 26, 27, 28, 29, 30, 31, 32, 33] (by decide +kernel) (by decide +kernel)
set_option maxRecDepth 20000 in
theorem gX6_turnPeg_X6_holds : GoodIn wsX6_turnPeg (wsV RX6 75 RX6 yX6_holds wsX6_holds) := goodIn_app (goodIn_of _ (by decide +kernel)) ggX6_turnPeg_X6_holds
set_option maxRecDepth 20000 in
theorem ggX6_turnPeg_X6_records : GoodIn wsX6_turnPeg wsX6_records := goodIn_r _ [20, 21, 22, 1, 23, 24, 25, 26, 27, 28, 29, 30, 31, 32, 33] (by decide +kernel) (by decide +kernel)
set_option maxRecDepth 20000 in
theorem gX6_turnPeg_X6_records : GoodIn wsX6_turnPeg (wsV RX6 78 RX6 yX6_records wsX6_records) := goodIn_app (goodIn_of _ (by decide +kernel)) ggX6_turnPeg_X6_records
theorem dX6_turnPeg_0 : decode cX6_turnPeg 0 = .ok (.aload_n 0, 1) := by decide +kernel
theorem dX6_turnPeg_1 : decode cX6_turnPeg 1 = .ok (.iload_n 1, 1) := by decide +kernel
theorem dX6_turnPeg_2 : decode cX6_turnPeg 2 = .ok (.invokestatic 68, 3) := by decide +kernel
theorem dX6_turnPeg_5 : decode cX6_turnPeg 5 = .ok (.ifCond .eq 14, 3) := by decide +kernel
theorem dX6_turnPeg_8 : decode cX6_turnPeg 8 = .ok (.iload_n 2, 1) := by decide +kernel
theorem dX6_turnPeg_9 : decode cX6_turnPeg 9 = .ok (.invokestatic 72, 3) := by decide +kernel
theorem dX6_turnPeg_12 : decode cX6_turnPeg 12 = .ok (.ifCond .eq 7, 3) := by decide +kernel
theorem dX6_turnPeg_15 : decode cX6_turnPeg 15 = .ok (.iconst 0, 1) := by decide +kernel
theorem dX6_turnPeg_16 : decode cX6_turnPeg 16 = .ok (.goto 4, 3) := by decide +kernel
theorem dX6_turnPeg_19 : decode cX6_turnPeg 19 = .ok (.iconst 1, 1) := by decide +kernel
theorem dX6_turnPeg_20 : decode cX6_turnPeg 20 = .ok (.invokevirtual 75, 3) := by decide +kernel
theorem dX6_turnPeg_23 : decode cX6_turnPeg 23 = .ok (.ifCond .ne 5, 3) := by decide +kernel
theorem dX6_turnPeg_26 : decode cX6_turnPeg 26 = .ok (.iconst 0, 1) := by decide +kernel
theorem dX6_turnPeg_27 : decode cX6_turnPeg 27 = .ok (.ireturn, 1) := by decide +kernel
theorem dX6_turnPeg_28 : decode cX6_turnPeg 28 = .ok (.aload_n 0, 1) := by decide +kernel
theorem dX6_turnPeg_29 : decode cX6_turnPeg 29 = .ok (.invokevirtual 78, 3) := by decide +kernel
theorem dX6_turnPeg_32 : decode cX6_turnPeg 32 = .ok (.aload_n 0, 1) := by decide +kernel
theorem dX6_turnPeg_33 : decode cX6_turnPeg 33 = .ok (.getfield 7, 3) := by decide +kernel
theorem dX6_turnPeg_36 : decode cX6_turnPeg 36 = .ok (.iconst 0, 1) := by decide +kernel
theorem dX6_turnPeg_37 : decode cX6_turnPeg 37 = .ok (.iload_n 1, 1) := by decide +kernel
theorem dX6_turnPeg_38 : decode cX6_turnPeg 38 = .ok (.iadd, 1) := by decide +kernel
theorem dX6_turnPeg_39 : decode cX6_turnPeg 39 = .ok (.dup2, 1) := by decide +kernel
theorem dX6_turnPeg_40 : decode cX6_turnPeg 40 = .ok (.iaload, 1) := by decide +kernel
theorem dX6_turnPeg_41 : decode cX6_turnPeg 41 = .ok (.iconst 1, 1) := by decide +kernel
theorem dX6_turnPeg_42 : decode cX6_turnPeg 42 = .ok (.iload_n 2, 1) := by decide +kernel
theorem dX6_turnPeg_43 : decode cX6_turnPeg 43 = .ok (.ishl, 1) := by decide +kernel
theorem dX6_turnPeg_44 : decode cX6_turnPeg 44 = .ok (.ixor, 1) := by decide +kernel
theorem dX6_turnPeg_45 : decode cX6_turnPeg 45 = .ok (.iastore, 1) := by decide +kernel
theorem dX6_turnPeg_46 : decode cX6_turnPeg 46 = .ok (.aload_n 0, 1) := by decide +kernel
theorem dX6_turnPeg_47 : decode cX6_turnPeg 47 = .ok (.getfield 7, 3) := by decide +kernel
theorem dX6_turnPeg_50 : decode cX6_turnPeg 50 = .ok (.iconst 0, 1) := by decide +kernel
theorem dX6_turnPeg_51 : decode cX6_turnPeg 51 = .ok (.iload_n 1, 1) := by decide +kernel
theorem dX6_turnPeg_52 : decode cX6_turnPeg 52 = .ok (.iadd, 1) := by decide +kernel
theorem dX6_turnPeg_53 : decode cX6_turnPeg 53 = .ok (.iaload, 1) := by decide +kernel
theorem dX6_turnPeg_54 : decode cX6_turnPeg 54 = .ok (.iload_n 2, 1) := by decide +kernel
theorem dX6_turnPeg_55 : decode cX6_turnPeg 55 = .ok (.ishr, 1) := by decide +kernel
theorem dX6_turnPeg_56 : decode cX6_turnPeg 56 = .ok (.iconst 1, 1) := by decide +kernel
theorem dX6_turnPeg_57 : decode cX6_turnPeg 57 = .ok (.iand, 1) := by decide +kernel
theorem dX6_turnPeg_58 : decode cX6_turnPeg 58 = .ok (.iconst 1, 1) := by decide +kernel
theorem dX6_turnPeg_59 : decode cX6_turnPeg 59 = .ok (.if_icmp .ne 7, 3) := by decide +kernel
theorem dX6_turnPeg_62 : decode cX6_turnPeg 62 = .ok (.iconst 1, 1) := by decide +kernel
theorem dX6_turnPeg_63 : decode cX6_turnPeg 63 = .ok (.goto 4, 3) := by decide +kernel
theorem dX6_turnPeg_66 : decode cX6_turnPeg 66 = .ok (.iconst 0, 1) := by decide +kernel
theorem dX6_turnPeg_67 : decode cX6_turnPeg 67 = .ok (.ireturn, 1) := by decide +kernel
set_option maxRecDepth 20000 in
theorem ggX6_lays_X6_count : GoodIn wsX6_lays wsX6_count := goodIn_r _ [5] (by decide +kernel) (by decide +kernel)
set_option maxRecDepth 20000 in
theorem gX6_lays_X6_count : GoodIn wsX6_lays (va_wsS RX6 43 yX6_count wsX6_count) := goodIn_app (goodIn_of _ (by decide +kernel)) ggX6_lays_X6_count
theorem dX6_lays_0 : decode cX6_lays 0 = .ok (.aload_n 0, 1) := by decide +kernel
theorem dX6_lays_1 : decode cX6_lays 1 = .ok (.getfield 7, 3) := by decide +kernel
theorem dX6_lays_4 : decode cX6_lays 4 = .ok (.iconst 0, 1) := by decide +kernel
theorem dX6_lays_5 : decode cX6_lays 5 = .ok (.iload_n 1, 1) := by decide +kernel
theorem dX6_lays_6 : decode cX6_lays 6 = .ok (.iadd, 1) := by decide +kernel
theorem dX6_lays_7 : decode cX6_lays 7 = .ok (.iaload, 1) := by decide +kernel
theorem dX6_lays_8 : decode cX6_lays 8 = .ok (.iload_n 2, 1) := by decide +kernel
theorem dX6_lays_9 : decode cX6_lays 9 = .ok (.ixor, 1) := by decide +kernel
theorem dX6_lays_10 : decode cX6_lays 10 = .ok (.invokestatic 43, 3) := by decide +kernel
theorem dX6_lays_13 : decode cX6_lays 13 = .ok (.istore_n 3, 1) := by decide +kernel
theorem dX6_lays_14 : decode cX6_lays 14 = .ok (.aload_n 0, 1) := by decide +kernel
theorem dX6_lays_15 : decode cX6_lays 15 = .ok (.getfield 7, 3) := by decide +kernel
theorem dX6_lays_18 : decode cX6_lays 18 = .ok (.iconst 0, 1) := by decide +kernel
theorem dX6_lays_19 : decode cX6_lays 19 = .ok (.iload_n 1, 1) := by decide +kernel
theorem dX6_lays_20 : decode cX6_lays 20 = .ok (.iadd, 1) := by decide +kernel
theorem dX6_lays_21 : decode cX6_lays 21 = .ok (.iload_n 2, 1) := by decide +kernel
theorem dX6_lays_22 : decode cX6_lays 22 = .ok (.iastore, 1) := by decide +kernel
theorem dX6_lays_23 : decode cX6_lays 23 = .ok (.iload_n 3, 1) := by decide +kernel
theorem dX6_lays_24 : decode cX6_lays 24 = .ok (.ireturn, 1) := by decide +kernel
set_option maxRecDepth 20000 in
theorem ggX6_setColumn_X6_isColumn : GoodIn wsX6_setColumn wsX6_isColumn := goodIn_r _ [4, 5, 6, 3, 7] (by decide +kernel) (by decide +kernel)
set_option maxRecDepth 20000 in
theorem gX6_setColumn_X6_isColumn : GoodIn wsX6_setColumn (va_wsS RX6 68 yX6_isColumn wsX6_isColumn) := goodIn_app (goodIn_of _ (by decide +kernel)) ggX6_setColumn_X6_isColumn
set_option maxRecDepth 20000 in
theorem ggX6_setColumn_X6_in : GoodIn wsX6_setColumn wsX6_in := goodIn_r _ [7] (by decide +kernel) (by decide +kernel)
set_option maxRecDepth 20000 in
theorem gX6_setColumn_X6_in : GoodIn wsX6_setColumn (va_wsS RX6 36 yX6_in wsX6_in) := goodIn_app (goodIn_of _ (by decide +kernel)) ggX6_setColumn_X6_in
set_option maxRecDepth 20000 in
theorem ggX6_setColumn_X6_holds : GoodIn wsX6_setColumn wsX6_holds := goodIn_r _ [11, 12, 27, 28, 29, 30, 31, 32, 33, 34, 35, 36, 37] (by decide +kernel) (by decide +kernel)
set_option maxRecDepth 20000 in
theorem gX6_setColumn_X6_holds : GoodIn wsX6_setColumn (wsV RX6 75 RX6 yX6_holds wsX6_holds) := goodIn_app (goodIn_of _ (by decide +kernel)) ggX6_setColumn_X6_holds
set_option maxRecDepth 20000 in
theorem ggX6_setColumn_X6_records : GoodIn wsX6_setColumn wsX6_records := goodIn_r _ [16, 17, 18, 19, 27, 28, 29, 30, 31, 32, 33, 34, 35, 36, 37] (by decide +kernel) (by decide +kernel)
set_option maxRecDepth 20000 in
theorem gX6_setColumn_X6_records : GoodIn wsX6_setColumn (wsV RX6 78 RX6 yX6_records wsX6_records) := goodIn_app (goodIn_of _ (by decide +kernel)) ggX6_setColumn_X6_records
set_option maxRecDepth 20000 in
theorem ggX6_setColumn_X6_lays : GoodIn wsX6_setColumn wsX6_lays := goodIn_r _ [23, 19, 24, 25, 3, 26, 27, 28, 29, 30, 31, 32, 33, 34, 35, 36, 37] (by decide +kernel) (by decide +kernel)
set_option maxRecDepth 20000 in
theorem gX6_setColumn_X6_lays : GoodIn wsX6_setColumn (wsV RX6 81 RX6 yX6_lays wsX6_lays) := goodIn_app (goodIn_of _ (by decide +kernel)) ggX6_setColumn_X6_lays
theorem dX6_setColumn_0 : decode cX6_setColumn 0 = .ok (.aload_n 0, 1) := by decide +kernel
theorem dX6_setColumn_1 : decode cX6_setColumn 1 = .ok (.iload_n 1, 1) := by decide +kernel
theorem dX6_setColumn_2 : decode cX6_setColumn 2 = .ok (.invokestatic 68, 3) := by decide +kernel
theorem dX6_setColumn_5 : decode cX6_setColumn 5 = .ok (.ifCond .ne 7, 3) := by decide +kernel
theorem dX6_setColumn_8 : decode cX6_setColumn 8 = .ok (.iconst 1, 1) := by decide +kernel
theorem dX6_setColumn_9 : decode cX6_setColumn 9 = .ok (.goto 19, 3) := by decide +kernel
theorem dX6_setColumn_12 : decode cX6_setColumn 12 = .ok (.iload_n 2, 1) := by decide +kernel
theorem dX6_setColumn_13 : decode cX6_setColumn 13 = .ok (.iconst 0, 1) := by decide +kernel
theorem dX6_setColumn_14 : decode cX6_setColumn 14 = .ok (.sipush 1023, 3) := by decide +kernel
theorem dX6_setColumn_17 : decode cX6_setColumn 17 = .ok (.invokestatic 36, 3) := by decide +kernel
theorem dX6_setColumn_20 : decode cX6_setColumn 20 = .ok (.ifCond .eq 7, 3) := by decide +kernel
theorem dX6_setColumn_23 : decode cX6_setColumn 23 = .ok (.iconst 0, 1) := by decide +kernel
theorem dX6_setColumn_24 : decode cX6_setColumn 24 = .ok (.goto 4, 3) := by decide +kernel
theorem dX6_setColumn_27 : decode cX6_setColumn 27 = .ok (.iconst 2, 1) := by decide +kernel
theorem dX6_setColumn_28 : decode cX6_setColumn 28 = .ok (.invokevirtual 75, 3) := by decide +kernel
theorem dX6_setColumn_31 : decode cX6_setColumn 31 = .ok (.ifCond .ne 5, 3) := by decide +kernel
theorem dX6_setColumn_34 : decode cX6_setColumn 34 = .ok (.iconst 0, 1) := by decide +kernel
theorem dX6_setColumn_35 : decode cX6_setColumn 35 = .ok (.ireturn, 1) := by decide +kernel
theorem dX6_setColumn_36 : decode cX6_setColumn 36 = .ok (.aload_n 0, 1) := by decide +kernel
theorem dX6_setColumn_37 : decode cX6_setColumn 37 = .ok (.invokevirtual 78, 3) := by decide +kernel
theorem dX6_setColumn_40 : decode cX6_setColumn 40 = .ok (.aload_n 0, 1) := by decide +kernel
theorem dX6_setColumn_41 : decode cX6_setColumn 41 = .ok (.iload_n 1, 1) := by decide +kernel
theorem dX6_setColumn_42 : decode cX6_setColumn 42 = .ok (.iload_n 2, 1) := by decide +kernel
theorem dX6_setColumn_43 : decode cX6_setColumn 43 = .ok (.invokevirtual 81, 3) := by decide +kernel
theorem dX6_setColumn_46 : decode cX6_setColumn 46 = .ok (.ireturn, 1) := by decide +kernel
set_option maxRecDepth 20000 in
theorem ggX6_changes_X6_records : GoodIn wsX6_changes wsX6_records := goodIn_r _ [6, 7, 8, 1, 9, 10, 11, 12, 13, 14, 15, 16, 17, 18, 19] (by decide +kernel) (by decide +kernel)
set_option maxRecDepth 20000 in
theorem gX6_changes_X6_records : GoodIn wsX6_changes (wsV RX6 78 RX6 yX6_records wsX6_records) := goodIn_app (goodIn_of _ (by decide +kernel)) ggX6_changes_X6_records
theorem dX6_changes_0 : decode cX6_changes 0 = .ok (.aload_n 0, 1) := by decide +kernel
theorem dX6_changes_1 : decode cX6_changes 1 = .ok (.invokevirtual 78, 3) := by decide +kernel
theorem dX6_changes_4 : decode cX6_changes 4 = .ok (.aload_n 0, 1) := by decide +kernel
theorem dX6_changes_5 : decode cX6_changes 5 = .ok (.getfield 7, 3) := by decide +kernel
theorem dX6_changes_8 : decode cX6_changes 8 = .ok (.iload_n 1, 1) := by decide +kernel
theorem dX6_changes_9 : decode cX6_changes 9 = .ok (.iaload, 1) := by decide +kernel
theorem dX6_changes_10 : decode cX6_changes 10 = .ok (.istore_n 3, 1) := by decide +kernel
theorem dX6_changes_11 : decode cX6_changes 11 = .ok (.aload_n 0, 1) := by decide +kernel
theorem dX6_changes_12 : decode cX6_changes 12 = .ok (.getfield 7, 3) := by decide +kernel
theorem dX6_changes_15 : decode cX6_changes 15 = .ok (.iload_n 1, 1) := by decide +kernel
theorem dX6_changes_16 : decode cX6_changes 16 = .ok (.iload_n 2, 1) := by decide +kernel
theorem dX6_changes_17 : decode cX6_changes 17 = .ok (.iastore, 1) := by decide +kernel
theorem dX6_changes_18 : decode cX6_changes 18 = .ok (.iload_n 3, 1) := by decide +kernel
theorem dX6_changes_19 : decode cX6_changes 19 = .ok (.ireturn, 1) := by decide +kernel
set_option maxRecDepth 20000 in
theorem ggX6_setTempo_X6_isBar : GoodIn wsX6_setTempo wsX6_isBar := goodIn_r _ [4, 5, 6, 3, 7] (by decide +kernel) (by decide +kernel)
set_option maxRecDepth 20000 in
theorem gX6_setTempo_X6_isBar : GoodIn wsX6_setTempo (va_wsS RX6 85 yX6_isBar wsX6_isBar) := goodIn_app (goodIn_of _ (by decide +kernel)) ggX6_setTempo_X6_isBar
set_option maxRecDepth 20000 in
theorem ggX6_setTempo_X6_in : GoodIn wsX6_setTempo wsX6_in := goodIn_r _ [7] (by decide +kernel) (by decide +kernel)
set_option maxRecDepth 20000 in
theorem gX6_setTempo_X6_in : GoodIn wsX6_setTempo (va_wsS RX6 36 yX6_in wsX6_in) := goodIn_app (goodIn_of _ (by decide +kernel)) ggX6_setTempo_X6_in
set_option maxRecDepth 20000 in
theorem ggX6_setTempo_X6_holds : GoodIn wsX6_setTempo wsX6_holds := goodIn_r _ [11, 12, 24, 25, 26, 27, 28, 29, 30, 31, 32, 33, 34] (by decide +kernel) (by decide +kernel)
set_option maxRecDepth 20000 in
theorem gX6_setTempo_X6_holds : GoodIn wsX6_setTempo (wsV RX6 75 RX6 yX6_holds wsX6_holds) := goodIn_app (goodIn_of _ (by decide +kernel)) ggX6_setTempo_X6_holds
set_option maxRecDepth 20000 in
theorem ggX6_setTempo_X6_changes : GoodIn wsX6_setTempo wsX6_changes := goodIn_r _ [16, 17, 18, 19, 20, 3, 21, 22, 23, 24, 25, 26, 27, 28, 29, 30, 31, 32, 33, 34] (by decide +kernel) (by decide +kernel)
set_option maxRecDepth 20000 in
theorem gX6_setTempo_X6_changes : GoodIn wsX6_setTempo (wsV RX6 88 RX6 yX6_changes wsX6_changes) := goodIn_app (goodIn_of _ (by decide +kernel)) ggX6_setTempo_X6_changes
theorem dX6_setTempo_0 : decode cX6_setTempo 0 = .ok (.aload_n 0, 1) := by decide +kernel
theorem dX6_setTempo_1 : decode cX6_setTempo 1 = .ok (.iload_n 1, 1) := by decide +kernel
theorem dX6_setTempo_2 : decode cX6_setTempo 2 = .ok (.invokestatic 85, 3) := by decide +kernel
theorem dX6_setTempo_5 : decode cX6_setTempo 5 = .ok (.ifCond .ne 7, 3) := by decide +kernel
theorem dX6_setTempo_8 : decode cX6_setTempo 8 = .ok (.iconst 1, 1) := by decide +kernel
theorem dX6_setTempo_9 : decode cX6_setTempo 9 = .ok (.goto 18, 3) := by decide +kernel
theorem dX6_setTempo_12 : decode cX6_setTempo 12 = .ok (.iload_n 2, 1) := by decide +kernel
theorem dX6_setTempo_13 : decode cX6_setTempo 13 = .ok (.iconst 1, 1) := by decide +kernel
theorem dX6_setTempo_14 : decode cX6_setTempo 14 = .ok (.bipush 9, 2) := by decide +kernel
theorem dX6_setTempo_16 : decode cX6_setTempo 16 = .ok (.invokestatic 36, 3) := by decide +kernel
theorem dX6_setTempo_19 : decode cX6_setTempo 19 = .ok (.ifCond .eq 7, 3) := by decide +kernel
theorem dX6_setTempo_22 : decode cX6_setTempo 22 = .ok (.iconst 0, 1) := by decide +kernel
theorem dX6_setTempo_23 : decode cX6_setTempo 23 = .ok (.goto 4, 3) := by decide +kernel
theorem dX6_setTempo_26 : decode cX6_setTempo 26 = .ok (.iconst 2, 1) := by decide +kernel
theorem dX6_setTempo_27 : decode cX6_setTempo 27 = .ok (.invokevirtual 75, 3) := by decide +kernel
theorem dX6_setTempo_30 : decode cX6_setTempo 30 = .ok (.ifCond .eq 15, 3) := by decide +kernel
theorem dX6_setTempo_33 : decode cX6_setTempo 33 = .ok (.aload_n 0, 1) := by decide +kernel
theorem dX6_setTempo_34 : decode cX6_setTempo 34 = .ok (.bipush 32, 2) := by decide +kernel
theorem dX6_setTempo_36 : decode cX6_setTempo 36 = .ok (.iload_n 1, 1) := by decide +kernel
theorem dX6_setTempo_37 : decode cX6_setTempo 37 = .ok (.iadd, 1) := by decide +kernel
theorem dX6_setTempo_38 : decode cX6_setTempo 38 = .ok (.iload_n 2, 1) := by decide +kernel
theorem dX6_setTempo_39 : decode cX6_setTempo 39 = .ok (.invokevirtual 88, 3) := by decide +kernel
theorem dX6_setTempo_42 : decode cX6_setTempo 42 = .ok (.goto 4, 3) := by decide +kernel
theorem dX6_setTempo_45 : decode cX6_setTempo 45 = .ok (.iconst 0, 1) := by decide +kernel
theorem dX6_setTempo_46 : decode cX6_setTempo 46 = .ok (.ireturn, 1) := by decide +kernel
set_option maxRecDepth 20000 in
theorem ggX6_setWeight_X6_isBell : GoodIn wsX6_setWeight wsX6_isBell := goodIn_r _ [4, 5, 6, 3, 7] (by decide +kernel) (by decide +kernel)
set_option maxRecDepth 20000 in
theorem gX6_setWeight_X6_isBell : GoodIn wsX6_setWeight (va_wsS RX6 72 yX6_isBell wsX6_isBell) := goodIn_app (goodIn_of _ (by decide +kernel)) ggX6_setWeight_X6_isBell
set_option maxRecDepth 20000 in
theorem ggX6_setWeight_X6_in : GoodIn wsX6_setWeight wsX6_in := goodIn_r _ [7] (by decide +kernel) (by decide +kernel)
set_option maxRecDepth 20000 in
theorem gX6_setWeight_X6_in : GoodIn wsX6_setWeight (va_wsS RX6 36 yX6_in wsX6_in) := goodIn_app (goodIn_of _ (by decide +kernel)) ggX6_setWeight_X6_in
set_option maxRecDepth 20000 in
theorem ggX6_setWeight_X6_holds : GoodIn wsX6_setWeight wsX6_holds := goodIn_r _ [11, 12, 24, 25, 26, 27, 28, 29, 30, 31, 32, 33, 34] (by decide +kernel) (by decide +kernel)
set_option maxRecDepth 20000 in
theorem gX6_setWeight_X6_holds : GoodIn wsX6_setWeight (wsV RX6 75 RX6 yX6_holds wsX6_holds) := goodIn_app (goodIn_of _ (by decide +kernel)) ggX6_setWeight_X6_holds
set_option maxRecDepth 20000 in
theorem ggX6_setWeight_X6_changes : GoodIn wsX6_setWeight wsX6_changes := goodIn_r _ [16, 17, 18, 19, 20, 3, 21, 22, 23, 24, 25, 26, 27, 28, 29, 30, 31, 32, 33, 34] (by decide +kernel) (by decide +kernel)
set_option maxRecDepth 20000 in
theorem gX6_setWeight_X6_changes : GoodIn wsX6_setWeight (wsV RX6 88 RX6 yX6_changes wsX6_changes) := goodIn_app (goodIn_of _ (by decide +kernel)) ggX6_setWeight_X6_changes
theorem dX6_setWeight_0 : decode cX6_setWeight 0 = .ok (.aload_n 0, 1) := by decide +kernel
theorem dX6_setWeight_1 : decode cX6_setWeight 1 = .ok (.iload_n 1, 1) := by decide +kernel
theorem dX6_setWeight_2 : decode cX6_setWeight 2 = .ok (.invokestatic 72, 3) := by decide +kernel
theorem dX6_setWeight_5 : decode cX6_setWeight 5 = .ok (.ifCond .ne 7, 3) := by decide +kernel
theorem dX6_setWeight_8 : decode cX6_setWeight 8 = .ok (.iconst 1, 1) := by decide +kernel
theorem dX6_setWeight_9 : decode cX6_setWeight 9 = .ok (.goto 18, 3) := by decide +kernel
theorem dX6_setWeight_12 : decode cX6_setWeight 12 = .ok (.iload_n 2, 1) := by decide +kernel
theorem dX6_setWeight_13 : decode cX6_setWeight 13 = .ok (.iconst 1, 1) := by decide +kernel
theorem dX6_setWeight_14 : decode cX6_setWeight 14 = .ok (.bipush 60, 2) := by decide +kernel
theorem dX6_setWeight_16 : decode cX6_setWeight 16 = .ok (.invokestatic 36, 3) := by decide +kernel
theorem dX6_setWeight_19 : decode cX6_setWeight 19 = .ok (.ifCond .eq 7, 3) := by decide +kernel
theorem dX6_setWeight_22 : decode cX6_setWeight 22 = .ok (.iconst 0, 1) := by decide +kernel
theorem dX6_setWeight_23 : decode cX6_setWeight 23 = .ok (.goto 4, 3) := by decide +kernel
theorem dX6_setWeight_26 : decode cX6_setWeight 26 = .ok (.iconst 2, 1) := by decide +kernel
theorem dX6_setWeight_27 : decode cX6_setWeight 27 = .ok (.invokevirtual 75, 3) := by decide +kernel
theorem dX6_setWeight_30 : decode cX6_setWeight 30 = .ok (.ifCond .eq 15, 3) := by decide +kernel
theorem dX6_setWeight_33 : decode cX6_setWeight 33 = .ok (.aload_n 0, 1) := by decide +kernel
theorem dX6_setWeight_34 : decode cX6_setWeight 34 = .ok (.bipush 36, 2) := by decide +kernel
theorem dX6_setWeight_36 : decode cX6_setWeight 36 = .ok (.iload_n 1, 1) := by decide +kernel
theorem dX6_setWeight_37 : decode cX6_setWeight 37 = .ok (.iadd, 1) := by decide +kernel
theorem dX6_setWeight_38 : decode cX6_setWeight 38 = .ok (.iload_n 2, 1) := by decide +kernel
theorem dX6_setWeight_39 : decode cX6_setWeight 39 = .ok (.invokevirtual 88, 3) := by decide +kernel
theorem dX6_setWeight_42 : decode cX6_setWeight 42 = .ok (.goto 4, 3) := by decide +kernel
theorem dX6_setWeight_45 : decode cX6_setWeight 45 = .ok (.iconst 0, 1) := by decide +kernel
theorem dX6_setWeight_46 : decode cX6_setWeight 46 = .ok (.ireturn, 1) := by decide +kernel
set_option maxRecDepth 20000 in
theorem ggX6_setBound_X6_in : GoodIn wsX6_setBound wsX6_in := goodIn_r _ [4] (by decide +kernel) (by decide +kernel)
set_option maxRecDepth 20000 in
theorem gX6_setBound_X6_in : GoodIn wsX6_setBound (va_wsS RX6 36 yX6_in wsX6_in) := goodIn_app (goodIn_of _ (by decide +kernel)) ggX6_setBound_X6_in
set_option maxRecDepth 20000 in
theorem ggX6_setBound_X6_holds : GoodIn wsX6_setBound wsX6_holds := goodIn_r _ [8, 9, 21, 22, 23, 24, 25, 26, 27, 28, 29, 30, 31] (by decide +kernel) (by decide +kernel)
set_option maxRecDepth 20000 in
theorem gX6_setBound_X6_holds : GoodIn wsX6_setBound (wsV RX6 75 RX6 yX6_holds wsX6_holds) := goodIn_app (goodIn_of _ (by decide +kernel)) ggX6_setBound_X6_holds
set_option maxRecDepth 20000 in
theorem ggX6_setBound_X6_changes : GoodIn wsX6_setBound wsX6_changes := goodIn_r _ [13, 14, 15, 16, 17, 3, 18, 19, 20, 21, 22, 23, 24, 25, 26, 27, 28, 29, 30, 31] (by decide +kernel) (by decide +kernel)
set_option maxRecDepth 20000 in
theorem gX6_setBound_X6_changes : GoodIn wsX6_setBound (wsV RX6 88 RX6 yX6_changes wsX6_changes) := goodIn_app (goodIn_of _ (by decide +kernel)) ggX6_setBound_X6_changes
theorem dX6_setBound_0 : decode cX6_setBound 0 = .ok (.aload_n 0, 1) := by decide +kernel
theorem dX6_setBound_1 : decode cX6_setBound 1 = .ok (.iload_n 1, 1) := by decide +kernel
theorem dX6_setBound_2 : decode cX6_setBound 2 = .ok (.iconst 1, 1) := by decide +kernel
theorem dX6_setBound_3 : decode cX6_setBound 3 = .ok (.sipush 300, 3) := by decide +kernel
theorem dX6_setBound_6 : decode cX6_setBound 6 = .ok (.invokestatic 36, 3) := by decide +kernel
theorem dX6_setBound_9 : decode cX6_setBound 9 = .ok (.ifCond .eq 7, 3) := by decide +kernel
theorem dX6_setBound_12 : decode cX6_setBound 12 = .ok (.iconst 0, 1) := by decide +kernel
theorem dX6_setBound_13 : decode cX6_setBound 13 = .ok (.goto 4, 3) := by decide +kernel
theorem dX6_setBound_16 : decode cX6_setBound 16 = .ok (.iconst 1, 1) := by decide +kernel
theorem dX6_setBound_17 : decode cX6_setBound 17 = .ok (.invokevirtual 75, 3) := by decide +kernel
theorem dX6_setBound_20 : decode cX6_setBound 20 = .ok (.ifCond .eq 13, 3) := by decide +kernel
theorem dX6_setBound_23 : decode cX6_setBound 23 = .ok (.aload_n 0, 1) := by decide +kernel
theorem dX6_setBound_24 : decode cX6_setBound 24 = .ok (.bipush 46, 2) := by decide +kernel
theorem dX6_setBound_26 : decode cX6_setBound 26 = .ok (.iload_n 1, 1) := by decide +kernel
theorem dX6_setBound_27 : decode cX6_setBound 27 = .ok (.invokevirtual 88, 3) := by decide +kernel
theorem dX6_setBound_30 : decode cX6_setBound 30 = .ok (.goto 4, 3) := by decide +kernel
theorem dX6_setBound_33 : decode cX6_setBound 33 = .ok (.iconst 0, 1) := by decide +kernel
theorem dX6_setBound_34 : decode cX6_setBound 34 = .ok (.ireturn, 1) := by decide +kernel
set_option maxRecDepth 20000 in
theorem ggX6_laysAll_X6_lays : GoodIn wsX6_laysAll wsX6_lays := goodIn_r _ [6, 7, 8, 9, 5, 10, 11, 12, 13, 14, 15, 16, 17, 18, 19, 20, 21] (by decide +kernel) (by decide +kernel)
set_option maxRecDepth 20000 in
theorem gX6_laysAll_X6_lays : GoodIn wsX6_laysAll (wsV RX6 81 RX6 yX6_lays wsX6_lays) := goodIn_app (goodIn_of _ (by decide +kernel)) ggX6_laysAll_X6_lays
theorem dX6_laysAll_0 : decode cX6_laysAll 0 = .ok (.iconst 0, 1) := by decide +kernel
theorem dX6_laysAll_1 : decode cX6_laysAll 1 = .ok (.istore_n 1, 1) := by decide +kernel
theorem dX6_laysAll_2 : decode cX6_laysAll 2 = .ok (.iconst 0, 1) := by decide +kernel
theorem dX6_laysAll_3 : decode cX6_laysAll 3 = .ok (.istore_n 2, 1) := by decide +kernel
theorem dX6_laysAll_4 : decode cX6_laysAll 4 = .ok (.iload_n 2, 1) := by decide +kernel
theorem dX6_laysAll_5 : decode cX6_laysAll 5 = .ok (.bipush 32, 2) := by decide +kernel
theorem dX6_laysAll_7 : decode cX6_laysAll 7 = .ok (.if_icmp .ge 23, 3) := by decide +kernel
theorem dX6_laysAll_10 : decode cX6_laysAll 10 = .ok (.iload_n 1, 1) := by decide +kernel
theorem dX6_laysAll_11 : decode cX6_laysAll 11 = .ok (.aload_n 0, 1) := by decide +kernel
theorem dX6_laysAll_12 : decode cX6_laysAll 12 = .ok (.iload_n 2, 1) := by decide +kernel
theorem dX6_laysAll_13 : decode cX6_laysAll 13 = .ok (.aload_n 0, 1) := by decide +kernel
theorem dX6_laysAll_14 : decode cX6_laysAll 14 = .ok (.getfield 29, 3) := by decide +kernel
theorem dX6_laysAll_17 : decode cX6_laysAll 17 = .ok (.iload_n 2, 1) := by decide +kernel
theorem dX6_laysAll_18 : decode cX6_laysAll 18 = .ok (.iaload, 1) := by decide +kernel
theorem dX6_laysAll_19 : decode cX6_laysAll 19 = .ok (.invokevirtual 81, 3) := by decide +kernel
theorem dX6_laysAll_22 : decode cX6_laysAll 22 = .ok (.iadd, 1) := by decide +kernel
theorem dX6_laysAll_23 : decode cX6_laysAll 23 = .ok (.istore_n 1, 1) := by decide +kernel
theorem dX6_laysAll_24 : decode cX6_laysAll 24 = .ok (.iinc 2 1, 3) := by decide +kernel
theorem dX6_laysAll_27 : decode cX6_laysAll 27 = .ok (.goto (-23), 3) := by decide +kernel
theorem dX6_laysAll_30 : decode cX6_laysAll 30 = .ok (.iload_n 1, 1) := by decide +kernel
theorem dX6_laysAll_31 : decode cX6_laysAll 31 = .ok (.ireturn, 1) := by decide +kernel
set_option maxRecDepth 20000 in
theorem ggX6_turnRound_X6_records : GoodIn wsX6_turnRound wsX6_records := goodIn_r _ [8, 9, 10, 3, 22, 23, 24, 25, 26, 27, 28, 29, 30, 31, 32] (by decide +kernel) (by decide +kernel)
set_option maxRecDepth 20000 in
theorem gX6_turnRound_X6_records : GoodIn wsX6_turnRound (wsV RX6 78 RX6 yX6_records wsX6_records) := goodIn_app (goodIn_of _ (by decide +kernel)) ggX6_turnRound_X6_records
set_option maxRecDepth 20000 in
theorem ggX6_turnRound_X6_laysAll : GoodIn wsX6_turnRound wsX6_laysAll := goodIn_r _ [14, 2, 15, 16, 17, 7, 18, 3, 19, 20, 21, 22, 23, 24, 25, 26, 27, 28, 29, 30, 31, 32] (by decide +kernel) (by decide +kernel)
set_option maxRecDepth 20000 in
theorem gX6_turnRound_X6_laysAll : GoodIn wsX6_turnRound (wsV RX6 91 RX6 yX6_laysAll wsX6_laysAll) := goodIn_app (goodIn_of _ (by decide +kernel)) ggX6_turnRound_X6_laysAll
theorem dX6_turnRound_0 : decode cX6_turnRound 0 = .ok (.aload_n 0, 1) := by decide +kernel
theorem dX6_turnRound_1 : decode cX6_turnRound 1 = .ok (.iconst 0, 1) := by decide +kernel
theorem dX6_turnRound_2 : decode cX6_turnRound 2 = .ok (.putfield 32, 3) := by decide +kernel
theorem dX6_turnRound_5 : decode cX6_turnRound 5 = .ok (.aload_n 0, 1) := by decide +kernel
theorem dX6_turnRound_6 : decode cX6_turnRound 6 = .ok (.invokevirtual 78, 3) := by decide +kernel
theorem dX6_turnRound_9 : decode cX6_turnRound 9 = .ok (.iconst 0, 1) := by decide +kernel
theorem dX6_turnRound_10 : decode cX6_turnRound 10 = .ok (.istore_n 1, 1) := by decide +kernel
theorem dX6_turnRound_11 : decode cX6_turnRound 11 = .ok (.iload_n 1, 1) := by decide +kernel
theorem dX6_turnRound_12 : decode cX6_turnRound 12 = .ok (.bipush 32, 2) := by decide +kernel
theorem dX6_turnRound_14 : decode cX6_turnRound 14 = .ok (.if_icmp .ge 26, 3) := by decide +kernel
theorem dX6_turnRound_17 : decode cX6_turnRound 17 = .ok (.aload_n 0, 1) := by decide +kernel
theorem dX6_turnRound_18 : decode cX6_turnRound 18 = .ok (.getfield 29, 3) := by decide +kernel
theorem dX6_turnRound_21 : decode cX6_turnRound 21 = .ok (.bipush 31, 2) := by decide +kernel
theorem dX6_turnRound_23 : decode cX6_turnRound 23 = .ok (.iload_n 1, 1) := by decide +kernel
theorem dX6_turnRound_24 : decode cX6_turnRound 24 = .ok (.isub, 1) := by decide +kernel
theorem dX6_turnRound_25 : decode cX6_turnRound 25 = .ok (.aload_n 0, 1) := by decide +kernel
theorem dX6_turnRound_26 : decode cX6_turnRound 26 = .ok (.getfield 7, 3) := by decide +kernel
theorem dX6_turnRound_29 : decode cX6_turnRound 29 = .ok (.iconst 0, 1) := by decide +kernel
theorem dX6_turnRound_30 : decode cX6_turnRound 30 = .ok (.iload_n 1, 1) := by decide +kernel
theorem dX6_turnRound_31 : decode cX6_turnRound 31 = .ok (.iadd, 1) := by decide +kernel
theorem dX6_turnRound_32 : decode cX6_turnRound 32 = .ok (.iaload, 1) := by decide +kernel
theorem dX6_turnRound_33 : decode cX6_turnRound 33 = .ok (.iastore, 1) := by decide +kernel
theorem dX6_turnRound_34 : decode cX6_turnRound 34 = .ok (.iinc 1 1, 3) := by decide +kernel
theorem dX6_turnRound_37 : decode cX6_turnRound 37 = .ok (.goto (-26), 3) := by decide +kernel
theorem dX6_turnRound_40 : decode cX6_turnRound 40 = .ok (.aload_n 0, 1) := by decide +kernel
theorem dX6_turnRound_41 : decode cX6_turnRound 41 = .ok (.invokevirtual 91, 3) := by decide +kernel
theorem dX6_turnRound_44 : decode cX6_turnRound 44 = .ok (.ireturn, 1) := by decide +kernel
set_option maxRecDepth 20000 in
theorem ggX6_move_X6_in : GoodIn wsX6_move wsX6_in := goodIn_r _ [6] (by decide +kernel) (by decide +kernel)
set_option maxRecDepth 20000 in
theorem gX6_move_X6_in : GoodIn wsX6_move (va_wsS RX6 36 yX6_in wsX6_in) := goodIn_app (goodIn_of _ (by decide +kernel)) ggX6_move_X6_in
set_option maxRecDepth 20000 in
theorem ggX6_move_X6_holds : GoodIn wsX6_move wsX6_holds := goodIn_r _ [10, 11, 29, 30, 31, 32, 33, 34, 35, 36, 37, 38, 39] (by decide +kernel) (by decide +kernel)
set_option maxRecDepth 20000 in
theorem gX6_move_X6_holds : GoodIn wsX6_move (wsV RX6 75 RX6 yX6_holds wsX6_holds) := goodIn_app (goodIn_of _ (by decide +kernel)) ggX6_move_X6_holds
set_option maxRecDepth 20000 in
theorem ggX6_move_X6_records : GoodIn wsX6_move wsX6_records := goodIn_r _ [15, 16, 17, 2, 29, 30, 31, 32, 33, 34, 35, 36, 37, 38, 39] (by decide +kernel) (by decide +kernel)
set_option maxRecDepth 20000 in
theorem gX6_move_X6_records : GoodIn wsX6_move (wsV RX6 78 RX6 yX6_records wsX6_records) := goodIn_app (goodIn_of _ (by decide +kernel)) ggX6_move_X6_records
set_option maxRecDepth 20000 in
theorem ggX6_move_X6_laysAll : GoodIn wsX6_move wsX6_laysAll := goodIn_r _ [21, 1, 22, 23, 24, 5, 25, 2, 26, 27, 28, 29, 30, 31, 32, 33, 34, 35, 36, 37, 38, 39] (by decide +kernel) (by decide +kernel)
set_option maxRecDepth 20000 in
theorem gX6_move_X6_laysAll : GoodIn wsX6_move (wsV RX6 91 RX6 yX6_laysAll wsX6_laysAll) := goodIn_app (goodIn_of _ (by decide +kernel)) ggX6_move_X6_laysAll
theorem dX6_move_0 : decode cX6_move 0 = .ok (.aload_n 0, 1) := by decide +kernel
theorem dX6_move_1 : decode cX6_move 1 = .ok (.iload_n 1, 1) := by decide +kernel
theorem dX6_move_2 : decode cX6_move 2 = .ok (.iconst 1, 1) := by decide +kernel
theorem dX6_move_3 : decode cX6_move 3 = .ok (.bipush 31, 2) := by decide +kernel
theorem dX6_move_5 : decode cX6_move 5 = .ok (.invokestatic 36, 3) := by decide +kernel
theorem dX6_move_8 : decode cX6_move 8 = .ok (.ifCond .eq 7, 3) := by decide +kernel
theorem dX6_move_11 : decode cX6_move 11 = .ok (.iconst 0, 1) := by decide +kernel
theorem dX6_move_12 : decode cX6_move 12 = .ok (.goto 4, 3) := by decide +kernel
theorem dX6_move_15 : decode cX6_move 15 = .ok (.iconst 1, 1) := by decide +kernel
theorem dX6_move_16 : decode cX6_move 16 = .ok (.invokevirtual 75, 3) := by decide +kernel
theorem dX6_move_19 : decode cX6_move 19 = .ok (.ifCond .ne 5, 3) := by decide +kernel
theorem dX6_move_22 : decode cX6_move 22 = .ok (.iconst 0, 1) := by decide +kernel
theorem dX6_move_23 : decode cX6_move 23 = .ok (.ireturn, 1) := by decide +kernel
theorem dX6_move_24 : decode cX6_move 24 = .ok (.aload_n 0, 1) := by decide +kernel
theorem dX6_move_25 : decode cX6_move 25 = .ok (.invokevirtual 78, 3) := by decide +kernel
theorem dX6_move_28 : decode cX6_move 28 = .ok (.iconst 0, 1) := by decide +kernel
theorem dX6_move_29 : decode cX6_move 29 = .ok (.istore_n 2, 1) := by decide +kernel
theorem dX6_move_30 : decode cX6_move 30 = .ok (.iload_n 2, 1) := by decide +kernel
theorem dX6_move_31 : decode cX6_move 31 = .ok (.bipush 32, 2) := by decide +kernel
theorem dX6_move_33 : decode cX6_move 33 = .ok (.if_icmp .ge 28, 3) := by decide +kernel
theorem dX6_move_36 : decode cX6_move 36 = .ok (.aload_n 0, 1) := by decide +kernel
theorem dX6_move_37 : decode cX6_move 37 = .ok (.getfield 29, 3) := by decide +kernel
theorem dX6_move_40 : decode cX6_move 40 = .ok (.iload_n 2, 1) := by decide +kernel
theorem dX6_move_41 : decode cX6_move 41 = .ok (.iload_n 1, 1) := by decide +kernel
theorem dX6_move_42 : decode cX6_move 42 = .ok (.iadd, 1) := by decide +kernel
theorem dX6_move_43 : decode cX6_move 43 = .ok (.bipush 32, 2) := by decide +kernel
theorem dX6_move_45 : decode cX6_move 45 = .ok (.irem, 1) := by decide +kernel
theorem dX6_move_46 : decode cX6_move 46 = .ok (.aload_n 0, 1) := by decide +kernel
theorem dX6_move_47 : decode cX6_move 47 = .ok (.getfield 7, 3) := by decide +kernel
theorem dX6_move_50 : decode cX6_move 50 = .ok (.iconst 0, 1) := by decide +kernel
theorem dX6_move_51 : decode cX6_move 51 = .ok (.iload_n 2, 1) := by decide +kernel
theorem dX6_move_52 : decode cX6_move 52 = .ok (.iadd, 1) := by decide +kernel
theorem dX6_move_53 : decode cX6_move 53 = .ok (.iaload, 1) := by decide +kernel
theorem dX6_move_54 : decode cX6_move 54 = .ok (.iastore, 1) := by decide +kernel
theorem dX6_move_55 : decode cX6_move 55 = .ok (.iinc 2 1, 3) := by decide +kernel
theorem dX6_move_58 : decode cX6_move 58 = .ok (.goto (-28), 3) := by decide +kernel
theorem dX6_move_61 : decode cX6_move 61 = .ok (.aload_n 0, 1) := by decide +kernel
theorem dX6_move_62 : decode cX6_move 62 = .ok (.invokevirtual 91, 3) := by decide +kernel
theorem dX6_move_65 : decode cX6_move 65 = .ok (.ireturn, 1) := by decide +kernel
set_option maxRecDepth 20000 in
theorem ggX6_raise_X6_records : GoodIn wsX6_raise wsX6_records := goodIn_r _ [7, 8, 9, 2, 10, 11, 12, 13, 14, 15, 16, 17, 18, 19, 20] (by decide +kernel) (by decide +kernel)
set_option maxRecDepth 20000 in
theorem gX6_raise_X6_records : GoodIn wsX6_raise (wsV RX6 78 RX6 yX6_records wsX6_records) := goodIn_app (goodIn_of _ (by decide +kernel)) ggX6_raise_X6_records
theorem dX6_raise_0 : decode cX6_raise 0 = .ok (.aload_n 0, 1) := by decide +kernel
theorem dX6_raise_1 : decode cX6_raise 1 = .ok (.iconst 0, 1) := by decide +kernel
theorem dX6_raise_2 : decode cX6_raise 2 = .ok (.putfield 32, 3) := by decide +kernel
theorem dX6_raise_5 : decode cX6_raise 5 = .ok (.aload_n 0, 1) := by decide +kernel
theorem dX6_raise_6 : decode cX6_raise 6 = .ok (.invokevirtual 78, 3) := by decide +kernel
theorem dX6_raise_9 : decode cX6_raise 9 = .ok (.iconst 0, 1) := by decide +kernel
theorem dX6_raise_10 : decode cX6_raise 10 = .ok (.istore_n 1, 1) := by decide +kernel
theorem dX6_raise_11 : decode cX6_raise 11 = .ok (.iconst 0, 1) := by decide +kernel
theorem dX6_raise_12 : decode cX6_raise 12 = .ok (.istore_n 2, 1) := by decide +kernel
theorem dX6_raise_13 : decode cX6_raise 13 = .ok (.iload_n 2, 1) := by decide +kernel
theorem dX6_raise_14 : decode cX6_raise 14 = .ok (.bipush 32, 2) := by decide +kernel
theorem dX6_raise_16 : decode cX6_raise 16 = .ok (.if_icmp .ge 45, 3) := by decide +kernel
theorem dX6_raise_19 : decode cX6_raise 19 = .ok (.iload_n 1, 1) := by decide +kernel
theorem dX6_raise_20 : decode cX6_raise 20 = .ok (.aload_n 0, 1) := by decide +kernel
theorem dX6_raise_21 : decode cX6_raise 21 = .ok (.getfield 7, 3) := by decide +kernel
theorem dX6_raise_24 : decode cX6_raise 24 = .ok (.iconst 0, 1) := by decide +kernel
theorem dX6_raise_25 : decode cX6_raise 25 = .ok (.iload_n 2, 1) := by decide +kernel
theorem dX6_raise_26 : decode cX6_raise 26 = .ok (.iadd, 1) := by decide +kernel
theorem dX6_raise_27 : decode cX6_raise 27 = .ok (.iaload, 1) := by decide +kernel
theorem dX6_raise_28 : decode cX6_raise 28 = .ok (.bipush 9, 2) := by decide +kernel
theorem dX6_raise_30 : decode cX6_raise 30 = .ok (.ishr, 1) := by decide +kernel
theorem dX6_raise_31 : decode cX6_raise 31 = .ok (.iadd, 1) := by decide +kernel
theorem dX6_raise_32 : decode cX6_raise 32 = .ok (.istore_n 1, 1) := by decide +kernel
theorem dX6_raise_33 : decode cX6_raise 33 = .ok (.aload_n 0, 1) := by decide +kernel
theorem dX6_raise_34 : decode cX6_raise 34 = .ok (.getfield 7, 3) := by decide +kernel
theorem dX6_raise_37 : decode cX6_raise 37 = .ok (.iconst 0, 1) := by decide +kernel
theorem dX6_raise_38 : decode cX6_raise 38 = .ok (.iload_n 2, 1) := by decide +kernel
theorem dX6_raise_39 : decode cX6_raise 39 = .ok (.iadd, 1) := by decide +kernel
theorem dX6_raise_40 : decode cX6_raise 40 = .ok (.aload_n 0, 1) := by decide +kernel
theorem dX6_raise_41 : decode cX6_raise 41 = .ok (.getfield 7, 3) := by decide +kernel
theorem dX6_raise_44 : decode cX6_raise 44 = .ok (.iconst 0, 1) := by decide +kernel
theorem dX6_raise_45 : decode cX6_raise 45 = .ok (.iload_n 2, 1) := by decide +kernel
theorem dX6_raise_46 : decode cX6_raise 46 = .ok (.iadd, 1) := by decide +kernel
theorem dX6_raise_47 : decode cX6_raise 47 = .ok (.iaload, 1) := by decide +kernel
theorem dX6_raise_48 : decode cX6_raise 48 = .ok (.iconst 1, 1) := by decide +kernel
theorem dX6_raise_49 : decode cX6_raise 49 = .ok (.ishl, 1) := by decide +kernel
theorem dX6_raise_50 : decode cX6_raise 50 = .ok (.sipush 1023, 3) := by decide +kernel
theorem dX6_raise_53 : decode cX6_raise 53 = .ok (.iand, 1) := by decide +kernel
theorem dX6_raise_54 : decode cX6_raise 54 = .ok (.iastore, 1) := by decide +kernel
theorem dX6_raise_55 : decode cX6_raise 55 = .ok (.iinc 2 1, 3) := by decide +kernel
theorem dX6_raise_58 : decode cX6_raise 58 = .ok (.goto (-45), 3) := by decide +kernel
theorem dX6_raise_61 : decode cX6_raise 61 = .ok (.iload_n 1, 1) := by decide +kernel
theorem dX6_raise_62 : decode cX6_raise 62 = .ok (.ireturn, 1) := by decide +kernel
set_option maxRecDepth 20000 in
theorem ggX6_crank_X6_in : GoodIn wsX6_crank wsX6_in := goodIn_r _ [4] (by decide +kernel) (by decide +kernel)
set_option maxRecDepth 20000 in
theorem gX6_crank_X6_in : GoodIn wsX6_crank (va_wsS RX6 36 yX6_in wsX6_in) := goodIn_app (goodIn_of _ (by decide +kernel)) ggX6_crank_X6_in
set_option maxRecDepth 20000 in
theorem ggX6_crank_X6_holds : GoodIn wsX6_crank wsX6_holds := goodIn_r _ [8, 9, 39, 40, 41, 42, 43, 44, 45, 46, 47, 48, 49] (by decide +kernel) (by decide +kernel)
set_option maxRecDepth 20000 in
theorem gX6_crank_X6_holds : GoodIn wsX6_crank (wsV RX6 75 RX6 yX6_holds wsX6_holds) := goodIn_app (goodIn_of _ (by decide +kernel)) ggX6_crank_X6_holds
set_option maxRecDepth 20000 in
theorem ggX6_crank_X6_records : GoodIn wsX6_crank wsX6_records := goodIn_r _ [13, 14, 15, 16, 39, 40, 41, 42, 43, 44, 45, 46, 47, 48, 49] (by decide +kernel) (by decide +kernel)
set_option maxRecDepth 20000 in
theorem gX6_crank_X6_records : GoodIn wsX6_crank (wsV RX6 78 RX6 yX6_records wsX6_records) := goodIn_app (goodIn_of _ (by decide +kernel)) ggX6_crank_X6_records
set_option maxRecDepth 20000 in
theorem ggX6_crank_X6_cranks : GoodIn wsX6_crank wsX6_cranks := goodIn_r _ [20, 21, 22, 23, 3, 24, 16, 25, 26, 27, 28, 29, 30, 31, 32, 33, 34, 35, 36, 37, 38, 39, 40, 41, 42, 43, 44, 45, 46, 47, 48, 49] (by decide +kernel) (by decide +kernel)
set_option maxRecDepth 20000 in
theorem gX6_crank_X6_cranks : GoodIn wsX6_crank (wsV RX6 94 RX6 yX6_cranks wsX6_cranks) := goodIn_app (goodIn_of _ (by decide +kernel)) ggX6_crank_X6_cranks
theorem dX6_crank_0 : decode cX6_crank 0 = .ok (.aload_n 0, 1) := by decide +kernel
theorem dX6_crank_1 : decode cX6_crank 1 = .ok (.iload_n 1, 1) := by decide +kernel
theorem dX6_crank_2 : decode cX6_crank 2 = .ok (.iconst 1, 1) := by decide +kernel
theorem dX6_crank_3 : decode cX6_crank 3 = .ok (.sipush 200, 3) := by decide +kernel
theorem dX6_crank_6 : decode cX6_crank 6 = .ok (.invokestatic 36, 3) := by decide +kernel
theorem dX6_crank_9 : decode cX6_crank 9 = .ok (.ifCond .eq 7, 3) := by decide +kernel
theorem dX6_crank_12 : decode cX6_crank 12 = .ok (.iconst 0, 1) := by decide +kernel
theorem dX6_crank_13 : decode cX6_crank 13 = .ok (.goto 4, 3) := by decide +kernel
theorem dX6_crank_16 : decode cX6_crank 16 = .ok (.iconst 1, 1) := by decide +kernel
theorem dX6_crank_17 : decode cX6_crank 17 = .ok (.invokevirtual 75, 3) := by decide +kernel
theorem dX6_crank_20 : decode cX6_crank 20 = .ok (.ifCond .ne 5, 3) := by decide +kernel
theorem dX6_crank_23 : decode cX6_crank 23 = .ok (.iconst 0, 1) := by decide +kernel
theorem dX6_crank_24 : decode cX6_crank 24 = .ok (.ireturn, 1) := by decide +kernel
theorem dX6_crank_25 : decode cX6_crank 25 = .ok (.aload_n 0, 1) := by decide +kernel
theorem dX6_crank_26 : decode cX6_crank 26 = .ok (.invokevirtual 78, 3) := by decide +kernel
theorem dX6_crank_29 : decode cX6_crank 29 = .ok (.aload_n 0, 1) := by decide +kernel
theorem dX6_crank_30 : decode cX6_crank 30 = .ok (.iload_n 1, 1) := by decide +kernel
theorem dX6_crank_31 : decode cX6_crank 31 = .ok (.invokevirtual 94, 3) := by decide +kernel
theorem dX6_crank_34 : decode cX6_crank 34 = .ok (.ireturn, 1) := by decide +kernel
set_option maxRecDepth 20000 in
theorem ggX6_turnBack_X6_records : GoodIn wsX6_turnBack wsX6_records := goodIn_r _ [7, 8, 9, 2, 10, 11, 12, 13, 14, 15, 16, 17, 18, 19, 20] (by decide +kernel) (by decide +kernel)
set_option maxRecDepth 20000 in
theorem gX6_turnBack_X6_records : GoodIn wsX6_turnBack (wsV RX6 78 RX6 yX6_records wsX6_records) := goodIn_app (goodIn_of _ (by decide +kernel)) ggX6_turnBack_X6_records
theorem dX6_turnBack_0 : decode cX6_turnBack 0 = .ok (.aload_n 0, 1) := by decide +kernel
theorem dX6_turnBack_1 : decode cX6_turnBack 1 = .ok (.iconst 0, 1) := by decide +kernel
theorem dX6_turnBack_2 : decode cX6_turnBack 2 = .ok (.putfield 32, 3) := by decide +kernel
theorem dX6_turnBack_5 : decode cX6_turnBack 5 = .ok (.aload_n 0, 1) := by decide +kernel
theorem dX6_turnBack_6 : decode cX6_turnBack 6 = .ok (.invokevirtual 78, 3) := by decide +kernel
theorem dX6_turnBack_9 : decode cX6_turnBack 9 = .ok (.aload_n 0, 1) := by decide +kernel
theorem dX6_turnBack_10 : decode cX6_turnBack 10 = .ok (.getfield 7, 3) := by decide +kernel
theorem dX6_turnBack_13 : decode cX6_turnBack 13 = .ok (.bipush 47, 2) := by decide +kernel
theorem dX6_turnBack_15 : decode cX6_turnBack 15 = .ok (.iaload, 1) := by decide +kernel
theorem dX6_turnBack_16 : decode cX6_turnBack 16 = .ok (.istore_n 1, 1) := by decide +kernel
theorem dX6_turnBack_17 : decode cX6_turnBack 17 = .ok (.aload_n 0, 1) := by decide +kernel
theorem dX6_turnBack_18 : decode cX6_turnBack 18 = .ok (.getfield 7, 3) := by decide +kernel
theorem dX6_turnBack_21 : decode cX6_turnBack 21 = .ok (.bipush 47, 2) := by decide +kernel
theorem dX6_turnBack_23 : decode cX6_turnBack 23 = .ok (.iconst 0, 1) := by decide +kernel
theorem dX6_turnBack_24 : decode cX6_turnBack 24 = .ok (.iastore, 1) := by decide +kernel
theorem dX6_turnBack_25 : decode cX6_turnBack 25 = .ok (.iconst 0, 1) := by decide +kernel
theorem dX6_turnBack_26 : decode cX6_turnBack 26 = .ok (.istore_n 2, 1) := by decide +kernel
theorem dX6_turnBack_27 : decode cX6_turnBack 27 = .ok (.iload_n 2, 1) := by decide +kernel
theorem dX6_turnBack_28 : decode cX6_turnBack 28 = .ok (.bipush 10, 2) := by decide +kernel
theorem dX6_turnBack_30 : decode cX6_turnBack 30 = .ok (.if_icmp .ge 20, 3) := by decide +kernel
theorem dX6_turnBack_33 : decode cX6_turnBack 33 = .ok (.aload_n 0, 1) := by decide +kernel
theorem dX6_turnBack_34 : decode cX6_turnBack 34 = .ok (.getfield 7, 3) := by decide +kernel
theorem dX6_turnBack_37 : decode cX6_turnBack 37 = .ok (.bipush 60, 2) := by decide +kernel
theorem dX6_turnBack_39 : decode cX6_turnBack 39 = .ok (.iload_n 2, 1) := by decide +kernel
theorem dX6_turnBack_40 : decode cX6_turnBack 40 = .ok (.iadd, 1) := by decide +kernel
theorem dX6_turnBack_41 : decode cX6_turnBack 41 = .ok (.bipush 9, 2) := by decide +kernel
theorem dX6_turnBack_43 : decode cX6_turnBack 43 = .ok (.iastore, 1) := by decide +kernel
theorem dX6_turnBack_44 : decode cX6_turnBack 44 = .ok (.iinc 2 1, 3) := by decide +kernel
theorem dX6_turnBack_47 : decode cX6_turnBack 47 = .ok (.goto (-20), 3) := by decide +kernel
theorem dX6_turnBack_50 : decode cX6_turnBack 50 = .ok (.iload_n 1, 1) := by decide +kernel
theorem dX6_turnBack_51 : decode cX6_turnBack 51 = .ok (.ireturn, 1) := by decide +kernel
set_option maxRecDepth 20000 in
theorem ggX6_pegsIn_X6_isColumn : GoodIn wsX6_pegsIn wsX6_isColumn := goodIn_r _ [5, 6, 7, 4, 8] (by decide +kernel) (by decide +kernel)
set_option maxRecDepth 20000 in
theorem gX6_pegsIn_X6_isColumn : GoodIn wsX6_pegsIn (va_wsS RX6 68 yX6_isColumn wsX6_isColumn) := goodIn_app (goodIn_of _ (by decide +kernel)) ggX6_pegsIn_X6_isColumn
set_option maxRecDepth 20000 in
theorem ggX6_pegsIn_X6_holds : GoodIn wsX6_pegsIn wsX6_holds := goodIn_r _ [12, 13, 14, 15, 16, 17, 18, 19, 20, 21, 22, 23, 24] (by decide +kernel) (by decide +kernel)
set_option maxRecDepth 20000 in
theorem gX6_pegsIn_X6_holds : GoodIn wsX6_pegsIn (wsV RX6 75 RX6 yX6_holds wsX6_holds) := goodIn_app (goodIn_of _ (by decide +kernel)) ggX6_pegsIn_X6_holds
theorem dX6_pegsIn_0 : decode cX6_pegsIn 0 = .ok (.aload_n 0, 1) := by decide +kernel
theorem dX6_pegsIn_1 : decode cX6_pegsIn 1 = .ok (.iload_n 1, 1) := by decide +kernel
theorem dX6_pegsIn_2 : decode cX6_pegsIn 2 = .ok (.invokestatic 68, 3) := by decide +kernel
theorem dX6_pegsIn_5 : decode cX6_pegsIn 5 = .ok (.ifCond .eq 7, 3) := by decide +kernel
theorem dX6_pegsIn_8 : decode cX6_pegsIn 8 = .ok (.iconst 0, 1) := by decide +kernel
theorem dX6_pegsIn_9 : decode cX6_pegsIn 9 = .ok (.goto 4, 3) := by decide +kernel
theorem dX6_pegsIn_12 : decode cX6_pegsIn 12 = .ok (.iconst 1, 1) := by decide +kernel
theorem dX6_pegsIn_13 : decode cX6_pegsIn 13 = .ok (.invokevirtual 75, 3) := by decide +kernel
theorem dX6_pegsIn_16 : decode cX6_pegsIn 16 = .ok (.ifCond .eq 14, 3) := by decide +kernel
theorem dX6_pegsIn_19 : decode cX6_pegsIn 19 = .ok (.aload_n 0, 1) := by decide +kernel
theorem dX6_pegsIn_20 : decode cX6_pegsIn 20 = .ok (.getfield 7, 3) := by decide +kernel
theorem dX6_pegsIn_23 : decode cX6_pegsIn 23 = .ok (.iconst 0, 1) := by decide +kernel
theorem dX6_pegsIn_24 : decode cX6_pegsIn 24 = .ok (.iload_n 1, 1) := by decide +kernel
theorem dX6_pegsIn_25 : decode cX6_pegsIn 25 = .ok (.iadd, 1) := by decide +kernel
theorem dX6_pegsIn_26 : decode cX6_pegsIn 26 = .ok (.iaload, 1) := by decide +kernel
theorem dX6_pegsIn_27 : decode cX6_pegsIn 27 = .ok (.goto 4, 3) := by decide +kernel
theorem dX6_pegsIn_30 : decode cX6_pegsIn 30 = .ok (.iconst 0, 1) := by decide +kernel
theorem dX6_pegsIn_31 : decode cX6_pegsIn 31 = .ok (.ireturn, 1) := by decide +kernel
set_option maxRecDepth 20000 in
theorem ggX6_pegs_X6_allPegs : GoodIn wsX6_pegs wsX6_allPegs := goodIn_r _ [6, 7, 8, 9, 5, 10, 11, 12, 13, 14, 15, 16, 17, 18, 19, 20, 21] (by decide +kernel) (by decide +kernel)
set_option maxRecDepth 20000 in
theorem gX6_pegs_X6_allPegs : GoodIn wsX6_pegs (wsV RX6 97 RX6 yX6_allPegs wsX6_allPegs) := goodIn_app (goodIn_of _ (by decide +kernel)) ggX6_pegs_X6_allPegs
theorem dX6_pegs_0 : decode cX6_pegs 0 = .ok (.aload_n 0, 1) := by decide +kernel
theorem dX6_pegs_1 : decode cX6_pegs 1 = .ok (.iconst 0, 1) := by decide +kernel
theorem dX6_pegs_2 : decode cX6_pegs 2 = .ok (.putfield 32, 3) := by decide +kernel
theorem dX6_pegs_5 : decode cX6_pegs 5 = .ok (.aload_n 0, 1) := by decide +kernel
theorem dX6_pegs_6 : decode cX6_pegs 6 = .ok (.invokevirtual 97, 3) := by decide +kernel
theorem dX6_pegs_9 : decode cX6_pegs 9 = .ok (.ireturn, 1) := by decide +kernel
set_option maxRecDepth 20000 in
theorem ggX6_tempoOf_X6_isBar : GoodIn wsX6_tempoOf wsX6_isBar := goodIn_r _ [5, 6, 7, 4, 8] (by decide +kernel) (by decide +kernel)
set_option maxRecDepth 20000 in
theorem gX6_tempoOf_X6_isBar : GoodIn wsX6_tempoOf (va_wsS RX6 85 yX6_isBar wsX6_isBar) := goodIn_app (goodIn_of _ (by decide +kernel)) ggX6_tempoOf_X6_isBar
set_option maxRecDepth 20000 in
theorem ggX6_tempoOf_X6_holds : GoodIn wsX6_tempoOf wsX6_holds := goodIn_r _ [12, 13, 14, 15, 16, 17, 18, 19, 20, 21, 22, 23, 24] (by decide +kernel) (by decide +kernel)
set_option maxRecDepth 20000 in
theorem gX6_tempoOf_X6_holds : GoodIn wsX6_tempoOf (wsV RX6 75 RX6 yX6_holds wsX6_holds) := goodIn_app (goodIn_of _ (by decide +kernel)) ggX6_tempoOf_X6_holds
theorem dX6_tempoOf_0 : decode cX6_tempoOf 0 = .ok (.aload_n 0, 1) := by decide +kernel
theorem dX6_tempoOf_1 : decode cX6_tempoOf 1 = .ok (.iload_n 1, 1) := by decide +kernel
theorem dX6_tempoOf_2 : decode cX6_tempoOf 2 = .ok (.invokestatic 85, 3) := by decide +kernel
theorem dX6_tempoOf_5 : decode cX6_tempoOf 5 = .ok (.ifCond .eq 7, 3) := by decide +kernel
theorem dX6_tempoOf_8 : decode cX6_tempoOf 8 = .ok (.iconst 0, 1) := by decide +kernel
theorem dX6_tempoOf_9 : decode cX6_tempoOf 9 = .ok (.goto 4, 3) := by decide +kernel
theorem dX6_tempoOf_12 : decode cX6_tempoOf 12 = .ok (.iconst 1, 1) := by decide +kernel
theorem dX6_tempoOf_13 : decode cX6_tempoOf 13 = .ok (.invokevirtual 75, 3) := by decide +kernel
theorem dX6_tempoOf_16 : decode cX6_tempoOf 16 = .ok (.ifCond .eq 15, 3) := by decide +kernel
theorem dX6_tempoOf_19 : decode cX6_tempoOf 19 = .ok (.aload_n 0, 1) := by decide +kernel
theorem dX6_tempoOf_20 : decode cX6_tempoOf 20 = .ok (.getfield 7, 3) := by decide +kernel
theorem dX6_tempoOf_23 : decode cX6_tempoOf 23 = .ok (.bipush 32, 2) := by decide +kernel
theorem dX6_tempoOf_25 : decode cX6_tempoOf 25 = .ok (.iload_n 1, 1) := by decide +kernel
theorem dX6_tempoOf_26 : decode cX6_tempoOf 26 = .ok (.iadd, 1) := by decide +kernel
theorem dX6_tempoOf_27 : decode cX6_tempoOf 27 = .ok (.iaload, 1) := by decide +kernel
theorem dX6_tempoOf_28 : decode cX6_tempoOf 28 = .ok (.goto 4, 3) := by decide +kernel
theorem dX6_tempoOf_31 : decode cX6_tempoOf 31 = .ok (.iconst 0, 1) := by decide +kernel
theorem dX6_tempoOf_32 : decode cX6_tempoOf 32 = .ok (.ireturn, 1) := by decide +kernel
set_option maxRecDepth 20000 in
theorem ggX6_weightOf_X6_isBell : GoodIn wsX6_weightOf wsX6_isBell := goodIn_r _ [5, 6, 7, 4, 8] (by decide +kernel) (by decide +kernel)
set_option maxRecDepth 20000 in
theorem gX6_weightOf_X6_isBell : GoodIn wsX6_weightOf (va_wsS RX6 72 yX6_isBell wsX6_isBell) := goodIn_app (goodIn_of _ (by decide +kernel)) ggX6_weightOf_X6_isBell
set_option maxRecDepth 20000 in
theorem ggX6_weightOf_X6_holds : GoodIn wsX6_weightOf wsX6_holds := goodIn_r _ [12, 13, 14, 15, 16, 17, 18, 19, 20, 21, 22, 23, 24] (by decide +kernel) (by decide +kernel)
set_option maxRecDepth 20000 in
theorem gX6_weightOf_X6_holds : GoodIn wsX6_weightOf (wsV RX6 75 RX6 yX6_holds wsX6_holds) := goodIn_app (goodIn_of _ (by decide +kernel)) ggX6_weightOf_X6_holds
theorem dX6_weightOf_0 : decode cX6_weightOf 0 = .ok (.aload_n 0, 1) := by decide +kernel
theorem dX6_weightOf_1 : decode cX6_weightOf 1 = .ok (.iload_n 1, 1) := by decide +kernel
theorem dX6_weightOf_2 : decode cX6_weightOf 2 = .ok (.invokestatic 72, 3) := by decide +kernel
theorem dX6_weightOf_5 : decode cX6_weightOf 5 = .ok (.ifCond .eq 7, 3) := by decide +kernel
theorem dX6_weightOf_8 : decode cX6_weightOf 8 = .ok (.iconst 0, 1) := by decide +kernel
theorem dX6_weightOf_9 : decode cX6_weightOf 9 = .ok (.goto 4, 3) := by decide +kernel
theorem dX6_weightOf_12 : decode cX6_weightOf 12 = .ok (.iconst 1, 1) := by decide +kernel
theorem dX6_weightOf_13 : decode cX6_weightOf 13 = .ok (.invokevirtual 75, 3) := by decide +kernel
theorem dX6_weightOf_16 : decode cX6_weightOf 16 = .ok (.ifCond .eq 15, 3) := by decide +kernel
theorem dX6_weightOf_19 : decode cX6_weightOf 19 = .ok (.aload_n 0, 1) := by decide +kernel
theorem dX6_weightOf_20 : decode cX6_weightOf 20 = .ok (.getfield 7, 3) := by decide +kernel
theorem dX6_weightOf_23 : decode cX6_weightOf 23 = .ok (.bipush 36, 2) := by decide +kernel
theorem dX6_weightOf_25 : decode cX6_weightOf 25 = .ok (.iload_n 1, 1) := by decide +kernel
theorem dX6_weightOf_26 : decode cX6_weightOf 26 = .ok (.iadd, 1) := by decide +kernel
theorem dX6_weightOf_27 : decode cX6_weightOf 27 = .ok (.iaload, 1) := by decide +kernel
theorem dX6_weightOf_28 : decode cX6_weightOf 28 = .ok (.goto 4, 3) := by decide +kernel
theorem dX6_weightOf_31 : decode cX6_weightOf 31 = .ok (.iconst 0, 1) := by decide +kernel
theorem dX6_weightOf_32 : decode cX6_weightOf 32 = .ok (.ireturn, 1) := by decide +kernel
theorem dX6_column_0 : decode cX6_column 0 = .ok (.aload_n 0, 1) := by decide +kernel
theorem dX6_column_1 : decode cX6_column 1 = .ok (.iconst 0, 1) := by decide +kernel
theorem dX6_column_2 : decode cX6_column 2 = .ok (.putfield 32, 3) := by decide +kernel
theorem dX6_column_5 : decode cX6_column 5 = .ok (.aload_n 0, 1) := by decide +kernel
theorem dX6_column_6 : decode cX6_column 6 = .ok (.getfield 7, 3) := by decide +kernel
theorem dX6_column_9 : decode cX6_column 9 = .ok (.bipush 47, 2) := by decide +kernel
theorem dX6_column_11 : decode cX6_column 11 = .ok (.iaload, 1) := by decide +kernel
theorem dX6_column_12 : decode cX6_column 12 = .ok (.ireturn, 1) := by decide +kernel
theorem dX6_time_0 : decode cX6_time 0 = .ok (.aload_n 0, 1) := by decide +kernel
theorem dX6_time_1 : decode cX6_time 1 = .ok (.iconst 0, 1) := by decide +kernel
theorem dX6_time_2 : decode cX6_time 2 = .ok (.putfield 32, 3) := by decide +kernel
theorem dX6_time_5 : decode cX6_time 5 = .ok (.aload_n 0, 1) := by decide +kernel
theorem dX6_time_6 : decode cX6_time 6 = .ok (.getfield 7, 3) := by decide +kernel
theorem dX6_time_9 : decode cX6_time 9 = .ok (.bipush 48, 2) := by decide +kernel
theorem dX6_time_11 : decode cX6_time 11 = .ok (.iaload, 1) := by decide +kernel
theorem dX6_time_12 : decode cX6_time 12 = .ok (.ireturn, 1) := by decide +kernel
set_option maxRecDepth 20000 in
theorem ggX6_heardOf_X6_isBell : GoodIn wsX6_heardOf wsX6_isBell := goodIn_r _ [5, 6, 7, 4, 8] (by decide +kernel) (by decide +kernel)
set_option maxRecDepth 20000 in
theorem gX6_heardOf_X6_isBell : GoodIn wsX6_heardOf (va_wsS RX6 72 yX6_isBell wsX6_isBell) := goodIn_app (goodIn_of _ (by decide +kernel)) ggX6_heardOf_X6_isBell
set_option maxRecDepth 20000 in
theorem ggX6_heardOf_X6_holds : GoodIn wsX6_heardOf wsX6_holds := goodIn_r _ [12, 13, 14, 15, 16, 17, 18, 19, 20, 21, 22, 23, 24] (by decide +kernel) (by decide +kernel)
set_option maxRecDepth 20000 in
theorem gX6_heardOf_X6_holds : GoodIn wsX6_heardOf (wsV RX6 75 RX6 yX6_holds wsX6_holds) := goodIn_app (goodIn_of _ (by decide +kernel)) ggX6_heardOf_X6_holds
theorem dX6_heardOf_0 : decode cX6_heardOf 0 = .ok (.aload_n 0, 1) := by decide +kernel
theorem dX6_heardOf_1 : decode cX6_heardOf 1 = .ok (.iload_n 1, 1) := by decide +kernel
theorem dX6_heardOf_2 : decode cX6_heardOf 2 = .ok (.invokestatic 72, 3) := by decide +kernel
theorem dX6_heardOf_5 : decode cX6_heardOf 5 = .ok (.ifCond .eq 7, 3) := by decide +kernel
theorem dX6_heardOf_8 : decode cX6_heardOf 8 = .ok (.iconst 0, 1) := by decide +kernel
theorem dX6_heardOf_9 : decode cX6_heardOf 9 = .ok (.goto 4, 3) := by decide +kernel
theorem dX6_heardOf_12 : decode cX6_heardOf 12 = .ok (.iconst 1, 1) := by decide +kernel
theorem dX6_heardOf_13 : decode cX6_heardOf 13 = .ok (.invokevirtual 75, 3) := by decide +kernel
theorem dX6_heardOf_16 : decode cX6_heardOf 16 = .ok (.ifCond .eq 15, 3) := by decide +kernel
theorem dX6_heardOf_19 : decode cX6_heardOf 19 = .ok (.aload_n 0, 1) := by decide +kernel
theorem dX6_heardOf_20 : decode cX6_heardOf 20 = .ok (.getfield 7, 3) := by decide +kernel
theorem dX6_heardOf_23 : decode cX6_heardOf 23 = .ok (.bipush 49, 2) := by decide +kernel
theorem dX6_heardOf_25 : decode cX6_heardOf 25 = .ok (.iload_n 1, 1) := by decide +kernel
theorem dX6_heardOf_26 : decode cX6_heardOf 26 = .ok (.iadd, 1) := by decide +kernel
theorem dX6_heardOf_27 : decode cX6_heardOf 27 = .ok (.iaload, 1) := by decide +kernel
theorem dX6_heardOf_28 : decode cX6_heardOf 28 = .ok (.goto 4, 3) := by decide +kernel
theorem dX6_heardOf_31 : decode cX6_heardOf 31 = .ok (.iconst 0, 1) := by decide +kernel
theorem dX6_heardOf_32 : decode cX6_heardOf 32 = .ok (.ireturn, 1) := by decide +kernel
theorem dX6_heard_0 : decode cX6_heard 0 = .ok (.aload_n 0, 1) := by decide +kernel
theorem dX6_heard_1 : decode cX6_heard 1 = .ok (.iconst 0, 1) := by decide +kernel
theorem dX6_heard_2 : decode cX6_heard 2 = .ok (.putfield 32, 3) := by decide +kernel
theorem dX6_heard_5 : decode cX6_heard 5 = .ok (.iconst 0, 1) := by decide +kernel
theorem dX6_heard_6 : decode cX6_heard 6 = .ok (.istore_n 2, 1) := by decide +kernel
theorem dX6_heard_7 : decode cX6_heard 7 = .ok (.iconst 0, 1) := by decide +kernel
theorem dX6_heard_8 : decode cX6_heard 8 = .ok (.istore_n 3, 1) := by decide +kernel
theorem dX6_heard_9 : decode cX6_heard 9 = .ok (.iload_n 3, 1) := by decide +kernel
theorem dX6_heard_10 : decode cX6_heard 10 = .ok (.bipush 10, 2) := by decide +kernel
theorem dX6_heard_12 : decode cX6_heard 12 = .ok (.if_icmp .ge 21, 3) := by decide +kernel
theorem dX6_heard_15 : decode cX6_heard 15 = .ok (.iload_n 2, 1) := by decide +kernel
theorem dX6_heard_16 : decode cX6_heard 16 = .ok (.aload_n 0, 1) := by decide +kernel
theorem dX6_heard_17 : decode cX6_heard 17 = .ok (.getfield 7, 3) := by decide +kernel
theorem dX6_heard_20 : decode cX6_heard 20 = .ok (.bipush 49, 2) := by decide +kernel
theorem dX6_heard_22 : decode cX6_heard 22 = .ok (.iload_n 3, 1) := by decide +kernel
theorem dX6_heard_23 : decode cX6_heard 23 = .ok (.iadd, 1) := by decide +kernel
theorem dX6_heard_24 : decode cX6_heard 24 = .ok (.iaload, 1) := by decide +kernel
theorem dX6_heard_25 : decode cX6_heard 25 = .ok (.iadd, 1) := by decide +kernel
theorem dX6_heard_26 : decode cX6_heard 26 = .ok (.istore_n 2, 1) := by decide +kernel
theorem dX6_heard_27 : decode cX6_heard 27 = .ok (.iinc 3 1, 3) := by decide +kernel
theorem dX6_heard_30 : decode cX6_heard 30 = .ok (.goto (-21), 3) := by decide +kernel
theorem dX6_heard_33 : decode cX6_heard 33 = .ok (.iload_n 2, 1) := by decide +kernel
theorem dX6_heard_34 : decode cX6_heard 34 = .ok (.ireturn, 1) := by decide +kernel
theorem dX6_missed_0 : decode cX6_missed 0 = .ok (.aload_n 0, 1) := by decide +kernel
theorem dX6_missed_1 : decode cX6_missed 1 = .ok (.iconst 0, 1) := by decide +kernel
theorem dX6_missed_2 : decode cX6_missed 2 = .ok (.putfield 32, 3) := by decide +kernel
theorem dX6_missed_5 : decode cX6_missed 5 = .ok (.aload_n 0, 1) := by decide +kernel
theorem dX6_missed_6 : decode cX6_missed 6 = .ok (.getfield 7, 3) := by decide +kernel
theorem dX6_missed_9 : decode cX6_missed 9 = .ok (.bipush 59, 2) := by decide +kernel
theorem dX6_missed_11 : decode cX6_missed 11 = .ok (.iaload, 1) := by decide +kernel
theorem dX6_missed_12 : decode cX6_missed 12 = .ok (.ireturn, 1) := by decide +kernel
set_option maxRecDepth 20000 in
theorem ggX6_whyMissed_X6_isBell : GoodIn wsX6_whyMissed wsX6_isBell := goodIn_r _ [5, 6, 7, 4, 8] (by decide +kernel) (by decide +kernel)
set_option maxRecDepth 20000 in
theorem gX6_whyMissed_X6_isBell : GoodIn wsX6_whyMissed (va_wsS RX6 72 yX6_isBell wsX6_isBell) := goodIn_app (goodIn_of _ (by decide +kernel)) ggX6_whyMissed_X6_isBell
set_option maxRecDepth 20000 in
theorem ggX6_whyMissed_X6_holds : GoodIn wsX6_whyMissed wsX6_holds := goodIn_r _ [12, 13, 22, 23, 24, 25, 26, 27, 28, 29, 30, 31, 32] (by decide +kernel) (by decide +kernel)
set_option maxRecDepth 20000 in
theorem gX6_whyMissed_X6_holds : GoodIn wsX6_whyMissed (wsV RX6 75 RX6 yX6_holds wsX6_holds) := goodIn_app (goodIn_of _ (by decide +kernel)) ggX6_whyMissed_X6_holds
set_option maxRecDepth 20000 in
theorem ggX6_whyMissed_X6_missedFor : GoodIn wsX6_whyMissed wsX6_missedFor := goodIn_r _ [17, 1, 18, 19, 20, 4, 21, 22, 23, 24, 25, 26, 27, 28, 29, 30, 31, 32] (by decide +kernel) (by decide +kernel)
set_option maxRecDepth 20000 in
theorem gX6_whyMissed_X6_missedFor : GoodIn wsX6_whyMissed (wsV RX6 50 RX6 yX6_missedFor wsX6_missedFor) := goodIn_app (goodIn_of _ (by decide +kernel)) ggX6_whyMissed_X6_missedFor
theorem dX6_whyMissed_0 : decode cX6_whyMissed 0 = .ok (.aload_n 0, 1) := by decide +kernel
theorem dX6_whyMissed_1 : decode cX6_whyMissed 1 = .ok (.iload_n 1, 1) := by decide +kernel
theorem dX6_whyMissed_2 : decode cX6_whyMissed 2 = .ok (.invokestatic 72, 3) := by decide +kernel
theorem dX6_whyMissed_5 : decode cX6_whyMissed 5 = .ok (.ifCond .eq 7, 3) := by decide +kernel
theorem dX6_whyMissed_8 : decode cX6_whyMissed 8 = .ok (.iconst 0, 1) := by decide +kernel
theorem dX6_whyMissed_9 : decode cX6_whyMissed 9 = .ok (.goto 4, 3) := by decide +kernel
theorem dX6_whyMissed_12 : decode cX6_whyMissed 12 = .ok (.iconst 1, 1) := by decide +kernel
theorem dX6_whyMissed_13 : decode cX6_whyMissed 13 = .ok (.invokevirtual 75, 3) := by decide +kernel
theorem dX6_whyMissed_16 : decode cX6_whyMissed 16 = .ok (.ifCond .ne 5, 3) := by decide +kernel
theorem dX6_whyMissed_19 : decode cX6_whyMissed 19 = .ok (.iconst 0, 1) := by decide +kernel
theorem dX6_whyMissed_20 : decode cX6_whyMissed 20 = .ok (.ireturn, 1) := by decide +kernel
theorem dX6_whyMissed_21 : decode cX6_whyMissed 21 = .ok (.aload_n 0, 1) := by decide +kernel
theorem dX6_whyMissed_22 : decode cX6_whyMissed 22 = .ok (.getfield 7, 3) := by decide +kernel
theorem dX6_whyMissed_25 : decode cX6_whyMissed 25 = .ok (.iconst 0, 1) := by decide +kernel
theorem dX6_whyMissed_26 : decode cX6_whyMissed 26 = .ok (.aload_n 0, 1) := by decide +kernel
theorem dX6_whyMissed_27 : decode cX6_whyMissed 27 = .ok (.getfield 7, 3) := by decide +kernel
theorem dX6_whyMissed_30 : decode cX6_whyMissed 30 = .ok (.bipush 47, 2) := by decide +kernel
theorem dX6_whyMissed_32 : decode cX6_whyMissed 32 = .ok (.iaload, 1) := by decide +kernel
theorem dX6_whyMissed_33 : decode cX6_whyMissed 33 = .ok (.iadd, 1) := by decide +kernel
theorem dX6_whyMissed_34 : decode cX6_whyMissed 34 = .ok (.iaload, 1) := by decide +kernel
theorem dX6_whyMissed_35 : decode cX6_whyMissed 35 = .ok (.istore_n 2, 1) := by decide +kernel
theorem dX6_whyMissed_36 : decode cX6_whyMissed 36 = .ok (.iload_n 2, 1) := by decide +kernel
theorem dX6_whyMissed_37 : decode cX6_whyMissed 37 = .ok (.iload_n 1, 1) := by decide +kernel
theorem dX6_whyMissed_38 : decode cX6_whyMissed 38 = .ok (.ishr, 1) := by decide +kernel
theorem dX6_whyMissed_39 : decode cX6_whyMissed 39 = .ok (.iconst 1, 1) := by decide +kernel
theorem dX6_whyMissed_40 : decode cX6_whyMissed 40 = .ok (.iand, 1) := by decide +kernel
theorem dX6_whyMissed_41 : decode cX6_whyMissed 41 = .ok (.ifCond .ne 5, 3) := by decide +kernel
theorem dX6_whyMissed_44 : decode cX6_whyMissed 44 = .ok (.iconst 3, 1) := by decide +kernel
theorem dX6_whyMissed_45 : decode cX6_whyMissed 45 = .ok (.ireturn, 1) := by decide +kernel
theorem dX6_whyMissed_46 : decode cX6_whyMissed 46 = .ok (.iconst 0, 1) := by decide +kernel
theorem dX6_whyMissed_47 : decode cX6_whyMissed 47 = .ok (.istore_n 3, 1) := by decide +kernel
theorem dX6_whyMissed_48 : decode cX6_whyMissed 48 = .ok (.iconst 0, 1) := by decide +kernel
theorem dX6_whyMissed_49 : decode cX6_whyMissed 49 = .ok (.istore 4, 2) := by decide +kernel
theorem dX6_whyMissed_51 : decode cX6_whyMissed 51 = .ok (.iload 4, 2) := by decide +kernel
theorem dX6_whyMissed_53 : decode cX6_whyMissed 53 = .ok (.iload_n 1, 1) := by decide +kernel
theorem dX6_whyMissed_54 : decode cX6_whyMissed 54 = .ok (.if_icmp .ge 69, 3) := by decide +kernel
theorem dX6_whyMissed_57 : decode cX6_whyMissed 57 = .ok (.iload_n 2, 1) := by decide +kernel
theorem dX6_whyMissed_58 : decode cX6_whyMissed 58 = .ok (.iload 4, 2) := by decide +kernel
theorem dX6_whyMissed_60 : decode cX6_whyMissed 60 = .ok (.ishr, 1) := by decide +kernel
theorem dX6_whyMissed_61 : decode cX6_whyMissed 61 = .ok (.iconst 1, 1) := by decide +kernel
theorem dX6_whyMissed_62 : decode cX6_whyMissed 62 = .ok (.iand, 1) := by decide +kernel
theorem dX6_whyMissed_63 : decode cX6_whyMissed 63 = .ok (.iconst 1, 1) := by decide +kernel
theorem dX6_whyMissed_64 : decode cX6_whyMissed 64 = .ok (.if_icmp .ne 34, 3) := by decide +kernel
theorem dX6_whyMissed_67 : decode cX6_whyMissed 67 = .ok (.aload_n 0, 1) := by decide +kernel
theorem dX6_whyMissed_68 : decode cX6_whyMissed 68 = .ok (.iload 4, 2) := by decide +kernel
theorem dX6_whyMissed_70 : decode cX6_whyMissed 70 = .ok (.iload_n 3, 1) := by decide +kernel
theorem dX6_whyMissed_71 : decode cX6_whyMissed 71 = .ok (.aload_n 0, 1) := by decide +kernel
theorem dX6_whyMissed_72 : decode cX6_whyMissed 72 = .ok (.getfield 7, 3) := by decide +kernel
theorem dX6_whyMissed_75 : decode cX6_whyMissed 75 = .ok (.bipush 60, 2) := by decide +kernel
theorem dX6_whyMissed_77 : decode cX6_whyMissed 77 = .ok (.iload 4, 2) := by decide +kernel
theorem dX6_whyMissed_79 : decode cX6_whyMissed 79 = .ok (.iadd, 1) := by decide +kernel
theorem dX6_whyMissed_80 : decode cX6_whyMissed 80 = .ok (.iaload, 1) := by decide +kernel
theorem dX6_whyMissed_81 : decode cX6_whyMissed 81 = .ok (.aload_n 0, 1) := by decide +kernel
theorem dX6_whyMissed_82 : decode cX6_whyMissed 82 = .ok (.getfield 7, 3) := by decide +kernel
theorem dX6_whyMissed_85 : decode cX6_whyMissed 85 = .ok (.bipush 46, 2) := by decide +kernel
theorem dX6_whyMissed_87 : decode cX6_whyMissed 87 = .ok (.iaload, 1) := by decide +kernel
theorem dX6_whyMissed_88 : decode cX6_whyMissed 88 = .ok (.invokevirtual 50, 3) := by decide +kernel
theorem dX6_whyMissed_91 : decode cX6_whyMissed 91 = .ok (.ifCond .ne 7, 3) := by decide +kernel
theorem dX6_whyMissed_94 : decode cX6_whyMissed 94 = .ok (.iconst 1, 1) := by decide +kernel
theorem dX6_whyMissed_95 : decode cX6_whyMissed 95 = .ok (.goto 4, 3) := by decide +kernel
theorem dX6_whyMissed_98 : decode cX6_whyMissed 98 = .ok (.iconst 0, 1) := by decide +kernel
theorem dX6_whyMissed_99 : decode cX6_whyMissed 99 = .ok (.istore 5, 2) := by decide +kernel
theorem dX6_whyMissed_101 : decode cX6_whyMissed 101 = .ok (.iload_n 3, 1) := by decide +kernel
theorem dX6_whyMissed_102 : decode cX6_whyMissed 102 = .ok (.iload 5, 2) := by decide +kernel
theorem dX6_whyMissed_104 : decode cX6_whyMissed 104 = .ok (.ifCond .eq 10, 3) := by decide +kernel
theorem dX6_whyMissed_107 : decode cX6_whyMissed 107 = .ok (.iconst 1, 1) := by decide +kernel
theorem dX6_whyMissed_108 : decode cX6_whyMissed 108 = .ok (.iload 4, 2) := by decide +kernel
theorem dX6_whyMissed_110 : decode cX6_whyMissed 110 = .ok (.ishl, 1) := by decide +kernel
theorem dX6_whyMissed_111 : decode cX6_whyMissed 111 = .ok (.goto 4, 3) := by decide +kernel
theorem dX6_whyMissed_114 : decode cX6_whyMissed 114 = .ok (.iconst 0, 1) := by decide +kernel
theorem dX6_whyMissed_115 : decode cX6_whyMissed 115 = .ok (.ior, 1) := by decide +kernel
theorem dX6_whyMissed_116 : decode cX6_whyMissed 116 = .ok (.istore_n 3, 1) := by decide +kernel
theorem dX6_whyMissed_117 : decode cX6_whyMissed 117 = .ok (.iinc 4 1, 3) := by decide +kernel
theorem dX6_whyMissed_120 : decode cX6_whyMissed 120 = .ok (.goto (-69), 3) := by decide +kernel
theorem dX6_whyMissed_123 : decode cX6_whyMissed 123 = .ok (.aload_n 0, 1) := by decide +kernel
theorem dX6_whyMissed_124 : decode cX6_whyMissed 124 = .ok (.iload_n 1, 1) := by decide +kernel
theorem dX6_whyMissed_125 : decode cX6_whyMissed 125 = .ok (.iload_n 3, 1) := by decide +kernel
theorem dX6_whyMissed_126 : decode cX6_whyMissed 126 = .ok (.aload_n 0, 1) := by decide +kernel
theorem dX6_whyMissed_127 : decode cX6_whyMissed 127 = .ok (.getfield 7, 3) := by decide +kernel
theorem dX6_whyMissed_130 : decode cX6_whyMissed 130 = .ok (.bipush 60, 2) := by decide +kernel
theorem dX6_whyMissed_132 : decode cX6_whyMissed 132 = .ok (.iload_n 1, 1) := by decide +kernel
theorem dX6_whyMissed_133 : decode cX6_whyMissed 133 = .ok (.iadd, 1) := by decide +kernel
theorem dX6_whyMissed_134 : decode cX6_whyMissed 134 = .ok (.iaload, 1) := by decide +kernel
theorem dX6_whyMissed_135 : decode cX6_whyMissed 135 = .ok (.aload_n 0, 1) := by decide +kernel
theorem dX6_whyMissed_136 : decode cX6_whyMissed 136 = .ok (.getfield 7, 3) := by decide +kernel
theorem dX6_whyMissed_139 : decode cX6_whyMissed 139 = .ok (.bipush 46, 2) := by decide +kernel
theorem dX6_whyMissed_141 : decode cX6_whyMissed 141 = .ok (.iaload, 1) := by decide +kernel
theorem dX6_whyMissed_142 : decode cX6_whyMissed 142 = .ok (.invokevirtual 50, 3) := by decide +kernel
theorem dX6_whyMissed_145 : decode cX6_whyMissed 145 = .ok (.ireturn, 1) := by decide +kernel
set_option maxRecDepth 20000 in
theorem ggX6_inRound_X6_isColumn : GoodIn wsX6_inRound wsX6_isColumn := goodIn_r _ [6, 7, 8, 5, 9] (by decide +kernel) (by decide +kernel)
set_option maxRecDepth 20000 in
theorem gX6_inRound_X6_isColumn : GoodIn wsX6_inRound (va_wsS RX6 68 yX6_isColumn wsX6_isColumn) := goodIn_app (goodIn_of _ (by decide +kernel)) ggX6_inRound_X6_isColumn
set_option maxRecDepth 20000 in
theorem ggX6_inRound_X6_holds : GoodIn wsX6_inRound wsX6_holds := goodIn_r _ [13, 14, 32, 33, 34, 35, 36, 37, 38, 39, 40, 41, 42] (by decide +kernel) (by decide +kernel)
set_option maxRecDepth 20000 in
theorem gX6_inRound_X6_holds : GoodIn wsX6_inRound (wsV RX6 75 RX6 yX6_holds wsX6_holds) := goodIn_app (goodIn_of _ (by decide +kernel)) ggX6_inRound_X6_holds
set_option maxRecDepth 20000 in
theorem ggX6_inRound_X6_rounds : GoodIn wsX6_inRound wsX6_rounds := goodIn_r _ [18, 19, 20, 1, 2, 21, 22, 23, 5, 24, 25, 26, 27, 28, 29, 30, 31, 32, 33, 34, 35, 36, 37, 38, 39, 40, 41, 42] (by decide +kernel) (by decide +kernel)
set_option maxRecDepth 20000 in
theorem gX6_inRound_X6_rounds : GoodIn wsX6_inRound (wsV RX6 64 RX6 yX6_rounds wsX6_rounds) := goodIn_app (goodIn_of _ (by decide +kernel)) ggX6_inRound_X6_rounds
theorem dX6_inRound_0 : decode cX6_inRound 0 = .ok (.aload_n 0, 1) := by decide +kernel
theorem dX6_inRound_1 : decode cX6_inRound 1 = .ok (.iload_n 1, 1) := by decide +kernel
theorem dX6_inRound_2 : decode cX6_inRound 2 = .ok (.invokestatic 68, 3) := by decide +kernel
theorem dX6_inRound_5 : decode cX6_inRound 5 = .ok (.ifCond .eq 7, 3) := by decide +kernel
theorem dX6_inRound_8 : decode cX6_inRound 8 = .ok (.iconst 0, 1) := by decide +kernel
theorem dX6_inRound_9 : decode cX6_inRound 9 = .ok (.goto 4, 3) := by decide +kernel
theorem dX6_inRound_12 : decode cX6_inRound 12 = .ok (.iconst 1, 1) := by decide +kernel
theorem dX6_inRound_13 : decode cX6_inRound 13 = .ok (.invokevirtual 75, 3) := by decide +kernel
theorem dX6_inRound_16 : decode cX6_inRound 16 = .ok (.ifCond .ne 5, 3) := by decide +kernel
theorem dX6_inRound_19 : decode cX6_inRound 19 = .ok (.iconst 0, 1) := by decide +kernel
theorem dX6_inRound_20 : decode cX6_inRound 20 = .ok (.ireturn, 1) := by decide +kernel
theorem dX6_inRound_21 : decode cX6_inRound 21 = .ok (.aload_n 0, 1) := by decide +kernel
theorem dX6_inRound_22 : decode cX6_inRound 22 = .ok (.aload_n 0, 1) := by decide +kernel
theorem dX6_inRound_23 : decode cX6_inRound 23 = .ok (.getfield 7, 3) := by decide +kernel
theorem dX6_inRound_26 : decode cX6_inRound 26 = .ok (.bipush 46, 2) := by decide +kernel
theorem dX6_inRound_28 : decode cX6_inRound 28 = .ok (.iaload, 1) := by decide +kernel
theorem dX6_inRound_29 : decode cX6_inRound 29 = .ok (.invokevirtual 64, 3) := by decide +kernel
theorem dX6_inRound_32 : decode cX6_inRound 32 = .ok (.aload_n 0, 1) := by decide +kernel
theorem dX6_inRound_33 : decode cX6_inRound 33 = .ok (.getfield 29, 3) := by decide +kernel
theorem dX6_inRound_36 : decode cX6_inRound 36 = .ok (.iload_n 1, 1) := by decide +kernel
theorem dX6_inRound_37 : decode cX6_inRound 37 = .ok (.iaload, 1) := by decide +kernel
theorem dX6_inRound_38 : decode cX6_inRound 38 = .ok (.ireturn, 1) := by decide +kernel
set_option maxRecDepth 20000 in
theorem ggX6_heardInRound_X6_heardOfRound : GoodIn wsX6_heardInRound wsX6_heardOfRound := goodIn_r _ [6, 7, 8, 9, 10, 11, 5, 12, 13, 14, 15, 16, 17, 18, 19, 20, 21, 22, 23, 24, 25, 26, 27, 28, 29, 30, 31, 32, 33, 34, 35, 36, 37, 38, 39] (by decide +kernel) (by decide +kernel)
set_option maxRecDepth 20000 in
theorem gX6_heardInRound_X6_heardOfRound : GoodIn wsX6_heardInRound (wsV RX6 100 RX6 yX6_heardOfRound wsX6_heardOfRound) := goodIn_app (goodIn_of _ (by decide +kernel)) ggX6_heardInRound_X6_heardOfRound
theorem dX6_heardInRound_0 : decode cX6_heardInRound 0 = .ok (.aload_n 0, 1) := by decide +kernel
theorem dX6_heardInRound_1 : decode cX6_heardInRound 1 = .ok (.iconst 0, 1) := by decide +kernel
theorem dX6_heardInRound_2 : decode cX6_heardInRound 2 = .ok (.putfield 32, 3) := by decide +kernel
theorem dX6_heardInRound_5 : decode cX6_heardInRound 5 = .ok (.aload_n 0, 1) := by decide +kernel
theorem dX6_heardInRound_6 : decode cX6_heardInRound 6 = .ok (.invokevirtual 100, 3) := by decide +kernel
theorem dX6_heardInRound_9 : decode cX6_heardInRound 9 = .ok (.ireturn, 1) := by decide +kernel
theorem dX6_ticksOfRound_0 : decode cX6_ticksOfRound 0 = .ok (.aload_n 0, 1) := by decide +kernel
theorem dX6_ticksOfRound_1 : decode cX6_ticksOfRound 1 = .ok (.iconst 0, 1) := by decide +kernel
theorem dX6_ticksOfRound_2 : decode cX6_ticksOfRound 2 = .ok (.putfield 32, 3) := by decide +kernel
theorem dX6_ticksOfRound_5 : decode cX6_ticksOfRound 5 = .ok (.iconst 0, 1) := by decide +kernel
theorem dX6_ticksOfRound_6 : decode cX6_ticksOfRound 6 = .ok (.istore_n 2, 1) := by decide +kernel
theorem dX6_ticksOfRound_7 : decode cX6_ticksOfRound 7 = .ok (.iconst 0, 1) := by decide +kernel
theorem dX6_ticksOfRound_8 : decode cX6_ticksOfRound 8 = .ok (.istore_n 3, 1) := by decide +kernel
theorem dX6_ticksOfRound_9 : decode cX6_ticksOfRound 9 = .ok (.iload_n 3, 1) := by decide +kernel
theorem dX6_ticksOfRound_10 : decode cX6_ticksOfRound 10 = .ok (.iconst 4, 1) := by decide +kernel
theorem dX6_ticksOfRound_11 : decode cX6_ticksOfRound 11 = .ok (.if_icmp .ge 24, 3) := by decide +kernel
theorem dX6_ticksOfRound_14 : decode cX6_ticksOfRound 14 = .ok (.iload_n 2, 1) := by decide +kernel
theorem dX6_ticksOfRound_15 : decode cX6_ticksOfRound 15 = .ok (.bipush 8, 2) := by decide +kernel
theorem dX6_ticksOfRound_17 : decode cX6_ticksOfRound 17 = .ok (.aload_n 0, 1) := by decide +kernel
theorem dX6_ticksOfRound_18 : decode cX6_ticksOfRound 18 = .ok (.getfield 7, 3) := by decide +kernel
theorem dX6_ticksOfRound_21 : decode cX6_ticksOfRound 21 = .ok (.bipush 32, 2) := by decide +kernel
theorem dX6_ticksOfRound_23 : decode cX6_ticksOfRound 23 = .ok (.iload_n 3, 1) := by decide +kernel
theorem dX6_ticksOfRound_24 : decode cX6_ticksOfRound 24 = .ok (.iadd, 1) := by decide +kernel
theorem dX6_ticksOfRound_25 : decode cX6_ticksOfRound 25 = .ok (.iaload, 1) := by decide +kernel
theorem dX6_ticksOfRound_26 : decode cX6_ticksOfRound 26 = .ok (.imul, 1) := by decide +kernel
theorem dX6_ticksOfRound_27 : decode cX6_ticksOfRound 27 = .ok (.iadd, 1) := by decide +kernel
theorem dX6_ticksOfRound_28 : decode cX6_ticksOfRound 28 = .ok (.istore_n 2, 1) := by decide +kernel
theorem dX6_ticksOfRound_29 : decode cX6_ticksOfRound 29 = .ok (.iinc 3 1, 3) := by decide +kernel
theorem dX6_ticksOfRound_32 : decode cX6_ticksOfRound 32 = .ok (.goto (-23), 3) := by decide +kernel
theorem dX6_ticksOfRound_35 : decode cX6_ticksOfRound 35 = .ok (.iload_n 2, 1) := by decide +kernel
theorem dX6_ticksOfRound_36 : decode cX6_ticksOfRound 36 = .ok (.ireturn, 1) := by decide +kernel
set_option maxRecDepth 20000 in
theorem ggX6_missedInRound_X6_allPegs : GoodIn wsX6_missedInRound wsX6_allPegs := goodIn_r _ [6, 7, 8, 9, 5, 10, 33, 34, 35, 36, 37, 38, 39, 40, 41, 42, 43] (by decide +kernel) (by decide +kernel)
set_option maxRecDepth 20000 in
theorem gX6_missedInRound_X6_allPegs : GoodIn wsX6_missedInRound (wsV RX6 97 RX6 yX6_allPegs wsX6_allPegs) := goodIn_app (goodIn_of _ (by decide +kernel)) ggX6_missedInRound_X6_allPegs
set_option maxRecDepth 20000 in
theorem ggX6_missedInRound_X6_heardOfRound : GoodIn wsX6_missedInRound wsX6_heardOfRound := goodIn_r _ [14, 7, 15, 16, 17, 18, 5, 19, 20, 21, 22, 23, 24, 25, 26, 27, 28, 29, 30, 31, 32, 8, 9, 10, 33, 34, 35, 36, 37, 38, 39, 40, 41, 42, 43] (by decide +kernel) (by decide +kernel)
set_option maxRecDepth 20000 in
theorem gX6_missedInRound_X6_heardOfRound : GoodIn wsX6_missedInRound (wsV RX6 100 RX6 yX6_heardOfRound wsX6_heardOfRound) := goodIn_app (goodIn_of _ (by decide +kernel)) ggX6_missedInRound_X6_heardOfRound
theorem dX6_missedInRound_0 : decode cX6_missedInRound 0 = .ok (.aload_n 0, 1) := by decide +kernel
theorem dX6_missedInRound_1 : decode cX6_missedInRound 1 = .ok (.iconst 0, 1) := by decide +kernel
theorem dX6_missedInRound_2 : decode cX6_missedInRound 2 = .ok (.putfield 32, 3) := by decide +kernel
theorem dX6_missedInRound_5 : decode cX6_missedInRound 5 = .ok (.aload_n 0, 1) := by decide +kernel
theorem dX6_missedInRound_6 : decode cX6_missedInRound 6 = .ok (.invokevirtual 97, 3) := by decide +kernel
theorem dX6_missedInRound_9 : decode cX6_missedInRound 9 = .ok (.aload_n 0, 1) := by decide +kernel
theorem dX6_missedInRound_10 : decode cX6_missedInRound 10 = .ok (.invokevirtual 100, 3) := by decide +kernel
theorem dX6_missedInRound_13 : decode cX6_missedInRound 13 = .ok (.isub, 1) := by decide +kernel
theorem dX6_missedInRound_14 : decode cX6_missedInRound 14 = .ok (.ireturn, 1) := by decide +kernel
set_option maxRecDepth 20000 in
theorem ggX6_busiest_X6_rounds : GoodIn wsX6_busiest wsX6_rounds := goodIn_r _ [8, 9, 10, 2, 3, 11, 12, 13, 7, 14, 15, 16, 17, 18, 19, 20, 21, 22, 23, 24, 25, 26, 27, 28, 29, 30, 31, 32] (by decide +kernel) (by decide +kernel)
set_option maxRecDepth 20000 in
theorem gX6_busiest_X6_rounds : GoodIn wsX6_busiest (wsV RX6 64 RX6 yX6_rounds wsX6_rounds) := goodIn_app (goodIn_of _ (by decide +kernel)) ggX6_busiest_X6_rounds
theorem dX6_busiest_0 : decode cX6_busiest 0 = .ok (.aload_n 0, 1) := by decide +kernel
theorem dX6_busiest_1 : decode cX6_busiest 1 = .ok (.iconst 0, 1) := by decide +kernel
theorem dX6_busiest_2 : decode cX6_busiest 2 = .ok (.putfield 32, 3) := by decide +kernel
theorem dX6_busiest_5 : decode cX6_busiest 5 = .ok (.aload_n 0, 1) := by decide +kernel
theorem dX6_busiest_6 : decode cX6_busiest 6 = .ok (.aload_n 0, 1) := by decide +kernel
theorem dX6_busiest_7 : decode cX6_busiest 7 = .ok (.getfield 7, 3) := by decide +kernel
theorem dX6_busiest_10 : decode cX6_busiest 10 = .ok (.bipush 46, 2) := by decide +kernel
theorem dX6_busiest_12 : decode cX6_busiest 12 = .ok (.iaload, 1) := by decide +kernel
theorem dX6_busiest_13 : decode cX6_busiest 13 = .ok (.invokevirtual 64, 3) := by decide +kernel
theorem dX6_busiest_16 : decode cX6_busiest 16 = .ok (.iconst (-1), 1) := by decide +kernel
theorem dX6_busiest_17 : decode cX6_busiest 17 = .ok (.istore_n 1, 1) := by decide +kernel
theorem dX6_busiest_18 : decode cX6_busiest 18 = .ok (.iconst 0, 1) := by decide +kernel
theorem dX6_busiest_19 : decode cX6_busiest 19 = .ok (.istore_n 2, 1) := by decide +kernel
theorem dX6_busiest_20 : decode cX6_busiest 20 = .ok (.iconst 0, 1) := by decide +kernel
theorem dX6_busiest_21 : decode cX6_busiest 21 = .ok (.istore_n 3, 1) := by decide +kernel
theorem dX6_busiest_22 : decode cX6_busiest 22 = .ok (.iload_n 3, 1) := by decide +kernel
theorem dX6_busiest_23 : decode cX6_busiest 23 = .ok (.bipush 10, 2) := by decide +kernel
theorem dX6_busiest_25 : decode cX6_busiest 25 = .ok (.if_icmp .ge 69, 3) := by decide +kernel
theorem dX6_busiest_28 : decode cX6_busiest 28 = .ok (.iconst 0, 1) := by decide +kernel
theorem dX6_busiest_29 : decode cX6_busiest 29 = .ok (.istore 4, 2) := by decide +kernel
theorem dX6_busiest_31 : decode cX6_busiest 31 = .ok (.iconst 0, 1) := by decide +kernel
theorem dX6_busiest_32 : decode cX6_busiest 32 = .ok (.istore 5, 2) := by decide +kernel
theorem dX6_busiest_34 : decode cX6_busiest 34 = .ok (.iload 5, 2) := by decide +kernel
theorem dX6_busiest_36 : decode cX6_busiest 36 = .ok (.bipush 32, 2) := by decide +kernel
theorem dX6_busiest_38 : decode cX6_busiest 38 = .ok (.if_icmp .ge 25, 3) := by decide +kernel
theorem dX6_busiest_41 : decode cX6_busiest 41 = .ok (.iload 4, 2) := by decide +kernel
theorem dX6_busiest_43 : decode cX6_busiest 43 = .ok (.aload_n 0, 1) := by decide +kernel
theorem dX6_busiest_44 : decode cX6_busiest 44 = .ok (.getfield 29, 3) := by decide +kernel
theorem dX6_busiest_47 : decode cX6_busiest 47 = .ok (.iload 5, 2) := by decide +kernel
theorem dX6_busiest_49 : decode cX6_busiest 49 = .ok (.iaload, 1) := by decide +kernel
theorem dX6_busiest_50 : decode cX6_busiest 50 = .ok (.iload_n 3, 1) := by decide +kernel
theorem dX6_busiest_51 : decode cX6_busiest 51 = .ok (.ishr, 1) := by decide +kernel
theorem dX6_busiest_52 : decode cX6_busiest 52 = .ok (.iconst 1, 1) := by decide +kernel
theorem dX6_busiest_53 : decode cX6_busiest 53 = .ok (.iand, 1) := by decide +kernel
theorem dX6_busiest_54 : decode cX6_busiest 54 = .ok (.iadd, 1) := by decide +kernel
theorem dX6_busiest_55 : decode cX6_busiest 55 = .ok (.istore 4, 2) := by decide +kernel
theorem dX6_busiest_57 : decode cX6_busiest 57 = .ok (.iinc 5 1, 3) := by decide +kernel
theorem dX6_busiest_60 : decode cX6_busiest 60 = .ok (.goto (-26), 3) := by decide +kernel
theorem dX6_busiest_63 : decode cX6_busiest 63 = .ok (.iload 4, 2) := by decide +kernel
theorem dX6_busiest_65 : decode cX6_busiest 65 = .ok (.iload_n 2, 1) := by decide +kernel
theorem dX6_busiest_66 : decode cX6_busiest 66 = .ok (.if_icmp .le 7, 3) := by decide +kernel
theorem dX6_busiest_69 : decode cX6_busiest 69 = .ok (.iload_n 3, 1) := by decide +kernel
theorem dX6_busiest_70 : decode cX6_busiest 70 = .ok (.goto 4, 3) := by decide +kernel
theorem dX6_busiest_73 : decode cX6_busiest 73 = .ok (.iload_n 1, 1) := by decide +kernel
theorem dX6_busiest_74 : decode cX6_busiest 74 = .ok (.istore_n 1, 1) := by decide +kernel
theorem dX6_busiest_75 : decode cX6_busiest 75 = .ok (.iload 4, 2) := by decide +kernel
theorem dX6_busiest_77 : decode cX6_busiest 77 = .ok (.iload_n 2, 1) := by decide +kernel
theorem dX6_busiest_78 : decode cX6_busiest 78 = .ok (.if_icmp .le 8, 3) := by decide +kernel
theorem dX6_busiest_81 : decode cX6_busiest 81 = .ok (.iload 4, 2) := by decide +kernel
theorem dX6_busiest_83 : decode cX6_busiest 83 = .ok (.goto 4, 3) := by decide +kernel
theorem dX6_busiest_86 : decode cX6_busiest 86 = .ok (.iload_n 2, 1) := by decide +kernel
theorem dX6_busiest_87 : decode cX6_busiest 87 = .ok (.istore_n 2, 1) := by decide +kernel
theorem dX6_busiest_88 : decode cX6_busiest 88 = .ok (.iinc 3 1, 3) := by decide +kernel
theorem dX6_busiest_91 : decode cX6_busiest 91 = .ok (.goto (-69), 3) := by decide +kernel
theorem dX6_busiest_94 : decode cX6_busiest 94 = .ok (.iload_n 1, 1) := by decide +kernel
theorem dX6_busiest_95 : decode cX6_busiest 95 = .ok (.ireturn, 1) := by decide +kernel
set_option maxRecDepth 20000 in
theorem ggX6_longestSilence_X6_rounds : GoodIn wsX6_longestSilence wsX6_rounds := goodIn_r _ [8, 9, 10, 2, 3, 11, 12, 13, 7, 14, 15, 16, 17, 18, 19, 20, 21, 22, 23, 24, 25, 26, 27, 28, 29, 30, 31, 32] (by decide +kernel) (by decide +kernel)
set_option maxRecDepth 20000 in
theorem gX6_longestSilence_X6_rounds : GoodIn wsX6_longestSilence (wsV RX6 64 RX6 yX6_rounds wsX6_rounds) := goodIn_app (goodIn_of _ (by decide +kernel)) ggX6_longestSilence_X6_rounds
theorem dX6_longestSilence_0 : decode cX6_longestSilence 0 = .ok (.aload_n 0, 1) := by decide +kernel
theorem dX6_longestSilence_1 : decode cX6_longestSilence 1 = .ok (.iconst 0, 1) := by decide +kernel
theorem dX6_longestSilence_2 : decode cX6_longestSilence 2 = .ok (.putfield 32, 3) := by decide +kernel
theorem dX6_longestSilence_5 : decode cX6_longestSilence 5 = .ok (.aload_n 0, 1) := by decide +kernel
theorem dX6_longestSilence_6 : decode cX6_longestSilence 6 = .ok (.aload_n 0, 1) := by decide +kernel
theorem dX6_longestSilence_7 : decode cX6_longestSilence 7 = .ok (.getfield 7, 3) := by decide +kernel
theorem dX6_longestSilence_10 : decode cX6_longestSilence 10 = .ok (.bipush 46, 2) := by decide +kernel
theorem dX6_longestSilence_12 : decode cX6_longestSilence 12 = .ok (.iaload, 1) := by decide +kernel
theorem dX6_longestSilence_13 : decode cX6_longestSilence 13 = .ok (.invokevirtual 64, 3) := by decide +kernel
theorem dX6_longestSilence_16 : decode cX6_longestSilence 16 = .ok (.iconst 0, 1) := by decide +kernel
theorem dX6_longestSilence_17 : decode cX6_longestSilence 17 = .ok (.istore_n 1, 1) := by decide +kernel
theorem dX6_longestSilence_18 : decode cX6_longestSilence 18 = .ok (.iconst 0, 1) := by decide +kernel
theorem dX6_longestSilence_19 : decode cX6_longestSilence 19 = .ok (.istore_n 2, 1) := by decide +kernel
theorem dX6_longestSilence_20 : decode cX6_longestSilence 20 = .ok (.iconst 0, 1) := by decide +kernel
theorem dX6_longestSilence_21 : decode cX6_longestSilence 21 = .ok (.istore_n 3, 1) := by decide +kernel
theorem dX6_longestSilence_22 : decode cX6_longestSilence 22 = .ok (.iload_n 3, 1) := by decide +kernel
theorem dX6_longestSilence_23 : decode cX6_longestSilence 23 = .ok (.bipush 32, 2) := by decide +kernel
theorem dX6_longestSilence_25 : decode cX6_longestSilence 25 = .ok (.if_icmp .ge 37, 3) := by decide +kernel
theorem dX6_longestSilence_28 : decode cX6_longestSilence 28 = .ok (.aload_n 0, 1) := by decide +kernel
theorem dX6_longestSilence_29 : decode cX6_longestSilence 29 = .ok (.getfield 29, 3) := by decide +kernel
theorem dX6_longestSilence_32 : decode cX6_longestSilence 32 = .ok (.iload_n 3, 1) := by decide +kernel
theorem dX6_longestSilence_33 : decode cX6_longestSilence 33 = .ok (.iaload, 1) := by decide +kernel
theorem dX6_longestSilence_34 : decode cX6_longestSilence 34 = .ok (.ifCond .ne 9, 3) := by decide +kernel
theorem dX6_longestSilence_37 : decode cX6_longestSilence 37 = .ok (.iload_n 2, 1) := by decide +kernel
theorem dX6_longestSilence_38 : decode cX6_longestSilence 38 = .ok (.iconst 1, 1) := by decide +kernel
theorem dX6_longestSilence_39 : decode cX6_longestSilence 39 = .ok (.iadd, 1) := by decide +kernel
theorem dX6_longestSilence_40 : decode cX6_longestSilence 40 = .ok (.goto 4, 3) := by decide +kernel
theorem dX6_longestSilence_43 : decode cX6_longestSilence 43 = .ok (.iconst 0, 1) := by decide +kernel
theorem dX6_longestSilence_44 : decode cX6_longestSilence 44 = .ok (.istore_n 2, 1) := by decide +kernel
theorem dX6_longestSilence_45 : decode cX6_longestSilence 45 = .ok (.iload_n 2, 1) := by decide +kernel
theorem dX6_longestSilence_46 : decode cX6_longestSilence 46 = .ok (.iload_n 1, 1) := by decide +kernel
theorem dX6_longestSilence_47 : decode cX6_longestSilence 47 = .ok (.if_icmp .le 7, 3) := by decide +kernel
theorem dX6_longestSilence_50 : decode cX6_longestSilence 50 = .ok (.iload_n 2, 1) := by decide +kernel
theorem dX6_longestSilence_51 : decode cX6_longestSilence 51 = .ok (.goto 4, 3) := by decide +kernel
theorem dX6_longestSilence_54 : decode cX6_longestSilence 54 = .ok (.iload_n 1, 1) := by decide +kernel
theorem dX6_longestSilence_55 : decode cX6_longestSilence 55 = .ok (.istore_n 1, 1) := by decide +kernel
theorem dX6_longestSilence_56 : decode cX6_longestSilence 56 = .ok (.iinc 3 1, 3) := by decide +kernel
theorem dX6_longestSilence_59 : decode cX6_longestSilence 59 = .ok (.goto (-37), 3) := by decide +kernel
theorem dX6_longestSilence_62 : decode cX6_longestSilence 62 = .ok (.iload_n 1, 1) := by decide +kernel
theorem dX6_longestSilence_63 : decode cX6_longestSilence 63 = .ok (.ireturn, 1) := by decide +kernel
set_option maxRecDepth 20000 in
theorem ggX6_enoughBound_X6_rounds : GoodIn wsX6_enoughBound wsX6_rounds := goodIn_r _ [7, 2, 8, 9, 10, 11, 12, 13, 6, 14, 15, 16, 17, 18, 19, 20, 21, 22, 23, 24, 25, 26, 27, 28, 29, 30, 31, 32] (by decide +kernel) (by decide +kernel)
set_option maxRecDepth 20000 in
theorem gX6_enoughBound_X6_rounds : GoodIn wsX6_enoughBound (wsV RX6 64 RX6 yX6_rounds wsX6_rounds) := goodIn_app (goodIn_of _ (by decide +kernel)) ggX6_enoughBound_X6_rounds
theorem dX6_enoughBound_0 : decode cX6_enoughBound 0 = .ok (.aload_n 0, 1) := by decide +kernel
theorem dX6_enoughBound_1 : decode cX6_enoughBound 1 = .ok (.iconst 0, 1) := by decide +kernel
theorem dX6_enoughBound_2 : decode cX6_enoughBound 2 = .ok (.putfield 32, 3) := by decide +kernel
theorem dX6_enoughBound_5 : decode cX6_enoughBound 5 = .ok (.iconst 1, 1) := by decide +kernel
theorem dX6_enoughBound_6 : decode cX6_enoughBound 6 = .ok (.istore_n 1, 1) := by decide +kernel
theorem dX6_enoughBound_7 : decode cX6_enoughBound 7 = .ok (.iload_n 1, 1) := by decide +kernel
theorem dX6_enoughBound_8 : decode cX6_enoughBound 8 = .ok (.sipush 300, 3) := by decide +kernel
theorem dX6_enoughBound_11 : decode cX6_enoughBound 11 = .ok (.if_icmp .gt 23, 3) := by decide +kernel
theorem dX6_enoughBound_14 : decode cX6_enoughBound 14 = .ok (.aload_n 0, 1) := by decide +kernel
theorem dX6_enoughBound_15 : decode cX6_enoughBound 15 = .ok (.iload_n 1, 1) := by decide +kernel
theorem dX6_enoughBound_16 : decode cX6_enoughBound 16 = .ok (.invokevirtual 64, 3) := by decide +kernel
theorem dX6_enoughBound_19 : decode cX6_enoughBound 19 = .ok (.aload_n 0, 1) := by decide +kernel
theorem dX6_enoughBound_20 : decode cX6_enoughBound 20 = .ok (.getfield 61, 3) := by decide +kernel
theorem dX6_enoughBound_23 : decode cX6_enoughBound 23 = .ok (.ifCond .ne 5, 3) := by decide +kernel
theorem dX6_enoughBound_26 : decode cX6_enoughBound 26 = .ok (.iload_n 1, 1) := by decide +kernel
theorem dX6_enoughBound_27 : decode cX6_enoughBound 27 = .ok (.ireturn, 1) := by decide +kernel
theorem dX6_enoughBound_28 : decode cX6_enoughBound 28 = .ok (.iinc 1 1, 3) := by decide +kernel
theorem dX6_enoughBound_31 : decode cX6_enoughBound 31 = .ok (.goto (-24), 3) := by decide +kernel
theorem dX6_enoughBound_34 : decode cX6_enoughBound 34 = .ok (.iconst (-1), 1) := by decide +kernel
theorem dX6_enoughBound_35 : decode cX6_enoughBound 35 = .ok (.ireturn, 1) := by decide +kernel
set_option maxRecDepth 20000 in
theorem ggX6_heaviestColumn_X6_rounds : GoodIn wsX6_heaviestColumn wsX6_rounds := goodIn_r _ [8, 9, 10, 2, 3, 11, 12, 13, 7, 14, 15, 16, 17, 18, 19, 20, 21, 22, 23, 24, 25, 26, 27, 28, 29, 30, 31, 32] (by decide +kernel) (by decide +kernel)
set_option maxRecDepth 20000 in
theorem gX6_heaviestColumn_X6_rounds : GoodIn wsX6_heaviestColumn (wsV RX6 64 RX6 yX6_rounds wsX6_rounds) := goodIn_app (goodIn_of _ (by decide +kernel)) ggX6_heaviestColumn_X6_rounds
set_option maxRecDepth 20000 in
theorem ggX6_heaviestColumn_X6_weightIn : GoodIn wsX6_heaviestColumn wsX6_weightIn := goodIn_r _ [18, 2, 22, 23, 24, 25, 26, 27, 28, 29, 30, 31, 32] (by decide +kernel) (by decide +kernel)
set_option maxRecDepth 20000 in
theorem gX6_heaviestColumn_X6_weightIn : GoodIn wsX6_heaviestColumn (wsV RX6 47 RX6 yX6_weightIn wsX6_weightIn) := goodIn_app (goodIn_of _ (by decide +kernel)) ggX6_heaviestColumn_X6_weightIn
theorem dX6_heaviestColumn_0 : decode cX6_heaviestColumn 0 = .ok (.aload_n 0, 1) := by decide +kernel
theorem dX6_heaviestColumn_1 : decode cX6_heaviestColumn 1 = .ok (.iconst 0, 1) := by decide +kernel
theorem dX6_heaviestColumn_2 : decode cX6_heaviestColumn 2 = .ok (.putfield 32, 3) := by decide +kernel
theorem dX6_heaviestColumn_5 : decode cX6_heaviestColumn 5 = .ok (.aload_n 0, 1) := by decide +kernel
theorem dX6_heaviestColumn_6 : decode cX6_heaviestColumn 6 = .ok (.aload_n 0, 1) := by decide +kernel
theorem dX6_heaviestColumn_7 : decode cX6_heaviestColumn 7 = .ok (.getfield 7, 3) := by decide +kernel
theorem dX6_heaviestColumn_10 : decode cX6_heaviestColumn 10 = .ok (.bipush 46, 2) := by decide +kernel
theorem dX6_heaviestColumn_12 : decode cX6_heaviestColumn 12 = .ok (.iaload, 1) := by decide +kernel
theorem dX6_heaviestColumn_13 : decode cX6_heaviestColumn 13 = .ok (.invokevirtual 64, 3) := by decide +kernel
theorem dX6_heaviestColumn_16 : decode cX6_heaviestColumn 16 = .ok (.iconst (-1), 1) := by decide +kernel
theorem dX6_heaviestColumn_17 : decode cX6_heaviestColumn 17 = .ok (.istore_n 1, 1) := by decide +kernel
theorem dX6_heaviestColumn_18 : decode cX6_heaviestColumn 18 = .ok (.iconst 0, 1) := by decide +kernel
theorem dX6_heaviestColumn_19 : decode cX6_heaviestColumn 19 = .ok (.istore_n 2, 1) := by decide +kernel
theorem dX6_heaviestColumn_20 : decode cX6_heaviestColumn 20 = .ok (.iconst 0, 1) := by decide +kernel
theorem dX6_heaviestColumn_21 : decode cX6_heaviestColumn 21 = .ok (.istore_n 3, 1) := by decide +kernel
theorem dX6_heaviestColumn_22 : decode cX6_heaviestColumn 22 = .ok (.iload_n 3, 1) := by decide +kernel
theorem dX6_heaviestColumn_23 : decode cX6_heaviestColumn 23 = .ok (.bipush 32, 2) := by decide +kernel
theorem dX6_heaviestColumn_25 : decode cX6_heaviestColumn 25 = .ok (.if_icmp .ge 46, 3) := by decide +kernel
theorem dX6_heaviestColumn_28 : decode cX6_heaviestColumn 28 = .ok (.aload_n 0, 1) := by decide +kernel
theorem dX6_heaviestColumn_29 : decode cX6_heaviestColumn 29 = .ok (.aload_n 0, 1) := by decide +kernel
theorem dX6_heaviestColumn_30 : decode cX6_heaviestColumn 30 = .ok (.getfield 29, 3) := by decide +kernel
theorem dX6_heaviestColumn_33 : decode cX6_heaviestColumn 33 = .ok (.iload_n 3, 1) := by decide +kernel
theorem dX6_heaviestColumn_34 : decode cX6_heaviestColumn 34 = .ok (.iaload, 1) := by decide +kernel
theorem dX6_heaviestColumn_35 : decode cX6_heaviestColumn 35 = .ok (.invokevirtual 47, 3) := by decide +kernel
theorem dX6_heaviestColumn_38 : decode cX6_heaviestColumn 38 = .ok (.istore 4, 2) := by decide +kernel
theorem dX6_heaviestColumn_40 : decode cX6_heaviestColumn 40 = .ok (.iload 4, 2) := by decide +kernel
theorem dX6_heaviestColumn_42 : decode cX6_heaviestColumn 42 = .ok (.iload_n 2, 1) := by decide +kernel
theorem dX6_heaviestColumn_43 : decode cX6_heaviestColumn 43 = .ok (.if_icmp .le 7, 3) := by decide +kernel
theorem dX6_heaviestColumn_46 : decode cX6_heaviestColumn 46 = .ok (.iload_n 3, 1) := by decide +kernel
theorem dX6_heaviestColumn_47 : decode cX6_heaviestColumn 47 = .ok (.goto 4, 3) := by decide +kernel
theorem dX6_heaviestColumn_50 : decode cX6_heaviestColumn 50 = .ok (.iload_n 1, 1) := by decide +kernel
theorem dX6_heaviestColumn_51 : decode cX6_heaviestColumn 51 = .ok (.istore_n 1, 1) := by decide +kernel
theorem dX6_heaviestColumn_52 : decode cX6_heaviestColumn 52 = .ok (.iload 4, 2) := by decide +kernel
theorem dX6_heaviestColumn_54 : decode cX6_heaviestColumn 54 = .ok (.iload_n 2, 1) := by decide +kernel
theorem dX6_heaviestColumn_55 : decode cX6_heaviestColumn 55 = .ok (.if_icmp .le 8, 3) := by decide +kernel
theorem dX6_heaviestColumn_58 : decode cX6_heaviestColumn 58 = .ok (.iload 4, 2) := by decide +kernel
theorem dX6_heaviestColumn_60 : decode cX6_heaviestColumn 60 = .ok (.goto 4, 3) := by decide +kernel
theorem dX6_heaviestColumn_63 : decode cX6_heaviestColumn 63 = .ok (.iload_n 2, 1) := by decide +kernel
theorem dX6_heaviestColumn_64 : decode cX6_heaviestColumn 64 = .ok (.istore_n 2, 1) := by decide +kernel
theorem dX6_heaviestColumn_65 : decode cX6_heaviestColumn 65 = .ok (.iinc 3 1, 3) := by decide +kernel
theorem dX6_heaviestColumn_68 : decode cX6_heaviestColumn 68 = .ok (.goto (-46), 3) := by decide +kernel
theorem dX6_heaviestColumn_71 : decode cX6_heaviestColumn 71 = .ok (.iload_n 1, 1) := by decide +kernel
theorem dX6_heaviestColumn_72 : decode cX6_heaviestColumn 72 = .ok (.ireturn, 1) := by decide +kernel
set_option maxRecDepth 20000 in
theorem ggX6_put_X6_in : GoodIn wsX6_put wsX6_in := goodIn_r _ [7] (by decide +kernel) (by decide +kernel)
set_option maxRecDepth 20000 in
theorem gX6_put_X6_in : GoodIn wsX6_put (va_wsS RX6 36 yX6_in wsX6_in) := goodIn_app (goodIn_of _ (by decide +kernel)) ggX6_put_X6_in
set_option maxRecDepth 20000 in
theorem ggX6_put_X6_holds : GoodIn wsX6_put wsX6_holds := goodIn_r _ [11, 12, 13, 14, 15, 16, 17, 18, 19, 20, 21, 22, 23] (by decide +kernel) (by decide +kernel)
set_option maxRecDepth 20000 in
theorem gX6_put_X6_holds : GoodIn wsX6_put (wsV RX6 75 RX6 yX6_holds wsX6_holds) := goodIn_app (goodIn_of _ (by decide +kernel)) ggX6_put_X6_holds
theorem dX6_put_0 : decode cX6_put 0 = .ok (.iconst 0, 1) := by decide +kernel
theorem dX6_put_1 : decode cX6_put 1 = .ok (.istore_n 3, 1) := by decide +kernel
theorem dX6_put_2 : decode cX6_put 2 = .ok (.iconst 0, 1) := by decide +kernel
theorem dX6_put_3 : decode cX6_put 3 = .ok (.istore 4, 2) := by decide +kernel
theorem dX6_put_5 : decode cX6_put 5 = .ok (.iconst 0, 1) := by decide +kernel
theorem dX6_put_6 : decode cX6_put 6 = .ok (.istore 5, 2) := by decide +kernel
theorem dX6_put_8 : decode cX6_put 8 = .ok (.iload 5, 2) := by decide +kernel
theorem dX6_put_10 : decode cX6_put 10 = .ok (.bipush 8, 2) := by decide +kernel
theorem dX6_put_12 : decode cX6_put 12 = .ok (.if_icmp .ge 89, 3) := by decide +kernel
theorem dX6_put_15 : decode cX6_put 15 = .ok (.lload_n 1, 1) := by decide +kernel
theorem dX6_put_16 : decode cX6_put 16 = .ok (.bipush 8, 2) := by decide +kernel
theorem dX6_put_18 : decode cX6_put 18 = .ok (.iload 5, 2) := by decide +kernel
theorem dX6_put_20 : decode cX6_put 20 = .ok (.imul, 1) := by decide +kernel
theorem dX6_put_21 : decode cX6_put 21 = .ok (.lushr, 1) := by decide +kernel
theorem dX6_put_22 : decode cX6_put 22 = .ok (.ldc2_w 103, 3) := by decide +kernel
theorem dX6_put_25 : decode cX6_put 25 = .ok (.land, 1) := by decide +kernel
theorem dX6_put_26 : decode cX6_put 26 = .ok (.l2i, 1) := by decide +kernel
theorem dX6_put_27 : decode cX6_put 27 = .ok (.istore 6, 2) := by decide +kernel
theorem dX6_put_29 : decode cX6_put 29 = .ok (.iload 5, 2) := by decide +kernel
theorem dX6_put_31 : decode cX6_put 31 = .ok (.ifCond .le 19, 3) := by decide +kernel
theorem dX6_put_34 : decode cX6_put 34 = .ok (.lload_n 1, 1) := by decide +kernel
theorem dX6_put_35 : decode cX6_put 35 = .ok (.bipush 8, 2) := by decide +kernel
theorem dX6_put_37 : decode cX6_put 37 = .ok (.iload 5, 2) := by decide +kernel
theorem dX6_put_39 : decode cX6_put 39 = .ok (.imul, 1) := by decide +kernel
theorem dX6_put_40 : decode cX6_put 40 = .ok (.lushr, 1) := by decide +kernel
theorem dX6_put_41 : decode cX6_put 41 = .ok (.lconst 0, 1) := by decide +kernel
theorem dX6_put_42 : decode cX6_put 42 = .ok (.lcmp, 1) := by decide +kernel
theorem dX6_put_43 : decode cX6_put 43 = .ok (.ifCond .ne 7, 3) := by decide +kernel
theorem dX6_put_46 : decode cX6_put 46 = .ok (.iconst 1, 1) := by decide +kernel
theorem dX6_put_47 : decode cX6_put 47 = .ok (.goto 4, 3) := by decide +kernel
theorem dX6_put_50 : decode cX6_put 50 = .ok (.iconst 0, 1) := by decide +kernel
theorem dX6_put_51 : decode cX6_put 51 = .ok (.istore 7, 2) := by decide +kernel
theorem dX6_put_53 : decode cX6_put 53 = .ok (.iload 4, 2) := by decide +kernel
theorem dX6_put_55 : decode cX6_put 55 = .ok (.ifCond .ne 20, 3) := by decide +kernel
theorem dX6_put_58 : decode cX6_put 58 = .ok (.iload 7, 2) := by decide +kernel
theorem dX6_put_60 : decode cX6_put 60 = .ok (.ifCond .ne 19, 3) := by decide +kernel
theorem dX6_put_63 : decode cX6_put 63 = .ok (.iload 6, 2) := by decide +kernel
theorem dX6_put_65 : decode cX6_put 65 = .ok (.bipush 33, 2) := by decide +kernel
theorem dX6_put_67 : decode cX6_put 67 = .ok (.bipush 126, 2) := by decide +kernel
theorem dX6_put_69 : decode cX6_put 69 = .ok (.invokestatic 36, 3) := by decide +kernel
theorem dX6_put_72 : decode cX6_put 72 = .ok (.ifCond .ne 7, 3) := by decide +kernel
theorem dX6_put_75 : decode cX6_put 75 = .ok (.iconst 1, 1) := by decide +kernel
theorem dX6_put_76 : decode cX6_put 76 = .ok (.goto 4, 3) := by decide +kernel
theorem dX6_put_79 : decode cX6_put 79 = .ok (.iconst 0, 1) := by decide +kernel
theorem dX6_put_80 : decode cX6_put 80 = .ok (.istore 4, 2) := by decide +kernel
theorem dX6_put_82 : decode cX6_put 82 = .ok (.iload_n 3, 1) := by decide +kernel
theorem dX6_put_83 : decode cX6_put 83 = .ok (.iload 7, 2) := by decide +kernel
theorem dX6_put_85 : decode cX6_put 85 = .ok (.ifCond .eq 7, 3) := by decide +kernel
theorem dX6_put_88 : decode cX6_put 88 = .ok (.iconst 0, 1) := by decide +kernel
theorem dX6_put_89 : decode cX6_put 89 = .ok (.goto 4, 3) := by decide +kernel
theorem dX6_put_92 : decode cX6_put 92 = .ok (.iconst 1, 1) := by decide +kernel
theorem dX6_put_93 : decode cX6_put 93 = .ok (.iadd, 1) := by decide +kernel
theorem dX6_put_94 : decode cX6_put 94 = .ok (.istore_n 3, 1) := by decide +kernel
theorem dX6_put_95 : decode cX6_put 95 = .ok (.iinc 5 1, 3) := by decide +kernel
theorem dX6_put_98 : decode cX6_put 98 = .ok (.goto (-90), 3) := by decide +kernel
theorem dX6_put_101 : decode cX6_put 101 = .ok (.aload_n 0, 1) := by decide +kernel
theorem dX6_put_102 : decode cX6_put 102 = .ok (.iload 4, 2) := by decide +kernel
theorem dX6_put_104 : decode cX6_put 104 = .ok (.ifCond .eq 7, 3) := by decide +kernel
theorem dX6_put_107 : decode cX6_put 107 = .ok (.iconst 1, 1) := by decide +kernel
theorem dX6_put_108 : decode cX6_put 108 = .ok (.goto 19, 3) := by decide +kernel
theorem dX6_put_111 : decode cX6_put 111 = .ok (.aload_n 0, 1) := by decide +kernel
theorem dX6_put_112 : decode cX6_put 112 = .ok (.getfield 105, 3) := by decide +kernel
theorem dX6_put_115 : decode cX6_put 115 = .ok (.iload_n 3, 1) := by decide +kernel
theorem dX6_put_116 : decode cX6_put 116 = .ok (.iadd, 1) := by decide +kernel
theorem dX6_put_117 : decode cX6_put 117 = .ok (.bipush 60, 2) := by decide +kernel
theorem dX6_put_119 : decode cX6_put 119 = .ok (.if_icmp .le 7, 3) := by decide +kernel
theorem dX6_put_122 : decode cX6_put 122 = .ok (.iconst 2, 1) := by decide +kernel
theorem dX6_put_123 : decode cX6_put 123 = .ok (.goto 4, 3) := by decide +kernel
theorem dX6_put_126 : decode cX6_put 126 = .ok (.iconst 0, 1) := by decide +kernel
theorem dX6_put_127 : decode cX6_put 127 = .ok (.invokevirtual 75, 3) := by decide +kernel
theorem dX6_put_130 : decode cX6_put 130 = .ok (.ifCond .ne 5, 3) := by decide +kernel
theorem dX6_put_133 : decode cX6_put 133 = .ok (.iconst 0, 1) := by decide +kernel
theorem dX6_put_134 : decode cX6_put 134 = .ok (.ireturn, 1) := by decide +kernel
theorem dX6_put_135 : decode cX6_put 135 = .ok (.iconst 0, 1) := by decide +kernel
theorem dX6_put_136 : decode cX6_put 136 = .ok (.istore 5, 2) := by decide +kernel
theorem dX6_put_138 : decode cX6_put 138 = .ok (.iload 5, 2) := by decide +kernel
theorem dX6_put_140 : decode cX6_put 140 = .ok (.iload_n 3, 1) := by decide +kernel
theorem dX6_put_141 : decode cX6_put 141 = .ok (.if_icmp .ge 37, 3) := by decide +kernel
theorem dX6_put_144 : decode cX6_put 144 = .ok (.aload_n 0, 1) := by decide +kernel
theorem dX6_put_145 : decode cX6_put 145 = .ok (.getfield 23, 3) := by decide +kernel
theorem dX6_put_148 : decode cX6_put 148 = .ok (.aload_n 0, 1) := by decide +kernel
theorem dX6_put_149 : decode cX6_put 149 = .ok (.getfield 105, 3) := by decide +kernel
theorem dX6_put_152 : decode cX6_put 152 = .ok (.iload_n 3, 1) := by decide +kernel
theorem dX6_put_153 : decode cX6_put 153 = .ok (.iadd, 1) := by decide +kernel
theorem dX6_put_154 : decode cX6_put 154 = .ok (.iconst 1, 1) := by decide +kernel
theorem dX6_put_155 : decode cX6_put 155 = .ok (.isub, 1) := by decide +kernel
theorem dX6_put_156 : decode cX6_put 156 = .ok (.iload 5, 2) := by decide +kernel
theorem dX6_put_158 : decode cX6_put 158 = .ok (.isub, 1) := by decide +kernel
theorem dX6_put_159 : decode cX6_put 159 = .ok (.lload_n 1, 1) := by decide +kernel
theorem dX6_put_160 : decode cX6_put 160 = .ok (.bipush 8, 2) := by decide +kernel
theorem dX6_put_162 : decode cX6_put 162 = .ok (.iload 5, 2) := by decide +kernel
theorem dX6_put_164 : decode cX6_put 164 = .ok (.imul, 1) := by decide +kernel
theorem dX6_put_165 : decode cX6_put 165 = .ok (.lushr, 1) := by decide +kernel
theorem dX6_put_166 : decode cX6_put 166 = .ok (.ldc2_w 103, 3) := by decide +kernel
theorem dX6_put_169 : decode cX6_put 169 = .ok (.land, 1) := by decide +kernel
theorem dX6_put_170 : decode cX6_put 170 = .ok (.l2i, 1) := by decide +kernel
theorem dX6_put_171 : decode cX6_put 171 = .ok (.iastore, 1) := by decide +kernel
theorem dX6_put_172 : decode cX6_put 172 = .ok (.iinc 5 1, 3) := by decide +kernel
theorem dX6_put_175 : decode cX6_put 175 = .ok (.goto (-37), 3) := by decide +kernel
theorem dX6_put_178 : decode cX6_put 178 = .ok (.aload_n 0, 1) := by decide +kernel
theorem dX6_put_179 : decode cX6_put 179 = .ok (.dup, 1) := by decide +kernel
theorem dX6_put_180 : decode cX6_put 180 = .ok (.getfield 105, 3) := by decide +kernel
theorem dX6_put_183 : decode cX6_put 183 = .ok (.iload_n 3, 1) := by decide +kernel
theorem dX6_put_184 : decode cX6_put 184 = .ok (.iadd, 1) := by decide +kernel
theorem dX6_put_185 : decode cX6_put 185 = .ok (.putfield 105, 3) := by decide +kernel
theorem dX6_put_188 : decode cX6_put 188 = .ok (.aload_n 0, 1) := by decide +kernel
theorem dX6_put_189 : decode cX6_put 189 = .ok (.getfield 105, 3) := by decide +kernel
theorem dX6_put_192 : decode cX6_put 192 = .ok (.ireturn, 1) := by decide +kernel
theorem dX6_wipe_0 : decode cX6_wipe 0 = .ok (.aload_n 0, 1) := by decide +kernel
theorem dX6_wipe_1 : decode cX6_wipe 1 = .ok (.iconst 0, 1) := by decide +kernel
theorem dX6_wipe_2 : decode cX6_wipe 2 = .ok (.putfield 32, 3) := by decide +kernel
theorem dX6_wipe_5 : decode cX6_wipe 5 = .ok (.aload_n 0, 1) := by decide +kernel
theorem dX6_wipe_6 : decode cX6_wipe 6 = .ok (.getfield 105, 3) := by decide +kernel
theorem dX6_wipe_9 : decode cX6_wipe 9 = .ok (.istore_n 1, 1) := by decide +kernel
theorem dX6_wipe_10 : decode cX6_wipe 10 = .ok (.aload_n 0, 1) := by decide +kernel
theorem dX6_wipe_11 : decode cX6_wipe 11 = .ok (.iconst 0, 1) := by decide +kernel
theorem dX6_wipe_12 : decode cX6_wipe 12 = .ok (.putfield 105, 3) := by decide +kernel
theorem dX6_wipe_15 : decode cX6_wipe 15 = .ok (.iload_n 1, 1) := by decide +kernel
theorem dX6_wipe_16 : decode cX6_wipe 16 = .ok (.ireturn, 1) := by decide +kernel
theorem dX6_padLength_0 : decode cX6_padLength 0 = .ok (.aload_n 0, 1) := by decide +kernel
theorem dX6_padLength_1 : decode cX6_padLength 1 = .ok (.iconst 0, 1) := by decide +kernel
theorem dX6_padLength_2 : decode cX6_padLength 2 = .ok (.putfield 32, 3) := by decide +kernel
theorem dX6_padLength_5 : decode cX6_padLength 5 = .ok (.aload_n 0, 1) := by decide +kernel
theorem dX6_padLength_6 : decode cX6_padLength 6 = .ok (.getfield 105, 3) := by decide +kernel
theorem dX6_padLength_9 : decode cX6_padLength 9 = .ok (.ireturn, 1) := by decide +kernel
theorem dX6_charAt_0 : decode cX6_charAt 0 = .ok (.iload_n 1, 1) := by decide +kernel
theorem dX6_charAt_1 : decode cX6_charAt 1 = .ok (.aload_n 0, 1) := by decide +kernel
theorem dX6_charAt_2 : decode cX6_charAt 2 = .ok (.getfield 105, 3) := by decide +kernel
theorem dX6_charAt_5 : decode cX6_charAt 5 = .ok (.if_icmp .ge 12, 3) := by decide +kernel
theorem dX6_charAt_8 : decode cX6_charAt 8 = .ok (.aload_n 0, 1) := by decide +kernel
theorem dX6_charAt_9 : decode cX6_charAt 9 = .ok (.getfield 23, 3) := by decide +kernel
theorem dX6_charAt_12 : decode cX6_charAt 12 = .ok (.iload_n 1, 1) := by decide +kernel
theorem dX6_charAt_13 : decode cX6_charAt 13 = .ok (.iaload, 1) := by decide +kernel
theorem dX6_charAt_14 : decode cX6_charAt 14 = .ok (.goto 4, 3) := by decide +kernel
theorem dX6_charAt_17 : decode cX6_charAt 17 = .ok (.iconst 0, 1) := by decide +kernel
theorem dX6_charAt_18 : decode cX6_charAt 18 = .ok (.ireturn, 1) := by decide +kernel
set_option maxRecDepth 20000 in
theorem ggX6_isDigit_X6_charAt : GoodIn wsX6_isDigit wsX6_charAt := goodIn_r _ [5, 6, 7, 11, 12, 13, 14, 15, 16, 17, 18, 19, 20, 21] (by decide +kernel) (by decide +kernel)
set_option maxRecDepth 20000 in
theorem gX6_isDigit_X6_charAt : GoodIn wsX6_isDigit (wsV RX6 108 RX6 yX6_charAt wsX6_charAt) := goodIn_app (goodIn_of _ (by decide +kernel)) ggX6_isDigit_X6_charAt
set_option maxRecDepth 20000 in
theorem ggX6_isDigit_X6_in : GoodIn wsX6_isDigit wsX6_in := goodIn_r _ [10] (by decide +kernel) (by decide +kernel)
set_option maxRecDepth 20000 in
theorem gX6_isDigit_X6_in : GoodIn wsX6_isDigit (va_wsS RX6 36 yX6_in wsX6_in) := goodIn_app (goodIn_of _ (by decide +kernel)) ggX6_isDigit_X6_in
theorem dX6_isDigit_0 : decode cX6_isDigit 0 = .ok (.aload_n 0, 1) := by decide +kernel
theorem dX6_isDigit_1 : decode cX6_isDigit 1 = .ok (.iload_n 1, 1) := by decide +kernel
theorem dX6_isDigit_2 : decode cX6_isDigit 2 = .ok (.invokevirtual 108, 3) := by decide +kernel
theorem dX6_isDigit_5 : decode cX6_isDigit 5 = .ok (.bipush 48, 2) := by decide +kernel
theorem dX6_isDigit_7 : decode cX6_isDigit 7 = .ok (.bipush 57, 2) := by decide +kernel
theorem dX6_isDigit_9 : decode cX6_isDigit 9 = .ok (.invokestatic 36, 3) := by decide +kernel
theorem dX6_isDigit_12 : decode cX6_isDigit 12 = .ok (.ireturn, 1) := by decide +kernel
set_option maxRecDepth 20000 in
theorem ggX6_behindColumn_X6_charAt : GoodIn wsX6_behindColumn wsX6_charAt := goodIn_r _ [5, 6, 7, 15, 16, 17, 18, 19, 20, 21, 22, 23, 24, 25] (by decide +kernel) (by decide +kernel)
set_option maxRecDepth 20000 in
theorem gX6_behindColumn_X6_charAt : GoodIn wsX6_behindColumn (wsV RX6 108 RX6 yX6_charAt wsX6_charAt) := goodIn_app (goodIn_of _ (by decide +kernel)) ggX6_behindColumn_X6_charAt
set_option maxRecDepth 20000 in
theorem ggX6_behindColumn_X6_isDigit : GoodIn wsX6_behindColumn wsX6_isDigit := goodIn_r _ [11, 1, 2, 3, 4, 5, 6, 7, 12, 13, 14, 15, 16, 17, 18, 19, 20, 21, 22, 23, 24, 25] (by decide +kernel) (by decide +kernel)
set_option maxRecDepth 20000 in
theorem gX6_behindColumn_X6_isDigit : GoodIn wsX6_behindColumn (wsV RX6 111 RX6 yX6_isDigit wsX6_isDigit) := goodIn_app (goodIn_of _ (by decide +kernel)) ggX6_behindColumn_X6_isDigit
set_option maxRecDepth 20000 in
theorem ggX6_behindColumn_X6_in : GoodIn wsX6_behindColumn wsX6_in := goodIn_r _ [14] (by decide +kernel) (by decide +kernel)
set_option maxRecDepth 20000 in
theorem gX6_behindColumn_X6_in : GoodIn wsX6_behindColumn (va_wsS RX6 36 yX6_in wsX6_in) := goodIn_app (goodIn_of _ (by decide +kernel)) ggX6_behindColumn_X6_in
theorem dX6_behindColumn_0 : decode cX6_behindColumn 0 = .ok (.bipush 10, 2) := by decide +kernel
theorem dX6_behindColumn_2 : decode cX6_behindColumn 2 = .ok (.aload_n 0, 1) := by decide +kernel
theorem dX6_behindColumn_3 : decode cX6_behindColumn 3 = .ok (.iload_n 1, 1) := by decide +kernel
theorem dX6_behindColumn_4 : decode cX6_behindColumn 4 = .ok (.invokevirtual 108, 3) := by decide +kernel
theorem dX6_behindColumn_7 : decode cX6_behindColumn 7 = .ok (.bipush 48, 2) := by decide +kernel
theorem dX6_behindColumn_9 : decode cX6_behindColumn 9 = .ok (.isub, 1) := by decide +kernel
theorem dX6_behindColumn_10 : decode cX6_behindColumn 10 = .ok (.imul, 1) := by decide +kernel
theorem dX6_behindColumn_11 : decode cX6_behindColumn 11 = .ok (.aload_n 0, 1) := by decide +kernel
theorem dX6_behindColumn_12 : decode cX6_behindColumn 12 = .ok (.iload_n 1, 1) := by decide +kernel
theorem dX6_behindColumn_13 : decode cX6_behindColumn 13 = .ok (.iconst 1, 1) := by decide +kernel
theorem dX6_behindColumn_14 : decode cX6_behindColumn 14 = .ok (.iadd, 1) := by decide +kernel
theorem dX6_behindColumn_15 : decode cX6_behindColumn 15 = .ok (.invokevirtual 108, 3) := by decide +kernel
theorem dX6_behindColumn_18 : decode cX6_behindColumn 18 = .ok (.iadd, 1) := by decide +kernel
theorem dX6_behindColumn_19 : decode cX6_behindColumn 19 = .ok (.bipush 48, 2) := by decide +kernel
theorem dX6_behindColumn_21 : decode cX6_behindColumn 21 = .ok (.isub, 1) := by decide +kernel
theorem dX6_behindColumn_22 : decode cX6_behindColumn 22 = .ok (.istore_n 2, 1) := by decide +kernel
theorem dX6_behindColumn_23 : decode cX6_behindColumn 23 = .ok (.aload_n 0, 1) := by decide +kernel
theorem dX6_behindColumn_24 : decode cX6_behindColumn 24 = .ok (.iload_n 1, 1) := by decide +kernel
theorem dX6_behindColumn_25 : decode cX6_behindColumn 25 = .ok (.iconst 1, 1) := by decide +kernel
theorem dX6_behindColumn_26 : decode cX6_behindColumn 26 = .ok (.iadd, 1) := by decide +kernel
theorem dX6_behindColumn_27 : decode cX6_behindColumn 27 = .ok (.invokevirtual 111, 3) := by decide +kernel
theorem dX6_behindColumn_30 : decode cX6_behindColumn 30 = .ok (.ifCond .eq 20, 3) := by decide +kernel
theorem dX6_behindColumn_33 : decode cX6_behindColumn 33 = .ok (.iload_n 2, 1) := by decide +kernel
theorem dX6_behindColumn_34 : decode cX6_behindColumn 34 = .ok (.bipush 10, 2) := by decide +kernel
theorem dX6_behindColumn_36 : decode cX6_behindColumn 36 = .ok (.bipush 31, 2) := by decide +kernel
theorem dX6_behindColumn_38 : decode cX6_behindColumn 38 = .ok (.invokestatic 36, 3) := by decide +kernel
theorem dX6_behindColumn_41 : decode cX6_behindColumn 41 = .ok (.ifCond .eq 9, 3) := by decide +kernel
theorem dX6_behindColumn_44 : decode cX6_behindColumn 44 = .ok (.iload_n 1, 1) := by decide +kernel
theorem dX6_behindColumn_45 : decode cX6_behindColumn 45 = .ok (.iconst 2, 1) := by decide +kernel
theorem dX6_behindColumn_46 : decode cX6_behindColumn 46 = .ok (.iadd, 1) := by decide +kernel
theorem dX6_behindColumn_47 : decode cX6_behindColumn 47 = .ok (.goto 6, 3) := by decide +kernel
theorem dX6_behindColumn_50 : decode cX6_behindColumn 50 = .ok (.iload_n 1, 1) := by decide +kernel
