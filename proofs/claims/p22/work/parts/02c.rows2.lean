theorem dX1_peelFirstPlace_17 : decode cX1_peelFirstPlace 17 = .ok (.isub, 1) := by decide +kernel
theorem dX1_peelFirstPlace_18 : decode cX1_peelFirstPlace 18 = .ok (.iload_n 3, 1) := by decide +kernel
theorem dX1_peelFirstPlace_19 : decode cX1_peelFirstPlace 19 = .ok (.isub, 1) := by decide +kernel
theorem dX1_peelFirstPlace_20 : decode cX1_peelFirstPlace 20 = .ok (.invokevirtual 31, 3) := by decide +kernel
theorem dX1_peelFirstPlace_23 : decode cX1_peelFirstPlace 23 = .ok (.aload_n 0, 1) := by decide +kernel
theorem dX1_peelFirstPlace_24 : decode cX1_peelFirstPlace 24 = .ok (.iload_n 1, 1) := by decide +kernel
theorem dX1_peelFirstPlace_25 : decode cX1_peelFirstPlace 25 = .ok (.iconst 1, 1) := by decide +kernel
theorem dX1_peelFirstPlace_26 : decode cX1_peelFirstPlace 26 = .ok (.iadd, 1) := by decide +kernel
theorem dX1_peelFirstPlace_27 : decode cX1_peelFirstPlace 27 = .ok (.iconst 0, 1) := by decide +kernel
theorem dX1_peelFirstPlace_28 : decode cX1_peelFirstPlace 28 = .ok (.iload_n 3, 1) := by decide +kernel
theorem dX1_peelFirstPlace_29 : decode cX1_peelFirstPlace 29 = .ok (.iconst 1, 1) := by decide +kernel
theorem dX1_peelFirstPlace_30 : decode cX1_peelFirstPlace 30 = .ok (.iadd, 1) := by decide +kernel
theorem dX1_peelFirstPlace_31 : decode cX1_peelFirstPlace 31 = .ok (.invokevirtual 31, 3) := by decide +kernel
theorem dX1_peelFirstPlace_34 : decode cX1_peelFirstPlace 34 = .ok (.return_, 1) := by decide +kernel
set_option maxRecDepth 20000 in
theorem ggX1_swapWithNext_X1_read : GoodIn wsX1_swapWithNext wsX1_read := goodIn_r _ [5, 6, 11, 12] (by decide +kernel) (by decide +kernel)
set_option maxRecDepth 20000 in
theorem gX1_swapWithNext_X1_read : GoodIn wsX1_swapWithNext (wsV RX1 19 RX1 yX1_read wsX1_read) := goodIn_app (goodIn_of _ (by decide +kernel)) ggX1_swapWithNext_X1_read
set_option maxRecDepth 20000 in
theorem ggX1_swapWithNext_X1_write : GoodIn wsX1_swapWithNext wsX1_write := goodIn_r _ [10, 6, 11, 12] (by decide +kernel) (by decide +kernel)
set_option maxRecDepth 20000 in
theorem gX1_swapWithNext_X1_write : GoodIn wsX1_swapWithNext (wsV RX1 27 RX1 yX1_write wsX1_write) := goodIn_app (goodIn_of _ (by decide +kernel)) ggX1_swapWithNext_X1_write
theorem dX1_swapWithNext_0 : decode cX1_swapWithNext 0 = .ok (.iload_n 1, 1) := by decide +kernel
theorem dX1_swapWithNext_1 : decode cX1_swapWithNext 1 = .ok (.bipush 28, 2) := by decide +kernel
theorem dX1_swapWithNext_3 : decode cX1_swapWithNext 3 = .ok (.imul, 1) := by decide +kernel
theorem dX1_swapWithNext_4 : decode cX1_swapWithNext 4 = .ok (.istore_n 2, 1) := by decide +kernel
theorem dX1_swapWithNext_5 : decode cX1_swapWithNext 5 = .ok (.iload_n 2, 1) := by decide +kernel
theorem dX1_swapWithNext_6 : decode cX1_swapWithNext 6 = .ok (.istore_n 3, 1) := by decide +kernel
theorem dX1_swapWithNext_7 : decode cX1_swapWithNext 7 = .ok (.iload_n 3, 1) := by decide +kernel
theorem dX1_swapWithNext_8 : decode cX1_swapWithNext 8 = .ok (.iload_n 2, 1) := by decide +kernel
theorem dX1_swapWithNext_9 : decode cX1_swapWithNext 9 = .ok (.bipush 28, 2) := by decide +kernel
theorem dX1_swapWithNext_11 : decode cX1_swapWithNext 11 = .ok (.iadd, 1) := by decide +kernel
theorem dX1_swapWithNext_12 : decode cX1_swapWithNext 12 = .ok (.if_icmp .ge 39, 3) := by decide +kernel
theorem dX1_swapWithNext_15 : decode cX1_swapWithNext 15 = .ok (.aload_n 0, 1) := by decide +kernel
theorem dX1_swapWithNext_16 : decode cX1_swapWithNext 16 = .ok (.iload_n 3, 1) := by decide +kernel
theorem dX1_swapWithNext_17 : decode cX1_swapWithNext 17 = .ok (.invokevirtual 19, 3) := by decide +kernel
theorem dX1_swapWithNext_20 : decode cX1_swapWithNext 20 = .ok (.istore 4, 2) := by decide +kernel
theorem dX1_swapWithNext_22 : decode cX1_swapWithNext 22 = .ok (.aload_n 0, 1) := by decide +kernel
theorem dX1_swapWithNext_23 : decode cX1_swapWithNext 23 = .ok (.iload_n 3, 1) := by decide +kernel
theorem dX1_swapWithNext_24 : decode cX1_swapWithNext 24 = .ok (.aload_n 0, 1) := by decide +kernel
theorem dX1_swapWithNext_25 : decode cX1_swapWithNext 25 = .ok (.iload_n 3, 1) := by decide +kernel
theorem dX1_swapWithNext_26 : decode cX1_swapWithNext 26 = .ok (.bipush 28, 2) := by decide +kernel
theorem dX1_swapWithNext_28 : decode cX1_swapWithNext 28 = .ok (.iadd, 1) := by decide +kernel
theorem dX1_swapWithNext_29 : decode cX1_swapWithNext 29 = .ok (.invokevirtual 19, 3) := by decide +kernel
theorem dX1_swapWithNext_32 : decode cX1_swapWithNext 32 = .ok (.invokevirtual 27, 3) := by decide +kernel
theorem dX1_swapWithNext_35 : decode cX1_swapWithNext 35 = .ok (.aload_n 0, 1) := by decide +kernel
theorem dX1_swapWithNext_36 : decode cX1_swapWithNext 36 = .ok (.iload_n 3, 1) := by decide +kernel
theorem dX1_swapWithNext_37 : decode cX1_swapWithNext 37 = .ok (.bipush 28, 2) := by decide +kernel
theorem dX1_swapWithNext_39 : decode cX1_swapWithNext 39 = .ok (.iadd, 1) := by decide +kernel
theorem dX1_swapWithNext_40 : decode cX1_swapWithNext 40 = .ok (.iload 4, 2) := by decide +kernel
theorem dX1_swapWithNext_42 : decode cX1_swapWithNext 42 = .ok (.invokevirtual 27, 3) := by decide +kernel
theorem dX1_swapWithNext_45 : decode cX1_swapWithNext 45 = .ok (.iinc 3 1, 3) := by decide +kernel
theorem dX1_swapWithNext_48 : decode cX1_swapWithNext 48 = .ok (.goto (-41), 3) := by decide +kernel
theorem dX1_swapWithNext_51 : decode cX1_swapWithNext 51 = .ok (.return_, 1) := by decide +kernel
set_option maxRecDepth 20000 in
theorem ggX1_stripAll_X1_countReachedSteps : GoodIn wsX1_stripAll wsX1_countReachedSteps := goodIn_r _ [6, 7, 8, 9, 5, 10, 11, 12, 13, 14, 15, 16, 17, 18, 19, 20, 21, 22, 23, 36, 37] (by decide +kernel) (by decide +kernel)
set_option maxRecDepth 20000 in
theorem gX1_stripAll_X1_countReachedSteps : GoodIn wsX1_stripAll (wsV RX1 67 RX1 yX1_countReachedSteps wsX1_countReachedSteps) := goodIn_app (goodIn_of _ (by decide +kernel)) ggX1_stripAll_X1_countReachedSteps
set_option maxRecDepth 20000 in
theorem ggX1_stripAll_X1_setLoopFact : GoodIn wsX1_stripAll wsX1_setLoopFact := goodIn_r _ [27, 28, 29, 30, 5, 31, 19, 36, 37] (by decide +kernel) (by decide +kernel)
set_option maxRecDepth 20000 in
theorem gX1_stripAll_X1_setLoopFact : GoodIn wsX1_stripAll (wsV RX1 31 RX1 yX1_setLoopFact wsX1_setLoopFact) := goodIn_app (goodIn_of _ (by decide +kernel)) ggX1_stripAll_X1_setLoopFact
set_option maxRecDepth 20000 in
theorem ggX1_stripAll_X1_countSteps : GoodIn wsX1_stripAll wsX1_countSteps := goodIn_r _ [10, 11, 12, 13, 5, 14, 15, 16, 17, 18, 19, 36, 37] (by decide +kernel) (by decide +kernel)
set_option maxRecDepth 20000 in
theorem gX1_stripAll_X1_countSteps : GoodIn wsX1_stripAll (wsV RX1 35 RX1 yX1_countSteps wsX1_countSteps) := goodIn_app (goodIn_of _ (by decide +kernel)) ggX1_stripAll_X1_countSteps
set_option maxRecDepth 20000 in
theorem ggX1_stripAll_X1_removeLoop : GoodIn wsX1_stripAll wsX1_removeLoop := goodIn_r _ [35, 1, 15, 16, 17, 5, 18, 19, 28, 29, 30, 31, 36, 37] (by decide +kernel) (by decide +kernel)
set_option maxRecDepth 20000 in
theorem gX1_stripAll_X1_removeLoop : GoodIn wsX1_stripAll (wsV RX1 61 RX1 yX1_removeLoop wsX1_removeLoop) := goodIn_app (goodIn_of _ (by decide +kernel)) ggX1_stripAll_X1_removeLoop
theorem dX1_stripAll_0 : decode cX1_stripAll 0 = .ok (.aload_n 0, 1) := by decide +kernel
theorem dX1_stripAll_1 : decode cX1_stripAll 1 = .ok (.getfield 15, 3) := by decide +kernel
theorem dX1_stripAll_4 : decode cX1_stripAll 4 = .ok (.iconst 1, 1) := by decide +kernel
theorem dX1_stripAll_5 : decode cX1_stripAll 5 = .ok (.isub, 1) := by decide +kernel
theorem dX1_stripAll_6 : decode cX1_stripAll 6 = .ok (.istore_n 1, 1) := by decide +kernel
theorem dX1_stripAll_7 : decode cX1_stripAll 7 = .ok (.iload_n 1, 1) := by decide +kernel
theorem dX1_stripAll_8 : decode cX1_stripAll 8 = .ok (.ifCond .lt 33, 3) := by decide +kernel
theorem dX1_stripAll_11 : decode cX1_stripAll 11 = .ok (.aload_n 0, 1) := by decide +kernel
theorem dX1_stripAll_12 : decode cX1_stripAll 12 = .ok (.iload_n 1, 1) := by decide +kernel
theorem dX1_stripAll_13 : decode cX1_stripAll 13 = .ok (.iconst 3, 1) := by decide +kernel
theorem dX1_stripAll_14 : decode cX1_stripAll 14 = .ok (.aload_n 0, 1) := by decide +kernel
theorem dX1_stripAll_15 : decode cX1_stripAll 15 = .ok (.iload_n 1, 1) := by decide +kernel
theorem dX1_stripAll_16 : decode cX1_stripAll 16 = .ok (.invokevirtual 67, 3) := by decide +kernel
theorem dX1_stripAll_19 : decode cX1_stripAll 19 = .ok (.invokevirtual 31, 3) := by decide +kernel
theorem dX1_stripAll_22 : decode cX1_stripAll 22 = .ok (.aload_n 0, 1) := by decide +kernel
theorem dX1_stripAll_23 : decode cX1_stripAll 23 = .ok (.iload_n 1, 1) := by decide +kernel
theorem dX1_stripAll_24 : decode cX1_stripAll 24 = .ok (.invokevirtual 35, 3) := by decide +kernel
theorem dX1_stripAll_27 : decode cX1_stripAll 27 = .ok (.ifCond .ne 8, 3) := by decide +kernel
theorem dX1_stripAll_30 : decode cX1_stripAll 30 = .ok (.aload_n 0, 1) := by decide +kernel
theorem dX1_stripAll_31 : decode cX1_stripAll 31 = .ok (.iload_n 1, 1) := by decide +kernel
theorem dX1_stripAll_32 : decode cX1_stripAll 32 = .ok (.invokevirtual 61, 3) := by decide +kernel
theorem dX1_stripAll_35 : decode cX1_stripAll 35 = .ok (.iinc 1 (-1), 3) := by decide +kernel
theorem dX1_stripAll_38 : decode cX1_stripAll 38 = .ok (.goto (-31), 3) := by decide +kernel
theorem dX1_stripAll_41 : decode cX1_stripAll 41 = .ok (.return_, 1) := by decide +kernel
set_option maxRecDepth 20000 in
theorem ggX1_countReachedSteps_X1_countSteps : GoodIn wsX1_countReachedSteps wsX1_countSteps := goodIn_r _ [5, 6, 7, 8, 4, 9, 10, 11, 12, 13, 14, 19, 20] (by decide +kernel) (by decide +kernel)
set_option maxRecDepth 20000 in
theorem gX1_countReachedSteps_X1_countSteps : GoodIn wsX1_countReachedSteps (wsV RX1 35 RX1 yX1_countSteps wsX1_countSteps) := goodIn_app (goodIn_of _ (by decide +kernel)) ggX1_countReachedSteps_X1_countSteps
set_option maxRecDepth 20000 in
theorem ggX1_countReachedSteps_X1_stepFact : GoodIn wsX1_countReachedSteps wsX1_stepFact := goodIn_r _ [18, 14, 19, 20] (by decide +kernel) (by decide +kernel)
set_option maxRecDepth 20000 in
theorem gX1_countReachedSteps_X1_stepFact : GoodIn wsX1_countReachedSteps (wsV RX1 70 RX1 yX1_stepFact wsX1_stepFact) := goodIn_app (goodIn_of _ (by decide +kernel)) ggX1_countReachedSteps_X1_stepFact
theorem dX1_countReachedSteps_0 : decode cX1_countReachedSteps 0 = .ok (.aload_n 0, 1) := by decide +kernel
theorem dX1_countReachedSteps_1 : decode cX1_countReachedSteps 1 = .ok (.iload_n 1, 1) := by decide +kernel
theorem dX1_countReachedSteps_2 : decode cX1_countReachedSteps 2 = .ok (.invokevirtual 35, 3) := by decide +kernel
theorem dX1_countReachedSteps_5 : decode cX1_countReachedSteps 5 = .ok (.istore_n 2, 1) := by decide +kernel
theorem dX1_countReachedSteps_6 : decode cX1_countReachedSteps 6 = .ok (.iconst 0, 1) := by decide +kernel
theorem dX1_countReachedSteps_7 : decode cX1_countReachedSteps 7 = .ok (.istore_n 3, 1) := by decide +kernel
theorem dX1_countReachedSteps_8 : decode cX1_countReachedSteps 8 = .ok (.iload_n 3, 1) := by decide +kernel
theorem dX1_countReachedSteps_9 : decode cX1_countReachedSteps 9 = .ok (.iload_n 2, 1) := by decide +kernel
theorem dX1_countReachedSteps_10 : decode cX1_countReachedSteps 10 = .ok (.if_icmp .ge 44, 3) := by decide +kernel
theorem dX1_countReachedSteps_13 : decode cX1_countReachedSteps 13 = .ok (.aload_n 0, 1) := by decide +kernel
theorem dX1_countReachedSteps_14 : decode cX1_countReachedSteps 14 = .ok (.iload_n 1, 1) := by decide +kernel
theorem dX1_countReachedSteps_15 : decode cX1_countReachedSteps 15 = .ok (.iload_n 3, 1) := by decide +kernel
theorem dX1_countReachedSteps_16 : decode cX1_countReachedSteps 16 = .ok (.iconst 2, 1) := by decide +kernel
theorem dX1_countReachedSteps_17 : decode cX1_countReachedSteps 17 = .ok (.invokevirtual 70, 3) := by decide +kernel
theorem dX1_countReachedSteps_20 : decode cX1_countReachedSteps 20 = .ok (.istore 4, 2) := by decide +kernel
theorem dX1_countReachedSteps_22 : decode cX1_countReachedSteps 22 = .ok (.aload_n 0, 1) := by decide +kernel
theorem dX1_countReachedSteps_23 : decode cX1_countReachedSteps 23 = .ok (.iload_n 1, 1) := by decide +kernel
theorem dX1_countReachedSteps_24 : decode cX1_countReachedSteps 24 = .ok (.iload_n 3, 1) := by decide +kernel
theorem dX1_countReachedSteps_25 : decode cX1_countReachedSteps 25 = .ok (.iconst 0, 1) := by decide +kernel
theorem dX1_countReachedSteps_26 : decode cX1_countReachedSteps 26 = .ok (.invokevirtual 70, 3) := by decide +kernel
theorem dX1_countReachedSteps_29 : decode cX1_countReachedSteps 29 = .ok (.ifCond .ne 19, 3) := by decide +kernel
theorem dX1_countReachedSteps_32 : decode cX1_countReachedSteps 32 = .ok (.iload 4, 2) := by decide +kernel
theorem dX1_countReachedSteps_34 : decode cX1_countReachedSteps 34 = .ok (.iconst 4, 1) := by decide +kernel
theorem dX1_countReachedSteps_35 : decode cX1_countReachedSteps 35 = .ok (.if_icmp .eq 9, 3) := by decide +kernel
theorem dX1_countReachedSteps_38 : decode cX1_countReachedSteps 38 = .ok (.iload 4, 2) := by decide +kernel
theorem dX1_countReachedSteps_40 : decode cX1_countReachedSteps 40 = .ok (.iconst 5, 1) := by decide +kernel
theorem dX1_countReachedSteps_41 : decode cX1_countReachedSteps 41 = .ok (.if_icmp .ne 7, 3) := by decide +kernel
theorem dX1_countReachedSteps_44 : decode cX1_countReachedSteps 44 = .ok (.iload_n 3, 1) := by decide +kernel
theorem dX1_countReachedSteps_45 : decode cX1_countReachedSteps 45 = .ok (.iconst 1, 1) := by decide +kernel
theorem dX1_countReachedSteps_46 : decode cX1_countReachedSteps 46 = .ok (.iadd, 1) := by decide +kernel
theorem dX1_countReachedSteps_47 : decode cX1_countReachedSteps 47 = .ok (.ireturn, 1) := by decide +kernel
theorem dX1_countReachedSteps_48 : decode cX1_countReachedSteps 48 = .ok (.iinc 3 1, 3) := by decide +kernel
theorem dX1_countReachedSteps_51 : decode cX1_countReachedSteps 51 = .ok (.goto (-43), 3) := by decide +kernel
theorem dX1_countReachedSteps_54 : decode cX1_countReachedSteps 54 = .ok (.iload_n 2, 1) := by decide +kernel
theorem dX1_countReachedSteps_55 : decode cX1_countReachedSteps 55 = .ok (.ireturn, 1) := by decide +kernel
set_option maxRecDepth 20000 in
theorem ggX1_copyStep_X1_placeOf : GoodIn wsX1_copyStep wsX1_placeOf := goodIn_r _ [4] (by decide +kernel) (by decide +kernel)
set_option maxRecDepth 20000 in
theorem gX1_copyStep_X1_placeOf : GoodIn wsX1_copyStep (va_wsS RX1 38 yX1_placeOf wsX1_placeOf) := goodIn_app (goodIn_of _ (by decide +kernel)) ggX1_copyStep_X1_placeOf
set_option maxRecDepth 20000 in
theorem ggX1_copyStep_X1_read : GoodIn wsX1_copyStep wsX1_read := goodIn_r _ [8, 9, 14, 15] (by decide +kernel) (by decide +kernel)
set_option maxRecDepth 20000 in
theorem gX1_copyStep_X1_read : GoodIn wsX1_copyStep (wsV RX1 19 RX1 yX1_read wsX1_read) := goodIn_app (goodIn_of _ (by decide +kernel)) ggX1_copyStep_X1_read
set_option maxRecDepth 20000 in
theorem ggX1_copyStep_X1_write : GoodIn wsX1_copyStep wsX1_write := goodIn_r _ [13, 9, 14, 15] (by decide +kernel) (by decide +kernel)
set_option maxRecDepth 20000 in
theorem gX1_copyStep_X1_write : GoodIn wsX1_copyStep (wsV RX1 27 RX1 yX1_write wsX1_write) := goodIn_app (goodIn_of _ (by decide +kernel)) ggX1_copyStep_X1_write
theorem dX1_copyStep_0 : decode cX1_copyStep 0 = .ok (.iload_n 1, 1) := by decide +kernel
theorem dX1_copyStep_1 : decode cX1_copyStep 1 = .ok (.iload_n 2, 1) := by decide +kernel
theorem dX1_copyStep_2 : decode cX1_copyStep 2 = .ok (.invokestatic 38, 3) := by decide +kernel
theorem dX1_copyStep_5 : decode cX1_copyStep 5 = .ok (.istore 5, 2) := by decide +kernel
theorem dX1_copyStep_7 : decode cX1_copyStep 7 = .ok (.iload_n 3, 1) := by decide +kernel
theorem dX1_copyStep_8 : decode cX1_copyStep 8 = .ok (.iload 4, 2) := by decide +kernel
theorem dX1_copyStep_10 : decode cX1_copyStep 10 = .ok (.invokestatic 38, 3) := by decide +kernel
theorem dX1_copyStep_13 : decode cX1_copyStep 13 = .ok (.istore 6, 2) := by decide +kernel
theorem dX1_copyStep_15 : decode cX1_copyStep 15 = .ok (.iconst 0, 1) := by decide +kernel
theorem dX1_copyStep_16 : decode cX1_copyStep 16 = .ok (.istore 7, 2) := by decide +kernel
theorem dX1_copyStep_18 : decode cX1_copyStep 18 = .ok (.iload 7, 2) := by decide +kernel
theorem dX1_copyStep_20 : decode cX1_copyStep 20 = .ok (.iconst 4, 1) := by decide +kernel
theorem dX1_copyStep_21 : decode cX1_copyStep 21 = .ok (.if_icmp .ge 27, 3) := by decide +kernel
theorem dX1_copyStep_24 : decode cX1_copyStep 24 = .ok (.aload_n 0, 1) := by decide +kernel
theorem dX1_copyStep_25 : decode cX1_copyStep 25 = .ok (.iload 6, 2) := by decide +kernel
theorem dX1_copyStep_27 : decode cX1_copyStep 27 = .ok (.iload 7, 2) := by decide +kernel
theorem dX1_copyStep_29 : decode cX1_copyStep 29 = .ok (.iadd, 1) := by decide +kernel
theorem dX1_copyStep_30 : decode cX1_copyStep 30 = .ok (.aload_n 0, 1) := by decide +kernel
theorem dX1_copyStep_31 : decode cX1_copyStep 31 = .ok (.iload 5, 2) := by decide +kernel
theorem dX1_copyStep_33 : decode cX1_copyStep 33 = .ok (.iload 7, 2) := by decide +kernel
theorem dX1_copyStep_35 : decode cX1_copyStep 35 = .ok (.iadd, 1) := by decide +kernel
theorem dX1_copyStep_36 : decode cX1_copyStep 36 = .ok (.invokevirtual 19, 3) := by decide +kernel
theorem dX1_copyStep_39 : decode cX1_copyStep 39 = .ok (.invokevirtual 27, 3) := by decide +kernel
theorem dX1_copyStep_42 : decode cX1_copyStep 42 = .ok (.iinc 7 1, 3) := by decide +kernel
theorem dX1_copyStep_45 : decode cX1_copyStep 45 = .ok (.goto (-27), 3) := by decide +kernel
theorem dX1_copyStep_48 : decode cX1_copyStep 48 = .ok (.return_, 1) := by decide +kernel
set_option maxRecDepth 20000 in
theorem ggX1_removeLoop_X1_read : GoodIn wsX1_removeLoop wsX1_read := goodIn_r _ [6, 7, 12, 13] (by decide +kernel) (by decide +kernel)
set_option maxRecDepth 20000 in
theorem gX1_removeLoop_X1_read : GoodIn wsX1_removeLoop (wsV RX1 19 RX1 yX1_read wsX1_read) := goodIn_app (goodIn_of _ (by decide +kernel)) ggX1_removeLoop_X1_read
set_option maxRecDepth 20000 in
theorem ggX1_removeLoop_X1_write : GoodIn wsX1_removeLoop wsX1_write := goodIn_r _ [11, 7, 12, 13] (by decide +kernel) (by decide +kernel)
set_option maxRecDepth 20000 in
theorem gX1_removeLoop_X1_write : GoodIn wsX1_removeLoop (wsV RX1 27 RX1 yX1_write wsX1_write) := goodIn_app (goodIn_of _ (by decide +kernel)) ggX1_removeLoop_X1_write
theorem dX1_removeLoop_0 : decode cX1_removeLoop 0 = .ok (.iload_n 1, 1) := by decide +kernel
theorem dX1_removeLoop_1 : decode cX1_removeLoop 1 = .ok (.bipush 28, 2) := by decide +kernel
theorem dX1_removeLoop_3 : decode cX1_removeLoop 3 = .ok (.imul, 1) := by decide +kernel
theorem dX1_removeLoop_4 : decode cX1_removeLoop 4 = .ok (.istore_n 2, 1) := by decide +kernel
theorem dX1_removeLoop_5 : decode cX1_removeLoop 5 = .ok (.iload_n 2, 1) := by decide +kernel
theorem dX1_removeLoop_6 : decode cX1_removeLoop 6 = .ok (.aload_n 0, 1) := by decide +kernel
theorem dX1_removeLoop_7 : decode cX1_removeLoop 7 = .ok (.getfield 15, 3) := by decide +kernel
theorem dX1_removeLoop_10 : decode cX1_removeLoop 10 = .ok (.iconst 1, 1) := by decide +kernel
theorem dX1_removeLoop_11 : decode cX1_removeLoop 11 = .ok (.isub, 1) := by decide +kernel
theorem dX1_removeLoop_12 : decode cX1_removeLoop 12 = .ok (.bipush 28, 2) := by decide +kernel
theorem dX1_removeLoop_14 : decode cX1_removeLoop 14 = .ok (.imul, 1) := by decide +kernel
theorem dX1_removeLoop_15 : decode cX1_removeLoop 15 = .ok (.if_icmp .ge 22, 3) := by decide +kernel
theorem dX1_removeLoop_18 : decode cX1_removeLoop 18 = .ok (.aload_n 0, 1) := by decide +kernel
theorem dX1_removeLoop_19 : decode cX1_removeLoop 19 = .ok (.iload_n 2, 1) := by decide +kernel
theorem dX1_removeLoop_20 : decode cX1_removeLoop 20 = .ok (.aload_n 0, 1) := by decide +kernel
theorem dX1_removeLoop_21 : decode cX1_removeLoop 21 = .ok (.iload_n 2, 1) := by decide +kernel
theorem dX1_removeLoop_22 : decode cX1_removeLoop 22 = .ok (.bipush 28, 2) := by decide +kernel
theorem dX1_removeLoop_24 : decode cX1_removeLoop 24 = .ok (.iadd, 1) := by decide +kernel
theorem dX1_removeLoop_25 : decode cX1_removeLoop 25 = .ok (.invokevirtual 19, 3) := by decide +kernel
theorem dX1_removeLoop_28 : decode cX1_removeLoop 28 = .ok (.invokevirtual 27, 3) := by decide +kernel
theorem dX1_removeLoop_31 : decode cX1_removeLoop 31 = .ok (.iinc 2 1, 3) := by decide +kernel
theorem dX1_removeLoop_34 : decode cX1_removeLoop 34 = .ok (.goto (-29), 3) := by decide +kernel
theorem dX1_removeLoop_37 : decode cX1_removeLoop 37 = .ok (.aload_n 0, 1) := by decide +kernel
theorem dX1_removeLoop_38 : decode cX1_removeLoop 38 = .ok (.dup, 1) := by decide +kernel
theorem dX1_removeLoop_39 : decode cX1_removeLoop 39 = .ok (.getfield 15, 3) := by decide +kernel
theorem dX1_removeLoop_42 : decode cX1_removeLoop 42 = .ok (.iconst 1, 1) := by decide +kernel
theorem dX1_removeLoop_43 : decode cX1_removeLoop 43 = .ok (.isub, 1) := by decide +kernel
theorem dX1_removeLoop_44 : decode cX1_removeLoop 44 = .ok (.putfield 15, 3) := by decide +kernel
theorem dX1_removeLoop_47 : decode cX1_removeLoop 47 = .ok (.return_, 1) := by decide +kernel
set_option maxRecDepth 20000 in
theorem ggX1_repeatLoop_X1_read : GoodIn wsX1_repeatLoop wsX1_read := goodIn_r _ [6, 7, 12, 13] (by decide +kernel) (by decide +kernel)
set_option maxRecDepth 20000 in
theorem gX1_repeatLoop_X1_read : GoodIn wsX1_repeatLoop (wsV RX1 19 RX1 yX1_read wsX1_read) := goodIn_app (goodIn_of _ (by decide +kernel)) ggX1_repeatLoop_X1_read
set_option maxRecDepth 20000 in
theorem ggX1_repeatLoop_X1_write : GoodIn wsX1_repeatLoop wsX1_write := goodIn_r _ [11, 7, 12, 13] (by decide +kernel) (by decide +kernel)
set_option maxRecDepth 20000 in
theorem gX1_repeatLoop_X1_write : GoodIn wsX1_repeatLoop (wsV RX1 27 RX1 yX1_write wsX1_write) := goodIn_app (goodIn_of _ (by decide +kernel)) ggX1_repeatLoop_X1_write
theorem dX1_repeatLoop_0 : decode cX1_repeatLoop 0 = .ok (.aload_n 0, 1) := by decide +kernel
theorem dX1_repeatLoop_1 : decode cX1_repeatLoop 1 = .ok (.getfield 15, 3) := by decide +kernel
theorem dX1_repeatLoop_4 : decode cX1_repeatLoop 4 = .ok (.bipush 28, 2) := by decide +kernel
theorem dX1_repeatLoop_6 : decode cX1_repeatLoop 6 = .ok (.imul, 1) := by decide +kernel
theorem dX1_repeatLoop_7 : decode cX1_repeatLoop 7 = .ok (.iconst 1, 1) := by decide +kernel
theorem dX1_repeatLoop_8 : decode cX1_repeatLoop 8 = .ok (.isub, 1) := by decide +kernel
theorem dX1_repeatLoop_9 : decode cX1_repeatLoop 9 = .ok (.istore_n 2, 1) := by decide +kernel
theorem dX1_repeatLoop_10 : decode cX1_repeatLoop 10 = .ok (.iload_n 2, 1) := by decide +kernel
theorem dX1_repeatLoop_11 : decode cX1_repeatLoop 11 = .ok (.iload_n 1, 1) := by decide +kernel
theorem dX1_repeatLoop_12 : decode cX1_repeatLoop 12 = .ok (.bipush 28, 2) := by decide +kernel
theorem dX1_repeatLoop_14 : decode cX1_repeatLoop 14 = .ok (.imul, 1) := by decide +kernel
theorem dX1_repeatLoop_15 : decode cX1_repeatLoop 15 = .ok (.if_icmp .lt 22, 3) := by decide +kernel
theorem dX1_repeatLoop_18 : decode cX1_repeatLoop 18 = .ok (.aload_n 0, 1) := by decide +kernel
theorem dX1_repeatLoop_19 : decode cX1_repeatLoop 19 = .ok (.iload_n 2, 1) := by decide +kernel
theorem dX1_repeatLoop_20 : decode cX1_repeatLoop 20 = .ok (.bipush 28, 2) := by decide +kernel
theorem dX1_repeatLoop_22 : decode cX1_repeatLoop 22 = .ok (.iadd, 1) := by decide +kernel
theorem dX1_repeatLoop_23 : decode cX1_repeatLoop 23 = .ok (.aload_n 0, 1) := by decide +kernel
theorem dX1_repeatLoop_24 : decode cX1_repeatLoop 24 = .ok (.iload_n 2, 1) := by decide +kernel
theorem dX1_repeatLoop_25 : decode cX1_repeatLoop 25 = .ok (.invokevirtual 19, 3) := by decide +kernel
theorem dX1_repeatLoop_28 : decode cX1_repeatLoop 28 = .ok (.invokevirtual 27, 3) := by decide +kernel
theorem dX1_repeatLoop_31 : decode cX1_repeatLoop 31 = .ok (.iinc 2 (-1), 3) := by decide +kernel
theorem dX1_repeatLoop_34 : decode cX1_repeatLoop 34 = .ok (.goto (-24), 3) := by decide +kernel
theorem dX1_repeatLoop_37 : decode cX1_repeatLoop 37 = .ok (.aload_n 0, 1) := by decide +kernel
theorem dX1_repeatLoop_38 : decode cX1_repeatLoop 38 = .ok (.dup, 1) := by decide +kernel
theorem dX1_repeatLoop_39 : decode cX1_repeatLoop 39 = .ok (.getfield 15, 3) := by decide +kernel
theorem dX1_repeatLoop_42 : decode cX1_repeatLoop 42 = .ok (.iconst 1, 1) := by decide +kernel
theorem dX1_repeatLoop_43 : decode cX1_repeatLoop 43 = .ok (.iadd, 1) := by decide +kernel
theorem dX1_repeatLoop_44 : decode cX1_repeatLoop 44 = .ok (.putfield 15, 3) := by decide +kernel
theorem dX1_repeatLoop_47 : decode cX1_repeatLoop 47 = .ok (.return_, 1) := by decide +kernel
set_option maxRecDepth 20000 in
theorem ggX2_against_X2_againstJoin : GoodIn wsX2_against wsX2_againstJoin := goodIn_r _ [4, 5, 6, 3, 7, 8, 9, 10, 11, 12, 13, 14, 15, 16, 17, 18, 19, 20, 21, 22, 23, 24, 25, 26, 27, 28, 29, 30, 31, 32, 33, 34, 35, 36, 37, 38, 39, 40, 41, 42, 43, 44, 62, 63] (by decide +kernel) (by decide +kernel)
set_option maxRecDepth 20000 in
theorem gX2_against_X2_againstJoin : GoodIn wsX2_against (va_wsS RX2 9 yX2_againstJoin wsX2_againstJoin) := goodIn_app (goodIn_of _ (by decide +kernel)) ggX2_against_X2_againstJoin
set_option maxRecDepth 20000 in
theorem ggX2_against_X2_againstDivide : GoodIn wsX2_against wsX2_againstDivide := goodIn_r _ [47, 18, 19, 3, 20, 21, 22, 23, 11, 24, 25, 9, 10, 12, 13, 14, 15, 16, 17, 26, 27, 28, 29, 30, 31, 32, 33, 34, 35, 36, 37, 38, 39, 40, 41, 42, 43, 44, 48, 49, 50, 51, 52, 62, 63] (by decide +kernel) (by decide +kernel)
set_option maxRecDepth 20000 in
theorem gX2_against_X2_againstDivide : GoodIn wsX2_against (va_wsS RX2 15 yX2_againstDivide wsX2_againstDivide) := goodIn_app (goodIn_of _ (by decide +kernel)) ggX2_against_X2_againstDivide
set_option maxRecDepth 20000 in
theorem ggX2_against_X2_againstPeel : GoodIn wsX2_against wsX2_againstPeel := goodIn_r _ [55, 8, 9, 10, 11, 12, 13, 14, 15, 16, 17, 18, 19, 3, 20, 21, 22, 23, 24, 25, 26, 27, 28, 29, 30, 31, 32, 48, 49, 50, 51, 52, 62, 63] (by decide +kernel) (by decide +kernel)
set_option maxRecDepth 20000 in
theorem gX2_against_X2_againstPeel : GoodIn wsX2_against (va_wsS RX2 19 yX2_againstPeel wsX2_againstPeel) := goodIn_app (goodIn_of _ (by decide +kernel)) ggX2_against_X2_againstPeel
set_option maxRecDepth 20000 in
theorem ggX2_against_X2_againstTurn : GoodIn wsX2_against wsX2_againstTurn := goodIn_r _ [58, 21, 22, 23, 11, 24, 25, 9, 10, 12, 13, 14, 15, 16, 17, 18, 19, 3, 20, 26, 27, 28, 29, 30, 31, 32, 59, 60, 61, 39, 40, 41, 42, 43, 44, 36, 37, 38, 62, 63] (by decide +kernel) (by decide +kernel)
set_option maxRecDepth 20000 in
theorem gX2_against_X2_againstTurn : GoodIn wsX2_against (va_wsS RX2 22 yX2_againstTurn wsX2_againstTurn) := goodIn_app (goodIn_of _ (by decide +kernel)) ggX2_against_X2_againstTurn
set_option maxRecDepth 20000 in
theorem ggX2_against_X1_countSteps : GoodIn wsX2_against wsX1_countSteps := goodIn_r _ [24, 25, 9, 10, 11, 12, 13, 14, 15, 16, 17, 62, 63] (by decide +kernel) (by decide +kernel)
set_option maxRecDepth 20000 in
theorem gX2_against_X1_countSteps : GoodIn wsX2_against (wsV RX2 25 RX1 yX1_countSteps wsX1_countSteps) := goodIn_app (goodIn_of _ (by decide +kernel)) ggX2_against_X1_countSteps
set_option maxRecDepth 20000 in
theorem ggX2_against_X2_againstParts : GoodIn wsX2_against wsX2_againstParts := goodIn_r _ [35, 21, 22, 23, 11, 24, 25, 9, 10, 12, 13, 14, 15, 16, 17, 26, 27, 3, 28, 29, 30, 31, 32, 36, 37, 38, 39, 40, 41, 42, 43, 44, 62, 63] (by decide +kernel) (by decide +kernel)
set_option maxRecDepth 20000 in
theorem gX2_against_X2_againstParts : GoodIn wsX2_against (va_wsS RX2 31 yX2_againstParts wsX2_againstParts) := goodIn_app (goodIn_of _ (by decide +kernel)) ggX2_against_X2_againstParts
theorem dX2_against_0 : decode cX2_against 0 = .ok (.iload_n 1, 1) := by decide +kernel
theorem dX2_against_1 : decode cX2_against 1 = .ok (.tableswitch 76 0 4 #[35, 41, 48, 55, 61], 35) := by decide +kernel
theorem dX2_against_36 : decode cX2_against 36 = .ok (.aload_n 0, 1) := by decide +kernel
theorem dX2_against_37 : decode cX2_against 37 = .ok (.iload_n 2, 1) := by decide +kernel
theorem dX2_against_38 : decode cX2_against 38 = .ok (.invokestatic 9, 3) := by decide +kernel
theorem dX2_against_41 : decode cX2_against 41 = .ok (.ireturn, 1) := by decide +kernel
theorem dX2_against_42 : decode cX2_against 42 = .ok (.aload_n 0, 1) := by decide +kernel
theorem dX2_against_43 : decode cX2_against 43 = .ok (.iload_n 2, 1) := by decide +kernel
theorem dX2_against_44 : decode cX2_against 44 = .ok (.iload_n 3, 1) := by decide +kernel
theorem dX2_against_45 : decode cX2_against 45 = .ok (.invokestatic 15, 3) := by decide +kernel
theorem dX2_against_48 : decode cX2_against 48 = .ok (.ireturn, 1) := by decide +kernel
theorem dX2_against_49 : decode cX2_against 49 = .ok (.aload_n 0, 1) := by decide +kernel
theorem dX2_against_50 : decode cX2_against 50 = .ok (.iload_n 2, 1) := by decide +kernel
theorem dX2_against_51 : decode cX2_against 51 = .ok (.iload_n 3, 1) := by decide +kernel
theorem dX2_against_52 : decode cX2_against 52 = .ok (.invokestatic 19, 3) := by decide +kernel
theorem dX2_against_55 : decode cX2_against 55 = .ok (.ireturn, 1) := by decide +kernel
theorem dX2_against_56 : decode cX2_against 56 = .ok (.aload_n 0, 1) := by decide +kernel
theorem dX2_against_57 : decode cX2_against 57 = .ok (.iload_n 2, 1) := by decide +kernel
theorem dX2_against_58 : decode cX2_against 58 = .ok (.invokestatic 22, 3) := by decide +kernel
theorem dX2_against_61 : decode cX2_against 61 = .ok (.ireturn, 1) := by decide +kernel
theorem dX2_against_62 : decode cX2_against 62 = .ok (.aload_n 0, 1) := by decide +kernel
theorem dX2_against_63 : decode cX2_against 63 = .ok (.iload_n 2, 1) := by decide +kernel
theorem dX2_against_64 : decode cX2_against 64 = .ok (.aload_n 0, 1) := by decide +kernel
theorem dX2_against_65 : decode cX2_against 65 = .ok (.iload_n 2, 1) := by decide +kernel
theorem dX2_against_66 : decode cX2_against 66 = .ok (.invokevirtual 25, 3) := by decide +kernel
theorem dX2_against_69 : decode cX2_against 69 = .ok (.iload_n 2, 1) := by decide +kernel
theorem dX2_against_70 : decode cX2_against 70 = .ok (.iconst 1, 1) := by decide +kernel
theorem dX2_against_71 : decode cX2_against 71 = .ok (.iadd, 1) := by decide +kernel
theorem dX2_against_72 : decode cX2_against 72 = .ok (.iconst 0, 1) := by decide +kernel
theorem dX2_against_73 : decode cX2_against 73 = .ok (.invokestatic 31, 3) := by decide +kernel
theorem dX2_against_76 : decode cX2_against 76 = .ok (.ireturn, 1) := by decide +kernel
theorem dX2_against_77 : decode cX2_against 77 = .ok (.iconst 0, 1) := by decide +kernel
theorem dX2_against_78 : decode cX2_against 78 = .ok (.ireturn, 1) := by decide +kernel
set_option maxRecDepth 20000 in
theorem ggX2_againstJoin_X2_haveSameRange : GoodIn wsX2_againstJoin wsX2_haveSameRange := goodIn_r _ [4, 5, 6, 7, 8, 9, 10, 11, 12, 13, 14, 42, 43] (by decide +kernel) (by decide +kernel)
set_option maxRecDepth 20000 in
theorem gX2_againstJoin_X2_haveSameRange : GoodIn wsX2_againstJoin (va_wsS RX2 35 yX2_haveSameRange wsX2_haveSameRange) := goodIn_app (goodIn_of _ (by decide +kernel)) ggX2_againstJoin_X2_haveSameRange
set_option maxRecDepth 20000 in
theorem ggX2_againstJoin_X2_hasBreak : GoodIn wsX2_againstJoin wsX2_hasBreak := goodIn_r _ [17, 18, 19, 20, 8, 21, 22, 6, 7, 9, 10, 11, 12, 13, 14, 23, 24, 3, 25, 26, 27, 28, 29, 42, 43] (by decide +kernel) (by decide +kernel)
set_option maxRecDepth 20000 in
theorem gX2_againstJoin_X2_hasBreak : GoodIn wsX2_againstJoin (va_wsS RX2 39 yX2_hasBreak wsX2_hasBreak) := goodIn_app (goodIn_of _ (by decide +kernel)) ggX2_againstJoin_X2_hasBreak
set_option maxRecDepth 20000 in
theorem ggX2_againstJoin_X1_countSteps : GoodIn wsX2_againstJoin wsX1_countSteps := goodIn_r _ [21, 22, 6, 7, 8, 9, 10, 11, 12, 13, 14, 42, 43] (by decide +kernel) (by decide +kernel)
set_option maxRecDepth 20000 in
theorem gX2_againstJoin_X1_countSteps : GoodIn wsX2_againstJoin (wsV RX2 25 RX1 yX1_countSteps wsX1_countSteps) := goodIn_app (goodIn_of _ (by decide +kernel)) ggX2_againstJoin_X1_countSteps
set_option maxRecDepth 20000 in
theorem ggX2_againstJoin_X2_againstParts : GoodIn wsX2_againstJoin wsX2_againstParts := goodIn_r _ [32, 18, 19, 20, 8, 21, 22, 6, 7, 9, 10, 11, 12, 13, 14, 23, 24, 3, 25, 26, 27, 28, 29, 33, 34, 35, 36, 37, 38, 39, 40, 41, 42, 43] (by decide +kernel) (by decide +kernel)
set_option maxRecDepth 20000 in
theorem gX2_againstJoin_X2_againstParts : GoodIn wsX2_againstJoin (va_wsS RX2 31 yX2_againstParts wsX2_againstParts) := goodIn_app (goodIn_of _ (by decide +kernel)) ggX2_againstJoin_X2_againstParts
theorem dX2_againstJoin_0 : decode cX2_againstJoin 0 = .ok (.aload_n 0, 1) := by decide +kernel
theorem dX2_againstJoin_1 : decode cX2_againstJoin 1 = .ok (.iload_n 1, 1) := by decide +kernel
theorem dX2_againstJoin_2 : decode cX2_againstJoin 2 = .ok (.invokestatic 35, 3) := by decide +kernel
theorem dX2_againstJoin_5 : decode cX2_againstJoin 5 = .ok (.ifCond .ne 5, 3) := by decide +kernel
theorem dX2_againstJoin_8 : decode cX2_againstJoin 8 = .ok (.iconst 1, 1) := by decide +kernel
theorem dX2_againstJoin_9 : decode cX2_againstJoin 9 = .ok (.ireturn, 1) := by decide +kernel
theorem dX2_againstJoin_10 : decode cX2_againstJoin 10 = .ok (.aload_n 0, 1) := by decide +kernel
theorem dX2_againstJoin_11 : decode cX2_againstJoin 11 = .ok (.iload_n 1, 1) := by decide +kernel
theorem dX2_againstJoin_12 : decode cX2_againstJoin 12 = .ok (.invokestatic 39, 3) := by decide +kernel
theorem dX2_againstJoin_15 : decode cX2_againstJoin 15 = .ok (.ifCond .ne 13, 3) := by decide +kernel
theorem dX2_againstJoin_18 : decode cX2_againstJoin 18 = .ok (.aload_n 0, 1) := by decide +kernel
theorem dX2_againstJoin_19 : decode cX2_againstJoin 19 = .ok (.iload_n 1, 1) := by decide +kernel
theorem dX2_againstJoin_20 : decode cX2_againstJoin 20 = .ok (.iconst 1, 1) := by decide +kernel
theorem dX2_againstJoin_21 : decode cX2_againstJoin 21 = .ok (.iadd, 1) := by decide +kernel
theorem dX2_againstJoin_22 : decode cX2_againstJoin 22 = .ok (.invokestatic 39, 3) := by decide +kernel
theorem dX2_againstJoin_25 : decode cX2_againstJoin 25 = .ok (.ifCond .eq 5, 3) := by decide +kernel
theorem dX2_againstJoin_28 : decode cX2_againstJoin 28 = .ok (.iconst 2, 1) := by decide +kernel
theorem dX2_againstJoin_29 : decode cX2_againstJoin 29 = .ok (.ireturn, 1) := by decide +kernel
theorem dX2_againstJoin_30 : decode cX2_againstJoin 30 = .ok (.aload_n 0, 1) := by decide +kernel
theorem dX2_againstJoin_31 : decode cX2_againstJoin 31 = .ok (.iload_n 1, 1) := by decide +kernel
theorem dX2_againstJoin_32 : decode cX2_againstJoin 32 = .ok (.aload_n 0, 1) := by decide +kernel
theorem dX2_againstJoin_33 : decode cX2_againstJoin 33 = .ok (.iload_n 1, 1) := by decide +kernel
theorem dX2_againstJoin_34 : decode cX2_againstJoin 34 = .ok (.invokevirtual 25, 3) := by decide +kernel
theorem dX2_againstJoin_37 : decode cX2_againstJoin 37 = .ok (.iload_n 1, 1) := by decide +kernel
theorem dX2_againstJoin_38 : decode cX2_againstJoin 38 = .ok (.iconst 1, 1) := by decide +kernel
theorem dX2_againstJoin_39 : decode cX2_againstJoin 39 = .ok (.iadd, 1) := by decide +kernel
theorem dX2_againstJoin_40 : decode cX2_againstJoin 40 = .ok (.iconst 0, 1) := by decide +kernel
theorem dX2_againstJoin_41 : decode cX2_againstJoin 41 = .ok (.invokestatic 31, 3) := by decide +kernel
theorem dX2_againstJoin_44 : decode cX2_againstJoin 44 = .ok (.istore_n 2, 1) := by decide +kernel
theorem dX2_againstJoin_45 : decode cX2_againstJoin 45 = .ok (.iload_n 2, 1) := by decide +kernel
theorem dX2_againstJoin_46 : decode cX2_againstJoin 46 = .ok (.ifCond .eq 5, 3) := by decide +kernel
theorem dX2_againstJoin_49 : decode cX2_againstJoin 49 = .ok (.iload_n 2, 1) := by decide +kernel
theorem dX2_againstJoin_50 : decode cX2_againstJoin 50 = .ok (.ireturn, 1) := by decide +kernel
theorem dX2_againstJoin_51 : decode cX2_againstJoin 51 = .ok (.aload_n 0, 1) := by decide +kernel
theorem dX2_againstJoin_52 : decode cX2_againstJoin 52 = .ok (.iload_n 1, 1) := by decide +kernel
theorem dX2_againstJoin_53 : decode cX2_againstJoin 53 = .ok (.invokevirtual 25, 3) := by decide +kernel
theorem dX2_againstJoin_56 : decode cX2_againstJoin 56 = .ok (.aload_n 0, 1) := by decide +kernel
theorem dX2_againstJoin_57 : decode cX2_againstJoin 57 = .ok (.iload_n 1, 1) := by decide +kernel
theorem dX2_againstJoin_58 : decode cX2_againstJoin 58 = .ok (.iconst 1, 1) := by decide +kernel
theorem dX2_againstJoin_59 : decode cX2_againstJoin 59 = .ok (.iadd, 1) := by decide +kernel
theorem dX2_againstJoin_60 : decode cX2_againstJoin 60 = .ok (.invokevirtual 25, 3) := by decide +kernel
theorem dX2_againstJoin_63 : decode cX2_againstJoin 63 = .ok (.iadd, 1) := by decide +kernel
theorem dX2_againstJoin_64 : decode cX2_againstJoin 64 = .ok (.istore_n 3, 1) := by decide +kernel
theorem dX2_againstJoin_65 : decode cX2_againstJoin 65 = .ok (.iload_n 3, 1) := by decide +kernel
theorem dX2_againstJoin_66 : decode cX2_againstJoin 66 = .ok (.bipush 6, 2) := by decide +kernel
theorem dX2_againstJoin_68 : decode cX2_againstJoin 68 = .ok (.if_icmp .le 7, 3) := by decide +kernel
theorem dX2_againstJoin_71 : decode cX2_againstJoin 71 = .ok (.iconst 5, 1) := by decide +kernel
theorem dX2_againstJoin_72 : decode cX2_againstJoin 72 = .ok (.goto 4, 3) := by decide +kernel
theorem dX2_againstJoin_75 : decode cX2_againstJoin 75 = .ok (.iconst 0, 1) := by decide +kernel
theorem dX2_againstJoin_76 : decode cX2_againstJoin 76 = .ok (.ireturn, 1) := by decide +kernel
set_option maxRecDepth 20000 in
theorem ggX2_againstDivide_X2_hasBreak : GoodIn wsX2_againstDivide wsX2_hasBreak := goodIn_r _ [4, 5, 6, 7, 8, 9, 10, 11, 12, 13, 14, 15, 16, 17, 18, 19, 20, 3, 21, 22, 23, 24, 25, 43, 44] (by decide +kernel) (by decide +kernel)
set_option maxRecDepth 20000 in
theorem gX2_againstDivide_X2_hasBreak : GoodIn wsX2_againstDivide (va_wsS RX2 39 yX2_hasBreak wsX2_hasBreak) := goodIn_app (goodIn_of _ (by decide +kernel)) ggX2_againstDivide_X2_hasBreak
set_option maxRecDepth 20000 in
theorem ggX2_againstDivide_X2_againstParts : GoodIn wsX2_againstDivide wsX2_againstParts := goodIn_r _ [28, 5, 6, 7, 8, 9, 10, 11, 12, 13, 14, 15, 16, 17, 18, 19, 20, 3, 21, 22, 23, 24, 25, 29, 30, 31, 32, 33, 34, 35, 36, 37, 43, 44] (by decide +kernel) (by decide +kernel)
set_option maxRecDepth 20000 in
theorem gX2_againstDivide_X2_againstParts : GoodIn wsX2_againstDivide (va_wsS RX2 31 yX2_againstParts wsX2_againstParts) := goodIn_app (goodIn_of _ (by decide +kernel)) ggX2_againstDivide_X2_againstParts
set_option maxRecDepth 20000 in
theorem ggX2_againstDivide_X1_countLoops : GoodIn wsX2_againstDivide wsX1_countLoops := goodIn_r _ [41, 42, 43, 44] (by decide +kernel) (by decide +kernel)
set_option maxRecDepth 20000 in
theorem gX2_againstDivide_X1_countLoops : GoodIn wsX2_againstDivide (wsV RX2 42 RX1 yX1_countLoops wsX1_countLoops) := goodIn_app (goodIn_of _ (by decide +kernel)) ggX2_againstDivide_X1_countLoops
theorem dX2_againstDivide_0 : decode cX2_againstDivide 0 = .ok (.aload_n 0, 1) := by decide +kernel
theorem dX2_againstDivide_1 : decode cX2_againstDivide 1 = .ok (.iload_n 1, 1) := by decide +kernel
theorem dX2_againstDivide_2 : decode cX2_againstDivide 2 = .ok (.invokestatic 39, 3) := by decide +kernel
theorem dX2_againstDivide_5 : decode cX2_againstDivide 5 = .ok (.ifCond .eq 5, 3) := by decide +kernel
theorem dX2_againstDivide_8 : decode cX2_againstDivide 8 = .ok (.iconst 2, 1) := by decide +kernel
theorem dX2_againstDivide_9 : decode cX2_againstDivide 9 = .ok (.ireturn, 1) := by decide +kernel
theorem dX2_againstDivide_10 : decode cX2_againstDivide 10 = .ok (.aload_n 0, 1) := by decide +kernel
theorem dX2_againstDivide_11 : decode cX2_againstDivide 11 = .ok (.iload_n 1, 1) := by decide +kernel
theorem dX2_againstDivide_12 : decode cX2_againstDivide 12 = .ok (.iload_n 2, 1) := by decide +kernel
theorem dX2_againstDivide_13 : decode cX2_againstDivide 13 = .ok (.iload_n 1, 1) := by decide +kernel
theorem dX2_againstDivide_14 : decode cX2_againstDivide 14 = .ok (.iload_n 2, 1) := by decide +kernel
theorem dX2_againstDivide_15 : decode cX2_againstDivide 15 = .ok (.invokestatic 31, 3) := by decide +kernel
theorem dX2_againstDivide_18 : decode cX2_againstDivide 18 = .ok (.istore_n 3, 1) := by decide +kernel
theorem dX2_againstDivide_19 : decode cX2_againstDivide 19 = .ok (.iload_n 3, 1) := by decide +kernel
theorem dX2_againstDivide_20 : decode cX2_againstDivide 20 = .ok (.ifCond .eq 5, 3) := by decide +kernel
theorem dX2_againstDivide_23 : decode cX2_againstDivide 23 = .ok (.iload_n 3, 1) := by decide +kernel
theorem dX2_againstDivide_24 : decode cX2_againstDivide 24 = .ok (.ireturn, 1) := by decide +kernel
theorem dX2_againstDivide_25 : decode cX2_againstDivide 25 = .ok (.aload_n 0, 1) := by decide +kernel
theorem dX2_againstDivide_26 : decode cX2_againstDivide 26 = .ok (.invokevirtual 42, 3) := by decide +kernel
theorem dX2_againstDivide_29 : decode cX2_againstDivide 29 = .ok (.bipush 8, 2) := by decide +kernel
theorem dX2_againstDivide_31 : decode cX2_againstDivide 31 = .ok (.if_icmp .lt 8, 3) := by decide +kernel
theorem dX2_againstDivide_34 : decode cX2_againstDivide 34 = .ok (.bipush 6, 2) := by decide +kernel
theorem dX2_againstDivide_36 : decode cX2_againstDivide 36 = .ok (.goto 4, 3) := by decide +kernel
theorem dX2_againstDivide_39 : decode cX2_againstDivide 39 = .ok (.iconst 0, 1) := by decide +kernel
theorem dX2_againstDivide_40 : decode cX2_againstDivide 40 = .ok (.ireturn, 1) := by decide +kernel
set_option maxRecDepth 20000 in
theorem ggX2_againstPeel_X1_loopFact : GoodIn wsX2_againstPeel wsX1_loopFact := goodIn_r _ [5, 6, 7, 8, 4, 9, 10, 32, 33] (by decide +kernel) (by decide +kernel)
set_option maxRecDepth 20000 in
theorem gX2_againstPeel_X1_loopFact : GoodIn wsX2_againstPeel (wsV RX2 46 RX1 yX1_loopFact wsX1_loopFact) := goodIn_app (goodIn_of _ (by decide +kernel)) ggX2_againstPeel_X1_loopFact
set_option maxRecDepth 20000 in
theorem ggX2_againstPeel_X2_hasBreak : GoodIn wsX2_againstPeel wsX2_hasBreak := goodIn_r _ [14, 15, 16, 17, 4, 18, 19, 2, 3, 5, 6, 7, 8, 9, 10, 20, 21, 13, 22, 23, 24, 25, 26, 32, 33] (by decide +kernel) (by decide +kernel)
set_option maxRecDepth 20000 in
theorem gX2_againstPeel_X2_hasBreak : GoodIn wsX2_againstPeel (va_wsS RX2 39 yX2_hasBreak wsX2_hasBreak) := goodIn_app (goodIn_of _ (by decide +kernel)) ggX2_againstPeel_X2_hasBreak
set_option maxRecDepth 20000 in
theorem ggX2_againstPeel_X1_countLoops : GoodIn wsX2_againstPeel wsX1_countLoops := goodIn_r _ [30, 31, 32, 33] (by decide +kernel) (by decide +kernel)
set_option maxRecDepth 20000 in
theorem gX2_againstPeel_X1_countLoops : GoodIn wsX2_againstPeel (wsV RX2 42 RX1 yX1_countLoops wsX1_countLoops) := goodIn_app (goodIn_of _ (by decide +kernel)) ggX2_againstPeel_X1_countLoops
theorem dX2_againstPeel_0 : decode cX2_againstPeel 0 = .ok (.aload_n 0, 1) := by decide +kernel
theorem dX2_againstPeel_1 : decode cX2_againstPeel 1 = .ok (.iload_n 1, 1) := by decide +kernel
theorem dX2_againstPeel_2 : decode cX2_againstPeel 2 = .ok (.iconst 0, 1) := by decide +kernel
theorem dX2_againstPeel_3 : decode cX2_againstPeel 3 = .ok (.invokevirtual 46, 3) := by decide +kernel
theorem dX2_againstPeel_6 : decode cX2_againstPeel 6 = .ok (.istore_n 3, 1) := by decide +kernel
theorem dX2_againstPeel_7 : decode cX2_againstPeel 7 = .ok (.aload_n 0, 1) := by decide +kernel
theorem dX2_againstPeel_8 : decode cX2_againstPeel 8 = .ok (.iload_n 1, 1) := by decide +kernel
theorem dX2_againstPeel_9 : decode cX2_againstPeel 9 = .ok (.iconst 1, 1) := by decide +kernel
theorem dX2_againstPeel_10 : decode cX2_againstPeel 10 = .ok (.invokevirtual 46, 3) := by decide +kernel
theorem dX2_againstPeel_13 : decode cX2_againstPeel 13 = .ok (.istore 4, 2) := by decide +kernel
theorem dX2_againstPeel_15 : decode cX2_againstPeel 15 = .ok (.aload_n 0, 1) := by decide +kernel
theorem dX2_againstPeel_16 : decode cX2_againstPeel 16 = .ok (.iload_n 1, 1) := by decide +kernel
theorem dX2_againstPeel_17 : decode cX2_againstPeel 17 = .ok (.iconst 2, 1) := by decide +kernel
theorem dX2_againstPeel_18 : decode cX2_againstPeel 18 = .ok (.invokevirtual 46, 3) := by decide +kernel
theorem dX2_againstPeel_21 : decode cX2_againstPeel 21 = .ok (.ifCond .ne 6, 3) := by decide +kernel
theorem dX2_againstPeel_24 : decode cX2_againstPeel 24 = .ok (.bipush 7, 2) := by decide +kernel
theorem dX2_againstPeel_26 : decode cX2_againstPeel 26 = .ok (.ireturn, 1) := by decide +kernel
theorem dX2_againstPeel_27 : decode cX2_againstPeel 27 = .ok (.iload_n 3, 1) := by decide +kernel
theorem dX2_againstPeel_28 : decode cX2_againstPeel 28 = .ok (.iload 4, 2) := by decide +kernel
theorem dX2_againstPeel_30 : decode cX2_againstPeel 30 = .ok (.iadd, 1) := by decide +kernel
theorem dX2_againstPeel_31 : decode cX2_againstPeel 31 = .ok (.iload_n 2, 1) := by decide +kernel
theorem dX2_againstPeel_32 : decode cX2_againstPeel 32 = .ok (.iconst 1, 1) := by decide +kernel
theorem dX2_againstPeel_33 : decode cX2_againstPeel 33 = .ok (.isub, 1) := by decide +kernel
theorem dX2_againstPeel_34 : decode cX2_againstPeel 34 = .ok (.if_icmp .gt 19, 3) := by decide +kernel
theorem dX2_againstPeel_37 : decode cX2_againstPeel 37 = .ok (.iload_n 2, 1) := by decide +kernel
theorem dX2_againstPeel_38 : decode cX2_againstPeel 38 = .ok (.iconst 1, 1) := by decide +kernel
theorem dX2_againstPeel_39 : decode cX2_againstPeel 39 = .ok (.isub, 1) := by decide +kernel
theorem dX2_againstPeel_40 : decode cX2_againstPeel 40 = .ok (.iload_n 3, 1) := by decide +kernel
theorem dX2_againstPeel_41 : decode cX2_againstPeel 41 = .ok (.isub, 1) := by decide +kernel
theorem dX2_againstPeel_42 : decode cX2_againstPeel 42 = .ok (.iconst 5, 1) := by decide +kernel
theorem dX2_againstPeel_43 : decode cX2_againstPeel 43 = .ok (.if_icmp .gt 10, 3) := by decide +kernel
theorem dX2_againstPeel_46 : decode cX2_againstPeel 46 = .ok (.iload_n 3, 1) := by decide +kernel
theorem dX2_againstPeel_47 : decode cX2_againstPeel 47 = .ok (.iconst 1, 1) := by decide +kernel
theorem dX2_againstPeel_48 : decode cX2_againstPeel 48 = .ok (.iadd, 1) := by decide +kernel
theorem dX2_againstPeel_49 : decode cX2_againstPeel 49 = .ok (.iconst 5, 1) := by decide +kernel
theorem dX2_againstPeel_50 : decode cX2_againstPeel 50 = .ok (.if_icmp .le 6, 3) := by decide +kernel
theorem dX2_againstPeel_53 : decode cX2_againstPeel 53 = .ok (.bipush 8, 2) := by decide +kernel
theorem dX2_againstPeel_55 : decode cX2_againstPeel 55 = .ok (.ireturn, 1) := by decide +kernel
theorem dX2_againstPeel_56 : decode cX2_againstPeel 56 = .ok (.aload_n 0, 1) := by decide +kernel
theorem dX2_againstPeel_57 : decode cX2_againstPeel 57 = .ok (.iload_n 1, 1) := by decide +kernel
theorem dX2_againstPeel_58 : decode cX2_againstPeel 58 = .ok (.invokestatic 39, 3) := by decide +kernel
theorem dX2_againstPeel_61 : decode cX2_againstPeel 61 = .ok (.ifCond .eq 5, 3) := by decide +kernel
theorem dX2_againstPeel_64 : decode cX2_againstPeel 64 = .ok (.iconst 2, 1) := by decide +kernel
theorem dX2_againstPeel_65 : decode cX2_againstPeel 65 = .ok (.ireturn, 1) := by decide +kernel
theorem dX2_againstPeel_66 : decode cX2_againstPeel 66 = .ok (.aload_n 0, 1) := by decide +kernel
theorem dX2_againstPeel_67 : decode cX2_againstPeel 67 = .ok (.invokevirtual 42, 3) := by decide +kernel
theorem dX2_againstPeel_70 : decode cX2_againstPeel 70 = .ok (.bipush 8, 2) := by decide +kernel
theorem dX2_againstPeel_72 : decode cX2_againstPeel 72 = .ok (.if_icmp .lt 8, 3) := by decide +kernel
theorem dX2_againstPeel_75 : decode cX2_againstPeel 75 = .ok (.bipush 6, 2) := by decide +kernel
theorem dX2_againstPeel_77 : decode cX2_againstPeel 77 = .ok (.goto 4, 3) := by decide +kernel
theorem dX2_againstPeel_80 : decode cX2_againstPeel 80 = .ok (.iconst 0, 1) := by decide +kernel
theorem dX2_againstPeel_81 : decode cX2_againstPeel 81 = .ok (.ireturn, 1) := by decide +kernel
set_option maxRecDepth 20000 in
theorem ggX2_againstTurn_X1_countSteps : GoodIn wsX2_againstTurn wsX1_countSteps := goodIn_r _ [5, 6, 7, 8, 4, 9, 10, 11, 12, 13, 14, 38, 39] (by decide +kernel) (by decide +kernel)
set_option maxRecDepth 20000 in
theorem gX2_againstTurn_X1_countSteps : GoodIn wsX2_againstTurn (wsV RX2 25 RX1 yX1_countSteps wsX1_countSteps) := goodIn_app (goodIn_of _ (by decide +kernel)) ggX2_againstTurn_X1_countSteps
set_option maxRecDepth 20000 in
theorem ggX2_againstTurn_X2_hasBreak : GoodIn wsX2_againstTurn wsX2_hasBreak := goodIn_r _ [18, 1, 2, 3, 4, 5, 6, 7, 8, 9, 10, 11, 12, 13, 14, 19, 20, 17, 21, 22, 23, 24, 25, 38, 39] (by decide +kernel) (by decide +kernel)
set_option maxRecDepth 20000 in
theorem gX2_againstTurn_X2_hasBreak : GoodIn wsX2_againstTurn (va_wsS RX2 39 yX2_hasBreak wsX2_hasBreak) := goodIn_app (goodIn_of _ (by decide +kernel)) ggX2_againstTurn_X2_hasBreak
set_option maxRecDepth 20000 in
theorem ggX2_againstTurn_X2_hasTwoCodes : GoodIn wsX2_againstTurn wsX2_hasTwoCodes := goodIn_r _ [28, 1, 2, 3, 4, 5, 6, 7, 8, 9, 10, 11, 12, 13, 14, 22, 23, 24, 25, 38, 39] (by decide +kernel) (by decide +kernel)
set_option maxRecDepth 20000 in
theorem gX2_againstTurn_X2_hasTwoCodes : GoodIn wsX2_againstTurn (va_wsS RX2 50 yX2_hasTwoCodes wsX2_hasTwoCodes) := goodIn_app (goodIn_of _ (by decide +kernel)) ggX2_againstTurn_X2_hasTwoCodes
set_option maxRecDepth 20000 in
theorem ggX2_againstTurn_X2_hasDeed : GoodIn wsX2_againstTurn wsX2_hasDeed := goodIn_r _ [21, 22, 23, 24, 4, 25, 14, 38, 39] (by decide +kernel) (by decide +kernel)
set_option maxRecDepth 20000 in
theorem gX2_againstTurn_X2_hasDeed : GoodIn wsX2_againstTurn (va_wsS RX2 53 yX2_hasDeed wsX2_hasDeed) := goodIn_app (goodIn_of _ (by decide +kernel)) ggX2_againstTurn_X2_hasDeed
set_option maxRecDepth 20000 in
theorem ggX2_againstTurn_X2_lookedWithBy : GoodIn wsX2_againstTurn wsX2_lookedWithBy := goodIn_r _ [31, 22, 23, 24, 4, 25, 14, 32, 33, 34, 38, 39] (by decide +kernel) (by decide +kernel)
set_option maxRecDepth 20000 in
theorem gX2_againstTurn_X2_lookedWithBy : GoodIn wsX2_againstTurn (va_wsS RX2 57 yX2_lookedWithBy wsX2_lookedWithBy) := goodIn_app (goodIn_of _ (by decide +kernel)) ggX2_againstTurn_X2_lookedWithBy
set_option maxRecDepth 20000 in
theorem ggX2_againstTurn_X2_writtenBy : GoodIn wsX2_againstTurn wsX2_writtenBy := goodIn_r _ [37, 22, 23, 24, 4, 25, 14, 38, 39] (by decide +kernel) (by decide +kernel)
set_option maxRecDepth 20000 in
theorem gX2_againstTurn_X2_writtenBy : GoodIn wsX2_againstTurn (va_wsS RX2 61 yX2_writtenBy wsX2_writtenBy) := goodIn_app (goodIn_of _ (by decide +kernel)) ggX2_againstTurn_X2_writtenBy
theorem dX2_againstTurn_0 : decode cX2_againstTurn 0 = .ok (.aload_n 0, 1) := by decide +kernel
theorem dX2_againstTurn_1 : decode cX2_againstTurn 1 = .ok (.iload_n 1, 1) := by decide +kernel
theorem dX2_againstTurn_2 : decode cX2_againstTurn 2 = .ok (.invokevirtual 25, 3) := by decide +kernel
theorem dX2_againstTurn_5 : decode cX2_againstTurn 5 = .ok (.istore_n 2, 1) := by decide +kernel
theorem dX2_againstTurn_6 : decode cX2_againstTurn 6 = .ok (.aload_n 0, 1) := by decide +kernel
theorem dX2_againstTurn_7 : decode cX2_againstTurn 7 = .ok (.iload_n 1, 1) := by decide +kernel
theorem dX2_againstTurn_8 : decode cX2_againstTurn 8 = .ok (.invokestatic 39, 3) := by decide +kernel
theorem dX2_againstTurn_11 : decode cX2_againstTurn 11 = .ok (.ifCond .eq 5, 3) := by decide +kernel
theorem dX2_againstTurn_14 : decode cX2_againstTurn 14 = .ok (.iconst 2, 1) := by decide +kernel
theorem dX2_againstTurn_15 : decode cX2_againstTurn 15 = .ok (.ireturn, 1) := by decide +kernel
theorem dX2_againstTurn_16 : decode cX2_againstTurn 16 = .ok (.aload_n 0, 1) := by decide +kernel
theorem dX2_againstTurn_17 : decode cX2_againstTurn 17 = .ok (.iload_n 1, 1) := by decide +kernel
theorem dX2_againstTurn_18 : decode cX2_againstTurn 18 = .ok (.invokestatic 50, 3) := by decide +kernel
theorem dX2_againstTurn_21 : decode cX2_againstTurn 21 = .ok (.ifCond .eq 6, 3) := by decide +kernel
theorem dX2_againstTurn_24 : decode cX2_againstTurn 24 = .ok (.bipush 9, 2) := by decide +kernel
theorem dX2_againstTurn_26 : decode cX2_againstTurn 26 = .ok (.ireturn, 1) := by decide +kernel
theorem dX2_againstTurn_27 : decode cX2_againstTurn 27 = .ok (.aload_n 0, 1) := by decide +kernel
theorem dX2_againstTurn_28 : decode cX2_againstTurn 28 = .ok (.iload_n 1, 1) := by decide +kernel
theorem dX2_againstTurn_29 : decode cX2_againstTurn 29 = .ok (.iconst 0, 1) := by decide +kernel
theorem dX2_againstTurn_30 : decode cX2_againstTurn 30 = .ok (.iload_n 2, 1) := by decide +kernel
theorem dX2_againstTurn_31 : decode cX2_againstTurn 31 = .ok (.iconst 0, 1) := by decide +kernel
theorem dX2_againstTurn_32 : decode cX2_againstTurn 32 = .ok (.invokestatic 53, 3) := by decide +kernel
theorem dX2_againstTurn_35 : decode cX2_againstTurn 35 = .ok (.ifCond .ne 14, 3) := by decide +kernel
theorem dX2_againstTurn_38 : decode cX2_againstTurn 38 = .ok (.aload_n 0, 1) := by decide +kernel
theorem dX2_againstTurn_39 : decode cX2_againstTurn 39 = .ok (.iload_n 1, 1) := by decide +kernel
theorem dX2_againstTurn_40 : decode cX2_againstTurn 40 = .ok (.iconst 0, 1) := by decide +kernel
theorem dX2_againstTurn_41 : decode cX2_againstTurn 41 = .ok (.iload_n 2, 1) := by decide +kernel
