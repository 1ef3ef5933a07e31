theorem dX0_init_0 : decode cX0_init 0 = .ok (.aload_n 0, 1) := by decide +kernel
theorem dX0_init_1 : decode cX0_init 1 = .ok (.invokespecial 3, 3) := by decide +kernel
theorem dX0_init_4 : decode cX0_init 4 = .ok (.aload_n 0, 1) := by decide +kernel
theorem dX0_init_5 : decode cX0_init 5 = .ok (.bipush 6, 2) := by decide +kernel
theorem dX0_init_7 : decode cX0_init 7 = .ok (.newarray .long, 2) := by decide +kernel
theorem dX0_init_9 : decode cX0_init 9 = .ok (.putfield 9, 3) := by decide +kernel
theorem dX0_init_12 : decode cX0_init 12 = .ok (.aload_n 0, 1) := by decide +kernel
theorem dX0_init_13 : decode cX0_init 13 = .ok (.iconst 0, 1) := by decide +kernel
theorem dX0_init_14 : decode cX0_init 14 = .ok (.putfield 15, 3) := by decide +kernel
theorem dX0_init_17 : decode cX0_init 17 = .ok (.aload_n 0, 1) := by decide +kernel
theorem dX0_init_18 : decode cX0_init 18 = .ok (.iconst 0, 1) := by decide +kernel
theorem dX0_init_19 : decode cX0_init 19 = .ok (.putfield 19, 3) := by decide +kernel
theorem dX0_init_22 : decode cX0_init 22 = .ok (.return_, 1) := by decide +kernel
theorem dX0_begin_0 : decode cX0_begin 0 = .ok (.aload_n 0, 1) := by decide +kernel
theorem dX0_begin_1 : decode cX0_begin 1 = .ok (.iload_n 1, 1) := by decide +kernel
theorem dX0_begin_2 : decode cX0_begin 2 = .ok (.putfield 15, 3) := by decide +kernel
theorem dX0_begin_5 : decode cX0_begin 5 = .ok (.aload_n 0, 1) := by decide +kernel
theorem dX0_begin_6 : decode cX0_begin 6 = .ok (.iload_n 2, 1) := by decide +kernel
theorem dX0_begin_7 : decode cX0_begin 7 = .ok (.iconst 1, 1) := by decide +kernel
theorem dX0_begin_8 : decode cX0_begin 8 = .ok (.isub, 1) := by decide +kernel
theorem dX0_begin_9 : decode cX0_begin 9 = .ok (.putfield 19, 3) := by decide +kernel
theorem dX0_begin_12 : decode cX0_begin 12 = .ok (.iconst 0, 1) := by decide +kernel
theorem dX0_begin_13 : decode cX0_begin 13 = .ok (.istore_n 3, 1) := by decide +kernel
theorem dX0_begin_14 : decode cX0_begin 14 = .ok (.iload_n 3, 1) := by decide +kernel
theorem dX0_begin_15 : decode cX0_begin 15 = .ok (.aload_n 0, 1) := by decide +kernel
theorem dX0_begin_16 : decode cX0_begin 16 = .ok (.getfield 9, 3) := by decide +kernel
theorem dX0_begin_19 : decode cX0_begin 19 = .ok (.arraylength, 1) := by decide +kernel
theorem dX0_begin_20 : decode cX0_begin 20 = .ok (.if_icmp .ge 16, 3) := by decide +kernel
theorem dX0_begin_23 : decode cX0_begin 23 = .ok (.aload_n 0, 1) := by decide +kernel
theorem dX0_begin_24 : decode cX0_begin 24 = .ok (.getfield 9, 3) := by decide +kernel
theorem dX0_begin_27 : decode cX0_begin 27 = .ok (.iload_n 3, 1) := by decide +kernel
theorem dX0_begin_28 : decode cX0_begin 28 = .ok (.lconst 0, 1) := by decide +kernel
theorem dX0_begin_29 : decode cX0_begin 29 = .ok (.lastore, 1) := by decide +kernel
theorem dX0_begin_30 : decode cX0_begin 30 = .ok (.iinc 3 1, 3) := by decide +kernel
theorem dX0_begin_33 : decode cX0_begin 33 = .ok (.goto (-19), 3) := by decide +kernel
theorem dX0_begin_36 : decode cX0_begin 36 = .ok (.return_, 1) := by decide +kernel
theorem dX0_goOn_0 : decode cX0_goOn 0 = .ok (.aload_n 0, 1) := by decide +kernel
theorem dX0_goOn_1 : decode cX0_goOn 1 = .ok (.getfield 15, 3) := by decide +kernel
theorem dX0_goOn_4 : decode cX0_goOn 4 = .ok (.iconst 1, 1) := by decide +kernel
theorem dX0_goOn_5 : decode cX0_goOn 5 = .ok (.isub, 1) := by decide +kernel
theorem dX0_goOn_6 : decode cX0_goOn 6 = .ok (.istore_n 1, 1) := by decide +kernel
theorem dX0_goOn_7 : decode cX0_goOn 7 = .ok (.iload_n 1, 1) := by decide +kernel
theorem dX0_goOn_8 : decode cX0_goOn 8 = .ok (.ifCond .lt 51, 3) := by decide +kernel
theorem dX0_goOn_11 : decode cX0_goOn 11 = .ok (.iload_n 1, 1) := by decide +kernel
theorem dX0_goOn_12 : decode cX0_goOn 12 = .ok (.aload_n 0, 1) := by decide +kernel
theorem dX0_goOn_13 : decode cX0_goOn 13 = .ok (.getfield 9, 3) := by decide +kernel
theorem dX0_goOn_16 : decode cX0_goOn 16 = .ok (.arraylength, 1) := by decide +kernel
theorem dX0_goOn_17 : decode cX0_goOn 17 = .ok (.if_icmp .ge 42, 3) := by decide +kernel
theorem dX0_goOn_20 : decode cX0_goOn 20 = .ok (.aload_n 0, 1) := by decide +kernel
theorem dX0_goOn_21 : decode cX0_goOn 21 = .ok (.getfield 9, 3) := by decide +kernel
theorem dX0_goOn_24 : decode cX0_goOn 24 = .ok (.iload_n 1, 1) := by decide +kernel
theorem dX0_goOn_25 : decode cX0_goOn 25 = .ok (.laload, 1) := by decide +kernel
theorem dX0_goOn_26 : decode cX0_goOn 26 = .ok (.aload_n 0, 1) := by decide +kernel
theorem dX0_goOn_27 : decode cX0_goOn 27 = .ok (.getfield 19, 3) := by decide +kernel
theorem dX0_goOn_30 : decode cX0_goOn 30 = .ok (.i2l, 1) := by decide +kernel
theorem dX0_goOn_31 : decode cX0_goOn 31 = .ok (.lcmp, 1) := by decide +kernel
theorem dX0_goOn_32 : decode cX0_goOn 32 = .ok (.ifCond .ge 14, 3) := by decide +kernel
theorem dX0_goOn_35 : decode cX0_goOn 35 = .ok (.aload_n 0, 1) := by decide +kernel
theorem dX0_goOn_36 : decode cX0_goOn 36 = .ok (.getfield 9, 3) := by decide +kernel
theorem dX0_goOn_39 : decode cX0_goOn 39 = .ok (.iload_n 1, 1) := by decide +kernel
theorem dX0_goOn_40 : decode cX0_goOn 40 = .ok (.dup2, 1) := by decide +kernel
theorem dX0_goOn_41 : decode cX0_goOn 41 = .ok (.laload, 1) := by decide +kernel
theorem dX0_goOn_42 : decode cX0_goOn 42 = .ok (.lconst 1, 1) := by decide +kernel
theorem dX0_goOn_43 : decode cX0_goOn 43 = .ok (.ladd, 1) := by decide +kernel
theorem dX0_goOn_44 : decode cX0_goOn 44 = .ok (.lastore, 1) := by decide +kernel
theorem dX0_goOn_45 : decode cX0_goOn 45 = .ok (.return_, 1) := by decide +kernel
theorem dX0_goOn_46 : decode cX0_goOn 46 = .ok (.aload_n 0, 1) := by decide +kernel
theorem dX0_goOn_47 : decode cX0_goOn 47 = .ok (.getfield 9, 3) := by decide +kernel
theorem dX0_goOn_50 : decode cX0_goOn 50 = .ok (.iload_n 1, 1) := by decide +kernel
theorem dX0_goOn_51 : decode cX0_goOn 51 = .ok (.lconst 0, 1) := by decide +kernel
theorem dX0_goOn_52 : decode cX0_goOn 52 = .ok (.lastore, 1) := by decide +kernel
theorem dX0_goOn_53 : decode cX0_goOn 53 = .ok (.iinc 1 (-1), 3) := by decide +kernel
theorem dX0_goOn_56 : decode cX0_goOn 56 = .ok (.goto (-49), 3) := by decide +kernel
theorem dX0_goOn_59 : decode cX0_goOn 59 = .ok (.return_, 1) := by decide +kernel
theorem dX1_init_0 : decode cX1_init 0 = .ok (.aload_n 0, 1) := by decide +kernel
theorem dX1_init_1 : decode cX1_init 1 = .ok (.invokespecial 3, 3) := by decide +kernel
theorem dX1_init_4 : decode cX1_init 4 = .ok (.aload_n 0, 1) := by decide +kernel
theorem dX1_init_5 : decode cX1_init 5 = .ok (.sipush 224, 3) := by decide +kernel
theorem dX1_init_8 : decode cX1_init 8 = .ok (.newarray .int, 2) := by decide +kernel
theorem dX1_init_10 : decode cX1_init 10 = .ok (.putfield 11, 3) := by decide +kernel
theorem dX1_init_13 : decode cX1_init 13 = .ok (.aload_n 0, 1) := by decide +kernel
theorem dX1_init_14 : decode cX1_init 14 = .ok (.iconst 0, 1) := by decide +kernel
theorem dX1_init_15 : decode cX1_init 15 = .ok (.putfield 15, 3) := by decide +kernel
theorem dX1_init_18 : decode cX1_init 18 = .ok (.return_, 1) := by decide +kernel
theorem dX1_read_0 : decode cX1_read 0 = .ok (.iload_n 1, 1) := by decide +kernel
theorem dX1_read_1 : decode cX1_read 1 = .ok (.ifCond .lt 21, 3) := by decide +kernel
theorem dX1_read_4 : decode cX1_read 4 = .ok (.iload_n 1, 1) := by decide +kernel
theorem dX1_read_5 : decode cX1_read 5 = .ok (.aload_n 0, 1) := by decide +kernel
theorem dX1_read_6 : decode cX1_read 6 = .ok (.getfield 11, 3) := by decide +kernel
theorem dX1_read_9 : decode cX1_read 9 = .ok (.arraylength, 1) := by decide +kernel
theorem dX1_read_10 : decode cX1_read 10 = .ok (.if_icmp .ge 12, 3) := by decide +kernel
theorem dX1_read_13 : decode cX1_read 13 = .ok (.aload_n 0, 1) := by decide +kernel
theorem dX1_read_14 : decode cX1_read 14 = .ok (.getfield 11, 3) := by decide +kernel
theorem dX1_read_17 : decode cX1_read 17 = .ok (.iload_n 1, 1) := by decide +kernel
theorem dX1_read_18 : decode cX1_read 18 = .ok (.iaload, 1) := by decide +kernel
theorem dX1_read_19 : decode cX1_read 19 = .ok (.goto 4, 3) := by decide +kernel
theorem dX1_read_22 : decode cX1_read 22 = .ok (.iconst 0, 1) := by decide +kernel
theorem dX1_read_23 : decode cX1_read 23 = .ok (.ireturn, 1) := by decide +kernel
theorem dX1_write_0 : decode cX1_write 0 = .ok (.iload_n 1, 1) := by decide +kernel
theorem dX1_write_1 : decode cX1_write 1 = .ok (.ifCond .lt 19, 3) := by decide +kernel
theorem dX1_write_4 : decode cX1_write 4 = .ok (.iload_n 1, 1) := by decide +kernel
theorem dX1_write_5 : decode cX1_write 5 = .ok (.aload_n 0, 1) := by decide +kernel
theorem dX1_write_6 : decode cX1_write 6 = .ok (.getfield 11, 3) := by decide +kernel
theorem dX1_write_9 : decode cX1_write 9 = .ok (.arraylength, 1) := by decide +kernel
theorem dX1_write_10 : decode cX1_write 10 = .ok (.if_icmp .ge 10, 3) := by decide +kernel
theorem dX1_write_13 : decode cX1_write 13 = .ok (.aload_n 0, 1) := by decide +kernel
theorem dX1_write_14 : decode cX1_write 14 = .ok (.getfield 11, 3) := by decide +kernel
theorem dX1_write_17 : decode cX1_write 17 = .ok (.iload_n 1, 1) := by decide +kernel
theorem dX1_write_18 : decode cX1_write 18 = .ok (.iload_n 2, 1) := by decide +kernel
theorem dX1_write_19 : decode cX1_write 19 = .ok (.iastore, 1) := by decide +kernel
theorem dX1_write_20 : decode cX1_write 20 = .ok (.return_, 1) := by decide +kernel
theorem dX1_placeOf_0 : decode cX1_placeOf 0 = .ok (.iload_n 0, 1) := by decide +kernel
theorem dX1_placeOf_1 : decode cX1_placeOf 1 = .ok (.bipush 28, 2) := by decide +kernel
theorem dX1_placeOf_3 : decode cX1_placeOf 3 = .ok (.imul, 1) := by decide +kernel
theorem dX1_placeOf_4 : decode cX1_placeOf 4 = .ok (.iconst 4, 1) := by decide +kernel
theorem dX1_placeOf_5 : decode cX1_placeOf 5 = .ok (.iadd, 1) := by decide +kernel
theorem dX1_placeOf_6 : decode cX1_placeOf 6 = .ok (.iload_n 1, 1) := by decide +kernel
theorem dX1_placeOf_7 : decode cX1_placeOf 7 = .ok (.iconst 4, 1) := by decide +kernel
theorem dX1_placeOf_8 : decode cX1_placeOf 8 = .ok (.imul, 1) := by decide +kernel
theorem dX1_placeOf_9 : decode cX1_placeOf 9 = .ok (.iadd, 1) := by decide +kernel
theorem dX1_placeOf_10 : decode cX1_placeOf 10 = .ok (.ireturn, 1) := by decide +kernel
theorem dX1_countLoops_0 : decode cX1_countLoops 0 = .ok (.aload_n 0, 1) := by decide +kernel
theorem dX1_countLoops_1 : decode cX1_countLoops 1 = .ok (.getfield 15, 3) := by decide +kernel
theorem dX1_countLoops_4 : decode cX1_countLoops 4 = .ok (.ireturn, 1) := by decide +kernel
set_option maxRecDepth 20000 in
theorem ggX1_loopFact_X1_read : GoodIn wsX1_loopFact wsX1_read := goodIn_r _ [5, 6, 7, 8] (by decide +kernel) (by decide +kernel)
set_option maxRecDepth 20000 in
theorem gX1_loopFact_X1_read : GoodIn wsX1_loopFact (wsV RX1 19 RX1 yX1_read wsX1_read) := goodIn_app (goodIn_of _ (by decide +kernel)) ggX1_loopFact_X1_read
theorem dX1_loopFact_0 : decode cX1_loopFact 0 = .ok (.aload_n 0, 1) := by decide +kernel
theorem dX1_loopFact_1 : decode cX1_loopFact 1 = .ok (.iload_n 1, 1) := by decide +kernel
theorem dX1_loopFact_2 : decode cX1_loopFact 2 = .ok (.bipush 28, 2) := by decide +kernel
theorem dX1_loopFact_4 : decode cX1_loopFact 4 = .ok (.imul, 1) := by decide +kernel
theorem dX1_loopFact_5 : decode cX1_loopFact 5 = .ok (.iload_n 2, 1) := by decide +kernel
theorem dX1_loopFact_6 : decode cX1_loopFact 6 = .ok (.iadd, 1) := by decide +kernel
theorem dX1_loopFact_7 : decode cX1_loopFact 7 = .ok (.invokevirtual 19, 3) := by decide +kernel
theorem dX1_loopFact_10 : decode cX1_loopFact 10 = .ok (.ireturn, 1) := by decide +kernel
set_option maxRecDepth 20000 in
theorem ggX1_countSteps_X1_loopFact : GoodIn wsX1_countSteps wsX1_loopFact := goodIn_r _ [5, 6, 7, 8, 4, 9, 10, 11, 12] (by decide +kernel) (by decide +kernel)
set_option maxRecDepth 20000 in
theorem gX1_countSteps_X1_loopFact : GoodIn wsX1_countSteps (wsV RX1 23 RX1 yX1_loopFact wsX1_loopFact) := goodIn_app (goodIn_of _ (by decide +kernel)) ggX1_countSteps_X1_loopFact
theorem dX1_countSteps_0 : decode cX1_countSteps 0 = .ok (.aload_n 0, 1) := by decide +kernel
theorem dX1_countSteps_1 : decode cX1_countSteps 1 = .ok (.iload_n 1, 1) := by decide +kernel
theorem dX1_countSteps_2 : decode cX1_countSteps 2 = .ok (.iconst 3, 1) := by decide +kernel
theorem dX1_countSteps_3 : decode cX1_countSteps 3 = .ok (.invokevirtual 23, 3) := by decide +kernel
theorem dX1_countSteps_6 : decode cX1_countSteps 6 = .ok (.ireturn, 1) := by decide +kernel
theorem dX1_stepFact_0 : decode cX1_stepFact 0 = .ok (.iload_n 1, 1) := by decide +kernel
theorem dX1_stepFact_1 : decode cX1_stepFact 1 = .ok (.bipush 28, 2) := by decide +kernel
theorem dX1_stepFact_3 : decode cX1_stepFact 3 = .ok (.imul, 1) := by decide +kernel
theorem dX1_stepFact_4 : decode cX1_stepFact 4 = .ok (.iconst 4, 1) := by decide +kernel
theorem dX1_stepFact_5 : decode cX1_stepFact 5 = .ok (.iadd, 1) := by decide +kernel
theorem dX1_stepFact_6 : decode cX1_stepFact 6 = .ok (.iload_n 2, 1) := by decide +kernel
theorem dX1_stepFact_7 : decode cX1_stepFact 7 = .ok (.iconst 4, 1) := by decide +kernel
theorem dX1_stepFact_8 : decode cX1_stepFact 8 = .ok (.imul, 1) := by decide +kernel
theorem dX1_stepFact_9 : decode cX1_stepFact 9 = .ok (.iadd, 1) := by decide +kernel
theorem dX1_stepFact_10 : decode cX1_stepFact 10 = .ok (.iload_n 3, 1) := by decide +kernel
theorem dX1_stepFact_11 : decode cX1_stepFact 11 = .ok (.iadd, 1) := by decide +kernel
theorem dX1_stepFact_12 : decode cX1_stepFact 12 = .ok (.istore 4, 2) := by decide +kernel
theorem dX1_stepFact_14 : decode cX1_stepFact 14 = .ok (.iload 4, 2) := by decide +kernel
theorem dX1_stepFact_16 : decode cX1_stepFact 16 = .ok (.ifCond .lt 23, 3) := by decide +kernel
theorem dX1_stepFact_19 : decode cX1_stepFact 19 = .ok (.iload 4, 2) := by decide +kernel
theorem dX1_stepFact_21 : decode cX1_stepFact 21 = .ok (.aload_n 0, 1) := by decide +kernel
theorem dX1_stepFact_22 : decode cX1_stepFact 22 = .ok (.getfield 11, 3) := by decide +kernel
theorem dX1_stepFact_25 : decode cX1_stepFact 25 = .ok (.arraylength, 1) := by decide +kernel
theorem dX1_stepFact_26 : decode cX1_stepFact 26 = .ok (.if_icmp .ge 13, 3) := by decide +kernel
theorem dX1_stepFact_29 : decode cX1_stepFact 29 = .ok (.aload_n 0, 1) := by decide +kernel
theorem dX1_stepFact_30 : decode cX1_stepFact 30 = .ok (.getfield 11, 3) := by decide +kernel
theorem dX1_stepFact_33 : decode cX1_stepFact 33 = .ok (.iload 4, 2) := by decide +kernel
theorem dX1_stepFact_35 : decode cX1_stepFact 35 = .ok (.iaload, 1) := by decide +kernel
theorem dX1_stepFact_36 : decode cX1_stepFact 36 = .ok (.goto 4, 3) := by decide +kernel
theorem dX1_stepFact_39 : decode cX1_stepFact 39 = .ok (.iconst 0, 1) := by decide +kernel
theorem dX1_stepFact_40 : decode cX1_stepFact 40 = .ok (.ireturn, 1) := by decide +kernel
set_option maxRecDepth 20000 in
theorem ggX1_setLoopFact_X1_write : GoodIn wsX1_setLoopFact wsX1_write := goodIn_r _ [5, 6, 7, 8] (by decide +kernel) (by decide +kernel)
set_option maxRecDepth 20000 in
theorem gX1_setLoopFact_X1_write : GoodIn wsX1_setLoopFact (wsV RX1 27 RX1 yX1_write wsX1_write) := goodIn_app (goodIn_of _ (by decide +kernel)) ggX1_setLoopFact_X1_write
theorem dX1_setLoopFact_0 : decode cX1_setLoopFact 0 = .ok (.aload_n 0, 1) := by decide +kernel
theorem dX1_setLoopFact_1 : decode cX1_setLoopFact 1 = .ok (.iload_n 1, 1) := by decide +kernel
theorem dX1_setLoopFact_2 : decode cX1_setLoopFact 2 = .ok (.bipush 28, 2) := by decide +kernel
theorem dX1_setLoopFact_4 : decode cX1_setLoopFact 4 = .ok (.imul, 1) := by decide +kernel
theorem dX1_setLoopFact_5 : decode cX1_setLoopFact 5 = .ok (.iload_n 2, 1) := by decide +kernel
theorem dX1_setLoopFact_6 : decode cX1_setLoopFact 6 = .ok (.iadd, 1) := by decide +kernel
theorem dX1_setLoopFact_7 : decode cX1_setLoopFact 7 = .ok (.iload_n 3, 1) := by decide +kernel
theorem dX1_setLoopFact_8 : decode cX1_setLoopFact 8 = .ok (.invokevirtual 27, 3) := by decide +kernel
theorem dX1_setLoopFact_11 : decode cX1_setLoopFact 11 = .ok (.return_, 1) := by decide +kernel
set_option maxRecDepth 20000 in
theorem ggX1_appendLoop_X1_setLoopFact : GoodIn wsX1_appendLoop wsX1_setLoopFact := goodIn_r _ [6, 7, 8, 9, 5, 10, 11, 12, 13] (by decide +kernel) (by decide +kernel)
set_option maxRecDepth 20000 in
theorem gX1_appendLoop_X1_setLoopFact : GoodIn wsX1_appendLoop (wsV RX1 31 RX1 yX1_setLoopFact wsX1_setLoopFact) := goodIn_app (goodIn_of _ (by decide +kernel)) ggX1_appendLoop_X1_setLoopFact
theorem dX1_appendLoop_0 : decode cX1_appendLoop 0 = .ok (.aload_n 0, 1) := by decide +kernel
theorem dX1_appendLoop_1 : decode cX1_appendLoop 1 = .ok (.getfield 15, 3) := by decide +kernel
theorem dX1_appendLoop_4 : decode cX1_appendLoop 4 = .ok (.istore 4, 2) := by decide +kernel
theorem dX1_appendLoop_6 : decode cX1_appendLoop 6 = .ok (.aload_n 0, 1) := by decide +kernel
theorem dX1_appendLoop_7 : decode cX1_appendLoop 7 = .ok (.iload 4, 2) := by decide +kernel
theorem dX1_appendLoop_9 : decode cX1_appendLoop 9 = .ok (.iconst 0, 1) := by decide +kernel
theorem dX1_appendLoop_10 : decode cX1_appendLoop 10 = .ok (.iload_n 1, 1) := by decide +kernel
theorem dX1_appendLoop_11 : decode cX1_appendLoop 11 = .ok (.invokevirtual 31, 3) := by decide +kernel
theorem dX1_appendLoop_14 : decode cX1_appendLoop 14 = .ok (.aload_n 0, 1) := by decide +kernel
theorem dX1_appendLoop_15 : decode cX1_appendLoop 15 = .ok (.iload 4, 2) := by decide +kernel
theorem dX1_appendLoop_17 : decode cX1_appendLoop 17 = .ok (.iconst 1, 1) := by decide +kernel
theorem dX1_appendLoop_18 : decode cX1_appendLoop 18 = .ok (.iload_n 2, 1) := by decide +kernel
theorem dX1_appendLoop_19 : decode cX1_appendLoop 19 = .ok (.invokevirtual 31, 3) := by decide +kernel
theorem dX1_appendLoop_22 : decode cX1_appendLoop 22 = .ok (.aload_n 0, 1) := by decide +kernel
theorem dX1_appendLoop_23 : decode cX1_appendLoop 23 = .ok (.iload 4, 2) := by decide +kernel
theorem dX1_appendLoop_25 : decode cX1_appendLoop 25 = .ok (.iconst 2, 1) := by decide +kernel
theorem dX1_appendLoop_26 : decode cX1_appendLoop 26 = .ok (.iload_n 3, 1) := by decide +kernel
theorem dX1_appendLoop_27 : decode cX1_appendLoop 27 = .ok (.ifCond .eq 7, 3) := by decide +kernel
theorem dX1_appendLoop_30 : decode cX1_appendLoop 30 = .ok (.iconst 1, 1) := by decide +kernel
theorem dX1_appendLoop_31 : decode cX1_appendLoop 31 = .ok (.goto 4, 3) := by decide +kernel
theorem dX1_appendLoop_34 : decode cX1_appendLoop 34 = .ok (.iconst 0, 1) := by decide +kernel
theorem dX1_appendLoop_35 : decode cX1_appendLoop 35 = .ok (.invokevirtual 31, 3) := by decide +kernel
theorem dX1_appendLoop_38 : decode cX1_appendLoop 38 = .ok (.aload_n 0, 1) := by decide +kernel
theorem dX1_appendLoop_39 : decode cX1_appendLoop 39 = .ok (.iload 4, 2) := by decide +kernel
theorem dX1_appendLoop_41 : decode cX1_appendLoop 41 = .ok (.iconst 3, 1) := by decide +kernel
theorem dX1_appendLoop_42 : decode cX1_appendLoop 42 = .ok (.iconst 0, 1) := by decide +kernel
theorem dX1_appendLoop_43 : decode cX1_appendLoop 43 = .ok (.invokevirtual 31, 3) := by decide +kernel
theorem dX1_appendLoop_46 : decode cX1_appendLoop 46 = .ok (.aload_n 0, 1) := by decide +kernel
theorem dX1_appendLoop_47 : decode cX1_appendLoop 47 = .ok (.iload 4, 2) := by decide +kernel
theorem dX1_appendLoop_49 : decode cX1_appendLoop 49 = .ok (.iconst 1, 1) := by decide +kernel
theorem dX1_appendLoop_50 : decode cX1_appendLoop 50 = .ok (.iadd, 1) := by decide +kernel
theorem dX1_appendLoop_51 : decode cX1_appendLoop 51 = .ok (.putfield 15, 3) := by decide +kernel
theorem dX1_appendLoop_54 : decode cX1_appendLoop 54 = .ok (.iload 4, 2) := by decide +kernel
theorem dX1_appendLoop_56 : decode cX1_appendLoop 56 = .ok (.ireturn, 1) := by decide +kernel
set_option maxRecDepth 20000 in
theorem ggX1_appendStep_X1_countSteps : GoodIn wsX1_appendStep wsX1_countSteps := goodIn_r _ [5, 6, 7, 8, 4, 9, 10, 11, 12, 13, 14, 26, 27] (by decide +kernel) (by decide +kernel)
set_option maxRecDepth 20000 in
theorem gX1_appendStep_X1_countSteps : GoodIn wsX1_appendStep (wsV RX1 35 RX1 yX1_countSteps wsX1_countSteps) := goodIn_app (goodIn_of _ (by decide +kernel)) ggX1_appendStep_X1_countSteps
set_option maxRecDepth 20000 in
theorem ggX1_appendStep_X1_placeOf : GoodIn wsX1_appendStep wsX1_placeOf := goodIn_r _ [17] (by decide +kernel) (by decide +kernel)
set_option maxRecDepth 20000 in
theorem gX1_appendStep_X1_placeOf : GoodIn wsX1_appendStep (va_wsS RX1 38 yX1_placeOf wsX1_placeOf) := goodIn_app (goodIn_of _ (by decide +kernel)) ggX1_appendStep_X1_placeOf
set_option maxRecDepth 20000 in
theorem ggX1_appendStep_X1_write : GoodIn wsX1_appendStep wsX1_write := goodIn_r _ [21, 14, 26, 27] (by decide +kernel) (by decide +kernel)
set_option maxRecDepth 20000 in
theorem gX1_appendStep_X1_write : GoodIn wsX1_appendStep (wsV RX1 27 RX1 yX1_write wsX1_write) := goodIn_app (goodIn_of _ (by decide +kernel)) ggX1_appendStep_X1_write
set_option maxRecDepth 20000 in
theorem ggX1_appendStep_X1_setLoopFact : GoodIn wsX1_appendStep wsX1_setLoopFact := goodIn_r _ [25, 18, 19, 20, 4, 21, 14, 26, 27] (by decide +kernel) (by decide +kernel)
set_option maxRecDepth 20000 in
theorem gX1_appendStep_X1_setLoopFact : GoodIn wsX1_appendStep (wsV RX1 31 RX1 yX1_setLoopFact wsX1_setLoopFact) := goodIn_app (goodIn_of _ (by decide +kernel)) ggX1_appendStep_X1_setLoopFact
theorem dX1_appendStep_0 : decode cX1_appendStep 0 = .ok (.aload_n 0, 1) := by decide +kernel
theorem dX1_appendStep_1 : decode cX1_appendStep 1 = .ok (.iload_n 1, 1) := by decide +kernel
theorem dX1_appendStep_2 : decode cX1_appendStep 2 = .ok (.invokevirtual 35, 3) := by decide +kernel
theorem dX1_appendStep_5 : decode cX1_appendStep 5 = .ok (.istore 6, 2) := by decide +kernel
theorem dX1_appendStep_7 : decode cX1_appendStep 7 = .ok (.iload_n 1, 1) := by decide +kernel
theorem dX1_appendStep_8 : decode cX1_appendStep 8 = .ok (.iload 6, 2) := by decide +kernel
theorem dX1_appendStep_10 : decode cX1_appendStep 10 = .ok (.invokestatic 38, 3) := by decide +kernel
theorem dX1_appendStep_13 : decode cX1_appendStep 13 = .ok (.istore 7, 2) := by decide +kernel
theorem dX1_appendStep_15 : decode cX1_appendStep 15 = .ok (.aload_n 0, 1) := by decide +kernel
theorem dX1_appendStep_16 : decode cX1_appendStep 16 = .ok (.iload 7, 2) := by decide +kernel
theorem dX1_appendStep_18 : decode cX1_appendStep 18 = .ok (.iconst 0, 1) := by decide +kernel
theorem dX1_appendStep_19 : decode cX1_appendStep 19 = .ok (.iadd, 1) := by decide +kernel
theorem dX1_appendStep_20 : decode cX1_appendStep 20 = .ok (.iload_n 2, 1) := by decide +kernel
theorem dX1_appendStep_21 : decode cX1_appendStep 21 = .ok (.invokevirtual 27, 3) := by decide +kernel
theorem dX1_appendStep_24 : decode cX1_appendStep 24 = .ok (.aload_n 0, 1) := by decide +kernel
theorem dX1_appendStep_25 : decode cX1_appendStep 25 = .ok (.iload 7, 2) := by decide +kernel
theorem dX1_appendStep_27 : decode cX1_appendStep 27 = .ok (.iconst 1, 1) := by decide +kernel
theorem dX1_appendStep_28 : decode cX1_appendStep 28 = .ok (.iadd, 1) := by decide +kernel
theorem dX1_appendStep_29 : decode cX1_appendStep 29 = .ok (.iload_n 3, 1) := by decide +kernel
theorem dX1_appendStep_30 : decode cX1_appendStep 30 = .ok (.invokevirtual 27, 3) := by decide +kernel
theorem dX1_appendStep_33 : decode cX1_appendStep 33 = .ok (.aload_n 0, 1) := by decide +kernel
theorem dX1_appendStep_34 : decode cX1_appendStep 34 = .ok (.iload 7, 2) := by decide +kernel
theorem dX1_appendStep_36 : decode cX1_appendStep 36 = .ok (.iconst 2, 1) := by decide +kernel
theorem dX1_appendStep_37 : decode cX1_appendStep 37 = .ok (.iadd, 1) := by decide +kernel
theorem dX1_appendStep_38 : decode cX1_appendStep 38 = .ok (.iload 4, 2) := by decide +kernel
theorem dX1_appendStep_40 : decode cX1_appendStep 40 = .ok (.invokevirtual 27, 3) := by decide +kernel
theorem dX1_appendStep_43 : decode cX1_appendStep 43 = .ok (.aload_n 0, 1) := by decide +kernel
theorem dX1_appendStep_44 : decode cX1_appendStep 44 = .ok (.iload 7, 2) := by decide +kernel
theorem dX1_appendStep_46 : decode cX1_appendStep 46 = .ok (.iconst 3, 1) := by decide +kernel
theorem dX1_appendStep_47 : decode cX1_appendStep 47 = .ok (.iadd, 1) := by decide +kernel
theorem dX1_appendStep_48 : decode cX1_appendStep 48 = .ok (.iload 5, 2) := by decide +kernel
theorem dX1_appendStep_50 : decode cX1_appendStep 50 = .ok (.invokevirtual 27, 3) := by decide +kernel
theorem dX1_appendStep_53 : decode cX1_appendStep 53 = .ok (.aload_n 0, 1) := by decide +kernel
theorem dX1_appendStep_54 : decode cX1_appendStep 54 = .ok (.iload_n 1, 1) := by decide +kernel
theorem dX1_appendStep_55 : decode cX1_appendStep 55 = .ok (.iconst 3, 1) := by decide +kernel
theorem dX1_appendStep_56 : decode cX1_appendStep 56 = .ok (.iload 6, 2) := by decide +kernel
theorem dX1_appendStep_58 : decode cX1_appendStep 58 = .ok (.iconst 1, 1) := by decide +kernel
theorem dX1_appendStep_59 : decode cX1_appendStep 59 = .ok (.iadd, 1) := by decide +kernel
theorem dX1_appendStep_60 : decode cX1_appendStep 60 = .ok (.invokevirtual 31, 3) := by decide +kernel
theorem dX1_appendStep_63 : decode cX1_appendStep 63 = .ok (.iload 6, 2) := by decide +kernel
theorem dX1_appendStep_65 : decode cX1_appendStep 65 = .ok (.ireturn, 1) := by decide +kernel
set_option maxRecDepth 20000 in
theorem ggX1_becomeLike_X1_read : GoodIn wsX1_becomeLike wsX1_read := goodIn_r _ [7, 1, 8, 9] (by decide +kernel) (by decide +kernel)
set_option maxRecDepth 20000 in
theorem gX1_becomeLike_X1_read : GoodIn wsX1_becomeLike (wsV RX1 19 RX1 yX1_read wsX1_read) := goodIn_app (goodIn_of _ (by decide +kernel)) ggX1_becomeLike_X1_read
theorem dX1_becomeLike_0 : decode cX1_becomeLike 0 = .ok (.iconst 0, 1) := by decide +kernel
theorem dX1_becomeLike_1 : decode cX1_becomeLike 1 = .ok (.istore_n 2, 1) := by decide +kernel
theorem dX1_becomeLike_2 : decode cX1_becomeLike 2 = .ok (.iload_n 2, 1) := by decide +kernel
theorem dX1_becomeLike_3 : decode cX1_becomeLike 3 = .ok (.aload_n 0, 1) := by decide +kernel
theorem dX1_becomeLike_4 : decode cX1_becomeLike 4 = .ok (.getfield 11, 3) := by decide +kernel
theorem dX1_becomeLike_7 : decode cX1_becomeLike 7 = .ok (.arraylength, 1) := by decide +kernel
theorem dX1_becomeLike_8 : decode cX1_becomeLike 8 = .ok (.if_icmp .ge 20, 3) := by decide +kernel
theorem dX1_becomeLike_11 : decode cX1_becomeLike 11 = .ok (.aload_n 0, 1) := by decide +kernel
theorem dX1_becomeLike_12 : decode cX1_becomeLike 12 = .ok (.getfield 11, 3) := by decide +kernel
theorem dX1_becomeLike_15 : decode cX1_becomeLike 15 = .ok (.iload_n 2, 1) := by decide +kernel
theorem dX1_becomeLike_16 : decode cX1_becomeLike 16 = .ok (.aload_n 1, 1) := by decide +kernel
theorem dX1_becomeLike_17 : decode cX1_becomeLike 17 = .ok (.iload_n 2, 1) := by decide +kernel
theorem dX1_becomeLike_18 : decode cX1_becomeLike 18 = .ok (.invokevirtual 19, 3) := by decide +kernel
theorem dX1_becomeLike_21 : decode cX1_becomeLike 21 = .ok (.iastore, 1) := by decide +kernel
theorem dX1_becomeLike_22 : decode cX1_becomeLike 22 = .ok (.iinc 2 1, 3) := by decide +kernel
theorem dX1_becomeLike_25 : decode cX1_becomeLike 25 = .ok (.goto (-23), 3) := by decide +kernel
theorem dX1_becomeLike_28 : decode cX1_becomeLike 28 = .ok (.aload_n 0, 1) := by decide +kernel
theorem dX1_becomeLike_29 : decode cX1_becomeLike 29 = .ok (.aload_n 1, 1) := by decide +kernel
theorem dX1_becomeLike_30 : decode cX1_becomeLike 30 = .ok (.getfield 15, 3) := by decide +kernel
theorem dX1_becomeLike_33 : decode cX1_becomeLike 33 = .ok (.putfield 15, 3) := by decide +kernel
theorem dX1_becomeLike_36 : decode cX1_becomeLike 36 = .ok (.return_, 1) := by decide +kernel
set_option maxRecDepth 20000 in
theorem ggX1_makeChange_X1_joinWithNext : GoodIn wsX1_makeChange wsX1_joinWithNext := goodIn_r _ [5, 6, 7, 8, 4, 9, 10, 11, 12, 13, 14, 15, 16, 17, 18, 19, 20, 21, 22, 23, 24, 25, 26, 27, 28, 29, 30, 31, 32, 33, 34, 35, 36, 37, 38, 67, 68] (by decide +kernel) (by decide +kernel)
set_option maxRecDepth 20000 in
theorem gX1_makeChange_X1_joinWithNext : GoodIn wsX1_makeChange (wsV RX1 41 RX1 yX1_joinWithNext wsX1_joinWithNext) := goodIn_app (goodIn_of _ (by decide +kernel)) ggX1_makeChange_X1_joinWithNext
set_option maxRecDepth 20000 in
theorem ggX1_makeChange_X1_divideAt : GoodIn wsX1_makeChange wsX1_divideAt := goodIn_r _ [42, 6, 7, 8, 4, 9, 10, 11, 12, 13, 14, 15, 16, 17, 18, 43, 44, 45, 46, 38, 26, 27, 28, 29, 30, 31, 32, 33, 19, 20, 21, 22, 23, 24, 25, 67, 68] (by decide +kernel) (by decide +kernel)
set_option maxRecDepth 20000 in
theorem gX1_makeChange_X1_divideAt : GoodIn wsX1_makeChange (wsV RX1 45 RX1 yX1_divideAt wsX1_divideAt) := goodIn_app (goodIn_of _ (by decide +kernel)) ggX1_makeChange_X1_divideAt
set_option maxRecDepth 20000 in
theorem ggX1_makeChange_X1_peelFirstPlace : GoodIn wsX1_makeChange wsX1_peelFirstPlace := goodIn_r _ [50, 10, 11, 12, 4, 13, 14, 15, 16, 17, 18, 43, 44, 45, 46, 38, 26, 27, 28, 29, 30, 31, 32, 33, 67, 68] (by decide +kernel) (by decide +kernel)
set_option maxRecDepth 20000 in
theorem gX1_makeChange_X1_peelFirstPlace : GoodIn wsX1_makeChange (wsV RX1 48 RX1 yX1_peelFirstPlace wsX1_peelFirstPlace) := goodIn_app (goodIn_of _ (by decide +kernel)) ggX1_makeChange_X1_peelFirstPlace
set_option maxRecDepth 20000 in
theorem ggX1_makeChange_X1_loopFact : GoodIn wsX1_makeChange wsX1_loopFact := goodIn_r _ [13, 14, 15, 16, 4, 17, 18, 67, 68] (by decide +kernel) (by decide +kernel)
set_option maxRecDepth 20000 in
theorem gX1_makeChange_X1_loopFact : GoodIn wsX1_makeChange (wsV RX1 23 RX1 yX1_loopFact wsX1_loopFact) := goodIn_app (goodIn_of _ (by decide +kernel)) ggX1_makeChange_X1_loopFact
set_option maxRecDepth 20000 in
theorem ggX1_makeChange_X1_setLoopFact : GoodIn wsX1_makeChange wsX1_setLoopFact := goodIn_r _ [33, 26, 27, 28, 4, 29, 18, 67, 68] (by decide +kernel) (by decide +kernel)
set_option maxRecDepth 20000 in
theorem gX1_makeChange_X1_setLoopFact : GoodIn wsX1_makeChange (wsV RX1 31 RX1 yX1_setLoopFact wsX1_setLoopFact) := goodIn_app (goodIn_of _ (by decide +kernel)) ggX1_makeChange_X1_setLoopFact
set_option maxRecDepth 20000 in
theorem ggX1_makeChange_X1_swapWithNext : GoodIn wsX1_makeChange wsX1_swapWithNext := goodIn_r _ [54, 14, 15, 16, 4, 17, 18, 26, 27, 28, 29, 67, 68] (by decide +kernel) (by decide +kernel)
set_option maxRecDepth 20000 in
theorem gX1_makeChange_X1_swapWithNext : GoodIn wsX1_makeChange (wsV RX1 51 RX1 yX1_swapWithNext wsX1_swapWithNext) := goodIn_app (goodIn_of _ (by decide +kernel)) ggX1_makeChange_X1_swapWithNext
set_option maxRecDepth 20000 in
theorem ggX1_makeChange_X1_stripAll : GoodIn wsX1_makeChange wsX1_stripAll := goodIn_r _ [58, 38, 59, 60, 61, 4, 62, 6, 7, 8, 9, 10, 11, 12, 13, 14, 15, 16, 17, 18, 63, 64, 65, 66, 30, 31, 32, 33, 26, 27, 28, 29, 34, 35, 36, 37, 67, 68] (by decide +kernel) (by decide +kernel)
set_option maxRecDepth 20000 in
theorem gX1_makeChange_X1_stripAll : GoodIn wsX1_makeChange (wsV RX1 54 RX1 yX1_stripAll wsX1_stripAll) := goodIn_app (goodIn_of _ (by decide +kernel)) ggX1_makeChange_X1_stripAll
theorem dX1_makeChange_0 : decode cX1_makeChange 0 = .ok (.iload_n 1, 1) := by decide +kernel
theorem dX1_makeChange_1 : decode cX1_makeChange 1 = .ok (.tableswitch 86 0 4 #[35, 43, 52, 61, 78], 35) := by decide +kernel
theorem dX1_makeChange_36 : decode cX1_makeChange 36 = .ok (.aload_n 0, 1) := by decide +kernel
theorem dX1_makeChange_37 : decode cX1_makeChange 37 = .ok (.iload_n 2, 1) := by decide +kernel
theorem dX1_makeChange_38 : decode cX1_makeChange 38 = .ok (.invokevirtual 41, 3) := by decide +kernel
theorem dX1_makeChange_41 : decode cX1_makeChange 41 = .ok (.goto 50, 3) := by decide +kernel
theorem dX1_makeChange_44 : decode cX1_makeChange 44 = .ok (.aload_n 0, 1) := by decide +kernel
theorem dX1_makeChange_45 : decode cX1_makeChange 45 = .ok (.iload_n 2, 1) := by decide +kernel
theorem dX1_makeChange_46 : decode cX1_makeChange 46 = .ok (.iload_n 3, 1) := by decide +kernel
theorem dX1_makeChange_47 : decode cX1_makeChange 47 = .ok (.invokevirtual 45, 3) := by decide +kernel
theorem dX1_makeChange_50 : decode cX1_makeChange 50 = .ok (.goto 41, 3) := by decide +kernel
theorem dX1_makeChange_53 : decode cX1_makeChange 53 = .ok (.aload_n 0, 1) := by decide +kernel
theorem dX1_makeChange_54 : decode cX1_makeChange 54 = .ok (.iload_n 2, 1) := by decide +kernel
theorem dX1_makeChange_55 : decode cX1_makeChange 55 = .ok (.iload_n 3, 1) := by decide +kernel
theorem dX1_makeChange_56 : decode cX1_makeChange 56 = .ok (.invokevirtual 48, 3) := by decide +kernel
theorem dX1_makeChange_59 : decode cX1_makeChange 59 = .ok (.goto 32, 3) := by decide +kernel
theorem dX1_makeChange_62 : decode cX1_makeChange 62 = .ok (.aload_n 0, 1) := by decide +kernel
theorem dX1_makeChange_63 : decode cX1_makeChange 63 = .ok (.iload_n 2, 1) := by decide +kernel
theorem dX1_makeChange_64 : decode cX1_makeChange 64 = .ok (.iconst 2, 1) := by decide +kernel
theorem dX1_makeChange_65 : decode cX1_makeChange 65 = .ok (.iconst 1, 1) := by decide +kernel
theorem dX1_makeChange_66 : decode cX1_makeChange 66 = .ok (.aload_n 0, 1) := by decide +kernel
theorem dX1_makeChange_67 : decode cX1_makeChange 67 = .ok (.iload_n 2, 1) := by decide +kernel
theorem dX1_makeChange_68 : decode cX1_makeChange 68 = .ok (.iconst 2, 1) := by decide +kernel
theorem dX1_makeChange_69 : decode cX1_makeChange 69 = .ok (.invokevirtual 23, 3) := by decide +kernel
theorem dX1_makeChange_72 : decode cX1_makeChange 72 = .ok (.isub, 1) := by decide +kernel
theorem dX1_makeChange_73 : decode cX1_makeChange 73 = .ok (.invokevirtual 31, 3) := by decide +kernel
theorem dX1_makeChange_76 : decode cX1_makeChange 76 = .ok (.goto 15, 3) := by decide +kernel
theorem dX1_makeChange_79 : decode cX1_makeChange 79 = .ok (.aload_n 0, 1) := by decide +kernel
theorem dX1_makeChange_80 : decode cX1_makeChange 80 = .ok (.iload_n 2, 1) := by decide +kernel
theorem dX1_makeChange_81 : decode cX1_makeChange 81 = .ok (.invokevirtual 51, 3) := by decide +kernel
theorem dX1_makeChange_84 : decode cX1_makeChange 84 = .ok (.goto 7, 3) := by decide +kernel
theorem dX1_makeChange_87 : decode cX1_makeChange 87 = .ok (.aload_n 0, 1) := by decide +kernel
theorem dX1_makeChange_88 : decode cX1_makeChange 88 = .ok (.invokevirtual 54, 3) := by decide +kernel
theorem dX1_makeChange_91 : decode cX1_makeChange 91 = .ok (.return_, 1) := by decide +kernel
set_option maxRecDepth 20000 in
theorem ggX1_joinWithNext_X1_countSteps : GoodIn wsX1_joinWithNext wsX1_countSteps := goodIn_r _ [5, 6, 7, 8, 4, 9, 10, 11, 12, 13, 14, 35, 36] (by decide +kernel) (by decide +kernel)
set_option maxRecDepth 20000 in
theorem gX1_joinWithNext_X1_countSteps : GoodIn wsX1_joinWithNext (wsV RX1 35 RX1 yX1_countSteps wsX1_countSteps) := goodIn_app (goodIn_of _ (by decide +kernel)) ggX1_joinWithNext_X1_countSteps
set_option maxRecDepth 20000 in
theorem ggX1_joinWithNext_X1_copyStep : GoodIn wsX1_joinWithNext wsX1_copyStep := goodIn_r _ [18, 19, 20, 4, 21, 10, 11, 12, 13, 14, 22, 23, 24, 25, 35, 36] (by decide +kernel) (by decide +kernel)
set_option maxRecDepth 20000 in
theorem gX1_joinWithNext_X1_copyStep : GoodIn wsX1_joinWithNext (wsV RX1 57 RX1 yX1_copyStep wsX1_copyStep) := goodIn_app (goodIn_of _ (by decide +kernel)) ggX1_joinWithNext_X1_copyStep
set_option maxRecDepth 20000 in
theorem ggX1_joinWithNext_X1_setLoopFact : GoodIn wsX1_joinWithNext wsX1_setLoopFact := goodIn_r _ [29, 22, 23, 24, 4, 25, 14, 35, 36] (by decide +kernel) (by decide +kernel)
set_option maxRecDepth 20000 in
theorem gX1_joinWithNext_X1_setLoopFact : GoodIn wsX1_joinWithNext (wsV RX1 31 RX1 yX1_setLoopFact wsX1_setLoopFact) := goodIn_app (goodIn_of _ (by decide +kernel)) ggX1_joinWithNext_X1_setLoopFact
set_option maxRecDepth 20000 in
theorem ggX1_joinWithNext_X1_removeLoop : GoodIn wsX1_joinWithNext wsX1_removeLoop := goodIn_r _ [33, 34, 10, 11, 12, 4, 13, 14, 22, 23, 24, 25, 35, 36] (by decide +kernel) (by decide +kernel)
set_option maxRecDepth 20000 in
theorem gX1_joinWithNext_X1_removeLoop : GoodIn wsX1_joinWithNext (wsV RX1 61 RX1 yX1_removeLoop wsX1_removeLoop) := goodIn_app (goodIn_of _ (by decide +kernel)) ggX1_joinWithNext_X1_removeLoop
theorem dX1_joinWithNext_0 : decode cX1_joinWithNext 0 = .ok (.aload_n 0, 1) := by decide +kernel
theorem dX1_joinWithNext_1 : decode cX1_joinWithNext 1 = .ok (.iload_n 1, 1) := by decide +kernel
theorem dX1_joinWithNext_2 : decode cX1_joinWithNext 2 = .ok (.invokevirtual 35, 3) := by decide +kernel
theorem dX1_joinWithNext_5 : decode cX1_joinWithNext 5 = .ok (.istore_n 2, 1) := by decide +kernel
theorem dX1_joinWithNext_6 : decode cX1_joinWithNext 6 = .ok (.aload_n 0, 1) := by decide +kernel
theorem dX1_joinWithNext_7 : decode cX1_joinWithNext 7 = .ok (.iload_n 1, 1) := by decide +kernel
theorem dX1_joinWithNext_8 : decode cX1_joinWithNext 8 = .ok (.iconst 1, 1) := by decide +kernel
theorem dX1_joinWithNext_9 : decode cX1_joinWithNext 9 = .ok (.iadd, 1) := by decide +kernel
theorem dX1_joinWithNext_10 : decode cX1_joinWithNext 10 = .ok (.invokevirtual 35, 3) := by decide +kernel
theorem dX1_joinWithNext_13 : decode cX1_joinWithNext 13 = .ok (.istore_n 3, 1) := by decide +kernel
theorem dX1_joinWithNext_14 : decode cX1_joinWithNext 14 = .ok (.iconst 0, 1) := by decide +kernel
theorem dX1_joinWithNext_15 : decode cX1_joinWithNext 15 = .ok (.istore 4, 2) := by decide +kernel
theorem dX1_joinWithNext_17 : decode cX1_joinWithNext 17 = .ok (.iload 4, 2) := by decide +kernel
theorem dX1_joinWithNext_19 : decode cX1_joinWithNext 19 = .ok (.iload_n 3, 1) := by decide +kernel
theorem dX1_joinWithNext_20 : decode cX1_joinWithNext 20 = .ok (.if_icmp .ge 23, 3) := by decide +kernel
theorem dX1_joinWithNext_23 : decode cX1_joinWithNext 23 = .ok (.aload_n 0, 1) := by decide +kernel
theorem dX1_joinWithNext_24 : decode cX1_joinWithNext 24 = .ok (.iload_n 1, 1) := by decide +kernel
theorem dX1_joinWithNext_25 : decode cX1_joinWithNext 25 = .ok (.iconst 1, 1) := by decide +kernel
theorem dX1_joinWithNext_26 : decode cX1_joinWithNext 26 = .ok (.iadd, 1) := by decide +kernel
theorem dX1_joinWithNext_27 : decode cX1_joinWithNext 27 = .ok (.iload 4, 2) := by decide +kernel
theorem dX1_joinWithNext_29 : decode cX1_joinWithNext 29 = .ok (.iload_n 1, 1) := by decide +kernel
theorem dX1_joinWithNext_30 : decode cX1_joinWithNext 30 = .ok (.iload_n 2, 1) := by decide +kernel
theorem dX1_joinWithNext_31 : decode cX1_joinWithNext 31 = .ok (.iload 4, 2) := by decide +kernel
theorem dX1_joinWithNext_33 : decode cX1_joinWithNext 33 = .ok (.iadd, 1) := by decide +kernel
theorem dX1_joinWithNext_34 : decode cX1_joinWithNext 34 = .ok (.invokevirtual 57, 3) := by decide +kernel
theorem dX1_joinWithNext_37 : decode cX1_joinWithNext 37 = .ok (.iinc 4 1, 3) := by decide +kernel
theorem dX1_joinWithNext_40 : decode cX1_joinWithNext 40 = .ok (.goto (-23), 3) := by decide +kernel
theorem dX1_joinWithNext_43 : decode cX1_joinWithNext 43 = .ok (.aload_n 0, 1) := by decide +kernel
theorem dX1_joinWithNext_44 : decode cX1_joinWithNext 44 = .ok (.iload_n 1, 1) := by decide +kernel
theorem dX1_joinWithNext_45 : decode cX1_joinWithNext 45 = .ok (.iconst 3, 1) := by decide +kernel
theorem dX1_joinWithNext_46 : decode cX1_joinWithNext 46 = .ok (.iload_n 2, 1) := by decide +kernel
theorem dX1_joinWithNext_47 : decode cX1_joinWithNext 47 = .ok (.iload_n 3, 1) := by decide +kernel
theorem dX1_joinWithNext_48 : decode cX1_joinWithNext 48 = .ok (.iadd, 1) := by decide +kernel
theorem dX1_joinWithNext_49 : decode cX1_joinWithNext 49 = .ok (.invokevirtual 31, 3) := by decide +kernel
theorem dX1_joinWithNext_52 : decode cX1_joinWithNext 52 = .ok (.aload_n 0, 1) := by decide +kernel
theorem dX1_joinWithNext_53 : decode cX1_joinWithNext 53 = .ok (.iload_n 1, 1) := by decide +kernel
theorem dX1_joinWithNext_54 : decode cX1_joinWithNext 54 = .ok (.iconst 1, 1) := by decide +kernel
theorem dX1_joinWithNext_55 : decode cX1_joinWithNext 55 = .ok (.iadd, 1) := by decide +kernel
theorem dX1_joinWithNext_56 : decode cX1_joinWithNext 56 = .ok (.invokevirtual 61, 3) := by decide +kernel
theorem dX1_joinWithNext_59 : decode cX1_joinWithNext 59 = .ok (.return_, 1) := by decide +kernel
set_option maxRecDepth 20000 in
theorem ggX1_divideAt_X1_countSteps : GoodIn wsX1_divideAt wsX1_countSteps := goodIn_r _ [5, 6, 7, 8, 4, 9, 10, 11, 12, 13, 14, 35, 36] (by decide +kernel) (by decide +kernel)
set_option maxRecDepth 20000 in
theorem gX1_divideAt_X1_countSteps : GoodIn wsX1_divideAt (wsV RX1 35 RX1 yX1_countSteps wsX1_countSteps) := goodIn_app (goodIn_of _ (by decide +kernel)) ggX1_divideAt_X1_countSteps
set_option maxRecDepth 20000 in
theorem ggX1_divideAt_X1_repeatLoop : GoodIn wsX1_divideAt wsX1_repeatLoop := goodIn_r _ [18, 19, 10, 11, 12, 4, 13, 14, 20, 21, 22, 23, 35, 36] (by decide +kernel) (by decide +kernel)
set_option maxRecDepth 20000 in
theorem gX1_divideAt_X1_repeatLoop : GoodIn wsX1_divideAt (wsV RX1 64 RX1 yX1_repeatLoop wsX1_repeatLoop) := goodIn_app (goodIn_of _ (by decide +kernel)) ggX1_divideAt_X1_repeatLoop
set_option maxRecDepth 20000 in
theorem ggX1_divideAt_X1_setLoopFact : GoodIn wsX1_divideAt wsX1_setLoopFact := goodIn_r _ [27, 20, 21, 22, 4, 23, 14, 35, 36] (by decide +kernel) (by decide +kernel)
set_option maxRecDepth 20000 in
theorem gX1_divideAt_X1_setLoopFact : GoodIn wsX1_divideAt (wsV RX1 31 RX1 yX1_setLoopFact wsX1_setLoopFact) := goodIn_app (goodIn_of _ (by decide +kernel)) ggX1_divideAt_X1_setLoopFact
set_option maxRecDepth 20000 in
theorem ggX1_divideAt_X1_copyStep : GoodIn wsX1_divideAt wsX1_copyStep := goodIn_r _ [31, 32, 33, 4, 34, 10, 11, 12, 13, 14, 20, 21, 22, 23, 35, 36] (by decide +kernel) (by decide +kernel)
set_option maxRecDepth 20000 in
theorem gX1_divideAt_X1_copyStep : GoodIn wsX1_divideAt (wsV RX1 57 RX1 yX1_copyStep wsX1_copyStep) := goodIn_app (goodIn_of _ (by decide +kernel)) ggX1_divideAt_X1_copyStep
theorem dX1_divideAt_0 : decode cX1_divideAt 0 = .ok (.aload_n 0, 1) := by decide +kernel
theorem dX1_divideAt_1 : decode cX1_divideAt 1 = .ok (.iload_n 1, 1) := by decide +kernel
theorem dX1_divideAt_2 : decode cX1_divideAt 2 = .ok (.invokevirtual 35, 3) := by decide +kernel
theorem dX1_divideAt_5 : decode cX1_divideAt 5 = .ok (.istore_n 3, 1) := by decide +kernel
theorem dX1_divideAt_6 : decode cX1_divideAt 6 = .ok (.aload_n 0, 1) := by decide +kernel
theorem dX1_divideAt_7 : decode cX1_divideAt 7 = .ok (.iload_n 1, 1) := by decide +kernel
theorem dX1_divideAt_8 : decode cX1_divideAt 8 = .ok (.invokevirtual 64, 3) := by decide +kernel
theorem dX1_divideAt_11 : decode cX1_divideAt 11 = .ok (.aload_n 0, 1) := by decide +kernel
theorem dX1_divideAt_12 : decode cX1_divideAt 12 = .ok (.iload_n 1, 1) := by decide +kernel
theorem dX1_divideAt_13 : decode cX1_divideAt 13 = .ok (.iconst 3, 1) := by decide +kernel
theorem dX1_divideAt_14 : decode cX1_divideAt 14 = .ok (.iload_n 2, 1) := by decide +kernel
theorem dX1_divideAt_15 : decode cX1_divideAt 15 = .ok (.invokevirtual 31, 3) := by decide +kernel
theorem dX1_divideAt_18 : decode cX1_divideAt 18 = .ok (.iload_n 2, 1) := by decide +kernel
theorem dX1_divideAt_19 : decode cX1_divideAt 19 = .ok (.istore 4, 2) := by decide +kernel
theorem dX1_divideAt_21 : decode cX1_divideAt 21 = .ok (.iload 4, 2) := by decide +kernel
theorem dX1_divideAt_23 : decode cX1_divideAt 23 = .ok (.iload_n 3, 1) := by decide +kernel
theorem dX1_divideAt_24 : decode cX1_divideAt 24 = .ok (.if_icmp .ge 25, 3) := by decide +kernel
theorem dX1_divideAt_27 : decode cX1_divideAt 27 = .ok (.aload_n 0, 1) := by decide +kernel
theorem dX1_divideAt_28 : decode cX1_divideAt 28 = .ok (.iload_n 1, 1) := by decide +kernel
theorem dX1_divideAt_29 : decode cX1_divideAt 29 = .ok (.iconst 1, 1) := by decide +kernel
theorem dX1_divideAt_30 : decode cX1_divideAt 30 = .ok (.iadd, 1) := by decide +kernel
theorem dX1_divideAt_31 : decode cX1_divideAt 31 = .ok (.iload 4, 2) := by decide +kernel
theorem dX1_divideAt_33 : decode cX1_divideAt 33 = .ok (.iload_n 1, 1) := by decide +kernel
theorem dX1_divideAt_34 : decode cX1_divideAt 34 = .ok (.iconst 1, 1) := by decide +kernel
theorem dX1_divideAt_35 : decode cX1_divideAt 35 = .ok (.iadd, 1) := by decide +kernel
theorem dX1_divideAt_36 : decode cX1_divideAt 36 = .ok (.iload 4, 2) := by decide +kernel
theorem dX1_divideAt_38 : decode cX1_divideAt 38 = .ok (.iload_n 2, 1) := by decide +kernel
theorem dX1_divideAt_39 : decode cX1_divideAt 39 = .ok (.isub, 1) := by decide +kernel
theorem dX1_divideAt_40 : decode cX1_divideAt 40 = .ok (.invokevirtual 57, 3) := by decide +kernel
theorem dX1_divideAt_43 : decode cX1_divideAt 43 = .ok (.iinc 4 1, 3) := by decide +kernel
theorem dX1_divideAt_46 : decode cX1_divideAt 46 = .ok (.goto (-25), 3) := by decide +kernel
theorem dX1_divideAt_49 : decode cX1_divideAt 49 = .ok (.aload_n 0, 1) := by decide +kernel
theorem dX1_divideAt_50 : decode cX1_divideAt 50 = .ok (.iload_n 1, 1) := by decide +kernel
theorem dX1_divideAt_51 : decode cX1_divideAt 51 = .ok (.iconst 1, 1) := by decide +kernel
theorem dX1_divideAt_52 : decode cX1_divideAt 52 = .ok (.iadd, 1) := by decide +kernel
theorem dX1_divideAt_53 : decode cX1_divideAt 53 = .ok (.iconst 3, 1) := by decide +kernel
theorem dX1_divideAt_54 : decode cX1_divideAt 54 = .ok (.iload_n 3, 1) := by decide +kernel
theorem dX1_divideAt_55 : decode cX1_divideAt 55 = .ok (.iload_n 2, 1) := by decide +kernel
theorem dX1_divideAt_56 : decode cX1_divideAt 56 = .ok (.isub, 1) := by decide +kernel
theorem dX1_divideAt_57 : decode cX1_divideAt 57 = .ok (.invokevirtual 31, 3) := by decide +kernel
theorem dX1_divideAt_60 : decode cX1_divideAt 60 = .ok (.return_, 1) := by decide +kernel
set_option maxRecDepth 20000 in
theorem ggX1_peelFirstPlace_X1_loopFact : GoodIn wsX1_peelFirstPlace wsX1_loopFact := goodIn_r _ [5, 6, 7, 8, 4, 9, 10, 24, 25] (by decide +kernel) (by decide +kernel)
set_option maxRecDepth 20000 in
theorem gX1_peelFirstPlace_X1_loopFact : GoodIn wsX1_peelFirstPlace (wsV RX1 23 RX1 yX1_loopFact wsX1_loopFact) := goodIn_app (goodIn_of _ (by decide +kernel)) ggX1_peelFirstPlace_X1_loopFact
set_option maxRecDepth 20000 in
theorem ggX1_peelFirstPlace_X1_repeatLoop : GoodIn wsX1_peelFirstPlace wsX1_repeatLoop := goodIn_r _ [14, 15, 6, 7, 8, 4, 9, 10, 16, 17, 18, 19, 24, 25] (by decide +kernel) (by decide +kernel)
set_option maxRecDepth 20000 in
theorem gX1_peelFirstPlace_X1_repeatLoop : GoodIn wsX1_peelFirstPlace (wsV RX1 64 RX1 yX1_repeatLoop wsX1_repeatLoop) := goodIn_app (goodIn_of _ (by decide +kernel)) ggX1_peelFirstPlace_X1_repeatLoop
set_option maxRecDepth 20000 in
theorem ggX1_peelFirstPlace_X1_setLoopFact : GoodIn wsX1_peelFirstPlace wsX1_setLoopFact := goodIn_r _ [23, 16, 17, 18, 4, 19, 10, 24, 25] (by decide +kernel) (by decide +kernel)
set_option maxRecDepth 20000 in
theorem gX1_peelFirstPlace_X1_setLoopFact : GoodIn wsX1_peelFirstPlace (wsV RX1 31 RX1 yX1_setLoopFact wsX1_setLoopFact) := goodIn_app (goodIn_of _ (by decide +kernel)) ggX1_peelFirstPlace_X1_setLoopFact
theorem dX1_peelFirstPlace_0 : decode cX1_peelFirstPlace 0 = .ok (.aload_n 0, 1) := by decide +kernel
theorem dX1_peelFirstPlace_1 : decode cX1_peelFirstPlace 1 = .ok (.iload_n 1, 1) := by decide +kernel
theorem dX1_peelFirstPlace_2 : decode cX1_peelFirstPlace 2 = .ok (.iconst 0, 1) := by decide +kernel
theorem dX1_peelFirstPlace_3 : decode cX1_peelFirstPlace 3 = .ok (.invokevirtual 23, 3) := by decide +kernel
theorem dX1_peelFirstPlace_6 : decode cX1_peelFirstPlace 6 = .ok (.istore_n 3, 1) := by decide +kernel
theorem dX1_peelFirstPlace_7 : decode cX1_peelFirstPlace 7 = .ok (.aload_n 0, 1) := by decide +kernel
theorem dX1_peelFirstPlace_8 : decode cX1_peelFirstPlace 8 = .ok (.iload_n 1, 1) := by decide +kernel
theorem dX1_peelFirstPlace_9 : decode cX1_peelFirstPlace 9 = .ok (.invokevirtual 64, 3) := by decide +kernel
theorem dX1_peelFirstPlace_12 : decode cX1_peelFirstPlace 12 = .ok (.aload_n 0, 1) := by decide +kernel
theorem dX1_peelFirstPlace_13 : decode cX1_peelFirstPlace 13 = .ok (.iload_n 1, 1) := by decide +kernel
theorem dX1_peelFirstPlace_14 : decode cX1_peelFirstPlace 14 = .ok (.iconst 1, 1) := by decide +kernel
theorem dX1_peelFirstPlace_15 : decode cX1_peelFirstPlace 15 = .ok (.iload_n 2, 1) := by decide +kernel
theorem dX1_peelFirstPlace_16 : decode cX1_peelFirstPlace 16 = .ok (.iconst 1, 1) := by decide +kernel
