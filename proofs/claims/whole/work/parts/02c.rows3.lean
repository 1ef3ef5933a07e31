theorem dX4_init_27 : decode cX4_init 27 = .ok (.iconst 0, 1) := by decide +kernel
theorem dX4_init_28 : decode cX4_init 28 = .ok (.putfield 23, 3) := by decide +kernel
theorem dX4_init_31 : decode cX4_init 31 = .ok (.aload_n 0, 1) := by decide +kernel
theorem dX4_init_32 : decode cX4_init 32 = .ok (.new 26, 3) := by decide +kernel
theorem dX4_init_35 : decode cX4_init 35 = .ok (.dup, 1) := by decide +kernel
theorem dX4_init_36 : decode cX4_init 36 = .ok (.invokespecial 28, 3) := by decide +kernel
theorem dX4_init_39 : decode cX4_init 39 = .ok (.putfield 29, 3) := by decide +kernel
theorem dX4_init_42 : decode cX4_init 42 = .ok (.aload_n 0, 1) := by decide +kernel
theorem dX4_init_43 : decode cX4_init 43 = .ok (.new 26, 3) := by decide +kernel
theorem dX4_init_46 : decode cX4_init 46 = .ok (.dup, 1) := by decide +kernel
theorem dX4_init_47 : decode cX4_init 47 = .ok (.invokespecial 28, 3) := by decide +kernel
theorem dX4_init_50 : decode cX4_init 50 = .ok (.putfield 33, 3) := by decide +kernel
theorem dX4_init_53 : decode cX4_init 53 = .ok (.aload_n 0, 1) := by decide +kernel
theorem dX4_init_54 : decode cX4_init 54 = .ok (.new 26, 3) := by decide +kernel
theorem dX4_init_57 : decode cX4_init 57 = .ok (.dup, 1) := by decide +kernel
theorem dX4_init_58 : decode cX4_init 58 = .ok (.invokespecial 28, 3) := by decide +kernel
theorem dX4_init_61 : decode cX4_init 61 = .ok (.putfield 36, 3) := by decide +kernel
theorem dX4_init_64 : decode cX4_init 64 = .ok (.aload_n 0, 1) := by decide +kernel
theorem dX4_init_65 : decode cX4_init 65 = .ok (.new 39, 3) := by decide +kernel
theorem dX4_init_68 : decode cX4_init 68 = .ok (.dup, 1) := by decide +kernel
theorem dX4_init_69 : decode cX4_init 69 = .ok (.invokespecial 41, 3) := by decide +kernel
theorem dX4_init_72 : decode cX4_init 72 = .ok (.putfield 42, 3) := by decide +kernel
theorem dX4_init_75 : decode cX4_init 75 = .ok (.return_, 1) := by decide +kernel
set_option maxRecDepth 20000 in
theorem ggX4_addProgram_X4_refuseEleventhProgram : GoodIn wsX4_addProgram wsX4_refuseEleventhProgram := goodIn_ca (goodIn_r _ [8, 9, 10, 11, 27, 28, 29, 30, 31, 32, 33, 34] (by decide +kernel) (by decide +kernel)) (goodIn_sub (fun _ h => List.mem_cons_of_mem _ (List.mem_append_right _ h)) (by decide +kernel))
set_option maxRecDepth 20000 in
theorem gX4_addProgram_X4_refuseEleventhProgram : GoodIn wsX4_addProgram (wsV RX4 46 RX4 yX4_refuseEleventhProgram wsX4_refuseEleventhProgram) := goodIn_app (goodIn_of _ (by decide +kernel)) ggX4_addProgram_X4_refuseEleventhProgram
set_option maxRecDepth 20000 in
theorem ggX4_addProgram_X1_init : GoodIn wsX4_addProgram wsX1_init := goodIn_r _ [13, 14, 15, 16, 17, 18, 19, 25, 26] (by decide +kernel) (by decide +kernel)
set_option maxRecDepth 20000 in
theorem gX4_addProgram_X1_init_n49 : GoodIn wsX4_addProgram (wsX1_init) := ggX4_addProgram_X1_init
set_option maxRecDepth 20000 in
theorem ggX4_addProgram_X4_keepProgram : GoodIn wsX4_addProgram wsX4_keepProgram := goodIn_r _ [23, 11, 24, 27, 28, 29, 30, 31, 32, 33, 34] (by decide +kernel) (by decide +kernel)
set_option maxRecDepth 20000 in
theorem gX4_addProgram_X4_keepProgram : GoodIn wsX4_addProgram (wsV RX4 50 RX4 yX4_keepProgram wsX4_keepProgram) := goodIn_app (goodIn_of _ (by decide +kernel)) ggX4_addProgram_X4_keepProgram
theorem dX4_addProgram_0 : decode cX4_addProgram 0 = .ok (.aload_n 0, 1) := by decide +kernel
theorem dX4_addProgram_1 : decode cX4_addProgram 1 = .ok (.invokevirtual 46, 3) := by decide +kernel
theorem dX4_addProgram_4 : decode cX4_addProgram 4 = .ok (.aload_n 0, 1) := by decide +kernel
theorem dX4_addProgram_5 : decode cX4_addProgram 5 = .ok (.new 9, 3) := by decide +kernel
theorem dX4_addProgram_8 : decode cX4_addProgram 8 = .ok (.dup, 1) := by decide +kernel
theorem dX4_addProgram_9 : decode cX4_addProgram 9 = .ok (.invokespecial 49, 3) := by decide +kernel
theorem dX4_addProgram_12 : decode cX4_addProgram 12 = .ok (.invokevirtual 50, 3) := by decide +kernel
theorem dX4_addProgram_15 : decode cX4_addProgram 15 = .ok (.ireturn, 1) := by decide +kernel
set_option maxRecDepth 20000 in
theorem ggX4_addLoop_X4_programAt : GoodIn wsX4_addLoop wsX4_programAt := goodIn_ca (goodIn_r _ [9, 10, 11, 12, 35, 36, 37, 38, 39, 40, 41, 42] (by decide +kernel) (by decide +kernel)) (goodIn_sub (fun _ h => List.mem_cons_of_mem _ (List.mem_append_right _ h)) (by decide +kernel))
set_option maxRecDepth 20000 in
theorem gX4_addLoop_X4_programAt : GoodIn wsX4_addLoop (wsV RX4 54 RX4 yX4_programAt wsX4_programAt) := goodIn_app (goodIn_of _ (by decide +kernel)) ggX4_addLoop_X4_programAt
set_option maxRecDepth 20000 in
theorem ggX4_addLoop_X4_isBetween : GoodIn wsX4_addLoop wsX4_isBetween := goodIn_r _ [15] (by decide +kernel) (by decide +kernel)
set_option maxRecDepth 20000 in
theorem gX4_addLoop_X4_isBetween : GoodIn wsX4_addLoop (va_wsS RX4 58 yX4_isBetween wsX4_isBetween) := goodIn_app (goodIn_of _ (by decide +kernel)) ggX4_addLoop_X4_isBetween
set_option maxRecDepth 20000 in
theorem ggX4_addLoop_X1_countLoops : GoodIn wsX4_addLoop wsX1_countLoops := goodIn_r _ [20, 21, 43, 44] (by decide +kernel) (by decide +kernel)
set_option maxRecDepth 20000 in
theorem gX4_addLoop_X1_countLoops : GoodIn wsX4_addLoop (wsV RX4 69 RX1 yX1_countLoops wsX1_countLoops) := goodIn_app (goodIn_of _ (by decide +kernel)) ggX4_addLoop_X1_countLoops
set_option maxRecDepth 20000 in
theorem ggX4_addLoop_X1_appendLoop : GoodIn wsX4_addLoop wsX1_appendLoop := goodIn_r _ [25, 21, 26, 27, 28, 19, 29, 30, 31, 32, 33, 34, 43, 44] (by decide +kernel) (by decide +kernel)
set_option maxRecDepth 20000 in
theorem gX4_addLoop_X1_appendLoop : GoodIn wsX4_addLoop (wsV RX4 78 RX1 yX1_appendLoop wsX1_appendLoop) := goodIn_app (goodIn_of _ (by decide +kernel)) ggX4_addLoop_X1_appendLoop
theorem dX4_addLoop_0 : decode cX4_addLoop 0 = .ok (.aload_n 0, 1) := by decide +kernel
theorem dX4_addLoop_1 : decode cX4_addLoop 1 = .ok (.iload_n 1, 1) := by decide +kernel
theorem dX4_addLoop_2 : decode cX4_addLoop 2 = .ok (.invokevirtual 54, 3) := by decide +kernel
theorem dX4_addLoop_5 : decode cX4_addLoop 5 = .ok (.astore 5, 2) := by decide +kernel
theorem dX4_addLoop_7 : decode cX4_addLoop 7 = .ok (.iload_n 2, 1) := by decide +kernel
theorem dX4_addLoop_8 : decode cX4_addLoop 8 = .ok (.iconst 0, 1) := by decide +kernel
theorem dX4_addLoop_9 : decode cX4_addLoop 9 = .ok (.iconst 5, 1) := by decide +kernel
theorem dX4_addLoop_10 : decode cX4_addLoop 10 = .ok (.invokestatic 58, 3) := by decide +kernel
theorem dX4_addLoop_13 : decode cX4_addLoop 13 = .ok (.ifCond .eq 12, 3) := by decide +kernel
theorem dX4_addLoop_16 : decode cX4_addLoop 16 = .ok (.iload_n 3, 1) := by decide +kernel
theorem dX4_addLoop_17 : decode cX4_addLoop 17 = .ok (.iconst 0, 1) := by decide +kernel
theorem dX4_addLoop_18 : decode cX4_addLoop 18 = .ok (.iconst 5, 1) := by decide +kernel
theorem dX4_addLoop_19 : decode cX4_addLoop 19 = .ok (.invokestatic 58, 3) := by decide +kernel
theorem dX4_addLoop_22 : decode cX4_addLoop 22 = .ok (.ifCond .ne 13, 3) := by decide +kernel
theorem dX4_addLoop_25 : decode cX4_addLoop 25 = .ok (.new 62, 3) := by decide +kernel
theorem dX4_addLoop_28 : decode cX4_addLoop 28 = .ok (.dup, 1) := by decide +kernel
theorem dX4_addLoop_29 : decode cX4_addLoop 29 = .ok (.ldc 64, 2) := by decide +kernel
theorem dX4_addLoop_31 : decode cX4_addLoop 31 = .ok (.invokespecial 66, 3) := by decide +kernel
theorem dX4_addLoop_34 : decode cX4_addLoop 34 = .ok (.athrow, 1) := by decide +kernel
theorem dX4_addLoop_35 : decode cX4_addLoop 35 = .ok (.aload 5, 2) := by decide +kernel
theorem dX4_addLoop_37 : decode cX4_addLoop 37 = .ok (.invokevirtual 69, 3) := by decide +kernel
theorem dX4_addLoop_40 : decode cX4_addLoop 40 = .ok (.bipush 8, 2) := by decide +kernel
theorem dX4_addLoop_42 : decode cX4_addLoop 42 = .ok (.if_icmp .lt 13, 3) := by decide +kernel
theorem dX4_addLoop_45 : decode cX4_addLoop 45 = .ok (.new 73, 3) := by decide +kernel
theorem dX4_addLoop_48 : decode cX4_addLoop 48 = .ok (.dup, 1) := by decide +kernel
theorem dX4_addLoop_49 : decode cX4_addLoop 49 = .ok (.ldc 75, 2) := by decide +kernel
theorem dX4_addLoop_51 : decode cX4_addLoop 51 = .ok (.invokespecial 77, 3) := by decide +kernel
theorem dX4_addLoop_54 : decode cX4_addLoop 54 = .ok (.athrow, 1) := by decide +kernel
theorem dX4_addLoop_55 : decode cX4_addLoop 55 = .ok (.aload 5, 2) := by decide +kernel
theorem dX4_addLoop_57 : decode cX4_addLoop 57 = .ok (.iload_n 2, 1) := by decide +kernel
theorem dX4_addLoop_58 : decode cX4_addLoop 58 = .ok (.iload_n 3, 1) := by decide +kernel
theorem dX4_addLoop_59 : decode cX4_addLoop 59 = .ok (.iload 4, 2) := by decide +kernel
theorem dX4_addLoop_61 : decode cX4_addLoop 61 = .ok (.invokevirtual 78, 3) := by decide +kernel
theorem dX4_addLoop_64 : decode cX4_addLoop 64 = .ok (.ireturn, 1) := by decide +kernel
set_option maxRecDepth 20000 in
theorem ggX4_addStep_X4_programAt : GoodIn wsX4_addStep wsX4_programAt := goodIn_ca (goodIn_r _ [9, 10, 11, 12, 63, 64, 65, 66, 67, 68, 69, 70] (by decide +kernel) (by decide +kernel)) (goodIn_sub (fun _ h => List.mem_cons_of_mem _ (List.mem_append_right _ h)) (by decide +kernel))
set_option maxRecDepth 20000 in
theorem gX4_addStep_X4_programAt : GoodIn wsX4_addStep (wsV RX4 54 RX4 yX4_programAt wsX4_programAt) := goodIn_app (goodIn_of _ (by decide +kernel)) ggX4_addStep_X4_programAt
set_option maxRecDepth 20000 in
theorem ggX4_addStep_X4_refuseOtherLoops : GoodIn wsX4_addStep wsX4_refuseOtherLoops := goodIn_ca (goodIn_r _ [15, 10, 11, 16, 17, 18, 19, 20, 21, 22, 23, 8, 24, 71, 72] (by decide +kernel) (by decide +kernel)) (goodIn_sub (fun _ h => List.mem_cons_of_mem _ (List.mem_append_right _ h)) (by decide +kernel))
set_option maxRecDepth 20000 in
theorem gX4_addStep_X4_refuseOtherLoops : GoodIn wsX4_addStep (va_wsS RX4 82 yX4_refuseOtherLoops wsX4_refuseOtherLoops) := goodIn_app (goodIn_of _ (by decide +kernel)) ggX4_addStep_X4_refuseOtherLoops
set_option maxRecDepth 20000 in
theorem ggX4_addStep_X4_isLook : GoodIn wsX4_addStep wsX4_isLook := goodIn_r _ [27, 22, 23, 8, 24, 28, 29, 30] (by decide +kernel) (by decide +kernel)
set_option maxRecDepth 20000 in
theorem gX4_addStep_X4_isLook : GoodIn wsX4_addStep (va_wsS RX4 86 yX4_isLook wsX4_isLook) := goodIn_app (goodIn_of _ (by decide +kernel)) ggX4_addStep_X4_isLook
set_option maxRecDepth 20000 in
theorem ggX4_addStep_X4_isDeed : GoodIn wsX4_addStep wsX4_isDeed := goodIn_r _ [33, 22, 23, 8, 24] (by decide +kernel) (by decide +kernel)
set_option maxRecDepth 20000 in
theorem gX4_addStep_X4_isDeed : GoodIn wsX4_addStep (va_wsS RX4 90 yX4_isDeed wsX4_isDeed) := goodIn_app (goodIn_of _ (by decide +kernel)) ggX4_addStep_X4_isDeed
set_option maxRecDepth 20000 in
theorem ggX4_addStep_X1_countSteps : GoodIn wsX4_addStep wsX1_countSteps := goodIn_r _ [37, 38, 39, 40, 19, 41, 42, 43, 44, 45, 46, 71, 72] (by decide +kernel) (by decide +kernel)
set_option maxRecDepth 20000 in
theorem gX4_addStep_X1_countSteps : GoodIn wsX4_addStep (wsV RX4 95 RX1 yX1_countSteps wsX1_countSteps) := goodIn_app (goodIn_of _ (by decide +kernel)) ggX4_addStep_X1_countSteps
set_option maxRecDepth 20000 in
theorem ggX4_addStep_X1_appendStep : GoodIn wsX4_addStep wsX1_appendStep := goodIn_r _ [50, 51, 35, 36, 19, 37, 38, 39, 40, 41, 42, 43, 44, 45, 46, 52, 53, 54, 55, 56, 57, 58, 59, 60, 61, 62, 71, 72] (by decide +kernel) (by decide +kernel)
set_option maxRecDepth 20000 in
theorem gX4_addStep_X1_appendStep : GoodIn wsX4_addStep (wsV RX4 101 RX1 yX1_appendStep wsX1_appendStep) := goodIn_app (goodIn_of _ (by decide +kernel)) ggX4_addStep_X1_appendStep
theorem dX4_addStep_0 : decode cX4_addStep 0 = .ok (.aload_n 0, 1) := by decide +kernel
theorem dX4_addStep_1 : decode cX4_addStep 1 = .ok (.iload_n 1, 1) := by decide +kernel
theorem dX4_addStep_2 : decode cX4_addStep 2 = .ok (.invokevirtual 54, 3) := by decide +kernel
theorem dX4_addStep_5 : decode cX4_addStep 5 = .ok (.astore 7, 2) := by decide +kernel
theorem dX4_addStep_7 : decode cX4_addStep 7 = .ok (.aload 7, 2) := by decide +kernel
theorem dX4_addStep_9 : decode cX4_addStep 9 = .ok (.iload_n 2, 1) := by decide +kernel
theorem dX4_addStep_10 : decode cX4_addStep 10 = .ok (.invokestatic 82, 3) := by decide +kernel
theorem dX4_addStep_13 : decode cX4_addStep 13 = .ok (.iload_n 3, 1) := by decide +kernel
theorem dX4_addStep_14 : decode cX4_addStep 14 = .ok (.iload 4, 2) := by decide +kernel
theorem dX4_addStep_16 : decode cX4_addStep 16 = .ok (.invokestatic 86, 3) := by decide +kernel
theorem dX4_addStep_19 : decode cX4_addStep 19 = .ok (.ifCond .eq 13, 3) := by decide +kernel
theorem dX4_addStep_22 : decode cX4_addStep 22 = .ok (.iload 5, 2) := by decide +kernel
theorem dX4_addStep_24 : decode cX4_addStep 24 = .ok (.iload 6, 2) := by decide +kernel
theorem dX4_addStep_26 : decode cX4_addStep 26 = .ok (.invokestatic 90, 3) := by decide +kernel
theorem dX4_addStep_29 : decode cX4_addStep 29 = .ok (.ifCond .ne 13, 3) := by decide +kernel
theorem dX4_addStep_32 : decode cX4_addStep 32 = .ok (.new 62, 3) := by decide +kernel
theorem dX4_addStep_35 : decode cX4_addStep 35 = .ok (.dup, 1) := by decide +kernel
theorem dX4_addStep_36 : decode cX4_addStep 36 = .ok (.ldc 93, 2) := by decide +kernel
theorem dX4_addStep_38 : decode cX4_addStep 38 = .ok (.invokespecial 66, 3) := by decide +kernel
theorem dX4_addStep_41 : decode cX4_addStep 41 = .ok (.athrow, 1) := by decide +kernel
theorem dX4_addStep_42 : decode cX4_addStep 42 = .ok (.aload 7, 2) := by decide +kernel
theorem dX4_addStep_44 : decode cX4_addStep 44 = .ok (.iload_n 2, 1) := by decide +kernel
theorem dX4_addStep_45 : decode cX4_addStep 45 = .ok (.invokevirtual 95, 3) := by decide +kernel
theorem dX4_addStep_48 : decode cX4_addStep 48 = .ok (.bipush 6, 2) := by decide +kernel
theorem dX4_addStep_50 : decode cX4_addStep 50 = .ok (.if_icmp .lt 13, 3) := by decide +kernel
theorem dX4_addStep_53 : decode cX4_addStep 53 = .ok (.new 73, 3) := by decide +kernel
theorem dX4_addStep_56 : decode cX4_addStep 56 = .ok (.dup, 1) := by decide +kernel
theorem dX4_addStep_57 : decode cX4_addStep 57 = .ok (.ldc 99, 2) := by decide +kernel
theorem dX4_addStep_59 : decode cX4_addStep 59 = .ok (.invokespecial 77, 3) := by decide +kernel
theorem dX4_addStep_62 : decode cX4_addStep 62 = .ok (.athrow, 1) := by decide +kernel
theorem dX4_addStep_63 : decode cX4_addStep 63 = .ok (.aload 7, 2) := by decide +kernel
theorem dX4_addStep_65 : decode cX4_addStep 65 = .ok (.iload_n 2, 1) := by decide +kernel
theorem dX4_addStep_66 : decode cX4_addStep 66 = .ok (.iload_n 3, 1) := by decide +kernel
theorem dX4_addStep_67 : decode cX4_addStep 67 = .ok (.iload 4, 2) := by decide +kernel
theorem dX4_addStep_69 : decode cX4_addStep 69 = .ok (.iload 5, 2) := by decide +kernel
theorem dX4_addStep_71 : decode cX4_addStep 71 = .ok (.iload 6, 2) := by decide +kernel
theorem dX4_addStep_73 : decode cX4_addStep 73 = .ok (.invokevirtual 101, 3) := by decide +kernel
theorem dX4_addStep_76 : decode cX4_addStep 76 = .ok (.ireturn, 1) := by decide +kernel
set_option maxRecDepth 20000 in
theorem ggX4_loop_X4_programAt : GoodIn wsX4_loop wsX4_programAt := goodIn_ca (goodIn_r _ [7, 1, 2, 8, 30, 31, 32, 33, 34, 35, 36, 37] (by decide +kernel) (by decide +kernel)) (goodIn_sub (fun _ h => List.mem_cons_of_mem _ (List.mem_append_right _ h)) (by decide +kernel))
set_option maxRecDepth 20000 in
theorem gX4_loop_X4_programAt : GoodIn wsX4_loop (wsV RX4 54 RX4 yX4_programAt wsX4_programAt) := goodIn_app (goodIn_of _ (by decide +kernel)) ggX4_loop_X4_programAt
set_option maxRecDepth 20000 in
theorem ggX4_loop_X4_refuseOtherLoops : GoodIn wsX4_loop wsX4_refuseOtherLoops := goodIn_ca (goodIn_r _ [11, 1, 2, 12, 13, 14, 15, 16, 17, 18, 19, 6, 20, 38, 39] (by decide +kernel) (by decide +kernel)) (goodIn_sub (fun _ h => List.mem_cons_of_mem _ (List.mem_append_right _ h)) (by decide +kernel))
set_option maxRecDepth 20000 in
theorem gX4_loop_X4_refuseOtherLoops : GoodIn wsX4_loop (va_wsS RX4 82 yX4_refuseOtherLoops wsX4_refuseOtherLoops) := goodIn_app (goodIn_of _ (by decide +kernel)) ggX4_loop_X4_refuseOtherLoops
set_option maxRecDepth 20000 in
theorem ggX4_loop_X4_isBetween : GoodIn wsX4_loop wsX4_isBetween := goodIn_r _ [20] (by decide +kernel) (by decide +kernel)
set_option maxRecDepth 20000 in
theorem gX4_loop_X4_isBetween : GoodIn wsX4_loop (va_wsS RX4 58 yX4_isBetween wsX4_isBetween) := goodIn_app (goodIn_of _ (by decide +kernel)) ggX4_loop_X4_isBetween
set_option maxRecDepth 20000 in
theorem ggX4_loop_X1_loopFact : GoodIn wsX4_loop wsX1_loopFact := goodIn_r _ [24, 25, 26, 27, 15, 28, 29, 38, 39] (by decide +kernel) (by decide +kernel)
set_option maxRecDepth 20000 in
theorem gX4_loop_X1_loopFact : GoodIn wsX4_loop (wsV RX4 110 RX1 yX1_loopFact wsX1_loopFact) := goodIn_app (goodIn_of _ (by decide +kernel)) ggX4_loop_X1_loopFact
theorem dX4_loop_0 : decode cX4_loop 0 = .ok (.aload_n 0, 1) := by decide +kernel
theorem dX4_loop_1 : decode cX4_loop 1 = .ok (.iload_n 1, 1) := by decide +kernel
theorem dX4_loop_2 : decode cX4_loop 2 = .ok (.invokevirtual 54, 3) := by decide +kernel
theorem dX4_loop_5 : decode cX4_loop 5 = .ok (.astore 4, 2) := by decide +kernel
theorem dX4_loop_7 : decode cX4_loop 7 = .ok (.aload 4, 2) := by decide +kernel
theorem dX4_loop_9 : decode cX4_loop 9 = .ok (.iload_n 2, 1) := by decide +kernel
theorem dX4_loop_10 : decode cX4_loop 10 = .ok (.invokestatic 82, 3) := by decide +kernel
theorem dX4_loop_13 : decode cX4_loop 13 = .ok (.iload_n 3, 1) := by decide +kernel
theorem dX4_loop_14 : decode cX4_loop 14 = .ok (.iconst 0, 1) := by decide +kernel
theorem dX4_loop_15 : decode cX4_loop 15 = .ok (.iconst 3, 1) := by decide +kernel
theorem dX4_loop_16 : decode cX4_loop 16 = .ok (.invokestatic 58, 3) := by decide +kernel
theorem dX4_loop_19 : decode cX4_loop 19 = .ok (.ifCond .ne 13, 3) := by decide +kernel
theorem dX4_loop_22 : decode cX4_loop 22 = .ok (.new 105, 3) := by decide +kernel
theorem dX4_loop_25 : decode cX4_loop 25 = .ok (.dup, 1) := by decide +kernel
theorem dX4_loop_26 : decode cX4_loop 26 = .ok (.ldc 107, 2) := by decide +kernel
theorem dX4_loop_28 : decode cX4_loop 28 = .ok (.invokespecial 109, 3) := by decide +kernel
theorem dX4_loop_31 : decode cX4_loop 31 = .ok (.athrow, 1) := by decide +kernel
theorem dX4_loop_32 : decode cX4_loop 32 = .ok (.aload 4, 2) := by decide +kernel
theorem dX4_loop_34 : decode cX4_loop 34 = .ok (.iload_n 2, 1) := by decide +kernel
theorem dX4_loop_35 : decode cX4_loop 35 = .ok (.iload_n 3, 1) := by decide +kernel
theorem dX4_loop_36 : decode cX4_loop 36 = .ok (.invokevirtual 110, 3) := by decide +kernel
theorem dX4_loop_39 : decode cX4_loop 39 = .ok (.ireturn, 1) := by decide +kernel
set_option maxRecDepth 20000 in
theorem ggX4_step_X4_programAt : GoodIn wsX4_step wsX4_programAt := goodIn_ca (goodIn_r _ [7, 1, 2, 8, 38, 39, 40, 41, 42, 43, 44, 45] (by decide +kernel) (by decide +kernel)) (goodIn_sub (fun _ h => List.mem_cons_of_mem _ (List.mem_append_right _ h)) (by decide +kernel))
set_option maxRecDepth 20000 in
theorem gX4_step_X4_programAt : GoodIn wsX4_step (wsV RX4 54 RX4 yX4_programAt wsX4_programAt) := goodIn_app (goodIn_of _ (by decide +kernel)) ggX4_step_X4_programAt
set_option maxRecDepth 20000 in
theorem ggX4_step_X4_refuseOtherLoops : GoodIn wsX4_step wsX4_refuseOtherLoops := goodIn_ca (goodIn_r _ [11, 1, 2, 12, 13, 14, 15, 16, 17, 18, 19, 6, 20, 46, 47] (by decide +kernel) (by decide +kernel)) (goodIn_sub (fun _ h => List.mem_cons_of_mem _ (List.mem_append_right _ h)) (by decide +kernel))
set_option maxRecDepth 20000 in
theorem gX4_step_X4_refuseOtherLoops : GoodIn wsX4_step (va_wsS RX4 82 yX4_refuseOtherLoops wsX4_refuseOtherLoops) := goodIn_app (goodIn_of _ (by decide +kernel)) ggX4_step_X4_refuseOtherLoops
set_option maxRecDepth 20000 in
theorem ggX4_step_X1_countSteps : GoodIn wsX4_step wsX1_countSteps := goodIn_r _ [24, 25, 26, 27, 15, 28, 29, 30, 31, 32, 33, 46, 47] (by decide +kernel) (by decide +kernel)
set_option maxRecDepth 20000 in
theorem gX4_step_X1_countSteps : GoodIn wsX4_step (wsV RX4 95 RX1 yX1_countSteps wsX1_countSteps) := goodIn_app (goodIn_of _ (by decide +kernel)) ggX4_step_X1_countSteps
set_option maxRecDepth 20000 in
theorem ggX4_step_X4_isBetween : GoodIn wsX4_step wsX4_isBetween := goodIn_r _ [20] (by decide +kernel) (by decide +kernel)
set_option maxRecDepth 20000 in
theorem gX4_step_X4_isBetween : GoodIn wsX4_step (va_wsS RX4 58 yX4_isBetween wsX4_isBetween) := goodIn_app (goodIn_of _ (by decide +kernel)) ggX4_step_X4_isBetween
set_option maxRecDepth 20000 in
theorem ggX4_step_X1_stepFact : GoodIn wsX4_step wsX1_stepFact := goodIn_r _ [37, 33, 46, 47] (by decide +kernel) (by decide +kernel)
set_option maxRecDepth 20000 in
theorem gX4_step_X1_stepFact : GoodIn wsX4_step (wsV RX4 114 RX1 yX1_stepFact wsX1_stepFact) := goodIn_app (goodIn_of _ (by decide +kernel)) ggX4_step_X1_stepFact
theorem dX4_step_0 : decode cX4_step 0 = .ok (.aload_n 0, 1) := by decide +kernel
theorem dX4_step_1 : decode cX4_step 1 = .ok (.iload_n 1, 1) := by decide +kernel
theorem dX4_step_2 : decode cX4_step 2 = .ok (.invokevirtual 54, 3) := by decide +kernel
theorem dX4_step_5 : decode cX4_step 5 = .ok (.astore 5, 2) := by decide +kernel
theorem dX4_step_7 : decode cX4_step 7 = .ok (.aload 5, 2) := by decide +kernel
theorem dX4_step_9 : decode cX4_step 9 = .ok (.iload_n 2, 1) := by decide +kernel
theorem dX4_step_10 : decode cX4_step 10 = .ok (.invokestatic 82, 3) := by decide +kernel
theorem dX4_step_13 : decode cX4_step 13 = .ok (.iload_n 3, 1) := by decide +kernel
theorem dX4_step_14 : decode cX4_step 14 = .ok (.iconst 0, 1) := by decide +kernel
theorem dX4_step_15 : decode cX4_step 15 = .ok (.aload 5, 2) := by decide +kernel
theorem dX4_step_17 : decode cX4_step 17 = .ok (.iload_n 2, 1) := by decide +kernel
theorem dX4_step_18 : decode cX4_step 18 = .ok (.invokevirtual 95, 3) := by decide +kernel
theorem dX4_step_21 : decode cX4_step 21 = .ok (.iconst 1, 1) := by decide +kernel
theorem dX4_step_22 : decode cX4_step 22 = .ok (.isub, 1) := by decide +kernel
theorem dX4_step_23 : decode cX4_step 23 = .ok (.invokestatic 58, 3) := by decide +kernel
theorem dX4_step_26 : decode cX4_step 26 = .ok (.ifCond .ne 13, 3) := by decide +kernel
theorem dX4_step_29 : decode cX4_step 29 = .ok (.new 105, 3) := by decide +kernel
theorem dX4_step_32 : decode cX4_step 32 = .ok (.dup, 1) := by decide +kernel
theorem dX4_step_33 : decode cX4_step 33 = .ok (.ldc 93, 2) := by decide +kernel
theorem dX4_step_35 : decode cX4_step 35 = .ok (.invokespecial 109, 3) := by decide +kernel
theorem dX4_step_38 : decode cX4_step 38 = .ok (.athrow, 1) := by decide +kernel
theorem dX4_step_39 : decode cX4_step 39 = .ok (.iload 4, 2) := by decide +kernel
theorem dX4_step_41 : decode cX4_step 41 = .ok (.iconst 0, 1) := by decide +kernel
theorem dX4_step_42 : decode cX4_step 42 = .ok (.iconst 3, 1) := by decide +kernel
theorem dX4_step_43 : decode cX4_step 43 = .ok (.invokestatic 58, 3) := by decide +kernel
theorem dX4_step_46 : decode cX4_step 46 = .ok (.ifCond .ne 13, 3) := by decide +kernel
theorem dX4_step_49 : decode cX4_step 49 = .ok (.new 105, 3) := by decide +kernel
theorem dX4_step_52 : decode cX4_step 52 = .ok (.dup, 1) := by decide +kernel
theorem dX4_step_53 : decode cX4_step 53 = .ok (.ldc 107, 2) := by decide +kernel
theorem dX4_step_55 : decode cX4_step 55 = .ok (.invokespecial 109, 3) := by decide +kernel
theorem dX4_step_58 : decode cX4_step 58 = .ok (.athrow, 1) := by decide +kernel
theorem dX4_step_59 : decode cX4_step 59 = .ok (.aload 5, 2) := by decide +kernel
theorem dX4_step_61 : decode cX4_step 61 = .ok (.iload_n 2, 1) := by decide +kernel
theorem dX4_step_62 : decode cX4_step 62 = .ok (.iload_n 3, 1) := by decide +kernel
theorem dX4_step_63 : decode cX4_step 63 = .ok (.iload 4, 2) := by decide +kernel
theorem dX4_step_65 : decode cX4_step 65 = .ok (.invokevirtual 114, 3) := by decide +kernel
theorem dX4_step_68 : decode cX4_step 68 = .ok (.ireturn, 1) := by decide +kernel
theorem dX4_programs_0 : decode cX4_programs 0 = .ok (.aload_n 0, 1) := by decide +kernel
theorem dX4_programs_1 : decode cX4_programs 1 = .ok (.getfield 15, 3) := by decide +kernel
theorem dX4_programs_4 : decode cX4_programs 4 = .ok (.ireturn, 1) := by decide +kernel
set_option maxRecDepth 20000 in
theorem ggX4_loops_X4_programAt : GoodIn wsX4_loops wsX4_programAt := goodIn_ca (goodIn_r _ [5, 6, 7, 8, 15, 16, 17, 18, 19, 20, 21, 22] (by decide +kernel) (by decide +kernel)) (goodIn_sub (fun _ h => List.mem_cons_of_mem _ (List.mem_append_right _ h)) (by decide +kernel))
set_option maxRecDepth 20000 in
theorem gX4_loops_X4_programAt : GoodIn wsX4_loops (wsV RX4 54 RX4 yX4_programAt wsX4_programAt) := goodIn_app (goodIn_of _ (by decide +kernel)) ggX4_loops_X4_programAt
set_option maxRecDepth 20000 in
theorem ggX4_loops_X1_countLoops : GoodIn wsX4_loops wsX1_countLoops := goodIn_r _ [13, 14, 23, 24] (by decide +kernel) (by decide +kernel)
set_option maxRecDepth 20000 in
theorem gX4_loops_X1_countLoops : GoodIn wsX4_loops (wsV RX4 69 RX1 yX1_countLoops wsX1_countLoops) := goodIn_app (goodIn_of _ (by decide +kernel)) ggX4_loops_X1_countLoops
theorem dX4_loops_0 : decode cX4_loops 0 = .ok (.aload_n 0, 1) := by decide +kernel
theorem dX4_loops_1 : decode cX4_loops 1 = .ok (.iload_n 1, 1) := by decide +kernel
theorem dX4_loops_2 : decode cX4_loops 2 = .ok (.invokevirtual 54, 3) := by decide +kernel
theorem dX4_loops_5 : decode cX4_loops 5 = .ok (.invokevirtual 69, 3) := by decide +kernel
theorem dX4_loops_8 : decode cX4_loops 8 = .ok (.ireturn, 1) := by decide +kernel
theorem dX4_put_0 : decode cX4_put 0 = .ok (.aload_n 0, 1) := by decide +kernel
theorem dX4_put_1 : decode cX4_put 1 = .ok (.getfield 23, 3) := by decide +kernel
theorem dX4_put_4 : decode cX4_put 4 = .ok (.ifCond .lt 15, 3) := by decide +kernel
theorem dX4_put_7 : decode cX4_put 7 = .ok (.aload_n 0, 1) := by decide +kernel
theorem dX4_put_8 : decode cX4_put 8 = .ok (.getfield 23, 3) := by decide +kernel
theorem dX4_put_11 : decode cX4_put 11 = .ok (.aload_n 0, 1) := by decide +kernel
theorem dX4_put_12 : decode cX4_put 12 = .ok (.getfield 19, 3) := by decide +kernel
theorem dX4_put_15 : decode cX4_put 15 = .ok (.arraylength, 1) := by decide +kernel
theorem dX4_put_16 : decode cX4_put 16 = .ok (.if_icmp .lt 13, 3) := by decide +kernel
theorem dX4_put_19 : decode cX4_put 19 = .ok (.new 73, 3) := by decide +kernel
theorem dX4_put_22 : decode cX4_put 22 = .ok (.dup, 1) := by decide +kernel
theorem dX4_put_23 : decode cX4_put 23 = .ok (.ldc 118, 2) := by decide +kernel
theorem dX4_put_25 : decode cX4_put 25 = .ok (.invokespecial 77, 3) := by decide +kernel
theorem dX4_put_28 : decode cX4_put 28 = .ok (.athrow, 1) := by decide +kernel
theorem dX4_put_29 : decode cX4_put 29 = .ok (.aload_n 0, 1) := by decide +kernel
theorem dX4_put_30 : decode cX4_put 30 = .ok (.getfield 19, 3) := by decide +kernel
theorem dX4_put_33 : decode cX4_put 33 = .ok (.aload_n 0, 1) := by decide +kernel
theorem dX4_put_34 : decode cX4_put 34 = .ok (.getfield 23, 3) := by decide +kernel
theorem dX4_put_37 : decode cX4_put 37 = .ok (.lload_n 1, 1) := by decide +kernel
theorem dX4_put_38 : decode cX4_put 38 = .ok (.lastore, 1) := by decide +kernel
theorem dX4_put_39 : decode cX4_put 39 = .ok (.aload_n 0, 1) := by decide +kernel
theorem dX4_put_40 : decode cX4_put 40 = .ok (.dup, 1) := by decide +kernel
theorem dX4_put_41 : decode cX4_put 41 = .ok (.getfield 23, 3) := by decide +kernel
theorem dX4_put_44 : decode cX4_put 44 = .ok (.iconst 1, 1) := by decide +kernel
theorem dX4_put_45 : decode cX4_put 45 = .ok (.iadd, 1) := by decide +kernel
theorem dX4_put_46 : decode cX4_put 46 = .ok (.putfield 23, 3) := by decide +kernel
theorem dX4_put_49 : decode cX4_put 49 = .ok (.aload_n 0, 1) := by decide +kernel
theorem dX4_put_50 : decode cX4_put 50 = .ok (.getfield 23, 3) := by decide +kernel
theorem dX4_put_53 : decode cX4_put 53 = .ok (.ireturn, 1) := by decide +kernel
theorem dX4_empty_0 : decode cX4_empty 0 = .ok (.aload_n 0, 1) := by decide +kernel
theorem dX4_empty_1 : decode cX4_empty 1 = .ok (.getfield 23, 3) := by decide +kernel
theorem dX4_empty_4 : decode cX4_empty 4 = .ok (.istore_n 1, 1) := by decide +kernel
theorem dX4_empty_5 : decode cX4_empty 5 = .ok (.aload_n 0, 1) := by decide +kernel
theorem dX4_empty_6 : decode cX4_empty 6 = .ok (.iconst 0, 1) := by decide +kernel
theorem dX4_empty_7 : decode cX4_empty 7 = .ok (.putfield 23, 3) := by decide +kernel
theorem dX4_empty_10 : decode cX4_empty 10 = .ok (.iload_n 1, 1) := by decide +kernel
theorem dX4_empty_11 : decode cX4_empty 11 = .ok (.ireturn, 1) := by decide +kernel
set_option maxRecDepth 20000 in
theorem ggX4_run_X4_programAt : GoodIn wsX4_run wsX4_programAt := goodIn_ca (goodIn_r _ [8, 9, 10, 11, 74, 75, 76, 77, 78, 79, 80, 81] (by decide +kernel) (by decide +kernel)) (goodIn_sub (fun _ h => List.mem_cons_of_mem _ (List.mem_append_right _ h)) (by decide +kernel))
set_option maxRecDepth 20000 in
theorem gX4_run_X4_programAt : GoodIn wsX4_run (wsV RX4 54 RX4 yX4_programAt wsX4_programAt) := goodIn_app (goodIn_of _ (by decide +kernel)) ggX4_run_X4_programAt
set_option maxRecDepth 20000 in
theorem ggX4_run_X3_goThrough : GoodIn wsX4_run wsX3_goThrough := goodIn_r _ [16, 17, 18, 19, 20, 21, 22, 23, 24, 25, 26, 27, 28, 15, 29, 30, 31, 32, 33, 34, 35, 36, 37, 38, 39, 40, 41, 42, 43, 44, 45, 46, 47, 48, 49, 50, 51, 52, 53, 54, 55, 56, 7, 57, 58, 59, 60, 61, 62, 63, 64, 65, 66, 67, 68, 69, 82, 83, 84, 85, 86] (by decide +kernel) (by decide +kernel)
set_option maxRecDepth 20000 in
theorem gX4_run_X3_goThrough : GoodIn wsX4_run (wsV RX4 120 RX3 yX3_goThrough wsX3_goThrough) := goodIn_app (goodIn_of _ (by decide +kernel)) ggX4_run_X3_goThrough
set_option maxRecDepth 20000 in
theorem ggX4_run_X3_codeOfExit : GoodIn wsX4_run wsX3_codeOfExit := goodIn_r _ [73, 19, 82, 83, 84] (by decide +kernel) (by decide +kernel)
set_option maxRecDepth 20000 in
theorem gX4_run_X3_codeOfExit : GoodIn wsX4_run (wsV RX4 124 RX3 yX3_codeOfExit wsX3_codeOfExit) := goodIn_app (goodIn_of _ (by decide +kernel)) ggX4_run_X3_codeOfExit
theorem dX4_run_0 : decode cX4_run 0 = .ok (.aload_n 0, 1) := by decide +kernel
theorem dX4_run_1 : decode cX4_run 1 = .ok (.iload_n 1, 1) := by decide +kernel
theorem dX4_run_2 : decode cX4_run 2 = .ok (.invokevirtual 54, 3) := by decide +kernel
theorem dX4_run_5 : decode cX4_run 5 = .ok (.astore_n 2, 1) := by decide +kernel
theorem dX4_run_6 : decode cX4_run 6 = .ok (.aload_n 0, 1) := by decide +kernel
theorem dX4_run_7 : decode cX4_run 7 = .ok (.getfield 29, 3) := by decide +kernel
theorem dX4_run_10 : decode cX4_run 10 = .ok (.aload_n 2, 1) := by decide +kernel
theorem dX4_run_11 : decode cX4_run 11 = .ok (.aload_n 0, 1) := by decide +kernel
theorem dX4_run_12 : decode cX4_run 12 = .ok (.getfield 19, 3) := by decide +kernel
theorem dX4_run_15 : decode cX4_run 15 = .ok (.aload_n 0, 1) := by decide +kernel
theorem dX4_run_16 : decode cX4_run 16 = .ok (.getfield 23, 3) := by decide +kernel
theorem dX4_run_19 : decode cX4_run 19 = .ok (.invokevirtual 120, 3) := by decide +kernel
theorem dX4_run_22 : decode cX4_run 22 = .ok (.aload_n 0, 1) := by decide +kernel
theorem dX4_run_23 : decode cX4_run 23 = .ok (.getfield 29, 3) := by decide +kernel
theorem dX4_run_26 : decode cX4_run 26 = .ok (.invokevirtual 124, 3) := by decide +kernel
theorem dX4_run_29 : decode cX4_run 29 = .ok (.ireturn, 1) := by decide +kernel
set_option maxRecDepth 20000 in
theorem ggX4_ran_X4_isBetween : GoodIn wsX4_ran wsX4_isBetween := goodIn_r _ [7] (by decide +kernel) (by decide +kernel)
set_option maxRecDepth 20000 in
theorem gX4_ran_X4_isBetween : GoodIn wsX4_ran (va_wsS RX4 58 yX4_isBetween wsX4_isBetween) := goodIn_app (goodIn_of _ (by decide +kernel)) ggX4_ran_X4_isBetween
set_option maxRecDepth 20000 in
theorem ggX4_ran_X3_fact : GoodIn wsX4_ran wsX3_fact := goodIn_r _ [12, 13, 14, 15, 16, 11, 17, 18, 27, 28, 29] (by decide +kernel) (by decide +kernel)
set_option maxRecDepth 20000 in
theorem gX4_ran_X3_fact : GoodIn wsX4_ran (wsV RX4 129 RX3 yX3_fact wsX3_fact) := goodIn_app (goodIn_of _ (by decide +kernel)) ggX4_ran_X3_fact
theorem dX4_ran_0 : decode cX4_ran 0 = .ok (.iload_n 1, 1) := by decide +kernel
theorem dX4_ran_1 : decode cX4_ran 1 = .ok (.iconst 0, 1) := by decide +kernel
theorem dX4_ran_2 : decode cX4_ran 2 = .ok (.iconst 4, 1) := by decide +kernel
theorem dX4_ran_3 : decode cX4_ran 3 = .ok (.invokestatic 58, 3) := by decide +kernel
theorem dX4_ran_6 : decode cX4_ran 6 = .ok (.ifCond .ne 13, 3) := by decide +kernel
theorem dX4_ran_9 : decode cX4_ran 9 = .ok (.new 105, 3) := by decide +kernel
theorem dX4_ran_12 : decode cX4_ran 12 = .ok (.dup, 1) := by decide +kernel
theorem dX4_ran_13 : decode cX4_ran 13 = .ok (.ldc 127, 2) := by decide +kernel
theorem dX4_ran_15 : decode cX4_ran 15 = .ok (.invokespecial 109, 3) := by decide +kernel
theorem dX4_ran_18 : decode cX4_ran 18 = .ok (.athrow, 1) := by decide +kernel
theorem dX4_ran_19 : decode cX4_ran 19 = .ok (.aload_n 0, 1) := by decide +kernel
theorem dX4_ran_20 : decode cX4_ran 20 = .ok (.getfield 29, 3) := by decide +kernel
theorem dX4_ran_23 : decode cX4_ran 23 = .ok (.iload_n 1, 1) := by decide +kernel
theorem dX4_ran_24 : decode cX4_ran 24 = .ok (.invokevirtual 129, 3) := by decide +kernel
theorem dX4_ran_27 : decode cX4_ran 27 = .ok (.lreturn, 1) := by decide +kernel
set_option maxRecDepth 20000 in
theorem ggX4_reason_X4_programAt : GoodIn wsX4_reason wsX4_programAt := goodIn_ca (goodIn_r _ [5, 6, 7, 8, 88, 89, 90, 91, 92, 93, 94, 95] (by decide +kernel) (by decide +kernel)) (goodIn_sub (fun _ h => List.mem_cons_of_mem _ (List.mem_append_left _ (List.mem_append_right _ h))) (by decide +kernel))
set_option maxRecDepth 20000 in
theorem gX4_reason_X4_programAt : GoodIn wsX4_reason (wsV RX4 54 RX4 yX4_programAt wsX4_programAt) := goodIn_app (goodIn_of _ (by decide +kernel)) ggX4_reason_X4_programAt
set_option maxRecDepth 20000 in
theorem ggX4_reason_X4_refuseOtherChanges : GoodIn wsX4_reason wsX4_refuseOtherChanges := goodIn_ca (goodIn_ca (goodIn_r _ [11, 6, 7, 12, 13, 14, 15, 4, 16, 17, 18, 19, 20, 21, 22, 23, 24, 25, 26, 27, 28, 29, 30, 31, 32, 33, 34, 35, 36, 37, 38, 39, 40, 41, 96, 97] (by decide +kernel) (by decide +kernel)) (goodIn_sub (fun _ h => List.mem_cons_of_mem _ (List.mem_append_left _ (List.mem_append_right _ h))) (by decide +kernel))) (goodIn_sub (fun _ h => List.mem_cons_of_mem _ (List.mem_append_right _ h)) (by decide +kernel))
set_option maxRecDepth 20000 in
theorem gX4_reason_X4_refuseOtherChanges : GoodIn wsX4_reason (va_wsS RX4 133 yX4_refuseOtherChanges wsX4_refuseOtherChanges) := goodIn_app (goodIn_of _ (by decide +kernel)) ggX4_reason_X4_refuseOtherChanges
set_option maxRecDepth 20000 in
theorem ggX4_reason_X2_against : GoodIn wsX4_reason wsX2_against := goodIn_r _ [45, 46, 47, 44, 48, 49, 50, 51, 52, 34, 35, 23, 36, 37, 38, 39, 40, 41, 53, 54, 55, 56, 30, 31, 32, 33, 57, 58, 59, 60, 61, 62, 63, 64, 65, 66, 67, 68, 69, 70, 71, 72, 73, 4, 74, 75, 76, 77, 78, 21, 22, 24, 25, 79, 80, 81, 82, 83, 84, 85, 86, 87, 96, 97] (by decide +kernel) (by decide +kernel)
set_option maxRecDepth 20000 in
theorem gX4_reason_X2_against : GoodIn wsX4_reason (va_wsS RX4 137 yX2_against wsX2_against) := goodIn_app (goodIn_of _ (by decide +kernel)) ggX4_reason_X2_against
theorem dX4_reason_0 : decode cX4_reason 0 = .ok (.aload_n 0, 1) := by decide +kernel
theorem dX4_reason_1 : decode cX4_reason 1 = .ok (.iload_n 1, 1) := by decide +kernel
theorem dX4_reason_2 : decode cX4_reason 2 = .ok (.invokevirtual 54, 3) := by decide +kernel
theorem dX4_reason_5 : decode cX4_reason 5 = .ok (.astore 5, 2) := by decide +kernel
theorem dX4_reason_7 : decode cX4_reason 7 = .ok (.aload 5, 2) := by decide +kernel
theorem dX4_reason_9 : decode cX4_reason 9 = .ok (.iload_n 2, 1) := by decide +kernel
theorem dX4_reason_10 : decode cX4_reason 10 = .ok (.iload_n 3, 1) := by decide +kernel
theorem dX4_reason_11 : decode cX4_reason 11 = .ok (.iload 4, 2) := by decide +kernel
theorem dX4_reason_13 : decode cX4_reason 13 = .ok (.invokestatic 133, 3) := by decide +kernel
theorem dX4_reason_16 : decode cX4_reason 16 = .ok (.aload 5, 2) := by decide +kernel
theorem dX4_reason_18 : decode cX4_reason 18 = .ok (.iload_n 2, 1) := by decide +kernel
theorem dX4_reason_19 : decode cX4_reason 19 = .ok (.iload_n 3, 1) := by decide +kernel
theorem dX4_reason_20 : decode cX4_reason 20 = .ok (.iload 4, 2) := by decide +kernel
theorem dX4_reason_22 : decode cX4_reason 22 = .ok (.invokestatic 137, 3) := by decide +kernel
theorem dX4_reason_25 : decode cX4_reason 25 = .ok (.ireturn, 1) := by decide +kernel
set_option maxRecDepth 20000 in
theorem ggX4_change_X4_programAt : GoodIn wsX4_change wsX4_programAt := goodIn_ca (goodIn_r _ [10, 11, 12, 13, 166, 167, 168, 169, 170, 171, 172, 173] (by decide +kernel) (by decide +kernel)) (goodIn_sub (fun _ h => List.mem_cons_of_mem _ (List.mem_append_left _ (List.mem_append_right _ h))) (by decide +kernel))
set_option maxRecDepth 20000 in
theorem gX4_change_X4_programAt : GoodIn wsX4_change (wsV RX4 54 RX4 yX4_programAt wsX4_programAt) := goodIn_app (goodIn_of _ (by decide +kernel)) ggX4_change_X4_programAt
set_option maxRecDepth 20000 in
theorem ggX4_change_X4_refuseOtherChanges : GoodIn wsX4_change wsX4_refuseOtherChanges := goodIn_ca (goodIn_ca (goodIn_r _ [16, 11, 12, 17, 18, 19, 20, 9, 21, 22, 23, 24, 25, 26, 27, 5, 28, 29, 30, 31, 32, 33, 34, 35, 36, 37, 38, 39, 40, 41, 42, 43, 44, 45, 164, 165] (by decide +kernel) (by decide +kernel)) (goodIn_sub (fun _ h => List.mem_cons_of_mem _ (List.mem_append_left _ (List.mem_append_right _ h))) (by decide +kernel))) (goodIn_sub (fun _ h => List.mem_cons_of_mem _ (List.mem_append_right _ h)) (by decide +kernel))
set_option maxRecDepth 20000 in
theorem gX4_change_X4_refuseOtherChanges : GoodIn wsX4_change (va_wsS RX4 133 yX4_refuseOtherChanges wsX4_refuseOtherChanges) := goodIn_app (goodIn_of _ (by decide +kernel)) ggX4_change_X4_refuseOtherChanges
set_option maxRecDepth 20000 in
theorem ggX4_change_X2_against : GoodIn wsX4_change wsX2_against := goodIn_r _ [49, 50, 51, 48, 52, 53, 54, 55, 56, 38, 39, 5, 40, 41, 42, 43, 44, 45, 57, 58, 59, 60, 34, 35, 36, 37, 61, 62, 63, 64, 65, 66, 67, 68, 69, 70, 71, 72, 73, 74, 75, 76, 77, 9, 78, 79, 80, 81, 82, 26, 27, 28, 29, 83, 84, 85, 86, 87, 88, 89, 90, 91, 164, 165] (by decide +kernel) (by decide +kernel)
set_option maxRecDepth 20000 in
theorem gX4_change_X2_against : GoodIn wsX4_change (va_wsS RX4 137 yX2_against wsX2_against) := goodIn_app (goodIn_of _ (by decide +kernel)) ggX4_change_X2_against
set_option maxRecDepth 20000 in
theorem ggX4_change_X4_refuseEleventhProgram : GoodIn wsX4_change wsX4_refuseEleventhProgram := goodIn_ca (goodIn_r _ [95, 1, 2, 96, 166, 167, 168, 169, 170, 171, 172, 173] (by decide +kernel) (by decide +kernel)) (goodIn_sub (fun _ h => List.mem_cons_of_mem _ (List.mem_append_left _ (List.mem_append_left _ (List.mem_append_right _ h)))) (by decide +kernel))
set_option maxRecDepth 20000 in
theorem gX4_change_X4_refuseEleventhProgram : GoodIn wsX4_change (wsV RX4 46 RX4 yX4_refuseEleventhProgram wsX4_refuseEleventhProgram) := goodIn_app (goodIn_of _ (by decide +kernel)) ggX4_change_X4_refuseEleventhProgram
set_option maxRecDepth 20000 in
theorem ggX4_change_X1_init : GoodIn wsX4_change wsX1_init := goodIn_r _ [98, 99, 100, 101, 102, 45, 29, 164, 165] (by decide +kernel) (by decide +kernel)
set_option maxRecDepth 20000 in
theorem gX4_change_X1_init_n49 : GoodIn wsX4_change (wsX1_init) := ggX4_change_X1_init
set_option maxRecDepth 20000 in
theorem ggX4_change_X1_becomeLike : GoodIn wsX4_change wsX1_becomeLike := goodIn_r _ [106, 45, 29, 41, 42, 43, 5, 44, 164, 165] (by decide +kernel) (by decide +kernel)
set_option maxRecDepth 20000 in
theorem gX4_change_X1_becomeLike : GoodIn wsX4_change (wsV RX4 145 RX1 yX1_becomeLike wsX1_becomeLike) := goodIn_app (goodIn_of _ (by decide +kernel)) ggX4_change_X1_becomeLike
set_option maxRecDepth 20000 in
theorem ggX4_change_X1_makeChange : GoodIn wsX4_change wsX1_makeChange := goodIn_r _ [110, 111, 112, 113, 5, 114, 115, 34, 35, 36, 37, 38, 39, 40, 41, 42, 43, 44, 45, 116, 117, 118, 119, 120, 121, 122, 123, 124, 125, 126, 127, 128, 129, 130, 131, 132, 133, 134, 29, 135, 136, 137, 138, 139, 140, 141, 142, 143, 144, 145, 146, 147, 148, 149, 150, 151, 152, 153, 154, 155, 156, 157, 158, 159, 65, 66, 67, 164, 165] (by decide +kernel) (by decide +kernel)
set_option maxRecDepth 20000 in
theorem gX4_change_X1_makeChange : GoodIn wsX4_change (wsV RX4 149 RX1 yX1_makeChange wsX1_makeChange) := goodIn_app (goodIn_of _ (by decide +kernel)) ggX4_change_X1_makeChange
set_option maxRecDepth 20000 in
theorem ggX4_change_X4_keepProgram : GoodIn wsX4_change wsX4_keepProgram := goodIn_r _ [163, 96, 13, 166, 167, 168, 169, 170, 171, 172, 173] (by decide +kernel) (by decide +kernel)
set_option maxRecDepth 20000 in
theorem gX4_change_X4_keepProgram : GoodIn wsX4_change (wsV RX4 50 RX4 yX4_keepProgram wsX4_keepProgram) := goodIn_app (goodIn_of _ (by decide +kernel)) ggX4_change_X4_keepProgram
theorem dX4_change_0 : decode cX4_change 0 = .ok (.aload_n 0, 1) := by decide +kernel
theorem dX4_change_1 : decode cX4_change 1 = .ok (.iload_n 1, 1) := by decide +kernel
theorem dX4_change_2 : decode cX4_change 2 = .ok (.invokevirtual 54, 3) := by decide +kernel
theorem dX4_change_5 : decode cX4_change 5 = .ok (.astore 5, 2) := by decide +kernel
theorem dX4_change_7 : decode cX4_change 7 = .ok (.aload 5, 2) := by decide +kernel
theorem dX4_change_9 : decode cX4_change 9 = .ok (.iload_n 2, 1) := by decide +kernel
theorem dX4_change_10 : decode cX4_change 10 = .ok (.iload_n 3, 1) := by decide +kernel
theorem dX4_change_11 : decode cX4_change 11 = .ok (.iload 4, 2) := by decide +kernel
theorem dX4_change_13 : decode cX4_change 13 = .ok (.invokestatic 133, 3) := by decide +kernel
theorem dX4_change_16 : decode cX4_change 16 = .ok (.aload 5, 2) := by decide +kernel
theorem dX4_change_18 : decode cX4_change 18 = .ok (.iload_n 2, 1) := by decide +kernel
theorem dX4_change_19 : decode cX4_change 19 = .ok (.iload_n 3, 1) := by decide +kernel
theorem dX4_change_20 : decode cX4_change 20 = .ok (.iload 4, 2) := by decide +kernel
theorem dX4_change_22 : decode cX4_change 22 = .ok (.invokestatic 137, 3) := by decide +kernel
theorem dX4_change_25 : decode cX4_change 25 = .ok (.ifCond .eq 13, 3) := by decide +kernel
theorem dX4_change_28 : decode cX4_change 28 = .ok (.new 73, 3) := by decide +kernel
theorem dX4_change_31 : decode cX4_change 31 = .ok (.dup, 1) := by decide +kernel
theorem dX4_change_32 : decode cX4_change 32 = .ok (.ldc 143, 2) := by decide +kernel
theorem dX4_change_34 : decode cX4_change 34 = .ok (.invokespecial 77, 3) := by decide +kernel
theorem dX4_change_37 : decode cX4_change 37 = .ok (.athrow, 1) := by decide +kernel
theorem dX4_change_38 : decode cX4_change 38 = .ok (.aload_n 0, 1) := by decide +kernel
theorem dX4_change_39 : decode cX4_change 39 = .ok (.invokevirtual 46, 3) := by decide +kernel
theorem dX4_change_42 : decode cX4_change 42 = .ok (.new 9, 3) := by decide +kernel
theorem dX4_change_45 : decode cX4_change 45 = .ok (.dup, 1) := by decide +kernel
theorem dX4_change_46 : decode cX4_change 46 = .ok (.invokespecial 49, 3) := by decide +kernel
theorem dX4_change_49 : decode cX4_change 49 = .ok (.astore 6, 2) := by decide +kernel
theorem dX4_change_51 : decode cX4_change 51 = .ok (.aload 6, 2) := by decide +kernel
theorem dX4_change_53 : decode cX4_change 53 = .ok (.aload 5, 2) := by decide +kernel
theorem dX4_change_55 : decode cX4_change 55 = .ok (.invokevirtual 145, 3) := by decide +kernel
theorem dX4_change_58 : decode cX4_change 58 = .ok (.aload 6, 2) := by decide +kernel
theorem dX4_change_60 : decode cX4_change 60 = .ok (.iload_n 2, 1) := by decide +kernel
theorem dX4_change_61 : decode cX4_change 61 = .ok (.iload_n 3, 1) := by decide +kernel
theorem dX4_change_62 : decode cX4_change 62 = .ok (.iload 4, 2) := by decide +kernel
theorem dX4_change_64 : decode cX4_change 64 = .ok (.invokevirtual 149, 3) := by decide +kernel
theorem dX4_change_67 : decode cX4_change 67 = .ok (.aload_n 0, 1) := by decide +kernel
theorem dX4_change_68 : decode cX4_change 68 = .ok (.aload 6, 2) := by decide +kernel
theorem dX4_change_70 : decode cX4_change 70 = .ok (.invokevirtual 50, 3) := by decide +kernel
theorem dX4_change_73 : decode cX4_change 73 = .ok (.ireturn, 1) := by decide +kernel
set_option maxRecDepth 20000 in
theorem ggX4_joinAll_X4_programAt : GoodIn wsX4_joinAll wsX4_programAt := goodIn_ca (goodIn_r _ [5, 6, 7, 8, 84, 85, 86, 87, 88, 89, 90, 91] (by decide +kernel) (by decide +kernel)) (goodIn_sub (fun _ h => List.mem_cons_of_mem _ (List.mem_append_right _ h)) (by decide +kernel))
set_option maxRecDepth 20000 in
theorem gX4_joinAll_X4_programAt : GoodIn wsX4_joinAll (wsV RX4 54 RX4 yX4_programAt wsX4_programAt) := goodIn_app (goodIn_of _ (by decide +kernel)) ggX4_joinAll_X4_programAt
set_option maxRecDepth 20000 in
theorem ggX4_joinAll_X4_firstToJoin : GoodIn wsX4_joinAll wsX4_firstToJoin := goodIn_r _ [11, 12, 13, 14, 15, 16, 17, 18, 19, 20, 21, 22, 23, 24, 25, 26, 27, 28, 29, 30, 31, 32, 33, 34, 35, 36, 37, 38, 39, 40, 41, 42, 43, 44, 45, 46, 47, 48, 49, 50, 51, 52, 53, 54, 55, 56, 57, 58, 4, 59, 92, 93] (by decide +kernel) (by decide +kernel)
set_option maxRecDepth 20000 in
theorem gX4_joinAll_X4_firstToJoin : GoodIn wsX4_joinAll (va_wsS RX4 153 yX4_firstToJoin wsX4_firstToJoin) := goodIn_app (goodIn_of _ (by decide +kernel)) ggX4_joinAll_X4_firstToJoin
set_option maxRecDepth 20000 in
theorem ggX4_joinAll_X1_joinWithNext : GoodIn wsX4_joinAll wsX1_joinWithNext := goodIn_r _ [63, 64, 38, 39, 15, 40, 41, 26, 27, 28, 29, 30, 31, 32, 33, 65, 66, 67, 68, 69, 70, 71, 72, 73, 74, 75, 76, 77, 78, 79, 80, 81, 82, 83, 17, 92, 93] (by decide +kernel) (by decide +kernel)
set_option maxRecDepth 20000 in
theorem gX4_joinAll_X1_joinWithNext : GoodIn wsX4_joinAll (wsV RX4 156 RX1 yX1_joinWithNext wsX1_joinWithNext) := goodIn_app (goodIn_of _ (by decide +kernel)) ggX4_joinAll_X1_joinWithNext
theorem dX4_joinAll_0 : decode cX4_joinAll 0 = .ok (.aload_n 0, 1) := by decide +kernel
theorem dX4_joinAll_1 : decode cX4_joinAll 1 = .ok (.iload_n 1, 1) := by decide +kernel
theorem dX4_joinAll_2 : decode cX4_joinAll 2 = .ok (.invokevirtual 54, 3) := by decide +kernel
theorem dX4_joinAll_5 : decode cX4_joinAll 5 = .ok (.astore_n 2, 1) := by decide +kernel
theorem dX4_joinAll_6 : decode cX4_joinAll 6 = .ok (.iconst 0, 1) := by decide +kernel
theorem dX4_joinAll_7 : decode cX4_joinAll 7 = .ok (.istore_n 3, 1) := by decide +kernel
theorem dX4_joinAll_8 : decode cX4_joinAll 8 = .ok (.iload_n 3, 1) := by decide +kernel
theorem dX4_joinAll_9 : decode cX4_joinAll 9 = .ok (.bipush 8, 2) := by decide +kernel
theorem dX4_joinAll_11 : decode cX4_joinAll 11 = .ok (.if_icmp .ge 28, 3) := by decide +kernel
theorem dX4_joinAll_14 : decode cX4_joinAll 14 = .ok (.aload_n 2, 1) := by decide +kernel
theorem dX4_joinAll_15 : decode cX4_joinAll 15 = .ok (.invokestatic 153, 3) := by decide +kernel
theorem dX4_joinAll_18 : decode cX4_joinAll 18 = .ok (.istore 4, 2) := by decide +kernel
theorem dX4_joinAll_20 : decode cX4_joinAll 20 = .ok (.iload 4, 2) := by decide +kernel
theorem dX4_joinAll_22 : decode cX4_joinAll 22 = .ok (.ifCond .ge 5, 3) := by decide +kernel
theorem dX4_joinAll_25 : decode cX4_joinAll 25 = .ok (.iload_n 3, 1) := by decide +kernel
theorem dX4_joinAll_26 : decode cX4_joinAll 26 = .ok (.ireturn, 1) := by decide +kernel
theorem dX4_joinAll_27 : decode cX4_joinAll 27 = .ok (.aload_n 2, 1) := by decide +kernel
theorem dX4_joinAll_28 : decode cX4_joinAll 28 = .ok (.iload 4, 2) := by decide +kernel
theorem dX4_joinAll_30 : decode cX4_joinAll 30 = .ok (.invokevirtual 156, 3) := by decide +kernel
theorem dX4_joinAll_33 : decode cX4_joinAll 33 = .ok (.iinc 3 1, 3) := by decide +kernel
theorem dX4_joinAll_36 : decode cX4_joinAll 36 = .ok (.goto (-28), 3) := by decide +kernel
theorem dX4_joinAll_39 : decode cX4_joinAll 39 = .ok (.iload_n 3, 1) := by decide +kernel
theorem dX4_joinAll_40 : decode cX4_joinAll 40 = .ok (.ireturn, 1) := by decide +kernel
set_option maxRecDepth 20000 in
theorem ggX4_differ_X4_programAt : GoodIn wsX4_differ wsX4_programAt := goodIn_ca (goodIn_r _ [6, 7, 8, 9, 98, 99, 100, 101, 102, 103, 104, 105] (by decide +kernel) (by decide +kernel)) (goodIn_sub (fun _ h => List.mem_cons_of_mem _ (List.mem_append_left _ (List.mem_append_right _ h))) (by decide +kernel))
set_option maxRecDepth 20000 in
theorem gX4_differ_X4_programAt : GoodIn wsX4_differ (wsV RX4 54 RX4 yX4_programAt wsX4_programAt) := goodIn_app (goodIn_of _ (by decide +kernel)) ggX4_differ_X4_programAt
set_option maxRecDepth 20000 in
theorem ggX4_differ_X4_checkedRows : GoodIn wsX4_differ wsX4_checkedRows := goodIn_ca (goodIn_r _ [12, 13, 14, 15, 16, 5, 17] (by decide +kernel) (by decide +kernel)) (goodIn_sub (fun _ h => List.mem_cons_of_mem _ (List.mem_append_right _ h)) (by decide +kernel))
set_option maxRecDepth 20000 in
theorem gX4_differ_X4_checkedRows : GoodIn wsX4_differ (va_wsS RX4 160 yX4_checkedRows wsX4_checkedRows) := goodIn_app (goodIn_of _ (by decide +kernel)) ggX4_differ_X4_checkedRows
set_option maxRecDepth 20000 in
theorem ggX4_differ_X0_begin : GoodIn wsX4_differ wsX0_begin := goodIn_r _ [22, 23, 24, 25, 106, 107, 108] (by decide +kernel) (by decide +kernel)
set_option maxRecDepth 20000 in
theorem gX4_differ_X0_begin : GoodIn wsX4_differ (wsV RX4 163 RX0 yX0_begin wsX0_begin) := goodIn_app (goodIn_of _ (by decide +kernel)) ggX4_differ_X0_begin
set_option maxRecDepth 20000 in
theorem ggX4_differ_X4_answerTheSame : GoodIn wsX4_differ wsX4_answerTheSame := goodIn_r _ [29, 30, 1, 31, 32, 33, 34, 35, 36, 37, 38, 39, 40, 41, 42, 43, 44, 45, 46, 47, 48, 49, 50, 51, 52, 53, 54, 55, 56, 57, 58, 59, 60, 61, 62, 63, 64, 65, 66, 67, 68, 69, 70, 71, 72, 73, 74, 75, 76, 5, 77, 78, 79, 80, 81, 82, 83, 84, 85, 86, 87, 88, 89, 90, 91, 92, 93, 98, 99, 100, 101, 102, 103, 104, 105, 106, 107, 108, 109, 110, 111, 112, 113] (by decide +kernel) (by decide +kernel)
set_option maxRecDepth 20000 in
theorem gX4_differ_X4_answerTheSame : GoodIn wsX4_differ (wsV RX4 167 RX4 yX4_answerTheSame wsX4_answerTheSame) := goodIn_app (goodIn_of _ (by decide +kernel)) ggX4_differ_X4_answerTheSame
set_option maxRecDepth 20000 in
theorem ggX4_differ_X0_goOn : GoodIn wsX4_differ wsX0_goOn := goodIn_r _ [97, 23, 25, 24, 106, 107, 108] (by decide +kernel) (by decide +kernel)
set_option maxRecDepth 20000 in
theorem gX4_differ_X0_goOn : GoodIn wsX4_differ (wsV RX4 171 RX0 yX0_goOn wsX0_goOn) := goodIn_app (goodIn_of _ (by decide +kernel)) ggX4_differ_X0_goOn
theorem dX4_differ_0 : decode cX4_differ 0 = .ok (.aload_n 0, 1) := by decide +kernel
theorem dX4_differ_1 : decode cX4_differ 1 = .ok (.iload_n 1, 1) := by decide +kernel
theorem dX4_differ_2 : decode cX4_differ 2 = .ok (.invokevirtual 54, 3) := by decide +kernel
theorem dX4_differ_5 : decode cX4_differ 5 = .ok (.astore 5, 2) := by decide +kernel
theorem dX4_differ_7 : decode cX4_differ 7 = .ok (.aload_n 0, 1) := by decide +kernel
theorem dX4_differ_8 : decode cX4_differ 8 = .ok (.iload_n 2, 1) := by decide +kernel
theorem dX4_differ_9 : decode cX4_differ 9 = .ok (.invokevirtual 54, 3) := by decide +kernel
theorem dX4_differ_12 : decode cX4_differ 12 = .ok (.astore 6, 2) := by decide +kernel
theorem dX4_differ_14 : decode cX4_differ 14 = .ok (.iload_n 3, 1) := by decide +kernel
theorem dX4_differ_15 : decode cX4_differ 15 = .ok (.iload 4, 2) := by decide +kernel
theorem dX4_differ_17 : decode cX4_differ 17 = .ok (.invokestatic 160, 3) := by decide +kernel
theorem dX4_differ_20 : decode cX4_differ 20 = .ok (.istore 7, 2) := by decide +kernel
theorem dX4_differ_22 : decode cX4_differ 22 = .ok (.iconst 0, 1) := by decide +kernel
theorem dX4_differ_23 : decode cX4_differ 23 = .ok (.istore 8, 2) := by decide +kernel
theorem dX4_differ_25 : decode cX4_differ 25 = .ok (.aload_n 0, 1) := by decide +kernel
theorem dX4_differ_26 : decode cX4_differ 26 = .ok (.getfield 42, 3) := by decide +kernel
theorem dX4_differ_29 : decode cX4_differ 29 = .ok (.iload_n 3, 1) := by decide +kernel
theorem dX4_differ_30 : decode cX4_differ 30 = .ok (.iload 4, 2) := by decide +kernel
theorem dX4_differ_32 : decode cX4_differ 32 = .ok (.invokevirtual 163, 3) := by decide +kernel
theorem dX4_differ_35 : decode cX4_differ 35 = .ok (.iconst 0, 1) := by decide +kernel
theorem dX4_differ_36 : decode cX4_differ 36 = .ok (.istore 9, 2) := by decide +kernel
theorem dX4_differ_38 : decode cX4_differ 38 = .ok (.iload 9, 2) := by decide +kernel
theorem dX4_differ_40 : decode cX4_differ 40 = .ok (.iload 7, 2) := by decide +kernel
theorem dX4_differ_42 : decode cX4_differ 42 = .ok (.if_icmp .ge 30, 3) := by decide +kernel
theorem dX4_differ_45 : decode cX4_differ 45 = .ok (.aload_n 0, 1) := by decide +kernel
theorem dX4_differ_46 : decode cX4_differ 46 = .ok (.aload 5, 2) := by decide +kernel
theorem dX4_differ_48 : decode cX4_differ 48 = .ok (.aload 6, 2) := by decide +kernel
theorem dX4_differ_50 : decode cX4_differ 50 = .ok (.invokevirtual 167, 3) := by decide +kernel
theorem dX4_differ_53 : decode cX4_differ 53 = .ok (.ifCond .ne 6, 3) := by decide +kernel
theorem dX4_differ_56 : decode cX4_differ 56 = .ok (.iinc 8 1, 3) := by decide +kernel
theorem dX4_differ_59 : decode cX4_differ 59 = .ok (.aload_n 0, 1) := by decide +kernel
theorem dX4_differ_60 : decode cX4_differ 60 = .ok (.getfield 42, 3) := by decide +kernel
theorem dX4_differ_63 : decode cX4_differ 63 = .ok (.invokevirtual 171, 3) := by decide +kernel
theorem dX4_differ_66 : decode cX4_differ 66 = .ok (.iinc 9 1, 3) := by decide +kernel
theorem dX4_differ_69 : decode cX4_differ 69 = .ok (.goto (-31), 3) := by decide +kernel
theorem dX4_differ_72 : decode cX4_differ 72 = .ok (.iload 8, 2) := by decide +kernel
theorem dX4_differ_74 : decode cX4_differ 74 = .ok (.ireturn, 1) := by decide +kernel
set_option maxRecDepth 20000 in
theorem ggX4_firstCase_X4_programAt : GoodIn wsX4_firstCase wsX4_programAt := goodIn_ca (goodIn_r _ [6, 7, 8, 9, 98, 99, 100, 101, 102, 103, 104, 105] (by decide +kernel) (by decide +kernel)) (goodIn_sub (fun _ h => List.mem_cons_of_mem _ (List.mem_append_left _ (List.mem_append_right _ h))) (by decide +kernel))
set_option maxRecDepth 20000 in
theorem gX4_firstCase_X4_programAt : GoodIn wsX4_firstCase (wsV RX4 54 RX4 yX4_programAt wsX4_programAt) := goodIn_app (goodIn_of _ (by decide +kernel)) ggX4_firstCase_X4_programAt
set_option maxRecDepth 20000 in
theorem ggX4_firstCase_X4_checkedRows : GoodIn wsX4_firstCase wsX4_checkedRows := goodIn_ca (goodIn_r _ [12, 13, 14, 15, 16, 5, 17] (by decide +kernel) (by decide +kernel)) (goodIn_sub (fun _ h => List.mem_cons_of_mem _ (List.mem_append_right _ h)) (by decide +kernel))
set_option maxRecDepth 20000 in
theorem gX4_firstCase_X4_checkedRows : GoodIn wsX4_firstCase (va_wsS RX4 160 yX4_checkedRows wsX4_checkedRows) := goodIn_app (goodIn_of _ (by decide +kernel)) ggX4_firstCase_X4_checkedRows
set_option maxRecDepth 20000 in
theorem ggX4_firstCase_X0_begin : GoodIn wsX4_firstCase wsX0_begin := goodIn_r _ [22, 23, 24, 25, 106, 107, 108] (by decide +kernel) (by decide +kernel)
set_option maxRecDepth 20000 in
theorem gX4_firstCase_X0_begin : GoodIn wsX4_firstCase (wsV RX4 163 RX0 yX0_begin wsX0_begin) := goodIn_app (goodIn_of _ (by decide +kernel)) ggX4_firstCase_X0_begin
set_option maxRecDepth 20000 in
theorem ggX4_firstCase_X4_answerTheSame : GoodIn wsX4_firstCase wsX4_answerTheSame := goodIn_r _ [29, 30, 1, 31, 32, 33, 34, 35, 36, 37, 38, 39, 40, 41, 42, 43, 44, 45, 46, 47, 48, 49, 50, 51, 52, 53, 54, 55, 56, 57, 58, 59, 60, 61, 62, 63, 64, 65, 66, 67, 68, 69, 70, 71, 72, 73, 74, 75, 76, 5, 77, 78, 79, 80, 81, 82, 83, 84, 85, 86, 87, 88, 89, 90, 91, 92, 93, 98, 99, 100, 101, 102, 103, 104, 105, 106, 107, 108, 109, 110, 111, 112, 113] (by decide +kernel) (by decide +kernel)
set_option maxRecDepth 20000 in
theorem gX4_firstCase_X4_answerTheSame : GoodIn wsX4_firstCase (wsV RX4 167 RX4 yX4_answerTheSame wsX4_answerTheSame) := goodIn_app (goodIn_of _ (by decide +kernel)) ggX4_firstCase_X4_answerTheSame
set_option maxRecDepth 20000 in
theorem ggX4_firstCase_X0_goOn : GoodIn wsX4_firstCase wsX0_goOn := goodIn_r _ [97, 23, 25, 24, 106, 107, 108] (by decide +kernel) (by decide +kernel)
set_option maxRecDepth 20000 in
theorem gX4_firstCase_X0_goOn : GoodIn wsX4_firstCase (wsV RX4 171 RX0 yX0_goOn wsX0_goOn) := goodIn_app (goodIn_of _ (by decide +kernel)) ggX4_firstCase_X0_goOn
theorem dX4_firstCase_0 : decode cX4_firstCase 0 = .ok (.aload_n 0, 1) := by decide +kernel
theorem dX4_firstCase_1 : decode cX4_firstCase 1 = .ok (.iload_n 1, 1) := by decide +kernel
theorem dX4_firstCase_2 : decode cX4_firstCase 2 = .ok (.invokevirtual 54, 3) := by decide +kernel
theorem dX4_firstCase_5 : decode cX4_firstCase 5 = .ok (.astore 5, 2) := by decide +kernel
theorem dX4_firstCase_7 : decode cX4_firstCase 7 = .ok (.aload_n 0, 1) := by decide +kernel
theorem dX4_firstCase_8 : decode cX4_firstCase 8 = .ok (.iload_n 2, 1) := by decide +kernel
theorem dX4_firstCase_9 : decode cX4_firstCase 9 = .ok (.invokevirtual 54, 3) := by decide +kernel
theorem dX4_firstCase_12 : decode cX4_firstCase 12 = .ok (.astore 6, 2) := by decide +kernel
theorem dX4_firstCase_14 : decode cX4_firstCase 14 = .ok (.iload_n 3, 1) := by decide +kernel
theorem dX4_firstCase_15 : decode cX4_firstCase 15 = .ok (.iload 4, 2) := by decide +kernel
theorem dX4_firstCase_17 : decode cX4_firstCase 17 = .ok (.invokestatic 160, 3) := by decide +kernel
theorem dX4_firstCase_20 : decode cX4_firstCase 20 = .ok (.istore 7, 2) := by decide +kernel
theorem dX4_firstCase_22 : decode cX4_firstCase 22 = .ok (.aload_n 0, 1) := by decide +kernel
theorem dX4_firstCase_23 : decode cX4_firstCase 23 = .ok (.getfield 42, 3) := by decide +kernel
theorem dX4_firstCase_26 : decode cX4_firstCase 26 = .ok (.iload_n 3, 1) := by decide +kernel
theorem dX4_firstCase_27 : decode cX4_firstCase 27 = .ok (.iload 4, 2) := by decide +kernel
theorem dX4_firstCase_29 : decode cX4_firstCase 29 = .ok (.invokevirtual 163, 3) := by decide +kernel
theorem dX4_firstCase_32 : decode cX4_firstCase 32 = .ok (.iconst 0, 1) := by decide +kernel
theorem dX4_firstCase_33 : decode cX4_firstCase 33 = .ok (.istore 8, 2) := by decide +kernel
theorem dX4_firstCase_35 : decode cX4_firstCase 35 = .ok (.iload 8, 2) := by decide +kernel
theorem dX4_firstCase_37 : decode cX4_firstCase 37 = .ok (.iload 7, 2) := by decide +kernel
theorem dX4_firstCase_39 : decode cX4_firstCase 39 = .ok (.if_icmp .ge 30, 3) := by decide +kernel
theorem dX4_firstCase_42 : decode cX4_firstCase 42 = .ok (.aload_n 0, 1) := by decide +kernel
theorem dX4_firstCase_43 : decode cX4_firstCase 43 = .ok (.aload 5, 2) := by decide +kernel
theorem dX4_firstCase_45 : decode cX4_firstCase 45 = .ok (.aload 6, 2) := by decide +kernel
theorem dX4_firstCase_47 : decode cX4_firstCase 47 = .ok (.invokevirtual 167, 3) := by decide +kernel
theorem dX4_firstCase_50 : decode cX4_firstCase 50 = .ok (.ifCond .ne 6, 3) := by decide +kernel
theorem dX4_firstCase_53 : decode cX4_firstCase 53 = .ok (.iload 8, 2) := by decide +kernel
theorem dX4_firstCase_55 : decode cX4_firstCase 55 = .ok (.ireturn, 1) := by decide +kernel
theorem dX4_firstCase_56 : decode cX4_firstCase 56 = .ok (.aload_n 0, 1) := by decide +kernel
theorem dX4_firstCase_57 : decode cX4_firstCase 57 = .ok (.getfield 42, 3) := by decide +kernel
theorem dX4_firstCase_60 : decode cX4_firstCase 60 = .ok (.invokevirtual 171, 3) := by decide +kernel
theorem dX4_firstCase_63 : decode cX4_firstCase 63 = .ok (.iinc 8 1, 3) := by decide +kernel
theorem dX4_firstCase_66 : decode cX4_firstCase 66 = .ok (.goto (-31), 3) := by decide +kernel
theorem dX4_firstCase_69 : decode cX4_firstCase 69 = .ok (.iconst (-1), 1) := by decide +kernel
theorem dX4_firstCase_70 : decode cX4_firstCase 70 = .ok (.ireturn, 1) := by decide +kernel
set_option maxRecDepth 20000 in
theorem ggX4_cost_X4_programAt : GoodIn wsX4_cost wsX4_programAt := goodIn_ca (goodIn_r _ [7, 8, 9, 10, 93, 94, 95, 96, 97, 98, 99, 100] (by decide +kernel) (by decide +kernel)) (goodIn_sub (fun _ h => List.mem_cons_of_mem _ (List.mem_append_left _ (List.mem_append_right _ h))) (by decide +kernel))
set_option maxRecDepth 20000 in
theorem gX4_cost_X4_programAt : GoodIn wsX4_cost (wsV RX4 54 RX4 yX4_programAt wsX4_programAt) := goodIn_app (goodIn_of _ (by decide +kernel)) ggX4_cost_X4_programAt
set_option maxRecDepth 20000 in
theorem ggX4_cost_X4_checkedRows : GoodIn wsX4_cost wsX4_checkedRows := goodIn_ca (goodIn_r _ [13, 14, 15, 16, 17, 6, 18] (by decide +kernel) (by decide +kernel)) (goodIn_sub (fun _ h => List.mem_cons_of_mem _ (List.mem_append_right _ h)) (by decide +kernel))
set_option maxRecDepth 20000 in
theorem gX4_cost_X4_checkedRows : GoodIn wsX4_cost (va_wsS RX4 160 yX4_checkedRows wsX4_checkedRows) := goodIn_app (goodIn_of _ (by decide +kernel)) ggX4_cost_X4_checkedRows
set_option maxRecDepth 20000 in
theorem ggX4_cost_X0_begin : GoodIn wsX4_cost wsX0_begin := goodIn_r _ [23, 24, 25, 26, 101, 102, 103] (by decide +kernel) (by decide +kernel)
set_option maxRecDepth 20000 in
theorem gX4_cost_X0_begin : GoodIn wsX4_cost (wsV RX4 163 RX0 yX0_begin wsX0_begin) := goodIn_app (goodIn_of _ (by decide +kernel)) ggX4_cost_X0_begin
set_option maxRecDepth 20000 in
theorem ggX4_cost_X3_goThrough : GoodIn wsX4_cost wsX3_goThrough := goodIn_r _ [31, 32, 33, 34, 35, 36, 37, 38, 39, 40, 41, 42, 43, 30, 44, 45, 46, 47, 48, 49, 50, 51, 52, 53, 54, 55, 56, 57, 58, 59, 60, 61, 62, 63, 64, 65, 66, 67, 68, 69, 70, 71, 6, 72, 73, 74, 75, 76, 77, 78, 79, 80, 81, 82, 83, 84, 104, 105, 106, 107, 108] (by decide +kernel) (by decide +kernel)
set_option maxRecDepth 20000 in
theorem gX4_cost_X3_goThrough : GoodIn wsX4_cost (wsV RX4 120 RX3 yX3_goThrough wsX3_goThrough) := goodIn_app (goodIn_of _ (by decide +kernel)) ggX4_cost_X3_goThrough
set_option maxRecDepth 20000 in
theorem ggX4_cost_X3_countLooks : GoodIn wsX4_cost wsX3_countLooks := goodIn_r _ [88, 33, 104, 105, 106] (by decide +kernel) (by decide +kernel)
set_option maxRecDepth 20000 in
theorem gX4_cost_X3_countLooks : GoodIn wsX4_cost (wsV RX4 180 RX3 yX3_countLooks wsX3_countLooks) := goodIn_app (goodIn_of _ (by decide +kernel)) ggX4_cost_X3_countLooks
set_option maxRecDepth 20000 in
theorem ggX4_cost_X0_goOn : GoodIn wsX4_cost wsX0_goOn := goodIn_r _ [92, 24, 26, 25, 101, 102, 103] (by decide +kernel) (by decide +kernel)
set_option maxRecDepth 20000 in
theorem gX4_cost_X0_goOn : GoodIn wsX4_cost (wsV RX4 171 RX0 yX0_goOn wsX0_goOn) := goodIn_app (goodIn_of _ (by decide +kernel)) ggX4_cost_X0_goOn
theorem dX4_cost_0 : decode cX4_cost 0 = .ok (.aload_n 0, 1) := by decide +kernel
theorem dX4_cost_1 : decode cX4_cost 1 = .ok (.iload_n 1, 1) := by decide +kernel
theorem dX4_cost_2 : decode cX4_cost 2 = .ok (.invokevirtual 54, 3) := by decide +kernel
theorem dX4_cost_5 : decode cX4_cost 5 = .ok (.astore 5, 2) := by decide +kernel
theorem dX4_cost_7 : decode cX4_cost 7 = .ok (.iload_n 2, 1) := by decide +kernel
theorem dX4_cost_8 : decode cX4_cost 8 = .ok (.iload_n 3, 1) := by decide +kernel
theorem dX4_cost_9 : decode cX4_cost 9 = .ok (.invokestatic 160, 3) := by decide +kernel
theorem dX4_cost_12 : decode cX4_cost 12 = .ok (.istore 6, 2) := by decide +kernel
theorem dX4_cost_14 : decode cX4_cost 14 = .ok (.iconst 0, 1) := by decide +kernel
theorem dX4_cost_15 : decode cX4_cost 15 = .ok (.istore 7, 2) := by decide +kernel
theorem dX4_cost_17 : decode cX4_cost 17 = .ok (.iconst 0, 1) := by decide +kernel
theorem dX4_cost_18 : decode cX4_cost 18 = .ok (.istore 8, 2) := by decide +kernel
theorem dX4_cost_20 : decode cX4_cost 20 = .ok (.aload_n 0, 1) := by decide +kernel
theorem dX4_cost_21 : decode cX4_cost 21 = .ok (.getfield 42, 3) := by decide +kernel
theorem dX4_cost_24 : decode cX4_cost 24 = .ok (.iload_n 2, 1) := by decide +kernel
theorem dX4_cost_25 : decode cX4_cost 25 = .ok (.iload_n 3, 1) := by decide +kernel
theorem dX4_cost_26 : decode cX4_cost 26 = .ok (.invokevirtual 163, 3) := by decide +kernel
theorem dX4_cost_29 : decode cX4_cost 29 = .ok (.iconst 0, 1) := by decide +kernel
theorem dX4_cost_30 : decode cX4_cost 30 = .ok (.istore 9, 2) := by decide +kernel
theorem dX4_cost_32 : decode cX4_cost 32 = .ok (.iload 9, 2) := by decide +kernel
theorem dX4_cost_34 : decode cX4_cost 34 = .ok (.iload 6, 2) := by decide +kernel
theorem dX4_cost_36 : decode cX4_cost 36 = .ok (.if_icmp .ge 71, 3) := by decide +kernel
theorem dX4_cost_39 : decode cX4_cost 39 = .ok (.aload_n 0, 1) := by decide +kernel
theorem dX4_cost_40 : decode cX4_cost 40 = .ok (.getfield 33, 3) := by decide +kernel
theorem dX4_cost_43 : decode cX4_cost 43 = .ok (.aload 5, 2) := by decide +kernel
theorem dX4_cost_45 : decode cX4_cost 45 = .ok (.aload_n 0, 1) := by decide +kernel
theorem dX4_cost_46 : decode cX4_cost 46 = .ok (.getfield 42, 3) := by decide +kernel
theorem dX4_cost_49 : decode cX4_cost 49 = .ok (.getfield 174, 3) := by decide +kernel
theorem dX4_cost_52 : decode cX4_cost 52 = .ok (.aload_n 0, 1) := by decide +kernel
theorem dX4_cost_53 : decode cX4_cost 53 = .ok (.getfield 42, 3) := by decide +kernel
theorem dX4_cost_56 : decode cX4_cost 56 = .ok (.getfield 177, 3) := by decide +kernel
theorem dX4_cost_59 : decode cX4_cost 59 = .ok (.invokevirtual 120, 3) := by decide +kernel
theorem dX4_cost_62 : decode cX4_cost 62 = .ok (.aload_n 0, 1) := by decide +kernel
theorem dX4_cost_63 : decode cX4_cost 63 = .ok (.getfield 33, 3) := by decide +kernel
theorem dX4_cost_66 : decode cX4_cost 66 = .ok (.invokevirtual 180, 3) := by decide +kernel
theorem dX4_cost_69 : decode cX4_cost 69 = .ok (.istore 10, 2) := by decide +kernel
theorem dX4_cost_71 : decode cX4_cost 71 = .ok (.iload 10, 2) := by decide +kernel
theorem dX4_cost_73 : decode cX4_cost 73 = .ok (.iload 7, 2) := by decide +kernel
theorem dX4_cost_75 : decode cX4_cost 75 = .ok (.if_icmp .le 8, 3) := by decide +kernel
theorem dX4_cost_78 : decode cX4_cost 78 = .ok (.iload 10, 2) := by decide +kernel
theorem dX4_cost_80 : decode cX4_cost 80 = .ok (.goto 5, 3) := by decide +kernel
theorem dX4_cost_83 : decode cX4_cost 83 = .ok (.iload 7, 2) := by decide +kernel
theorem dX4_cost_85 : decode cX4_cost 85 = .ok (.istore 7, 2) := by decide +kernel
theorem dX4_cost_87 : decode cX4_cost 87 = .ok (.iload 8, 2) := by decide +kernel
theorem dX4_cost_89 : decode cX4_cost 89 = .ok (.iload 10, 2) := by decide +kernel
theorem dX4_cost_91 : decode cX4_cost 91 = .ok (.iadd, 1) := by decide +kernel
theorem dX4_cost_92 : decode cX4_cost 92 = .ok (.istore 8, 2) := by decide +kernel
theorem dX4_cost_94 : decode cX4_cost 94 = .ok (.aload_n 0, 1) := by decide +kernel
theorem dX4_cost_95 : decode cX4_cost 95 = .ok (.getfield 42, 3) := by decide +kernel
theorem dX4_cost_98 : decode cX4_cost 98 = .ok (.invokevirtual 171, 3) := by decide +kernel
theorem dX4_cost_101 : decode cX4_cost 101 = .ok (.iinc 9 1, 3) := by decide +kernel
theorem dX4_cost_104 : decode cX4_cost 104 = .ok (.goto (-72), 3) := by decide +kernel
theorem dX4_cost_107 : decode cX4_cost 107 = .ok (.iload 4, 2) := by decide +kernel
theorem dX4_cost_109 : decode cX4_cost 109 = .ok (.ifCond .eq 8, 3) := by decide +kernel
theorem dX4_cost_112 : decode cX4_cost 112 = .ok (.iload 7, 2) := by decide +kernel
theorem dX4_cost_114 : decode cX4_cost 114 = .ok (.goto 5, 3) := by decide +kernel
theorem dX4_cost_117 : decode cX4_cost 117 = .ok (.iload 8, 2) := by decide +kernel
theorem dX4_cost_119 : decode cX4_cost 119 = .ok (.ireturn, 1) := by decide +kernel
set_option maxRecDepth 20000 in
theorem ggX4_exits_X4_programAt : GoodIn wsX4_exits wsX4_programAt := goodIn_ca (goodIn_r _ [7, 8, 9, 10, 93, 94, 95, 96, 97, 98, 99, 100] (by decide +kernel) (by decide +kernel)) (goodIn_sub (fun _ h => List.mem_cons_of_mem _ (List.mem_append_left _ (List.mem_append_right _ h))) (by decide +kernel))
set_option maxRecDepth 20000 in
theorem gX4_exits_X4_programAt : GoodIn wsX4_exits (wsV RX4 54 RX4 yX4_programAt wsX4_programAt) := goodIn_app (goodIn_of _ (by decide +kernel)) ggX4_exits_X4_programAt
set_option maxRecDepth 20000 in
theorem ggX4_exits_X4_checkedRows : GoodIn wsX4_exits wsX4_checkedRows := goodIn_ca (goodIn_r _ [13, 14, 15, 16, 17, 6, 18] (by decide +kernel) (by decide +kernel)) (goodIn_sub (fun _ h => List.mem_cons_of_mem _ (List.mem_append_right _ h)) (by decide +kernel))
set_option maxRecDepth 20000 in
theorem gX4_exits_X4_checkedRows : GoodIn wsX4_exits (va_wsS RX4 160 yX4_checkedRows wsX4_checkedRows) := goodIn_app (goodIn_of _ (by decide +kernel)) ggX4_exits_X4_checkedRows
set_option maxRecDepth 20000 in
theorem ggX4_exits_X0_begin : GoodIn wsX4_exits wsX0_begin := goodIn_r _ [23, 24, 25, 26, 101, 102, 103] (by decide +kernel) (by decide +kernel)
set_option maxRecDepth 20000 in
theorem gX4_exits_X0_begin : GoodIn wsX4_exits (wsV RX4 163 RX0 yX0_begin wsX0_begin) := goodIn_app (goodIn_of _ (by decide +kernel)) ggX4_exits_X0_begin
set_option maxRecDepth 20000 in
theorem ggX4_exits_X3_goThrough : GoodIn wsX4_exits wsX3_goThrough := goodIn_r _ [31, 32, 33, 34, 35, 36, 37, 38, 39, 40, 41, 42, 43, 30, 44, 45, 46, 47, 48, 49, 50, 51, 52, 53, 54, 55, 56, 57, 58, 59, 60, 61, 62, 63, 64, 65, 66, 67, 68, 69, 70, 71, 6, 72, 73, 74, 75, 76, 77, 78, 79, 80, 81, 82, 83, 84, 104, 105, 106, 107, 108] (by decide +kernel) (by decide +kernel)
set_option maxRecDepth 20000 in
theorem gX4_exits_X3_goThrough : GoodIn wsX4_exits (wsV RX4 120 RX3 yX3_goThrough wsX3_goThrough) := goodIn_app (goodIn_of _ (by decide +kernel)) ggX4_exits_X3_goThrough
set_option maxRecDepth 20000 in
theorem ggX4_exits_X3_codeOfExit : GoodIn wsX4_exits wsX3_codeOfExit := goodIn_r _ [88, 34, 104, 105, 106] (by decide +kernel) (by decide +kernel)
set_option maxRecDepth 20000 in
theorem gX4_exits_X3_codeOfExit : GoodIn wsX4_exits (wsV RX4 124 RX3 yX3_codeOfExit wsX3_codeOfExit) := goodIn_app (goodIn_of _ (by decide +kernel)) ggX4_exits_X3_codeOfExit
set_option maxRecDepth 20000 in
theorem ggX4_exits_X0_goOn : GoodIn wsX4_exits wsX0_goOn := goodIn_r _ [92, 24, 26, 25, 101, 102, 103] (by decide +kernel) (by decide +kernel)
set_option maxRecDepth 20000 in
theorem gX4_exits_X0_goOn : GoodIn wsX4_exits (wsV RX4 171 RX0 yX0_goOn wsX0_goOn) := goodIn_app (goodIn_of _ (by decide +kernel)) ggX4_exits_X0_goOn
theorem dX4_exits_0 : decode cX4_exits 0 = .ok (.aload_n 0, 1) := by decide +kernel
theorem dX4_exits_1 : decode cX4_exits 1 = .ok (.iload_n 1, 1) := by decide +kernel
theorem dX4_exits_2 : decode cX4_exits 2 = .ok (.invokevirtual 54, 3) := by decide +kernel
theorem dX4_exits_5 : decode cX4_exits 5 = .ok (.astore 4, 2) := by decide +kernel
theorem dX4_exits_7 : decode cX4_exits 7 = .ok (.iload_n 2, 1) := by decide +kernel
theorem dX4_exits_8 : decode cX4_exits 8 = .ok (.iload_n 3, 1) := by decide +kernel
theorem dX4_exits_9 : decode cX4_exits 9 = .ok (.invokestatic 160, 3) := by decide +kernel
theorem dX4_exits_12 : decode cX4_exits 12 = .ok (.istore 5, 2) := by decide +kernel
theorem dX4_exits_14 : decode cX4_exits 14 = .ok (.iconst 0, 1) := by decide +kernel
theorem dX4_exits_15 : decode cX4_exits 15 = .ok (.istore 6, 2) := by decide +kernel
theorem dX4_exits_17 : decode cX4_exits 17 = .ok (.aload_n 0, 1) := by decide +kernel
theorem dX4_exits_18 : decode cX4_exits 18 = .ok (.getfield 42, 3) := by decide +kernel
theorem dX4_exits_21 : decode cX4_exits 21 = .ok (.iload_n 2, 1) := by decide +kernel
theorem dX4_exits_22 : decode cX4_exits 22 = .ok (.iload_n 3, 1) := by decide +kernel
theorem dX4_exits_23 : decode cX4_exits 23 = .ok (.invokevirtual 163, 3) := by decide +kernel
theorem dX4_exits_26 : decode cX4_exits 26 = .ok (.iconst 0, 1) := by decide +kernel
theorem dX4_exits_27 : decode cX4_exits 27 = .ok (.istore 7, 2) := by decide +kernel
theorem dX4_exits_29 : decode cX4_exits 29 = .ok (.iload 7, 2) := by decide +kernel
theorem dX4_exits_31 : decode cX4_exits 31 = .ok (.iload 5, 2) := by decide +kernel
theorem dX4_exits_33 : decode cX4_exits 33 = .ok (.if_icmp .ge 53, 3) := by decide +kernel
theorem dX4_exits_36 : decode cX4_exits 36 = .ok (.aload_n 0, 1) := by decide +kernel
theorem dX4_exits_37 : decode cX4_exits 37 = .ok (.getfield 33, 3) := by decide +kernel
theorem dX4_exits_40 : decode cX4_exits 40 = .ok (.aload 4, 2) := by decide +kernel
theorem dX4_exits_42 : decode cX4_exits 42 = .ok (.aload_n 0, 1) := by decide +kernel
theorem dX4_exits_43 : decode cX4_exits 43 = .ok (.getfield 42, 3) := by decide +kernel
theorem dX4_exits_46 : decode cX4_exits 46 = .ok (.getfield 174, 3) := by decide +kernel
theorem dX4_exits_49 : decode cX4_exits 49 = .ok (.aload_n 0, 1) := by decide +kernel
theorem dX4_exits_50 : decode cX4_exits 50 = .ok (.getfield 42, 3) := by decide +kernel
theorem dX4_exits_53 : decode cX4_exits 53 = .ok (.getfield 177, 3) := by decide +kernel
theorem dX4_exits_56 : decode cX4_exits 56 = .ok (.invokevirtual 120, 3) := by decide +kernel
theorem dX4_exits_59 : decode cX4_exits 59 = .ok (.aload_n 0, 1) := by decide +kernel
theorem dX4_exits_60 : decode cX4_exits 60 = .ok (.getfield 33, 3) := by decide +kernel
theorem dX4_exits_63 : decode cX4_exits 63 = .ok (.invokevirtual 124, 3) := by decide +kernel
theorem dX4_exits_66 : decode cX4_exits 66 = .ok (.iconst (-1), 1) := by decide +kernel
theorem dX4_exits_67 : decode cX4_exits 67 = .ok (.if_icmp .eq 6, 3) := by decide +kernel
theorem dX4_exits_70 : decode cX4_exits 70 = .ok (.iinc 6 1, 3) := by decide +kernel
theorem dX4_exits_73 : decode cX4_exits 73 = .ok (.aload_n 0, 1) := by decide +kernel
theorem dX4_exits_74 : decode cX4_exits 74 = .ok (.getfield 42, 3) := by decide +kernel
theorem dX4_exits_77 : decode cX4_exits 77 = .ok (.invokevirtual 171, 3) := by decide +kernel
theorem dX4_exits_80 : decode cX4_exits 80 = .ok (.iinc 7 1, 3) := by decide +kernel
theorem dX4_exits_83 : decode cX4_exits 83 = .ok (.goto (-54), 3) := by decide +kernel
theorem dX4_exits_86 : decode cX4_exits 86 = .ok (.iload 5, 2) := by decide +kernel
theorem dX4_exits_88 : decode cX4_exits 88 = .ok (.ifCond .le 13, 3) := by decide +kernel
theorem dX4_exits_91 : decode cX4_exits 91 = .ok (.iload 6, 2) := by decide +kernel
theorem dX4_exits_93 : decode cX4_exits 93 = .ok (.i2d, 1) := by decide +kernel
theorem dX4_exits_94 : decode cX4_exits 94 = .ok (.iload 5, 2) := by decide +kernel
theorem dX4_exits_96 : decode cX4_exits 96 = .ok (.i2d, 1) := by decide +kernel
theorem dX4_exits_97 : decode cX4_exits 97 = .ok (.ddiv, 1) := by decide +kernel
theorem dX4_exits_98 : decode cX4_exits 98 = .ok (.goto 4, 3) := by decide +kernel
theorem dX4_exits_101 : decode cX4_exits 101 = .ok (.dconst 0, 1) := by decide +kernel
theorem dX4_exits_102 : decode cX4_exits 102 = .ok (.dreturn, 1) := by decide +kernel
set_option maxRecDepth 20000 in
theorem ggX4_digest_X4_mix : GoodIn wsX4_digest wsX4_mix := goodIn_r _ [10, 11] (by decide +kernel) (by decide +kernel)
set_option maxRecDepth 20000 in
theorem gX4_digest_X4_mix : GoodIn wsX4_digest (va_wsS RX4 185 yX4_mix wsX4_mix) := goodIn_app (goodIn_of _ (by decide +kernel)) ggX4_digest_X4_mix
set_option maxRecDepth 20000 in
theorem ggX4_digest_X1_mixInto : GoodIn wsX4_digest wsX1_mixInto := goodIn_r _ [16, 17, 8, 9, 10, 11, 18, 19, 20, 15, 21, 22, 23, 24, 25, 26, 27, 28, 29, 30, 31, 32, 33, 53, 54] (by decide +kernel) (by decide +kernel)
set_option maxRecDepth 20000 in
theorem gX4_digest_X1_mixInto : GoodIn wsX4_digest (wsV RX4 189 RX1 yX1_mixInto wsX1_mixInto) := goodIn_app (goodIn_of _ (by decide +kernel)) ggX4_digest_X1_mixInto
set_option maxRecDepth 20000 in
theorem ggX4_digest_X3_fact : GoodIn wsX4_digest wsX3_fact := goodIn_r _ [38, 39, 40, 41, 42, 37, 43, 44, 55, 56, 57] (by decide +kernel) (by decide +kernel)
set_option maxRecDepth 20000 in
theorem gX4_digest_X3_fact : GoodIn wsX4_digest (wsV RX4 129 RX3 yX3_fact wsX3_fact) := goodIn_app (goodIn_of _ (by decide +kernel)) ggX4_digest_X3_fact
theorem dX4_digest_0 : decode cX4_digest 0 = .ok (.ldc2_w 183, 3) := by decide +kernel
theorem dX4_digest_3 : decode cX4_digest 3 = .ok (.aload_n 0, 1) := by decide +kernel
theorem dX4_digest_4 : decode cX4_digest 4 = .ok (.getfield 15, 3) := by decide +kernel
theorem dX4_digest_7 : decode cX4_digest 7 = .ok (.i2l, 1) := by decide +kernel
theorem dX4_digest_8 : decode cX4_digest 8 = .ok (.invokestatic 185, 3) := by decide +kernel
theorem dX4_digest_11 : decode cX4_digest 11 = .ok (.lstore_n 1, 1) := by decide +kernel
theorem dX4_digest_12 : decode cX4_digest 12 = .ok (.iconst 0, 1) := by decide +kernel
theorem dX4_digest_13 : decode cX4_digest 13 = .ok (.istore_n 3, 1) := by decide +kernel
theorem dX4_digest_14 : decode cX4_digest 14 = .ok (.iload_n 3, 1) := by decide +kernel
theorem dX4_digest_15 : decode cX4_digest 15 = .ok (.aload_n 0, 1) := by decide +kernel
theorem dX4_digest_16 : decode cX4_digest 16 = .ok (.getfield 15, 3) := by decide +kernel
theorem dX4_digest_19 : decode cX4_digest 19 = .ok (.if_icmp .ge 38, 3) := by decide +kernel
theorem dX4_digest_22 : decode cX4_digest 22 = .ok (.iload_n 3, 1) := by decide +kernel
theorem dX4_digest_23 : decode cX4_digest 23 = .ok (.aload_n 0, 1) := by decide +kernel
theorem dX4_digest_24 : decode cX4_digest 24 = .ok (.getfield 11, 3) := by decide +kernel
theorem dX4_digest_27 : decode cX4_digest 27 = .ok (.arraylength, 1) := by decide +kernel
theorem dX4_digest_28 : decode cX4_digest 28 = .ok (.if_icmp .ge 29, 3) := by decide +kernel
theorem dX4_digest_31 : decode cX4_digest 31 = .ok (.aload_n 0, 1) := by decide +kernel
theorem dX4_digest_32 : decode cX4_digest 32 = .ok (.getfield 11, 3) := by decide +kernel
theorem dX4_digest_35 : decode cX4_digest 35 = .ok (.iload_n 3, 1) := by decide +kernel
theorem dX4_digest_36 : decode cX4_digest 36 = .ok (.aaload, 1) := by decide +kernel
theorem dX4_digest_37 : decode cX4_digest 37 = .ok (.astore 4, 2) := by decide +kernel
theorem dX4_digest_39 : decode cX4_digest 39 = .ok (.aload 4, 2) := by decide +kernel
theorem dX4_digest_41 : decode cX4_digest 41 = .ok (.ifnull 10, 3) := by decide +kernel
theorem dX4_digest_44 : decode cX4_digest 44 = .ok (.aload 4, 2) := by decide +kernel
theorem dX4_digest_46 : decode cX4_digest 46 = .ok (.lload_n 1, 1) := by decide +kernel
theorem dX4_digest_47 : decode cX4_digest 47 = .ok (.invokevirtual 189, 3) := by decide +kernel
theorem dX4_digest_50 : decode cX4_digest 50 = .ok (.lstore_n 1, 1) := by decide +kernel
theorem dX4_digest_51 : decode cX4_digest 51 = .ok (.iinc 3 1, 3) := by decide +kernel
theorem dX4_digest_54 : decode cX4_digest 54 = .ok (.goto (-40), 3) := by decide +kernel
theorem dX4_digest_57 : decode cX4_digest 57 = .ok (.lload_n 1, 1) := by decide +kernel
theorem dX4_digest_58 : decode cX4_digest 58 = .ok (.aload_n 0, 1) := by decide +kernel
theorem dX4_digest_59 : decode cX4_digest 59 = .ok (.getfield 23, 3) := by decide +kernel
theorem dX4_digest_62 : decode cX4_digest 62 = .ok (.i2l, 1) := by decide +kernel
theorem dX4_digest_63 : decode cX4_digest 63 = .ok (.invokestatic 185, 3) := by decide +kernel
theorem dX4_digest_66 : decode cX4_digest 66 = .ok (.lstore_n 1, 1) := by decide +kernel
theorem dX4_digest_67 : decode cX4_digest 67 = .ok (.iconst 0, 1) := by decide +kernel
theorem dX4_digest_68 : decode cX4_digest 68 = .ok (.istore_n 3, 1) := by decide +kernel
theorem dX4_digest_69 : decode cX4_digest 69 = .ok (.iload_n 3, 1) := by decide +kernel
theorem dX4_digest_70 : decode cX4_digest 70 = .ok (.aload_n 0, 1) := by decide +kernel
theorem dX4_digest_71 : decode cX4_digest 71 = .ok (.getfield 23, 3) := by decide +kernel
theorem dX4_digest_74 : decode cX4_digest 74 = .ok (.if_icmp .ge 29, 3) := by decide +kernel
theorem dX4_digest_77 : decode cX4_digest 77 = .ok (.iload_n 3, 1) := by decide +kernel
theorem dX4_digest_78 : decode cX4_digest 78 = .ok (.aload_n 0, 1) := by decide +kernel
theorem dX4_digest_79 : decode cX4_digest 79 = .ok (.getfield 19, 3) := by decide +kernel
theorem dX4_digest_82 : decode cX4_digest 82 = .ok (.arraylength, 1) := by decide +kernel
theorem dX4_digest_83 : decode cX4_digest 83 = .ok (.if_icmp .ge 20, 3) := by decide +kernel
theorem dX4_digest_86 : decode cX4_digest 86 = .ok (.lload_n 1, 1) := by decide +kernel
theorem dX4_digest_87 : decode cX4_digest 87 = .ok (.aload_n 0, 1) := by decide +kernel
theorem dX4_digest_88 : decode cX4_digest 88 = .ok (.getfield 19, 3) := by decide +kernel
theorem dX4_digest_91 : decode cX4_digest 91 = .ok (.iload_n 3, 1) := by decide +kernel
theorem dX4_digest_92 : decode cX4_digest 92 = .ok (.laload, 1) := by decide +kernel
theorem dX4_digest_93 : decode cX4_digest 93 = .ok (.invokestatic 185, 3) := by decide +kernel
theorem dX4_digest_96 : decode cX4_digest 96 = .ok (.lstore_n 1, 1) := by decide +kernel
theorem dX4_digest_97 : decode cX4_digest 97 = .ok (.iinc 3 1, 3) := by decide +kernel
theorem dX4_digest_100 : decode cX4_digest 100 = .ok (.goto (-31), 3) := by decide +kernel
theorem dX4_digest_103 : decode cX4_digest 103 = .ok (.iconst 0, 1) := by decide +kernel
theorem dX4_digest_104 : decode cX4_digest 104 = .ok (.istore_n 3, 1) := by decide +kernel
theorem dX4_digest_105 : decode cX4_digest 105 = .ok (.iload_n 3, 1) := by decide +kernel
theorem dX4_digest_106 : decode cX4_digest 106 = .ok (.iconst 5, 1) := by decide +kernel
theorem dX4_digest_107 : decode cX4_digest 107 = .ok (.if_icmp .ge 22, 3) := by decide +kernel
theorem dX4_digest_110 : decode cX4_digest 110 = .ok (.lload_n 1, 1) := by decide +kernel
theorem dX4_digest_111 : decode cX4_digest 111 = .ok (.aload_n 0, 1) := by decide +kernel
theorem dX4_digest_112 : decode cX4_digest 112 = .ok (.getfield 29, 3) := by decide +kernel
theorem dX4_digest_115 : decode cX4_digest 115 = .ok (.iload_n 3, 1) := by decide +kernel
theorem dX4_digest_116 : decode cX4_digest 116 = .ok (.invokevirtual 129, 3) := by decide +kernel
theorem dX4_digest_119 : decode cX4_digest 119 = .ok (.invokestatic 185, 3) := by decide +kernel
theorem dX4_digest_122 : decode cX4_digest 122 = .ok (.lstore_n 1, 1) := by decide +kernel
theorem dX4_digest_123 : decode cX4_digest 123 = .ok (.iinc 3 1, 3) := by decide +kernel
theorem dX4_digest_126 : decode cX4_digest 126 = .ok (.goto (-21), 3) := by decide +kernel
theorem dX4_digest_129 : decode cX4_digest 129 = .ok (.lload_n 1, 1) := by decide +kernel
theorem dX4_digest_130 : decode cX4_digest 130 = .ok (.lreturn, 1) := by decide +kernel
theorem dX4_programAt_0 : decode cX4_programAt 0 = .ok (.iload_n 1, 1) := by decide +kernel
theorem dX4_programAt_1 : decode cX4_programAt 1 = .ok (.ifCond .lt 21, 3) := by decide +kernel
theorem dX4_programAt_4 : decode cX4_programAt 4 = .ok (.iload_n 1, 1) := by decide +kernel
theorem dX4_programAt_5 : decode cX4_programAt 5 = .ok (.aload_n 0, 1) := by decide +kernel
theorem dX4_programAt_6 : decode cX4_programAt 6 = .ok (.getfield 11, 3) := by decide +kernel
theorem dX4_programAt_9 : decode cX4_programAt 9 = .ok (.arraylength, 1) := by decide +kernel
theorem dX4_programAt_10 : decode cX4_programAt 10 = .ok (.if_icmp .ge 12, 3) := by decide +kernel
theorem dX4_programAt_13 : decode cX4_programAt 13 = .ok (.aload_n 0, 1) := by decide +kernel
theorem dX4_programAt_14 : decode cX4_programAt 14 = .ok (.getfield 11, 3) := by decide +kernel
theorem dX4_programAt_17 : decode cX4_programAt 17 = .ok (.iload_n 1, 1) := by decide +kernel
theorem dX4_programAt_18 : decode cX4_programAt 18 = .ok (.aaload, 1) := by decide +kernel
theorem dX4_programAt_19 : decode cX4_programAt 19 = .ok (.goto 4, 3) := by decide +kernel
theorem dX4_programAt_22 : decode cX4_programAt 22 = .ok (.aconst_null, 1) := by decide +kernel
theorem dX4_programAt_23 : decode cX4_programAt 23 = .ok (.astore_n 2, 1) := by decide +kernel
theorem dX4_programAt_24 : decode cX4_programAt 24 = .ok (.aload_n 2, 1) := by decide +kernel
theorem dX4_programAt_25 : decode cX4_programAt 25 = .ok (.ifnonnull 13, 3) := by decide +kernel
theorem dX4_programAt_28 : decode cX4_programAt 28 = .ok (.new 105, 3) := by decide +kernel
theorem dX4_programAt_31 : decode cX4_programAt 31 = .ok (.dup, 1) := by decide +kernel
theorem dX4_programAt_32 : decode cX4_programAt 32 = .ok (.ldc 193, 2) := by decide +kernel
theorem dX4_programAt_34 : decode cX4_programAt 34 = .ok (.invokespecial 109, 3) := by decide +kernel
theorem dX4_programAt_37 : decode cX4_programAt 37 = .ok (.athrow, 1) := by decide +kernel
theorem dX4_programAt_38 : decode cX4_programAt 38 = .ok (.aload_n 2, 1) := by decide +kernel
theorem dX4_programAt_39 : decode cX4_programAt 39 = .ok (.areturn, 1) := by decide +kernel
theorem dX4_refuseEleventhProgram_0 : decode cX4_refuseEleventhProgram 0 = .ok (.aload_n 0, 1) := by decide +kernel
theorem dX4_refuseEleventhProgram_1 : decode cX4_refuseEleventhProgram 1 = .ok (.getfield 15, 3) := by decide +kernel
theorem dX4_refuseEleventhProgram_4 : decode cX4_refuseEleventhProgram 4 = .ok (.bipush 10, 2) := by decide +kernel
theorem dX4_refuseEleventhProgram_6 : decode cX4_refuseEleventhProgram 6 = .ok (.if_icmp .lt 13, 3) := by decide +kernel
theorem dX4_refuseEleventhProgram_9 : decode cX4_refuseEleventhProgram 9 = .ok (.new 73, 3) := by decide +kernel
theorem dX4_refuseEleventhProgram_12 : decode cX4_refuseEleventhProgram 12 = .ok (.dup, 1) := by decide +kernel
theorem dX4_refuseEleventhProgram_13 : decode cX4_refuseEleventhProgram 13 = .ok (.ldc 195, 2) := by decide +kernel
theorem dX4_refuseEleventhProgram_15 : decode cX4_refuseEleventhProgram 15 = .ok (.invokespecial 77, 3) := by decide +kernel
theorem dX4_refuseEleventhProgram_18 : decode cX4_refuseEleventhProgram 18 = .ok (.athrow, 1) := by decide +kernel
theorem dX4_refuseEleventhProgram_19 : decode cX4_refuseEleventhProgram 19 = .ok (.return_, 1) := by decide +kernel
theorem dX4_keepProgram_0 : decode cX4_keepProgram 0 = .ok (.aload_n 0, 1) := by decide +kernel
theorem dX4_keepProgram_1 : decode cX4_keepProgram 1 = .ok (.getfield 15, 3) := by decide +kernel
theorem dX4_keepProgram_4 : decode cX4_keepProgram 4 = .ok (.istore_n 2, 1) := by decide +kernel
theorem dX4_keepProgram_5 : decode cX4_keepProgram 5 = .ok (.iload_n 2, 1) := by decide +kernel
theorem dX4_keepProgram_6 : decode cX4_keepProgram 6 = .ok (.ifCond .lt 26, 3) := by decide +kernel
theorem dX4_keepProgram_9 : decode cX4_keepProgram 9 = .ok (.iload_n 2, 1) := by decide +kernel
theorem dX4_keepProgram_10 : decode cX4_keepProgram 10 = .ok (.aload_n 0, 1) := by decide +kernel
theorem dX4_keepProgram_11 : decode cX4_keepProgram 11 = .ok (.getfield 11, 3) := by decide +kernel
theorem dX4_keepProgram_14 : decode cX4_keepProgram 14 = .ok (.arraylength, 1) := by decide +kernel
theorem dX4_keepProgram_15 : decode cX4_keepProgram 15 = .ok (.if_icmp .ge 17, 3) := by decide +kernel
theorem dX4_keepProgram_18 : decode cX4_keepProgram 18 = .ok (.aload_n 0, 1) := by decide +kernel
theorem dX4_keepProgram_19 : decode cX4_keepProgram 19 = .ok (.getfield 11, 3) := by decide +kernel
theorem dX4_keepProgram_22 : decode cX4_keepProgram 22 = .ok (.iload_n 2, 1) := by decide +kernel
theorem dX4_keepProgram_23 : decode cX4_keepProgram 23 = .ok (.aload_n 1, 1) := by decide +kernel
theorem dX4_keepProgram_24 : decode cX4_keepProgram 24 = .ok (.aastore, 1) := by decide +kernel
theorem dX4_keepProgram_25 : decode cX4_keepProgram 25 = .ok (.aload_n 0, 1) := by decide +kernel
theorem dX4_keepProgram_26 : decode cX4_keepProgram 26 = .ok (.iload_n 2, 1) := by decide +kernel
theorem dX4_keepProgram_27 : decode cX4_keepProgram 27 = .ok (.iconst 1, 1) := by decide +kernel
theorem dX4_keepProgram_28 : decode cX4_keepProgram 28 = .ok (.iadd, 1) := by decide +kernel
theorem dX4_keepProgram_29 : decode cX4_keepProgram 29 = .ok (.putfield 15, 3) := by decide +kernel
theorem dX4_keepProgram_32 : decode cX4_keepProgram 32 = .ok (.iload_n 2, 1) := by decide +kernel
theorem dX4_keepProgram_33 : decode cX4_keepProgram 33 = .ok (.ireturn, 1) := by decide +kernel
set_option maxRecDepth 20000 in
theorem ggX4_refuseOtherLoops_X1_countLoops : GoodIn wsX4_refuseOtherLoops wsX1_countLoops := goodIn_r _ [7, 8, 13, 14] (by decide +kernel) (by decide +kernel)
set_option maxRecDepth 20000 in
theorem gX4_refuseOtherLoops_X1_countLoops : GoodIn wsX4_refuseOtherLoops (wsV RX4 69 RX1 yX1_countLoops wsX1_countLoops) := goodIn_app (goodIn_of _ (by decide +kernel)) ggX4_refuseOtherLoops_X1_countLoops
set_option maxRecDepth 20000 in
theorem ggX4_refuseOtherLoops_X4_isBetween : GoodIn wsX4_refuseOtherLoops wsX4_isBetween := goodIn_r _ [12] (by decide +kernel) (by decide +kernel)
set_option maxRecDepth 20000 in
theorem gX4_refuseOtherLoops_X4_isBetween : GoodIn wsX4_refuseOtherLoops (va_wsS RX4 58 yX4_isBetween wsX4_isBetween) := goodIn_app (goodIn_of _ (by decide +kernel)) ggX4_refuseOtherLoops_X4_isBetween
theorem dX4_refuseOtherLoops_0 : decode cX4_refuseOtherLoops 0 = .ok (.iload_n 1, 1) := by decide +kernel
theorem dX4_refuseOtherLoops_1 : decode cX4_refuseOtherLoops 1 = .ok (.iconst 0, 1) := by decide +kernel
theorem dX4_refuseOtherLoops_2 : decode cX4_refuseOtherLoops 2 = .ok (.aload_n 0, 1) := by decide +kernel
theorem dX4_refuseOtherLoops_3 : decode cX4_refuseOtherLoops 3 = .ok (.invokevirtual 69, 3) := by decide +kernel
theorem dX4_refuseOtherLoops_6 : decode cX4_refuseOtherLoops 6 = .ok (.iconst 1, 1) := by decide +kernel
theorem dX4_refuseOtherLoops_7 : decode cX4_refuseOtherLoops 7 = .ok (.isub, 1) := by decide +kernel
theorem dX4_refuseOtherLoops_8 : decode cX4_refuseOtherLoops 8 = .ok (.invokestatic 58, 3) := by decide +kernel
