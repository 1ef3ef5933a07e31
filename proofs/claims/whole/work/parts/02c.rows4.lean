theorem dX4_refuseOtherLoops_11 : decode cX4_refuseOtherLoops 11 = .ok (.ifCond .ne 13, 3) := by decide +kernel
theorem dX4_refuseOtherLoops_14 : decode cX4_refuseOtherLoops 14 = .ok (.new 105, 3) := by decide +kernel
theorem dX4_refuseOtherLoops_17 : decode cX4_refuseOtherLoops 17 = .ok (.dup, 1) := by decide +kernel
theorem dX4_refuseOtherLoops_18 : decode cX4_refuseOtherLoops 18 = .ok (.ldc 197, 2) := by decide +kernel
theorem dX4_refuseOtherLoops_20 : decode cX4_refuseOtherLoops 20 = .ok (.invokespecial 109, 3) := by decide +kernel
theorem dX4_refuseOtherLoops_23 : decode cX4_refuseOtherLoops 23 = .ok (.athrow, 1) := by decide +kernel
theorem dX4_refuseOtherLoops_24 : decode cX4_refuseOtherLoops 24 = .ok (.return_, 1) := by decide +kernel
set_option maxRecDepth 20000 in
theorem ggX4_refuseOtherChanges_X4_isBetween : GoodIn wsX4_refuseOtherChanges wsX4_isBetween := goodIn_r _ [8] (by decide +kernel) (by decide +kernel)
set_option maxRecDepth 20000 in
theorem gX4_refuseOtherChanges_X4_isBetween : GoodIn wsX4_refuseOtherChanges (va_wsS RX4 58 yX4_isBetween wsX4_isBetween) := goodIn_app (goodIn_of _ (by decide +kernel)) ggX4_refuseOtherChanges_X4_isBetween
set_option maxRecDepth 20000 in
theorem ggX4_refuseOtherChanges_X4_lastLoopFor : GoodIn wsX4_refuseOtherChanges wsX4_lastLoopFor := goodIn_r _ [11, 12, 13, 14, 15, 16, 17, 34, 35] (by decide +kernel) (by decide +kernel)
set_option maxRecDepth 20000 in
theorem gX4_refuseOtherChanges_X4_lastLoopFor : GoodIn wsX4_refuseOtherChanges (va_wsS RX4 201 yX4_lastLoopFor wsX4_lastLoopFor) := goodIn_app (goodIn_of _ (by decide +kernel)) ggX4_refuseOtherChanges_X4_lastLoopFor
set_option maxRecDepth 20000 in
theorem ggX4_refuseOtherChanges_X4_isWith : GoodIn wsX4_refuseOtherChanges wsX4_isWith := goodIn_r _ [20, 21, 22, 23, 15, 24, 25, 26, 27, 28, 29, 30, 31, 32, 33, 5, 6, 7, 8, 34, 35] (by decide +kernel) (by decide +kernel)
set_option maxRecDepth 20000 in
theorem gX4_refuseOtherChanges_X4_isWith : GoodIn wsX4_refuseOtherChanges (va_wsS RX4 207 yX4_isWith wsX4_isWith) := goodIn_app (goodIn_of _ (by decide +kernel)) ggX4_refuseOtherChanges_X4_isWith
theorem dX4_refuseOtherChanges_0 : decode cX4_refuseOtherChanges 0 = .ok (.iload_n 1, 1) := by decide +kernel
theorem dX4_refuseOtherChanges_1 : decode cX4_refuseOtherChanges 1 = .ok (.iconst 0, 1) := by decide +kernel
theorem dX4_refuseOtherChanges_2 : decode cX4_refuseOtherChanges 2 = .ok (.iconst 5, 1) := by decide +kernel
theorem dX4_refuseOtherChanges_3 : decode cX4_refuseOtherChanges 3 = .ok (.invokestatic 58, 3) := by decide +kernel
theorem dX4_refuseOtherChanges_6 : decode cX4_refuseOtherChanges 6 = .ok (.ifCond .ne 13, 3) := by decide +kernel
theorem dX4_refuseOtherChanges_9 : decode cX4_refuseOtherChanges 9 = .ok (.new 105, 3) := by decide +kernel
theorem dX4_refuseOtherChanges_12 : decode cX4_refuseOtherChanges 12 = .ok (.dup, 1) := by decide +kernel
theorem dX4_refuseOtherChanges_13 : decode cX4_refuseOtherChanges 13 = .ok (.ldc 199, 2) := by decide +kernel
theorem dX4_refuseOtherChanges_15 : decode cX4_refuseOtherChanges 15 = .ok (.invokespecial 109, 3) := by decide +kernel
theorem dX4_refuseOtherChanges_18 : decode cX4_refuseOtherChanges 18 = .ok (.athrow, 1) := by decide +kernel
theorem dX4_refuseOtherChanges_19 : decode cX4_refuseOtherChanges 19 = .ok (.iload_n 2, 1) := by decide +kernel
theorem dX4_refuseOtherChanges_20 : decode cX4_refuseOtherChanges 20 = .ok (.iconst 0, 1) := by decide +kernel
theorem dX4_refuseOtherChanges_21 : decode cX4_refuseOtherChanges 21 = .ok (.aload_n 0, 1) := by decide +kernel
theorem dX4_refuseOtherChanges_22 : decode cX4_refuseOtherChanges 22 = .ok (.iload_n 1, 1) := by decide +kernel
theorem dX4_refuseOtherChanges_23 : decode cX4_refuseOtherChanges 23 = .ok (.invokestatic 201, 3) := by decide +kernel
theorem dX4_refuseOtherChanges_26 : decode cX4_refuseOtherChanges 26 = .ok (.invokestatic 58, 3) := by decide +kernel
theorem dX4_refuseOtherChanges_29 : decode cX4_refuseOtherChanges 29 = .ok (.ifCond .ne 13, 3) := by decide +kernel
theorem dX4_refuseOtherChanges_32 : decode cX4_refuseOtherChanges 32 = .ok (.new 105, 3) := by decide +kernel
theorem dX4_refuseOtherChanges_35 : decode cX4_refuseOtherChanges 35 = .ok (.dup, 1) := by decide +kernel
theorem dX4_refuseOtherChanges_36 : decode cX4_refuseOtherChanges 36 = .ok (.ldc 205, 2) := by decide +kernel
theorem dX4_refuseOtherChanges_38 : decode cX4_refuseOtherChanges 38 = .ok (.invokespecial 109, 3) := by decide +kernel
theorem dX4_refuseOtherChanges_41 : decode cX4_refuseOtherChanges 41 = .ok (.athrow, 1) := by decide +kernel
theorem dX4_refuseOtherChanges_42 : decode cX4_refuseOtherChanges 42 = .ok (.aload_n 0, 1) := by decide +kernel
theorem dX4_refuseOtherChanges_43 : decode cX4_refuseOtherChanges 43 = .ok (.iload_n 1, 1) := by decide +kernel
theorem dX4_refuseOtherChanges_44 : decode cX4_refuseOtherChanges 44 = .ok (.iload_n 2, 1) := by decide +kernel
theorem dX4_refuseOtherChanges_45 : decode cX4_refuseOtherChanges 45 = .ok (.iload_n 3, 1) := by decide +kernel
theorem dX4_refuseOtherChanges_46 : decode cX4_refuseOtherChanges 46 = .ok (.invokestatic 207, 3) := by decide +kernel
theorem dX4_refuseOtherChanges_49 : decode cX4_refuseOtherChanges 49 = .ok (.ifCond .ne 13, 3) := by decide +kernel
theorem dX4_refuseOtherChanges_52 : decode cX4_refuseOtherChanges 52 = .ok (.new 62, 3) := by decide +kernel
theorem dX4_refuseOtherChanges_55 : decode cX4_refuseOtherChanges 55 = .ok (.dup, 1) := by decide +kernel
theorem dX4_refuseOtherChanges_56 : decode cX4_refuseOtherChanges 56 = .ok (.ldc 211, 2) := by decide +kernel
theorem dX4_refuseOtherChanges_58 : decode cX4_refuseOtherChanges 58 = .ok (.invokespecial 66, 3) := by decide +kernel
theorem dX4_refuseOtherChanges_61 : decode cX4_refuseOtherChanges 61 = .ok (.athrow, 1) := by decide +kernel
theorem dX4_refuseOtherChanges_62 : decode cX4_refuseOtherChanges 62 = .ok (.return_, 1) := by decide +kernel
set_option maxRecDepth 20000 in
theorem ggX4_lastLoopFor_X1_countLoops : GoodIn wsX4_lastLoopFor wsX1_countLoops := goodIn_r _ [5, 6, 7, 8] (by decide +kernel) (by decide +kernel)
set_option maxRecDepth 20000 in
theorem gX4_lastLoopFor_X1_countLoops : GoodIn wsX4_lastLoopFor (wsV RX4 69 RX1 yX1_countLoops wsX1_countLoops) := goodIn_app (goodIn_of _ (by decide +kernel)) ggX4_lastLoopFor_X1_countLoops
theorem dX4_lastLoopFor_0 : decode cX4_lastLoopFor 0 = .ok (.iload_n 1, 1) := by decide +kernel
theorem dX4_lastLoopFor_1 : decode cX4_lastLoopFor 1 = .ok (.iconst 5, 1) := by decide +kernel
theorem dX4_lastLoopFor_2 : decode cX4_lastLoopFor 2 = .ok (.if_icmp .ne 5, 3) := by decide +kernel
theorem dX4_lastLoopFor_5 : decode cX4_lastLoopFor 5 = .ok (.iconst 0, 1) := by decide +kernel
theorem dX4_lastLoopFor_6 : decode cX4_lastLoopFor 6 = .ok (.ireturn, 1) := by decide +kernel
theorem dX4_lastLoopFor_7 : decode cX4_lastLoopFor 7 = .ok (.aload_n 0, 1) := by decide +kernel
theorem dX4_lastLoopFor_8 : decode cX4_lastLoopFor 8 = .ok (.invokevirtual 69, 3) := by decide +kernel
theorem dX4_lastLoopFor_11 : decode cX4_lastLoopFor 11 = .ok (.iconst 1, 1) := by decide +kernel
theorem dX4_lastLoopFor_12 : decode cX4_lastLoopFor 12 = .ok (.isub, 1) := by decide +kernel
theorem dX4_lastLoopFor_13 : decode cX4_lastLoopFor 13 = .ok (.istore_n 2, 1) := by decide +kernel
theorem dX4_lastLoopFor_14 : decode cX4_lastLoopFor 14 = .ok (.iload_n 1, 1) := by decide +kernel
theorem dX4_lastLoopFor_15 : decode cX4_lastLoopFor 15 = .ok (.ifCond .eq 8, 3) := by decide +kernel
theorem dX4_lastLoopFor_18 : decode cX4_lastLoopFor 18 = .ok (.iload_n 1, 1) := by decide +kernel
theorem dX4_lastLoopFor_19 : decode cX4_lastLoopFor 19 = .ok (.iconst 4, 1) := by decide +kernel
theorem dX4_lastLoopFor_20 : decode cX4_lastLoopFor 20 = .ok (.if_icmp .ne 9, 3) := by decide +kernel
theorem dX4_lastLoopFor_23 : decode cX4_lastLoopFor 23 = .ok (.iload_n 2, 1) := by decide +kernel
theorem dX4_lastLoopFor_24 : decode cX4_lastLoopFor 24 = .ok (.iconst 1, 1) := by decide +kernel
theorem dX4_lastLoopFor_25 : decode cX4_lastLoopFor 25 = .ok (.isub, 1) := by decide +kernel
theorem dX4_lastLoopFor_26 : decode cX4_lastLoopFor 26 = .ok (.goto 4, 3) := by decide +kernel
theorem dX4_lastLoopFor_29 : decode cX4_lastLoopFor 29 = .ok (.iload_n 2, 1) := by decide +kernel
theorem dX4_lastLoopFor_30 : decode cX4_lastLoopFor 30 = .ok (.ireturn, 1) := by decide +kernel
set_option maxRecDepth 20000 in
theorem ggX4_isWith_X1_countSteps : GoodIn wsX4_isWith wsX1_countSteps := goodIn_r _ [5, 6, 7, 8, 4, 9, 10, 11, 12, 13, 14, 19, 20] (by decide +kernel) (by decide +kernel)
set_option maxRecDepth 20000 in
theorem gX4_isWith_X1_countSteps : GoodIn wsX4_isWith (wsV RX4 95 RX1 yX1_countSteps wsX1_countSteps) := goodIn_app (goodIn_of _ (by decide +kernel)) ggX4_isWith_X1_countSteps
set_option maxRecDepth 20000 in
theorem ggX4_isWith_X4_isBetween : GoodIn wsX4_isWith wsX4_isBetween := goodIn_r _ [18] (by decide +kernel) (by decide +kernel)
set_option maxRecDepth 20000 in
theorem gX4_isWith_X4_isBetween : GoodIn wsX4_isWith (va_wsS RX4 58 yX4_isBetween wsX4_isBetween) := goodIn_app (goodIn_of _ (by decide +kernel)) ggX4_isWith_X4_isBetween
theorem dX4_isWith_0 : decode cX4_isWith 0 = .ok (.iload_n 1, 1) := by decide +kernel
theorem dX4_isWith_1 : decode cX4_isWith 1 = .ok (.iconst 1, 1) := by decide +kernel
theorem dX4_isWith_2 : decode cX4_isWith 2 = .ok (.if_icmp .ne 16, 3) := by decide +kernel
theorem dX4_isWith_5 : decode cX4_isWith 5 = .ok (.iload_n 3, 1) := by decide +kernel
theorem dX4_isWith_6 : decode cX4_isWith 6 = .ok (.iconst 1, 1) := by decide +kernel
theorem dX4_isWith_7 : decode cX4_isWith 7 = .ok (.aload_n 0, 1) := by decide +kernel
theorem dX4_isWith_8 : decode cX4_isWith 8 = .ok (.iload_n 2, 1) := by decide +kernel
theorem dX4_isWith_9 : decode cX4_isWith 9 = .ok (.invokevirtual 95, 3) := by decide +kernel
theorem dX4_isWith_12 : decode cX4_isWith 12 = .ok (.iconst 1, 1) := by decide +kernel
theorem dX4_isWith_13 : decode cX4_isWith 13 = .ok (.isub, 1) := by decide +kernel
theorem dX4_isWith_14 : decode cX4_isWith 14 = .ok (.invokestatic 58, 3) := by decide +kernel
theorem dX4_isWith_17 : decode cX4_isWith 17 = .ok (.ireturn, 1) := by decide +kernel
theorem dX4_isWith_18 : decode cX4_isWith 18 = .ok (.iload_n 1, 1) := by decide +kernel
theorem dX4_isWith_19 : decode cX4_isWith 19 = .ok (.iconst 2, 1) := by decide +kernel
theorem dX4_isWith_20 : decode cX4_isWith 20 = .ok (.if_icmp .ne 11, 3) := by decide +kernel
theorem dX4_isWith_23 : decode cX4_isWith 23 = .ok (.iload_n 3, 1) := by decide +kernel
theorem dX4_isWith_24 : decode cX4_isWith 24 = .ok (.iconst 1, 1) := by decide +kernel
theorem dX4_isWith_25 : decode cX4_isWith 25 = .ok (.bipush 10, 2) := by decide +kernel
theorem dX4_isWith_27 : decode cX4_isWith 27 = .ok (.invokestatic 58, 3) := by decide +kernel
theorem dX4_isWith_30 : decode cX4_isWith 30 = .ok (.ireturn, 1) := by decide +kernel
theorem dX4_isWith_31 : decode cX4_isWith 31 = .ok (.iload_n 3, 1) := by decide +kernel
theorem dX4_isWith_32 : decode cX4_isWith 32 = .ok (.ifCond .ne 7, 3) := by decide +kernel
theorem dX4_isWith_35 : decode cX4_isWith 35 = .ok (.iconst 1, 1) := by decide +kernel
theorem dX4_isWith_36 : decode cX4_isWith 36 = .ok (.goto 4, 3) := by decide +kernel
theorem dX4_isWith_39 : decode cX4_isWith 39 = .ok (.iconst 0, 1) := by decide +kernel
theorem dX4_isWith_40 : decode cX4_isWith 40 = .ok (.ireturn, 1) := by decide +kernel
set_option maxRecDepth 20000 in
theorem ggX4_firstToJoin_X1_countLoops : GoodIn wsX4_firstToJoin wsX1_countLoops := goodIn_r _ [5, 6, 50, 51] (by decide +kernel) (by decide +kernel)
set_option maxRecDepth 20000 in
theorem gX4_firstToJoin_X1_countLoops : GoodIn wsX4_firstToJoin (wsV RX4 69 RX1 yX1_countLoops wsX1_countLoops) := goodIn_app (goodIn_of _ (by decide +kernel)) ggX4_firstToJoin_X1_countLoops
set_option maxRecDepth 20000 in
theorem ggX4_firstToJoin_X2_againstJoin : GoodIn wsX4_firstToJoin wsX2_againstJoin := goodIn_r _ [10, 11, 12, 9, 13, 14, 15, 16, 4, 17, 18, 19, 20, 21, 22, 23, 24, 25, 26, 27, 28, 29, 30, 31, 32, 33, 34, 35, 36, 37, 38, 39, 40, 41, 42, 43, 44, 45, 46, 47, 48, 49, 50, 51] (by decide +kernel) (by decide +kernel)
set_option maxRecDepth 20000 in
theorem gX4_firstToJoin_X2_againstJoin : GoodIn wsX4_firstToJoin (va_wsS RX4 213 yX2_againstJoin wsX2_againstJoin) := goodIn_app (goodIn_of _ (by decide +kernel)) ggX4_firstToJoin_X2_againstJoin
theorem dX4_firstToJoin_0 : decode cX4_firstToJoin 0 = .ok (.iconst 0, 1) := by decide +kernel
theorem dX4_firstToJoin_1 : decode cX4_firstToJoin 1 = .ok (.istore_n 1, 1) := by decide +kernel
theorem dX4_firstToJoin_2 : decode cX4_firstToJoin 2 = .ok (.iload_n 1, 1) := by decide +kernel
theorem dX4_firstToJoin_3 : decode cX4_firstToJoin 3 = .ok (.aload_n 0, 1) := by decide +kernel
theorem dX4_firstToJoin_4 : decode cX4_firstToJoin 4 = .ok (.invokevirtual 69, 3) := by decide +kernel
theorem dX4_firstToJoin_7 : decode cX4_firstToJoin 7 = .ok (.iconst 1, 1) := by decide +kernel
theorem dX4_firstToJoin_8 : decode cX4_firstToJoin 8 = .ok (.isub, 1) := by decide +kernel
theorem dX4_firstToJoin_9 : decode cX4_firstToJoin 9 = .ok (.if_icmp .ge 19, 3) := by decide +kernel
theorem dX4_firstToJoin_12 : decode cX4_firstToJoin 12 = .ok (.aload_n 0, 1) := by decide +kernel
theorem dX4_firstToJoin_13 : decode cX4_firstToJoin 13 = .ok (.iload_n 1, 1) := by decide +kernel
theorem dX4_firstToJoin_14 : decode cX4_firstToJoin 14 = .ok (.invokestatic 213, 3) := by decide +kernel
theorem dX4_firstToJoin_17 : decode cX4_firstToJoin 17 = .ok (.ifCond .ne 5, 3) := by decide +kernel
theorem dX4_firstToJoin_20 : decode cX4_firstToJoin 20 = .ok (.iload_n 1, 1) := by decide +kernel
theorem dX4_firstToJoin_21 : decode cX4_firstToJoin 21 = .ok (.ireturn, 1) := by decide +kernel
theorem dX4_firstToJoin_22 : decode cX4_firstToJoin 22 = .ok (.iinc 1 1, 3) := by decide +kernel
theorem dX4_firstToJoin_25 : decode cX4_firstToJoin 25 = .ok (.goto (-23), 3) := by decide +kernel
theorem dX4_firstToJoin_28 : decode cX4_firstToJoin 28 = .ok (.iconst (-1), 1) := by decide +kernel
theorem dX4_firstToJoin_29 : decode cX4_firstToJoin 29 = .ok (.ireturn, 1) := by decide +kernel
set_option maxRecDepth 20000 in
theorem ggX4_isLook_X4_isBetween : GoodIn wsX4_isLook wsX4_isBetween := goodIn_r _ [4] (by decide +kernel) (by decide +kernel)
set_option maxRecDepth 20000 in
theorem gX4_isLook_X4_isBetween : GoodIn wsX4_isLook (va_wsS RX4 58 yX4_isBetween wsX4_isBetween) := goodIn_app (goodIn_of _ (by decide +kernel)) ggX4_isLook_X4_isBetween
set_option maxRecDepth 20000 in
theorem ggX4_isLook_X4_isVariable : GoodIn wsX4_isLook wsX4_isVariable := goodIn_r _ [7] (by decide +kernel) (by decide +kernel)
set_option maxRecDepth 20000 in
theorem gX4_isLook_X4_isVariable : GoodIn wsX4_isLook (va_wsS RX4 216 yX4_isVariable wsX4_isVariable) := goodIn_app (goodIn_of _ (by decide +kernel)) ggX4_isLook_X4_isVariable
theorem dX4_isLook_0 : decode cX4_isLook 0 = .ok (.iload_n 0, 1) := by decide +kernel
theorem dX4_isLook_1 : decode cX4_isLook 1 = .ok (.iconst 0, 1) := by decide +kernel
theorem dX4_isLook_2 : decode cX4_isLook 2 = .ok (.iconst 4, 1) := by decide +kernel
theorem dX4_isLook_3 : decode cX4_isLook 3 = .ok (.invokestatic 58, 3) := by decide +kernel
theorem dX4_isLook_6 : decode cX4_isLook 6 = .ok (.ifCond .eq 25, 3) := by decide +kernel
theorem dX4_isLook_9 : decode cX4_isLook 9 = .ok (.iload_n 1, 1) := by decide +kernel
theorem dX4_isLook_10 : decode cX4_isLook 10 = .ok (.bipush (-100), 2) := by decide +kernel
theorem dX4_isLook_12 : decode cX4_isLook 12 = .ok (.bipush 100, 2) := by decide +kernel
theorem dX4_isLook_14 : decode cX4_isLook 14 = .ok (.invokestatic 58, 3) := by decide +kernel
theorem dX4_isLook_17 : decode cX4_isLook 17 = .ok (.ifCond .ne 10, 3) := by decide +kernel
theorem dX4_isLook_20 : decode cX4_isLook 20 = .ok (.iload_n 1, 1) := by decide +kernel
theorem dX4_isLook_21 : decode cX4_isLook 21 = .ok (.invokestatic 216, 3) := by decide +kernel
theorem dX4_isLook_24 : decode cX4_isLook 24 = .ok (.ifCond .eq 7, 3) := by decide +kernel
theorem dX4_isLook_27 : decode cX4_isLook 27 = .ok (.iconst 1, 1) := by decide +kernel
theorem dX4_isLook_28 : decode cX4_isLook 28 = .ok (.goto 4, 3) := by decide +kernel
theorem dX4_isLook_31 : decode cX4_isLook 31 = .ok (.iconst 0, 1) := by decide +kernel
theorem dX4_isLook_32 : decode cX4_isLook 32 = .ok (.ireturn, 1) := by decide +kernel
theorem dX4_isVariable_0 : decode cX4_isVariable 0 = .ok (.iload_n 0, 1) := by decide +kernel
theorem dX4_isVariable_1 : decode cX4_isVariable 1 = .ok (.sipush 1000, 3) := by decide +kernel
theorem dX4_isVariable_4 : decode cX4_isVariable 4 = .ok (.if_icmp .lt 14, 3) := by decide +kernel
theorem dX4_isVariable_7 : decode cX4_isVariable 7 = .ok (.iload_n 0, 1) := by decide +kernel
theorem dX4_isVariable_8 : decode cX4_isVariable 8 = .ok (.sipush 1004, 3) := by decide +kernel
theorem dX4_isVariable_11 : decode cX4_isVariable 11 = .ok (.if_icmp .ge 7, 3) := by decide +kernel
theorem dX4_isVariable_14 : decode cX4_isVariable 14 = .ok (.iconst 1, 1) := by decide +kernel
theorem dX4_isVariable_15 : decode cX4_isVariable 15 = .ok (.goto 4, 3) := by decide +kernel
theorem dX4_isVariable_18 : decode cX4_isVariable 18 = .ok (.iconst 0, 1) := by decide +kernel
theorem dX4_isVariable_19 : decode cX4_isVariable 19 = .ok (.ireturn, 1) := by decide +kernel
set_option maxRecDepth 20000 in
theorem ggX4_isDeed_X4_isBetween : GoodIn wsX4_isDeed wsX4_isBetween := goodIn_r _ [4] (by decide +kernel) (by decide +kernel)
set_option maxRecDepth 20000 in
theorem gX4_isDeed_X4_isBetween : GoodIn wsX4_isDeed (va_wsS RX4 58 yX4_isBetween wsX4_isBetween) := goodIn_app (goodIn_of _ (by decide +kernel)) ggX4_isDeed_X4_isBetween
theorem dX4_isDeed_0 : decode cX4_isDeed 0 = .ok (.iload_n 0, 1) := by decide +kernel
theorem dX4_isDeed_1 : decode cX4_isDeed 1 = .ok (.iconst 4, 1) := by decide +kernel
theorem dX4_isDeed_2 : decode cX4_isDeed 2 = .ok (.if_icmp .ne 13, 3) := by decide +kernel
theorem dX4_isDeed_5 : decode cX4_isDeed 5 = .ok (.iload_n 1, 1) := by decide +kernel
theorem dX4_isDeed_6 : decode cX4_isDeed 6 = .ok (.ifCond .ne 7, 3) := by decide +kernel
theorem dX4_isDeed_9 : decode cX4_isDeed 9 = .ok (.iconst 1, 1) := by decide +kernel
theorem dX4_isDeed_10 : decode cX4_isDeed 10 = .ok (.goto 4, 3) := by decide +kernel
theorem dX4_isDeed_13 : decode cX4_isDeed 13 = .ok (.iconst 0, 1) := by decide +kernel
theorem dX4_isDeed_14 : decode cX4_isDeed 14 = .ok (.ireturn, 1) := by decide +kernel
theorem dX4_isDeed_15 : decode cX4_isDeed 15 = .ok (.iload_n 0, 1) := by decide +kernel
theorem dX4_isDeed_16 : decode cX4_isDeed 16 = .ok (.iconst 5, 1) := by decide +kernel
theorem dX4_isDeed_17 : decode cX4_isDeed 17 = .ok (.if_icmp .ne 11, 3) := by decide +kernel
theorem dX4_isDeed_20 : decode cX4_isDeed 20 = .ok (.iload_n 1, 1) := by decide +kernel
theorem dX4_isDeed_21 : decode cX4_isDeed 21 = .ok (.iconst 0, 1) := by decide +kernel
theorem dX4_isDeed_22 : decode cX4_isDeed 22 = .ok (.bipush 100, 2) := by decide +kernel
theorem dX4_isDeed_24 : decode cX4_isDeed 24 = .ok (.invokestatic 58, 3) := by decide +kernel
theorem dX4_isDeed_27 : decode cX4_isDeed 27 = .ok (.ireturn, 1) := by decide +kernel
theorem dX4_isDeed_28 : decode cX4_isDeed 28 = .ok (.iload_n 0, 1) := by decide +kernel
theorem dX4_isDeed_29 : decode cX4_isDeed 29 = .ok (.iconst 0, 1) := by decide +kernel
theorem dX4_isDeed_30 : decode cX4_isDeed 30 = .ok (.iconst 3, 1) := by decide +kernel
theorem dX4_isDeed_31 : decode cX4_isDeed 31 = .ok (.invokestatic 58, 3) := by decide +kernel
theorem dX4_isDeed_34 : decode cX4_isDeed 34 = .ok (.ifCond .eq 16, 3) := by decide +kernel
theorem dX4_isDeed_37 : decode cX4_isDeed 37 = .ok (.iload_n 1, 1) := by decide +kernel
theorem dX4_isDeed_38 : decode cX4_isDeed 38 = .ok (.iconst 0, 1) := by decide +kernel
theorem dX4_isDeed_39 : decode cX4_isDeed 39 = .ok (.iconst 3, 1) := by decide +kernel
theorem dX4_isDeed_40 : decode cX4_isDeed 40 = .ok (.invokestatic 58, 3) := by decide +kernel
theorem dX4_isDeed_43 : decode cX4_isDeed 43 = .ok (.ifCond .eq 7, 3) := by decide +kernel
theorem dX4_isDeed_46 : decode cX4_isDeed 46 = .ok (.iconst 1, 1) := by decide +kernel
theorem dX4_isDeed_47 : decode cX4_isDeed 47 = .ok (.goto 4, 3) := by decide +kernel
theorem dX4_isDeed_50 : decode cX4_isDeed 50 = .ok (.iconst 0, 1) := by decide +kernel
theorem dX4_isDeed_51 : decode cX4_isDeed 51 = .ok (.ireturn, 1) := by decide +kernel
set_option maxRecDepth 20000 in
theorem ggX4_checkedRows_X4_isBetween : GoodIn wsX4_checkedRows wsX4_isBetween := goodIn_r _ [6] (by decide +kernel) (by decide +kernel)
set_option maxRecDepth 20000 in
theorem gX4_checkedRows_X4_isBetween : GoodIn wsX4_checkedRows (va_wsS RX4 58 yX4_isBetween wsX4_isBetween) := goodIn_app (goodIn_of _ (by decide +kernel)) ggX4_checkedRows_X4_isBetween
theorem dX4_checkedRows_0 : decode cX4_checkedRows 0 = .ok (.iload_n 0, 1) := by decide +kernel
theorem dX4_checkedRows_1 : decode cX4_checkedRows 1 = .ok (.iconst 0, 1) := by decide +kernel
theorem dX4_checkedRows_2 : decode cX4_checkedRows 2 = .ok (.bipush 6, 2) := by decide +kernel
theorem dX4_checkedRows_4 : decode cX4_checkedRows 4 = .ok (.invokestatic 58, 3) := by decide +kernel
theorem dX4_checkedRows_7 : decode cX4_checkedRows 7 = .ok (.ifCond .eq 12, 3) := by decide +kernel
theorem dX4_checkedRows_10 : decode cX4_checkedRows 10 = .ok (.iload_n 1, 1) := by decide +kernel
theorem dX4_checkedRows_11 : decode cX4_checkedRows 11 = .ok (.iconst 1, 1) := by decide +kernel
theorem dX4_checkedRows_12 : decode cX4_checkedRows 12 = .ok (.iconst 4, 1) := by decide +kernel
theorem dX4_checkedRows_13 : decode cX4_checkedRows 13 = .ok (.invokestatic 58, 3) := by decide +kernel
theorem dX4_checkedRows_16 : decode cX4_checkedRows 16 = .ok (.ifCond .ne 13, 3) := by decide +kernel
theorem dX4_checkedRows_19 : decode cX4_checkedRows 19 = .ok (.new 62, 3) := by decide +kernel
theorem dX4_checkedRows_22 : decode cX4_checkedRows 22 = .ok (.dup, 1) := by decide +kernel
theorem dX4_checkedRows_23 : decode cX4_checkedRows 23 = .ok (.ldc 220, 2) := by decide +kernel
theorem dX4_checkedRows_25 : decode cX4_checkedRows 25 = .ok (.invokespecial 66, 3) := by decide +kernel
theorem dX4_checkedRows_28 : decode cX4_checkedRows 28 = .ok (.athrow, 1) := by decide +kernel
theorem dX4_checkedRows_29 : decode cX4_checkedRows 29 = .ok (.iconst 1, 1) := by decide +kernel
theorem dX4_checkedRows_30 : decode cX4_checkedRows 30 = .ok (.istore_n 2, 1) := by decide +kernel
theorem dX4_checkedRows_31 : decode cX4_checkedRows 31 = .ok (.iconst 0, 1) := by decide +kernel
theorem dX4_checkedRows_32 : decode cX4_checkedRows 32 = .ok (.istore_n 3, 1) := by decide +kernel
theorem dX4_checkedRows_33 : decode cX4_checkedRows 33 = .ok (.iload_n 3, 1) := by decide +kernel
theorem dX4_checkedRows_34 : decode cX4_checkedRows 34 = .ok (.iload_n 0, 1) := by decide +kernel
theorem dX4_checkedRows_35 : decode cX4_checkedRows 35 = .ok (.if_icmp .ge 13, 3) := by decide +kernel
theorem dX4_checkedRows_38 : decode cX4_checkedRows 38 = .ok (.iload_n 2, 1) := by decide +kernel
theorem dX4_checkedRows_39 : decode cX4_checkedRows 39 = .ok (.iload_n 1, 1) := by decide +kernel
theorem dX4_checkedRows_40 : decode cX4_checkedRows 40 = .ok (.imul, 1) := by decide +kernel
theorem dX4_checkedRows_41 : decode cX4_checkedRows 41 = .ok (.istore_n 2, 1) := by decide +kernel
theorem dX4_checkedRows_42 : decode cX4_checkedRows 42 = .ok (.iinc 3 1, 3) := by decide +kernel
theorem dX4_checkedRows_45 : decode cX4_checkedRows 45 = .ok (.goto (-12), 3) := by decide +kernel
theorem dX4_checkedRows_48 : decode cX4_checkedRows 48 = .ok (.iload_n 2, 1) := by decide +kernel
theorem dX4_checkedRows_49 : decode cX4_checkedRows 49 = .ok (.sipush 1024, 3) := by decide +kernel
theorem dX4_checkedRows_52 : decode cX4_checkedRows 52 = .ok (.if_icmp .le 13, 3) := by decide +kernel
theorem dX4_checkedRows_55 : decode cX4_checkedRows 55 = .ok (.new 62, 3) := by decide +kernel
theorem dX4_checkedRows_58 : decode cX4_checkedRows 58 = .ok (.dup, 1) := by decide +kernel
theorem dX4_checkedRows_59 : decode cX4_checkedRows 59 = .ok (.ldc 222, 2) := by decide +kernel
theorem dX4_checkedRows_61 : decode cX4_checkedRows 61 = .ok (.invokespecial 66, 3) := by decide +kernel
theorem dX4_checkedRows_64 : decode cX4_checkedRows 64 = .ok (.athrow, 1) := by decide +kernel
theorem dX4_checkedRows_65 : decode cX4_checkedRows 65 = .ok (.iload_n 2, 1) := by decide +kernel
theorem dX4_checkedRows_66 : decode cX4_checkedRows 66 = .ok (.ireturn, 1) := by decide +kernel
set_option maxRecDepth 20000 in
theorem ggX4_answerTheSame_X3_goThrough : GoodIn wsX4_answerTheSame wsX3_goThrough := goodIn_r _ [8, 9, 10, 11, 12, 13, 14, 15, 16, 17, 18, 19, 20, 7, 21, 22, 23, 24, 25, 26, 27, 28, 29, 30, 31, 32, 33, 34, 35, 36, 37, 38, 39, 40, 41, 42, 43, 44, 45, 46, 47, 48, 49, 50, 51, 52, 53, 54, 55, 56, 57, 58, 59, 60, 61, 62, 78, 79, 80, 81, 82] (by decide +kernel) (by decide +kernel)
set_option maxRecDepth 20000 in
theorem gX4_answerTheSame_X3_goThrough : GoodIn wsX4_answerTheSame (wsV RX4 120 RX3 yX3_goThrough wsX3_goThrough) := goodIn_app (goodIn_of _ (by decide +kernel)) ggX4_answerTheSame_X3_goThrough
set_option maxRecDepth 20000 in
theorem ggX4_answerTheSame_X3_answersLike : GoodIn wsX4_answerTheSame wsX3_answersLike := goodIn_r _ [66, 11, 51, 52, 53, 7, 54, 9, 78, 79, 80] (by decide +kernel) (by decide +kernel)
set_option maxRecDepth 20000 in
theorem gX4_answerTheSame_X3_answersLike : GoodIn wsX4_answerTheSame (wsV RX4 224 RX3 yX3_answersLike wsX3_answersLike) := goodIn_app (goodIn_of _ (by decide +kernel)) ggX4_answerTheSame_X3_answersLike
theorem dX4_answerTheSame_0 : decode cX4_answerTheSame 0 = .ok (.aload_n 0, 1) := by decide +kernel
theorem dX4_answerTheSame_1 : decode cX4_answerTheSame 1 = .ok (.getfield 33, 3) := by decide +kernel
theorem dX4_answerTheSame_4 : decode cX4_answerTheSame 4 = .ok (.aload_n 1, 1) := by decide +kernel
theorem dX4_answerTheSame_5 : decode cX4_answerTheSame 5 = .ok (.aload_n 0, 1) := by decide +kernel
theorem dX4_answerTheSame_6 : decode cX4_answerTheSame 6 = .ok (.getfield 42, 3) := by decide +kernel
theorem dX4_answerTheSame_9 : decode cX4_answerTheSame 9 = .ok (.getfield 174, 3) := by decide +kernel
theorem dX4_answerTheSame_12 : decode cX4_answerTheSame 12 = .ok (.aload_n 0, 1) := by decide +kernel
theorem dX4_answerTheSame_13 : decode cX4_answerTheSame 13 = .ok (.getfield 42, 3) := by decide +kernel
theorem dX4_answerTheSame_16 : decode cX4_answerTheSame 16 = .ok (.getfield 177, 3) := by decide +kernel
theorem dX4_answerTheSame_19 : decode cX4_answerTheSame 19 = .ok (.invokevirtual 120, 3) := by decide +kernel
theorem dX4_answerTheSame_22 : decode cX4_answerTheSame 22 = .ok (.aload_n 0, 1) := by decide +kernel
theorem dX4_answerTheSame_23 : decode cX4_answerTheSame 23 = .ok (.getfield 36, 3) := by decide +kernel
theorem dX4_answerTheSame_26 : decode cX4_answerTheSame 26 = .ok (.aload_n 2, 1) := by decide +kernel
theorem dX4_answerTheSame_27 : decode cX4_answerTheSame 27 = .ok (.aload_n 0, 1) := by decide +kernel
theorem dX4_answerTheSame_28 : decode cX4_answerTheSame 28 = .ok (.getfield 42, 3) := by decide +kernel
theorem dX4_answerTheSame_31 : decode cX4_answerTheSame 31 = .ok (.getfield 174, 3) := by decide +kernel
theorem dX4_answerTheSame_34 : decode cX4_answerTheSame 34 = .ok (.aload_n 0, 1) := by decide +kernel
theorem dX4_answerTheSame_35 : decode cX4_answerTheSame 35 = .ok (.getfield 42, 3) := by decide +kernel
theorem dX4_answerTheSame_38 : decode cX4_answerTheSame 38 = .ok (.getfield 177, 3) := by decide +kernel
theorem dX4_answerTheSame_41 : decode cX4_answerTheSame 41 = .ok (.invokevirtual 120, 3) := by decide +kernel
theorem dX4_answerTheSame_44 : decode cX4_answerTheSame 44 = .ok (.aload_n 0, 1) := by decide +kernel
theorem dX4_answerTheSame_45 : decode cX4_answerTheSame 45 = .ok (.getfield 33, 3) := by decide +kernel
theorem dX4_answerTheSame_48 : decode cX4_answerTheSame 48 = .ok (.aload_n 0, 1) := by decide +kernel
theorem dX4_answerTheSame_49 : decode cX4_answerTheSame 49 = .ok (.getfield 36, 3) := by decide +kernel
theorem dX4_answerTheSame_52 : decode cX4_answerTheSame 52 = .ok (.invokevirtual 224, 3) := by decide +kernel
theorem dX4_answerTheSame_55 : decode cX4_answerTheSame 55 = .ok (.ireturn, 1) := by decide +kernel
theorem dX4_isBetween_0 : decode cX4_isBetween 0 = .ok (.iload_n 0, 1) := by decide +kernel
theorem dX4_isBetween_1 : decode cX4_isBetween 1 = .ok (.iload_n 1, 1) := by decide +kernel
theorem dX4_isBetween_2 : decode cX4_isBetween 2 = .ok (.if_icmp .lt 12, 3) := by decide +kernel
theorem dX4_isBetween_5 : decode cX4_isBetween 5 = .ok (.iload_n 0, 1) := by decide +kernel
theorem dX4_isBetween_6 : decode cX4_isBetween 6 = .ok (.iload_n 2, 1) := by decide +kernel
theorem dX4_isBetween_7 : decode cX4_isBetween 7 = .ok (.if_icmp .gt 7, 3) := by decide +kernel
theorem dX4_isBetween_10 : decode cX4_isBetween 10 = .ok (.iconst 1, 1) := by decide +kernel
theorem dX4_isBetween_11 : decode cX4_isBetween 11 = .ok (.goto 4, 3) := by decide +kernel
theorem dX4_isBetween_14 : decode cX4_isBetween 14 = .ok (.iconst 0, 1) := by decide +kernel
theorem dX4_isBetween_15 : decode cX4_isBetween 15 = .ok (.ireturn, 1) := by decide +kernel
theorem dX4_mix_0 : decode cX4_mix 0 = .ok (.lload_n 0, 1) := by decide +kernel
theorem dX4_mix_1 : decode cX4_mix 1 = .ok (.ldc2_w 228, 3) := by decide +kernel
theorem dX4_mix_4 : decode cX4_mix 4 = .ok (.lmul, 1) := by decide +kernel
theorem dX4_mix_5 : decode cX4_mix 5 = .ok (.lload_n 2, 1) := by decide +kernel
theorem dX4_mix_6 : decode cX4_mix 6 = .ok (.ladd, 1) := by decide +kernel
theorem dX4_mix_7 : decode cX4_mix 7 = .ok (.lreturn, 1) := by decide +kernel
theorem dX5_init_0 : decode cX5_init 0 = .ok (.aload_n 0, 1) := by decide +kernel
theorem dX5_init_1 : decode cX5_init 1 = .ok (.invokespecial 3, 3) := by decide +kernel
theorem dX5_init_4 : decode cX5_init 4 = .ok (.aload_n 0, 1) := by decide +kernel
theorem dX5_init_5 : decode cX5_init 5 = .ok (.bipush 10, 2) := by decide +kernel
theorem dX5_init_7 : decode cX5_init 7 = .ok (.sipush 253, 3) := by decide +kernel
theorem dX5_init_10 : decode cX5_init 10 = .ok (.multianewarray 9 2, 4) := by decide +kernel
theorem dX5_init_14 : decode cX5_init 14 = .ok (.putfield 11, 3) := by decide +kernel
theorem dX5_init_17 : decode cX5_init 17 = .ok (.aload_n 0, 1) := by decide +kernel
theorem dX5_init_18 : decode cX5_init 18 = .ok (.sipush 253, 3) := by decide +kernel
theorem dX5_init_21 : decode cX5_init 21 = .ok (.newarray .int, 2) := by decide +kernel
theorem dX5_init_23 : decode cX5_init 23 = .ok (.putfield 14, 3) := by decide +kernel
theorem dX5_init_26 : decode cX5_init 26 = .ok (.aload_n 0, 1) := by decide +kernel
theorem dX5_init_27 : decode cX5_init 27 = .ok (.bipush 40, 2) := by decide +kernel
theorem dX5_init_29 : decode cX5_init 29 = .ok (.newarray .long, 2) := by decide +kernel
theorem dX5_init_31 : decode cX5_init 31 = .ok (.putfield 18, 3) := by decide +kernel
theorem dX5_init_34 : decode cX5_init 34 = .ok (.aload_n 0, 1) := by decide +kernel
theorem dX5_init_35 : decode cX5_init 35 = .ok (.bipush 6, 2) := by decide +kernel
theorem dX5_init_37 : decode cX5_init 37 = .ok (.newarray .long, 2) := by decide +kernel
theorem dX5_init_39 : decode cX5_init 39 = .ok (.putfield 22, 3) := by decide +kernel
theorem dX5_init_42 : decode cX5_init 42 = .ok (.aload_n 0, 1) := by decide +kernel
theorem dX5_init_43 : decode cX5_init 43 = .ok (.iconst 4, 1) := by decide +kernel
theorem dX5_init_44 : decode cX5_init 44 = .ok (.newarray .long, 2) := by decide +kernel
theorem dX5_init_46 : decode cX5_init 46 = .ok (.putfield 25, 3) := by decide +kernel
theorem dX5_init_49 : decode cX5_init 49 = .ok (.aload_n 0, 1) := by decide +kernel
theorem dX5_init_50 : decode cX5_init 50 = .ok (.iconst 5, 1) := by decide +kernel
theorem dX5_init_51 : decode cX5_init 51 = .ok (.newarray .long, 2) := by decide +kernel
theorem dX5_init_53 : decode cX5_init 53 = .ok (.putfield 28, 3) := by decide +kernel
theorem dX5_init_56 : decode cX5_init 56 = .ok (.aload_n 0, 1) := by decide +kernel
theorem dX5_init_57 : decode cX5_init 57 = .ok (.iconst 4, 1) := by decide +kernel
theorem dX5_init_58 : decode cX5_init 58 = .ok (.newarray .long, 2) := by decide +kernel
theorem dX5_init_60 : decode cX5_init 60 = .ok (.putfield 31, 3) := by decide +kernel
theorem dX5_init_63 : decode cX5_init 63 = .ok (.return_, 1) := by decide +kernel
theorem dX5_thrown_0 : decode cX5_thrown 0 = .ok (.aload_n 0, 1) := by decide +kernel
theorem dX5_thrown_1 : decode cX5_thrown 1 = .ok (.getfield 34, 3) := by decide +kernel
theorem dX5_thrown_4 : decode cX5_thrown 4 = .ok (.ireturn, 1) := by decide +kernel
theorem dX5_fail_0 : decode cX5_fail 0 = .ok (.aload_n 0, 1) := by decide +kernel
theorem dX5_fail_1 : decode cX5_fail 1 = .ok (.iload_n 1, 1) := by decide +kernel
theorem dX5_fail_2 : decode cX5_fail 2 = .ok (.putfield 34, 3) := by decide +kernel
theorem dX5_fail_5 : decode cX5_fail 5 = .ok (.iconst 0, 1) := by decide +kernel
theorem dX5_fail_6 : decode cX5_fail 6 = .ok (.ireturn, 1) := by decide +kernel
theorem dX5_isIn_0 : decode cX5_isIn 0 = .ok (.lload_n 0, 1) := by decide +kernel
theorem dX5_isIn_1 : decode cX5_isIn 1 = .ok (.lload_n 2, 1) := by decide +kernel
theorem dX5_isIn_2 : decode cX5_isIn 2 = .ok (.lcmp, 1) := by decide +kernel
theorem dX5_isIn_3 : decode cX5_isIn 3 = .ok (.ifCond .lt 14, 3) := by decide +kernel
theorem dX5_isIn_6 : decode cX5_isIn 6 = .ok (.lload_n 0, 1) := by decide +kernel
theorem dX5_isIn_7 : decode cX5_isIn 7 = .ok (.lload 4, 2) := by decide +kernel
theorem dX5_isIn_9 : decode cX5_isIn 9 = .ok (.lcmp, 1) := by decide +kernel
theorem dX5_isIn_10 : decode cX5_isIn 10 = .ok (.ifCond .gt 7, 3) := by decide +kernel
theorem dX5_isIn_13 : decode cX5_isIn 13 = .ok (.iconst 1, 1) := by decide +kernel
theorem dX5_isIn_14 : decode cX5_isIn 14 = .ok (.goto 4, 3) := by decide +kernel
theorem dX5_isIn_17 : decode cX5_isIn 17 = .ok (.iconst 0, 1) := by decide +kernel
theorem dX5_isIn_18 : decode cX5_isIn 18 = .ok (.ireturn, 1) := by decide +kernel
set_option maxRecDepth 20000 in
theorem ggX5_isProgram_X5_isIn : GoodIn wsX5_isProgram wsX5_isIn := goodIn_r _ [5] (by decide +kernel) (by decide +kernel)
set_option maxRecDepth 20000 in
theorem gX5_isProgram_X5_isIn : GoodIn wsX5_isProgram (va_wsS RX5 41 yX5_isIn wsX5_isIn) := goodIn_app (goodIn_of _ (by decide +kernel)) ggX5_isProgram_X5_isIn
theorem dX5_isProgram_0 : decode cX5_isProgram 0 = .ok (.iload_n 1, 1) := by decide +kernel
theorem dX5_isProgram_1 : decode cX5_isProgram 1 = .ok (.i2l, 1) := by decide +kernel
theorem dX5_isProgram_2 : decode cX5_isProgram 2 = .ok (.lconst 0, 1) := by decide +kernel
theorem dX5_isProgram_3 : decode cX5_isProgram 3 = .ok (.aload_n 0, 1) := by decide +kernel
theorem dX5_isProgram_4 : decode cX5_isProgram 4 = .ok (.getfield 38, 3) := by decide +kernel
theorem dX5_isProgram_7 : decode cX5_isProgram 7 = .ok (.iconst 1, 1) := by decide +kernel
theorem dX5_isProgram_8 : decode cX5_isProgram 8 = .ok (.isub, 1) := by decide +kernel
theorem dX5_isProgram_9 : decode cX5_isProgram 9 = .ok (.i2l, 1) := by decide +kernel
theorem dX5_isProgram_10 : decode cX5_isProgram 10 = .ok (.invokestatic 41, 3) := by decide +kernel
theorem dX5_isProgram_13 : decode cX5_isProgram 13 = .ok (.ireturn, 1) := by decide +kernel
theorem dX5_loopAt_0 : decode cX5_loopAt 0 = .ok (.iconst 1, 1) := by decide +kernel
theorem dX5_loopAt_1 : decode cX5_loopAt 1 = .ok (.bipush 28, 2) := by decide +kernel
theorem dX5_loopAt_3 : decode cX5_loopAt 3 = .ok (.iload_n 0, 1) := by decide +kernel
theorem dX5_loopAt_4 : decode cX5_loopAt 4 = .ok (.imul, 1) := by decide +kernel
theorem dX5_loopAt_5 : decode cX5_loopAt 5 = .ok (.iadd, 1) := by decide +kernel
theorem dX5_loopAt_6 : decode cX5_loopAt 6 = .ok (.ireturn, 1) := by decide +kernel
set_option maxRecDepth 20000 in
theorem ggX5_stepAt_X5_loopAt : GoodIn wsX5_stepAt wsX5_loopAt := goodIn_r _ [4] (by decide +kernel) (by decide +kernel)
set_option maxRecDepth 20000 in
theorem gX5_stepAt_X5_loopAt : GoodIn wsX5_stepAt (va_wsS RX5 45 yX5_loopAt wsX5_loopAt) := goodIn_app (goodIn_of _ (by decide +kernel)) ggX5_stepAt_X5_loopAt
theorem dX5_stepAt_0 : decode cX5_stepAt 0 = .ok (.iload_n 0, 1) := by decide +kernel
theorem dX5_stepAt_1 : decode cX5_stepAt 1 = .ok (.invokestatic 45, 3) := by decide +kernel
theorem dX5_stepAt_4 : decode cX5_stepAt 4 = .ok (.iconst 4, 1) := by decide +kernel
theorem dX5_stepAt_5 : decode cX5_stepAt 5 = .ok (.iadd, 1) := by decide +kernel
theorem dX5_stepAt_6 : decode cX5_stepAt 6 = .ok (.iconst 4, 1) := by decide +kernel
theorem dX5_stepAt_7 : decode cX5_stepAt 7 = .ok (.iload_n 1, 1) := by decide +kernel
theorem dX5_stepAt_8 : decode cX5_stepAt 8 = .ok (.imul, 1) := by decide +kernel
theorem dX5_stepAt_9 : decode cX5_stepAt 9 = .ok (.iadd, 1) := by decide +kernel
theorem dX5_stepAt_10 : decode cX5_stepAt 10 = .ok (.ireturn, 1) := by decide +kernel
set_option maxRecDepth 20000 in
theorem ggX5_steps_X5_loopAt : GoodIn wsX5_steps wsX5_loopAt := goodIn_r _ [4] (by decide +kernel) (by decide +kernel)
set_option maxRecDepth 20000 in
theorem gX5_steps_X5_loopAt : GoodIn wsX5_steps (va_wsS RX5 45 yX5_loopAt wsX5_loopAt) := goodIn_app (goodIn_of _ (by decide +kernel)) ggX5_steps_X5_loopAt
theorem dX5_steps_0 : decode cX5_steps 0 = .ok (.aload_n 0, 1) := by decide +kernel
theorem dX5_steps_1 : decode cX5_steps 1 = .ok (.iload_n 1, 1) := by decide +kernel
theorem dX5_steps_2 : decode cX5_steps 2 = .ok (.invokestatic 45, 3) := by decide +kernel
theorem dX5_steps_5 : decode cX5_steps 5 = .ok (.iconst 3, 1) := by decide +kernel
theorem dX5_steps_6 : decode cX5_steps 6 = .ok (.iadd, 1) := by decide +kernel
theorem dX5_steps_7 : decode cX5_steps 7 = .ok (.iaload, 1) := by decide +kernel
theorem dX5_steps_8 : decode cX5_steps 8 = .ok (.ireturn, 1) := by decide +kernel
set_option maxRecDepth 20000 in
theorem ggX5_get_X5_stepAt : GoodIn wsX5_get wsX5_stepAt := goodIn_r _ [4, 5, 6, 3, 7] (by decide +kernel) (by decide +kernel)
set_option maxRecDepth 20000 in
theorem gX5_get_X5_stepAt : GoodIn wsX5_get (va_wsS RX5 49 yX5_stepAt wsX5_stepAt) := goodIn_app (goodIn_of _ (by decide +kernel)) ggX5_get_X5_stepAt
theorem dX5_get_0 : decode cX5_get 0 = .ok (.aload_n 0, 1) := by decide +kernel
theorem dX5_get_1 : decode cX5_get 1 = .ok (.iload_n 1, 1) := by decide +kernel
theorem dX5_get_2 : decode cX5_get 2 = .ok (.iload_n 2, 1) := by decide +kernel
theorem dX5_get_3 : decode cX5_get 3 = .ok (.invokestatic 49, 3) := by decide +kernel
theorem dX5_get_6 : decode cX5_get 6 = .ok (.iload_n 3, 1) := by decide +kernel
theorem dX5_get_7 : decode cX5_get 7 = .ok (.iadd, 1) := by decide +kernel
theorem dX5_get_8 : decode cX5_get 8 = .ok (.iaload, 1) := by decide +kernel
theorem dX5_get_9 : decode cX5_get 9 = .ok (.ireturn, 1) := by decide +kernel
set_option maxRecDepth 20000 in
theorem ggX5_isLoop_X5_isProgram : GoodIn wsX5_isLoop wsX5_isProgram := goodIn_r _ [6, 7, 8, 9, 5, 10, 11, 12, 13, 14, 15, 16, 17, 18, 19, 20, 21] (by decide +kernel) (by decide +kernel)
set_option maxRecDepth 20000 in
theorem gX5_isLoop_X5_isProgram : GoodIn wsX5_isLoop (wsV RX5 53 RX5 yX5_isProgram wsX5_isProgram) := goodIn_app (goodIn_of _ (by decide +kernel)) ggX5_isLoop_X5_isProgram
set_option maxRecDepth 20000 in
theorem ggX5_isLoop_X5_isIn : GoodIn wsX5_isLoop wsX5_isIn := goodIn_r _ [10] (by decide +kernel) (by decide +kernel)
set_option maxRecDepth 20000 in
theorem gX5_isLoop_X5_isIn : GoodIn wsX5_isLoop (va_wsS RX5 41 yX5_isIn wsX5_isIn) := goodIn_app (goodIn_of _ (by decide +kernel)) ggX5_isLoop_X5_isIn
theorem dX5_isLoop_0 : decode cX5_isLoop 0 = .ok (.aload_n 0, 1) := by decide +kernel
theorem dX5_isLoop_1 : decode cX5_isLoop 1 = .ok (.iload_n 1, 1) := by decide +kernel
theorem dX5_isLoop_2 : decode cX5_isLoop 2 = .ok (.invokevirtual 53, 3) := by decide +kernel
theorem dX5_isLoop_5 : decode cX5_isLoop 5 = .ok (.ifCond .eq 27, 3) := by decide +kernel
theorem dX5_isLoop_8 : decode cX5_isLoop 8 = .ok (.iload_n 2, 1) := by decide +kernel
theorem dX5_isLoop_9 : decode cX5_isLoop 9 = .ok (.i2l, 1) := by decide +kernel
theorem dX5_isLoop_10 : decode cX5_isLoop 10 = .ok (.lconst 0, 1) := by decide +kernel
theorem dX5_isLoop_11 : decode cX5_isLoop 11 = .ok (.aload_n 0, 1) := by decide +kernel
theorem dX5_isLoop_12 : decode cX5_isLoop 12 = .ok (.getfield 11, 3) := by decide +kernel
theorem dX5_isLoop_15 : decode cX5_isLoop 15 = .ok (.iload_n 1, 1) := by decide +kernel
theorem dX5_isLoop_16 : decode cX5_isLoop 16 = .ok (.aaload, 1) := by decide +kernel
theorem dX5_isLoop_17 : decode cX5_isLoop 17 = .ok (.iconst 0, 1) := by decide +kernel
theorem dX5_isLoop_18 : decode cX5_isLoop 18 = .ok (.iaload, 1) := by decide +kernel
theorem dX5_isLoop_19 : decode cX5_isLoop 19 = .ok (.iconst 1, 1) := by decide +kernel
theorem dX5_isLoop_20 : decode cX5_isLoop 20 = .ok (.isub, 1) := by decide +kernel
theorem dX5_isLoop_21 : decode cX5_isLoop 21 = .ok (.i2l, 1) := by decide +kernel
theorem dX5_isLoop_22 : decode cX5_isLoop 22 = .ok (.invokestatic 41, 3) := by decide +kernel
theorem dX5_isLoop_25 : decode cX5_isLoop 25 = .ok (.ifCond .eq 7, 3) := by decide +kernel
theorem dX5_isLoop_28 : decode cX5_isLoop 28 = .ok (.iconst 1, 1) := by decide +kernel
theorem dX5_isLoop_29 : decode cX5_isLoop 29 = .ok (.goto 4, 3) := by decide +kernel
theorem dX5_isLoop_32 : decode cX5_isLoop 32 = .ok (.iconst 0, 1) := by decide +kernel
theorem dX5_isLoop_33 : decode cX5_isLoop 33 = .ok (.ireturn, 1) := by decide +kernel
set_option maxRecDepth 20000 in
theorem ggX5_addProgram_X5_fail : GoodIn wsX5_addProgram wsX5_fail := goodIn_r _ [8, 1, 9, 10, 11, 12, 13, 14, 15, 16, 17, 18, 19] (by decide +kernel) (by decide +kernel)
set_option maxRecDepth 20000 in
theorem gX5_addProgram_X5_fail : GoodIn wsX5_addProgram (wsV RX5 57 RX5 yX5_fail wsX5_fail) := goodIn_app (goodIn_of _ (by decide +kernel)) ggX5_addProgram_X5_fail
theorem dX5_addProgram_0 : decode cX5_addProgram 0 = .ok (.aload_n 0, 1) := by decide +kernel
theorem dX5_addProgram_1 : decode cX5_addProgram 1 = .ok (.iconst 0, 1) := by decide +kernel
theorem dX5_addProgram_2 : decode cX5_addProgram 2 = .ok (.putfield 34, 3) := by decide +kernel
theorem dX5_addProgram_5 : decode cX5_addProgram 5 = .ok (.aload_n 0, 1) := by decide +kernel
theorem dX5_addProgram_6 : decode cX5_addProgram 6 = .ok (.getfield 38, 3) := by decide +kernel
theorem dX5_addProgram_9 : decode cX5_addProgram 9 = .ok (.bipush 10, 2) := by decide +kernel
theorem dX5_addProgram_11 : decode cX5_addProgram 11 = .ok (.if_icmp .ne 9, 3) := by decide +kernel
theorem dX5_addProgram_14 : decode cX5_addProgram 14 = .ok (.aload_n 0, 1) := by decide +kernel
theorem dX5_addProgram_15 : decode cX5_addProgram 15 = .ok (.iconst 1, 1) := by decide +kernel
theorem dX5_addProgram_16 : decode cX5_addProgram 16 = .ok (.invokevirtual 57, 3) := by decide +kernel
theorem dX5_addProgram_19 : decode cX5_addProgram 19 = .ok (.ireturn, 1) := by decide +kernel
theorem dX5_addProgram_20 : decode cX5_addProgram 20 = .ok (.aload_n 0, 1) := by decide +kernel
theorem dX5_addProgram_21 : decode cX5_addProgram 21 = .ok (.getfield 11, 3) := by decide +kernel
theorem dX5_addProgram_24 : decode cX5_addProgram 24 = .ok (.aload_n 0, 1) := by decide +kernel
theorem dX5_addProgram_25 : decode cX5_addProgram 25 = .ok (.getfield 38, 3) := by decide +kernel
theorem dX5_addProgram_28 : decode cX5_addProgram 28 = .ok (.aaload, 1) := by decide +kernel
theorem dX5_addProgram_29 : decode cX5_addProgram 29 = .ok (.iconst 0, 1) := by decide +kernel
theorem dX5_addProgram_30 : decode cX5_addProgram 30 = .ok (.iconst 0, 1) := by decide +kernel
theorem dX5_addProgram_31 : decode cX5_addProgram 31 = .ok (.iastore, 1) := by decide +kernel
theorem dX5_addProgram_32 : decode cX5_addProgram 32 = .ok (.aload_n 0, 1) := by decide +kernel
theorem dX5_addProgram_33 : decode cX5_addProgram 33 = .ok (.dup, 1) := by decide +kernel
theorem dX5_addProgram_34 : decode cX5_addProgram 34 = .ok (.getfield 38, 3) := by decide +kernel
theorem dX5_addProgram_37 : decode cX5_addProgram 37 = .ok (.iconst 1, 1) := by decide +kernel
theorem dX5_addProgram_38 : decode cX5_addProgram 38 = .ok (.iadd, 1) := by decide +kernel
theorem dX5_addProgram_39 : decode cX5_addProgram 39 = .ok (.putfield 38, 3) := by decide +kernel
theorem dX5_addProgram_42 : decode cX5_addProgram 42 = .ok (.aload_n 0, 1) := by decide +kernel
theorem dX5_addProgram_43 : decode cX5_addProgram 43 = .ok (.getfield 38, 3) := by decide +kernel
theorem dX5_addProgram_46 : decode cX5_addProgram 46 = .ok (.iconst 1, 1) := by decide +kernel
theorem dX5_addProgram_47 : decode cX5_addProgram 47 = .ok (.isub, 1) := by decide +kernel
theorem dX5_addProgram_48 : decode cX5_addProgram 48 = .ok (.ireturn, 1) := by decide +kernel
set_option maxRecDepth 20000 in
theorem ggX5_addLoop_X5_isProgram : GoodIn wsX5_addLoop wsX5_isProgram := goodIn_r _ [13, 14, 15, 16, 12, 17, 25, 26, 27, 28, 29, 30, 31, 32, 33, 34, 35] (by decide +kernel) (by decide +kernel)
set_option maxRecDepth 20000 in
theorem gX5_addLoop_X5_isProgram : GoodIn wsX5_addLoop (wsV RX5 53 RX5 yX5_isProgram wsX5_isProgram) := goodIn_app (goodIn_of _ (by decide +kernel)) ggX5_addLoop_X5_isProgram
set_option maxRecDepth 20000 in
theorem ggX5_addLoop_X5_fail : GoodIn wsX5_addLoop wsX5_fail := goodIn_r _ [21, 1, 25, 26, 27, 28, 29, 30, 31, 32, 33, 34, 35] (by decide +kernel) (by decide +kernel)
set_option maxRecDepth 20000 in
theorem gX5_addLoop_X5_fail : GoodIn wsX5_addLoop (wsV RX5 57 RX5 yX5_fail wsX5_fail) := goodIn_app (goodIn_of _ (by decide +kernel)) ggX5_addLoop_X5_fail
set_option maxRecDepth 20000 in
theorem ggX5_addLoop_X5_isIn : GoodIn wsX5_addLoop wsX5_isIn := goodIn_r _ [17] (by decide +kernel) (by decide +kernel)
set_option maxRecDepth 20000 in
theorem gX5_addLoop_X5_isIn : GoodIn wsX5_addLoop (va_wsS RX5 41 yX5_isIn wsX5_isIn) := goodIn_app (goodIn_of _ (by decide +kernel)) ggX5_addLoop_X5_isIn
set_option maxRecDepth 20000 in
theorem ggX5_addLoop_X5_loopAt : GoodIn wsX5_addLoop wsX5_loopAt := goodIn_r _ [24] (by decide +kernel) (by decide +kernel)
set_option maxRecDepth 20000 in
theorem gX5_addLoop_X5_loopAt : GoodIn wsX5_addLoop (va_wsS RX5 45 yX5_loopAt wsX5_loopAt) := goodIn_app (goodIn_of _ (by decide +kernel)) ggX5_addLoop_X5_loopAt
theorem dX5_addLoop_0 : decode cX5_addLoop 0 = .ok (.aload_n 0, 1) := by decide +kernel
theorem dX5_addLoop_1 : decode cX5_addLoop 1 = .ok (.iconst 0, 1) := by decide +kernel
theorem dX5_addLoop_2 : decode cX5_addLoop 2 = .ok (.putfield 34, 3) := by decide +kernel
theorem dX5_addLoop_5 : decode cX5_addLoop 5 = .ok (.aload_n 0, 1) := by decide +kernel
theorem dX5_addLoop_6 : decode cX5_addLoop 6 = .ok (.iload_n 1, 1) := by decide +kernel
theorem dX5_addLoop_7 : decode cX5_addLoop 7 = .ok (.invokevirtual 53, 3) := by decide +kernel
theorem dX5_addLoop_10 : decode cX5_addLoop 10 = .ok (.ifCond .ne 9, 3) := by decide +kernel
theorem dX5_addLoop_13 : decode cX5_addLoop 13 = .ok (.aload_n 0, 1) := by decide +kernel
theorem dX5_addLoop_14 : decode cX5_addLoop 14 = .ok (.iconst 1, 1) := by decide +kernel
theorem dX5_addLoop_15 : decode cX5_addLoop 15 = .ok (.invokevirtual 57, 3) := by decide +kernel
theorem dX5_addLoop_18 : decode cX5_addLoop 18 = .ok (.ireturn, 1) := by decide +kernel
theorem dX5_addLoop_19 : decode cX5_addLoop 19 = .ok (.iload_n 2, 1) := by decide +kernel
theorem dX5_addLoop_20 : decode cX5_addLoop 20 = .ok (.i2l, 1) := by decide +kernel
theorem dX5_addLoop_21 : decode cX5_addLoop 21 = .ok (.lconst 0, 1) := by decide +kernel
theorem dX5_addLoop_22 : decode cX5_addLoop 22 = .ok (.ldc2_w 60, 3) := by decide +kernel
theorem dX5_addLoop_25 : decode cX5_addLoop 25 = .ok (.invokestatic 41, 3) := by decide +kernel
theorem dX5_addLoop_28 : decode cX5_addLoop 28 = .ok (.ifCond .eq 15, 3) := by decide +kernel
theorem dX5_addLoop_31 : decode cX5_addLoop 31 = .ok (.iload_n 3, 1) := by decide +kernel
theorem dX5_addLoop_32 : decode cX5_addLoop 32 = .ok (.i2l, 1) := by decide +kernel
theorem dX5_addLoop_33 : decode cX5_addLoop 33 = .ok (.lconst 0, 1) := by decide +kernel
theorem dX5_addLoop_34 : decode cX5_addLoop 34 = .ok (.ldc2_w 60, 3) := by decide +kernel
theorem dX5_addLoop_37 : decode cX5_addLoop 37 = .ok (.invokestatic 41, 3) := by decide +kernel
theorem dX5_addLoop_40 : decode cX5_addLoop 40 = .ok (.ifCond .ne 9, 3) := by decide +kernel
theorem dX5_addLoop_43 : decode cX5_addLoop 43 = .ok (.aload_n 0, 1) := by decide +kernel
theorem dX5_addLoop_44 : decode cX5_addLoop 44 = .ok (.iconst 2, 1) := by decide +kernel
theorem dX5_addLoop_45 : decode cX5_addLoop 45 = .ok (.invokevirtual 57, 3) := by decide +kernel
theorem dX5_addLoop_48 : decode cX5_addLoop 48 = .ok (.ireturn, 1) := by decide +kernel
theorem dX5_addLoop_49 : decode cX5_addLoop 49 = .ok (.aload_n 0, 1) := by decide +kernel
theorem dX5_addLoop_50 : decode cX5_addLoop 50 = .ok (.getfield 11, 3) := by decide +kernel
theorem dX5_addLoop_53 : decode cX5_addLoop 53 = .ok (.iload_n 1, 1) := by decide +kernel
theorem dX5_addLoop_54 : decode cX5_addLoop 54 = .ok (.aaload, 1) := by decide +kernel
theorem dX5_addLoop_55 : decode cX5_addLoop 55 = .ok (.astore 5, 2) := by decide +kernel
theorem dX5_addLoop_57 : decode cX5_addLoop 57 = .ok (.aload 5, 2) := by decide +kernel
theorem dX5_addLoop_59 : decode cX5_addLoop 59 = .ok (.iconst 0, 1) := by decide +kernel
theorem dX5_addLoop_60 : decode cX5_addLoop 60 = .ok (.iaload, 1) := by decide +kernel
theorem dX5_addLoop_61 : decode cX5_addLoop 61 = .ok (.bipush 8, 2) := by decide +kernel
theorem dX5_addLoop_63 : decode cX5_addLoop 63 = .ok (.if_icmp .ne 9, 3) := by decide +kernel
theorem dX5_addLoop_66 : decode cX5_addLoop 66 = .ok (.aload_n 0, 1) := by decide +kernel
theorem dX5_addLoop_67 : decode cX5_addLoop 67 = .ok (.iconst 3, 1) := by decide +kernel
theorem dX5_addLoop_68 : decode cX5_addLoop 68 = .ok (.invokevirtual 57, 3) := by decide +kernel
theorem dX5_addLoop_71 : decode cX5_addLoop 71 = .ok (.ireturn, 1) := by decide +kernel
theorem dX5_addLoop_72 : decode cX5_addLoop 72 = .ok (.iconst 4, 1) := by decide +kernel
theorem dX5_addLoop_73 : decode cX5_addLoop 73 = .ok (.newarray .int, 2) := by decide +kernel
theorem dX5_addLoop_75 : decode cX5_addLoop 75 = .ok (.dup, 1) := by decide +kernel
theorem dX5_addLoop_76 : decode cX5_addLoop 76 = .ok (.iconst 0, 1) := by decide +kernel
theorem dX5_addLoop_77 : decode cX5_addLoop 77 = .ok (.iload_n 2, 1) := by decide +kernel
theorem dX5_addLoop_78 : decode cX5_addLoop 78 = .ok (.iastore, 1) := by decide +kernel
theorem dX5_addLoop_79 : decode cX5_addLoop 79 = .ok (.dup, 1) := by decide +kernel
theorem dX5_addLoop_80 : decode cX5_addLoop 80 = .ok (.iconst 1, 1) := by decide +kernel
theorem dX5_addLoop_81 : decode cX5_addLoop 81 = .ok (.iload_n 3, 1) := by decide +kernel
theorem dX5_addLoop_82 : decode cX5_addLoop 82 = .ok (.iastore, 1) := by decide +kernel
theorem dX5_addLoop_83 : decode cX5_addLoop 83 = .ok (.dup, 1) := by decide +kernel
theorem dX5_addLoop_84 : decode cX5_addLoop 84 = .ok (.iconst 2, 1) := by decide +kernel
theorem dX5_addLoop_85 : decode cX5_addLoop 85 = .ok (.iload 4, 2) := by decide +kernel
theorem dX5_addLoop_87 : decode cX5_addLoop 87 = .ok (.ifCond .eq 7, 3) := by decide +kernel
theorem dX5_addLoop_90 : decode cX5_addLoop 90 = .ok (.iconst 1, 1) := by decide +kernel
theorem dX5_addLoop_91 : decode cX5_addLoop 91 = .ok (.goto 4, 3) := by decide +kernel
theorem dX5_addLoop_94 : decode cX5_addLoop 94 = .ok (.iconst 0, 1) := by decide +kernel
theorem dX5_addLoop_95 : decode cX5_addLoop 95 = .ok (.iastore, 1) := by decide +kernel
theorem dX5_addLoop_96 : decode cX5_addLoop 96 = .ok (.dup, 1) := by decide +kernel
theorem dX5_addLoop_97 : decode cX5_addLoop 97 = .ok (.iconst 3, 1) := by decide +kernel
theorem dX5_addLoop_98 : decode cX5_addLoop 98 = .ok (.iconst 0, 1) := by decide +kernel
theorem dX5_addLoop_99 : decode cX5_addLoop 99 = .ok (.iastore, 1) := by decide +kernel
theorem dX5_addLoop_100 : decode cX5_addLoop 100 = .ok (.astore 6, 2) := by decide +kernel
theorem dX5_addLoop_102 : decode cX5_addLoop 102 = .ok (.aload 6, 2) := by decide +kernel
theorem dX5_addLoop_104 : decode cX5_addLoop 104 = .ok (.iconst 0, 1) := by decide +kernel
theorem dX5_addLoop_105 : decode cX5_addLoop 105 = .ok (.aload 5, 2) := by decide +kernel
theorem dX5_addLoop_107 : decode cX5_addLoop 107 = .ok (.aload 5, 2) := by decide +kernel
theorem dX5_addLoop_109 : decode cX5_addLoop 109 = .ok (.iconst 0, 1) := by decide +kernel
theorem dX5_addLoop_110 : decode cX5_addLoop 110 = .ok (.iaload, 1) := by decide +kernel
theorem dX5_addLoop_111 : decode cX5_addLoop 111 = .ok (.invokestatic 45, 3) := by decide +kernel
theorem dX5_addLoop_114 : decode cX5_addLoop 114 = .ok (.iconst 4, 1) := by decide +kernel
theorem dX5_addLoop_115 : decode cX5_addLoop 115 = .ok (.invokestatic 62, 3) := by decide +kernel
theorem dX5_addLoop_118 : decode cX5_addLoop 118 = .ok (.aload 5, 2) := by decide +kernel
theorem dX5_addLoop_120 : decode cX5_addLoop 120 = .ok (.iconst 0, 1) := by decide +kernel
theorem dX5_addLoop_121 : decode cX5_addLoop 121 = .ok (.dup2, 1) := by decide +kernel
theorem dX5_addLoop_122 : decode cX5_addLoop 122 = .ok (.iaload, 1) := by decide +kernel
theorem dX5_addLoop_123 : decode cX5_addLoop 123 = .ok (.iconst 1, 1) := by decide +kernel
theorem dX5_addLoop_124 : decode cX5_addLoop 124 = .ok (.iadd, 1) := by decide +kernel
theorem dX5_addLoop_125 : decode cX5_addLoop 125 = .ok (.iastore, 1) := by decide +kernel
theorem dX5_addLoop_126 : decode cX5_addLoop 126 = .ok (.aload 5, 2) := by decide +kernel
theorem dX5_addLoop_128 : decode cX5_addLoop 128 = .ok (.iconst 0, 1) := by decide +kernel
theorem dX5_addLoop_129 : decode cX5_addLoop 129 = .ok (.iaload, 1) := by decide +kernel
theorem dX5_addLoop_130 : decode cX5_addLoop 130 = .ok (.iconst 1, 1) := by decide +kernel
theorem dX5_addLoop_131 : decode cX5_addLoop 131 = .ok (.isub, 1) := by decide +kernel
theorem dX5_addLoop_132 : decode cX5_addLoop 132 = .ok (.ireturn, 1) := by decide +kernel
set_option maxRecDepth 20000 in
theorem ggX5_addStep_X5_isLoop : GoodIn wsX5_addStep wsX5_isLoop := goodIn_r _ [19, 9, 20, 21, 22, 18, 23, 24, 25, 26, 27, 41, 42, 43, 44, 45, 46, 47, 48, 49, 50, 51] (by decide +kernel) (by decide +kernel)
set_option maxRecDepth 20000 in
theorem gX5_addStep_X5_isLoop : GoodIn wsX5_addStep (wsV RX5 68 RX5 yX5_isLoop wsX5_isLoop) := goodIn_app (goodIn_of _ (by decide +kernel)) ggX5_addStep_X5_isLoop
set_option maxRecDepth 20000 in
theorem ggX5_addStep_X5_fail : GoodIn wsX5_addStep wsX5_fail := goodIn_r _ [31, 1, 41, 42, 43, 44, 45, 46, 47, 48, 49, 50, 51] (by decide +kernel) (by decide +kernel)
set_option maxRecDepth 20000 in
theorem gX5_addStep_X5_fail : GoodIn wsX5_addStep (wsV RX5 57 RX5 yX5_fail wsX5_fail) := goodIn_app (goodIn_of _ (by decide +kernel)) ggX5_addStep_X5_fail
set_option maxRecDepth 20000 in
theorem ggX5_addStep_X5_isIn : GoodIn wsX5_addStep wsX5_isIn := goodIn_r _ [27] (by decide +kernel) (by decide +kernel)
set_option maxRecDepth 20000 in
theorem gX5_addStep_X5_isIn : GoodIn wsX5_addStep (va_wsS RX5 41 yX5_isIn wsX5_isIn) := goodIn_app (goodIn_of _ (by decide +kernel)) ggX5_addStep_X5_isIn
set_option maxRecDepth 20000 in
theorem ggX5_addStep_X5_steps : GoodIn wsX5_addStep wsX5_steps := goodIn_r _ [34, 35, 36, 18, 37] (by decide +kernel) (by decide +kernel)
set_option maxRecDepth 20000 in
theorem gX5_addStep_X5_steps : GoodIn wsX5_addStep (va_wsS RX5 84 yX5_steps wsX5_steps) := goodIn_app (goodIn_of _ (by decide +kernel)) ggX5_addStep_X5_steps
set_option maxRecDepth 20000 in
theorem ggX5_addStep_X5_stepAt : GoodIn wsX5_addStep wsX5_stepAt := goodIn_r _ [40, 35, 36, 18, 37] (by decide +kernel) (by decide +kernel)
set_option maxRecDepth 20000 in
theorem gX5_addStep_X5_stepAt : GoodIn wsX5_addStep (va_wsS RX5 49 yX5_stepAt wsX5_stepAt) := goodIn_app (goodIn_of _ (by decide +kernel)) ggX5_addStep_X5_stepAt
set_option maxRecDepth 20000 in
theorem ggX5_addStep_X5_loopAt : GoodIn wsX5_addStep wsX5_loopAt := goodIn_r _ [37] (by decide +kernel) (by decide +kernel)
set_option maxRecDepth 20000 in
theorem gX5_addStep_X5_loopAt : GoodIn wsX5_addStep (va_wsS RX5 45 yX5_loopAt wsX5_loopAt) := goodIn_app (goodIn_of _ (by decide +kernel)) ggX5_addStep_X5_loopAt
theorem dX5_addStep_0 : decode cX5_addStep 0 = .ok (.aload_n 0, 1) := by decide +kernel
theorem dX5_addStep_1 : decode cX5_addStep 1 = .ok (.iconst 0, 1) := by decide +kernel
theorem dX5_addStep_2 : decode cX5_addStep 2 = .ok (.putfield 34, 3) := by decide +kernel
theorem dX5_addStep_5 : decode cX5_addStep 5 = .ok (.aload_n 0, 1) := by decide +kernel
theorem dX5_addStep_6 : decode cX5_addStep 6 = .ok (.iload_n 1, 1) := by decide +kernel
theorem dX5_addStep_7 : decode cX5_addStep 7 = .ok (.iload_n 2, 1) := by decide +kernel
theorem dX5_addStep_8 : decode cX5_addStep 8 = .ok (.invokevirtual 68, 3) := by decide +kernel
theorem dX5_addStep_11 : decode cX5_addStep 11 = .ok (.ifCond .ne 9, 3) := by decide +kernel
theorem dX5_addStep_14 : decode cX5_addStep 14 = .ok (.aload_n 0, 1) := by decide +kernel
theorem dX5_addStep_15 : decode cX5_addStep 15 = .ok (.iconst 1, 1) := by decide +kernel
theorem dX5_addStep_16 : decode cX5_addStep 16 = .ok (.invokevirtual 57, 3) := by decide +kernel
theorem dX5_addStep_19 : decode cX5_addStep 19 = .ok (.ireturn, 1) := by decide +kernel
theorem dX5_addStep_20 : decode cX5_addStep 20 = .ok (.iload 4, 2) := by decide +kernel
theorem dX5_addStep_22 : decode cX5_addStep 22 = .ok (.i2l, 1) := by decide +kernel
theorem dX5_addStep_23 : decode cX5_addStep 23 = .ok (.ldc2_w 72, 3) := by decide +kernel
theorem dX5_addStep_26 : decode cX5_addStep 26 = .ok (.ldc2_w 74, 3) := by decide +kernel
theorem dX5_addStep_29 : decode cX5_addStep 29 = .ok (.invokestatic 41, 3) := by decide +kernel
theorem dX5_addStep_32 : decode cX5_addStep 32 = .ok (.ifCond .ne 18, 3) := by decide +kernel
theorem dX5_addStep_35 : decode cX5_addStep 35 = .ok (.iload 4, 2) := by decide +kernel
theorem dX5_addStep_37 : decode cX5_addStep 37 = .ok (.i2l, 1) := by decide +kernel
theorem dX5_addStep_38 : decode cX5_addStep 38 = .ok (.ldc2_w 76, 3) := by decide +kernel
theorem dX5_addStep_41 : decode cX5_addStep 41 = .ok (.ldc2_w 78, 3) := by decide +kernel
theorem dX5_addStep_44 : decode cX5_addStep 44 = .ok (.invokestatic 41, 3) := by decide +kernel
theorem dX5_addStep_47 : decode cX5_addStep 47 = .ok (.ifCond .eq 7, 3) := by decide +kernel
theorem dX5_addStep_50 : decode cX5_addStep 50 = .ok (.iconst 1, 1) := by decide +kernel
theorem dX5_addStep_51 : decode cX5_addStep 51 = .ok (.goto 4, 3) := by decide +kernel
theorem dX5_addStep_54 : decode cX5_addStep 54 = .ok (.iconst 0, 1) := by decide +kernel
theorem dX5_addStep_55 : decode cX5_addStep 55 = .ok (.istore 7, 2) := by decide +kernel
theorem dX5_addStep_57 : decode cX5_addStep 57 = .ok (.iload_n 3, 1) := by decide +kernel
theorem dX5_addStep_58 : decode cX5_addStep 58 = .ok (.i2l, 1) := by decide +kernel
theorem dX5_addStep_59 : decode cX5_addStep 59 = .ok (.lconst 0, 1) := by decide +kernel
theorem dX5_addStep_60 : decode cX5_addStep 60 = .ok (.ldc2_w 80, 3) := by decide +kernel
theorem dX5_addStep_63 : decode cX5_addStep 63 = .ok (.invokestatic 41, 3) := by decide +kernel
theorem dX5_addStep_66 : decode cX5_addStep 66 = .ok (.ifCond .eq 56, 3) := by decide +kernel
theorem dX5_addStep_69 : decode cX5_addStep 69 = .ok (.iload 7, 2) := by decide +kernel
theorem dX5_addStep_71 : decode cX5_addStep 71 = .ok (.ifCond .eq 51, 3) := by decide +kernel
theorem dX5_addStep_74 : decode cX5_addStep 74 = .ok (.iload 5, 2) := by decide +kernel
theorem dX5_addStep_76 : decode cX5_addStep 76 = .ok (.i2l, 1) := by decide +kernel
theorem dX5_addStep_77 : decode cX5_addStep 77 = .ok (.lconst 0, 1) := by decide +kernel
theorem dX5_addStep_78 : decode cX5_addStep 78 = .ok (.ldc2_w 60, 3) := by decide +kernel
theorem dX5_addStep_81 : decode cX5_addStep 81 = .ok (.invokestatic 41, 3) := by decide +kernel
theorem dX5_addStep_84 : decode cX5_addStep 84 = .ok (.ifCond .eq 38, 3) := by decide +kernel
theorem dX5_addStep_87 : decode cX5_addStep 87 = .ok (.iload 6, 2) := by decide +kernel
theorem dX5_addStep_89 : decode cX5_addStep 89 = .ok (.i2l, 1) := by decide +kernel
theorem dX5_addStep_90 : decode cX5_addStep 90 = .ok (.lconst 0, 1) := by decide +kernel
theorem dX5_addStep_91 : decode cX5_addStep 91 = .ok (.iload 5, 2) := by decide +kernel
theorem dX5_addStep_93 : decode cX5_addStep 93 = .ok (.iconst 4, 1) := by decide +kernel
theorem dX5_addStep_94 : decode cX5_addStep 94 = .ok (.if_icmp .ne 7, 3) := by decide +kernel
theorem dX5_addStep_97 : decode cX5_addStep 97 = .ok (.lconst 0, 1) := by decide +kernel
theorem dX5_addStep_98 : decode cX5_addStep 98 = .ok (.goto 18, 3) := by decide +kernel
theorem dX5_addStep_101 : decode cX5_addStep 101 = .ok (.iload 5, 2) := by decide +kernel
theorem dX5_addStep_103 : decode cX5_addStep 103 = .ok (.iconst 5, 1) := by decide +kernel
theorem dX5_addStep_104 : decode cX5_addStep 104 = .ok (.if_icmp .ne 9, 3) := by decide +kernel
theorem dX5_addStep_107 : decode cX5_addStep 107 = .ok (.ldc2_w 74, 3) := by decide +kernel
theorem dX5_addStep_110 : decode cX5_addStep 110 = .ok (.goto 6, 3) := by decide +kernel
theorem dX5_addStep_113 : decode cX5_addStep 113 = .ok (.ldc2_w 82, 3) := by decide +kernel
theorem dX5_addStep_116 : decode cX5_addStep 116 = .ok (.invokestatic 41, 3) := by decide +kernel
theorem dX5_addStep_119 : decode cX5_addStep 119 = .ok (.ifCond .ne 9, 3) := by decide +kernel
theorem dX5_addStep_122 : decode cX5_addStep 122 = .ok (.aload_n 0, 1) := by decide +kernel
theorem dX5_addStep_123 : decode cX5_addStep 123 = .ok (.iconst 2, 1) := by decide +kernel
theorem dX5_addStep_124 : decode cX5_addStep 124 = .ok (.invokevirtual 57, 3) := by decide +kernel
theorem dX5_addStep_127 : decode cX5_addStep 127 = .ok (.ireturn, 1) := by decide +kernel
theorem dX5_addStep_128 : decode cX5_addStep 128 = .ok (.aload_n 0, 1) := by decide +kernel
theorem dX5_addStep_129 : decode cX5_addStep 129 = .ok (.getfield 11, 3) := by decide +kernel
theorem dX5_addStep_132 : decode cX5_addStep 132 = .ok (.iload_n 1, 1) := by decide +kernel
theorem dX5_addStep_133 : decode cX5_addStep 133 = .ok (.aaload, 1) := by decide +kernel
theorem dX5_addStep_134 : decode cX5_addStep 134 = .ok (.astore 8, 2) := by decide +kernel
theorem dX5_addStep_136 : decode cX5_addStep 136 = .ok (.aload 8, 2) := by decide +kernel
theorem dX5_addStep_138 : decode cX5_addStep 138 = .ok (.iload_n 2, 1) := by decide +kernel
theorem dX5_addStep_139 : decode cX5_addStep 139 = .ok (.invokestatic 84, 3) := by decide +kernel
theorem dX5_addStep_142 : decode cX5_addStep 142 = .ok (.istore 9, 2) := by decide +kernel
theorem dX5_addStep_144 : decode cX5_addStep 144 = .ok (.iload 9, 2) := by decide +kernel
theorem dX5_addStep_146 : decode cX5_addStep 146 = .ok (.bipush 6, 2) := by decide +kernel
theorem dX5_addStep_148 : decode cX5_addStep 148 = .ok (.if_icmp .ne 9, 3) := by decide +kernel
theorem dX5_addStep_151 : decode cX5_addStep 151 = .ok (.aload_n 0, 1) := by decide +kernel
theorem dX5_addStep_152 : decode cX5_addStep 152 = .ok (.iconst 3, 1) := by decide +kernel
theorem dX5_addStep_153 : decode cX5_addStep 153 = .ok (.invokevirtual 57, 3) := by decide +kernel
theorem dX5_addStep_156 : decode cX5_addStep 156 = .ok (.ireturn, 1) := by decide +kernel
theorem dX5_addStep_157 : decode cX5_addStep 157 = .ok (.iconst 4, 1) := by decide +kernel
theorem dX5_addStep_158 : decode cX5_addStep 158 = .ok (.newarray .int, 2) := by decide +kernel
theorem dX5_addStep_160 : decode cX5_addStep 160 = .ok (.dup, 1) := by decide +kernel
theorem dX5_addStep_161 : decode cX5_addStep 161 = .ok (.iconst 0, 1) := by decide +kernel
theorem dX5_addStep_162 : decode cX5_addStep 162 = .ok (.iload_n 3, 1) := by decide +kernel
theorem dX5_addStep_163 : decode cX5_addStep 163 = .ok (.iastore, 1) := by decide +kernel
theorem dX5_addStep_164 : decode cX5_addStep 164 = .ok (.dup, 1) := by decide +kernel
theorem dX5_addStep_165 : decode cX5_addStep 165 = .ok (.iconst 1, 1) := by decide +kernel
theorem dX5_addStep_166 : decode cX5_addStep 166 = .ok (.iload 4, 2) := by decide +kernel
theorem dX5_addStep_168 : decode cX5_addStep 168 = .ok (.iastore, 1) := by decide +kernel
theorem dX5_addStep_169 : decode cX5_addStep 169 = .ok (.dup, 1) := by decide +kernel
theorem dX5_addStep_170 : decode cX5_addStep 170 = .ok (.iconst 2, 1) := by decide +kernel
theorem dX5_addStep_171 : decode cX5_addStep 171 = .ok (.iload 5, 2) := by decide +kernel
theorem dX5_addStep_173 : decode cX5_addStep 173 = .ok (.iastore, 1) := by decide +kernel
theorem dX5_addStep_174 : decode cX5_addStep 174 = .ok (.dup, 1) := by decide +kernel
theorem dX5_addStep_175 : decode cX5_addStep 175 = .ok (.iconst 3, 1) := by decide +kernel
theorem dX5_addStep_176 : decode cX5_addStep 176 = .ok (.iload 6, 2) := by decide +kernel
theorem dX5_addStep_178 : decode cX5_addStep 178 = .ok (.iastore, 1) := by decide +kernel
theorem dX5_addStep_179 : decode cX5_addStep 179 = .ok (.astore 10, 2) := by decide +kernel
theorem dX5_addStep_181 : decode cX5_addStep 181 = .ok (.aload 10, 2) := by decide +kernel
theorem dX5_addStep_183 : decode cX5_addStep 183 = .ok (.iconst 0, 1) := by decide +kernel
theorem dX5_addStep_184 : decode cX5_addStep 184 = .ok (.aload 8, 2) := by decide +kernel
theorem dX5_addStep_186 : decode cX5_addStep 186 = .ok (.iload_n 2, 1) := by decide +kernel
theorem dX5_addStep_187 : decode cX5_addStep 187 = .ok (.iload 9, 2) := by decide +kernel
theorem dX5_addStep_189 : decode cX5_addStep 189 = .ok (.invokestatic 49, 3) := by decide +kernel
theorem dX5_addStep_192 : decode cX5_addStep 192 = .ok (.iconst 4, 1) := by decide +kernel
theorem dX5_addStep_193 : decode cX5_addStep 193 = .ok (.invokestatic 62, 3) := by decide +kernel
theorem dX5_addStep_196 : decode cX5_addStep 196 = .ok (.aload 8, 2) := by decide +kernel
theorem dX5_addStep_198 : decode cX5_addStep 198 = .ok (.iload_n 2, 1) := by decide +kernel
theorem dX5_addStep_199 : decode cX5_addStep 199 = .ok (.invokestatic 45, 3) := by decide +kernel
theorem dX5_addStep_202 : decode cX5_addStep 202 = .ok (.iconst 3, 1) := by decide +kernel
theorem dX5_addStep_203 : decode cX5_addStep 203 = .ok (.iadd, 1) := by decide +kernel
theorem dX5_addStep_204 : decode cX5_addStep 204 = .ok (.dup2, 1) := by decide +kernel
theorem dX5_addStep_205 : decode cX5_addStep 205 = .ok (.iaload, 1) := by decide +kernel
theorem dX5_addStep_206 : decode cX5_addStep 206 = .ok (.iconst 1, 1) := by decide +kernel
theorem dX5_addStep_207 : decode cX5_addStep 207 = .ok (.iadd, 1) := by decide +kernel
theorem dX5_addStep_208 : decode cX5_addStep 208 = .ok (.iastore, 1) := by decide +kernel
theorem dX5_addStep_209 : decode cX5_addStep 209 = .ok (.iload 9, 2) := by decide +kernel
theorem dX5_addStep_211 : decode cX5_addStep 211 = .ok (.ireturn, 1) := by decide +kernel
set_option maxRecDepth 20000 in
theorem ggX5_loop_X5_isLoop : GoodIn wsX5_loop wsX5_isLoop := goodIn_r _ [8, 3, 9, 10, 11, 7, 12, 13, 14, 15, 16, 24, 25, 26, 27, 28, 29, 30, 31, 32, 33, 34] (by decide +kernel) (by decide +kernel)
set_option maxRecDepth 20000 in
theorem gX5_loop_X5_isLoop : GoodIn wsX5_loop (wsV RX5 68 RX5 yX5_isLoop wsX5_isLoop) := goodIn_app (goodIn_of _ (by decide +kernel)) ggX5_loop_X5_isLoop
set_option maxRecDepth 20000 in
theorem ggX5_loop_X5_isIn : GoodIn wsX5_loop wsX5_isIn := goodIn_r _ [16] (by decide +kernel) (by decide +kernel)
set_option maxRecDepth 20000 in
theorem gX5_loop_X5_isIn : GoodIn wsX5_loop (va_wsS RX5 41 yX5_isIn wsX5_isIn) := goodIn_app (goodIn_of _ (by decide +kernel)) ggX5_loop_X5_isIn
set_option maxRecDepth 20000 in
theorem ggX5_loop_X5_loopAt : GoodIn wsX5_loop wsX5_loopAt := goodIn_r _ [19] (by decide +kernel) (by decide +kernel)
set_option maxRecDepth 20000 in
theorem gX5_loop_X5_loopAt : GoodIn wsX5_loop (va_wsS RX5 45 yX5_loopAt wsX5_loopAt) := goodIn_app (goodIn_of _ (by decide +kernel)) ggX5_loop_X5_loopAt
set_option maxRecDepth 20000 in
theorem ggX5_loop_X5_fail : GoodIn wsX5_loop wsX5_fail := goodIn_r _ [23, 1, 24, 25, 26, 27, 28, 29, 30, 31, 32, 33, 34] (by decide +kernel) (by decide +kernel)
set_option maxRecDepth 20000 in
theorem gX5_loop_X5_fail : GoodIn wsX5_loop (wsV RX5 57 RX5 yX5_fail wsX5_fail) := goodIn_app (goodIn_of _ (by decide +kernel)) ggX5_loop_X5_fail
theorem dX5_loop_0 : decode cX5_loop 0 = .ok (.aload_n 0, 1) := by decide +kernel
theorem dX5_loop_1 : decode cX5_loop 1 = .ok (.iconst 0, 1) := by decide +kernel
theorem dX5_loop_2 : decode cX5_loop 2 = .ok (.putfield 34, 3) := by decide +kernel
theorem dX5_loop_5 : decode cX5_loop 5 = .ok (.aload_n 0, 1) := by decide +kernel
theorem dX5_loop_6 : decode cX5_loop 6 = .ok (.iload_n 1, 1) := by decide +kernel
theorem dX5_loop_7 : decode cX5_loop 7 = .ok (.iload_n 2, 1) := by decide +kernel
theorem dX5_loop_8 : decode cX5_loop 8 = .ok (.invokevirtual 68, 3) := by decide +kernel
theorem dX5_loop_11 : decode cX5_loop 11 = .ok (.ifCond .eq 31, 3) := by decide +kernel
theorem dX5_loop_14 : decode cX5_loop 14 = .ok (.iload_n 3, 1) := by decide +kernel
theorem dX5_loop_15 : decode cX5_loop 15 = .ok (.i2l, 1) := by decide +kernel
theorem dX5_loop_16 : decode cX5_loop 16 = .ok (.lconst 0, 1) := by decide +kernel
theorem dX5_loop_17 : decode cX5_loop 17 = .ok (.ldc2_w 82, 3) := by decide +kernel
theorem dX5_loop_20 : decode cX5_loop 20 = .ok (.invokestatic 41, 3) := by decide +kernel
theorem dX5_loop_23 : decode cX5_loop 23 = .ok (.ifCond .eq 19, 3) := by decide +kernel
theorem dX5_loop_26 : decode cX5_loop 26 = .ok (.aload_n 0, 1) := by decide +kernel
theorem dX5_loop_27 : decode cX5_loop 27 = .ok (.getfield 11, 3) := by decide +kernel
theorem dX5_loop_30 : decode cX5_loop 30 = .ok (.iload_n 1, 1) := by decide +kernel
theorem dX5_loop_31 : decode cX5_loop 31 = .ok (.aaload, 1) := by decide +kernel
theorem dX5_loop_32 : decode cX5_loop 32 = .ok (.iload_n 2, 1) := by decide +kernel
theorem dX5_loop_33 : decode cX5_loop 33 = .ok (.invokestatic 45, 3) := by decide +kernel
theorem dX5_loop_36 : decode cX5_loop 36 = .ok (.iload_n 3, 1) := by decide +kernel
theorem dX5_loop_37 : decode cX5_loop 37 = .ok (.iadd, 1) := by decide +kernel
theorem dX5_loop_38 : decode cX5_loop 38 = .ok (.iaload, 1) := by decide +kernel
theorem dX5_loop_39 : decode cX5_loop 39 = .ok (.goto 8, 3) := by decide +kernel
theorem dX5_loop_42 : decode cX5_loop 42 = .ok (.aload_n 0, 1) := by decide +kernel
theorem dX5_loop_43 : decode cX5_loop 43 = .ok (.iconst 1, 1) := by decide +kernel
theorem dX5_loop_44 : decode cX5_loop 44 = .ok (.invokevirtual 57, 3) := by decide +kernel
theorem dX5_loop_47 : decode cX5_loop 47 = .ok (.ireturn, 1) := by decide +kernel
set_option maxRecDepth 20000 in
theorem ggX5_step_X5_isLoop : GoodIn wsX5_step wsX5_isLoop := goodIn_r _ [8, 2, 9, 10, 11, 7, 12, 13, 14, 15, 16, 33, 34, 35, 36, 37, 38, 39, 40, 41, 42, 43] (by decide +kernel) (by decide +kernel)
set_option maxRecDepth 20000 in
theorem gX5_step_X5_isLoop : GoodIn wsX5_step (wsV RX5 68 RX5 yX5_isLoop wsX5_isLoop) := goodIn_app (goodIn_of _ (by decide +kernel)) ggX5_step_X5_isLoop
set_option maxRecDepth 20000 in
theorem ggX5_step_X5_steps : GoodIn wsX5_step wsX5_steps := goodIn_r _ [19, 20, 21, 7, 22] (by decide +kernel) (by decide +kernel)
set_option maxRecDepth 20000 in
theorem gX5_step_X5_steps : GoodIn wsX5_step (va_wsS RX5 84 yX5_steps wsX5_steps) := goodIn_app (goodIn_of _ (by decide +kernel)) ggX5_step_X5_steps
set_option maxRecDepth 20000 in
theorem ggX5_step_X5_isIn : GoodIn wsX5_step wsX5_isIn := goodIn_r _ [16] (by decide +kernel) (by decide +kernel)
set_option maxRecDepth 20000 in
theorem gX5_step_X5_isIn : GoodIn wsX5_step (va_wsS RX5 41 yX5_isIn wsX5_isIn) := goodIn_app (goodIn_of _ (by decide +kernel)) ggX5_step_X5_isIn
set_option maxRecDepth 20000 in
theorem ggX5_step_X5_get : GoodIn wsX5_step wsX5_get := goodIn_r _ [25, 26, 27, 7, 28, 20, 21, 22] (by decide +kernel) (by decide +kernel)
set_option maxRecDepth 20000 in
theorem gX5_step_X5_get : GoodIn wsX5_step (va_wsS RX5 88 yX5_get wsX5_get) := goodIn_app (goodIn_of _ (by decide +kernel)) ggX5_step_X5_get
set_option maxRecDepth 20000 in
theorem ggX5_step_X5_fail : GoodIn wsX5_step wsX5_fail := goodIn_r _ [32, 1, 33, 34, 35, 36, 37, 38, 39, 40, 41, 42, 43] (by decide +kernel) (by decide +kernel)
set_option maxRecDepth 20000 in
theorem gX5_step_X5_fail : GoodIn wsX5_step (wsV RX5 57 RX5 yX5_fail wsX5_fail) := goodIn_app (goodIn_of _ (by decide +kernel)) ggX5_step_X5_fail
theorem dX5_step_0 : decode cX5_step 0 = .ok (.aload_n 0, 1) := by decide +kernel
theorem dX5_step_1 : decode cX5_step 1 = .ok (.iconst 0, 1) := by decide +kernel
theorem dX5_step_2 : decode cX5_step 2 = .ok (.putfield 34, 3) := by decide +kernel
theorem dX5_step_5 : decode cX5_step 5 = .ok (.aload_n 0, 1) := by decide +kernel
theorem dX5_step_6 : decode cX5_step 6 = .ok (.iload_n 1, 1) := by decide +kernel
theorem dX5_step_7 : decode cX5_step 7 = .ok (.iload_n 2, 1) := by decide +kernel
theorem dX5_step_8 : decode cX5_step 8 = .ok (.invokevirtual 68, 3) := by decide +kernel
theorem dX5_step_11 : decode cX5_step 11 = .ok (.ifCond .eq 54, 3) := by decide +kernel
theorem dX5_step_14 : decode cX5_step 14 = .ok (.iload_n 3, 1) := by decide +kernel
theorem dX5_step_15 : decode cX5_step 15 = .ok (.i2l, 1) := by decide +kernel
theorem dX5_step_16 : decode cX5_step 16 = .ok (.lconst 0, 1) := by decide +kernel
theorem dX5_step_17 : decode cX5_step 17 = .ok (.aload_n 0, 1) := by decide +kernel
theorem dX5_step_18 : decode cX5_step 18 = .ok (.getfield 11, 3) := by decide +kernel
theorem dX5_step_21 : decode cX5_step 21 = .ok (.iload_n 1, 1) := by decide +kernel
theorem dX5_step_22 : decode cX5_step 22 = .ok (.aaload, 1) := by decide +kernel
theorem dX5_step_23 : decode cX5_step 23 = .ok (.iload_n 2, 1) := by decide +kernel
theorem dX5_step_24 : decode cX5_step 24 = .ok (.invokestatic 84, 3) := by decide +kernel
theorem dX5_step_27 : decode cX5_step 27 = .ok (.iconst 1, 1) := by decide +kernel
theorem dX5_step_28 : decode cX5_step 28 = .ok (.isub, 1) := by decide +kernel
theorem dX5_step_29 : decode cX5_step 29 = .ok (.i2l, 1) := by decide +kernel
theorem dX5_step_30 : decode cX5_step 30 = .ok (.invokestatic 41, 3) := by decide +kernel
theorem dX5_step_33 : decode cX5_step 33 = .ok (.ifCond .eq 32, 3) := by decide +kernel
theorem dX5_step_36 : decode cX5_step 36 = .ok (.iload 4, 2) := by decide +kernel
theorem dX5_step_38 : decode cX5_step 38 = .ok (.i2l, 1) := by decide +kernel
theorem dX5_step_39 : decode cX5_step 39 = .ok (.lconst 0, 1) := by decide +kernel
theorem dX5_step_40 : decode cX5_step 40 = .ok (.ldc2_w 82, 3) := by decide +kernel
theorem dX5_step_43 : decode cX5_step 43 = .ok (.invokestatic 41, 3) := by decide +kernel
theorem dX5_step_46 : decode cX5_step 46 = .ok (.ifCond .eq 19, 3) := by decide +kernel
theorem dX5_step_49 : decode cX5_step 49 = .ok (.aload_n 0, 1) := by decide +kernel
theorem dX5_step_50 : decode cX5_step 50 = .ok (.getfield 11, 3) := by decide +kernel
theorem dX5_step_53 : decode cX5_step 53 = .ok (.iload_n 1, 1) := by decide +kernel
theorem dX5_step_54 : decode cX5_step 54 = .ok (.aaload, 1) := by decide +kernel
theorem dX5_step_55 : decode cX5_step 55 = .ok (.iload_n 2, 1) := by decide +kernel
theorem dX5_step_56 : decode cX5_step 56 = .ok (.iload_n 3, 1) := by decide +kernel
theorem dX5_step_57 : decode cX5_step 57 = .ok (.iload 4, 2) := by decide +kernel
theorem dX5_step_59 : decode cX5_step 59 = .ok (.invokestatic 88, 3) := by decide +kernel
theorem dX5_step_62 : decode cX5_step 62 = .ok (.goto 8, 3) := by decide +kernel
theorem dX5_step_65 : decode cX5_step 65 = .ok (.aload_n 0, 1) := by decide +kernel
theorem dX5_step_66 : decode cX5_step 66 = .ok (.iconst 1, 1) := by decide +kernel
theorem dX5_step_67 : decode cX5_step 67 = .ok (.invokevirtual 57, 3) := by decide +kernel
theorem dX5_step_70 : decode cX5_step 70 = .ok (.ireturn, 1) := by decide +kernel
theorem dX5_programs_0 : decode cX5_programs 0 = .ok (.aload_n 0, 1) := by decide +kernel
theorem dX5_programs_1 : decode cX5_programs 1 = .ok (.iconst 0, 1) := by decide +kernel
theorem dX5_programs_2 : decode cX5_programs 2 = .ok (.putfield 34, 3) := by decide +kernel
theorem dX5_programs_5 : decode cX5_programs 5 = .ok (.aload_n 0, 1) := by decide +kernel
theorem dX5_programs_6 : decode cX5_programs 6 = .ok (.getfield 38, 3) := by decide +kernel
theorem dX5_programs_9 : decode cX5_programs 9 = .ok (.ireturn, 1) := by decide +kernel
set_option maxRecDepth 20000 in
theorem ggX5_loops_X5_isProgram : GoodIn wsX5_loops wsX5_isProgram := goodIn_r _ [7, 8, 9, 10, 6, 11, 16, 17, 18, 19, 20, 21, 22, 23, 24, 25, 26] (by decide +kernel) (by decide +kernel)
set_option maxRecDepth 20000 in
theorem gX5_loops_X5_isProgram : GoodIn wsX5_loops (wsV RX5 53 RX5 yX5_isProgram wsX5_isProgram) := goodIn_app (goodIn_of _ (by decide +kernel)) ggX5_loops_X5_isProgram
set_option maxRecDepth 20000 in
theorem ggX5_loops_X5_fail : GoodIn wsX5_loops wsX5_fail := goodIn_r _ [15, 1, 16, 17, 18, 19, 20, 21, 22, 23, 24, 25, 26] (by decide +kernel) (by decide +kernel)
set_option maxRecDepth 20000 in
theorem gX5_loops_X5_fail : GoodIn wsX5_loops (wsV RX5 57 RX5 yX5_fail wsX5_fail) := goodIn_app (goodIn_of _ (by decide +kernel)) ggX5_loops_X5_fail
theorem dX5_loops_0 : decode cX5_loops 0 = .ok (.aload_n 0, 1) := by decide +kernel
theorem dX5_loops_1 : decode cX5_loops 1 = .ok (.iconst 0, 1) := by decide +kernel
theorem dX5_loops_2 : decode cX5_loops 2 = .ok (.putfield 34, 3) := by decide +kernel
theorem dX5_loops_5 : decode cX5_loops 5 = .ok (.aload_n 0, 1) := by decide +kernel
theorem dX5_loops_6 : decode cX5_loops 6 = .ok (.iload_n 1, 1) := by decide +kernel
theorem dX5_loops_7 : decode cX5_loops 7 = .ok (.invokevirtual 53, 3) := by decide +kernel
theorem dX5_loops_10 : decode cX5_loops 10 = .ok (.ifCond .eq 14, 3) := by decide +kernel
theorem dX5_loops_13 : decode cX5_loops 13 = .ok (.aload_n 0, 1) := by decide +kernel
theorem dX5_loops_14 : decode cX5_loops 14 = .ok (.getfield 11, 3) := by decide +kernel
theorem dX5_loops_17 : decode cX5_loops 17 = .ok (.iload_n 1, 1) := by decide +kernel
theorem dX5_loops_18 : decode cX5_loops 18 = .ok (.aaload, 1) := by decide +kernel
theorem dX5_loops_19 : decode cX5_loops 19 = .ok (.iconst 0, 1) := by decide +kernel
theorem dX5_loops_20 : decode cX5_loops 20 = .ok (.iaload, 1) := by decide +kernel
theorem dX5_loops_21 : decode cX5_loops 21 = .ok (.goto 8, 3) := by decide +kernel
theorem dX5_loops_24 : decode cX5_loops 24 = .ok (.aload_n 0, 1) := by decide +kernel
theorem dX5_loops_25 : decode cX5_loops 25 = .ok (.iconst 1, 1) := by decide +kernel
theorem dX5_loops_26 : decode cX5_loops 26 = .ok (.invokevirtual 57, 3) := by decide +kernel
theorem dX5_loops_29 : decode cX5_loops 29 = .ok (.ireturn, 1) := by decide +kernel
set_option maxRecDepth 20000 in
theorem ggX5_put_X5_fail : GoodIn wsX5_put wsX5_fail := goodIn_r _ [8, 1, 9, 10, 11, 12, 13, 14, 15, 16, 17, 18, 19] (by decide +kernel) (by decide +kernel)
set_option maxRecDepth 20000 in
theorem gX5_put_X5_fail : GoodIn wsX5_put (wsV RX5 57 RX5 yX5_fail wsX5_fail) := goodIn_app (goodIn_of _ (by decide +kernel)) ggX5_put_X5_fail
theorem dX5_put_0 : decode cX5_put 0 = .ok (.aload_n 0, 1) := by decide +kernel
theorem dX5_put_1 : decode cX5_put 1 = .ok (.iconst 0, 1) := by decide +kernel
theorem dX5_put_2 : decode cX5_put 2 = .ok (.putfield 34, 3) := by decide +kernel
theorem dX5_put_5 : decode cX5_put 5 = .ok (.aload_n 0, 1) := by decide +kernel
theorem dX5_put_6 : decode cX5_put 6 = .ok (.getfield 92, 3) := by decide +kernel
theorem dX5_put_9 : decode cX5_put 9 = .ok (.bipush 40, 2) := by decide +kernel
theorem dX5_put_11 : decode cX5_put 11 = .ok (.if_icmp .ne 9, 3) := by decide +kernel
theorem dX5_put_14 : decode cX5_put 14 = .ok (.aload_n 0, 1) := by decide +kernel
theorem dX5_put_15 : decode cX5_put 15 = .ok (.iconst 1, 1) := by decide +kernel
theorem dX5_put_16 : decode cX5_put 16 = .ok (.invokevirtual 57, 3) := by decide +kernel
theorem dX5_put_19 : decode cX5_put 19 = .ok (.ireturn, 1) := by decide +kernel
theorem dX5_put_20 : decode cX5_put 20 = .ok (.aload_n 0, 1) := by decide +kernel
theorem dX5_put_21 : decode cX5_put 21 = .ok (.getfield 18, 3) := by decide +kernel
theorem dX5_put_24 : decode cX5_put 24 = .ok (.aload_n 0, 1) := by decide +kernel
theorem dX5_put_25 : decode cX5_put 25 = .ok (.getfield 92, 3) := by decide +kernel
theorem dX5_put_28 : decode cX5_put 28 = .ok (.lload_n 1, 1) := by decide +kernel
theorem dX5_put_29 : decode cX5_put 29 = .ok (.lastore, 1) := by decide +kernel
theorem dX5_put_30 : decode cX5_put 30 = .ok (.aload_n 0, 1) := by decide +kernel
theorem dX5_put_31 : decode cX5_put 31 = .ok (.dup, 1) := by decide +kernel
theorem dX5_put_32 : decode cX5_put 32 = .ok (.getfield 92, 3) := by decide +kernel
theorem dX5_put_35 : decode cX5_put 35 = .ok (.iconst 1, 1) := by decide +kernel
theorem dX5_put_36 : decode cX5_put 36 = .ok (.iadd, 1) := by decide +kernel
theorem dX5_put_37 : decode cX5_put 37 = .ok (.putfield 92, 3) := by decide +kernel
theorem dX5_put_40 : decode cX5_put 40 = .ok (.aload_n 0, 1) := by decide +kernel
theorem dX5_put_41 : decode cX5_put 41 = .ok (.getfield 92, 3) := by decide +kernel
theorem dX5_put_44 : decode cX5_put 44 = .ok (.ireturn, 1) := by decide +kernel
theorem dX5_empty_0 : decode cX5_empty 0 = .ok (.aload_n 0, 1) := by decide +kernel
theorem dX5_empty_1 : decode cX5_empty 1 = .ok (.iconst 0, 1) := by decide +kernel
theorem dX5_empty_2 : decode cX5_empty 2 = .ok (.putfield 34, 3) := by decide +kernel
theorem dX5_empty_5 : decode cX5_empty 5 = .ok (.aload_n 0, 1) := by decide +kernel
theorem dX5_empty_6 : decode cX5_empty 6 = .ok (.getfield 92, 3) := by decide +kernel
theorem dX5_empty_9 : decode cX5_empty 9 = .ok (.istore_n 1, 1) := by decide +kernel
theorem dX5_empty_10 : decode cX5_empty 10 = .ok (.aload_n 0, 1) := by decide +kernel
theorem dX5_empty_11 : decode cX5_empty 11 = .ok (.iconst 0, 1) := by decide +kernel
theorem dX5_empty_12 : decode cX5_empty 12 = .ok (.putfield 92, 3) := by decide +kernel
theorem dX5_empty_15 : decode cX5_empty 15 = .ok (.iload_n 1, 1) := by decide +kernel
theorem dX5_empty_16 : decode cX5_empty 16 = .ok (.ireturn, 1) := by decide +kernel
set_option maxRecDepth 20000 in
theorem ggX5_holds_X5_get : GoodIn wsX5_holds wsX5_get := goodIn_r _ [6, 7, 8, 5, 9, 10, 11, 12] (by decide +kernel) (by decide +kernel)
set_option maxRecDepth 20000 in
theorem gX5_holds_X5_get : GoodIn wsX5_holds (va_wsS RX5 88 yX5_get wsX5_get) := goodIn_app (goodIn_of _ (by decide +kernel)) ggX5_holds_X5_get
theorem dX5_holds_0 : decode cX5_holds 0 = .ok (.aload_n 0, 1) := by decide +kernel
theorem dX5_holds_1 : decode cX5_holds 1 = .ok (.dup, 1) := by decide +kernel
theorem dX5_holds_2 : decode cX5_holds 2 = .ok (.getfield 95, 3) := by decide +kernel
theorem dX5_holds_5 : decode cX5_holds 5 = .ok (.iconst 1, 1) := by decide +kernel
theorem dX5_holds_6 : decode cX5_holds 6 = .ok (.iadd, 1) := by decide +kernel
theorem dX5_holds_7 : decode cX5_holds 7 = .ok (.putfield 95, 3) := by decide +kernel
theorem dX5_holds_10 : decode cX5_holds 10 = .ok (.aload_n 1, 1) := by decide +kernel
theorem dX5_holds_11 : decode cX5_holds 11 = .ok (.iload_n 2, 1) := by decide +kernel
theorem dX5_holds_12 : decode cX5_holds 12 = .ok (.iload_n 3, 1) := by decide +kernel
theorem dX5_holds_13 : decode cX5_holds 13 = .ok (.iconst 0, 1) := by decide +kernel
theorem dX5_holds_14 : decode cX5_holds 14 = .ok (.invokestatic 88, 3) := by decide +kernel
theorem dX5_holds_17 : decode cX5_holds 17 = .ok (.istore 6, 2) := by decide +kernel
theorem dX5_holds_19 : decode cX5_holds 19 = .ok (.aload_n 1, 1) := by decide +kernel
