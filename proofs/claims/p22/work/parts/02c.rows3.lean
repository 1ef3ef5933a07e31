theorem dX2_againstTurn_42 : decode cX2_againstTurn 42 = .ok (.iconst 1, 1) := by decide +kernel
theorem dX2_againstTurn_43 : decode cX2_againstTurn 43 = .ok (.invokestatic 53, 3) := by decide +kernel
theorem dX2_againstTurn_46 : decode cX2_againstTurn 46 = .ok (.ifCond .eq 6, 3) := by decide +kernel
theorem dX2_againstTurn_49 : decode cX2_againstTurn 49 = .ok (.bipush 10, 2) := by decide +kernel
theorem dX2_againstTurn_51 : decode cX2_againstTurn 51 = .ok (.ireturn, 1) := by decide +kernel
theorem dX2_againstTurn_52 : decode cX2_againstTurn 52 = .ok (.aload_n 0, 1) := by decide +kernel
theorem dX2_againstTurn_53 : decode cX2_againstTurn 53 = .ok (.iload_n 1, 1) := by decide +kernel
theorem dX2_againstTurn_54 : decode cX2_againstTurn 54 = .ok (.iconst 0, 1) := by decide +kernel
theorem dX2_againstTurn_55 : decode cX2_againstTurn 55 = .ok (.iload_n 2, 1) := by decide +kernel
theorem dX2_againstTurn_56 : decode cX2_againstTurn 56 = .ok (.invokestatic 57, 3) := by decide +kernel
theorem dX2_againstTurn_59 : decode cX2_againstTurn 59 = .ok (.aload_n 0, 1) := by decide +kernel
theorem dX2_againstTurn_60 : decode cX2_againstTurn 60 = .ok (.iload_n 1, 1) := by decide +kernel
theorem dX2_againstTurn_61 : decode cX2_againstTurn 61 = .ok (.iconst 0, 1) := by decide +kernel
theorem dX2_againstTurn_62 : decode cX2_againstTurn 62 = .ok (.iload_n 2, 1) := by decide +kernel
theorem dX2_againstTurn_63 : decode cX2_againstTurn 63 = .ok (.invokestatic 61, 3) := by decide +kernel
theorem dX2_againstTurn_66 : decode cX2_againstTurn 66 = .ok (.iand, 1) := by decide +kernel
theorem dX2_againstTurn_67 : decode cX2_againstTurn 67 = .ok (.istore_n 3, 1) := by decide +kernel
theorem dX2_againstTurn_68 : decode cX2_againstTurn 68 = .ok (.iload_n 3, 1) := by decide +kernel
theorem dX2_againstTurn_69 : decode cX2_againstTurn 69 = .ok (.ifCond .eq 8, 3) := by decide +kernel
theorem dX2_againstTurn_72 : decode cX2_againstTurn 72 = .ok (.bipush 11, 2) := by decide +kernel
theorem dX2_againstTurn_74 : decode cX2_againstTurn 74 = .ok (.goto 4, 3) := by decide +kernel
theorem dX2_againstTurn_77 : decode cX2_againstTurn 77 = .ok (.iconst 0, 1) := by decide +kernel
theorem dX2_againstTurn_78 : decode cX2_againstTurn 78 = .ok (.ireturn, 1) := by decide +kernel
set_option maxRecDepth 20000 in
theorem ggX2_againstParts_X1_countSteps : GoodIn wsX2_againstParts wsX1_countSteps := goodIn_r _ [5, 6, 7, 8, 4, 9, 10, 11, 12, 13, 14, 32, 33] (by decide +kernel) (by decide +kernel)
set_option maxRecDepth 20000 in
theorem gX2_againstParts_X1_countSteps : GoodIn wsX2_againstParts (wsV RX2 25 RX1 yX1_countSteps wsX1_countSteps) := goodIn_app (goodIn_of _ (by decide +kernel)) ggX2_againstParts_X1_countSteps
set_option maxRecDepth 20000 in
theorem ggX2_againstParts_X2_hasDeed : GoodIn wsX2_againstParts wsX2_hasDeed := goodIn_r _ [18, 19, 20, 21, 4, 22, 14, 32, 33] (by decide +kernel) (by decide +kernel)
set_option maxRecDepth 20000 in
theorem gX2_againstParts_X2_hasDeed : GoodIn wsX2_againstParts (va_wsS RX2 53 yX2_hasDeed wsX2_hasDeed) := goodIn_app (goodIn_of _ (by decide +kernel)) ggX2_againstParts_X2_hasDeed
set_option maxRecDepth 20000 in
theorem ggX2_againstParts_X2_writtenBy : GoodIn wsX2_againstParts wsX2_writtenBy := goodIn_r _ [25, 19, 20, 21, 4, 22, 14, 32, 33] (by decide +kernel) (by decide +kernel)
set_option maxRecDepth 20000 in
theorem gX2_againstParts_X2_writtenBy : GoodIn wsX2_againstParts (va_wsS RX2 61 yX2_writtenBy wsX2_writtenBy) := goodIn_app (goodIn_of _ (by decide +kernel)) ggX2_againstParts_X2_writtenBy
set_option maxRecDepth 20000 in
theorem ggX2_againstParts_X2_lookedWithBy : GoodIn wsX2_againstParts wsX2_lookedWithBy := goodIn_r _ [28, 19, 20, 21, 4, 22, 14, 29, 30, 31, 32, 33] (by decide +kernel) (by decide +kernel)
set_option maxRecDepth 20000 in
theorem gX2_againstParts_X2_lookedWithBy : GoodIn wsX2_againstParts (va_wsS RX2 57 yX2_lookedWithBy wsX2_lookedWithBy) := goodIn_app (goodIn_of _ (by decide +kernel)) ggX2_againstParts_X2_lookedWithBy
theorem dX2_againstParts_0 : decode cX2_againstParts 0 = .ok (.aload_n 0, 1) := by decide +kernel
theorem dX2_againstParts_1 : decode cX2_againstParts 1 = .ok (.iload_n 3, 1) := by decide +kernel
theorem dX2_againstParts_2 : decode cX2_againstParts 2 = .ok (.invokevirtual 25, 3) := by decide +kernel
theorem dX2_againstParts_5 : decode cX2_againstParts 5 = .ok (.istore 5, 2) := by decide +kernel
theorem dX2_againstParts_7 : decode cX2_againstParts 7 = .ok (.aload_n 0, 1) := by decide +kernel
theorem dX2_againstParts_8 : decode cX2_againstParts 8 = .ok (.iload_n 1, 1) := by decide +kernel
theorem dX2_againstParts_9 : decode cX2_againstParts 9 = .ok (.iconst 0, 1) := by decide +kernel
theorem dX2_againstParts_10 : decode cX2_againstParts 10 = .ok (.iload_n 2, 1) := by decide +kernel
theorem dX2_againstParts_11 : decode cX2_againstParts 11 = .ok (.iconst 5, 1) := by decide +kernel
theorem dX2_againstParts_12 : decode cX2_againstParts 12 = .ok (.invokestatic 53, 3) := by decide +kernel
theorem dX2_againstParts_15 : decode cX2_againstParts 15 = .ok (.ifCond .eq 18, 3) := by decide +kernel
theorem dX2_againstParts_18 : decode cX2_againstParts 18 = .ok (.aload_n 0, 1) := by decide +kernel
theorem dX2_againstParts_19 : decode cX2_againstParts 19 = .ok (.iload_n 3, 1) := by decide +kernel
theorem dX2_againstParts_20 : decode cX2_againstParts 20 = .ok (.iload 4, 2) := by decide +kernel
theorem dX2_againstParts_22 : decode cX2_againstParts 22 = .ok (.iload 5, 2) := by decide +kernel
theorem dX2_againstParts_24 : decode cX2_againstParts 24 = .ok (.iconst 5, 1) := by decide +kernel
theorem dX2_againstParts_25 : decode cX2_againstParts 25 = .ok (.invokestatic 53, 3) := by decide +kernel
theorem dX2_againstParts_28 : decode cX2_againstParts 28 = .ok (.ifCond .eq 5, 3) := by decide +kernel
theorem dX2_againstParts_31 : decode cX2_againstParts 31 = .ok (.iconst 3, 1) := by decide +kernel
theorem dX2_againstParts_32 : decode cX2_againstParts 32 = .ok (.ireturn, 1) := by decide +kernel
theorem dX2_againstParts_33 : decode cX2_againstParts 33 = .ok (.aload_n 0, 1) := by decide +kernel
theorem dX2_againstParts_34 : decode cX2_againstParts 34 = .ok (.iload_n 1, 1) := by decide +kernel
theorem dX2_againstParts_35 : decode cX2_againstParts 35 = .ok (.iconst 0, 1) := by decide +kernel
theorem dX2_againstParts_36 : decode cX2_againstParts 36 = .ok (.iload_n 2, 1) := by decide +kernel
theorem dX2_againstParts_37 : decode cX2_againstParts 37 = .ok (.invokestatic 61, 3) := by decide +kernel
theorem dX2_againstParts_40 : decode cX2_againstParts 40 = .ok (.istore 6, 2) := by decide +kernel
theorem dX2_againstParts_42 : decode cX2_againstParts 42 = .ok (.aload_n 0, 1) := by decide +kernel
theorem dX2_againstParts_43 : decode cX2_againstParts 43 = .ok (.iload_n 1, 1) := by decide +kernel
theorem dX2_againstParts_44 : decode cX2_againstParts 44 = .ok (.iconst 0, 1) := by decide +kernel
theorem dX2_againstParts_45 : decode cX2_againstParts 45 = .ok (.iload_n 2, 1) := by decide +kernel
theorem dX2_againstParts_46 : decode cX2_againstParts 46 = .ok (.invokestatic 57, 3) := by decide +kernel
theorem dX2_againstParts_49 : decode cX2_againstParts 49 = .ok (.istore 7, 2) := by decide +kernel
theorem dX2_againstParts_51 : decode cX2_againstParts 51 = .ok (.aload_n 0, 1) := by decide +kernel
theorem dX2_againstParts_52 : decode cX2_againstParts 52 = .ok (.iload_n 3, 1) := by decide +kernel
theorem dX2_againstParts_53 : decode cX2_againstParts 53 = .ok (.iload 4, 2) := by decide +kernel
theorem dX2_againstParts_55 : decode cX2_againstParts 55 = .ok (.iload 5, 2) := by decide +kernel
theorem dX2_againstParts_57 : decode cX2_againstParts 57 = .ok (.invokestatic 61, 3) := by decide +kernel
theorem dX2_againstParts_60 : decode cX2_againstParts 60 = .ok (.istore 8, 2) := by decide +kernel
theorem dX2_againstParts_62 : decode cX2_againstParts 62 = .ok (.aload_n 0, 1) := by decide +kernel
theorem dX2_againstParts_63 : decode cX2_againstParts 63 = .ok (.iload_n 3, 1) := by decide +kernel
theorem dX2_againstParts_64 : decode cX2_againstParts 64 = .ok (.iload 4, 2) := by decide +kernel
theorem dX2_againstParts_66 : decode cX2_againstParts 66 = .ok (.iload 5, 2) := by decide +kernel
theorem dX2_againstParts_68 : decode cX2_againstParts 68 = .ok (.invokestatic 57, 3) := by decide +kernel
theorem dX2_againstParts_71 : decode cX2_againstParts 71 = .ok (.istore 9, 2) := by decide +kernel
theorem dX2_againstParts_73 : decode cX2_againstParts 73 = .ok (.iload 6, 2) := by decide +kernel
theorem dX2_againstParts_75 : decode cX2_againstParts 75 = .ok (.iload 8, 2) := by decide +kernel
theorem dX2_againstParts_77 : decode cX2_againstParts 77 = .ok (.iload 9, 2) := by decide +kernel
theorem dX2_againstParts_79 : decode cX2_againstParts 79 = .ok (.ior, 1) := by decide +kernel
theorem dX2_againstParts_80 : decode cX2_againstParts 80 = .ok (.iand, 1) := by decide +kernel
theorem dX2_againstParts_81 : decode cX2_againstParts 81 = .ok (.ifCond .ne 15, 3) := by decide +kernel
theorem dX2_againstParts_84 : decode cX2_againstParts 84 = .ok (.iload 8, 2) := by decide +kernel
theorem dX2_againstParts_86 : decode cX2_againstParts 86 = .ok (.iload 7, 2) := by decide +kernel
theorem dX2_againstParts_88 : decode cX2_againstParts 88 = .ok (.iand, 1) := by decide +kernel
theorem dX2_againstParts_89 : decode cX2_againstParts 89 = .ok (.ifCond .ne 7, 3) := by decide +kernel
theorem dX2_againstParts_92 : decode cX2_againstParts 92 = .ok (.iconst 1, 1) := by decide +kernel
theorem dX2_againstParts_93 : decode cX2_againstParts 93 = .ok (.goto 4, 3) := by decide +kernel
theorem dX2_againstParts_96 : decode cX2_againstParts 96 = .ok (.iconst 0, 1) := by decide +kernel
theorem dX2_againstParts_97 : decode cX2_againstParts 97 = .ok (.istore 10, 2) := by decide +kernel
theorem dX2_againstParts_99 : decode cX2_againstParts 99 = .ok (.iload 10, 2) := by decide +kernel
theorem dX2_againstParts_101 : decode cX2_againstParts 101 = .ok (.ifCond .eq 7, 3) := by decide +kernel
theorem dX2_againstParts_104 : decode cX2_againstParts 104 = .ok (.iconst 0, 1) := by decide +kernel
theorem dX2_againstParts_105 : decode cX2_againstParts 105 = .ok (.goto 4, 3) := by decide +kernel
theorem dX2_againstParts_108 : decode cX2_againstParts 108 = .ok (.iconst 4, 1) := by decide +kernel
theorem dX2_againstParts_109 : decode cX2_againstParts 109 = .ok (.ireturn, 1) := by decide +kernel
set_option maxRecDepth 20000 in
theorem ggX2_haveSameRange_X1_loopFact : GoodIn wsX2_haveSameRange wsX1_loopFact := goodIn_r _ [5, 6, 7, 8, 4, 9, 10, 11, 12] (by decide +kernel) (by decide +kernel)
set_option maxRecDepth 20000 in
theorem gX2_haveSameRange_X1_loopFact : GoodIn wsX2_haveSameRange (wsV RX2 46 RX1 yX1_loopFact wsX1_loopFact) := goodIn_app (goodIn_of _ (by decide +kernel)) ggX2_haveSameRange_X1_loopFact
theorem dX2_haveSameRange_0 : decode cX2_haveSameRange 0 = .ok (.aload_n 0, 1) := by decide +kernel
theorem dX2_haveSameRange_1 : decode cX2_haveSameRange 1 = .ok (.iload_n 1, 1) := by decide +kernel
theorem dX2_haveSameRange_2 : decode cX2_haveSameRange 2 = .ok (.iconst 0, 1) := by decide +kernel
theorem dX2_haveSameRange_3 : decode cX2_haveSameRange 3 = .ok (.invokevirtual 46, 3) := by decide +kernel
theorem dX2_haveSameRange_6 : decode cX2_haveSameRange 6 = .ok (.aload_n 0, 1) := by decide +kernel
theorem dX2_haveSameRange_7 : decode cX2_haveSameRange 7 = .ok (.iload_n 1, 1) := by decide +kernel
theorem dX2_haveSameRange_8 : decode cX2_haveSameRange 8 = .ok (.iconst 1, 1) := by decide +kernel
theorem dX2_haveSameRange_9 : decode cX2_haveSameRange 9 = .ok (.iadd, 1) := by decide +kernel
theorem dX2_haveSameRange_10 : decode cX2_haveSameRange 10 = .ok (.iconst 0, 1) := by decide +kernel
theorem dX2_haveSameRange_11 : decode cX2_haveSameRange 11 = .ok (.invokevirtual 46, 3) := by decide +kernel
theorem dX2_haveSameRange_14 : decode cX2_haveSameRange 14 = .ok (.if_icmp .ne 41, 3) := by decide +kernel
theorem dX2_haveSameRange_17 : decode cX2_haveSameRange 17 = .ok (.aload_n 0, 1) := by decide +kernel
theorem dX2_haveSameRange_18 : decode cX2_haveSameRange 18 = .ok (.iload_n 1, 1) := by decide +kernel
theorem dX2_haveSameRange_19 : decode cX2_haveSameRange 19 = .ok (.iconst 1, 1) := by decide +kernel
theorem dX2_haveSameRange_20 : decode cX2_haveSameRange 20 = .ok (.invokevirtual 46, 3) := by decide +kernel
theorem dX2_haveSameRange_23 : decode cX2_haveSameRange 23 = .ok (.aload_n 0, 1) := by decide +kernel
theorem dX2_haveSameRange_24 : decode cX2_haveSameRange 24 = .ok (.iload_n 1, 1) := by decide +kernel
theorem dX2_haveSameRange_25 : decode cX2_haveSameRange 25 = .ok (.iconst 1, 1) := by decide +kernel
theorem dX2_haveSameRange_26 : decode cX2_haveSameRange 26 = .ok (.iadd, 1) := by decide +kernel
theorem dX2_haveSameRange_27 : decode cX2_haveSameRange 27 = .ok (.iconst 1, 1) := by decide +kernel
theorem dX2_haveSameRange_28 : decode cX2_haveSameRange 28 = .ok (.invokevirtual 46, 3) := by decide +kernel
theorem dX2_haveSameRange_31 : decode cX2_haveSameRange 31 = .ok (.if_icmp .ne 24, 3) := by decide +kernel
theorem dX2_haveSameRange_34 : decode cX2_haveSameRange 34 = .ok (.aload_n 0, 1) := by decide +kernel
theorem dX2_haveSameRange_35 : decode cX2_haveSameRange 35 = .ok (.iload_n 1, 1) := by decide +kernel
theorem dX2_haveSameRange_36 : decode cX2_haveSameRange 36 = .ok (.iconst 2, 1) := by decide +kernel
theorem dX2_haveSameRange_37 : decode cX2_haveSameRange 37 = .ok (.invokevirtual 46, 3) := by decide +kernel
theorem dX2_haveSameRange_40 : decode cX2_haveSameRange 40 = .ok (.aload_n 0, 1) := by decide +kernel
theorem dX2_haveSameRange_41 : decode cX2_haveSameRange 41 = .ok (.iload_n 1, 1) := by decide +kernel
theorem dX2_haveSameRange_42 : decode cX2_haveSameRange 42 = .ok (.iconst 1, 1) := by decide +kernel
theorem dX2_haveSameRange_43 : decode cX2_haveSameRange 43 = .ok (.iadd, 1) := by decide +kernel
theorem dX2_haveSameRange_44 : decode cX2_haveSameRange 44 = .ok (.iconst 2, 1) := by decide +kernel
theorem dX2_haveSameRange_45 : decode cX2_haveSameRange 45 = .ok (.invokevirtual 46, 3) := by decide +kernel
theorem dX2_haveSameRange_48 : decode cX2_haveSameRange 48 = .ok (.if_icmp .ne 7, 3) := by decide +kernel
theorem dX2_haveSameRange_51 : decode cX2_haveSameRange 51 = .ok (.iconst 1, 1) := by decide +kernel
theorem dX2_haveSameRange_52 : decode cX2_haveSameRange 52 = .ok (.goto 4, 3) := by decide +kernel
theorem dX2_haveSameRange_55 : decode cX2_haveSameRange 55 = .ok (.iconst 0, 1) := by decide +kernel
theorem dX2_haveSameRange_56 : decode cX2_haveSameRange 56 = .ok (.ireturn, 1) := by decide +kernel
set_option maxRecDepth 20000 in
theorem ggX2_hasBreak_X1_countSteps : GoodIn wsX2_hasBreak wsX1_countSteps := goodIn_r _ [5, 6, 7, 8, 4, 9, 10, 11, 12, 13, 14, 23, 24] (by decide +kernel) (by decide +kernel)
set_option maxRecDepth 20000 in
theorem gX2_hasBreak_X1_countSteps : GoodIn wsX2_hasBreak (wsV RX2 25 RX1 yX1_countSteps wsX1_countSteps) := goodIn_app (goodIn_of _ (by decide +kernel)) ggX2_hasBreak_X1_countSteps
set_option maxRecDepth 20000 in
theorem ggX2_hasBreak_X2_hasDeed : GoodIn wsX2_hasBreak wsX2_hasDeed := goodIn_r _ [18, 19, 20, 21, 4, 22, 14, 23, 24] (by decide +kernel) (by decide +kernel)
set_option maxRecDepth 20000 in
theorem gX2_hasBreak_X2_hasDeed : GoodIn wsX2_hasBreak (va_wsS RX2 53 yX2_hasDeed wsX2_hasDeed) := goodIn_app (goodIn_of _ (by decide +kernel)) ggX2_hasBreak_X2_hasDeed
theorem dX2_hasBreak_0 : decode cX2_hasBreak 0 = .ok (.aload_n 0, 1) := by decide +kernel
theorem dX2_hasBreak_1 : decode cX2_hasBreak 1 = .ok (.iload_n 1, 1) := by decide +kernel
theorem dX2_hasBreak_2 : decode cX2_hasBreak 2 = .ok (.iconst 0, 1) := by decide +kernel
theorem dX2_hasBreak_3 : decode cX2_hasBreak 3 = .ok (.aload_n 0, 1) := by decide +kernel
theorem dX2_hasBreak_4 : decode cX2_hasBreak 4 = .ok (.iload_n 1, 1) := by decide +kernel
theorem dX2_hasBreak_5 : decode cX2_hasBreak 5 = .ok (.invokevirtual 25, 3) := by decide +kernel
theorem dX2_hasBreak_8 : decode cX2_hasBreak 8 = .ok (.iconst 4, 1) := by decide +kernel
theorem dX2_hasBreak_9 : decode cX2_hasBreak 9 = .ok (.invokestatic 53, 3) := by decide +kernel
theorem dX2_hasBreak_12 : decode cX2_hasBreak 12 = .ok (.ireturn, 1) := by decide +kernel
set_option maxRecDepth 20000 in
theorem ggX2_hasDeed_X1_stepFact : GoodIn wsX2_hasDeed wsX1_stepFact := goodIn_r _ [5, 6, 7, 8] (by decide +kernel) (by decide +kernel)
set_option maxRecDepth 20000 in
theorem gX2_hasDeed_X1_stepFact : GoodIn wsX2_hasDeed (wsV RX2 64 RX1 yX1_stepFact wsX1_stepFact) := goodIn_app (goodIn_of _ (by decide +kernel)) ggX2_hasDeed_X1_stepFact
theorem dX2_hasDeed_0 : decode cX2_hasDeed 0 = .ok (.iload_n 2, 1) := by decide +kernel
theorem dX2_hasDeed_1 : decode cX2_hasDeed 1 = .ok (.istore 5, 2) := by decide +kernel
theorem dX2_hasDeed_3 : decode cX2_hasDeed 3 = .ok (.iload 5, 2) := by decide +kernel
theorem dX2_hasDeed_5 : decode cX2_hasDeed 5 = .ok (.iload_n 3, 1) := by decide +kernel
theorem dX2_hasDeed_6 : decode cX2_hasDeed 6 = .ok (.if_icmp .ge 24, 3) := by decide +kernel
theorem dX2_hasDeed_9 : decode cX2_hasDeed 9 = .ok (.aload_n 0, 1) := by decide +kernel
theorem dX2_hasDeed_10 : decode cX2_hasDeed 10 = .ok (.iload_n 1, 1) := by decide +kernel
theorem dX2_hasDeed_11 : decode cX2_hasDeed 11 = .ok (.iload 5, 2) := by decide +kernel
theorem dX2_hasDeed_13 : decode cX2_hasDeed 13 = .ok (.iconst 2, 1) := by decide +kernel
theorem dX2_hasDeed_14 : decode cX2_hasDeed 14 = .ok (.invokevirtual 64, 3) := by decide +kernel
theorem dX2_hasDeed_17 : decode cX2_hasDeed 17 = .ok (.iload 4, 2) := by decide +kernel
theorem dX2_hasDeed_19 : decode cX2_hasDeed 19 = .ok (.if_icmp .ne 5, 3) := by decide +kernel
theorem dX2_hasDeed_22 : decode cX2_hasDeed 22 = .ok (.iconst 1, 1) := by decide +kernel
theorem dX2_hasDeed_23 : decode cX2_hasDeed 23 = .ok (.ireturn, 1) := by decide +kernel
theorem dX2_hasDeed_24 : decode cX2_hasDeed 24 = .ok (.iinc 5 1, 3) := by decide +kernel
theorem dX2_hasDeed_27 : decode cX2_hasDeed 27 = .ok (.goto (-24), 3) := by decide +kernel
theorem dX2_hasDeed_30 : decode cX2_hasDeed 30 = .ok (.iconst 0, 1) := by decide +kernel
theorem dX2_hasDeed_31 : decode cX2_hasDeed 31 = .ok (.ireturn, 1) := by decide +kernel
set_option maxRecDepth 20000 in
theorem ggX2_hasTwoCodes_X1_countSteps : GoodIn wsX2_hasTwoCodes wsX1_countSteps := goodIn_r _ [5, 6, 7, 8, 4, 9, 10, 11, 12, 13, 14, 19, 20] (by decide +kernel) (by decide +kernel)
set_option maxRecDepth 20000 in
theorem gX2_hasTwoCodes_X1_countSteps : GoodIn wsX2_hasTwoCodes (wsV RX2 25 RX1 yX1_countSteps wsX1_countSteps) := goodIn_app (goodIn_of _ (by decide +kernel)) ggX2_hasTwoCodes_X1_countSteps
set_option maxRecDepth 20000 in
theorem ggX2_hasTwoCodes_X1_stepFact : GoodIn wsX2_hasTwoCodes wsX1_stepFact := goodIn_r _ [18, 14, 19, 20] (by decide +kernel) (by decide +kernel)
set_option maxRecDepth 20000 in
theorem gX2_hasTwoCodes_X1_stepFact : GoodIn wsX2_hasTwoCodes (wsV RX2 64 RX1 yX1_stepFact wsX1_stepFact) := goodIn_app (goodIn_of _ (by decide +kernel)) ggX2_hasTwoCodes_X1_stepFact
theorem dX2_hasTwoCodes_0 : decode cX2_hasTwoCodes 0 = .ok (.aload_n 0, 1) := by decide +kernel
theorem dX2_hasTwoCodes_1 : decode cX2_hasTwoCodes 1 = .ok (.iload_n 1, 1) := by decide +kernel
theorem dX2_hasTwoCodes_2 : decode cX2_hasTwoCodes 2 = .ok (.invokevirtual 25, 3) := by decide +kernel
theorem dX2_hasTwoCodes_5 : decode cX2_hasTwoCodes 5 = .ok (.istore_n 2, 1) := by decide +kernel
theorem dX2_hasTwoCodes_6 : decode cX2_hasTwoCodes 6 = .ok (.iconst (-1), 1) := by decide +kernel
theorem dX2_hasTwoCodes_7 : decode cX2_hasTwoCodes 7 = .ok (.istore_n 3, 1) := by decide +kernel
theorem dX2_hasTwoCodes_8 : decode cX2_hasTwoCodes 8 = .ok (.iconst 0, 1) := by decide +kernel
theorem dX2_hasTwoCodes_9 : decode cX2_hasTwoCodes 9 = .ok (.istore 4, 2) := by decide +kernel
theorem dX2_hasTwoCodes_11 : decode cX2_hasTwoCodes 11 = .ok (.iload 4, 2) := by decide +kernel
theorem dX2_hasTwoCodes_13 : decode cX2_hasTwoCodes 13 = .ok (.iload_n 2, 1) := by decide +kernel
theorem dX2_hasTwoCodes_14 : decode cX2_hasTwoCodes 14 = .ok (.if_icmp .ge 47, 3) := by decide +kernel
theorem dX2_hasTwoCodes_17 : decode cX2_hasTwoCodes 17 = .ok (.aload_n 0, 1) := by decide +kernel
theorem dX2_hasTwoCodes_18 : decode cX2_hasTwoCodes 18 = .ok (.iload_n 1, 1) := by decide +kernel
theorem dX2_hasTwoCodes_19 : decode cX2_hasTwoCodes 19 = .ok (.iload 4, 2) := by decide +kernel
theorem dX2_hasTwoCodes_21 : decode cX2_hasTwoCodes 21 = .ok (.iconst 2, 1) := by decide +kernel
theorem dX2_hasTwoCodes_22 : decode cX2_hasTwoCodes 22 = .ok (.invokevirtual 64, 3) := by decide +kernel
theorem dX2_hasTwoCodes_25 : decode cX2_hasTwoCodes 25 = .ok (.iconst 5, 1) := by decide +kernel
theorem dX2_hasTwoCodes_26 : decode cX2_hasTwoCodes 26 = .ok (.if_icmp .ne 29, 3) := by decide +kernel
theorem dX2_hasTwoCodes_29 : decode cX2_hasTwoCodes 29 = .ok (.aload_n 0, 1) := by decide +kernel
theorem dX2_hasTwoCodes_30 : decode cX2_hasTwoCodes 30 = .ok (.iload_n 1, 1) := by decide +kernel
theorem dX2_hasTwoCodes_31 : decode cX2_hasTwoCodes 31 = .ok (.iload 4, 2) := by decide +kernel
theorem dX2_hasTwoCodes_33 : decode cX2_hasTwoCodes 33 = .ok (.iconst 3, 1) := by decide +kernel
theorem dX2_hasTwoCodes_34 : decode cX2_hasTwoCodes 34 = .ok (.invokevirtual 64, 3) := by decide +kernel
theorem dX2_hasTwoCodes_37 : decode cX2_hasTwoCodes 37 = .ok (.istore 5, 2) := by decide +kernel
theorem dX2_hasTwoCodes_39 : decode cX2_hasTwoCodes 39 = .ok (.iload_n 3, 1) := by decide +kernel
theorem dX2_hasTwoCodes_40 : decode cX2_hasTwoCodes 40 = .ok (.iconst (-1), 1) := by decide +kernel
theorem dX2_hasTwoCodes_41 : decode cX2_hasTwoCodes 41 = .ok (.if_icmp .eq 11, 3) := by decide +kernel
theorem dX2_hasTwoCodes_44 : decode cX2_hasTwoCodes 44 = .ok (.iload_n 3, 1) := by decide +kernel
theorem dX2_hasTwoCodes_45 : decode cX2_hasTwoCodes 45 = .ok (.iload 5, 2) := by decide +kernel
theorem dX2_hasTwoCodes_47 : decode cX2_hasTwoCodes 47 = .ok (.if_icmp .eq 5, 3) := by decide +kernel
theorem dX2_hasTwoCodes_50 : decode cX2_hasTwoCodes 50 = .ok (.iconst 1, 1) := by decide +kernel
theorem dX2_hasTwoCodes_51 : decode cX2_hasTwoCodes 51 = .ok (.ireturn, 1) := by decide +kernel
theorem dX2_hasTwoCodes_52 : decode cX2_hasTwoCodes 52 = .ok (.iload 5, 2) := by decide +kernel
theorem dX2_hasTwoCodes_54 : decode cX2_hasTwoCodes 54 = .ok (.istore_n 3, 1) := by decide +kernel
theorem dX2_hasTwoCodes_55 : decode cX2_hasTwoCodes 55 = .ok (.iinc 4 1, 3) := by decide +kernel
theorem dX2_hasTwoCodes_58 : decode cX2_hasTwoCodes 58 = .ok (.goto (-47), 3) := by decide +kernel
theorem dX2_hasTwoCodes_61 : decode cX2_hasTwoCodes 61 = .ok (.iconst 0, 1) := by decide +kernel
theorem dX2_hasTwoCodes_62 : decode cX2_hasTwoCodes 62 = .ok (.ireturn, 1) := by decide +kernel
set_option maxRecDepth 20000 in
theorem ggX2_writtenBy_X1_stepFact : GoodIn wsX2_writtenBy wsX1_stepFact := goodIn_r _ [5, 6, 7, 8] (by decide +kernel) (by decide +kernel)
set_option maxRecDepth 20000 in
theorem gX2_writtenBy_X1_stepFact : GoodIn wsX2_writtenBy (wsV RX2 64 RX1 yX1_stepFact wsX1_stepFact) := goodIn_app (goodIn_of _ (by decide +kernel)) ggX2_writtenBy_X1_stepFact
theorem dX2_writtenBy_0 : decode cX2_writtenBy 0 = .ok (.iconst 0, 1) := by decide +kernel
theorem dX2_writtenBy_1 : decode cX2_writtenBy 1 = .ok (.istore 4, 2) := by decide +kernel
theorem dX2_writtenBy_3 : decode cX2_writtenBy 3 = .ok (.iload_n 2, 1) := by decide +kernel
theorem dX2_writtenBy_4 : decode cX2_writtenBy 4 = .ok (.istore 5, 2) := by decide +kernel
theorem dX2_writtenBy_6 : decode cX2_writtenBy 6 = .ok (.iload 5, 2) := by decide +kernel
theorem dX2_writtenBy_8 : decode cX2_writtenBy 8 = .ok (.iload_n 3, 1) := by decide +kernel
theorem dX2_writtenBy_9 : decode cX2_writtenBy 9 = .ok (.if_icmp .ge 46, 3) := by decide +kernel
theorem dX2_writtenBy_12 : decode cX2_writtenBy 12 = .ok (.aload_n 0, 1) := by decide +kernel
theorem dX2_writtenBy_13 : decode cX2_writtenBy 13 = .ok (.iload_n 1, 1) := by decide +kernel
theorem dX2_writtenBy_14 : decode cX2_writtenBy 14 = .ok (.iload 5, 2) := by decide +kernel
theorem dX2_writtenBy_16 : decode cX2_writtenBy 16 = .ok (.iconst 2, 1) := by decide +kernel
theorem dX2_writtenBy_17 : decode cX2_writtenBy 17 = .ok (.invokevirtual 64, 3) := by decide +kernel
theorem dX2_writtenBy_20 : decode cX2_writtenBy 20 = .ok (.istore 6, 2) := by decide +kernel
theorem dX2_writtenBy_22 : decode cX2_writtenBy 22 = .ok (.iload 6, 2) := by decide +kernel
theorem dX2_writtenBy_24 : decode cX2_writtenBy 24 = .ok (.iconst 4, 1) := by decide +kernel
theorem dX2_writtenBy_25 : decode cX2_writtenBy 25 = .ok (.if_icmp .eq 24, 3) := by decide +kernel
theorem dX2_writtenBy_28 : decode cX2_writtenBy 28 = .ok (.iload 6, 2) := by decide +kernel
theorem dX2_writtenBy_30 : decode cX2_writtenBy 30 = .ok (.iconst 5, 1) := by decide +kernel
theorem dX2_writtenBy_31 : decode cX2_writtenBy 31 = .ok (.if_icmp .eq 18, 3) := by decide +kernel
theorem dX2_writtenBy_34 : decode cX2_writtenBy 34 = .ok (.iload 4, 2) := by decide +kernel
theorem dX2_writtenBy_36 : decode cX2_writtenBy 36 = .ok (.iconst 1, 1) := by decide +kernel
theorem dX2_writtenBy_37 : decode cX2_writtenBy 37 = .ok (.aload_n 0, 1) := by decide +kernel
theorem dX2_writtenBy_38 : decode cX2_writtenBy 38 = .ok (.iload_n 1, 1) := by decide +kernel
theorem dX2_writtenBy_39 : decode cX2_writtenBy 39 = .ok (.iload 5, 2) := by decide +kernel
theorem dX2_writtenBy_41 : decode cX2_writtenBy 41 = .ok (.iconst 3, 1) := by decide +kernel
theorem dX2_writtenBy_42 : decode cX2_writtenBy 42 = .ok (.invokevirtual 64, 3) := by decide +kernel
theorem dX2_writtenBy_45 : decode cX2_writtenBy 45 = .ok (.ishl, 1) := by decide +kernel
theorem dX2_writtenBy_46 : decode cX2_writtenBy 46 = .ok (.ior, 1) := by decide +kernel
theorem dX2_writtenBy_47 : decode cX2_writtenBy 47 = .ok (.istore 4, 2) := by decide +kernel
theorem dX2_writtenBy_49 : decode cX2_writtenBy 49 = .ok (.iinc 5 1, 3) := by decide +kernel
theorem dX2_writtenBy_52 : decode cX2_writtenBy 52 = .ok (.goto (-46), 3) := by decide +kernel
theorem dX2_writtenBy_55 : decode cX2_writtenBy 55 = .ok (.iload 4, 2) := by decide +kernel
theorem dX2_writtenBy_57 : decode cX2_writtenBy 57 = .ok (.ireturn, 1) := by decide +kernel
set_option maxRecDepth 20000 in
theorem ggX2_lookedWithBy_X1_stepFact : GoodIn wsX2_lookedWithBy wsX1_stepFact := goodIn_r _ [5, 6, 10, 11] (by decide +kernel) (by decide +kernel)
set_option maxRecDepth 20000 in
theorem gX2_lookedWithBy_X1_stepFact : GoodIn wsX2_lookedWithBy (wsV RX2 64 RX1 yX1_stepFact wsX1_stepFact) := goodIn_app (goodIn_of _ (by decide +kernel)) ggX2_lookedWithBy_X1_stepFact
set_option maxRecDepth 20000 in
theorem ggX2_lookedWithBy_X4_isVariable : GoodIn wsX2_lookedWithBy wsX4_isVariable := goodIn_r _ [9] (by decide +kernel) (by decide +kernel)
set_option maxRecDepth 20000 in
theorem gX2_lookedWithBy_X4_isVariable_n68 : GoodIn wsX2_lookedWithBy (wsX4_isVariable) := ggX2_lookedWithBy_X4_isVariable
theorem dX2_lookedWithBy_0 : decode cX2_lookedWithBy 0 = .ok (.iconst 0, 1) := by decide +kernel
theorem dX2_lookedWithBy_1 : decode cX2_lookedWithBy 1 = .ok (.istore 4, 2) := by decide +kernel
theorem dX2_lookedWithBy_3 : decode cX2_lookedWithBy 3 = .ok (.iload_n 2, 1) := by decide +kernel
theorem dX2_lookedWithBy_4 : decode cX2_lookedWithBy 4 = .ok (.istore 5, 2) := by decide +kernel
theorem dX2_lookedWithBy_6 : decode cX2_lookedWithBy 6 = .ok (.iload 5, 2) := by decide +kernel
theorem dX2_lookedWithBy_8 : decode cX2_lookedWithBy 8 = .ok (.iload_n 3, 1) := by decide +kernel
theorem dX2_lookedWithBy_9 : decode cX2_lookedWithBy 9 = .ok (.if_icmp .ge 51, 3) := by decide +kernel
theorem dX2_lookedWithBy_12 : decode cX2_lookedWithBy 12 = .ok (.aload_n 0, 1) := by decide +kernel
theorem dX2_lookedWithBy_13 : decode cX2_lookedWithBy 13 = .ok (.iload_n 1, 1) := by decide +kernel
theorem dX2_lookedWithBy_14 : decode cX2_lookedWithBy 14 = .ok (.iload 5, 2) := by decide +kernel
theorem dX2_lookedWithBy_16 : decode cX2_lookedWithBy 16 = .ok (.iconst 1, 1) := by decide +kernel
theorem dX2_lookedWithBy_17 : decode cX2_lookedWithBy 17 = .ok (.invokevirtual 64, 3) := by decide +kernel
theorem dX2_lookedWithBy_20 : decode cX2_lookedWithBy 20 = .ok (.istore 6, 2) := by decide +kernel
theorem dX2_lookedWithBy_22 : decode cX2_lookedWithBy 22 = .ok (.aload_n 0, 1) := by decide +kernel
theorem dX2_lookedWithBy_23 : decode cX2_lookedWithBy 23 = .ok (.iload_n 1, 1) := by decide +kernel
theorem dX2_lookedWithBy_24 : decode cX2_lookedWithBy 24 = .ok (.iload 5, 2) := by decide +kernel
theorem dX2_lookedWithBy_26 : decode cX2_lookedWithBy 26 = .ok (.iconst 0, 1) := by decide +kernel
theorem dX2_lookedWithBy_27 : decode cX2_lookedWithBy 27 = .ok (.invokevirtual 64, 3) := by decide +kernel
theorem dX2_lookedWithBy_30 : decode cX2_lookedWithBy 30 = .ok (.ifCond .eq 24, 3) := by decide +kernel
theorem dX2_lookedWithBy_33 : decode cX2_lookedWithBy 33 = .ok (.iload 6, 2) := by decide +kernel
theorem dX2_lookedWithBy_35 : decode cX2_lookedWithBy 35 = .ok (.invokestatic 68, 3) := by decide +kernel
theorem dX2_lookedWithBy_38 : decode cX2_lookedWithBy 38 = .ok (.ifCond .eq 16, 3) := by decide +kernel
theorem dX2_lookedWithBy_41 : decode cX2_lookedWithBy 41 = .ok (.iload 4, 2) := by decide +kernel
theorem dX2_lookedWithBy_43 : decode cX2_lookedWithBy 43 = .ok (.iconst 1, 1) := by decide +kernel
theorem dX2_lookedWithBy_44 : decode cX2_lookedWithBy 44 = .ok (.iload 6, 2) := by decide +kernel
theorem dX2_lookedWithBy_46 : decode cX2_lookedWithBy 46 = .ok (.sipush 1000, 3) := by decide +kernel
theorem dX2_lookedWithBy_49 : decode cX2_lookedWithBy 49 = .ok (.isub, 1) := by decide +kernel
theorem dX2_lookedWithBy_50 : decode cX2_lookedWithBy 50 = .ok (.ishl, 1) := by decide +kernel
theorem dX2_lookedWithBy_51 : decode cX2_lookedWithBy 51 = .ok (.ior, 1) := by decide +kernel
theorem dX2_lookedWithBy_52 : decode cX2_lookedWithBy 52 = .ok (.istore 4, 2) := by decide +kernel
theorem dX2_lookedWithBy_54 : decode cX2_lookedWithBy 54 = .ok (.iinc 5 1, 3) := by decide +kernel
theorem dX2_lookedWithBy_57 : decode cX2_lookedWithBy 57 = .ok (.goto (-51), 3) := by decide +kernel
theorem dX2_lookedWithBy_60 : decode cX2_lookedWithBy 60 = .ok (.iload 4, 2) := by decide +kernel
theorem dX2_lookedWithBy_62 : decode cX2_lookedWithBy 62 = .ok (.ireturn, 1) := by decide +kernel
theorem dX3_init_0 : decode cX3_init 0 = .ok (.aload_n 0, 1) := by decide +kernel
theorem dX3_init_1 : decode cX3_init 1 = .ok (.invokespecial 3, 3) := by decide +kernel
theorem dX3_init_4 : decode cX3_init 4 = .ok (.aload_n 0, 1) := by decide +kernel
theorem dX3_init_5 : decode cX3_init 5 = .ok (.iconst 4, 1) := by decide +kernel
theorem dX3_init_6 : decode cX3_init 6 = .ok (.newarray .long, 2) := by decide +kernel
theorem dX3_init_8 : decode cX3_init 8 = .ok (.putfield 9, 3) := by decide +kernel
theorem dX3_init_11 : decode cX3_init 11 = .ok (.aload_n 0, 1) := by decide +kernel
theorem dX3_init_12 : decode cX3_init 12 = .ok (.iconst 0, 1) := by decide +kernel
theorem dX3_init_13 : decode cX3_init 13 = .ok (.putfield 15, 3) := by decide +kernel
theorem dX3_init_16 : decode cX3_init 16 = .ok (.aload_n 0, 1) := by decide +kernel
theorem dX3_init_17 : decode cX3_init 17 = .ok (.iconst (-1), 1) := by decide +kernel
theorem dX3_init_18 : decode cX3_init 18 = .ok (.putfield 19, 3) := by decide +kernel
theorem dX3_init_21 : decode cX3_init 21 = .ok (.return_, 1) := by decide +kernel
theorem dX3_codeOfExit_0 : decode cX3_codeOfExit 0 = .ok (.aload_n 0, 1) := by decide +kernel
theorem dX3_codeOfExit_1 : decode cX3_codeOfExit 1 = .ok (.getfield 19, 3) := by decide +kernel
theorem dX3_codeOfExit_4 : decode cX3_codeOfExit 4 = .ok (.ireturn, 1) := by decide +kernel
theorem dX3_countLooks_0 : decode cX3_countLooks 0 = .ok (.aload_n 0, 1) := by decide +kernel
theorem dX3_countLooks_1 : decode cX3_countLooks 1 = .ok (.getfield 15, 3) := by decide +kernel
theorem dX3_countLooks_4 : decode cX3_countLooks 4 = .ok (.ireturn, 1) := by decide +kernel
set_option maxRecDepth 20000 in
theorem ggX3_answersLike_X3_variable : GoodIn wsX3_answersLike wsX3_variable := goodIn_r _ [6, 7, 8, 9, 10] (by decide +kernel) (by decide +kernel)
set_option maxRecDepth 20000 in
theorem gX3_answersLike_X3_variable : GoodIn wsX3_answersLike (wsV RX3 22 RX3 yX3_variable wsX3_variable) := goodIn_app (goodIn_of _ (by decide +kernel)) ggX3_answersLike_X3_variable
theorem dX3_answersLike_0 : decode cX3_answersLike 0 = .ok (.aload_n 0, 1) := by decide +kernel
theorem dX3_answersLike_1 : decode cX3_answersLike 1 = .ok (.getfield 19, 3) := by decide +kernel
theorem dX3_answersLike_4 : decode cX3_answersLike 4 = .ok (.aload_n 1, 1) := by decide +kernel
theorem dX3_answersLike_5 : decode cX3_answersLike 5 = .ok (.getfield 19, 3) := by decide +kernel
theorem dX3_answersLike_8 : decode cX3_answersLike 8 = .ok (.if_icmp .eq 5, 3) := by decide +kernel
theorem dX3_answersLike_11 : decode cX3_answersLike 11 = .ok (.iconst 0, 1) := by decide +kernel
theorem dX3_answersLike_12 : decode cX3_answersLike 12 = .ok (.ireturn, 1) := by decide +kernel
theorem dX3_answersLike_13 : decode cX3_answersLike 13 = .ok (.aload_n 0, 1) := by decide +kernel
theorem dX3_answersLike_14 : decode cX3_answersLike 14 = .ok (.getfield 19, 3) := by decide +kernel
theorem dX3_answersLike_17 : decode cX3_answersLike 17 = .ok (.iconst (-1), 1) := by decide +kernel
theorem dX3_answersLike_18 : decode cX3_answersLike 18 = .ok (.if_icmp .eq 5, 3) := by decide +kernel
theorem dX3_answersLike_21 : decode cX3_answersLike 21 = .ok (.iconst 1, 1) := by decide +kernel
theorem dX3_answersLike_22 : decode cX3_answersLike 22 = .ok (.ireturn, 1) := by decide +kernel
theorem dX3_answersLike_23 : decode cX3_answersLike 23 = .ok (.iconst 0, 1) := by decide +kernel
theorem dX3_answersLike_24 : decode cX3_answersLike 24 = .ok (.istore_n 2, 1) := by decide +kernel
theorem dX3_answersLike_25 : decode cX3_answersLike 25 = .ok (.iload_n 2, 1) := by decide +kernel
theorem dX3_answersLike_26 : decode cX3_answersLike 26 = .ok (.iconst 4, 1) := by decide +kernel
theorem dX3_answersLike_27 : decode cX3_answersLike 27 = .ok (.if_icmp .ge 25, 3) := by decide +kernel
theorem dX3_answersLike_30 : decode cX3_answersLike 30 = .ok (.aload_n 0, 1) := by decide +kernel
theorem dX3_answersLike_31 : decode cX3_answersLike 31 = .ok (.iload_n 2, 1) := by decide +kernel
theorem dX3_answersLike_32 : decode cX3_answersLike 32 = .ok (.invokevirtual 22, 3) := by decide +kernel
theorem dX3_answersLike_35 : decode cX3_answersLike 35 = .ok (.aload_n 1, 1) := by decide +kernel
theorem dX3_answersLike_36 : decode cX3_answersLike 36 = .ok (.iload_n 2, 1) := by decide +kernel
theorem dX3_answersLike_37 : decode cX3_answersLike 37 = .ok (.invokevirtual 22, 3) := by decide +kernel
theorem dX3_answersLike_40 : decode cX3_answersLike 40 = .ok (.lcmp, 1) := by decide +kernel
theorem dX3_answersLike_41 : decode cX3_answersLike 41 = .ok (.ifCond .eq 5, 3) := by decide +kernel
theorem dX3_answersLike_44 : decode cX3_answersLike 44 = .ok (.iconst 0, 1) := by decide +kernel
theorem dX3_answersLike_45 : decode cX3_answersLike 45 = .ok (.ireturn, 1) := by decide +kernel
theorem dX3_answersLike_46 : decode cX3_answersLike 46 = .ok (.iinc 2 1, 3) := by decide +kernel
theorem dX3_answersLike_49 : decode cX3_answersLike 49 = .ok (.goto (-24), 3) := by decide +kernel
theorem dX3_answersLike_52 : decode cX3_answersLike 52 = .ok (.iconst 1, 1) := by decide +kernel
theorem dX3_answersLike_53 : decode cX3_answersLike 53 = .ok (.ireturn, 1) := by decide +kernel
set_option maxRecDepth 20000 in
theorem ggX3_goThrough_X1_countLoops : GoodIn wsX3_goThrough wsX1_countLoops := goodIn_r _ [8, 9, 59, 60] (by decide +kernel) (by decide +kernel)
set_option maxRecDepth 20000 in
theorem gX3_goThrough_X1_countLoops : GoodIn wsX3_goThrough (wsV RX3 26 RX1 yX1_countLoops wsX1_countLoops) := goodIn_app (goodIn_of _ (by decide +kernel)) ggX3_goThrough_X1_countLoops
set_option maxRecDepth 20000 in
theorem ggX3_goThrough_X3_goThroughLoop : GoodIn wsX3_goThrough wsX3_goThroughLoop := goodIn_r _ [14, 15, 16, 17, 7, 18, 19, 20, 21, 22, 23, 24, 25, 26, 13, 27, 2, 3, 28, 29, 30, 31, 32, 33, 34, 35, 36, 37, 38, 39, 40, 41, 42, 43, 44, 45, 46, 47, 1, 48, 49, 50, 51, 52, 53, 54, 55, 59, 60, 56, 57, 58] (by decide +kernel) (by decide +kernel)
set_option maxRecDepth 20000 in
theorem gX3_goThrough_X3_goThroughLoop : GoodIn wsX3_goThrough (wsV RX3 32 RX3 yX3_goThroughLoop wsX3_goThroughLoop) := goodIn_app (goodIn_of _ (by decide +kernel)) ggX3_goThrough_X3_goThroughLoop
theorem dX3_goThrough_0 : decode cX3_goThrough 0 = .ok (.iconst 0, 1) := by decide +kernel
theorem dX3_goThrough_1 : decode cX3_goThrough 1 = .ok (.istore 4, 2) := by decide +kernel
theorem dX3_goThrough_3 : decode cX3_goThrough 3 = .ok (.iload 4, 2) := by decide +kernel
theorem dX3_goThrough_5 : decode cX3_goThrough 5 = .ok (.aload_n 0, 1) := by decide +kernel
theorem dX3_goThrough_6 : decode cX3_goThrough 6 = .ok (.getfield 9, 3) := by decide +kernel
theorem dX3_goThrough_9 : decode cX3_goThrough 9 = .ok (.arraylength, 1) := by decide +kernel
theorem dX3_goThrough_10 : decode cX3_goThrough 10 = .ok (.if_icmp .ge 17, 3) := by decide +kernel
theorem dX3_goThrough_13 : decode cX3_goThrough 13 = .ok (.aload_n 0, 1) := by decide +kernel
theorem dX3_goThrough_14 : decode cX3_goThrough 14 = .ok (.getfield 9, 3) := by decide +kernel
theorem dX3_goThrough_17 : decode cX3_goThrough 17 = .ok (.iload 4, 2) := by decide +kernel
theorem dX3_goThrough_19 : decode cX3_goThrough 19 = .ok (.lconst 0, 1) := by decide +kernel
theorem dX3_goThrough_20 : decode cX3_goThrough 20 = .ok (.lastore, 1) := by decide +kernel
theorem dX3_goThrough_21 : decode cX3_goThrough 21 = .ok (.iinc 4 1, 3) := by decide +kernel
theorem dX3_goThrough_24 : decode cX3_goThrough 24 = .ok (.goto (-21), 3) := by decide +kernel
theorem dX3_goThrough_27 : decode cX3_goThrough 27 = .ok (.aload_n 0, 1) := by decide +kernel
theorem dX3_goThrough_28 : decode cX3_goThrough 28 = .ok (.iconst 0, 1) := by decide +kernel
theorem dX3_goThrough_29 : decode cX3_goThrough 29 = .ok (.putfield 15, 3) := by decide +kernel
theorem dX3_goThrough_32 : decode cX3_goThrough 32 = .ok (.aload_n 0, 1) := by decide +kernel
theorem dX3_goThrough_33 : decode cX3_goThrough 33 = .ok (.iconst (-1), 1) := by decide +kernel
theorem dX3_goThrough_34 : decode cX3_goThrough 34 = .ok (.putfield 19, 3) := by decide +kernel
theorem dX3_goThrough_37 : decode cX3_goThrough 37 = .ok (.iconst 0, 1) := by decide +kernel
theorem dX3_goThrough_38 : decode cX3_goThrough 38 = .ok (.istore 4, 2) := by decide +kernel
theorem dX3_goThrough_40 : decode cX3_goThrough 40 = .ok (.iload 4, 2) := by decide +kernel
theorem dX3_goThrough_42 : decode cX3_goThrough 42 = .ok (.aload_n 1, 1) := by decide +kernel
theorem dX3_goThrough_43 : decode cX3_goThrough 43 = .ok (.invokevirtual 26, 3) := by decide +kernel
theorem dX3_goThrough_46 : decode cX3_goThrough 46 = .ok (.if_icmp .ge 26, 3) := by decide +kernel
theorem dX3_goThrough_49 : decode cX3_goThrough 49 = .ok (.aload_n 0, 1) := by decide +kernel
theorem dX3_goThrough_50 : decode cX3_goThrough 50 = .ok (.getfield 19, 3) := by decide +kernel
theorem dX3_goThrough_53 : decode cX3_goThrough 53 = .ok (.iconst (-1), 1) := by decide +kernel
theorem dX3_goThrough_54 : decode cX3_goThrough 54 = .ok (.if_icmp .ne 18, 3) := by decide +kernel
theorem dX3_goThrough_57 : decode cX3_goThrough 57 = .ok (.aload_n 0, 1) := by decide +kernel
theorem dX3_goThrough_58 : decode cX3_goThrough 58 = .ok (.aload_n 1, 1) := by decide +kernel
theorem dX3_goThrough_59 : decode cX3_goThrough 59 = .ok (.iload 4, 2) := by decide +kernel
theorem dX3_goThrough_61 : decode cX3_goThrough 61 = .ok (.aload_n 2, 1) := by decide +kernel
theorem dX3_goThrough_62 : decode cX3_goThrough 62 = .ok (.iload_n 3, 1) := by decide +kernel
theorem dX3_goThrough_63 : decode cX3_goThrough 63 = .ok (.invokevirtual 32, 3) := by decide +kernel
theorem dX3_goThrough_66 : decode cX3_goThrough 66 = .ok (.iinc 4 1, 3) := by decide +kernel
theorem dX3_goThrough_69 : decode cX3_goThrough 69 = .ok (.goto (-29), 3) := by decide +kernel
theorem dX3_goThrough_72 : decode cX3_goThrough 72 = .ok (.return_, 1) := by decide +kernel
set_option maxRecDepth 20000 in
theorem ggX3_goThroughLoop_X1_loopFact : GoodIn wsX3_goThroughLoop wsX1_loopFact := goodIn_r _ [5, 6, 7, 8, 4, 9, 10, 47, 48] (by decide +kernel) (by decide +kernel)
set_option maxRecDepth 20000 in
theorem gX3_goThroughLoop_X1_loopFact : GoodIn wsX3_goThroughLoop (wsV RX3 36 RX1 yX1_loopFact wsX1_loopFact) := goodIn_app (goodIn_of _ (by decide +kernel)) ggX3_goThroughLoop_X1_loopFact
set_option maxRecDepth 20000 in
theorem ggX3_goThroughLoop_X3_doSteps : GoodIn wsX3_goThroughLoop wsX3_doSteps := goodIn_r _ [15, 16, 17, 18, 19, 20, 4, 21, 22, 2, 3, 5, 6, 7, 8, 9, 10, 23, 24, 25, 26, 27, 28, 29, 14, 30, 31, 32, 33, 34, 35, 36, 37, 38, 39, 40, 41, 42, 43, 44, 45, 46, 49, 50, 51, 47, 48] (by decide +kernel) (by decide +kernel)
set_option maxRecDepth 20000 in
theorem gX3_goThroughLoop_X3_doSteps : GoodIn wsX3_goThroughLoop (wsV RX3 40 RX3 yX3_doSteps wsX3_doSteps) := goodIn_app (goodIn_of _ (by decide +kernel)) ggX3_goThroughLoop_X3_doSteps
theorem dX3_goThroughLoop_0 : decode cX3_goThroughLoop 0 = .ok (.aload_n 1, 1) := by decide +kernel
theorem dX3_goThroughLoop_1 : decode cX3_goThroughLoop 1 = .ok (.iload_n 2, 1) := by decide +kernel
theorem dX3_goThroughLoop_2 : decode cX3_goThroughLoop 2 = .ok (.iconst 0, 1) := by decide +kernel
theorem dX3_goThroughLoop_3 : decode cX3_goThroughLoop 3 = .ok (.invokevirtual 36, 3) := by decide +kernel
theorem dX3_goThroughLoop_6 : decode cX3_goThroughLoop 6 = .ok (.istore 5, 2) := by decide +kernel
theorem dX3_goThroughLoop_8 : decode cX3_goThroughLoop 8 = .ok (.iload 4, 2) := by decide +kernel
theorem dX3_goThroughLoop_10 : decode cX3_goThroughLoop 10 = .ok (.iconst 1, 1) := by decide +kernel
theorem dX3_goThroughLoop_11 : decode cX3_goThroughLoop 11 = .ok (.isub, 1) := by decide +kernel
theorem dX3_goThroughLoop_12 : decode cX3_goThroughLoop 12 = .ok (.aload_n 1, 1) := by decide +kernel
theorem dX3_goThroughLoop_13 : decode cX3_goThroughLoop 13 = .ok (.iload_n 2, 1) := by decide +kernel
theorem dX3_goThroughLoop_14 : decode cX3_goThroughLoop 14 = .ok (.iconst 1, 1) := by decide +kernel
theorem dX3_goThroughLoop_15 : decode cX3_goThroughLoop 15 = .ok (.invokevirtual 36, 3) := by decide +kernel
theorem dX3_goThroughLoop_18 : decode cX3_goThroughLoop 18 = .ok (.isub, 1) := by decide +kernel
theorem dX3_goThroughLoop_19 : decode cX3_goThroughLoop 19 = .ok (.istore 6, 2) := by decide +kernel
theorem dX3_goThroughLoop_21 : decode cX3_goThroughLoop 21 = .ok (.aload_n 1, 1) := by decide +kernel
theorem dX3_goThroughLoop_22 : decode cX3_goThroughLoop 22 = .ok (.iload_n 2, 1) := by decide +kernel
theorem dX3_goThroughLoop_23 : decode cX3_goThroughLoop 23 = .ok (.iconst 2, 1) := by decide +kernel
theorem dX3_goThroughLoop_24 : decode cX3_goThroughLoop 24 = .ok (.invokevirtual 36, 3) := by decide +kernel
theorem dX3_goThroughLoop_27 : decode cX3_goThroughLoop 27 = .ok (.iconst 1, 1) := by decide +kernel
theorem dX3_goThroughLoop_28 : decode cX3_goThroughLoop 28 = .ok (.if_icmp .ne 7, 3) := by decide +kernel
theorem dX3_goThroughLoop_31 : decode cX3_goThroughLoop 31 = .ok (.iconst 1, 1) := by decide +kernel
theorem dX3_goThroughLoop_32 : decode cX3_goThroughLoop 32 = .ok (.goto 4, 3) := by decide +kernel
theorem dX3_goThroughLoop_35 : decode cX3_goThroughLoop 35 = .ok (.iconst 0, 1) := by decide +kernel
theorem dX3_goThroughLoop_36 : decode cX3_goThroughLoop 36 = .ok (.istore 7, 2) := by decide +kernel
theorem dX3_goThroughLoop_38 : decode cX3_goThroughLoop 38 = .ok (.iload 5, 2) := by decide +kernel
theorem dX3_goThroughLoop_40 : decode cX3_goThroughLoop 40 = .ok (.istore 8, 2) := by decide +kernel
theorem dX3_goThroughLoop_42 : decode cX3_goThroughLoop 42 = .ok (.iload 8, 2) := by decide +kernel
theorem dX3_goThroughLoop_44 : decode cX3_goThroughLoop 44 = .ok (.iload 6, 2) := by decide +kernel
theorem dX3_goThroughLoop_46 : decode cX3_goThroughLoop 46 = .ok (.if_icmp .gt 65, 3) := by decide +kernel
theorem dX3_goThroughLoop_49 : decode cX3_goThroughLoop 49 = .ok (.iload 7, 2) := by decide +kernel
theorem dX3_goThroughLoop_51 : decode cX3_goThroughLoop 51 = .ok (.ifCond .eq 8, 3) := by decide +kernel
theorem dX3_goThroughLoop_54 : decode cX3_goThroughLoop 54 = .ok (.iload 8, 2) := by decide +kernel
theorem dX3_goThroughLoop_56 : decode cX3_goThroughLoop 56 = .ok (.goto 11, 3) := by decide +kernel
theorem dX3_goThroughLoop_59 : decode cX3_goThroughLoop 59 = .ok (.iload 6, 2) := by decide +kernel
theorem dX3_goThroughLoop_61 : decode cX3_goThroughLoop 61 = .ok (.iload 8, 2) := by decide +kernel
theorem dX3_goThroughLoop_63 : decode cX3_goThroughLoop 63 = .ok (.iload 5, 2) := by decide +kernel
theorem dX3_goThroughLoop_65 : decode cX3_goThroughLoop 65 = .ok (.isub, 1) := by decide +kernel
theorem dX3_goThroughLoop_66 : decode cX3_goThroughLoop 66 = .ok (.isub, 1) := by decide +kernel
theorem dX3_goThroughLoop_67 : decode cX3_goThroughLoop 67 = .ok (.istore 9, 2) := by decide +kernel
theorem dX3_goThroughLoop_69 : decode cX3_goThroughLoop 69 = .ok (.iload 9, 2) := by decide +kernel
theorem dX3_goThroughLoop_71 : decode cX3_goThroughLoop 71 = .ok (.ifCond .lt 17, 3) := by decide +kernel
theorem dX3_goThroughLoop_74 : decode cX3_goThroughLoop 74 = .ok (.iload 9, 2) := by decide +kernel
theorem dX3_goThroughLoop_76 : decode cX3_goThroughLoop 76 = .ok (.aload_n 3, 1) := by decide +kernel
theorem dX3_goThroughLoop_77 : decode cX3_goThroughLoop 77 = .ok (.arraylength, 1) := by decide +kernel
theorem dX3_goThroughLoop_78 : decode cX3_goThroughLoop 78 = .ok (.if_icmp .ge 10, 3) := by decide +kernel
theorem dX3_goThroughLoop_81 : decode cX3_goThroughLoop 81 = .ok (.aload_n 3, 1) := by decide +kernel
theorem dX3_goThroughLoop_82 : decode cX3_goThroughLoop 82 = .ok (.iload 9, 2) := by decide +kernel
theorem dX3_goThroughLoop_84 : decode cX3_goThroughLoop 84 = .ok (.laload, 1) := by decide +kernel
theorem dX3_goThroughLoop_85 : decode cX3_goThroughLoop 85 = .ok (.goto 4, 3) := by decide +kernel
theorem dX3_goThroughLoop_88 : decode cX3_goThroughLoop 88 = .ok (.lconst 0, 1) := by decide +kernel
theorem dX3_goThroughLoop_89 : decode cX3_goThroughLoop 89 = .ok (.lstore 10, 2) := by decide +kernel
theorem dX3_goThroughLoop_91 : decode cX3_goThroughLoop 91 = .ok (.aload_n 0, 1) := by decide +kernel
theorem dX3_goThroughLoop_92 : decode cX3_goThroughLoop 92 = .ok (.aload_n 1, 1) := by decide +kernel
theorem dX3_goThroughLoop_93 : decode cX3_goThroughLoop 93 = .ok (.iload_n 2, 1) := by decide +kernel
theorem dX3_goThroughLoop_94 : decode cX3_goThroughLoop 94 = .ok (.iload 9, 2) := by decide +kernel
theorem dX3_goThroughLoop_96 : decode cX3_goThroughLoop 96 = .ok (.lload 10, 2) := by decide +kernel
theorem dX3_goThroughLoop_98 : decode cX3_goThroughLoop 98 = .ok (.invokevirtual 40, 3) := by decide +kernel
theorem dX3_goThroughLoop_101 : decode cX3_goThroughLoop 101 = .ok (.ifCond .ne 4, 3) := by decide +kernel
theorem dX3_goThroughLoop_104 : decode cX3_goThroughLoop 104 = .ok (.return_, 1) := by decide +kernel
theorem dX3_goThroughLoop_105 : decode cX3_goThroughLoop 105 = .ok (.iinc 8 1, 3) := by decide +kernel
theorem dX3_goThroughLoop_108 : decode cX3_goThroughLoop 108 = .ok (.goto (-66), 3) := by decide +kernel
theorem dX3_goThroughLoop_111 : decode cX3_goThroughLoop 111 = .ok (.return_, 1) := by decide +kernel
set_option maxRecDepth 20000 in
theorem ggX3_doSteps_X1_countSteps : GoodIn wsX3_doSteps wsX1_countSteps := goodIn_r _ [7, 8, 9, 10, 6, 11, 12, 13, 14, 15, 16, 45, 46] (by decide +kernel) (by decide +kernel)
set_option maxRecDepth 20000 in
theorem gX3_doSteps_X1_countSteps : GoodIn wsX3_doSteps (wsV RX3 44 RX1 yX1_countSteps wsX1_countSteps) := goodIn_app (goodIn_of _ (by decide +kernel)) ggX3_doSteps_X1_countSteps
set_option maxRecDepth 20000 in
theorem ggX3_doSteps_X1_stepFact : GoodIn wsX3_doSteps wsX1_stepFact := goodIn_r _ [20, 16, 45, 46] (by decide +kernel) (by decide +kernel)
set_option maxRecDepth 20000 in
theorem gX3_doSteps_X1_stepFact : GoodIn wsX3_doSteps (wsV RX3 48 RX1 yX1_stepFact wsX1_stepFact) := goodIn_app (goodIn_of _ (by decide +kernel)) ggX3_doSteps_X1_stepFact
set_option maxRecDepth 20000 in
theorem ggX3_doSteps_X3_holds : GoodIn wsX3_doSteps wsX3_holds := goodIn_r _ [25, 26, 27, 28, 29, 30, 31, 24, 32, 33, 42, 43, 44] (by decide +kernel) (by decide +kernel)
set_option maxRecDepth 20000 in
theorem gX3_doSteps_X3_holds : GoodIn wsX3_doSteps (wsV RX3 52 RX3 yX3_holds wsX3_holds) := goodIn_app (goodIn_of _ (by decide +kernel)) ggX3_doSteps_X3_holds
