theorem dX5_whyRange_61 : decode cX5_whyRange 61 = .ok (.aload 5, 2) := by decide +kernel
theorem dX5_whyRange_63 : decode cX5_whyRange 63 = .ok (.iconst 0, 1) := by decide +kernel
theorem dX5_whyRange_64 : decode cX5_whyRange 64 = .ok (.iaload, 1) := by decide +kernel
theorem dX5_whyRange_65 : decode cX5_whyRange 65 = .ok (.iload 6, 2) := by decide +kernel
theorem dX5_whyRange_67 : decode cX5_whyRange 67 = .ok (.ifCond .eq 7, 3) := by decide +kernel
theorem dX5_whyRange_70 : decode cX5_whyRange 70 = .ok (.iconst 2, 1) := by decide +kernel
theorem dX5_whyRange_71 : decode cX5_whyRange 71 = .ok (.goto 4, 3) := by decide +kernel
theorem dX5_whyRange_74 : decode cX5_whyRange 74 = .ok (.iconst 1, 1) := by decide +kernel
theorem dX5_whyRange_75 : decode cX5_whyRange 75 = .ok (.isub, 1) := by decide +kernel
theorem dX5_whyRange_76 : decode cX5_whyRange 76 = .ok (.i2l, 1) := by decide +kernel
theorem dX5_whyRange_77 : decode cX5_whyRange 77 = .ok (.invokestatic 41, 3) := by decide +kernel
theorem dX5_whyRange_80 : decode cX5_whyRange 80 = .ok (.ifCond .ne 5, 3) := by decide +kernel
theorem dX5_whyRange_83 : decode cX5_whyRange 83 = .ok (.iconst 1, 1) := by decide +kernel
theorem dX5_whyRange_84 : decode cX5_whyRange 84 = .ok (.ireturn, 1) := by decide +kernel
theorem dX5_whyRange_85 : decode cX5_whyRange 85 = .ok (.iload_n 2, 1) := by decide +kernel
theorem dX5_whyRange_86 : decode cX5_whyRange 86 = .ok (.iconst 1, 1) := by decide +kernel
theorem dX5_whyRange_87 : decode cX5_whyRange 87 = .ok (.if_icmp .ne 22, 3) := by decide +kernel
theorem dX5_whyRange_90 : decode cX5_whyRange 90 = .ok (.iload 4, 2) := by decide +kernel
theorem dX5_whyRange_92 : decode cX5_whyRange 92 = .ok (.i2l, 1) := by decide +kernel
theorem dX5_whyRange_93 : decode cX5_whyRange 93 = .ok (.lconst 1, 1) := by decide +kernel
theorem dX5_whyRange_94 : decode cX5_whyRange 94 = .ok (.aload 5, 2) := by decide +kernel
theorem dX5_whyRange_96 : decode cX5_whyRange 96 = .ok (.iload_n 3, 1) := by decide +kernel
theorem dX5_whyRange_97 : decode cX5_whyRange 97 = .ok (.invokestatic 84, 3) := by decide +kernel
theorem dX5_whyRange_100 : decode cX5_whyRange 100 = .ok (.iconst 1, 1) := by decide +kernel
theorem dX5_whyRange_101 : decode cX5_whyRange 101 = .ok (.isub, 1) := by decide +kernel
theorem dX5_whyRange_102 : decode cX5_whyRange 102 = .ok (.i2l, 1) := by decide +kernel
theorem dX5_whyRange_103 : decode cX5_whyRange 103 = .ok (.invokestatic 41, 3) := by decide +kernel
theorem dX5_whyRange_106 : decode cX5_whyRange 106 = .ok (.goto 31, 3) := by decide +kernel
theorem dX5_whyRange_109 : decode cX5_whyRange 109 = .ok (.iload_n 2, 1) := by decide +kernel
theorem dX5_whyRange_110 : decode cX5_whyRange 110 = .ok (.iconst 2, 1) := by decide +kernel
theorem dX5_whyRange_111 : decode cX5_whyRange 111 = .ok (.if_icmp .ne 16, 3) := by decide +kernel
theorem dX5_whyRange_114 : decode cX5_whyRange 114 = .ok (.iload 4, 2) := by decide +kernel
theorem dX5_whyRange_116 : decode cX5_whyRange 116 = .ok (.i2l, 1) := by decide +kernel
theorem dX5_whyRange_117 : decode cX5_whyRange 117 = .ok (.lconst 1, 1) := by decide +kernel
theorem dX5_whyRange_118 : decode cX5_whyRange 118 = .ok (.ldc2_w 125, 3) := by decide +kernel
theorem dX5_whyRange_121 : decode cX5_whyRange 121 = .ok (.invokestatic 41, 3) := by decide +kernel
theorem dX5_whyRange_124 : decode cX5_whyRange 124 = .ok (.goto 13, 3) := by decide +kernel
theorem dX5_whyRange_127 : decode cX5_whyRange 127 = .ok (.iload 4, 2) := by decide +kernel
theorem dX5_whyRange_129 : decode cX5_whyRange 129 = .ok (.ifCond .ne 7, 3) := by decide +kernel
theorem dX5_whyRange_132 : decode cX5_whyRange 132 = .ok (.iconst 1, 1) := by decide +kernel
theorem dX5_whyRange_133 : decode cX5_whyRange 133 = .ok (.goto 4, 3) := by decide +kernel
theorem dX5_whyRange_136 : decode cX5_whyRange 136 = .ok (.iconst 0, 1) := by decide +kernel
theorem dX5_whyRange_137 : decode cX5_whyRange 137 = .ok (.istore 7, 2) := by decide +kernel
theorem dX5_whyRange_139 : decode cX5_whyRange 139 = .ok (.iload 7, 2) := by decide +kernel
theorem dX5_whyRange_141 : decode cX5_whyRange 141 = .ok (.ifCond .eq 7, 3) := by decide +kernel
theorem dX5_whyRange_144 : decode cX5_whyRange 144 = .ok (.iconst 0, 1) := by decide +kernel
theorem dX5_whyRange_145 : decode cX5_whyRange 145 = .ok (.goto 4, 3) := by decide +kernel
theorem dX5_whyRange_148 : decode cX5_whyRange 148 = .ok (.iconst 2, 1) := by decide +kernel
theorem dX5_whyRange_149 : decode cX5_whyRange 149 = .ok (.ireturn, 1) := by decide +kernel
set_option maxRecDepth 20000 in
theorem ggX5_why_X5_whyJoin : GoodIn wsX5_why wsX5_whyJoin := goodIn_r _ [4, 5, 6, 3, 7, 8, 9, 10, 11, 12, 13, 14, 15, 16, 17, 18, 19, 20, 21, 22, 23, 24, 25, 26, 27, 28, 29, 30, 31] (by decide +kernel) (by decide +kernel)
set_option maxRecDepth 20000 in
theorem gX5_why_X5_whyJoin : GoodIn wsX5_why (va_wsS RX5 127 yX5_whyJoin wsX5_whyJoin) := goodIn_app (goodIn_of _ (by decide +kernel)) ggX5_why_X5_whyJoin
set_option maxRecDepth 20000 in
theorem ggX5_why_X5_whyDivide : GoodIn wsX5_why wsX5_whyDivide := goodIn_r _ [34, 11, 12, 3, 13, 5, 6, 7, 8, 9, 10, 14, 15, 16, 17, 18, 19, 20, 21, 22, 26, 27, 28, 29, 30, 31] (by decide +kernel) (by decide +kernel)
set_option maxRecDepth 20000 in
theorem gX5_why_X5_whyDivide : GoodIn wsX5_why (va_wsS RX5 130 yX5_whyDivide wsX5_whyDivide) := goodIn_app (goodIn_of _ (by decide +kernel)) ggX5_why_X5_whyDivide
set_option maxRecDepth 20000 in
theorem ggX5_why_X5_whyPeel : GoodIn wsX5_why wsX5_whyPeel := goodIn_r _ [37, 5, 6, 3, 7, 8, 9, 10, 11, 12, 13, 14, 15, 16, 17, 18, 19, 20, 21, 22] (by decide +kernel) (by decide +kernel)
set_option maxRecDepth 20000 in
theorem gX5_why_X5_whyPeel : GoodIn wsX5_why (va_wsS RX5 134 yX5_whyPeel wsX5_whyPeel) := goodIn_app (goodIn_of _ (by decide +kernel)) ggX5_why_X5_whyPeel
set_option maxRecDepth 20000 in
theorem ggX5_why_X5_whyTurn : GoodIn wsX5_why wsX5_whyTurn := goodIn_r _ [40, 8, 9, 3, 10, 11, 12, 13, 5, 6, 7, 14, 15, 16, 17, 18, 19, 20, 21, 22, 26, 27, 28] (by decide +kernel) (by decide +kernel)
set_option maxRecDepth 20000 in
theorem gX5_why_X5_whyTurn : GoodIn wsX5_why (va_wsS RX5 137 yX5_whyTurn wsX5_whyTurn) := goodIn_app (goodIn_of _ (by decide +kernel)) ggX5_why_X5_whyTurn
set_option maxRecDepth 20000 in
theorem ggX5_why_X5_whySwap : GoodIn wsX5_why wsX5_whySwap := goodIn_r _ [43, 8, 9, 3, 10, 11, 12, 13, 5, 6, 7, 14, 15, 16, 17, 18, 19, 20, 21, 22, 23, 24, 25, 26, 27, 28, 29, 30, 31] (by decide +kernel) (by decide +kernel)
set_option maxRecDepth 20000 in
theorem gX5_why_X5_whySwap : GoodIn wsX5_why (va_wsS RX5 140 yX5_whySwap wsX5_whySwap) := goodIn_app (goodIn_of _ (by decide +kernel)) ggX5_why_X5_whySwap
theorem dX5_why_0 : decode cX5_why 0 = .ok (.iload_n 1, 1) := by decide +kernel
theorem dX5_why_1 : decode cX5_why 1 = .ok (.tableswitch 67 0 4 #[35, 41, 48, 55, 61], 35) := by decide +kernel
theorem dX5_why_36 : decode cX5_why 36 = .ok (.aload_n 0, 1) := by decide +kernel
theorem dX5_why_37 : decode cX5_why 37 = .ok (.iload_n 2, 1) := by decide +kernel
theorem dX5_why_38 : decode cX5_why 38 = .ok (.invokestatic 127, 3) := by decide +kernel
theorem dX5_why_41 : decode cX5_why 41 = .ok (.ireturn, 1) := by decide +kernel
theorem dX5_why_42 : decode cX5_why 42 = .ok (.aload_n 0, 1) := by decide +kernel
theorem dX5_why_43 : decode cX5_why 43 = .ok (.iload_n 2, 1) := by decide +kernel
theorem dX5_why_44 : decode cX5_why 44 = .ok (.iload_n 3, 1) := by decide +kernel
theorem dX5_why_45 : decode cX5_why 45 = .ok (.invokestatic 130, 3) := by decide +kernel
theorem dX5_why_48 : decode cX5_why 48 = .ok (.ireturn, 1) := by decide +kernel
theorem dX5_why_49 : decode cX5_why 49 = .ok (.aload_n 0, 1) := by decide +kernel
theorem dX5_why_50 : decode cX5_why 50 = .ok (.iload_n 2, 1) := by decide +kernel
theorem dX5_why_51 : decode cX5_why 51 = .ok (.iload_n 3, 1) := by decide +kernel
theorem dX5_why_52 : decode cX5_why 52 = .ok (.invokestatic 134, 3) := by decide +kernel
theorem dX5_why_55 : decode cX5_why 55 = .ok (.ireturn, 1) := by decide +kernel
theorem dX5_why_56 : decode cX5_why 56 = .ok (.aload_n 0, 1) := by decide +kernel
theorem dX5_why_57 : decode cX5_why 57 = .ok (.iload_n 2, 1) := by decide +kernel
theorem dX5_why_58 : decode cX5_why 58 = .ok (.invokestatic 137, 3) := by decide +kernel
theorem dX5_why_61 : decode cX5_why 61 = .ok (.ireturn, 1) := by decide +kernel
theorem dX5_why_62 : decode cX5_why 62 = .ok (.aload_n 0, 1) := by decide +kernel
theorem dX5_why_63 : decode cX5_why 63 = .ok (.iload_n 2, 1) := by decide +kernel
theorem dX5_why_64 : decode cX5_why 64 = .ok (.invokestatic 140, 3) := by decide +kernel
theorem dX5_why_67 : decode cX5_why 67 = .ok (.ireturn, 1) := by decide +kernel
theorem dX5_why_68 : decode cX5_why 68 = .ok (.iconst 0, 1) := by decide +kernel
theorem dX5_why_69 : decode cX5_why 69 = .ok (.ireturn, 1) := by decide +kernel
set_option maxRecDepth 20000 in
theorem ggX5_reason_X5_whyRange : GoodIn wsX5_reason wsX5_whyRange := goodIn_r _ [7, 8, 2, 9, 10, 11, 12, 6, 13, 14, 15, 16, 17, 18, 19, 20, 21, 22, 23, 63, 64, 65, 66, 67, 68, 69, 70, 71, 72, 73] (by decide +kernel) (by decide +kernel)
set_option maxRecDepth 20000 in
theorem gX5_reason_X5_whyRange : GoodIn wsX5_reason (wsV RX5 143 RX5 yX5_whyRange wsX5_whyRange) := goodIn_app (goodIn_of _ (by decide +kernel)) ggX5_reason_X5_whyRange
set_option maxRecDepth 20000 in
theorem ggX5_reason_X5_why : GoodIn wsX5_reason wsX5_why := goodIn_r _ [26, 27, 28, 6, 29, 21, 22, 23, 30, 31, 32, 18, 19, 20, 33, 34, 35, 36, 37, 38, 39, 40, 41, 42, 43, 44, 45, 46, 47, 48, 49, 50, 51, 52, 53, 54, 55, 56, 57, 58, 59, 60, 61, 62] (by decide +kernel) (by decide +kernel)
set_option maxRecDepth 20000 in
theorem gX5_reason_X5_why : GoodIn wsX5_reason (va_wsS RX5 147 yX5_why wsX5_why) := goodIn_app (goodIn_of _ (by decide +kernel)) ggX5_reason_X5_why
theorem dX5_reason_0 : decode cX5_reason 0 = .ok (.aload_n 0, 1) := by decide +kernel
theorem dX5_reason_1 : decode cX5_reason 1 = .ok (.aload_n 0, 1) := by decide +kernel
theorem dX5_reason_2 : decode cX5_reason 2 = .ok (.iload_n 1, 1) := by decide +kernel
theorem dX5_reason_3 : decode cX5_reason 3 = .ok (.iload_n 2, 1) := by decide +kernel
theorem dX5_reason_4 : decode cX5_reason 4 = .ok (.iload_n 3, 1) := by decide +kernel
theorem dX5_reason_5 : decode cX5_reason 5 = .ok (.iload 4, 2) := by decide +kernel
theorem dX5_reason_7 : decode cX5_reason 7 = .ok (.invokevirtual 143, 3) := by decide +kernel
theorem dX5_reason_10 : decode cX5_reason 10 = .ok (.putfield 34, 3) := by decide +kernel
theorem dX5_reason_13 : decode cX5_reason 13 = .ok (.aload_n 0, 1) := by decide +kernel
theorem dX5_reason_14 : decode cX5_reason 14 = .ok (.getfield 34, 3) := by decide +kernel
theorem dX5_reason_17 : decode cX5_reason 17 = .ok (.ifCond .ne 19, 3) := by decide +kernel
theorem dX5_reason_20 : decode cX5_reason 20 = .ok (.aload_n 0, 1) := by decide +kernel
theorem dX5_reason_21 : decode cX5_reason 21 = .ok (.getfield 11, 3) := by decide +kernel
theorem dX5_reason_24 : decode cX5_reason 24 = .ok (.iload_n 1, 1) := by decide +kernel
theorem dX5_reason_25 : decode cX5_reason 25 = .ok (.aaload, 1) := by decide +kernel
theorem dX5_reason_26 : decode cX5_reason 26 = .ok (.iload_n 2, 1) := by decide +kernel
theorem dX5_reason_27 : decode cX5_reason 27 = .ok (.iload_n 3, 1) := by decide +kernel
theorem dX5_reason_28 : decode cX5_reason 28 = .ok (.iload 4, 2) := by decide +kernel
theorem dX5_reason_30 : decode cX5_reason 30 = .ok (.invokestatic 147, 3) := by decide +kernel
theorem dX5_reason_33 : decode cX5_reason 33 = .ok (.goto 4, 3) := by decide +kernel
theorem dX5_reason_36 : decode cX5_reason 36 = .ok (.iconst 0, 1) := by decide +kernel
theorem dX5_reason_37 : decode cX5_reason 37 = .ok (.ireturn, 1) := by decide +kernel
set_option maxRecDepth 20000 in
theorem ggX5_twice_X5_loopAt : GoodIn wsX5_twice wsX5_loopAt := goodIn_r _ [9] (by decide +kernel) (by decide +kernel)
set_option maxRecDepth 20000 in
theorem gX5_twice_X5_loopAt : GoodIn wsX5_twice (va_wsS RX5 45 yX5_loopAt wsX5_loopAt) := goodIn_app (goodIn_of _ (by decide +kernel)) ggX5_twice_X5_loopAt
theorem dX5_twice_0 : decode cX5_twice 0 = .ok (.aload_n 0, 1) := by decide +kernel
theorem dX5_twice_1 : decode cX5_twice 1 = .ok (.getfield 14, 3) := by decide +kernel
theorem dX5_twice_4 : decode cX5_twice 4 = .ok (.iload_n 1, 1) := by decide +kernel
theorem dX5_twice_5 : decode cX5_twice 5 = .ok (.invokestatic 45, 3) := by decide +kernel
theorem dX5_twice_8 : decode cX5_twice 8 = .ok (.aload_n 0, 1) := by decide +kernel
theorem dX5_twice_9 : decode cX5_twice 9 = .ok (.getfield 14, 3) := by decide +kernel
theorem dX5_twice_12 : decode cX5_twice 12 = .ok (.iload_n 1, 1) := by decide +kernel
theorem dX5_twice_13 : decode cX5_twice 13 = .ok (.iconst 1, 1) := by decide +kernel
theorem dX5_twice_14 : decode cX5_twice 14 = .ok (.iadd, 1) := by decide +kernel
theorem dX5_twice_15 : decode cX5_twice 15 = .ok (.invokestatic 45, 3) := by decide +kernel
theorem dX5_twice_18 : decode cX5_twice 18 = .ok (.bipush 28, 2) := by decide +kernel
theorem dX5_twice_20 : decode cX5_twice 20 = .ok (.aload_n 0, 1) := by decide +kernel
theorem dX5_twice_21 : decode cX5_twice 21 = .ok (.getfield 14, 3) := by decide +kernel
theorem dX5_twice_24 : decode cX5_twice 24 = .ok (.iconst 0, 1) := by decide +kernel
theorem dX5_twice_25 : decode cX5_twice 25 = .ok (.iaload, 1) := by decide +kernel
theorem dX5_twice_26 : decode cX5_twice 26 = .ok (.iload_n 1, 1) := by decide +kernel
theorem dX5_twice_27 : decode cX5_twice 27 = .ok (.isub, 1) := by decide +kernel
theorem dX5_twice_28 : decode cX5_twice 28 = .ok (.imul, 1) := by decide +kernel
theorem dX5_twice_29 : decode cX5_twice 29 = .ok (.invokestatic 62, 3) := by decide +kernel
theorem dX5_twice_32 : decode cX5_twice 32 = .ok (.aload_n 0, 1) := by decide +kernel
theorem dX5_twice_33 : decode cX5_twice 33 = .ok (.getfield 14, 3) := by decide +kernel
theorem dX5_twice_36 : decode cX5_twice 36 = .ok (.iconst 0, 1) := by decide +kernel
theorem dX5_twice_37 : decode cX5_twice 37 = .ok (.dup2, 1) := by decide +kernel
theorem dX5_twice_38 : decode cX5_twice 38 = .ok (.iaload, 1) := by decide +kernel
theorem dX5_twice_39 : decode cX5_twice 39 = .ok (.iconst 1, 1) := by decide +kernel
theorem dX5_twice_40 : decode cX5_twice 40 = .ok (.iadd, 1) := by decide +kernel
theorem dX5_twice_41 : decode cX5_twice 41 = .ok (.iastore, 1) := by decide +kernel
theorem dX5_twice_42 : decode cX5_twice 42 = .ok (.return_, 1) := by decide +kernel
set_option maxRecDepth 20000 in
theorem ggX5_takeOut_X5_loopAt : GoodIn wsX5_takeOut wsX5_loopAt := goodIn_r _ [9] (by decide +kernel) (by decide +kernel)
set_option maxRecDepth 20000 in
theorem gX5_takeOut_X5_loopAt : GoodIn wsX5_takeOut (va_wsS RX5 45 yX5_loopAt wsX5_loopAt) := goodIn_app (goodIn_of _ (by decide +kernel)) ggX5_takeOut_X5_loopAt
theorem dX5_takeOut_0 : decode cX5_takeOut 0 = .ok (.aload_n 0, 1) := by decide +kernel
theorem dX5_takeOut_1 : decode cX5_takeOut 1 = .ok (.getfield 14, 3) := by decide +kernel
theorem dX5_takeOut_4 : decode cX5_takeOut 4 = .ok (.iconst 0, 1) := by decide +kernel
theorem dX5_takeOut_5 : decode cX5_takeOut 5 = .ok (.dup2, 1) := by decide +kernel
theorem dX5_takeOut_6 : decode cX5_takeOut 6 = .ok (.iaload, 1) := by decide +kernel
theorem dX5_takeOut_7 : decode cX5_takeOut 7 = .ok (.iconst 1, 1) := by decide +kernel
theorem dX5_takeOut_8 : decode cX5_takeOut 8 = .ok (.isub, 1) := by decide +kernel
theorem dX5_takeOut_9 : decode cX5_takeOut 9 = .ok (.iastore, 1) := by decide +kernel
theorem dX5_takeOut_10 : decode cX5_takeOut 10 = .ok (.aload_n 0, 1) := by decide +kernel
theorem dX5_takeOut_11 : decode cX5_takeOut 11 = .ok (.getfield 14, 3) := by decide +kernel
theorem dX5_takeOut_14 : decode cX5_takeOut 14 = .ok (.iload_n 1, 1) := by decide +kernel
theorem dX5_takeOut_15 : decode cX5_takeOut 15 = .ok (.iconst 1, 1) := by decide +kernel
theorem dX5_takeOut_16 : decode cX5_takeOut 16 = .ok (.iadd, 1) := by decide +kernel
theorem dX5_takeOut_17 : decode cX5_takeOut 17 = .ok (.invokestatic 45, 3) := by decide +kernel
theorem dX5_takeOut_20 : decode cX5_takeOut 20 = .ok (.aload_n 0, 1) := by decide +kernel
theorem dX5_takeOut_21 : decode cX5_takeOut 21 = .ok (.getfield 14, 3) := by decide +kernel
theorem dX5_takeOut_24 : decode cX5_takeOut 24 = .ok (.iload_n 1, 1) := by decide +kernel
theorem dX5_takeOut_25 : decode cX5_takeOut 25 = .ok (.invokestatic 45, 3) := by decide +kernel
theorem dX5_takeOut_28 : decode cX5_takeOut 28 = .ok (.bipush 28, 2) := by decide +kernel
theorem dX5_takeOut_30 : decode cX5_takeOut 30 = .ok (.aload_n 0, 1) := by decide +kernel
theorem dX5_takeOut_31 : decode cX5_takeOut 31 = .ok (.getfield 14, 3) := by decide +kernel
theorem dX5_takeOut_34 : decode cX5_takeOut 34 = .ok (.iconst 0, 1) := by decide +kernel
theorem dX5_takeOut_35 : decode cX5_takeOut 35 = .ok (.iaload, 1) := by decide +kernel
theorem dX5_takeOut_36 : decode cX5_takeOut 36 = .ok (.iload_n 1, 1) := by decide +kernel
theorem dX5_takeOut_37 : decode cX5_takeOut 37 = .ok (.isub, 1) := by decide +kernel
theorem dX5_takeOut_38 : decode cX5_takeOut 38 = .ok (.imul, 1) := by decide +kernel
theorem dX5_takeOut_39 : decode cX5_takeOut 39 = .ok (.invokestatic 62, 3) := by decide +kernel
theorem dX5_takeOut_42 : decode cX5_takeOut 42 = .ok (.return_, 1) := by decide +kernel
set_option maxRecDepth 20000 in
theorem ggX5_takeSteps_X5_steps : GoodIn wsX5_takeSteps wsX5_steps := goodIn_r _ [9, 10, 11, 8, 12] (by decide +kernel) (by decide +kernel)
set_option maxRecDepth 20000 in
theorem gX5_takeSteps_X5_steps : GoodIn wsX5_takeSteps (va_wsS RX5 84 yX5_steps wsX5_steps) := goodIn_app (goodIn_of _ (by decide +kernel)) ggX5_takeSteps_X5_steps
set_option maxRecDepth 20000 in
theorem ggX5_takeSteps_X5_stepAt : GoodIn wsX5_takeSteps wsX5_stepAt := goodIn_r _ [15, 10, 11, 8, 12] (by decide +kernel) (by decide +kernel)
set_option maxRecDepth 20000 in
theorem gX5_takeSteps_X5_stepAt : GoodIn wsX5_takeSteps (va_wsS RX5 49 yX5_stepAt wsX5_stepAt) := goodIn_app (goodIn_of _ (by decide +kernel)) ggX5_takeSteps_X5_stepAt
set_option maxRecDepth 20000 in
theorem ggX5_takeSteps_X5_loopAt : GoodIn wsX5_takeSteps wsX5_loopAt := goodIn_r _ [12] (by decide +kernel) (by decide +kernel)
set_option maxRecDepth 20000 in
theorem gX5_takeSteps_X5_loopAt : GoodIn wsX5_takeSteps (va_wsS RX5 45 yX5_loopAt wsX5_loopAt) := goodIn_app (goodIn_of _ (by decide +kernel)) ggX5_takeSteps_X5_loopAt
theorem dX5_takeSteps_0 : decode cX5_takeSteps 0 = .ok (.aload_n 0, 1) := by decide +kernel
theorem dX5_takeSteps_1 : decode cX5_takeSteps 1 = .ok (.getfield 14, 3) := by decide +kernel
theorem dX5_takeSteps_4 : decode cX5_takeSteps 4 = .ok (.iload_n 1, 1) := by decide +kernel
theorem dX5_takeSteps_5 : decode cX5_takeSteps 5 = .ok (.invokestatic 84, 3) := by decide +kernel
theorem dX5_takeSteps_8 : decode cX5_takeSteps 8 = .ok (.istore 4, 2) := by decide +kernel
theorem dX5_takeSteps_10 : decode cX5_takeSteps 10 = .ok (.aload_n 0, 1) := by decide +kernel
theorem dX5_takeSteps_11 : decode cX5_takeSteps 11 = .ok (.getfield 14, 3) := by decide +kernel
theorem dX5_takeSteps_14 : decode cX5_takeSteps 14 = .ok (.iload_n 1, 1) := by decide +kernel
theorem dX5_takeSteps_15 : decode cX5_takeSteps 15 = .ok (.iload_n 3, 1) := by decide +kernel
theorem dX5_takeSteps_16 : decode cX5_takeSteps 16 = .ok (.invokestatic 49, 3) := by decide +kernel
theorem dX5_takeSteps_19 : decode cX5_takeSteps 19 = .ok (.aload_n 0, 1) := by decide +kernel
theorem dX5_takeSteps_20 : decode cX5_takeSteps 20 = .ok (.getfield 14, 3) := by decide +kernel
theorem dX5_takeSteps_23 : decode cX5_takeSteps 23 = .ok (.iload_n 1, 1) := by decide +kernel
theorem dX5_takeSteps_24 : decode cX5_takeSteps 24 = .ok (.iload_n 2, 1) := by decide +kernel
theorem dX5_takeSteps_25 : decode cX5_takeSteps 25 = .ok (.invokestatic 49, 3) := by decide +kernel
theorem dX5_takeSteps_28 : decode cX5_takeSteps 28 = .ok (.iconst 4, 1) := by decide +kernel
theorem dX5_takeSteps_29 : decode cX5_takeSteps 29 = .ok (.iload 4, 2) := by decide +kernel
theorem dX5_takeSteps_31 : decode cX5_takeSteps 31 = .ok (.iload_n 3, 1) := by decide +kernel
theorem dX5_takeSteps_32 : decode cX5_takeSteps 32 = .ok (.isub, 1) := by decide +kernel
theorem dX5_takeSteps_33 : decode cX5_takeSteps 33 = .ok (.imul, 1) := by decide +kernel
theorem dX5_takeSteps_34 : decode cX5_takeSteps 34 = .ok (.invokestatic 62, 3) := by decide +kernel
theorem dX5_takeSteps_37 : decode cX5_takeSteps 37 = .ok (.aload_n 0, 1) := by decide +kernel
theorem dX5_takeSteps_38 : decode cX5_takeSteps 38 = .ok (.getfield 14, 3) := by decide +kernel
theorem dX5_takeSteps_41 : decode cX5_takeSteps 41 = .ok (.iload_n 1, 1) := by decide +kernel
theorem dX5_takeSteps_42 : decode cX5_takeSteps 42 = .ok (.invokestatic 45, 3) := by decide +kernel
theorem dX5_takeSteps_45 : decode cX5_takeSteps 45 = .ok (.iconst 3, 1) := by decide +kernel
theorem dX5_takeSteps_46 : decode cX5_takeSteps 46 = .ok (.iadd, 1) := by decide +kernel
theorem dX5_takeSteps_47 : decode cX5_takeSteps 47 = .ok (.iload 4, 2) := by decide +kernel
theorem dX5_takeSteps_49 : decode cX5_takeSteps 49 = .ok (.iload_n 3, 1) := by decide +kernel
theorem dX5_takeSteps_50 : decode cX5_takeSteps 50 = .ok (.iload_n 2, 1) := by decide +kernel
theorem dX5_takeSteps_51 : decode cX5_takeSteps 51 = .ok (.isub, 1) := by decide +kernel
theorem dX5_takeSteps_52 : decode cX5_takeSteps 52 = .ok (.isub, 1) := by decide +kernel
theorem dX5_takeSteps_53 : decode cX5_takeSteps 53 = .ok (.iastore, 1) := by decide +kernel
theorem dX5_takeSteps_54 : decode cX5_takeSteps 54 = .ok (.return_, 1) := by decide +kernel
set_option maxRecDepth 20000 in
theorem ggX5_join_X5_steps : GoodIn wsX5_join wsX5_steps := goodIn_r _ [9, 10, 11, 8, 12] (by decide +kernel) (by decide +kernel)
set_option maxRecDepth 20000 in
theorem gX5_join_X5_steps : GoodIn wsX5_join (va_wsS RX5 84 yX5_steps wsX5_steps) := goodIn_app (goodIn_of _ (by decide +kernel)) ggX5_join_X5_steps
set_option maxRecDepth 20000 in
theorem ggX5_join_X5_stepAt : GoodIn wsX5_join wsX5_stepAt := goodIn_r _ [15, 10, 11, 8, 12] (by decide +kernel) (by decide +kernel)
set_option maxRecDepth 20000 in
theorem gX5_join_X5_stepAt : GoodIn wsX5_join (va_wsS RX5 49 yX5_stepAt wsX5_stepAt) := goodIn_app (goodIn_of _ (by decide +kernel)) ggX5_join_X5_stepAt
set_option maxRecDepth 20000 in
theorem ggX5_join_X5_loopAt : GoodIn wsX5_join wsX5_loopAt := goodIn_r _ [12] (by decide +kernel) (by decide +kernel)
set_option maxRecDepth 20000 in
theorem gX5_join_X5_loopAt : GoodIn wsX5_join (va_wsS RX5 45 yX5_loopAt wsX5_loopAt) := goodIn_app (goodIn_of _ (by decide +kernel)) ggX5_join_X5_loopAt
set_option maxRecDepth 20000 in
theorem ggX5_join_X5_takeOut : GoodIn wsX5_join wsX5_takeOut := goodIn_r _ [19, 1, 2, 3, 4, 5, 10, 11, 8, 12, 20, 21, 22, 23, 24, 25, 26, 27, 28, 29, 30] (by decide +kernel) (by decide +kernel)
set_option maxRecDepth 20000 in
theorem gX5_join_X5_takeOut : GoodIn wsX5_join (wsV RX5 150 RX5 yX5_takeOut wsX5_takeOut) := goodIn_app (goodIn_of _ (by decide +kernel)) ggX5_join_X5_takeOut
theorem dX5_join_0 : decode cX5_join 0 = .ok (.aload_n 0, 1) := by decide +kernel
theorem dX5_join_1 : decode cX5_join 1 = .ok (.getfield 14, 3) := by decide +kernel
theorem dX5_join_4 : decode cX5_join 4 = .ok (.iload_n 1, 1) := by decide +kernel
theorem dX5_join_5 : decode cX5_join 5 = .ok (.invokestatic 84, 3) := by decide +kernel
theorem dX5_join_8 : decode cX5_join 8 = .ok (.istore_n 2, 1) := by decide +kernel
theorem dX5_join_9 : decode cX5_join 9 = .ok (.aload_n 0, 1) := by decide +kernel
theorem dX5_join_10 : decode cX5_join 10 = .ok (.getfield 14, 3) := by decide +kernel
theorem dX5_join_13 : decode cX5_join 13 = .ok (.iload_n 1, 1) := by decide +kernel
theorem dX5_join_14 : decode cX5_join 14 = .ok (.iconst 1, 1) := by decide +kernel
theorem dX5_join_15 : decode cX5_join 15 = .ok (.iadd, 1) := by decide +kernel
theorem dX5_join_16 : decode cX5_join 16 = .ok (.invokestatic 84, 3) := by decide +kernel
theorem dX5_join_19 : decode cX5_join 19 = .ok (.istore_n 3, 1) := by decide +kernel
theorem dX5_join_20 : decode cX5_join 20 = .ok (.aload_n 0, 1) := by decide +kernel
theorem dX5_join_21 : decode cX5_join 21 = .ok (.getfield 14, 3) := by decide +kernel
theorem dX5_join_24 : decode cX5_join 24 = .ok (.iload_n 1, 1) := by decide +kernel
theorem dX5_join_25 : decode cX5_join 25 = .ok (.iconst 1, 1) := by decide +kernel
theorem dX5_join_26 : decode cX5_join 26 = .ok (.iadd, 1) := by decide +kernel
theorem dX5_join_27 : decode cX5_join 27 = .ok (.iconst 0, 1) := by decide +kernel
theorem dX5_join_28 : decode cX5_join 28 = .ok (.invokestatic 49, 3) := by decide +kernel
theorem dX5_join_31 : decode cX5_join 31 = .ok (.aload_n 0, 1) := by decide +kernel
theorem dX5_join_32 : decode cX5_join 32 = .ok (.getfield 14, 3) := by decide +kernel
theorem dX5_join_35 : decode cX5_join 35 = .ok (.iload_n 1, 1) := by decide +kernel
theorem dX5_join_36 : decode cX5_join 36 = .ok (.iload_n 2, 1) := by decide +kernel
theorem dX5_join_37 : decode cX5_join 37 = .ok (.invokestatic 49, 3) := by decide +kernel
theorem dX5_join_40 : decode cX5_join 40 = .ok (.iconst 4, 1) := by decide +kernel
theorem dX5_join_41 : decode cX5_join 41 = .ok (.iload_n 3, 1) := by decide +kernel
theorem dX5_join_42 : decode cX5_join 42 = .ok (.imul, 1) := by decide +kernel
theorem dX5_join_43 : decode cX5_join 43 = .ok (.invokestatic 62, 3) := by decide +kernel
theorem dX5_join_46 : decode cX5_join 46 = .ok (.aload_n 0, 1) := by decide +kernel
theorem dX5_join_47 : decode cX5_join 47 = .ok (.getfield 14, 3) := by decide +kernel
theorem dX5_join_50 : decode cX5_join 50 = .ok (.iload_n 1, 1) := by decide +kernel
theorem dX5_join_51 : decode cX5_join 51 = .ok (.invokestatic 45, 3) := by decide +kernel
theorem dX5_join_54 : decode cX5_join 54 = .ok (.iconst 3, 1) := by decide +kernel
theorem dX5_join_55 : decode cX5_join 55 = .ok (.iadd, 1) := by decide +kernel
theorem dX5_join_56 : decode cX5_join 56 = .ok (.iload_n 2, 1) := by decide +kernel
theorem dX5_join_57 : decode cX5_join 57 = .ok (.iload_n 3, 1) := by decide +kernel
theorem dX5_join_58 : decode cX5_join 58 = .ok (.iadd, 1) := by decide +kernel
theorem dX5_join_59 : decode cX5_join 59 = .ok (.iastore, 1) := by decide +kernel
theorem dX5_join_60 : decode cX5_join 60 = .ok (.aload_n 0, 1) := by decide +kernel
theorem dX5_join_61 : decode cX5_join 61 = .ok (.iload_n 1, 1) := by decide +kernel
theorem dX5_join_62 : decode cX5_join 62 = .ok (.iconst 1, 1) := by decide +kernel
theorem dX5_join_63 : decode cX5_join 63 = .ok (.iadd, 1) := by decide +kernel
theorem dX5_join_64 : decode cX5_join 64 = .ok (.invokevirtual 150, 3) := by decide +kernel
theorem dX5_join_67 : decode cX5_join 67 = .ok (.return_, 1) := by decide +kernel
set_option maxRecDepth 20000 in
theorem ggX5_divide_X5_steps : GoodIn wsX5_divide wsX5_steps := goodIn_r _ [5, 6, 7, 4, 8] (by decide +kernel) (by decide +kernel)
set_option maxRecDepth 20000 in
theorem gX5_divide_X5_steps : GoodIn wsX5_divide (va_wsS RX5 84 yX5_steps wsX5_steps) := goodIn_app (goodIn_of _ (by decide +kernel)) ggX5_divide_X5_steps
set_option maxRecDepth 20000 in
theorem ggX5_divide_X5_twice : GoodIn wsX5_divide wsX5_twice := goodIn_r _ [12, 1, 13, 14, 15, 16, 6, 7, 4, 8, 24, 25, 26, 27, 28, 29, 30, 31, 32, 33, 34] (by decide +kernel) (by decide +kernel)
set_option maxRecDepth 20000 in
theorem gX5_divide_X5_twice : GoodIn wsX5_divide (wsV RX5 154 RX5 yX5_twice wsX5_twice) := goodIn_app (goodIn_of _ (by decide +kernel)) ggX5_divide_X5_twice
set_option maxRecDepth 20000 in
theorem ggX5_divide_X5_takeSteps : GoodIn wsX5_divide wsX5_takeSteps := goodIn_r _ [20, 1, 13, 14, 15, 16, 2, 3, 4, 5, 6, 7, 8, 21, 22, 23, 24, 25, 26, 27, 28, 29, 30, 31, 32, 33, 34] (by decide +kernel) (by decide +kernel)
set_option maxRecDepth 20000 in
theorem gX5_divide_X5_takeSteps : GoodIn wsX5_divide (wsV RX5 157 RX5 yX5_takeSteps wsX5_takeSteps) := goodIn_app (goodIn_of _ (by decide +kernel)) ggX5_divide_X5_takeSteps
theorem dX5_divide_0 : decode cX5_divide 0 = .ok (.aload_n 0, 1) := by decide +kernel
theorem dX5_divide_1 : decode cX5_divide 1 = .ok (.getfield 14, 3) := by decide +kernel
theorem dX5_divide_4 : decode cX5_divide 4 = .ok (.iload_n 1, 1) := by decide +kernel
theorem dX5_divide_5 : decode cX5_divide 5 = .ok (.invokestatic 84, 3) := by decide +kernel
theorem dX5_divide_8 : decode cX5_divide 8 = .ok (.istore_n 3, 1) := by decide +kernel
theorem dX5_divide_9 : decode cX5_divide 9 = .ok (.aload_n 0, 1) := by decide +kernel
theorem dX5_divide_10 : decode cX5_divide 10 = .ok (.iload_n 1, 1) := by decide +kernel
theorem dX5_divide_11 : decode cX5_divide 11 = .ok (.invokevirtual 154, 3) := by decide +kernel
theorem dX5_divide_14 : decode cX5_divide 14 = .ok (.aload_n 0, 1) := by decide +kernel
theorem dX5_divide_15 : decode cX5_divide 15 = .ok (.iload_n 1, 1) := by decide +kernel
theorem dX5_divide_16 : decode cX5_divide 16 = .ok (.iload_n 2, 1) := by decide +kernel
theorem dX5_divide_17 : decode cX5_divide 17 = .ok (.iload_n 3, 1) := by decide +kernel
theorem dX5_divide_18 : decode cX5_divide 18 = .ok (.invokevirtual 157, 3) := by decide +kernel
theorem dX5_divide_21 : decode cX5_divide 21 = .ok (.aload_n 0, 1) := by decide +kernel
theorem dX5_divide_22 : decode cX5_divide 22 = .ok (.iload_n 1, 1) := by decide +kernel
theorem dX5_divide_23 : decode cX5_divide 23 = .ok (.iconst 1, 1) := by decide +kernel
theorem dX5_divide_24 : decode cX5_divide 24 = .ok (.iadd, 1) := by decide +kernel
theorem dX5_divide_25 : decode cX5_divide 25 = .ok (.iconst 0, 1) := by decide +kernel
theorem dX5_divide_26 : decode cX5_divide 26 = .ok (.iload_n 2, 1) := by decide +kernel
theorem dX5_divide_27 : decode cX5_divide 27 = .ok (.invokevirtual 157, 3) := by decide +kernel
theorem dX5_divide_30 : decode cX5_divide 30 = .ok (.return_, 1) := by decide +kernel
set_option maxRecDepth 20000 in
theorem ggX5_peel_X5_twice : GoodIn wsX5_peel wsX5_twice := goodIn_r _ [6, 1, 7, 8, 9, 10, 11, 12, 5, 13, 14, 15, 16, 17, 18, 19, 20, 21, 22, 23, 24] (by decide +kernel) (by decide +kernel)
set_option maxRecDepth 20000 in
theorem gX5_peel_X5_twice : GoodIn wsX5_peel (wsV RX5 154 RX5 yX5_twice wsX5_twice) := goodIn_app (goodIn_of _ (by decide +kernel)) ggX5_peel_X5_twice
set_option maxRecDepth 20000 in
theorem ggX5_peel_X5_loopAt : GoodIn wsX5_peel wsX5_loopAt := goodIn_r _ [13] (by decide +kernel) (by decide +kernel)
set_option maxRecDepth 20000 in
theorem gX5_peel_X5_loopAt : GoodIn wsX5_peel (va_wsS RX5 45 yX5_loopAt wsX5_loopAt) := goodIn_app (goodIn_of _ (by decide +kernel)) ggX5_peel_X5_loopAt
theorem dX5_peel_0 : decode cX5_peel 0 = .ok (.aload_n 0, 1) := by decide +kernel
theorem dX5_peel_1 : decode cX5_peel 1 = .ok (.iload_n 1, 1) := by decide +kernel
theorem dX5_peel_2 : decode cX5_peel 2 = .ok (.invokevirtual 154, 3) := by decide +kernel
theorem dX5_peel_5 : decode cX5_peel 5 = .ok (.aload_n 0, 1) := by decide +kernel
theorem dX5_peel_6 : decode cX5_peel 6 = .ok (.getfield 14, 3) := by decide +kernel
theorem dX5_peel_9 : decode cX5_peel 9 = .ok (.iload_n 1, 1) := by decide +kernel
theorem dX5_peel_10 : decode cX5_peel 10 = .ok (.invokestatic 45, 3) := by decide +kernel
theorem dX5_peel_13 : decode cX5_peel 13 = .ok (.iconst 1, 1) := by decide +kernel
theorem dX5_peel_14 : decode cX5_peel 14 = .ok (.iadd, 1) := by decide +kernel
theorem dX5_peel_15 : decode cX5_peel 15 = .ok (.iload_n 2, 1) := by decide +kernel
theorem dX5_peel_16 : decode cX5_peel 16 = .ok (.iconst 1, 1) := by decide +kernel
theorem dX5_peel_17 : decode cX5_peel 17 = .ok (.isub, 1) := by decide +kernel
theorem dX5_peel_18 : decode cX5_peel 18 = .ok (.aload_n 0, 1) := by decide +kernel
theorem dX5_peel_19 : decode cX5_peel 19 = .ok (.getfield 14, 3) := by decide +kernel
theorem dX5_peel_22 : decode cX5_peel 22 = .ok (.iload_n 1, 1) := by decide +kernel
theorem dX5_peel_23 : decode cX5_peel 23 = .ok (.invokestatic 45, 3) := by decide +kernel
theorem dX5_peel_26 : decode cX5_peel 26 = .ok (.iaload, 1) := by decide +kernel
theorem dX5_peel_27 : decode cX5_peel 27 = .ok (.isub, 1) := by decide +kernel
theorem dX5_peel_28 : decode cX5_peel 28 = .ok (.iastore, 1) := by decide +kernel
theorem dX5_peel_29 : decode cX5_peel 29 = .ok (.aload_n 0, 1) := by decide +kernel
theorem dX5_peel_30 : decode cX5_peel 30 = .ok (.getfield 14, 3) := by decide +kernel
theorem dX5_peel_33 : decode cX5_peel 33 = .ok (.iload_n 1, 1) := by decide +kernel
theorem dX5_peel_34 : decode cX5_peel 34 = .ok (.iconst 1, 1) := by decide +kernel
theorem dX5_peel_35 : decode cX5_peel 35 = .ok (.iadd, 1) := by decide +kernel
theorem dX5_peel_36 : decode cX5_peel 36 = .ok (.invokestatic 45, 3) := by decide +kernel
theorem dX5_peel_39 : decode cX5_peel 39 = .ok (.dup2, 1) := by decide +kernel
theorem dX5_peel_40 : decode cX5_peel 40 = .ok (.iaload, 1) := by decide +kernel
theorem dX5_peel_41 : decode cX5_peel 41 = .ok (.iconst 1, 1) := by decide +kernel
theorem dX5_peel_42 : decode cX5_peel 42 = .ok (.iadd, 1) := by decide +kernel
theorem dX5_peel_43 : decode cX5_peel 43 = .ok (.iastore, 1) := by decide +kernel
theorem dX5_peel_44 : decode cX5_peel 44 = .ok (.return_, 1) := by decide +kernel
set_option maxRecDepth 20000 in
theorem ggX5_swap_X5_loopAt : GoodIn wsX5_swap wsX5_loopAt := goodIn_r _ [5] (by decide +kernel) (by decide +kernel)
set_option maxRecDepth 20000 in
theorem gX5_swap_X5_loopAt : GoodIn wsX5_swap (va_wsS RX5 45 yX5_loopAt wsX5_loopAt) := goodIn_app (goodIn_of _ (by decide +kernel)) ggX5_swap_X5_loopAt
theorem dX5_swap_0 : decode cX5_swap 0 = .ok (.iconst 0, 1) := by decide +kernel
theorem dX5_swap_1 : decode cX5_swap 1 = .ok (.istore_n 2, 1) := by decide +kernel
theorem dX5_swap_2 : decode cX5_swap 2 = .ok (.iload_n 2, 1) := by decide +kernel
theorem dX5_swap_3 : decode cX5_swap 3 = .ok (.bipush 28, 2) := by decide +kernel
theorem dX5_swap_5 : decode cX5_swap 5 = .ok (.if_icmp .ge 59, 3) := by decide +kernel
theorem dX5_swap_8 : decode cX5_swap 8 = .ok (.aload_n 0, 1) := by decide +kernel
theorem dX5_swap_9 : decode cX5_swap 9 = .ok (.getfield 14, 3) := by decide +kernel
theorem dX5_swap_12 : decode cX5_swap 12 = .ok (.iload_n 1, 1) := by decide +kernel
theorem dX5_swap_13 : decode cX5_swap 13 = .ok (.invokestatic 45, 3) := by decide +kernel
theorem dX5_swap_16 : decode cX5_swap 16 = .ok (.iload_n 2, 1) := by decide +kernel
theorem dX5_swap_17 : decode cX5_swap 17 = .ok (.iadd, 1) := by decide +kernel
theorem dX5_swap_18 : decode cX5_swap 18 = .ok (.iaload, 1) := by decide +kernel
theorem dX5_swap_19 : decode cX5_swap 19 = .ok (.istore_n 3, 1) := by decide +kernel
theorem dX5_swap_20 : decode cX5_swap 20 = .ok (.aload_n 0, 1) := by decide +kernel
theorem dX5_swap_21 : decode cX5_swap 21 = .ok (.getfield 14, 3) := by decide +kernel
theorem dX5_swap_24 : decode cX5_swap 24 = .ok (.iload_n 1, 1) := by decide +kernel
theorem dX5_swap_25 : decode cX5_swap 25 = .ok (.invokestatic 45, 3) := by decide +kernel
theorem dX5_swap_28 : decode cX5_swap 28 = .ok (.iload_n 2, 1) := by decide +kernel
theorem dX5_swap_29 : decode cX5_swap 29 = .ok (.iadd, 1) := by decide +kernel
theorem dX5_swap_30 : decode cX5_swap 30 = .ok (.aload_n 0, 1) := by decide +kernel
theorem dX5_swap_31 : decode cX5_swap 31 = .ok (.getfield 14, 3) := by decide +kernel
theorem dX5_swap_34 : decode cX5_swap 34 = .ok (.iload_n 1, 1) := by decide +kernel
theorem dX5_swap_35 : decode cX5_swap 35 = .ok (.iconst 1, 1) := by decide +kernel
theorem dX5_swap_36 : decode cX5_swap 36 = .ok (.iadd, 1) := by decide +kernel
theorem dX5_swap_37 : decode cX5_swap 37 = .ok (.invokestatic 45, 3) := by decide +kernel
theorem dX5_swap_40 : decode cX5_swap 40 = .ok (.iload_n 2, 1) := by decide +kernel
theorem dX5_swap_41 : decode cX5_swap 41 = .ok (.iadd, 1) := by decide +kernel
theorem dX5_swap_42 : decode cX5_swap 42 = .ok (.iaload, 1) := by decide +kernel
theorem dX5_swap_43 : decode cX5_swap 43 = .ok (.iastore, 1) := by decide +kernel
theorem dX5_swap_44 : decode cX5_swap 44 = .ok (.aload_n 0, 1) := by decide +kernel
theorem dX5_swap_45 : decode cX5_swap 45 = .ok (.getfield 14, 3) := by decide +kernel
theorem dX5_swap_48 : decode cX5_swap 48 = .ok (.iload_n 1, 1) := by decide +kernel
theorem dX5_swap_49 : decode cX5_swap 49 = .ok (.iconst 1, 1) := by decide +kernel
theorem dX5_swap_50 : decode cX5_swap 50 = .ok (.iadd, 1) := by decide +kernel
theorem dX5_swap_51 : decode cX5_swap 51 = .ok (.invokestatic 45, 3) := by decide +kernel
theorem dX5_swap_54 : decode cX5_swap 54 = .ok (.iload_n 2, 1) := by decide +kernel
theorem dX5_swap_55 : decode cX5_swap 55 = .ok (.iadd, 1) := by decide +kernel
theorem dX5_swap_56 : decode cX5_swap 56 = .ok (.iload_n 3, 1) := by decide +kernel
theorem dX5_swap_57 : decode cX5_swap 57 = .ok (.iastore, 1) := by decide +kernel
theorem dX5_swap_58 : decode cX5_swap 58 = .ok (.iinc 2 1, 3) := by decide +kernel
theorem dX5_swap_61 : decode cX5_swap 61 = .ok (.goto (-59), 3) := by decide +kernel
theorem dX5_swap_64 : decode cX5_swap 64 = .ok (.return_, 1) := by decide +kernel
set_option maxRecDepth 20000 in
theorem ggX5_strip_X5_steps : GoodIn wsX5_strip wsX5_steps := goodIn_r _ [5, 6, 7, 4, 8] (by decide +kernel) (by decide +kernel)
set_option maxRecDepth 20000 in
theorem gX5_strip_X5_steps : GoodIn wsX5_strip (va_wsS RX5 84 yX5_steps wsX5_steps) := goodIn_app (goodIn_of _ (by decide +kernel)) ggX5_strip_X5_steps
set_option maxRecDepth 20000 in
theorem ggX5_strip_X5_get : GoodIn wsX5_strip wsX5_get := goodIn_r _ [11, 12, 13, 4, 14, 6, 7, 8] (by decide +kernel) (by decide +kernel)
set_option maxRecDepth 20000 in
theorem gX5_strip_X5_get : GoodIn wsX5_strip (va_wsS RX5 88 yX5_get wsX5_get) := goodIn_app (goodIn_of _ (by decide +kernel)) ggX5_strip_X5_get
set_option maxRecDepth 20000 in
theorem ggX5_strip_X5_takeSteps : GoodIn wsX5_strip wsX5_takeSteps := goodIn_r _ [18, 1, 19, 20, 21, 22, 2, 3, 4, 5, 6, 7, 8, 12, 13, 14, 27, 28, 29, 30, 31, 32, 33, 34, 35, 36, 37] (by decide +kernel) (by decide +kernel)
set_option maxRecDepth 20000 in
theorem gX5_strip_X5_takeSteps : GoodIn wsX5_strip (wsV RX5 157 RX5 yX5_takeSteps wsX5_takeSteps) := goodIn_app (goodIn_of _ (by decide +kernel)) ggX5_strip_X5_takeSteps
set_option maxRecDepth 20000 in
theorem ggX5_strip_X5_takeOut : GoodIn wsX5_strip wsX5_takeOut := goodIn_r _ [26, 1, 19, 20, 21, 22, 6, 7, 4, 8, 27, 28, 29, 30, 31, 32, 33, 34, 35, 36, 37] (by decide +kernel) (by decide +kernel)
set_option maxRecDepth 20000 in
theorem gX5_strip_X5_takeOut : GoodIn wsX5_strip (wsV RX5 150 RX5 yX5_takeOut wsX5_takeOut) := goodIn_app (goodIn_of _ (by decide +kernel)) ggX5_strip_X5_takeOut
theorem dX5_strip_0 : decode cX5_strip 0 = .ok (.aload_n 0, 1) := by decide +kernel
theorem dX5_strip_1 : decode cX5_strip 1 = .ok (.getfield 14, 3) := by decide +kernel
theorem dX5_strip_4 : decode cX5_strip 4 = .ok (.iconst 0, 1) := by decide +kernel
theorem dX5_strip_5 : decode cX5_strip 5 = .ok (.iaload, 1) := by decide +kernel
theorem dX5_strip_6 : decode cX5_strip 6 = .ok (.iconst 1, 1) := by decide +kernel
theorem dX5_strip_7 : decode cX5_strip 7 = .ok (.isub, 1) := by decide +kernel
theorem dX5_strip_8 : decode cX5_strip 8 = .ok (.istore_n 1, 1) := by decide +kernel
theorem dX5_strip_9 : decode cX5_strip 9 = .ok (.iload_n 1, 1) := by decide +kernel
theorem dX5_strip_10 : decode cX5_strip 10 = .ok (.ifCond .lt 84, 3) := by decide +kernel
theorem dX5_strip_13 : decode cX5_strip 13 = .ok (.aload_n 0, 1) := by decide +kernel
theorem dX5_strip_14 : decode cX5_strip 14 = .ok (.getfield 14, 3) := by decide +kernel
theorem dX5_strip_17 : decode cX5_strip 17 = .ok (.iload_n 1, 1) := by decide +kernel
theorem dX5_strip_18 : decode cX5_strip 18 = .ok (.invokestatic 84, 3) := by decide +kernel
theorem dX5_strip_21 : decode cX5_strip 21 = .ok (.istore_n 2, 1) := by decide +kernel
theorem dX5_strip_22 : decode cX5_strip 22 = .ok (.iload_n 2, 1) := by decide +kernel
theorem dX5_strip_23 : decode cX5_strip 23 = .ok (.iconst 1, 1) := by decide +kernel
theorem dX5_strip_24 : decode cX5_strip 24 = .ok (.isub, 1) := by decide +kernel
theorem dX5_strip_25 : decode cX5_strip 25 = .ok (.istore_n 3, 1) := by decide +kernel
theorem dX5_strip_26 : decode cX5_strip 26 = .ok (.iload_n 3, 1) := by decide +kernel
theorem dX5_strip_27 : decode cX5_strip 27 = .ok (.ifCond .lt 52, 3) := by decide +kernel
theorem dX5_strip_30 : decode cX5_strip 30 = .ok (.aload_n 0, 1) := by decide +kernel
theorem dX5_strip_31 : decode cX5_strip 31 = .ok (.getfield 14, 3) := by decide +kernel
theorem dX5_strip_34 : decode cX5_strip 34 = .ok (.iload_n 1, 1) := by decide +kernel
theorem dX5_strip_35 : decode cX5_strip 35 = .ok (.iload_n 3, 1) := by decide +kernel
theorem dX5_strip_36 : decode cX5_strip 36 = .ok (.iconst 0, 1) := by decide +kernel
theorem dX5_strip_37 : decode cX5_strip 37 = .ok (.invokestatic 88, 3) := by decide +kernel
theorem dX5_strip_40 : decode cX5_strip 40 = .ok (.ifCond .ne 33, 3) := by decide +kernel
theorem dX5_strip_43 : decode cX5_strip 43 = .ok (.aload_n 0, 1) := by decide +kernel
theorem dX5_strip_44 : decode cX5_strip 44 = .ok (.getfield 14, 3) := by decide +kernel
theorem dX5_strip_47 : decode cX5_strip 47 = .ok (.iload_n 1, 1) := by decide +kernel
theorem dX5_strip_48 : decode cX5_strip 48 = .ok (.iload_n 3, 1) := by decide +kernel
theorem dX5_strip_49 : decode cX5_strip 49 = .ok (.iconst 2, 1) := by decide +kernel
theorem dX5_strip_50 : decode cX5_strip 50 = .ok (.invokestatic 88, 3) := by decide +kernel
theorem dX5_strip_53 : decode cX5_strip 53 = .ok (.iconst 4, 1) := by decide +kernel
theorem dX5_strip_54 : decode cX5_strip 54 = .ok (.if_icmp .lt 19, 3) := by decide +kernel
theorem dX5_strip_57 : decode cX5_strip 57 = .ok (.aload_n 0, 1) := by decide +kernel
theorem dX5_strip_58 : decode cX5_strip 58 = .ok (.iload_n 1, 1) := by decide +kernel
theorem dX5_strip_59 : decode cX5_strip 59 = .ok (.iload_n 3, 1) := by decide +kernel
theorem dX5_strip_60 : decode cX5_strip 60 = .ok (.iconst 1, 1) := by decide +kernel
theorem dX5_strip_61 : decode cX5_strip 61 = .ok (.iadd, 1) := by decide +kernel
theorem dX5_strip_62 : decode cX5_strip 62 = .ok (.aload_n 0, 1) := by decide +kernel
theorem dX5_strip_63 : decode cX5_strip 63 = .ok (.getfield 14, 3) := by decide +kernel
theorem dX5_strip_66 : decode cX5_strip 66 = .ok (.iload_n 1, 1) := by decide +kernel
theorem dX5_strip_67 : decode cX5_strip 67 = .ok (.invokestatic 84, 3) := by decide +kernel
theorem dX5_strip_70 : decode cX5_strip 70 = .ok (.invokevirtual 157, 3) := by decide +kernel
theorem dX5_strip_73 : decode cX5_strip 73 = .ok (.iinc 3 (-1), 3) := by decide +kernel
theorem dX5_strip_76 : decode cX5_strip 76 = .ok (.goto (-50), 3) := by decide +kernel
theorem dX5_strip_79 : decode cX5_strip 79 = .ok (.iload_n 2, 1) := by decide +kernel
theorem dX5_strip_80 : decode cX5_strip 80 = .ok (.ifCond .ne 8, 3) := by decide +kernel
theorem dX5_strip_83 : decode cX5_strip 83 = .ok (.aload_n 0, 1) := by decide +kernel
theorem dX5_strip_84 : decode cX5_strip 84 = .ok (.iload_n 1, 1) := by decide +kernel
theorem dX5_strip_85 : decode cX5_strip 85 = .ok (.invokevirtual 150, 3) := by decide +kernel
theorem dX5_strip_88 : decode cX5_strip 88 = .ok (.iinc 1 (-1), 3) := by decide +kernel
theorem dX5_strip_91 : decode cX5_strip 91 = .ok (.goto (-82), 3) := by decide +kernel
theorem dX5_strip_94 : decode cX5_strip 94 = .ok (.return_, 1) := by decide +kernel
set_option maxRecDepth 20000 in
theorem ggX5_make_X5_join : GoodIn wsX5_make wsX5_join := goodIn_r _ [6, 1, 7, 8, 9, 10, 11, 12, 5, 13, 14, 15, 16, 17, 18, 19, 20, 21, 22, 23, 51, 52, 53, 54, 55, 56, 57, 58, 59, 60, 61] (by decide +kernel) (by decide +kernel)
set_option maxRecDepth 20000 in
theorem gX5_make_X5_join : GoodIn wsX5_make (wsV RX5 161 RX5 yX5_join wsX5_join) := goodIn_app (goodIn_of _ (by decide +kernel)) ggX5_make_X5_join
set_option maxRecDepth 20000 in
theorem ggX5_make_X5_divide : GoodIn wsX5_make wsX5_divide := goodIn_r _ [27, 1, 11, 12, 5, 13, 14, 15, 16, 28, 29, 30, 31, 7, 8, 9, 10, 32, 33, 34, 35, 17, 18, 19, 51, 52, 53, 54, 55, 56, 57, 58, 59, 60, 61] (by decide +kernel) (by decide +kernel)
set_option maxRecDepth 20000 in
theorem gX5_make_X5_divide : GoodIn wsX5_make (wsV RX5 164 RX5 yX5_divide wsX5_divide) := goodIn_app (goodIn_of _ (by decide +kernel)) ggX5_make_X5_divide
set_option maxRecDepth 20000 in
theorem ggX5_make_X5_peel : GoodIn wsX5_make wsX5_peel := goodIn_r _ [39, 1, 28, 29, 30, 5, 31, 7, 8, 9, 10, 14, 15, 16, 51, 52, 53, 54, 55, 56, 57, 58, 59, 60, 61] (by decide +kernel) (by decide +kernel)
set_option maxRecDepth 20000 in
theorem gX5_make_X5_peel : GoodIn wsX5_make (wsV RX5 168 RX5 yX5_peel wsX5_peel) := goodIn_app (goodIn_of _ (by decide +kernel)) ggX5_make_X5_peel
set_option maxRecDepth 20000 in
theorem ggX5_make_X5_loopAt : GoodIn wsX5_make wsX5_loopAt := goodIn_r _ [16] (by decide +kernel) (by decide +kernel)
set_option maxRecDepth 20000 in
theorem gX5_make_X5_loopAt : GoodIn wsX5_make (va_wsS RX5 45 yX5_loopAt wsX5_loopAt) := goodIn_app (goodIn_of _ (by decide +kernel)) ggX5_make_X5_loopAt
set_option maxRecDepth 20000 in
theorem ggX5_make_X5_swap : GoodIn wsX5_make wsX5_swap := goodIn_r _ [43, 1, 14, 15, 5, 16, 51, 52, 53, 54, 55, 56, 57, 58, 59, 60, 61] (by decide +kernel) (by decide +kernel)
set_option maxRecDepth 20000 in
theorem gX5_make_X5_swap : GoodIn wsX5_make (wsV RX5 171 RX5 yX5_swap wsX5_swap) := goodIn_app (goodIn_of _ (by decide +kernel)) ggX5_make_X5_swap
set_option maxRecDepth 20000 in
theorem ggX5_make_X5_strip : GoodIn wsX5_make wsX5_strip := goodIn_r _ [47, 1, 11, 12, 5, 13, 14, 15, 16, 48, 49, 50, 17, 18, 19, 32, 33, 34, 35, 7, 8, 9, 10, 20, 21, 22, 23, 51, 52, 53, 54, 55, 56, 57, 58, 59, 60, 61] (by decide +kernel) (by decide +kernel)
set_option maxRecDepth 20000 in
theorem gX5_make_X5_strip : GoodIn wsX5_make (wsV RX5 174 RX5 yX5_strip wsX5_strip) := goodIn_app (goodIn_of _ (by decide +kernel)) ggX5_make_X5_strip
theorem dX5_make_0 : decode cX5_make 0 = .ok (.iload_n 1, 1) := by decide +kernel
theorem dX5_make_1 : decode cX5_make 1 = .ok (.tableswitch 96 0 4 #[35, 43, 52, 61, 88], 35) := by decide +kernel
theorem dX5_make_36 : decode cX5_make 36 = .ok (.aload_n 0, 1) := by decide +kernel
theorem dX5_make_37 : decode cX5_make 37 = .ok (.iload_n 2, 1) := by decide +kernel
theorem dX5_make_38 : decode cX5_make 38 = .ok (.invokevirtual 161, 3) := by decide +kernel
theorem dX5_make_41 : decode cX5_make 41 = .ok (.goto 60, 3) := by decide +kernel
theorem dX5_make_44 : decode cX5_make 44 = .ok (.aload_n 0, 1) := by decide +kernel
theorem dX5_make_45 : decode cX5_make 45 = .ok (.iload_n 2, 1) := by decide +kernel
theorem dX5_make_46 : decode cX5_make 46 = .ok (.iload_n 3, 1) := by decide +kernel
theorem dX5_make_47 : decode cX5_make 47 = .ok (.invokevirtual 164, 3) := by decide +kernel
theorem dX5_make_50 : decode cX5_make 50 = .ok (.goto 51, 3) := by decide +kernel
theorem dX5_make_53 : decode cX5_make 53 = .ok (.aload_n 0, 1) := by decide +kernel
theorem dX5_make_54 : decode cX5_make 54 = .ok (.iload_n 2, 1) := by decide +kernel
theorem dX5_make_55 : decode cX5_make 55 = .ok (.iload_n 3, 1) := by decide +kernel
theorem dX5_make_56 : decode cX5_make 56 = .ok (.invokevirtual 168, 3) := by decide +kernel
theorem dX5_make_59 : decode cX5_make 59 = .ok (.goto 42, 3) := by decide +kernel
theorem dX5_make_62 : decode cX5_make 62 = .ok (.aload_n 0, 1) := by decide +kernel
theorem dX5_make_63 : decode cX5_make 63 = .ok (.getfield 14, 3) := by decide +kernel
theorem dX5_make_66 : decode cX5_make 66 = .ok (.iload_n 2, 1) := by decide +kernel
theorem dX5_make_67 : decode cX5_make 67 = .ok (.invokestatic 45, 3) := by decide +kernel
theorem dX5_make_70 : decode cX5_make 70 = .ok (.iconst 2, 1) := by decide +kernel
theorem dX5_make_71 : decode cX5_make 71 = .ok (.iadd, 1) := by decide +kernel
theorem dX5_make_72 : decode cX5_make 72 = .ok (.iconst 1, 1) := by decide +kernel
theorem dX5_make_73 : decode cX5_make 73 = .ok (.aload_n 0, 1) := by decide +kernel
theorem dX5_make_74 : decode cX5_make 74 = .ok (.getfield 14, 3) := by decide +kernel
theorem dX5_make_77 : decode cX5_make 77 = .ok (.iload_n 2, 1) := by decide +kernel
theorem dX5_make_78 : decode cX5_make 78 = .ok (.invokestatic 45, 3) := by decide +kernel
theorem dX5_make_81 : decode cX5_make 81 = .ok (.iconst 2, 1) := by decide +kernel
theorem dX5_make_82 : decode cX5_make 82 = .ok (.iadd, 1) := by decide +kernel
theorem dX5_make_83 : decode cX5_make 83 = .ok (.iaload, 1) := by decide +kernel
theorem dX5_make_84 : decode cX5_make 84 = .ok (.isub, 1) := by decide +kernel
theorem dX5_make_85 : decode cX5_make 85 = .ok (.iastore, 1) := by decide +kernel
theorem dX5_make_86 : decode cX5_make 86 = .ok (.goto 15, 3) := by decide +kernel
theorem dX5_make_89 : decode cX5_make 89 = .ok (.aload_n 0, 1) := by decide +kernel
theorem dX5_make_90 : decode cX5_make 90 = .ok (.iload_n 2, 1) := by decide +kernel
theorem dX5_make_91 : decode cX5_make 91 = .ok (.invokevirtual 171, 3) := by decide +kernel
theorem dX5_make_94 : decode cX5_make 94 = .ok (.goto 7, 3) := by decide +kernel
theorem dX5_make_97 : decode cX5_make 97 = .ok (.aload_n 0, 1) := by decide +kernel
theorem dX5_make_98 : decode cX5_make 98 = .ok (.invokevirtual 174, 3) := by decide +kernel
theorem dX5_make_101 : decode cX5_make 101 = .ok (.return_, 1) := by decide +kernel
set_option maxRecDepth 20000 in
theorem ggX5_change_X5_whyRange : GoodIn wsX5_change wsX5_whyRange := goodIn_r _ [13, 14, 2, 15, 16, 17, 18, 12, 19, 3, 20, 21, 22, 23, 24, 25, 26, 27, 28, 108, 109, 110, 111, 112, 113, 114, 115, 116, 117, 118] (by decide +kernel) (by decide +kernel)
set_option maxRecDepth 20000 in
theorem gX5_change_X5_whyRange : GoodIn wsX5_change (wsV RX5 143 RX5 yX5_whyRange wsX5_whyRange) := goodIn_app (goodIn_of _ (by decide +kernel)) ggX5_change_X5_whyRange
set_option maxRecDepth 20000 in
theorem ggX5_change_X5_why : GoodIn wsX5_change wsX5_why := goodIn_r _ [31, 32, 33, 12, 34, 26, 27, 28, 35, 36, 37, 23, 24, 25, 38, 39, 40, 41, 42, 43, 44, 45, 46, 47, 48, 49, 50, 51, 52, 53, 54, 55, 56, 57, 58, 59, 60, 61, 62, 63, 64, 65, 66, 67] (by decide +kernel) (by decide +kernel)
set_option maxRecDepth 20000 in
theorem gX5_change_X5_why : GoodIn wsX5_change (va_wsS RX5 147 yX5_why wsX5_why) := goodIn_app (goodIn_of _ (by decide +kernel)) ggX5_change_X5_why
set_option maxRecDepth 20000 in
theorem ggX5_change_X5_fail : GoodIn wsX5_change wsX5_fail := goodIn_r _ [71, 1, 108, 109, 110, 111, 112, 113, 114, 115, 116, 117, 118] (by decide +kernel) (by decide +kernel)
set_option maxRecDepth 20000 in
theorem gX5_change_X5_fail : GoodIn wsX5_change (wsV RX5 57 RX5 yX5_fail wsX5_fail) := goodIn_app (goodIn_of _ (by decide +kernel)) ggX5_change_X5_fail
set_option maxRecDepth 20000 in
theorem ggX5_change_X5_make : GoodIn wsX5_change wsX5_make := goodIn_r _ [75, 4, 76, 77, 78, 12, 79, 5, 6, 7, 8, 23, 24, 25, 26, 27, 28, 44, 45, 46, 80, 81, 82, 83, 84, 85, 86, 87, 88, 89, 90, 91, 92, 93, 94, 95, 96, 97, 98, 99, 100, 101, 102, 103, 104, 105, 106, 107, 41, 42, 43, 108, 109, 110, 111, 112, 113, 114, 115, 116, 117, 118] (by decide +kernel) (by decide +kernel)
set_option maxRecDepth 20000 in
theorem gX5_change_X5_make : GoodIn wsX5_change (wsV RX5 177 RX5 yX5_make wsX5_make) := goodIn_app (goodIn_of _ (by decide +kernel)) ggX5_change_X5_make
theorem dX5_change_0 : decode cX5_change 0 = .ok (.aload_n 0, 1) := by decide +kernel
theorem dX5_change_1 : decode cX5_change 1 = .ok (.aload_n 0, 1) := by decide +kernel
theorem dX5_change_2 : decode cX5_change 2 = .ok (.iload_n 1, 1) := by decide +kernel
theorem dX5_change_3 : decode cX5_change 3 = .ok (.iload_n 2, 1) := by decide +kernel
theorem dX5_change_4 : decode cX5_change 4 = .ok (.iload_n 3, 1) := by decide +kernel
theorem dX5_change_5 : decode cX5_change 5 = .ok (.iload 4, 2) := by decide +kernel
theorem dX5_change_7 : decode cX5_change 7 = .ok (.invokevirtual 143, 3) := by decide +kernel
theorem dX5_change_10 : decode cX5_change 10 = .ok (.putfield 34, 3) := by decide +kernel
theorem dX5_change_13 : decode cX5_change 13 = .ok (.aload_n 0, 1) := by decide +kernel
theorem dX5_change_14 : decode cX5_change 14 = .ok (.getfield 34, 3) := by decide +kernel
theorem dX5_change_17 : decode cX5_change 17 = .ok (.ifCond .eq 5, 3) := by decide +kernel
theorem dX5_change_20 : decode cX5_change 20 = .ok (.iconst 0, 1) := by decide +kernel
theorem dX5_change_21 : decode cX5_change 21 = .ok (.ireturn, 1) := by decide +kernel
theorem dX5_change_22 : decode cX5_change 22 = .ok (.aload_n 0, 1) := by decide +kernel
theorem dX5_change_23 : decode cX5_change 23 = .ok (.getfield 11, 3) := by decide +kernel
theorem dX5_change_26 : decode cX5_change 26 = .ok (.iload_n 1, 1) := by decide +kernel
theorem dX5_change_27 : decode cX5_change 27 = .ok (.aaload, 1) := by decide +kernel
theorem dX5_change_28 : decode cX5_change 28 = .ok (.iload_n 2, 1) := by decide +kernel
theorem dX5_change_29 : decode cX5_change 29 = .ok (.iload_n 3, 1) := by decide +kernel
theorem dX5_change_30 : decode cX5_change 30 = .ok (.iload 4, 2) := by decide +kernel
theorem dX5_change_32 : decode cX5_change 32 = .ok (.invokestatic 147, 3) := by decide +kernel
theorem dX5_change_35 : decode cX5_change 35 = .ok (.ifCond .ne 12, 3) := by decide +kernel
theorem dX5_change_38 : decode cX5_change 38 = .ok (.aload_n 0, 1) := by decide +kernel
theorem dX5_change_39 : decode cX5_change 39 = .ok (.getfield 38, 3) := by decide +kernel
theorem dX5_change_42 : decode cX5_change 42 = .ok (.bipush 10, 2) := by decide +kernel
theorem dX5_change_44 : decode cX5_change 44 = .ok (.if_icmp .ne 9, 3) := by decide +kernel
theorem dX5_change_47 : decode cX5_change 47 = .ok (.aload_n 0, 1) := by decide +kernel
theorem dX5_change_48 : decode cX5_change 48 = .ok (.iconst 3, 1) := by decide +kernel
theorem dX5_change_49 : decode cX5_change 49 = .ok (.invokevirtual 57, 3) := by decide +kernel
theorem dX5_change_52 : decode cX5_change 52 = .ok (.ireturn, 1) := by decide +kernel
theorem dX5_change_53 : decode cX5_change 53 = .ok (.aload_n 0, 1) := by decide +kernel
theorem dX5_change_54 : decode cX5_change 54 = .ok (.getfield 11, 3) := by decide +kernel
theorem dX5_change_57 : decode cX5_change 57 = .ok (.iload_n 1, 1) := by decide +kernel
theorem dX5_change_58 : decode cX5_change 58 = .ok (.aaload, 1) := by decide +kernel
theorem dX5_change_59 : decode cX5_change 59 = .ok (.iconst 0, 1) := by decide +kernel
theorem dX5_change_60 : decode cX5_change 60 = .ok (.aload_n 0, 1) := by decide +kernel
theorem dX5_change_61 : decode cX5_change 61 = .ok (.getfield 14, 3) := by decide +kernel
theorem dX5_change_64 : decode cX5_change 64 = .ok (.iconst 0, 1) := by decide +kernel
theorem dX5_change_65 : decode cX5_change 65 = .ok (.sipush 253, 3) := by decide +kernel
theorem dX5_change_68 : decode cX5_change 68 = .ok (.invokestatic 62, 3) := by decide +kernel
theorem dX5_change_71 : decode cX5_change 71 = .ok (.aload_n 0, 1) := by decide +kernel
theorem dX5_change_72 : decode cX5_change 72 = .ok (.iload_n 2, 1) := by decide +kernel
theorem dX5_change_73 : decode cX5_change 73 = .ok (.iload_n 3, 1) := by decide +kernel
theorem dX5_change_74 : decode cX5_change 74 = .ok (.iload 4, 2) := by decide +kernel
theorem dX5_change_76 : decode cX5_change 76 = .ok (.invokevirtual 177, 3) := by decide +kernel
theorem dX5_change_79 : decode cX5_change 79 = .ok (.aload_n 0, 1) := by decide +kernel
theorem dX5_change_80 : decode cX5_change 80 = .ok (.getfield 14, 3) := by decide +kernel
theorem dX5_change_83 : decode cX5_change 83 = .ok (.iconst 0, 1) := by decide +kernel
theorem dX5_change_84 : decode cX5_change 84 = .ok (.aload_n 0, 1) := by decide +kernel
theorem dX5_change_85 : decode cX5_change 85 = .ok (.getfield 11, 3) := by decide +kernel
theorem dX5_change_88 : decode cX5_change 88 = .ok (.aload_n 0, 1) := by decide +kernel
theorem dX5_change_89 : decode cX5_change 89 = .ok (.getfield 38, 3) := by decide +kernel
theorem dX5_change_92 : decode cX5_change 92 = .ok (.aaload, 1) := by decide +kernel
theorem dX5_change_93 : decode cX5_change 93 = .ok (.iconst 0, 1) := by decide +kernel
theorem dX5_change_94 : decode cX5_change 94 = .ok (.sipush 253, 3) := by decide +kernel
theorem dX5_change_97 : decode cX5_change 97 = .ok (.invokestatic 62, 3) := by decide +kernel
theorem dX5_change_100 : decode cX5_change 100 = .ok (.aload_n 0, 1) := by decide +kernel
theorem dX5_change_101 : decode cX5_change 101 = .ok (.dup, 1) := by decide +kernel
theorem dX5_change_102 : decode cX5_change 102 = .ok (.getfield 38, 3) := by decide +kernel
theorem dX5_change_105 : decode cX5_change 105 = .ok (.iconst 1, 1) := by decide +kernel
theorem dX5_change_106 : decode cX5_change 106 = .ok (.iadd, 1) := by decide +kernel
theorem dX5_change_107 : decode cX5_change 107 = .ok (.putfield 38, 3) := by decide +kernel
theorem dX5_change_110 : decode cX5_change 110 = .ok (.aload_n 0, 1) := by decide +kernel
theorem dX5_change_111 : decode cX5_change 111 = .ok (.getfield 38, 3) := by decide +kernel
theorem dX5_change_114 : decode cX5_change 114 = .ok (.iconst 1, 1) := by decide +kernel
theorem dX5_change_115 : decode cX5_change 115 = .ok (.isub, 1) := by decide +kernel
theorem dX5_change_116 : decode cX5_change 116 = .ok (.ireturn, 1) := by decide +kernel
set_option maxRecDepth 20000 in
theorem ggX5_joinAll_X5_isProgram : GoodIn wsX5_joinAll wsX5_isProgram := goodIn_r _ [12, 13, 14, 15, 11, 16, 59, 60, 61, 62, 63, 64, 65, 66, 67, 68, 69] (by decide +kernel) (by decide +kernel)
set_option maxRecDepth 20000 in
theorem gX5_joinAll_X5_isProgram : GoodIn wsX5_joinAll (wsV RX5 53 RX5 yX5_isProgram wsX5_isProgram) := goodIn_app (goodIn_of _ (by decide +kernel)) ggX5_joinAll_X5_isProgram
set_option maxRecDepth 20000 in
theorem ggX5_joinAll_X5_fail : GoodIn wsX5_joinAll wsX5_fail := goodIn_r _ [20, 1, 59, 60, 61, 62, 63, 64, 65, 66, 67, 68, 69] (by decide +kernel) (by decide +kernel)
set_option maxRecDepth 20000 in
theorem gX5_joinAll_X5_fail : GoodIn wsX5_joinAll (wsV RX5 57 RX5 yX5_fail wsX5_fail) := goodIn_app (goodIn_of _ (by decide +kernel)) ggX5_joinAll_X5_fail
set_option maxRecDepth 20000 in
theorem ggX5_joinAll_X5_whyJoin : GoodIn wsX5_joinAll wsX5_whyJoin := goodIn_r _ [23, 24, 25, 11, 26, 27, 28, 29, 30, 31, 32, 33, 34, 35, 36, 37, 38, 39, 40, 41, 42, 43, 44, 45, 46, 47, 48, 49, 50] (by decide +kernel) (by decide +kernel)
set_option maxRecDepth 20000 in
theorem gX5_joinAll_X5_whyJoin : GoodIn wsX5_joinAll (va_wsS RX5 127 yX5_whyJoin wsX5_whyJoin) := goodIn_app (goodIn_of _ (by decide +kernel)) ggX5_joinAll_X5_whyJoin
set_option maxRecDepth 20000 in
theorem ggX5_joinAll_X5_join : GoodIn wsX5_joinAll wsX5_join := goodIn_r _ [54, 3, 4, 5, 6, 7, 30, 31, 11, 32, 24, 25, 26, 39, 40, 41, 55, 56, 57, 58, 59, 60, 61, 62, 63, 64, 65, 66, 67, 68, 69] (by decide +kernel) (by decide +kernel)
set_option maxRecDepth 20000 in
theorem gX5_joinAll_X5_join : GoodIn wsX5_joinAll (wsV RX5 161 RX5 yX5_join wsX5_join) := goodIn_app (goodIn_of _ (by decide +kernel)) ggX5_joinAll_X5_join
theorem dX5_joinAll_0 : decode cX5_joinAll 0 = .ok (.aload_n 0, 1) := by decide +kernel
theorem dX5_joinAll_1 : decode cX5_joinAll 1 = .ok (.iconst 0, 1) := by decide +kernel
theorem dX5_joinAll_2 : decode cX5_joinAll 2 = .ok (.putfield 34, 3) := by decide +kernel
theorem dX5_joinAll_5 : decode cX5_joinAll 5 = .ok (.aload_n 0, 1) := by decide +kernel
theorem dX5_joinAll_6 : decode cX5_joinAll 6 = .ok (.iload_n 1, 1) := by decide +kernel
theorem dX5_joinAll_7 : decode cX5_joinAll 7 = .ok (.invokevirtual 53, 3) := by decide +kernel
theorem dX5_joinAll_10 : decode cX5_joinAll 10 = .ok (.ifCond .ne 9, 3) := by decide +kernel
theorem dX5_joinAll_13 : decode cX5_joinAll 13 = .ok (.aload_n 0, 1) := by decide +kernel
theorem dX5_joinAll_14 : decode cX5_joinAll 14 = .ok (.iconst 1, 1) := by decide +kernel
theorem dX5_joinAll_15 : decode cX5_joinAll 15 = .ok (.invokevirtual 57, 3) := by decide +kernel
theorem dX5_joinAll_18 : decode cX5_joinAll 18 = .ok (.ireturn, 1) := by decide +kernel
theorem dX5_joinAll_19 : decode cX5_joinAll 19 = .ok (.aload_n 0, 1) := by decide +kernel
theorem dX5_joinAll_20 : decode cX5_joinAll 20 = .ok (.getfield 11, 3) := by decide +kernel
theorem dX5_joinAll_23 : decode cX5_joinAll 23 = .ok (.iload_n 1, 1) := by decide +kernel
theorem dX5_joinAll_24 : decode cX5_joinAll 24 = .ok (.aaload, 1) := by decide +kernel
theorem dX5_joinAll_25 : decode cX5_joinAll 25 = .ok (.iconst 0, 1) := by decide +kernel
theorem dX5_joinAll_26 : decode cX5_joinAll 26 = .ok (.aload_n 0, 1) := by decide +kernel
theorem dX5_joinAll_27 : decode cX5_joinAll 27 = .ok (.getfield 14, 3) := by decide +kernel
theorem dX5_joinAll_30 : decode cX5_joinAll 30 = .ok (.iconst 0, 1) := by decide +kernel
theorem dX5_joinAll_31 : decode cX5_joinAll 31 = .ok (.sipush 253, 3) := by decide +kernel
theorem dX5_joinAll_34 : decode cX5_joinAll 34 = .ok (.invokestatic 62, 3) := by decide +kernel
theorem dX5_joinAll_37 : decode cX5_joinAll 37 = .ok (.iconst 0, 1) := by decide +kernel
theorem dX5_joinAll_38 : decode cX5_joinAll 38 = .ok (.istore_n 2, 1) := by decide +kernel
theorem dX5_joinAll_39 : decode cX5_joinAll 39 = .ok (.iconst 0, 1) := by decide +kernel
theorem dX5_joinAll_40 : decode cX5_joinAll 40 = .ok (.istore_n 3, 1) := by decide +kernel
theorem dX5_joinAll_41 : decode cX5_joinAll 41 = .ok (.iload_n 3, 1) := by decide +kernel
theorem dX5_joinAll_42 : decode cX5_joinAll 42 = .ok (.iconst 1, 1) := by decide +kernel
theorem dX5_joinAll_43 : decode cX5_joinAll 43 = .ok (.iadd, 1) := by decide +kernel
theorem dX5_joinAll_44 : decode cX5_joinAll 44 = .ok (.aload_n 0, 1) := by decide +kernel
theorem dX5_joinAll_45 : decode cX5_joinAll 45 = .ok (.getfield 14, 3) := by decide +kernel
theorem dX5_joinAll_48 : decode cX5_joinAll 48 = .ok (.iconst 0, 1) := by decide +kernel
theorem dX5_joinAll_49 : decode cX5_joinAll 49 = .ok (.iaload, 1) := by decide +kernel
theorem dX5_joinAll_50 : decode cX5_joinAll 50 = .ok (.if_icmp .ge 33, 3) := by decide +kernel
theorem dX5_joinAll_53 : decode cX5_joinAll 53 = .ok (.aload_n 0, 1) := by decide +kernel
theorem dX5_joinAll_54 : decode cX5_joinAll 54 = .ok (.getfield 14, 3) := by decide +kernel
theorem dX5_joinAll_57 : decode cX5_joinAll 57 = .ok (.iload_n 3, 1) := by decide +kernel
theorem dX5_joinAll_58 : decode cX5_joinAll 58 = .ok (.invokestatic 127, 3) := by decide +kernel
theorem dX5_joinAll_61 : decode cX5_joinAll 61 = .ok (.ifCond .eq 9, 3) := by decide +kernel
theorem dX5_joinAll_64 : decode cX5_joinAll 64 = .ok (.iinc 3 1, 3) := by decide +kernel
theorem dX5_joinAll_67 : decode cX5_joinAll 67 = .ok (.goto (-26), 3) := by decide +kernel
theorem dX5_joinAll_70 : decode cX5_joinAll 70 = .ok (.aload_n 0, 1) := by decide +kernel
theorem dX5_joinAll_71 : decode cX5_joinAll 71 = .ok (.iload_n 3, 1) := by decide +kernel
theorem dX5_joinAll_72 : decode cX5_joinAll 72 = .ok (.invokevirtual 161, 3) := by decide +kernel
theorem dX5_joinAll_75 : decode cX5_joinAll 75 = .ok (.iinc 2 1, 3) := by decide +kernel
theorem dX5_joinAll_78 : decode cX5_joinAll 78 = .ok (.iconst 0, 1) := by decide +kernel
theorem dX5_joinAll_79 : decode cX5_joinAll 79 = .ok (.istore_n 3, 1) := by decide +kernel
theorem dX5_joinAll_80 : decode cX5_joinAll 80 = .ok (.goto (-39), 3) := by decide +kernel
theorem dX5_joinAll_83 : decode cX5_joinAll 83 = .ok (.aload_n 0, 1) := by decide +kernel
theorem dX5_joinAll_84 : decode cX5_joinAll 84 = .ok (.getfield 14, 3) := by decide +kernel
theorem dX5_joinAll_87 : decode cX5_joinAll 87 = .ok (.iconst 0, 1) := by decide +kernel
theorem dX5_joinAll_88 : decode cX5_joinAll 88 = .ok (.aload_n 0, 1) := by decide +kernel
theorem dX5_joinAll_89 : decode cX5_joinAll 89 = .ok (.getfield 11, 3) := by decide +kernel
theorem dX5_joinAll_92 : decode cX5_joinAll 92 = .ok (.iload_n 1, 1) := by decide +kernel
theorem dX5_joinAll_93 : decode cX5_joinAll 93 = .ok (.aaload, 1) := by decide +kernel
theorem dX5_joinAll_94 : decode cX5_joinAll 94 = .ok (.iconst 0, 1) := by decide +kernel
theorem dX5_joinAll_95 : decode cX5_joinAll 95 = .ok (.sipush 253, 3) := by decide +kernel
theorem dX5_joinAll_98 : decode cX5_joinAll 98 = .ok (.invokestatic 62, 3) := by decide +kernel
theorem dX5_joinAll_101 : decode cX5_joinAll 101 = .ok (.iload_n 2, 1) := by decide +kernel
theorem dX5_joinAll_102 : decode cX5_joinAll 102 = .ok (.ireturn, 1) := by decide +kernel
theorem dX5_rows_0 : decode cX5_rows 0 = .ok (.iconst 1, 1) := by decide +kernel
theorem dX5_rows_1 : decode cX5_rows 1 = .ok (.istore_n 2, 1) := by decide +kernel
theorem dX5_rows_2 : decode cX5_rows 2 = .ok (.iconst 0, 1) := by decide +kernel
theorem dX5_rows_3 : decode cX5_rows 3 = .ok (.istore_n 3, 1) := by decide +kernel
theorem dX5_rows_4 : decode cX5_rows 4 = .ok (.iload_n 3, 1) := by decide +kernel
theorem dX5_rows_5 : decode cX5_rows 5 = .ok (.iload_n 0, 1) := by decide +kernel
theorem dX5_rows_6 : decode cX5_rows 6 = .ok (.if_icmp .ge 20, 3) := by decide +kernel
theorem dX5_rows_9 : decode cX5_rows 9 = .ok (.iload_n 2, 1) := by decide +kernel
theorem dX5_rows_10 : decode cX5_rows 10 = .ok (.sipush 1024, 3) := by decide +kernel
theorem dX5_rows_13 : decode cX5_rows 13 = .ok (.if_icmp .gt 13, 3) := by decide +kernel
theorem dX5_rows_16 : decode cX5_rows 16 = .ok (.iload_n 2, 1) := by decide +kernel
theorem dX5_rows_17 : decode cX5_rows 17 = .ok (.iload_n 1, 1) := by decide +kernel
theorem dX5_rows_18 : decode cX5_rows 18 = .ok (.imul, 1) := by decide +kernel
theorem dX5_rows_19 : decode cX5_rows 19 = .ok (.istore_n 2, 1) := by decide +kernel
theorem dX5_rows_20 : decode cX5_rows 20 = .ok (.iinc 3 1, 3) := by decide +kernel
theorem dX5_rows_23 : decode cX5_rows 23 = .ok (.goto (-19), 3) := by decide +kernel
theorem dX5_rows_26 : decode cX5_rows 26 = .ok (.iload_n 2, 1) := by decide +kernel
theorem dX5_rows_27 : decode cX5_rows 27 = .ok (.sipush 1024, 3) := by decide +kernel
theorem dX5_rows_30 : decode cX5_rows 30 = .ok (.if_icmp .le 7, 3) := by decide +kernel
theorem dX5_rows_33 : decode cX5_rows 33 = .ok (.iconst (-1), 1) := by decide +kernel
theorem dX5_rows_34 : decode cX5_rows 34 = .ok (.goto 4, 3) := by decide +kernel
theorem dX5_rows_37 : decode cX5_rows 37 = .ok (.iload_n 2, 1) := by decide +kernel
theorem dX5_rows_38 : decode cX5_rows 38 = .ok (.ireturn, 1) := by decide +kernel
set_option maxRecDepth 20000 in
theorem ggX5_areCases_X5_isIn : GoodIn wsX5_areCases wsX5_isIn := goodIn_r _ [6] (by decide +kernel) (by decide +kernel)
set_option maxRecDepth 20000 in
theorem gX5_areCases_X5_isIn : GoodIn wsX5_areCases (va_wsS RX5 41 yX5_isIn wsX5_isIn) := goodIn_app (goodIn_of _ (by decide +kernel)) ggX5_areCases_X5_isIn
set_option maxRecDepth 20000 in
theorem ggX5_areCases_X5_rows : GoodIn wsX5_areCases wsX5_rows := goodIn_r _ [9] (by decide +kernel) (by decide +kernel)
set_option maxRecDepth 20000 in
theorem gX5_areCases_X5_rows : GoodIn wsX5_areCases (va_wsS RX5 182 yX5_rows wsX5_rows) := goodIn_app (goodIn_of _ (by decide +kernel)) ggX5_areCases_X5_rows
theorem dX5_areCases_0 : decode cX5_areCases 0 = .ok (.iload_n 0, 1) := by decide +kernel
theorem dX5_areCases_1 : decode cX5_areCases 1 = .ok (.i2l, 1) := by decide +kernel
theorem dX5_areCases_2 : decode cX5_areCases 2 = .ok (.lconst 0, 1) := by decide +kernel
theorem dX5_areCases_3 : decode cX5_areCases 3 = .ok (.ldc2_w 180, 3) := by decide +kernel
theorem dX5_areCases_6 : decode cX5_areCases 6 = .ok (.invokestatic 41, 3) := by decide +kernel
theorem dX5_areCases_9 : decode cX5_areCases 9 = .ok (.ifCond .eq 28, 3) := by decide +kernel
theorem dX5_areCases_12 : decode cX5_areCases 12 = .ok (.iload_n 1, 1) := by decide +kernel
theorem dX5_areCases_13 : decode cX5_areCases 13 = .ok (.i2l, 1) := by decide +kernel
theorem dX5_areCases_14 : decode cX5_areCases 14 = .ok (.lconst 1, 1) := by decide +kernel
theorem dX5_areCases_15 : decode cX5_areCases 15 = .ok (.ldc2_w 80, 3) := by decide +kernel
theorem dX5_areCases_18 : decode cX5_areCases 18 = .ok (.invokestatic 41, 3) := by decide +kernel
theorem dX5_areCases_21 : decode cX5_areCases 21 = .ok (.ifCond .eq 16, 3) := by decide +kernel
theorem dX5_areCases_24 : decode cX5_areCases 24 = .ok (.iload_n 0, 1) := by decide +kernel
theorem dX5_areCases_25 : decode cX5_areCases 25 = .ok (.iload_n 1, 1) := by decide +kernel
theorem dX5_areCases_26 : decode cX5_areCases 26 = .ok (.invokestatic 182, 3) := by decide +kernel
theorem dX5_areCases_29 : decode cX5_areCases 29 = .ok (.iconst (-1), 1) := by decide +kernel
theorem dX5_areCases_30 : decode cX5_areCases 30 = .ok (.if_icmp .eq 7, 3) := by decide +kernel
theorem dX5_areCases_33 : decode cX5_areCases 33 = .ok (.iconst 1, 1) := by decide +kernel
theorem dX5_areCases_34 : decode cX5_areCases 34 = .ok (.goto 4, 3) := by decide +kernel
theorem dX5_areCases_37 : decode cX5_areCases 37 = .ok (.iconst 0, 1) := by decide +kernel
theorem dX5_areCases_38 : decode cX5_areCases 38 = .ok (.ireturn, 1) := by decide +kernel
theorem dX5_layCase_0 : decode cX5_layCase 0 = .ok (.iload_n 1, 1) := by decide +kernel
theorem dX5_layCase_1 : decode cX5_layCase 1 = .ok (.istore 4, 2) := by decide +kernel
theorem dX5_layCase_3 : decode cX5_layCase 3 = .ok (.iload_n 2, 1) := by decide +kernel
theorem dX5_layCase_4 : decode cX5_layCase 4 = .ok (.iconst 1, 1) := by decide +kernel
theorem dX5_layCase_5 : decode cX5_layCase 5 = .ok (.isub, 1) := by decide +kernel
theorem dX5_layCase_6 : decode cX5_layCase 6 = .ok (.istore 5, 2) := by decide +kernel
theorem dX5_layCase_8 : decode cX5_layCase 8 = .ok (.iload 5, 2) := by decide +kernel
theorem dX5_layCase_10 : decode cX5_layCase 10 = .ok (.ifCond .lt 27, 3) := by decide +kernel
theorem dX5_layCase_13 : decode cX5_layCase 13 = .ok (.aload_n 0, 1) := by decide +kernel
theorem dX5_layCase_14 : decode cX5_layCase 14 = .ok (.getfield 22, 3) := by decide +kernel
theorem dX5_layCase_17 : decode cX5_layCase 17 = .ok (.iload 5, 2) := by decide +kernel
theorem dX5_layCase_19 : decode cX5_layCase 19 = .ok (.iload 4, 2) := by decide +kernel
theorem dX5_layCase_21 : decode cX5_layCase 21 = .ok (.iload_n 3, 1) := by decide +kernel
theorem dX5_layCase_22 : decode cX5_layCase 22 = .ok (.irem, 1) := by decide +kernel
theorem dX5_layCase_23 : decode cX5_layCase 23 = .ok (.i2l, 1) := by decide +kernel
theorem dX5_layCase_24 : decode cX5_layCase 24 = .ok (.lastore, 1) := by decide +kernel
theorem dX5_layCase_25 : decode cX5_layCase 25 = .ok (.iload 4, 2) := by decide +kernel
theorem dX5_layCase_27 : decode cX5_layCase 27 = .ok (.iload_n 3, 1) := by decide +kernel
theorem dX5_layCase_28 : decode cX5_layCase 28 = .ok (.idiv, 1) := by decide +kernel
theorem dX5_layCase_29 : decode cX5_layCase 29 = .ok (.istore 4, 2) := by decide +kernel
theorem dX5_layCase_31 : decode cX5_layCase 31 = .ok (.iinc 5 (-1), 3) := by decide +kernel
theorem dX5_layCase_34 : decode cX5_layCase 34 = .ok (.goto (-26), 3) := by decide +kernel
theorem dX5_layCase_37 : decode cX5_layCase 37 = .ok (.return_, 1) := by decide +kernel
set_option maxRecDepth 20000 in
theorem ggX5_isSame_X5_runOver : GoodIn wsX5_isSame wsX5_runOver := goodIn_r _ [13, 14, 3, 15, 16, 12, 17, 18, 19, 20, 21, 22, 23, 24, 25, 26, 27, 28, 29, 30, 31, 32, 33, 34, 35, 36, 37, 38, 39, 40, 41, 42, 43, 44, 45] (by decide +kernel) (by decide +kernel)
set_option maxRecDepth 20000 in
theorem gX5_isSame_X5_runOver : GoodIn wsX5_isSame (wsV RX5 106 RX5 yX5_runOver wsX5_runOver) := goodIn_app (goodIn_of _ (by decide +kernel)) ggX5_isSame_X5_runOver
theorem dX5_isSame_0 : decode cX5_isSame 0 = .ok (.aload_n 0, 1) := by decide +kernel
theorem dX5_isSame_1 : decode cX5_isSame 1 = .ok (.aload_n 0, 1) := by decide +kernel
theorem dX5_isSame_2 : decode cX5_isSame 2 = .ok (.getfield 11, 3) := by decide +kernel
theorem dX5_isSame_5 : decode cX5_isSame 5 = .ok (.iload_n 1, 1) := by decide +kernel
theorem dX5_isSame_6 : decode cX5_isSame 6 = .ok (.aaload, 1) := by decide +kernel
theorem dX5_isSame_7 : decode cX5_isSame 7 = .ok (.aload_n 0, 1) := by decide +kernel
theorem dX5_isSame_8 : decode cX5_isSame 8 = .ok (.getfield 22, 3) := by decide +kernel
theorem dX5_isSame_11 : decode cX5_isSame 11 = .ok (.iload_n 3, 1) := by decide +kernel
theorem dX5_isSame_12 : decode cX5_isSame 12 = .ok (.invokevirtual 106, 3) := by decide +kernel
theorem dX5_isSame_15 : decode cX5_isSame 15 = .ok (.istore 4, 2) := by decide +kernel
theorem dX5_isSame_17 : decode cX5_isSame 17 = .ok (.aload_n 0, 1) := by decide +kernel
theorem dX5_isSame_18 : decode cX5_isSame 18 = .ok (.getfield 25, 3) := by decide +kernel
theorem dX5_isSame_21 : decode cX5_isSame 21 = .ok (.iconst 0, 1) := by decide +kernel
theorem dX5_isSame_22 : decode cX5_isSame 22 = .ok (.aload_n 0, 1) := by decide +kernel
theorem dX5_isSame_23 : decode cX5_isSame 23 = .ok (.getfield 31, 3) := by decide +kernel
theorem dX5_isSame_26 : decode cX5_isSame 26 = .ok (.iconst 0, 1) := by decide +kernel
theorem dX5_isSame_27 : decode cX5_isSame 27 = .ok (.iconst 4, 1) := by decide +kernel
theorem dX5_isSame_28 : decode cX5_isSame 28 = .ok (.invokestatic 62, 3) := by decide +kernel
theorem dX5_isSame_31 : decode cX5_isSame 31 = .ok (.aload_n 0, 1) := by decide +kernel
theorem dX5_isSame_32 : decode cX5_isSame 32 = .ok (.aload_n 0, 1) := by decide +kernel
theorem dX5_isSame_33 : decode cX5_isSame 33 = .ok (.getfield 11, 3) := by decide +kernel
theorem dX5_isSame_36 : decode cX5_isSame 36 = .ok (.iload_n 2, 1) := by decide +kernel
theorem dX5_isSame_37 : decode cX5_isSame 37 = .ok (.aaload, 1) := by decide +kernel
theorem dX5_isSame_38 : decode cX5_isSame 38 = .ok (.aload_n 0, 1) := by decide +kernel
theorem dX5_isSame_39 : decode cX5_isSame 39 = .ok (.getfield 22, 3) := by decide +kernel
theorem dX5_isSame_42 : decode cX5_isSame 42 = .ok (.iload_n 3, 1) := by decide +kernel
theorem dX5_isSame_43 : decode cX5_isSame 43 = .ok (.invokevirtual 106, 3) := by decide +kernel
theorem dX5_isSame_46 : decode cX5_isSame 46 = .ok (.istore 5, 2) := by decide +kernel
theorem dX5_isSame_48 : decode cX5_isSame 48 = .ok (.iload 4, 2) := by decide +kernel
theorem dX5_isSame_50 : decode cX5_isSame 50 = .ok (.iload 5, 2) := by decide +kernel
theorem dX5_isSame_52 : decode cX5_isSame 52 = .ok (.if_icmp .ne 7, 3) := by decide +kernel
theorem dX5_isSame_55 : decode cX5_isSame 55 = .ok (.iconst 1, 1) := by decide +kernel
theorem dX5_isSame_56 : decode cX5_isSame 56 = .ok (.goto 4, 3) := by decide +kernel
theorem dX5_isSame_59 : decode cX5_isSame 59 = .ok (.iconst 0, 1) := by decide +kernel
theorem dX5_isSame_60 : decode cX5_isSame 60 = .ok (.istore 6, 2) := by decide +kernel
theorem dX5_isSame_62 : decode cX5_isSame 62 = .ok (.iconst 0, 1) := by decide +kernel
theorem dX5_isSame_63 : decode cX5_isSame 63 = .ok (.istore 7, 2) := by decide +kernel
theorem dX5_isSame_65 : decode cX5_isSame 65 = .ok (.iload 7, 2) := by decide +kernel
theorem dX5_isSame_67 : decode cX5_isSame 67 = .ok (.iconst 4, 1) := by decide +kernel
theorem dX5_isSame_68 : decode cX5_isSame 68 = .ok (.if_icmp .ge 45, 3) := by decide +kernel
theorem dX5_isSame_71 : decode cX5_isSame 71 = .ok (.iload 4, 2) := by decide +kernel
theorem dX5_isSame_73 : decode cX5_isSame 73 = .ok (.iconst (-1), 1) := by decide +kernel
theorem dX5_isSame_74 : decode cX5_isSame 74 = .ok (.if_icmp .ne 39, 3) := by decide +kernel
theorem dX5_isSame_77 : decode cX5_isSame 77 = .ok (.iload 6, 2) := by decide +kernel
theorem dX5_isSame_79 : decode cX5_isSame 79 = .ok (.ifCond .eq 25, 3) := by decide +kernel
theorem dX5_isSame_82 : decode cX5_isSame 82 = .ok (.aload_n 0, 1) := by decide +kernel
theorem dX5_isSame_83 : decode cX5_isSame 83 = .ok (.getfield 31, 3) := by decide +kernel
theorem dX5_isSame_86 : decode cX5_isSame 86 = .ok (.iload 7, 2) := by decide +kernel
theorem dX5_isSame_88 : decode cX5_isSame 88 = .ok (.laload, 1) := by decide +kernel
theorem dX5_isSame_89 : decode cX5_isSame 89 = .ok (.aload_n 0, 1) := by decide +kernel
theorem dX5_isSame_90 : decode cX5_isSame 90 = .ok (.getfield 25, 3) := by decide +kernel
theorem dX5_isSame_93 : decode cX5_isSame 93 = .ok (.iload 7, 2) := by decide +kernel
theorem dX5_isSame_95 : decode cX5_isSame 95 = .ok (.laload, 1) := by decide +kernel
theorem dX5_isSame_96 : decode cX5_isSame 96 = .ok (.lcmp, 1) := by decide +kernel
theorem dX5_isSame_97 : decode cX5_isSame 97 = .ok (.ifCond .ne 7, 3) := by decide +kernel
theorem dX5_isSame_100 : decode cX5_isSame 100 = .ok (.iconst 1, 1) := by decide +kernel
theorem dX5_isSame_101 : decode cX5_isSame 101 = .ok (.goto 4, 3) := by decide +kernel
theorem dX5_isSame_104 : decode cX5_isSame 104 = .ok (.iconst 0, 1) := by decide +kernel
theorem dX5_isSame_105 : decode cX5_isSame 105 = .ok (.istore 6, 2) := by decide +kernel
theorem dX5_isSame_107 : decode cX5_isSame 107 = .ok (.iinc 7 1, 3) := by decide +kernel
theorem dX5_isSame_110 : decode cX5_isSame 110 = .ok (.goto (-45), 3) := by decide +kernel
theorem dX5_isSame_113 : decode cX5_isSame 113 = .ok (.iload 6, 2) := by decide +kernel
theorem dX5_isSame_115 : decode cX5_isSame 115 = .ok (.ireturn, 1) := by decide +kernel
set_option maxRecDepth 20000 in
theorem ggX5_whyCases_X5_areCases : GoodIn wsX5_whyCases wsX5_areCases := goodIn_r _ [4, 5, 6, 7, 8, 3, 9, 10, 11, 12] (by decide +kernel) (by decide +kernel)
set_option maxRecDepth 20000 in
theorem gX5_whyCases_X5_areCases : GoodIn wsX5_whyCases (va_wsS RX5 185 yX5_areCases wsX5_areCases) := goodIn_app (goodIn_of _ (by decide +kernel)) ggX5_whyCases_X5_areCases
theorem dX5_whyCases_0 : decode cX5_whyCases 0 = .ok (.iload_n 1, 1) := by decide +kernel
theorem dX5_whyCases_1 : decode cX5_whyCases 1 = .ok (.ifCond .ne 7, 3) := by decide +kernel
theorem dX5_whyCases_4 : decode cX5_whyCases 4 = .ok (.iconst 1, 1) := by decide +kernel
theorem dX5_whyCases_5 : decode cX5_whyCases 5 = .ok (.goto 16, 3) := by decide +kernel
theorem dX5_whyCases_8 : decode cX5_whyCases 8 = .ok (.iload_n 2, 1) := by decide +kernel
theorem dX5_whyCases_9 : decode cX5_whyCases 9 = .ok (.iload_n 3, 1) := by decide +kernel
theorem dX5_whyCases_10 : decode cX5_whyCases 10 = .ok (.invokestatic 185, 3) := by decide +kernel
theorem dX5_whyCases_13 : decode cX5_whyCases 13 = .ok (.ifCond .eq 7, 3) := by decide +kernel
theorem dX5_whyCases_16 : decode cX5_whyCases 16 = .ok (.iconst 0, 1) := by decide +kernel
theorem dX5_whyCases_17 : decode cX5_whyCases 17 = .ok (.goto 4, 3) := by decide +kernel
theorem dX5_whyCases_20 : decode cX5_whyCases 20 = .ok (.iconst 2, 1) := by decide +kernel
theorem dX5_whyCases_21 : decode cX5_whyCases 21 = .ok (.ireturn, 1) := by decide +kernel
set_option maxRecDepth 20000 in
theorem ggX5_differ_X5_isProgram : GoodIn wsX5_differ wsX5_isProgram := goodIn_r _ [6, 7, 8, 9, 5, 10, 64, 65, 66, 67, 68, 69, 70, 71, 72, 73, 74] (by decide +kernel) (by decide +kernel)
set_option maxRecDepth 20000 in
theorem gX5_differ_X5_isProgram : GoodIn wsX5_differ (wsV RX5 53 RX5 yX5_isProgram wsX5_isProgram) := goodIn_app (goodIn_of _ (by decide +kernel)) ggX5_differ_X5_isProgram
set_option maxRecDepth 20000 in
theorem ggX5_differ_X5_whyCases : GoodIn wsX5_differ wsX5_whyCases := goodIn_r _ [14, 15, 16, 5, 17, 18, 19, 8, 9, 10, 20, 21, 22] (by decide +kernel) (by decide +kernel)
set_option maxRecDepth 20000 in
theorem gX5_differ_X5_whyCases : GoodIn wsX5_differ (wsV RX5 188 RX5 yX5_whyCases wsX5_whyCases) := goodIn_app (goodIn_of _ (by decide +kernel)) ggX5_differ_X5_whyCases
set_option maxRecDepth 20000 in
theorem ggX5_differ_X5_rows : GoodIn wsX5_differ wsX5_rows := goodIn_r _ [22] (by decide +kernel) (by decide +kernel)
set_option maxRecDepth 20000 in
theorem gX5_differ_X5_rows : GoodIn wsX5_differ (va_wsS RX5 182 yX5_rows wsX5_rows) := goodIn_app (goodIn_of _ (by decide +kernel)) ggX5_differ_X5_rows
set_option maxRecDepth 20000 in
theorem ggX5_differ_X5_layCase : GoodIn wsX5_differ wsX5_layCase := goodIn_r _ [26, 27, 64, 65, 66, 67, 68, 69, 70, 71, 72, 73, 74] (by decide +kernel) (by decide +kernel)
set_option maxRecDepth 20000 in
theorem gX5_differ_X5_layCase : GoodIn wsX5_differ (wsV RX5 192 RX5 yX5_layCase wsX5_layCase) := goodIn_app (goodIn_of _ (by decide +kernel)) ggX5_differ_X5_layCase
set_option maxRecDepth 20000 in
theorem ggX5_differ_X5_isSame : GoodIn wsX5_differ wsX5_isSame := goodIn_r _ [31, 32, 27, 33, 34, 35, 36, 37, 38, 39, 40, 41, 5, 42, 43, 44, 45, 46, 47, 48, 49, 50, 51, 52, 53, 54, 55, 56, 57, 58, 59, 60, 61, 62, 63, 64, 65, 66, 67, 68, 69, 70, 71, 72, 73, 74] (by decide +kernel) (by decide +kernel)
set_option maxRecDepth 20000 in
theorem gX5_differ_X5_isSame : GoodIn wsX5_differ (wsV RX5 195 RX5 yX5_isSame wsX5_isSame) := goodIn_app (goodIn_of _ (by decide +kernel)) ggX5_differ_X5_isSame
theorem dX5_differ_0 : decode cX5_differ 0 = .ok (.aload_n 0, 1) := by decide +kernel
theorem dX5_differ_1 : decode cX5_differ 1 = .ok (.aload_n 0, 1) := by decide +kernel
theorem dX5_differ_2 : decode cX5_differ 2 = .ok (.aload_n 0, 1) := by decide +kernel
theorem dX5_differ_3 : decode cX5_differ 3 = .ok (.iload_n 1, 1) := by decide +kernel
theorem dX5_differ_4 : decode cX5_differ 4 = .ok (.invokevirtual 53, 3) := by decide +kernel
theorem dX5_differ_7 : decode cX5_differ 7 = .ok (.ifCond .eq 15, 3) := by decide +kernel
theorem dX5_differ_10 : decode cX5_differ 10 = .ok (.aload_n 0, 1) := by decide +kernel
theorem dX5_differ_11 : decode cX5_differ 11 = .ok (.iload_n 2, 1) := by decide +kernel
theorem dX5_differ_12 : decode cX5_differ 12 = .ok (.invokevirtual 53, 3) := by decide +kernel
theorem dX5_differ_15 : decode cX5_differ 15 = .ok (.ifCond .eq 7, 3) := by decide +kernel
theorem dX5_differ_18 : decode cX5_differ 18 = .ok (.iconst 1, 1) := by decide +kernel
theorem dX5_differ_19 : decode cX5_differ 19 = .ok (.goto 4, 3) := by decide +kernel
theorem dX5_differ_22 : decode cX5_differ 22 = .ok (.iconst 0, 1) := by decide +kernel
theorem dX5_differ_23 : decode cX5_differ 23 = .ok (.iload_n 3, 1) := by decide +kernel
theorem dX5_differ_24 : decode cX5_differ 24 = .ok (.iload 4, 2) := by decide +kernel
theorem dX5_differ_26 : decode cX5_differ 26 = .ok (.invokevirtual 188, 3) := by decide +kernel
theorem dX5_differ_29 : decode cX5_differ 29 = .ok (.putfield 34, 3) := by decide +kernel
theorem dX5_differ_32 : decode cX5_differ 32 = .ok (.aload_n 0, 1) := by decide +kernel
theorem dX5_differ_33 : decode cX5_differ 33 = .ok (.getfield 34, 3) := by decide +kernel
theorem dX5_differ_36 : decode cX5_differ 36 = .ok (.ifCond .eq 5, 3) := by decide +kernel
theorem dX5_differ_39 : decode cX5_differ 39 = .ok (.iconst 0, 1) := by decide +kernel
theorem dX5_differ_40 : decode cX5_differ 40 = .ok (.ireturn, 1) := by decide +kernel
theorem dX5_differ_41 : decode cX5_differ 41 = .ok (.iconst 0, 1) := by decide +kernel
theorem dX5_differ_42 : decode cX5_differ 42 = .ok (.istore 5, 2) := by decide +kernel
theorem dX5_differ_44 : decode cX5_differ 44 = .ok (.iconst 0, 1) := by decide +kernel
theorem dX5_differ_45 : decode cX5_differ 45 = .ok (.istore 6, 2) := by decide +kernel
