set_option maxRecDepth 20000 in
theorem ggX3_doSteps_X3_doDeed : GoodIn wsX3_doSteps wsX3_doDeed := goodIn_r _ [37, 38, 39, 40, 24, 41, 33, 29, 30, 31, 32, 42, 43, 44] (by decide +kernel) (by decide +kernel)
set_option maxRecDepth 20000 in
theorem gX3_doSteps_X3_doDeed : GoodIn wsX3_doSteps (wsV RX3 56 RX3 yX3_doDeed wsX3_doDeed) := goodIn_app (goodIn_of _ (by decide +kernel)) ggX3_doSteps_X3_doDeed
theorem dX3_doSteps_0 : decode cX3_doSteps 0 = .ok (.aload_n 1, 1) := by decide +kernel
theorem dX3_doSteps_1 : decode cX3_doSteps 1 = .ok (.iload_n 2, 1) := by decide +kernel
theorem dX3_doSteps_2 : decode cX3_doSteps 2 = .ok (.invokevirtual 44, 3) := by decide +kernel
theorem dX3_doSteps_5 : decode cX3_doSteps 5 = .ok (.istore 6, 2) := by decide +kernel
theorem dX3_doSteps_7 : decode cX3_doSteps 7 = .ok (.iconst 0, 1) := by decide +kernel
theorem dX3_doSteps_8 : decode cX3_doSteps 8 = .ok (.istore 7, 2) := by decide +kernel
theorem dX3_doSteps_10 : decode cX3_doSteps 10 = .ok (.iload 7, 2) := by decide +kernel
theorem dX3_doSteps_12 : decode cX3_doSteps 12 = .ok (.iload 6, 2) := by decide +kernel
theorem dX3_doSteps_14 : decode cX3_doSteps 14 = .ok (.if_icmp .ge 97, 3) := by decide +kernel
theorem dX3_doSteps_17 : decode cX3_doSteps 17 = .ok (.aload_n 0, 1) := by decide +kernel
theorem dX3_doSteps_18 : decode cX3_doSteps 18 = .ok (.dup, 1) := by decide +kernel
theorem dX3_doSteps_19 : decode cX3_doSteps 19 = .ok (.getfield 15, 3) := by decide +kernel
theorem dX3_doSteps_22 : decode cX3_doSteps 22 = .ok (.iconst 1, 1) := by decide +kernel
theorem dX3_doSteps_23 : decode cX3_doSteps 23 = .ok (.iadd, 1) := by decide +kernel
theorem dX3_doSteps_24 : decode cX3_doSteps 24 = .ok (.putfield 15, 3) := by decide +kernel
theorem dX3_doSteps_27 : decode cX3_doSteps 27 = .ok (.aload_n 0, 1) := by decide +kernel
theorem dX3_doSteps_28 : decode cX3_doSteps 28 = .ok (.aload_n 1, 1) := by decide +kernel
theorem dX3_doSteps_29 : decode cX3_doSteps 29 = .ok (.iload_n 2, 1) := by decide +kernel
theorem dX3_doSteps_30 : decode cX3_doSteps 30 = .ok (.iload 7, 2) := by decide +kernel
theorem dX3_doSteps_32 : decode cX3_doSteps 32 = .ok (.iconst 0, 1) := by decide +kernel
theorem dX3_doSteps_33 : decode cX3_doSteps 33 = .ok (.invokevirtual 48, 3) := by decide +kernel
theorem dX3_doSteps_36 : decode cX3_doSteps 36 = .ok (.aload_n 1, 1) := by decide +kernel
theorem dX3_doSteps_37 : decode cX3_doSteps 37 = .ok (.iload_n 2, 1) := by decide +kernel
theorem dX3_doSteps_38 : decode cX3_doSteps 38 = .ok (.iload 7, 2) := by decide +kernel
theorem dX3_doSteps_40 : decode cX3_doSteps 40 = .ok (.iconst 1, 1) := by decide +kernel
theorem dX3_doSteps_41 : decode cX3_doSteps 41 = .ok (.invokevirtual 48, 3) := by decide +kernel
theorem dX3_doSteps_44 : decode cX3_doSteps 44 = .ok (.lload 4, 2) := by decide +kernel
theorem dX3_doSteps_46 : decode cX3_doSteps 46 = .ok (.invokevirtual 52, 3) := by decide +kernel
theorem dX3_doSteps_49 : decode cX3_doSteps 49 = .ok (.ifCond .eq 56, 3) := by decide +kernel
theorem dX3_doSteps_52 : decode cX3_doSteps 52 = .ok (.aload_n 1, 1) := by decide +kernel
theorem dX3_doSteps_53 : decode cX3_doSteps 53 = .ok (.iload_n 2, 1) := by decide +kernel
theorem dX3_doSteps_54 : decode cX3_doSteps 54 = .ok (.iload 7, 2) := by decide +kernel
theorem dX3_doSteps_56 : decode cX3_doSteps 56 = .ok (.iconst 2, 1) := by decide +kernel
theorem dX3_doSteps_57 : decode cX3_doSteps 57 = .ok (.invokevirtual 48, 3) := by decide +kernel
theorem dX3_doSteps_60 : decode cX3_doSteps 60 = .ok (.istore 8, 2) := by decide +kernel
theorem dX3_doSteps_62 : decode cX3_doSteps 62 = .ok (.aload_n 1, 1) := by decide +kernel
theorem dX3_doSteps_63 : decode cX3_doSteps 63 = .ok (.iload_n 2, 1) := by decide +kernel
theorem dX3_doSteps_64 : decode cX3_doSteps 64 = .ok (.iload 7, 2) := by decide +kernel
theorem dX3_doSteps_66 : decode cX3_doSteps 66 = .ok (.iconst 3, 1) := by decide +kernel
theorem dX3_doSteps_67 : decode cX3_doSteps 67 = .ok (.invokevirtual 48, 3) := by decide +kernel
theorem dX3_doSteps_70 : decode cX3_doSteps 70 = .ok (.istore 9, 2) := by decide +kernel
theorem dX3_doSteps_72 : decode cX3_doSteps 72 = .ok (.iload 8, 2) := by decide +kernel
theorem dX3_doSteps_74 : decode cX3_doSteps 74 = .ok (.iconst 4, 1) := by decide +kernel
theorem dX3_doSteps_75 : decode cX3_doSteps 75 = .ok (.if_icmp .ne 5, 3) := by decide +kernel
theorem dX3_doSteps_78 : decode cX3_doSteps 78 = .ok (.iconst 0, 1) := by decide +kernel
theorem dX3_doSteps_79 : decode cX3_doSteps 79 = .ok (.ireturn, 1) := by decide +kernel
theorem dX3_doSteps_80 : decode cX3_doSteps 80 = .ok (.iload 8, 2) := by decide +kernel
theorem dX3_doSteps_82 : decode cX3_doSteps 82 = .ok (.iconst 5, 1) := by decide +kernel
theorem dX3_doSteps_83 : decode cX3_doSteps 83 = .ok (.if_icmp .ne 11, 3) := by decide +kernel
theorem dX3_doSteps_86 : decode cX3_doSteps 86 = .ok (.aload_n 0, 1) := by decide +kernel
theorem dX3_doSteps_87 : decode cX3_doSteps 87 = .ok (.iload 9, 2) := by decide +kernel
theorem dX3_doSteps_89 : decode cX3_doSteps 89 = .ok (.putfield 19, 3) := by decide +kernel
theorem dX3_doSteps_92 : decode cX3_doSteps 92 = .ok (.iconst 0, 1) := by decide +kernel
theorem dX3_doSteps_93 : decode cX3_doSteps 93 = .ok (.ireturn, 1) := by decide +kernel
theorem dX3_doSteps_94 : decode cX3_doSteps 94 = .ok (.aload_n 0, 1) := by decide +kernel
theorem dX3_doSteps_95 : decode cX3_doSteps 95 = .ok (.iload 8, 2) := by decide +kernel
theorem dX3_doSteps_97 : decode cX3_doSteps 97 = .ok (.iload 9, 2) := by decide +kernel
theorem dX3_doSteps_99 : decode cX3_doSteps 99 = .ok (.iload_n 3, 1) := by decide +kernel
theorem dX3_doSteps_100 : decode cX3_doSteps 100 = .ok (.lload 4, 2) := by decide +kernel
theorem dX3_doSteps_102 : decode cX3_doSteps 102 = .ok (.invokevirtual 56, 3) := by decide +kernel
theorem dX3_doSteps_105 : decode cX3_doSteps 105 = .ok (.iinc 7 1, 3) := by decide +kernel
theorem dX3_doSteps_108 : decode cX3_doSteps 108 = .ok (.goto (-98), 3) := by decide +kernel
theorem dX3_doSteps_111 : decode cX3_doSteps 111 = .ok (.iconst 1, 1) := by decide +kernel
theorem dX3_doSteps_112 : decode cX3_doSteps 112 = .ok (.ireturn, 1) := by decide +kernel
set_option maxRecDepth 20000 in
theorem ggX3_holds_X4_isVariable : GoodIn wsX3_holds wsX4_isVariable := goodIn_r _ [3] (by decide +kernel) (by decide +kernel)
set_option maxRecDepth 20000 in
theorem gX3_holds_X4_isVariable_n60 : GoodIn wsX3_holds (wsX4_isVariable) := ggX3_holds_X4_isVariable
set_option maxRecDepth 20000 in
theorem ggX3_holds_X3_variable : GoodIn wsX3_holds wsX3_variable := goodIn_r _ [8, 9, 10, 11, 12] (by decide +kernel) (by decide +kernel)
set_option maxRecDepth 20000 in
theorem gX3_holds_X3_variable : GoodIn wsX3_holds (wsV RX3 22 RX3 yX3_variable wsX3_variable) := goodIn_app (goodIn_of _ (by decide +kernel)) ggX3_holds_X3_variable
theorem dX3_holds_0 : decode cX3_holds 0 = .ok (.iload_n 2, 1) := by decide +kernel
theorem dX3_holds_1 : decode cX3_holds 1 = .ok (.invokestatic 60, 3) := by decide +kernel
theorem dX3_holds_4 : decode cX3_holds 4 = .ok (.ifCond .eq 15, 3) := by decide +kernel
theorem dX3_holds_7 : decode cX3_holds 7 = .ok (.aload_n 0, 1) := by decide +kernel
theorem dX3_holds_8 : decode cX3_holds 8 = .ok (.iload_n 2, 1) := by decide +kernel
theorem dX3_holds_9 : decode cX3_holds 9 = .ok (.sipush 1000, 3) := by decide +kernel
theorem dX3_holds_12 : decode cX3_holds 12 = .ok (.isub, 1) := by decide +kernel
theorem dX3_holds_13 : decode cX3_holds 13 = .ok (.invokevirtual 22, 3) := by decide +kernel
theorem dX3_holds_16 : decode cX3_holds 16 = .ok (.goto 5, 3) := by decide +kernel
theorem dX3_holds_19 : decode cX3_holds 19 = .ok (.iload_n 2, 1) := by decide +kernel
theorem dX3_holds_20 : decode cX3_holds 20 = .ok (.i2l, 1) := by decide +kernel
theorem dX3_holds_21 : decode cX3_holds 21 = .ok (.lstore 5, 2) := by decide +kernel
theorem dX3_holds_23 : decode cX3_holds 23 = .ok (.iload_n 1, 1) := by decide +kernel
theorem dX3_holds_24 : decode cX3_holds 24 = .ok (.tableswitch 73 0 3 #[32, 34, 47, 60], 32) := by decide +kernel
theorem dX3_holds_56 : decode cX3_holds 56 = .ok (.iconst 1, 1) := by decide +kernel
theorem dX3_holds_57 : decode cX3_holds 57 = .ok (.ireturn, 1) := by decide +kernel
theorem dX3_holds_58 : decode cX3_holds 58 = .ok (.lload_n 3, 1) := by decide +kernel
theorem dX3_holds_59 : decode cX3_holds 59 = .ok (.lload 5, 2) := by decide +kernel
theorem dX3_holds_61 : decode cX3_holds 61 = .ok (.lcmp, 1) := by decide +kernel
theorem dX3_holds_62 : decode cX3_holds 62 = .ok (.ifCond .ne 7, 3) := by decide +kernel
theorem dX3_holds_65 : decode cX3_holds 65 = .ok (.iconst 1, 1) := by decide +kernel
theorem dX3_holds_66 : decode cX3_holds 66 = .ok (.goto 4, 3) := by decide +kernel
theorem dX3_holds_69 : decode cX3_holds 69 = .ok (.iconst 0, 1) := by decide +kernel
theorem dX3_holds_70 : decode cX3_holds 70 = .ok (.ireturn, 1) := by decide +kernel
theorem dX3_holds_71 : decode cX3_holds 71 = .ok (.lload_n 3, 1) := by decide +kernel
theorem dX3_holds_72 : decode cX3_holds 72 = .ok (.lload 5, 2) := by decide +kernel
theorem dX3_holds_74 : decode cX3_holds 74 = .ok (.lcmp, 1) := by decide +kernel
theorem dX3_holds_75 : decode cX3_holds 75 = .ok (.ifCond .eq 7, 3) := by decide +kernel
theorem dX3_holds_78 : decode cX3_holds 78 = .ok (.iconst 1, 1) := by decide +kernel
theorem dX3_holds_79 : decode cX3_holds 79 = .ok (.goto 4, 3) := by decide +kernel
theorem dX3_holds_82 : decode cX3_holds 82 = .ok (.iconst 0, 1) := by decide +kernel
theorem dX3_holds_83 : decode cX3_holds 83 = .ok (.ireturn, 1) := by decide +kernel
theorem dX3_holds_84 : decode cX3_holds 84 = .ok (.lload_n 3, 1) := by decide +kernel
theorem dX3_holds_85 : decode cX3_holds 85 = .ok (.lload 5, 2) := by decide +kernel
theorem dX3_holds_87 : decode cX3_holds 87 = .ok (.lcmp, 1) := by decide +kernel
theorem dX3_holds_88 : decode cX3_holds 88 = .ok (.ifCond .ge 7, 3) := by decide +kernel
theorem dX3_holds_91 : decode cX3_holds 91 = .ok (.iconst 1, 1) := by decide +kernel
theorem dX3_holds_92 : decode cX3_holds 92 = .ok (.goto 4, 3) := by decide +kernel
theorem dX3_holds_95 : decode cX3_holds 95 = .ok (.iconst 0, 1) := by decide +kernel
theorem dX3_holds_96 : decode cX3_holds 96 = .ok (.ireturn, 1) := by decide +kernel
theorem dX3_holds_97 : decode cX3_holds 97 = .ok (.lload_n 3, 1) := by decide +kernel
theorem dX3_holds_98 : decode cX3_holds 98 = .ok (.lload 5, 2) := by decide +kernel
theorem dX3_holds_100 : decode cX3_holds 100 = .ok (.lcmp, 1) := by decide +kernel
theorem dX3_holds_101 : decode cX3_holds 101 = .ok (.ifCond .le 7, 3) := by decide +kernel
theorem dX3_holds_104 : decode cX3_holds 104 = .ok (.iconst 1, 1) := by decide +kernel
theorem dX3_holds_105 : decode cX3_holds 105 = .ok (.goto 4, 3) := by decide +kernel
theorem dX3_holds_108 : decode cX3_holds 108 = .ok (.iconst 0, 1) := by decide +kernel
theorem dX3_holds_109 : decode cX3_holds 109 = .ok (.ireturn, 1) := by decide +kernel
set_option maxRecDepth 20000 in
theorem ggX3_doDeed_X3_setVariable : GoodIn wsX3_doDeed wsX3_setVariable := goodIn_r _ [5, 6, 11, 12, 13] (by decide +kernel) (by decide +kernel)
set_option maxRecDepth 20000 in
theorem gX3_doDeed_X3_setVariable : GoodIn wsX3_doDeed (wsV RX3 64 RX3 yX3_setVariable wsX3_setVariable) := goodIn_app (goodIn_of _ (by decide +kernel)) ggX3_doDeed_X3_setVariable
set_option maxRecDepth 20000 in
theorem ggX3_doDeed_X3_variable : GoodIn wsX3_doDeed wsX3_variable := goodIn_r _ [10, 6, 11, 12, 13] (by decide +kernel) (by decide +kernel)
set_option maxRecDepth 20000 in
theorem gX3_doDeed_X3_variable : GoodIn wsX3_doDeed (wsV RX3 22 RX3 yX3_variable wsX3_variable) := goodIn_app (goodIn_of _ (by decide +kernel)) ggX3_doDeed_X3_variable
theorem dX3_doDeed_0 : decode cX3_doDeed 0 = .ok (.iload_n 1, 1) := by decide +kernel
theorem dX3_doDeed_1 : decode cX3_doDeed 1 = .ok (.tableswitch 62 0 2 #[27, 37, 47], 27) := by decide +kernel
theorem dX3_doDeed_28 : decode cX3_doDeed 28 = .ok (.aload_n 0, 1) := by decide +kernel
theorem dX3_doDeed_29 : decode cX3_doDeed 29 = .ok (.iload_n 2, 1) := by decide +kernel
theorem dX3_doDeed_30 : decode cX3_doDeed 30 = .ok (.lload 4, 2) := by decide +kernel
theorem dX3_doDeed_32 : decode cX3_doDeed 32 = .ok (.invokevirtual 64, 3) := by decide +kernel
theorem dX3_doDeed_35 : decode cX3_doDeed 35 = .ok (.goto 41, 3) := by decide +kernel
theorem dX3_doDeed_38 : decode cX3_doDeed 38 = .ok (.aload_n 0, 1) := by decide +kernel
theorem dX3_doDeed_39 : decode cX3_doDeed 39 = .ok (.iload_n 2, 1) := by decide +kernel
theorem dX3_doDeed_40 : decode cX3_doDeed 40 = .ok (.iload_n 3, 1) := by decide +kernel
theorem dX3_doDeed_41 : decode cX3_doDeed 41 = .ok (.i2l, 1) := by decide +kernel
theorem dX3_doDeed_42 : decode cX3_doDeed 42 = .ok (.invokevirtual 64, 3) := by decide +kernel
theorem dX3_doDeed_45 : decode cX3_doDeed 45 = .ok (.goto 31, 3) := by decide +kernel
theorem dX3_doDeed_48 : decode cX3_doDeed 48 = .ok (.aload_n 0, 1) := by decide +kernel
theorem dX3_doDeed_49 : decode cX3_doDeed 49 = .ok (.iload_n 2, 1) := by decide +kernel
theorem dX3_doDeed_50 : decode cX3_doDeed 50 = .ok (.aload_n 0, 1) := by decide +kernel
theorem dX3_doDeed_51 : decode cX3_doDeed 51 = .ok (.iload_n 2, 1) := by decide +kernel
theorem dX3_doDeed_52 : decode cX3_doDeed 52 = .ok (.invokevirtual 22, 3) := by decide +kernel
theorem dX3_doDeed_55 : decode cX3_doDeed 55 = .ok (.lconst 1, 1) := by decide +kernel
theorem dX3_doDeed_56 : decode cX3_doDeed 56 = .ok (.ladd, 1) := by decide +kernel
theorem dX3_doDeed_57 : decode cX3_doDeed 57 = .ok (.invokevirtual 64, 3) := by decide +kernel
theorem dX3_doDeed_60 : decode cX3_doDeed 60 = .ok (.goto 16, 3) := by decide +kernel
theorem dX3_doDeed_63 : decode cX3_doDeed 63 = .ok (.aload_n 0, 1) := by decide +kernel
theorem dX3_doDeed_64 : decode cX3_doDeed 64 = .ok (.iload_n 2, 1) := by decide +kernel
theorem dX3_doDeed_65 : decode cX3_doDeed 65 = .ok (.aload_n 0, 1) := by decide +kernel
theorem dX3_doDeed_66 : decode cX3_doDeed 66 = .ok (.iload_n 2, 1) := by decide +kernel
theorem dX3_doDeed_67 : decode cX3_doDeed 67 = .ok (.invokevirtual 22, 3) := by decide +kernel
theorem dX3_doDeed_70 : decode cX3_doDeed 70 = .ok (.lload 4, 2) := by decide +kernel
theorem dX3_doDeed_72 : decode cX3_doDeed 72 = .ok (.ladd, 1) := by decide +kernel
theorem dX3_doDeed_73 : decode cX3_doDeed 73 = .ok (.invokevirtual 64, 3) := by decide +kernel
theorem dX3_doDeed_76 : decode cX3_doDeed 76 = .ok (.return_, 1) := by decide +kernel
theorem dX3_variable_0 : decode cX3_variable 0 = .ok (.iload_n 1, 1) := by decide +kernel
theorem dX3_variable_1 : decode cX3_variable 1 = .ok (.ifCond .lt 21, 3) := by decide +kernel
theorem dX3_variable_4 : decode cX3_variable 4 = .ok (.iload_n 1, 1) := by decide +kernel
theorem dX3_variable_5 : decode cX3_variable 5 = .ok (.aload_n 0, 1) := by decide +kernel
theorem dX3_variable_6 : decode cX3_variable 6 = .ok (.getfield 9, 3) := by decide +kernel
theorem dX3_variable_9 : decode cX3_variable 9 = .ok (.arraylength, 1) := by decide +kernel
theorem dX3_variable_10 : decode cX3_variable 10 = .ok (.if_icmp .ge 12, 3) := by decide +kernel
theorem dX3_variable_13 : decode cX3_variable 13 = .ok (.aload_n 0, 1) := by decide +kernel
theorem dX3_variable_14 : decode cX3_variable 14 = .ok (.getfield 9, 3) := by decide +kernel
theorem dX3_variable_17 : decode cX3_variable 17 = .ok (.iload_n 1, 1) := by decide +kernel
theorem dX3_variable_18 : decode cX3_variable 18 = .ok (.laload, 1) := by decide +kernel
theorem dX3_variable_19 : decode cX3_variable 19 = .ok (.goto 4, 3) := by decide +kernel
theorem dX3_variable_22 : decode cX3_variable 22 = .ok (.lconst 0, 1) := by decide +kernel
theorem dX3_variable_23 : decode cX3_variable 23 = .ok (.lreturn, 1) := by decide +kernel
theorem dX3_setVariable_0 : decode cX3_setVariable 0 = .ok (.iload_n 1, 1) := by decide +kernel
theorem dX3_setVariable_1 : decode cX3_setVariable 1 = .ok (.ifCond .lt 19, 3) := by decide +kernel
theorem dX3_setVariable_4 : decode cX3_setVariable 4 = .ok (.iload_n 1, 1) := by decide +kernel
theorem dX3_setVariable_5 : decode cX3_setVariable 5 = .ok (.aload_n 0, 1) := by decide +kernel
theorem dX3_setVariable_6 : decode cX3_setVariable 6 = .ok (.getfield 9, 3) := by decide +kernel
theorem dX3_setVariable_9 : decode cX3_setVariable 9 = .ok (.arraylength, 1) := by decide +kernel
theorem dX3_setVariable_10 : decode cX3_setVariable 10 = .ok (.if_icmp .ge 10, 3) := by decide +kernel
theorem dX3_setVariable_13 : decode cX3_setVariable 13 = .ok (.aload_n 0, 1) := by decide +kernel
theorem dX3_setVariable_14 : decode cX3_setVariable 14 = .ok (.getfield 9, 3) := by decide +kernel
theorem dX3_setVariable_17 : decode cX3_setVariable 17 = .ok (.iload_n 1, 1) := by decide +kernel
theorem dX3_setVariable_18 : decode cX3_setVariable 18 = .ok (.lload_n 2, 1) := by decide +kernel
theorem dX3_setVariable_19 : decode cX3_setVariable 19 = .ok (.lastore, 1) := by decide +kernel
theorem dX3_setVariable_20 : decode cX3_setVariable 20 = .ok (.return_, 1) := by decide +kernel
set_option maxRecDepth 20000 in
theorem ggX4_init_X3_init : GoodIn wsX4_init wsX3_init := goodIn_r _ [21, 22, 2, 3, 7, 23, 24, 25, 40, 41, 42] (by decide +kernel) (by decide +kernel)
set_option maxRecDepth 20000 in
theorem gX4_init_X3_init_n28 : GoodIn wsX4_init (wsX3_init) := ggX4_init_X3_init
set_option maxRecDepth 20000 in
theorem ggX4_init_X0_init : GoodIn wsX4_init wsX0_init := goodIn_r _ [27, 28, 2, 3, 7, 29, 30, 31, 43, 44, 45] (by decide +kernel) (by decide +kernel)
set_option maxRecDepth 20000 in
theorem gX4_init_X0_init_n41 : GoodIn wsX4_init (wsX0_init) := ggX4_init_X0_init
theorem dX4_init_0 : decode cX4_init 0 = .ok (.aload_n 0, 1) := by decide +kernel
theorem dX4_init_1 : decode cX4_init 1 = .ok (.invokespecial 1, 3) := by decide +kernel
theorem dX4_init_4 : decode cX4_init 4 = .ok (.aload_n 0, 1) := by decide +kernel
theorem dX4_init_5 : decode cX4_init 5 = .ok (.bipush 10, 2) := by decide +kernel
theorem dX4_init_7 : decode cX4_init 7 = .ok (.anewarray 9, 3) := by decide +kernel
theorem dX4_init_10 : decode cX4_init 10 = .ok (.putfield 11, 3) := by decide +kernel
theorem dX4_init_13 : decode cX4_init 13 = .ok (.aload_n 0, 1) := by decide +kernel
theorem dX4_init_14 : decode cX4_init 14 = .ok (.iconst 0, 1) := by decide +kernel
theorem dX4_init_15 : decode cX4_init 15 = .ok (.putfield 15, 3) := by decide +kernel
theorem dX4_init_18 : decode cX4_init 18 = .ok (.aload_n 0, 1) := by decide +kernel
theorem dX4_init_19 : decode cX4_init 19 = .ok (.bipush 40, 2) := by decide +kernel
theorem dX4_init_21 : decode cX4_init 21 = .ok (.newarray .long, 2) := by decide +kernel
theorem dX4_init_23 : decode cX4_init 23 = .ok (.putfield 19, 3) := by decide +kernel
theorem dX4_init_26 : decode cX4_init 26 = .ok (.aload_n 0, 1) := by decide +kernel
theorem dX4_init_27 : decode cX4_init 27 = .ok (.iconst 0, 1) := by decide +kernel
theorem dX4_init_28 : decode cX4_init 28 = .ok (.putfield 23, 3) := by decide +kernel
theorem dX4_init_31 : decode cX4_init 31 = .ok (.aload_n 0, 1) := by decide +kernel
theorem dX4_init_32 : decode cX4_init 32 = .ok (.new 26, 3) := by decide +kernel
theorem dX4_init_35 : decode cX4_init 35 = .ok (.dup, 1) := by decide +kernel
theorem dX4_init_36 : decode cX4_init 36 = .ok (.invokespecial 28, 3) := by decide +kernel
theorem dX4_init_39 : decode cX4_init 39 = .ok (.putfield 29, 3) := by decide +kernel
theorem dX4_init_42 : decode cX4_init 42 = .ok (.aload_n 0, 1) := by decide +kernel
theorem dX4_init_43 : decode cX4_init 43 = .ok (.new 26, 3) := by decide +kernel
theorem dX4_init_46 : decode cX4_init 46 = .ok (.dup, 1) := by decide +kernel
theorem dX4_init_47 : decode cX4_init 47 = .ok (.invokespecial 28, 3) := by decide +kernel
theorem dX4_init_50 : decode cX4_init 50 = .ok (.putfield 33, 3) := by decide +kernel
theorem dX4_init_53 : decode cX4_init 53 = .ok (.aload_n 0, 1) := by decide +kernel
theorem dX4_init_54 : decode cX4_init 54 = .ok (.new 26, 3) := by decide +kernel
theorem dX4_init_57 : decode cX4_init 57 = .ok (.dup, 1) := by decide +kernel
theorem dX4_init_58 : decode cX4_init 58 = .ok (.invokespecial 28, 3) := by decide +kernel
theorem dX4_init_61 : decode cX4_init 61 = .ok (.putfield 36, 3) := by decide +kernel
theorem dX4_init_64 : decode cX4_init 64 = .ok (.aload_n 0, 1) := by decide +kernel
theorem dX4_init_65 : decode cX4_init 65 = .ok (.new 39, 3) := by decide +kernel
theorem dX4_init_68 : decode cX4_init 68 = .ok (.dup, 1) := by decide +kernel
theorem dX4_init_69 : decode cX4_init 69 = .ok (.invokespecial 41, 3) := by decide +kernel
theorem dX4_init_72 : decode cX4_init 72 = .ok (.putfield 42, 3) := by decide +kernel
theorem dX4_init_75 : decode cX4_init 75 = .ok (.return_, 1) := by decide +kernel
set_option maxRecDepth 20000 in
theorem ggX4_addProgram_X4_refuseEleventhProgram : GoodIn wsX4_addProgram wsX4_refuseEleventhProgram := goodIn_ca (goodIn_r _ [8, 9, 10, 11, 27, 28, 29, 30, 31, 32, 33, 34] (by decide +kernel) (by decide +kernel)) (goodIn_sub (fun _ h => List.mem_cons_of_mem _ (List.mem_append_right _ h)) (by decide +kernel))
set_option maxRecDepth 20000 in
theorem gX4_addProgram_X4_refuseEleventhProgram : GoodIn wsX4_addProgram (wsV RX4 46 RX4 yX4_refuseEleventhProgram wsX4_refuseEleventhProgram) := goodIn_app (goodIn_of _ (by decide +kernel)) ggX4_addProgram_X4_refuseEleventhProgram
set_option maxRecDepth 20000 in
theorem ggX4_addProgram_X1_init : GoodIn wsX4_addProgram wsX1_init := goodIn_r _ [13, 14, 15, 16, 17, 18, 19, 25, 26] (by decide +kernel) (by decide +kernel)
set_option maxRecDepth 20000 in
theorem gX4_addProgram_X1_init_n49 : GoodIn wsX4_addProgram (wsX1_init) := ggX4_addProgram_X1_init
set_option maxRecDepth 20000 in
theorem ggX4_addProgram_X4_keepProgram : GoodIn wsX4_addProgram wsX4_keepProgram := goodIn_r _ [23, 11, 24, 27, 28, 29, 30, 31, 32, 33, 34] (by decide +kernel) (by decide +kernel)
set_option maxRecDepth 20000 in
theorem gX4_addProgram_X4_keepProgram : GoodIn wsX4_addProgram (wsV RX4 50 RX4 yX4_keepProgram wsX4_keepProgram) := goodIn_app (goodIn_of _ (by decide +kernel)) ggX4_addProgram_X4_keepProgram
theorem dX4_addProgram_0 : decode cX4_addProgram 0 = .ok (.aload_n 0, 1) := by decide +kernel
theorem dX4_addProgram_1 : decode cX4_addProgram 1 = .ok (.invokevirtual 46, 3) := by decide +kernel
theorem dX4_addProgram_4 : decode cX4_addProgram 4 = .ok (.aload_n 0, 1) := by decide +kernel
theorem dX4_addProgram_5 : decode cX4_addProgram 5 = .ok (.new 9, 3) := by decide +kernel
theorem dX4_addProgram_8 : decode cX4_addProgram 8 = .ok (.dup, 1) := by decide +kernel
theorem dX4_addProgram_9 : decode cX4_addProgram 9 = .ok (.invokespecial 49, 3) := by decide +kernel
theorem dX4_addProgram_12 : decode cX4_addProgram 12 = .ok (.invokevirtual 50, 3) := by decide +kernel
theorem dX4_addProgram_15 : decode cX4_addProgram 15 = .ok (.ireturn, 1) := by decide +kernel
set_option maxRecDepth 20000 in
theorem ggX4_addLoop_X4_programAt : GoodIn wsX4_addLoop wsX4_programAt := goodIn_ca (goodIn_r _ [9, 10, 11, 12, 35, 36, 37, 38, 39, 40, 41, 42] (by decide +kernel) (by decide +kernel)) (goodIn_sub (fun _ h => List.mem_cons_of_mem _ (List.mem_append_right _ h)) (by decide +kernel))
set_option maxRecDepth 20000 in
theorem gX4_addLoop_X4_programAt : GoodIn wsX4_addLoop (wsV RX4 54 RX4 yX4_programAt wsX4_programAt) := goodIn_app (goodIn_of _ (by decide +kernel)) ggX4_addLoop_X4_programAt
set_option maxRecDepth 20000 in
theorem ggX4_addLoop_X4_isBetween : GoodIn wsX4_addLoop wsX4_isBetween := goodIn_r _ [15] (by decide +kernel) (by decide +kernel)
set_option maxRecDepth 20000 in
theorem gX4_addLoop_X4_isBetween : GoodIn wsX4_addLoop (va_wsS RX4 58 yX4_isBetween wsX4_isBetween) := goodIn_app (goodIn_of _ (by decide +kernel)) ggX4_addLoop_X4_isBetween
set_option maxRecDepth 20000 in
theorem ggX4_addLoop_X1_countLoops : GoodIn wsX4_addLoop wsX1_countLoops := goodIn_r _ [20, 21, 43, 44] (by decide +kernel) (by decide +kernel)
set_option maxRecDepth 20000 in
theorem gX4_addLoop_X1_countLoops : GoodIn wsX4_addLoop (wsV RX4 69 RX1 yX1_countLoops wsX1_countLoops) := goodIn_app (goodIn_of _ (by decide +kernel)) ggX4_addLoop_X1_countLoops
set_option maxRecDepth 20000 in
theorem ggX4_addLoop_X1_appendLoop : GoodIn wsX4_addLoop wsX1_appendLoop := goodIn_r _ [25, 21, 26, 27, 28, 19, 29, 30, 31, 32, 33, 34, 43, 44] (by decide +kernel) (by decide +kernel)
set_option maxRecDepth 20000 in
theorem gX4_addLoop_X1_appendLoop : GoodIn wsX4_addLoop (wsV RX4 78 RX1 yX1_appendLoop wsX1_appendLoop) := goodIn_app (goodIn_of _ (by decide +kernel)) ggX4_addLoop_X1_appendLoop
theorem dX4_addLoop_0 : decode cX4_addLoop 0 = .ok (.aload_n 0, 1) := by decide +kernel
theorem dX4_addLoop_1 : decode cX4_addLoop 1 = .ok (.iload_n 1, 1) := by decide +kernel
theorem dX4_addLoop_2 : decode cX4_addLoop 2 = .ok (.invokevirtual 54, 3) := by decide +kernel
theorem dX4_addLoop_5 : decode cX4_addLoop 5 = .ok (.astore 5, 2) := by decide +kernel
theorem dX4_addLoop_7 : decode cX4_addLoop 7 = .ok (.iload_n 2, 1) := by decide +kernel
theorem dX4_addLoop_8 : decode cX4_addLoop 8 = .ok (.iconst 0, 1) := by decide +kernel
theorem dX4_addLoop_9 : decode cX4_addLoop 9 = .ok (.iconst 5, 1) := by decide +kernel
theorem dX4_addLoop_10 : decode cX4_addLoop 10 = .ok (.invokestatic 58, 3) := by decide +kernel
theorem dX4_addLoop_13 : decode cX4_addLoop 13 = .ok (.ifCond .eq 12, 3) := by decide +kernel
theorem dX4_addLoop_16 : decode cX4_addLoop 16 = .ok (.iload_n 3, 1) := by decide +kernel
theorem dX4_addLoop_17 : decode cX4_addLoop 17 = .ok (.iconst 0, 1) := by decide +kernel
theorem dX4_addLoop_18 : decode cX4_addLoop 18 = .ok (.iconst 5, 1) := by decide +kernel
theorem dX4_addLoop_19 : decode cX4_addLoop 19 = .ok (.invokestatic 58, 3) := by decide +kernel
theorem dX4_addLoop_22 : decode cX4_addLoop 22 = .ok (.ifCond .ne 13, 3) := by decide +kernel
theorem dX4_addLoop_25 : decode cX4_addLoop 25 = .ok (.new 62, 3) := by decide +kernel
theorem dX4_addLoop_28 : decode cX4_addLoop 28 = .ok (.dup, 1) := by decide +kernel
theorem dX4_addLoop_29 : decode cX4_addLoop 29 = .ok (.ldc 64, 2) := by decide +kernel
theorem dX4_addLoop_31 : decode cX4_addLoop 31 = .ok (.invokespecial 66, 3) := by decide +kernel
theorem dX4_addLoop_34 : decode cX4_addLoop 34 = .ok (.athrow, 1) := by decide +kernel
theorem dX4_addLoop_35 : decode cX4_addLoop 35 = .ok (.aload 5, 2) := by decide +kernel
theorem dX4_addLoop_37 : decode cX4_addLoop 37 = .ok (.invokevirtual 69, 3) := by decide +kernel
theorem dX4_addLoop_40 : decode cX4_addLoop 40 = .ok (.bipush 8, 2) := by decide +kernel
theorem dX4_addLoop_42 : decode cX4_addLoop 42 = .ok (.if_icmp .lt 13, 3) := by decide +kernel
theorem dX4_addLoop_45 : decode cX4_addLoop 45 = .ok (.new 73, 3) := by decide +kernel
theorem dX4_addLoop_48 : decode cX4_addLoop 48 = .ok (.dup, 1) := by decide +kernel
theorem dX4_addLoop_49 : decode cX4_addLoop 49 = .ok (.ldc 75, 2) := by decide +kernel
theorem dX4_addLoop_51 : decode cX4_addLoop 51 = .ok (.invokespecial 77, 3) := by decide +kernel
theorem dX4_addLoop_54 : decode cX4_addLoop 54 = .ok (.athrow, 1) := by decide +kernel
theorem dX4_addLoop_55 : decode cX4_addLoop 55 = .ok (.aload 5, 2) := by decide +kernel
theorem dX4_addLoop_57 : decode cX4_addLoop 57 = .ok (.iload_n 2, 1) := by decide +kernel
theorem dX4_addLoop_58 : decode cX4_addLoop 58 = .ok (.iload_n 3, 1) := by decide +kernel
theorem dX4_addLoop_59 : decode cX4_addLoop 59 = .ok (.iload 4, 2) := by decide +kernel
theorem dX4_addLoop_61 : decode cX4_addLoop 61 = .ok (.invokevirtual 78, 3) := by decide +kernel
theorem dX4_addLoop_64 : decode cX4_addLoop 64 = .ok (.ireturn, 1) := by decide +kernel
set_option maxRecDepth 20000 in
theorem ggX4_addStep_X4_programAt : GoodIn wsX4_addStep wsX4_programAt := goodIn_ca (goodIn_r _ [9, 10, 11, 12, 63, 64, 65, 66, 67, 68, 69, 70] (by decide +kernel) (by decide +kernel)) (goodIn_sub (fun _ h => List.mem_cons_of_mem _ (List.mem_append_right _ h)) (by decide +kernel))
set_option maxRecDepth 20000 in
theorem gX4_addStep_X4_programAt : GoodIn wsX4_addStep (wsV RX4 54 RX4 yX4_programAt wsX4_programAt) := goodIn_app (goodIn_of _ (by decide +kernel)) ggX4_addStep_X4_programAt
set_option maxRecDepth 20000 in
theorem ggX4_addStep_X4_refuseOtherLoops : GoodIn wsX4_addStep wsX4_refuseOtherLoops := goodIn_ca (goodIn_r _ [15, 10, 11, 16, 17, 18, 19, 20, 21, 22, 23, 8, 24, 71, 72] (by decide +kernel) (by decide +kernel)) (goodIn_sub (fun _ h => List.mem_cons_of_mem _ (List.mem_append_right _ h)) (by decide +kernel))
set_option maxRecDepth 20000 in
theorem gX4_addStep_X4_refuseOtherLoops : GoodIn wsX4_addStep (va_wsS RX4 82 yX4_refuseOtherLoops wsX4_refuseOtherLoops) := goodIn_app (goodIn_of _ (by decide +kernel)) ggX4_addStep_X4_refuseOtherLoops
set_option maxRecDepth 20000 in
theorem ggX4_addStep_X4_isLook : GoodIn wsX4_addStep wsX4_isLook := goodIn_r _ [27, 22, 23, 8, 24, 28, 29, 30] (by decide +kernel) (by decide +kernel)
set_option maxRecDepth 20000 in
theorem gX4_addStep_X4_isLook : GoodIn wsX4_addStep (va_wsS RX4 86 yX4_isLook wsX4_isLook) := goodIn_app (goodIn_of _ (by decide +kernel)) ggX4_addStep_X4_isLook
set_option maxRecDepth 20000 in
theorem ggX4_addStep_X4_isDeed : GoodIn wsX4_addStep wsX4_isDeed := goodIn_r _ [33, 22, 23, 8, 24] (by decide +kernel) (by decide +kernel)
set_option maxRecDepth 20000 in
theorem gX4_addStep_X4_isDeed : GoodIn wsX4_addStep (va_wsS RX4 90 yX4_isDeed wsX4_isDeed) := goodIn_app (goodIn_of _ (by decide +kernel)) ggX4_addStep_X4_isDeed
set_option maxRecDepth 20000 in
theorem ggX4_addStep_X1_countSteps : GoodIn wsX4_addStep wsX1_countSteps := goodIn_r _ [37, 38, 39, 40, 19, 41, 42, 43, 44, 45, 46, 71, 72] (by decide +kernel) (by decide +kernel)
set_option maxRecDepth 20000 in
theorem gX4_addStep_X1_countSteps : GoodIn wsX4_addStep (wsV RX4 95 RX1 yX1_countSteps wsX1_countSteps) := goodIn_app (goodIn_of _ (by decide +kernel)) ggX4_addStep_X1_countSteps
set_option maxRecDepth 20000 in
theorem ggX4_addStep_X1_appendStep : GoodIn wsX4_addStep wsX1_appendStep := goodIn_r _ [50, 51, 35, 36, 19, 37, 38, 39, 40, 41, 42, 43, 44, 45, 46, 52, 53, 54, 55, 56, 57, 58, 59, 60, 61, 62, 71, 72] (by decide +kernel) (by decide +kernel)
set_option maxRecDepth 20000 in
theorem gX4_addStep_X1_appendStep : GoodIn wsX4_addStep (wsV RX4 101 RX1 yX1_appendStep wsX1_appendStep) := goodIn_app (goodIn_of _ (by decide +kernel)) ggX4_addStep_X1_appendStep
theorem dX4_addStep_0 : decode cX4_addStep 0 = .ok (.aload_n 0, 1) := by decide +kernel
theorem dX4_addStep_1 : decode cX4_addStep 1 = .ok (.iload_n 1, 1) := by decide +kernel
theorem dX4_addStep_2 : decode cX4_addStep 2 = .ok (.invokevirtual 54, 3) := by decide +kernel
theorem dX4_addStep_5 : decode cX4_addStep 5 = .ok (.astore 7, 2) := by decide +kernel
theorem dX4_addStep_7 : decode cX4_addStep 7 = .ok (.aload 7, 2) := by decide +kernel
theorem dX4_addStep_9 : decode cX4_addStep 9 = .ok (.iload_n 2, 1) := by decide +kernel
theorem dX4_addStep_10 : decode cX4_addStep 10 = .ok (.invokestatic 82, 3) := by decide +kernel
theorem dX4_addStep_13 : decode cX4_addStep 13 = .ok (.iload_n 3, 1) := by decide +kernel
theorem dX4_addStep_14 : decode cX4_addStep 14 = .ok (.iload 4, 2) := by decide +kernel
theorem dX4_addStep_16 : decode cX4_addStep 16 = .ok (.invokestatic 86, 3) := by decide +kernel
theorem dX4_addStep_19 : decode cX4_addStep 19 = .ok (.ifCond .eq 13, 3) := by decide +kernel
theorem dX4_addStep_22 : decode cX4_addStep 22 = .ok (.iload 5, 2) := by decide +kernel
theorem dX4_addStep_24 : decode cX4_addStep 24 = .ok (.iload 6, 2) := by decide +kernel
theorem dX4_addStep_26 : decode cX4_addStep 26 = .ok (.invokestatic 90, 3) := by decide +kernel
theorem dX4_addStep_29 : decode cX4_addStep 29 = .ok (.ifCond .ne 13, 3) := by decide +kernel
theorem dX4_addStep_32 : decode cX4_addStep 32 = .ok (.new 62, 3) := by decide +kernel
theorem dX4_addStep_35 : decode cX4_addStep 35 = .ok (.dup, 1) := by decide +kernel
theorem dX4_addStep_36 : decode cX4_addStep 36 = .ok (.ldc 93, 2) := by decide +kernel
theorem dX4_addStep_38 : decode cX4_addStep 38 = .ok (.invokespecial 66, 3) := by decide +kernel
theorem dX4_addStep_41 : decode cX4_addStep 41 = .ok (.athrow, 1) := by decide +kernel
theorem dX4_addStep_42 : decode cX4_addStep 42 = .ok (.aload 7, 2) := by decide +kernel
theorem dX4_addStep_44 : decode cX4_addStep 44 = .ok (.iload_n 2, 1) := by decide +kernel
theorem dX4_addStep_45 : decode cX4_addStep 45 = .ok (.invokevirtual 95, 3) := by decide +kernel
theorem dX4_addStep_48 : decode cX4_addStep 48 = .ok (.bipush 6, 2) := by decide +kernel
theorem dX4_addStep_50 : decode cX4_addStep 50 = .ok (.if_icmp .lt 13, 3) := by decide +kernel
theorem dX4_addStep_53 : decode cX4_addStep 53 = .ok (.new 73, 3) := by decide +kernel
theorem dX4_addStep_56 : decode cX4_addStep 56 = .ok (.dup, 1) := by decide +kernel
theorem dX4_addStep_57 : decode cX4_addStep 57 = .ok (.ldc 99, 2) := by decide +kernel
theorem dX4_addStep_59 : decode cX4_addStep 59 = .ok (.invokespecial 77, 3) := by decide +kernel
theorem dX4_addStep_62 : decode cX4_addStep 62 = .ok (.athrow, 1) := by decide +kernel
theorem dX4_addStep_63 : decode cX4_addStep 63 = .ok (.aload 7, 2) := by decide +kernel
theorem dX4_addStep_65 : decode cX4_addStep 65 = .ok (.iload_n 2, 1) := by decide +kernel
theorem dX4_addStep_66 : decode cX4_addStep 66 = .ok (.iload_n 3, 1) := by decide +kernel
theorem dX4_addStep_67 : decode cX4_addStep 67 = .ok (.iload 4, 2) := by decide +kernel
theorem dX4_addStep_69 : decode cX4_addStep 69 = .ok (.iload 5, 2) := by decide +kernel
theorem dX4_addStep_71 : decode cX4_addStep 71 = .ok (.iload 6, 2) := by decide +kernel
theorem dX4_addStep_73 : decode cX4_addStep 73 = .ok (.invokevirtual 101, 3) := by decide +kernel
theorem dX4_addStep_76 : decode cX4_addStep 76 = .ok (.ireturn, 1) := by decide +kernel
set_option maxRecDepth 20000 in
theorem ggX4_loop_X4_programAt : GoodIn wsX4_loop wsX4_programAt := goodIn_ca (goodIn_r _ [7, 1, 2, 8, 30, 31, 32, 33, 34, 35, 36, 37] (by decide +kernel) (by decide +kernel)) (goodIn_sub (fun _ h => List.mem_cons_of_mem _ (List.mem_append_right _ h)) (by decide +kernel))
set_option maxRecDepth 20000 in
theorem gX4_loop_X4_programAt : GoodIn wsX4_loop (wsV RX4 54 RX4 yX4_programAt wsX4_programAt) := goodIn_app (goodIn_of _ (by decide +kernel)) ggX4_loop_X4_programAt
set_option maxRecDepth 20000 in
theorem ggX4_loop_X4_refuseOtherLoops : GoodIn wsX4_loop wsX4_refuseOtherLoops := goodIn_ca (goodIn_r _ [11, 1, 2, 12, 13, 14, 15, 16, 17, 18, 19, 6, 20, 38, 39] (by decide +kernel) (by decide +kernel)) (goodIn_sub (fun _ h => List.mem_cons_of_mem _ (List.mem_append_right _ h)) (by decide +kernel))
set_option maxRecDepth 20000 in
theorem gX4_loop_X4_refuseOtherLoops : GoodIn wsX4_loop (va_wsS RX4 82 yX4_refuseOtherLoops wsX4_refuseOtherLoops) := goodIn_app (goodIn_of _ (by decide +kernel)) ggX4_loop_X4_refuseOtherLoops
set_option maxRecDepth 20000 in
theorem ggX4_loop_X4_isBetween : GoodIn wsX4_loop wsX4_isBetween := goodIn_r _ [20] (by decide +kernel) (by decide +kernel)
set_option maxRecDepth 20000 in
theorem gX4_loop_X4_isBetween : GoodIn wsX4_loop (va_wsS RX4 58 yX4_isBetween wsX4_isBetween) := goodIn_app (goodIn_of _ (by decide +kernel)) ggX4_loop_X4_isBetween
set_option maxRecDepth 20000 in
theorem ggX4_loop_X1_loopFact : GoodIn wsX4_loop wsX1_loopFact := goodIn_r _ [24, 25, 26, 27, 15, 28, 29, 38, 39] (by decide +kernel) (by decide +kernel)
set_option maxRecDepth 20000 in
theorem gX4_loop_X1_loopFact : GoodIn wsX4_loop (wsV RX4 110 RX1 yX1_loopFact wsX1_loopFact) := goodIn_app (goodIn_of _ (by decide +kernel)) ggX4_loop_X1_loopFact
theorem dX4_loop_0 : decode cX4_loop 0 = .ok (.aload_n 0, 1) := by decide +kernel
theorem dX4_loop_1 : decode cX4_loop 1 = .ok (.iload_n 1, 1) := by decide +kernel
theorem dX4_loop_2 : decode cX4_loop 2 = .ok (.invokevirtual 54, 3) := by decide +kernel
theorem dX4_loop_5 : decode cX4_loop 5 = .ok (.astore 4, 2) := by decide +kernel
theorem dX4_loop_7 : decode cX4_loop 7 = .ok (.aload 4, 2) := by decide +kernel
theorem dX4_loop_9 : decode cX4_loop 9 = .ok (.iload_n 2, 1) := by decide +kernel
theorem dX4_loop_10 : decode cX4_loop 10 = .ok (.invokestatic 82, 3) := by decide +kernel
theorem dX4_loop_13 : decode cX4_loop 13 = .ok (.iload_n 3, 1) := by decide +kernel
theorem dX4_loop_14 : decode cX4_loop 14 = .ok (.iconst 0, 1) := by decide +kernel
theorem dX4_loop_15 : decode cX4_loop 15 = .ok (.iconst 3, 1) := by decide +kernel
theorem dX4_loop_16 : decode cX4_loop 16 = .ok (.invokestatic 58, 3) := by decide +kernel
theorem dX4_loop_19 : decode cX4_loop 19 = .ok (.ifCond .ne 13, 3) := by decide +kernel
theorem dX4_loop_22 : decode cX4_loop 22 = .ok (.new 105, 3) := by decide +kernel
theorem dX4_loop_25 : decode cX4_loop 25 = .ok (.dup, 1) := by decide +kernel
theorem dX4_loop_26 : decode cX4_loop 26 = .ok (.ldc 107, 2) := by decide +kernel
theorem dX4_loop_28 : decode cX4_loop 28 = .ok (.invokespecial 109, 3) := by decide +kernel
theorem dX4_loop_31 : decode cX4_loop 31 = .ok (.athrow, 1) := by decide +kernel
theorem dX4_loop_32 : decode cX4_loop 32 = .ok (.aload 4, 2) := by decide +kernel
theorem dX4_loop_34 : decode cX4_loop 34 = .ok (.iload_n 2, 1) := by decide +kernel
theorem dX4_loop_35 : decode cX4_loop 35 = .ok (.iload_n 3, 1) := by decide +kernel
theorem dX4_loop_36 : decode cX4_loop 36 = .ok (.invokevirtual 110, 3) := by decide +kernel
theorem dX4_loop_39 : decode cX4_loop 39 = .ok (.ireturn, 1) := by decide +kernel
theorem dX4_programs_0 : decode cX4_programs 0 = .ok (.aload_n 0, 1) := by decide +kernel
theorem dX4_programs_1 : decode cX4_programs 1 = .ok (.getfield 15, 3) := by decide +kernel
theorem dX4_programs_4 : decode cX4_programs 4 = .ok (.ireturn, 1) := by decide +kernel
set_option maxRecDepth 20000 in
theorem ggX4_loops_X4_programAt : GoodIn wsX4_loops wsX4_programAt := goodIn_ca (goodIn_r _ [5, 6, 7, 8, 15, 16, 17, 18, 19, 20, 21, 22] (by decide +kernel) (by decide +kernel)) (goodIn_sub (fun _ h => List.mem_cons_of_mem _ (List.mem_append_right _ h)) (by decide +kernel))
set_option maxRecDepth 20000 in
theorem gX4_loops_X4_programAt : GoodIn wsX4_loops (wsV RX4 54 RX4 yX4_programAt wsX4_programAt) := goodIn_app (goodIn_of _ (by decide +kernel)) ggX4_loops_X4_programAt
set_option maxRecDepth 20000 in
theorem ggX4_loops_X1_countLoops : GoodIn wsX4_loops wsX1_countLoops := goodIn_r _ [13, 14, 23, 24] (by decide +kernel) (by decide +kernel)
set_option maxRecDepth 20000 in
theorem gX4_loops_X1_countLoops : GoodIn wsX4_loops (wsV RX4 69 RX1 yX1_countLoops wsX1_countLoops) := goodIn_app (goodIn_of _ (by decide +kernel)) ggX4_loops_X1_countLoops
theorem dX4_loops_0 : decode cX4_loops 0 = .ok (.aload_n 0, 1) := by decide +kernel
theorem dX4_loops_1 : decode cX4_loops 1 = .ok (.iload_n 1, 1) := by decide +kernel
theorem dX4_loops_2 : decode cX4_loops 2 = .ok (.invokevirtual 54, 3) := by decide +kernel
theorem dX4_loops_5 : decode cX4_loops 5 = .ok (.invokevirtual 69, 3) := by decide +kernel
theorem dX4_loops_8 : decode cX4_loops 8 = .ok (.ireturn, 1) := by decide +kernel
set_option maxRecDepth 20000 in
theorem ggX4_reason_X4_programAt : GoodIn wsX4_reason wsX4_programAt := goodIn_ca (goodIn_r _ [5, 6, 7, 8, 88, 89, 90, 91, 92, 93, 94, 95] (by decide +kernel) (by decide +kernel)) (goodIn_sub (fun _ h => List.mem_cons_of_mem _ (List.mem_append_left _ (List.mem_append_right _ h))) (by decide +kernel))
set_option maxRecDepth 20000 in
theorem gX4_reason_X4_programAt : GoodIn wsX4_reason (wsV RX4 54 RX4 yX4_programAt wsX4_programAt) := goodIn_app (goodIn_of _ (by decide +kernel)) ggX4_reason_X4_programAt
set_option maxRecDepth 20000 in
theorem ggX4_reason_X4_refuseOtherChanges : GoodIn wsX4_reason wsX4_refuseOtherChanges := goodIn_ca (goodIn_ca (goodIn_r _ [11, 6, 7, 12, 13, 14, 15, 4, 16, 17, 18, 19, 20, 21, 22, 23, 24, 25, 26, 27, 28, 29, 30, 31, 32, 33, 34, 35, 36, 37, 38, 39, 40, 41, 96, 97] (by decide +kernel) (by decide +kernel)) (goodIn_sub (fun _ h => List.mem_cons_of_mem _ (List.mem_append_left _ (List.mem_append_right _ h))) (by decide +kernel))) (goodIn_sub (fun _ h => List.mem_cons_of_mem _ (List.mem_append_right _ h)) (by decide +kernel))
set_option maxRecDepth 20000 in
theorem gX4_reason_X4_refuseOtherChanges : GoodIn wsX4_reason (va_wsS RX4 133 yX4_refuseOtherChanges wsX4_refuseOtherChanges) := goodIn_app (goodIn_of _ (by decide +kernel)) ggX4_reason_X4_refuseOtherChanges
set_option maxRecDepth 20000 in
theorem ggX4_reason_X2_against : GoodIn wsX4_reason wsX2_against := goodIn_r _ [45, 46, 47, 44, 48, 49, 50, 51, 52, 34, 35, 23, 36, 37, 38, 39, 40, 41, 53, 54, 55, 56, 30, 31, 32, 33, 57, 58, 59, 60, 61, 62, 63, 64, 65, 66, 67, 68, 69, 70, 71, 72, 73, 4, 74, 75, 76, 77, 78, 21, 22, 24, 25, 79, 80, 81, 82, 83, 84, 85, 86, 87, 96, 97] (by decide +kernel) (by decide +kernel)
set_option maxRecDepth 20000 in
theorem gX4_reason_X2_against : GoodIn wsX4_reason (va_wsS RX4 137 yX2_against wsX2_against) := goodIn_app (goodIn_of _ (by decide +kernel)) ggX4_reason_X2_against
theorem dX4_reason_0 : decode cX4_reason 0 = .ok (.aload_n 0, 1) := by decide +kernel
theorem dX4_reason_1 : decode cX4_reason 1 = .ok (.iload_n 1, 1) := by decide +kernel
theorem dX4_reason_2 : decode cX4_reason 2 = .ok (.invokevirtual 54, 3) := by decide +kernel
theorem dX4_reason_5 : decode cX4_reason 5 = .ok (.astore 5, 2) := by decide +kernel
theorem dX4_reason_7 : decode cX4_reason 7 = .ok (.aload 5, 2) := by decide +kernel
theorem dX4_reason_9 : decode cX4_reason 9 = .ok (.iload_n 2, 1) := by decide +kernel
theorem dX4_reason_10 : decode cX4_reason 10 = .ok (.iload_n 3, 1) := by decide +kernel
theorem dX4_reason_11 : decode cX4_reason 11 = .ok (.iload 4, 2) := by decide +kernel
theorem dX4_reason_13 : decode cX4_reason 13 = .ok (.invokestatic 133, 3) := by decide +kernel
theorem dX4_reason_16 : decode cX4_reason 16 = .ok (.aload 5, 2) := by decide +kernel
theorem dX4_reason_18 : decode cX4_reason 18 = .ok (.iload_n 2, 1) := by decide +kernel
theorem dX4_reason_19 : decode cX4_reason 19 = .ok (.iload_n 3, 1) := by decide +kernel
theorem dX4_reason_20 : decode cX4_reason 20 = .ok (.iload 4, 2) := by decide +kernel
theorem dX4_reason_22 : decode cX4_reason 22 = .ok (.invokestatic 137, 3) := by decide +kernel
theorem dX4_reason_25 : decode cX4_reason 25 = .ok (.ireturn, 1) := by decide +kernel
set_option maxRecDepth 20000 in
theorem ggX4_change_X4_programAt : GoodIn wsX4_change wsX4_programAt := goodIn_ca (goodIn_r _ [10, 11, 12, 13, 166, 167, 168, 169, 170, 171, 172, 173] (by decide +kernel) (by decide +kernel)) (goodIn_sub (fun _ h => List.mem_cons_of_mem _ (List.mem_append_left _ (List.mem_append_right _ h))) (by decide +kernel))
set_option maxRecDepth 20000 in
theorem gX4_change_X4_programAt : GoodIn wsX4_change (wsV RX4 54 RX4 yX4_programAt wsX4_programAt) := goodIn_app (goodIn_of _ (by decide +kernel)) ggX4_change_X4_programAt
set_option maxRecDepth 20000 in
theorem ggX4_change_X4_refuseOtherChanges : GoodIn wsX4_change wsX4_refuseOtherChanges := goodIn_ca (goodIn_ca (goodIn_r _ [16, 11, 12, 17, 18, 19, 20, 9, 21, 22, 23, 24, 25, 26, 27, 5, 28, 29, 30, 31, 32, 33, 34, 35, 36, 37, 38, 39, 40, 41, 42, 43, 44, 45, 164, 165] (by decide +kernel) (by decide +kernel)) (goodIn_sub (fun _ h => List.mem_cons_of_mem _ (List.mem_append_left _ (List.mem_append_right _ h))) (by decide +kernel))) (goodIn_sub (fun _ h => List.mem_cons_of_mem _ (List.mem_append_right _ h)) (by decide +kernel))
set_option maxRecDepth 20000 in
theorem gX4_change_X4_refuseOtherChanges : GoodIn wsX4_change (va_wsS RX4 133 yX4_refuseOtherChanges wsX4_refuseOtherChanges) := goodIn_app (goodIn_of _ (by decide +kernel)) ggX4_change_X4_refuseOtherChanges
set_option maxRecDepth 20000 in
theorem ggX4_change_X2_against : GoodIn wsX4_change wsX2_against := goodIn_r _ [49, 50, 51, 48, 52, 53, 54, 55, 56, 38, 39, 5, 40, 41, 42, 43, 44, 45, 57, 58, 59, 60, 34, 35, 36, 37, 61, 62, 63, 64, 65, 66, 67, 68, 69, 70, 71, 72, 73, 74, 75, 76, 77, 9, 78, 79, 80, 81, 82, 26, 27, 28, 29, 83, 84, 85, 86, 87, 88, 89, 90, 91, 164, 165] (by decide +kernel) (by decide +kernel)
set_option maxRecDepth 20000 in
theorem gX4_change_X2_against : GoodIn wsX4_change (va_wsS RX4 137 yX2_against wsX2_against) := goodIn_app (goodIn_of _ (by decide +kernel)) ggX4_change_X2_against
set_option maxRecDepth 20000 in
theorem ggX4_change_X4_refuseEleventhProgram : GoodIn wsX4_change wsX4_refuseEleventhProgram := goodIn_ca (goodIn_r _ [95, 1, 2, 96, 166, 167, 168, 169, 170, 171, 172, 173] (by decide +kernel) (by decide +kernel)) (goodIn_sub (fun _ h => List.mem_cons_of_mem _ (List.mem_append_left _ (List.mem_append_left _ (List.mem_append_right _ h)))) (by decide +kernel))
set_option maxRecDepth 20000 in
theorem gX4_change_X4_refuseEleventhProgram : GoodIn wsX4_change (wsV RX4 46 RX4 yX4_refuseEleventhProgram wsX4_refuseEleventhProgram) := goodIn_app (goodIn_of _ (by decide +kernel)) ggX4_change_X4_refuseEleventhProgram
set_option maxRecDepth 20000 in
theorem ggX4_change_X1_init : GoodIn wsX4_change wsX1_init := goodIn_r _ [98, 99, 100, 101, 102, 45, 29, 164, 165] (by decide +kernel) (by decide +kernel)
set_option maxRecDepth 20000 in
theorem gX4_change_X1_init_n49 : GoodIn wsX4_change (wsX1_init) := ggX4_change_X1_init
set_option maxRecDepth 20000 in
theorem ggX4_change_X1_becomeLike : GoodIn wsX4_change wsX1_becomeLike := goodIn_r _ [106, 45, 29, 41, 42, 43, 5, 44, 164, 165] (by decide +kernel) (by decide +kernel)
set_option maxRecDepth 20000 in
theorem gX4_change_X1_becomeLike : GoodIn wsX4_change (wsV RX4 145 RX1 yX1_becomeLike wsX1_becomeLike) := goodIn_app (goodIn_of _ (by decide +kernel)) ggX4_change_X1_becomeLike
set_option maxRecDepth 20000 in
theorem ggX4_change_X1_makeChange : GoodIn wsX4_change wsX1_makeChange := goodIn_r _ [110, 111, 112, 113, 5, 114, 115, 34, 35, 36, 37, 38, 39, 40, 41, 42, 43, 44, 45, 116, 117, 118, 119, 120, 121, 122, 123, 124, 125, 126, 127, 128, 129, 130, 131, 132, 133, 134, 29, 135, 136, 137, 138, 139, 140, 141, 142, 143, 144, 145, 146, 147, 148, 149, 150, 151, 152, 153, 154, 155, 156, 157, 158, 159, 65, 66, 67, 164, 165] (by decide +kernel) (by decide +kernel)
set_option maxRecDepth 20000 in
theorem gX4_change_X1_makeChange : GoodIn wsX4_change (wsV RX4 149 RX1 yX1_makeChange wsX1_makeChange) := goodIn_app (goodIn_of _ (by decide +kernel)) ggX4_change_X1_makeChange
set_option maxRecDepth 20000 in
theorem ggX4_change_X4_keepProgram : GoodIn wsX4_change wsX4_keepProgram := goodIn_r _ [163, 96, 13, 166, 167, 168, 169, 170, 171, 172, 173] (by decide +kernel) (by decide +kernel)
set_option maxRecDepth 20000 in
theorem gX4_change_X4_keepProgram : GoodIn wsX4_change (wsV RX4 50 RX4 yX4_keepProgram wsX4_keepProgram) := goodIn_app (goodIn_of _ (by decide +kernel)) ggX4_change_X4_keepProgram
theorem dX4_change_0 : decode cX4_change 0 = .ok (.aload_n 0, 1) := by decide +kernel
theorem dX4_change_1 : decode cX4_change 1 = .ok (.iload_n 1, 1) := by decide +kernel
theorem dX4_change_2 : decode cX4_change 2 = .ok (.invokevirtual 54, 3) := by decide +kernel
theorem dX4_change_5 : decode cX4_change 5 = .ok (.astore 5, 2) := by decide +kernel
theorem dX4_change_7 : decode cX4_change 7 = .ok (.aload 5, 2) := by decide +kernel
theorem dX4_change_9 : decode cX4_change 9 = .ok (.iload_n 2, 1) := by decide +kernel
theorem dX4_change_10 : decode cX4_change 10 = .ok (.iload_n 3, 1) := by decide +kernel
theorem dX4_change_11 : decode cX4_change 11 = .ok (.iload 4, 2) := by decide +kernel
theorem dX4_change_13 : decode cX4_change 13 = .ok (.invokestatic 133, 3) := by decide +kernel
theorem dX4_change_16 : decode cX4_change 16 = .ok (.aload 5, 2) := by decide +kernel
theorem dX4_change_18 : decode cX4_change 18 = .ok (.iload_n 2, 1) := by decide +kernel
theorem dX4_change_19 : decode cX4_change 19 = .ok (.iload_n 3, 1) := by decide +kernel
theorem dX4_change_20 : decode cX4_change 20 = .ok (.iload 4, 2) := by decide +kernel
theorem dX4_change_22 : decode cX4_change 22 = .ok (.invokestatic 137, 3) := by decide +kernel
theorem dX4_change_25 : decode cX4_change 25 = .ok (.ifCond .eq 13, 3) := by decide +kernel
theorem dX4_change_28 : decode cX4_change 28 = .ok (.new 73, 3) := by decide +kernel
theorem dX4_change_31 : decode cX4_change 31 = .ok (.dup, 1) := by decide +kernel
theorem dX4_change_32 : decode cX4_change 32 = .ok (.ldc 143, 2) := by decide +kernel
theorem dX4_change_34 : decode cX4_change 34 = .ok (.invokespecial 77, 3) := by decide +kernel
theorem dX4_change_37 : decode cX4_change 37 = .ok (.athrow, 1) := by decide +kernel
theorem dX4_change_38 : decode cX4_change 38 = .ok (.aload_n 0, 1) := by decide +kernel
theorem dX4_change_39 : decode cX4_change 39 = .ok (.invokevirtual 46, 3) := by decide +kernel
theorem dX4_change_42 : decode cX4_change 42 = .ok (.new 9, 3) := by decide +kernel
theorem dX4_change_45 : decode cX4_change 45 = .ok (.dup, 1) := by decide +kernel
theorem dX4_change_46 : decode cX4_change 46 = .ok (.invokespecial 49, 3) := by decide +kernel
theorem dX4_change_49 : decode cX4_change 49 = .ok (.astore 6, 2) := by decide +kernel
theorem dX4_change_51 : decode cX4_change 51 = .ok (.aload 6, 2) := by decide +kernel
theorem dX4_change_53 : decode cX4_change 53 = .ok (.aload 5, 2) := by decide +kernel
theorem dX4_change_55 : decode cX4_change 55 = .ok (.invokevirtual 145, 3) := by decide +kernel
theorem dX4_change_58 : decode cX4_change 58 = .ok (.aload 6, 2) := by decide +kernel
theorem dX4_change_60 : decode cX4_change 60 = .ok (.iload_n 2, 1) := by decide +kernel
theorem dX4_change_61 : decode cX4_change 61 = .ok (.iload_n 3, 1) := by decide +kernel
theorem dX4_change_62 : decode cX4_change 62 = .ok (.iload 4, 2) := by decide +kernel
theorem dX4_change_64 : decode cX4_change 64 = .ok (.invokevirtual 149, 3) := by decide +kernel
theorem dX4_change_67 : decode cX4_change 67 = .ok (.aload_n 0, 1) := by decide +kernel
theorem dX4_change_68 : decode cX4_change 68 = .ok (.aload 6, 2) := by decide +kernel
theorem dX4_change_70 : decode cX4_change 70 = .ok (.invokevirtual 50, 3) := by decide +kernel
theorem dX4_change_73 : decode cX4_change 73 = .ok (.ireturn, 1) := by decide +kernel
set_option maxRecDepth 20000 in
theorem ggX4_differ_X4_programAt : GoodIn wsX4_differ wsX4_programAt := goodIn_ca (goodIn_r _ [6, 7, 8, 9, 98, 99, 100, 101, 102, 103, 104, 105] (by decide +kernel) (by decide +kernel)) (goodIn_sub (fun _ h => List.mem_cons_of_mem _ (List.mem_append_left _ (List.mem_append_right _ h))) (by decide +kernel))
set_option maxRecDepth 20000 in
theorem gX4_differ_X4_programAt : GoodIn wsX4_differ (wsV RX4 54 RX4 yX4_programAt wsX4_programAt) := goodIn_app (goodIn_of _ (by decide +kernel)) ggX4_differ_X4_programAt
set_option maxRecDepth 20000 in
theorem ggX4_differ_X4_checkedRows : GoodIn wsX4_differ wsX4_checkedRows := goodIn_ca (goodIn_r _ [12, 13, 14, 15, 16, 5, 17] (by decide +kernel) (by decide +kernel)) (goodIn_sub (fun _ h => List.mem_cons_of_mem _ (List.mem_append_right _ h)) (by decide +kernel))
set_option maxRecDepth 20000 in
theorem gX4_differ_X4_checkedRows : GoodIn wsX4_differ (va_wsS RX4 160 yX4_checkedRows wsX4_checkedRows) := goodIn_app (goodIn_of _ (by decide +kernel)) ggX4_differ_X4_checkedRows
set_option maxRecDepth 20000 in
theorem ggX4_differ_X0_begin : GoodIn wsX4_differ wsX0_begin := goodIn_r _ [22, 23, 24, 25, 106, 107, 108] (by decide +kernel) (by decide +kernel)
set_option maxRecDepth 20000 in
theorem gX4_differ_X0_begin : GoodIn wsX4_differ (wsV RX4 163 RX0 yX0_begin wsX0_begin) := goodIn_app (goodIn_of _ (by decide +kernel)) ggX4_differ_X0_begin
