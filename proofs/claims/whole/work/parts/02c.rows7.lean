theorem dX5_differ_47 : decode cX5_differ 47 = .ok (.iload 6, 2) := by decide +kernel
theorem dX5_differ_49 : decode cX5_differ 49 = .ok (.iload_n 3, 1) := by decide +kernel
theorem dX5_differ_50 : decode cX5_differ 50 = .ok (.iload 4, 2) := by decide +kernel
theorem dX5_differ_52 : decode cX5_differ 52 = .ok (.invokestatic 182, 3) := by decide +kernel
theorem dX5_differ_55 : decode cX5_differ 55 = .ok (.if_icmp .ge 38, 3) := by decide +kernel
theorem dX5_differ_58 : decode cX5_differ 58 = .ok (.aload_n 0, 1) := by decide +kernel
theorem dX5_differ_59 : decode cX5_differ 59 = .ok (.iload 6, 2) := by decide +kernel
theorem dX5_differ_61 : decode cX5_differ 61 = .ok (.iload_n 3, 1) := by decide +kernel
theorem dX5_differ_62 : decode cX5_differ 62 = .ok (.iload 4, 2) := by decide +kernel
theorem dX5_differ_64 : decode cX5_differ 64 = .ok (.invokevirtual 192, 3) := by decide +kernel
theorem dX5_differ_67 : decode cX5_differ 67 = .ok (.iload 5, 2) := by decide +kernel
theorem dX5_differ_69 : decode cX5_differ 69 = .ok (.aload_n 0, 1) := by decide +kernel
theorem dX5_differ_70 : decode cX5_differ 70 = .ok (.iload_n 1, 1) := by decide +kernel
theorem dX5_differ_71 : decode cX5_differ 71 = .ok (.iload_n 2, 1) := by decide +kernel
theorem dX5_differ_72 : decode cX5_differ 72 = .ok (.iload_n 3, 1) := by decide +kernel
theorem dX5_differ_73 : decode cX5_differ 73 = .ok (.invokevirtual 195, 3) := by decide +kernel
theorem dX5_differ_76 : decode cX5_differ 76 = .ok (.ifCond .eq 7, 3) := by decide +kernel
theorem dX5_differ_79 : decode cX5_differ 79 = .ok (.iconst 0, 1) := by decide +kernel
theorem dX5_differ_80 : decode cX5_differ 80 = .ok (.goto 4, 3) := by decide +kernel
theorem dX5_differ_83 : decode cX5_differ 83 = .ok (.iconst 1, 1) := by decide +kernel
theorem dX5_differ_84 : decode cX5_differ 84 = .ok (.iadd, 1) := by decide +kernel
theorem dX5_differ_85 : decode cX5_differ 85 = .ok (.istore 5, 2) := by decide +kernel
theorem dX5_differ_87 : decode cX5_differ 87 = .ok (.iinc 6 1, 3) := by decide +kernel
theorem dX5_differ_90 : decode cX5_differ 90 = .ok (.goto (-43), 3) := by decide +kernel
theorem dX5_differ_93 : decode cX5_differ 93 = .ok (.iload 5, 2) := by decide +kernel
theorem dX5_differ_95 : decode cX5_differ 95 = .ok (.ireturn, 1) := by decide +kernel
set_option maxRecDepth 20000 in
theorem ggX5_firstCase_X5_isProgram : GoodIn wsX5_firstCase wsX5_isProgram := goodIn_r _ [6, 7, 8, 9, 5, 10, 64, 65, 66, 67, 68, 69, 70, 71, 72, 73, 74] (by decide +kernel) (by decide +kernel)
set_option maxRecDepth 20000 in
theorem gX5_firstCase_X5_isProgram : GoodIn wsX5_firstCase (wsV RX5 53 RX5 yX5_isProgram wsX5_isProgram) := goodIn_app (goodIn_of _ (by decide +kernel)) ggX5_firstCase_X5_isProgram
set_option maxRecDepth 20000 in
theorem ggX5_firstCase_X5_whyCases : GoodIn wsX5_firstCase wsX5_whyCases := goodIn_r _ [14, 15, 16, 5, 17, 18, 19, 8, 9, 10, 20, 21, 22] (by decide +kernel) (by decide +kernel)
set_option maxRecDepth 20000 in
theorem gX5_firstCase_X5_whyCases : GoodIn wsX5_firstCase (wsV RX5 188 RX5 yX5_whyCases wsX5_whyCases) := goodIn_app (goodIn_of _ (by decide +kernel)) ggX5_firstCase_X5_whyCases
set_option maxRecDepth 20000 in
theorem ggX5_firstCase_X5_rows : GoodIn wsX5_firstCase wsX5_rows := goodIn_r _ [22] (by decide +kernel) (by decide +kernel)
set_option maxRecDepth 20000 in
theorem gX5_firstCase_X5_rows : GoodIn wsX5_firstCase (va_wsS RX5 182 yX5_rows wsX5_rows) := goodIn_app (goodIn_of _ (by decide +kernel)) ggX5_firstCase_X5_rows
set_option maxRecDepth 20000 in
theorem ggX5_firstCase_X5_layCase : GoodIn wsX5_firstCase wsX5_layCase := goodIn_r _ [26, 27, 64, 65, 66, 67, 68, 69, 70, 71, 72, 73, 74] (by decide +kernel) (by decide +kernel)
set_option maxRecDepth 20000 in
theorem gX5_firstCase_X5_layCase : GoodIn wsX5_firstCase (wsV RX5 192 RX5 yX5_layCase wsX5_layCase) := goodIn_app (goodIn_of _ (by decide +kernel)) ggX5_firstCase_X5_layCase
set_option maxRecDepth 20000 in
theorem ggX5_firstCase_X5_isSame : GoodIn wsX5_firstCase wsX5_isSame := goodIn_r _ [31, 32, 27, 33, 34, 35, 36, 37, 38, 39, 40, 41, 5, 42, 43, 44, 45, 46, 47, 48, 49, 50, 51, 52, 53, 54, 55, 56, 57, 58, 59, 60, 61, 62, 63, 64, 65, 66, 67, 68, 69, 70, 71, 72, 73, 74] (by decide +kernel) (by decide +kernel)
set_option maxRecDepth 20000 in
theorem gX5_firstCase_X5_isSame : GoodIn wsX5_firstCase (wsV RX5 195 RX5 yX5_isSame wsX5_isSame) := goodIn_app (goodIn_of _ (by decide +kernel)) ggX5_firstCase_X5_isSame
theorem dX5_firstCase_0 : decode cX5_firstCase 0 = .ok (.aload_n 0, 1) := by decide +kernel
theorem dX5_firstCase_1 : decode cX5_firstCase 1 = .ok (.aload_n 0, 1) := by decide +kernel
theorem dX5_firstCase_2 : decode cX5_firstCase 2 = .ok (.aload_n 0, 1) := by decide +kernel
theorem dX5_firstCase_3 : decode cX5_firstCase 3 = .ok (.iload_n 1, 1) := by decide +kernel
theorem dX5_firstCase_4 : decode cX5_firstCase 4 = .ok (.invokevirtual 53, 3) := by decide +kernel
theorem dX5_firstCase_7 : decode cX5_firstCase 7 = .ok (.ifCond .eq 15, 3) := by decide +kernel
theorem dX5_firstCase_10 : decode cX5_firstCase 10 = .ok (.aload_n 0, 1) := by decide +kernel
theorem dX5_firstCase_11 : decode cX5_firstCase 11 = .ok (.iload_n 2, 1) := by decide +kernel
theorem dX5_firstCase_12 : decode cX5_firstCase 12 = .ok (.invokevirtual 53, 3) := by decide +kernel
theorem dX5_firstCase_15 : decode cX5_firstCase 15 = .ok (.ifCond .eq 7, 3) := by decide +kernel
theorem dX5_firstCase_18 : decode cX5_firstCase 18 = .ok (.iconst 1, 1) := by decide +kernel
theorem dX5_firstCase_19 : decode cX5_firstCase 19 = .ok (.goto 4, 3) := by decide +kernel
theorem dX5_firstCase_22 : decode cX5_firstCase 22 = .ok (.iconst 0, 1) := by decide +kernel
theorem dX5_firstCase_23 : decode cX5_firstCase 23 = .ok (.iload_n 3, 1) := by decide +kernel
theorem dX5_firstCase_24 : decode cX5_firstCase 24 = .ok (.iload 4, 2) := by decide +kernel
theorem dX5_firstCase_26 : decode cX5_firstCase 26 = .ok (.invokevirtual 188, 3) := by decide +kernel
theorem dX5_firstCase_29 : decode cX5_firstCase 29 = .ok (.putfield 34, 3) := by decide +kernel
theorem dX5_firstCase_32 : decode cX5_firstCase 32 = .ok (.aload_n 0, 1) := by decide +kernel
theorem dX5_firstCase_33 : decode cX5_firstCase 33 = .ok (.getfield 34, 3) := by decide +kernel
theorem dX5_firstCase_36 : decode cX5_firstCase 36 = .ok (.ifCond .eq 5, 3) := by decide +kernel
theorem dX5_firstCase_39 : decode cX5_firstCase 39 = .ok (.iconst 0, 1) := by decide +kernel
theorem dX5_firstCase_40 : decode cX5_firstCase 40 = .ok (.ireturn, 1) := by decide +kernel
theorem dX5_firstCase_41 : decode cX5_firstCase 41 = .ok (.iconst 0, 1) := by decide +kernel
theorem dX5_firstCase_42 : decode cX5_firstCase 42 = .ok (.istore 5, 2) := by decide +kernel
theorem dX5_firstCase_44 : decode cX5_firstCase 44 = .ok (.iload 5, 2) := by decide +kernel
theorem dX5_firstCase_46 : decode cX5_firstCase 46 = .ok (.iload_n 3, 1) := by decide +kernel
theorem dX5_firstCase_47 : decode cX5_firstCase 47 = .ok (.iload 4, 2) := by decide +kernel
theorem dX5_firstCase_49 : decode cX5_firstCase 49 = .ok (.invokestatic 182, 3) := by decide +kernel
theorem dX5_firstCase_52 : decode cX5_firstCase 52 = .ok (.if_icmp .ge 31, 3) := by decide +kernel
theorem dX5_firstCase_55 : decode cX5_firstCase 55 = .ok (.aload_n 0, 1) := by decide +kernel
theorem dX5_firstCase_56 : decode cX5_firstCase 56 = .ok (.iload 5, 2) := by decide +kernel
theorem dX5_firstCase_58 : decode cX5_firstCase 58 = .ok (.iload_n 3, 1) := by decide +kernel
theorem dX5_firstCase_59 : decode cX5_firstCase 59 = .ok (.iload 4, 2) := by decide +kernel
theorem dX5_firstCase_61 : decode cX5_firstCase 61 = .ok (.invokevirtual 192, 3) := by decide +kernel
theorem dX5_firstCase_64 : decode cX5_firstCase 64 = .ok (.aload_n 0, 1) := by decide +kernel
theorem dX5_firstCase_65 : decode cX5_firstCase 65 = .ok (.iload_n 1, 1) := by decide +kernel
theorem dX5_firstCase_66 : decode cX5_firstCase 66 = .ok (.iload_n 2, 1) := by decide +kernel
theorem dX5_firstCase_67 : decode cX5_firstCase 67 = .ok (.iload_n 3, 1) := by decide +kernel
theorem dX5_firstCase_68 : decode cX5_firstCase 68 = .ok (.invokevirtual 195, 3) := by decide +kernel
theorem dX5_firstCase_71 : decode cX5_firstCase 71 = .ok (.ifCond .ne 6, 3) := by decide +kernel
theorem dX5_firstCase_74 : decode cX5_firstCase 74 = .ok (.iload 5, 2) := by decide +kernel
theorem dX5_firstCase_76 : decode cX5_firstCase 76 = .ok (.ireturn, 1) := by decide +kernel
theorem dX5_firstCase_77 : decode cX5_firstCase 77 = .ok (.iinc 5 1, 3) := by decide +kernel
theorem dX5_firstCase_80 : decode cX5_firstCase 80 = .ok (.goto (-36), 3) := by decide +kernel
theorem dX5_firstCase_83 : decode cX5_firstCase 83 = .ok (.iconst (-1), 1) := by decide +kernel
theorem dX5_firstCase_84 : decode cX5_firstCase 84 = .ok (.ireturn, 1) := by decide +kernel
set_option maxRecDepth 20000 in
theorem ggX5_cost_X5_isProgram : GoodIn wsX5_cost wsX5_isProgram := goodIn_r _ [13, 14, 15, 16, 12, 17, 59, 60, 61, 62, 63, 64, 65, 66, 67, 68, 69] (by decide +kernel) (by decide +kernel)
set_option maxRecDepth 20000 in
theorem gX5_cost_X5_isProgram : GoodIn wsX5_cost (wsV RX5 53 RX5 yX5_isProgram wsX5_isProgram) := goodIn_app (goodIn_of _ (by decide +kernel)) ggX5_cost_X5_isProgram
set_option maxRecDepth 20000 in
theorem ggX5_cost_X5_whyCases : GoodIn wsX5_cost wsX5_whyCases := goodIn_r _ [21, 22, 23, 12, 24, 25, 26, 15, 16, 17, 27, 28, 29] (by decide +kernel) (by decide +kernel)
set_option maxRecDepth 20000 in
theorem gX5_cost_X5_whyCases : GoodIn wsX5_cost (wsV RX5 188 RX5 yX5_whyCases wsX5_whyCases) := goodIn_app (goodIn_of _ (by decide +kernel)) ggX5_cost_X5_whyCases
set_option maxRecDepth 20000 in
theorem ggX5_cost_X5_rows : GoodIn wsX5_cost wsX5_rows := goodIn_r _ [29] (by decide +kernel) (by decide +kernel)
set_option maxRecDepth 20000 in
theorem gX5_cost_X5_rows : GoodIn wsX5_cost (va_wsS RX5 182 yX5_rows wsX5_rows) := goodIn_app (goodIn_of _ (by decide +kernel)) ggX5_cost_X5_rows
set_option maxRecDepth 20000 in
theorem ggX5_cost_X5_layCase : GoodIn wsX5_cost wsX5_layCase := goodIn_r _ [33, 3, 59, 60, 61, 62, 63, 64, 65, 66, 67, 68, 69] (by decide +kernel) (by decide +kernel)
set_option maxRecDepth 20000 in
theorem gX5_cost_X5_layCase : GoodIn wsX5_cost (wsV RX5 192 RX5 yX5_layCase wsX5_layCase) := goodIn_app (goodIn_of _ (by decide +kernel)) ggX5_cost_X5_layCase
set_option maxRecDepth 20000 in
theorem ggX5_cost_X5_runOver : GoodIn wsX5_cost wsX5_runOver := goodIn_r _ [37, 4, 38, 39, 40, 12, 41, 42, 43, 44, 45, 46, 47, 48, 49, 50, 51, 52, 53, 54, 55, 56, 57, 58, 59, 60, 61, 62, 63, 64, 65, 66, 67, 68, 69] (by decide +kernel) (by decide +kernel)
set_option maxRecDepth 20000 in
theorem gX5_cost_X5_runOver : GoodIn wsX5_cost (wsV RX5 106 RX5 yX5_runOver wsX5_runOver) := goodIn_app (goodIn_of _ (by decide +kernel)) ggX5_cost_X5_runOver
theorem dX5_cost_0 : decode cX5_cost 0 = .ok (.aload_n 0, 1) := by decide +kernel
theorem dX5_cost_1 : decode cX5_cost 1 = .ok (.aload_n 0, 1) := by decide +kernel
theorem dX5_cost_2 : decode cX5_cost 2 = .ok (.aload_n 0, 1) := by decide +kernel
theorem dX5_cost_3 : decode cX5_cost 3 = .ok (.iload_n 1, 1) := by decide +kernel
theorem dX5_cost_4 : decode cX5_cost 4 = .ok (.invokevirtual 53, 3) := by decide +kernel
theorem dX5_cost_7 : decode cX5_cost 7 = .ok (.iload_n 2, 1) := by decide +kernel
theorem dX5_cost_8 : decode cX5_cost 8 = .ok (.iload_n 3, 1) := by decide +kernel
theorem dX5_cost_9 : decode cX5_cost 9 = .ok (.invokevirtual 188, 3) := by decide +kernel
theorem dX5_cost_12 : decode cX5_cost 12 = .ok (.putfield 34, 3) := by decide +kernel
theorem dX5_cost_15 : decode cX5_cost 15 = .ok (.aload_n 0, 1) := by decide +kernel
theorem dX5_cost_16 : decode cX5_cost 16 = .ok (.getfield 34, 3) := by decide +kernel
theorem dX5_cost_19 : decode cX5_cost 19 = .ok (.ifCond .eq 5, 3) := by decide +kernel
theorem dX5_cost_22 : decode cX5_cost 22 = .ok (.iconst 0, 1) := by decide +kernel
theorem dX5_cost_23 : decode cX5_cost 23 = .ok (.ireturn, 1) := by decide +kernel
theorem dX5_cost_24 : decode cX5_cost 24 = .ok (.iconst 0, 1) := by decide +kernel
theorem dX5_cost_25 : decode cX5_cost 25 = .ok (.istore 5, 2) := by decide +kernel
theorem dX5_cost_27 : decode cX5_cost 27 = .ok (.iconst 0, 1) := by decide +kernel
theorem dX5_cost_28 : decode cX5_cost 28 = .ok (.istore 6, 2) := by decide +kernel
theorem dX5_cost_30 : decode cX5_cost 30 = .ok (.iload 6, 2) := by decide +kernel
theorem dX5_cost_32 : decode cX5_cost 32 = .ok (.iload_n 2, 1) := by decide +kernel
theorem dX5_cost_33 : decode cX5_cost 33 = .ok (.iload_n 3, 1) := by decide +kernel
theorem dX5_cost_34 : decode cX5_cost 34 = .ok (.invokestatic 182, 3) := by decide +kernel
theorem dX5_cost_37 : decode cX5_cost 37 = .ok (.if_icmp .ge 59, 3) := by decide +kernel
theorem dX5_cost_40 : decode cX5_cost 40 = .ok (.aload_n 0, 1) := by decide +kernel
theorem dX5_cost_41 : decode cX5_cost 41 = .ok (.iload 6, 2) := by decide +kernel
theorem dX5_cost_43 : decode cX5_cost 43 = .ok (.iload_n 2, 1) := by decide +kernel
theorem dX5_cost_44 : decode cX5_cost 44 = .ok (.iload_n 3, 1) := by decide +kernel
theorem dX5_cost_45 : decode cX5_cost 45 = .ok (.invokevirtual 192, 3) := by decide +kernel
theorem dX5_cost_48 : decode cX5_cost 48 = .ok (.aload_n 0, 1) := by decide +kernel
theorem dX5_cost_49 : decode cX5_cost 49 = .ok (.aload_n 0, 1) := by decide +kernel
theorem dX5_cost_50 : decode cX5_cost 50 = .ok (.getfield 11, 3) := by decide +kernel
theorem dX5_cost_53 : decode cX5_cost 53 = .ok (.iload_n 1, 1) := by decide +kernel
theorem dX5_cost_54 : decode cX5_cost 54 = .ok (.aaload, 1) := by decide +kernel
theorem dX5_cost_55 : decode cX5_cost 55 = .ok (.aload_n 0, 1) := by decide +kernel
theorem dX5_cost_56 : decode cX5_cost 56 = .ok (.getfield 22, 3) := by decide +kernel
theorem dX5_cost_59 : decode cX5_cost 59 = .ok (.iload_n 2, 1) := by decide +kernel
theorem dX5_cost_60 : decode cX5_cost 60 = .ok (.invokevirtual 106, 3) := by decide +kernel
theorem dX5_cost_63 : decode cX5_cost 63 = .ok (.pop, 1) := by decide +kernel
theorem dX5_cost_64 : decode cX5_cost 64 = .ok (.iload 4, 2) := by decide +kernel
theorem dX5_cost_66 : decode cX5_cost 66 = .ok (.ifCond .eq 15, 3) := by decide +kernel
theorem dX5_cost_69 : decode cX5_cost 69 = .ok (.iload 5, 2) := by decide +kernel
theorem dX5_cost_71 : decode cX5_cost 71 = .ok (.aload_n 0, 1) := by decide +kernel
theorem dX5_cost_72 : decode cX5_cost 72 = .ok (.getfield 95, 3) := by decide +kernel
theorem dX5_cost_75 : decode cX5_cost 75 = .ok (.invokestatic 199, 3) := by decide +kernel
theorem dX5_cost_78 : decode cX5_cost 78 = .ok (.goto 10, 3) := by decide +kernel
theorem dX5_cost_81 : decode cX5_cost 81 = .ok (.iload 5, 2) := by decide +kernel
theorem dX5_cost_83 : decode cX5_cost 83 = .ok (.aload_n 0, 1) := by decide +kernel
theorem dX5_cost_84 : decode cX5_cost 84 = .ok (.getfield 95, 3) := by decide +kernel
theorem dX5_cost_87 : decode cX5_cost 87 = .ok (.iadd, 1) := by decide +kernel
theorem dX5_cost_88 : decode cX5_cost 88 = .ok (.istore 5, 2) := by decide +kernel
theorem dX5_cost_90 : decode cX5_cost 90 = .ok (.iinc 6 1, 3) := by decide +kernel
theorem dX5_cost_93 : decode cX5_cost 93 = .ok (.goto (-63), 3) := by decide +kernel
theorem dX5_cost_96 : decode cX5_cost 96 = .ok (.iload 5, 2) := by decide +kernel
theorem dX5_cost_98 : decode cX5_cost 98 = .ok (.ireturn, 1) := by decide +kernel
set_option maxRecDepth 20000 in
theorem ggX5_exits_X5_isProgram : GoodIn wsX5_exits wsX5_isProgram := goodIn_r _ [8, 9, 10, 11, 7, 12, 55, 56, 57, 58, 59, 60, 61, 62, 63, 64, 65] (by decide +kernel) (by decide +kernel)
set_option maxRecDepth 20000 in
theorem gX5_exits_X5_isProgram : GoodIn wsX5_exits (wsV RX5 53 RX5 yX5_isProgram wsX5_isProgram) := goodIn_app (goodIn_of _ (by decide +kernel)) ggX5_exits_X5_isProgram
set_option maxRecDepth 20000 in
theorem ggX5_exits_X5_whyCases : GoodIn wsX5_exits wsX5_whyCases := goodIn_r _ [16, 17, 18, 7, 19, 20, 21, 10, 11, 12, 22, 23, 24] (by decide +kernel) (by decide +kernel)
set_option maxRecDepth 20000 in
theorem gX5_exits_X5_whyCases : GoodIn wsX5_exits (wsV RX5 188 RX5 yX5_whyCases wsX5_whyCases) := goodIn_app (goodIn_of _ (by decide +kernel)) ggX5_exits_X5_whyCases
set_option maxRecDepth 20000 in
theorem ggX5_exits_X5_rows : GoodIn wsX5_exits wsX5_rows := goodIn_r _ [24] (by decide +kernel) (by decide +kernel)
set_option maxRecDepth 20000 in
theorem gX5_exits_X5_rows : GoodIn wsX5_exits (va_wsS RX5 182 yX5_rows wsX5_rows) := goodIn_app (goodIn_of _ (by decide +kernel)) ggX5_exits_X5_rows
set_option maxRecDepth 20000 in
theorem ggX5_exits_X5_layCase : GoodIn wsX5_exits wsX5_layCase := goodIn_r _ [28, 3, 55, 56, 57, 58, 59, 60, 61, 62, 63, 64, 65] (by decide +kernel) (by decide +kernel)
set_option maxRecDepth 20000 in
theorem gX5_exits_X5_layCase : GoodIn wsX5_exits (wsV RX5 192 RX5 yX5_layCase wsX5_layCase) := goodIn_app (goodIn_of _ (by decide +kernel)) ggX5_exits_X5_layCase
set_option maxRecDepth 20000 in
theorem ggX5_exits_X5_runOver : GoodIn wsX5_exits wsX5_runOver := goodIn_r _ [32, 33, 34, 35, 36, 7, 37, 38, 39, 40, 41, 42, 43, 44, 45, 46, 47, 48, 49, 50, 51, 52, 53, 54, 55, 56, 57, 58, 59, 60, 61, 62, 63, 64, 65] (by decide +kernel) (by decide +kernel)
set_option maxRecDepth 20000 in
theorem gX5_exits_X5_runOver : GoodIn wsX5_exits (wsV RX5 106 RX5 yX5_runOver wsX5_runOver) := goodIn_app (goodIn_of _ (by decide +kernel)) ggX5_exits_X5_runOver
theorem dX5_exits_0 : decode cX5_exits 0 = .ok (.aload_n 0, 1) := by decide +kernel
theorem dX5_exits_1 : decode cX5_exits 1 = .ok (.aload_n 0, 1) := by decide +kernel
theorem dX5_exits_2 : decode cX5_exits 2 = .ok (.aload_n 0, 1) := by decide +kernel
theorem dX5_exits_3 : decode cX5_exits 3 = .ok (.iload_n 1, 1) := by decide +kernel
theorem dX5_exits_4 : decode cX5_exits 4 = .ok (.invokevirtual 53, 3) := by decide +kernel
theorem dX5_exits_7 : decode cX5_exits 7 = .ok (.iload_n 2, 1) := by decide +kernel
theorem dX5_exits_8 : decode cX5_exits 8 = .ok (.iload_n 3, 1) := by decide +kernel
theorem dX5_exits_9 : decode cX5_exits 9 = .ok (.invokevirtual 188, 3) := by decide +kernel
theorem dX5_exits_12 : decode cX5_exits 12 = .ok (.putfield 34, 3) := by decide +kernel
theorem dX5_exits_15 : decode cX5_exits 15 = .ok (.aload_n 0, 1) := by decide +kernel
theorem dX5_exits_16 : decode cX5_exits 16 = .ok (.getfield 34, 3) := by decide +kernel
theorem dX5_exits_19 : decode cX5_exits 19 = .ok (.ifCond .eq 5, 3) := by decide +kernel
theorem dX5_exits_22 : decode cX5_exits 22 = .ok (.dconst 0, 1) := by decide +kernel
theorem dX5_exits_23 : decode cX5_exits 23 = .ok (.dreturn, 1) := by decide +kernel
theorem dX5_exits_24 : decode cX5_exits 24 = .ok (.iconst 0, 1) := by decide +kernel
theorem dX5_exits_25 : decode cX5_exits 25 = .ok (.istore 4, 2) := by decide +kernel
theorem dX5_exits_27 : decode cX5_exits 27 = .ok (.iconst 0, 1) := by decide +kernel
theorem dX5_exits_28 : decode cX5_exits 28 = .ok (.istore 5, 2) := by decide +kernel
theorem dX5_exits_30 : decode cX5_exits 30 = .ok (.iload 5, 2) := by decide +kernel
theorem dX5_exits_32 : decode cX5_exits 32 = .ok (.iload_n 2, 1) := by decide +kernel
theorem dX5_exits_33 : decode cX5_exits 33 = .ok (.iload_n 3, 1) := by decide +kernel
theorem dX5_exits_34 : decode cX5_exits 34 = .ok (.invokestatic 182, 3) := by decide +kernel
theorem dX5_exits_37 : decode cX5_exits 37 = .ok (.if_icmp .ge 46, 3) := by decide +kernel
theorem dX5_exits_40 : decode cX5_exits 40 = .ok (.aload_n 0, 1) := by decide +kernel
theorem dX5_exits_41 : decode cX5_exits 41 = .ok (.iload 5, 2) := by decide +kernel
theorem dX5_exits_43 : decode cX5_exits 43 = .ok (.iload_n 2, 1) := by decide +kernel
theorem dX5_exits_44 : decode cX5_exits 44 = .ok (.iload_n 3, 1) := by decide +kernel
theorem dX5_exits_45 : decode cX5_exits 45 = .ok (.invokevirtual 192, 3) := by decide +kernel
theorem dX5_exits_48 : decode cX5_exits 48 = .ok (.iload 4, 2) := by decide +kernel
theorem dX5_exits_50 : decode cX5_exits 50 = .ok (.aload_n 0, 1) := by decide +kernel
theorem dX5_exits_51 : decode cX5_exits 51 = .ok (.aload_n 0, 1) := by decide +kernel
theorem dX5_exits_52 : decode cX5_exits 52 = .ok (.getfield 11, 3) := by decide +kernel
theorem dX5_exits_55 : decode cX5_exits 55 = .ok (.iload_n 1, 1) := by decide +kernel
theorem dX5_exits_56 : decode cX5_exits 56 = .ok (.aaload, 1) := by decide +kernel
theorem dX5_exits_57 : decode cX5_exits 57 = .ok (.aload_n 0, 1) := by decide +kernel
theorem dX5_exits_58 : decode cX5_exits 58 = .ok (.getfield 22, 3) := by decide +kernel
theorem dX5_exits_61 : decode cX5_exits 61 = .ok (.iload_n 2, 1) := by decide +kernel
theorem dX5_exits_62 : decode cX5_exits 62 = .ok (.invokevirtual 106, 3) := by decide +kernel
theorem dX5_exits_65 : decode cX5_exits 65 = .ok (.iconst (-1), 1) := by decide +kernel
theorem dX5_exits_66 : decode cX5_exits 66 = .ok (.if_icmp .ne 7, 3) := by decide +kernel
theorem dX5_exits_69 : decode cX5_exits 69 = .ok (.iconst 0, 1) := by decide +kernel
theorem dX5_exits_70 : decode cX5_exits 70 = .ok (.goto 4, 3) := by decide +kernel
theorem dX5_exits_73 : decode cX5_exits 73 = .ok (.iconst 1, 1) := by decide +kernel
theorem dX5_exits_74 : decode cX5_exits 74 = .ok (.iadd, 1) := by decide +kernel
theorem dX5_exits_75 : decode cX5_exits 75 = .ok (.istore 4, 2) := by decide +kernel
theorem dX5_exits_77 : decode cX5_exits 77 = .ok (.iinc 5 1, 3) := by decide +kernel
theorem dX5_exits_80 : decode cX5_exits 80 = .ok (.goto (-50), 3) := by decide +kernel
theorem dX5_exits_83 : decode cX5_exits 83 = .ok (.iload 4, 2) := by decide +kernel
theorem dX5_exits_85 : decode cX5_exits 85 = .ok (.i2d, 1) := by decide +kernel
theorem dX5_exits_86 : decode cX5_exits 86 = .ok (.iload_n 2, 1) := by decide +kernel
theorem dX5_exits_87 : decode cX5_exits 87 = .ok (.iload_n 3, 1) := by decide +kernel
theorem dX5_exits_88 : decode cX5_exits 88 = .ok (.invokestatic 182, 3) := by decide +kernel
theorem dX5_exits_91 : decode cX5_exits 91 = .ok (.i2d, 1) := by decide +kernel
theorem dX5_exits_92 : decode cX5_exits 92 = .ok (.ddiv, 1) := by decide +kernel
theorem dX5_exits_93 : decode cX5_exits 93 = .ok (.dreturn, 1) := by decide +kernel
set_option maxRecDepth 20000 in
theorem ggX5_digest_X5_steps : GoodIn wsX5_digest wsX5_steps := goodIn_r _ [12, 13, 14, 11, 15] (by decide +kernel) (by decide +kernel)
set_option maxRecDepth 20000 in
theorem gX5_digest_X5_steps : GoodIn wsX5_digest (va_wsS RX5 84 yX5_steps wsX5_steps) := goodIn_app (goodIn_of _ (by decide +kernel)) ggX5_digest_X5_steps
set_option maxRecDepth 20000 in
theorem ggX5_digest_X5_loopAt : GoodIn wsX5_digest wsX5_loopAt := goodIn_r _ [15] (by decide +kernel) (by decide +kernel)
set_option maxRecDepth 20000 in
theorem gX5_digest_X5_loopAt : GoodIn wsX5_digest (va_wsS RX5 45 yX5_loopAt wsX5_loopAt) := goodIn_app (goodIn_of _ (by decide +kernel)) ggX5_digest_X5_loopAt
theorem dX5_digest_0 : decode cX5_digest 0 = .ok (.aload_n 0, 1) := by decide +kernel
theorem dX5_digest_1 : decode cX5_digest 1 = .ok (.iconst 0, 1) := by decide +kernel
theorem dX5_digest_2 : decode cX5_digest 2 = .ok (.putfield 34, 3) := by decide +kernel
theorem dX5_digest_5 : decode cX5_digest 5 = .ok (.ldc2_w 204, 3) := by decide +kernel
theorem dX5_digest_8 : decode cX5_digest 8 = .ok (.aload_n 0, 1) := by decide +kernel
theorem dX5_digest_9 : decode cX5_digest 9 = .ok (.getfield 38, 3) := by decide +kernel
theorem dX5_digest_12 : decode cX5_digest 12 = .ok (.i2l, 1) := by decide +kernel
theorem dX5_digest_13 : decode cX5_digest 13 = .ok (.ladd, 1) := by decide +kernel
theorem dX5_digest_14 : decode cX5_digest 14 = .ok (.lstore_n 1, 1) := by decide +kernel
theorem dX5_digest_15 : decode cX5_digest 15 = .ok (.iconst 0, 1) := by decide +kernel
theorem dX5_digest_16 : decode cX5_digest 16 = .ok (.istore_n 3, 1) := by decide +kernel
theorem dX5_digest_17 : decode cX5_digest 17 = .ok (.iload_n 3, 1) := by decide +kernel
theorem dX5_digest_18 : decode cX5_digest 18 = .ok (.aload_n 0, 1) := by decide +kernel
theorem dX5_digest_19 : decode cX5_digest 19 = .ok (.getfield 38, 3) := by decide +kernel
theorem dX5_digest_22 : decode cX5_digest 22 = .ok (.if_icmp .ge 91, 3) := by decide +kernel
theorem dX5_digest_25 : decode cX5_digest 25 = .ok (.aload_n 0, 1) := by decide +kernel
theorem dX5_digest_26 : decode cX5_digest 26 = .ok (.getfield 11, 3) := by decide +kernel
theorem dX5_digest_29 : decode cX5_digest 29 = .ok (.iload_n 3, 1) := by decide +kernel
theorem dX5_digest_30 : decode cX5_digest 30 = .ok (.aaload, 1) := by decide +kernel
theorem dX5_digest_31 : decode cX5_digest 31 = .ok (.astore 4, 2) := by decide +kernel
theorem dX5_digest_33 : decode cX5_digest 33 = .ok (.lload_n 1, 1) := by decide +kernel
theorem dX5_digest_34 : decode cX5_digest 34 = .ok (.ldc2_w 206, 3) := by decide +kernel
theorem dX5_digest_37 : decode cX5_digest 37 = .ok (.lmul, 1) := by decide +kernel
theorem dX5_digest_38 : decode cX5_digest 38 = .ok (.aload 4, 2) := by decide +kernel
theorem dX5_digest_40 : decode cX5_digest 40 = .ok (.iconst 0, 1) := by decide +kernel
theorem dX5_digest_41 : decode cX5_digest 41 = .ok (.iaload, 1) := by decide +kernel
theorem dX5_digest_42 : decode cX5_digest 42 = .ok (.i2l, 1) := by decide +kernel
theorem dX5_digest_43 : decode cX5_digest 43 = .ok (.ladd, 1) := by decide +kernel
theorem dX5_digest_44 : decode cX5_digest 44 = .ok (.lstore_n 1, 1) := by decide +kernel
theorem dX5_digest_45 : decode cX5_digest 45 = .ok (.iconst 0, 1) := by decide +kernel
theorem dX5_digest_46 : decode cX5_digest 46 = .ok (.istore 5, 2) := by decide +kernel
theorem dX5_digest_48 : decode cX5_digest 48 = .ok (.iload 5, 2) := by decide +kernel
theorem dX5_digest_50 : decode cX5_digest 50 = .ok (.aload 4, 2) := by decide +kernel
theorem dX5_digest_52 : decode cX5_digest 52 = .ok (.iconst 0, 1) := by decide +kernel
theorem dX5_digest_53 : decode cX5_digest 53 = .ok (.iaload, 1) := by decide +kernel
theorem dX5_digest_54 : decode cX5_digest 54 = .ok (.if_icmp .ge 53, 3) := by decide +kernel
theorem dX5_digest_57 : decode cX5_digest 57 = .ok (.iconst 0, 1) := by decide +kernel
theorem dX5_digest_58 : decode cX5_digest 58 = .ok (.istore 6, 2) := by decide +kernel
theorem dX5_digest_60 : decode cX5_digest 60 = .ok (.iload 6, 2) := by decide +kernel
theorem dX5_digest_62 : decode cX5_digest 62 = .ok (.iconst 4, 1) := by decide +kernel
theorem dX5_digest_63 : decode cX5_digest 63 = .ok (.iconst 4, 1) := by decide +kernel
theorem dX5_digest_64 : decode cX5_digest 64 = .ok (.aload 4, 2) := by decide +kernel
theorem dX5_digest_66 : decode cX5_digest 66 = .ok (.iload 5, 2) := by decide +kernel
theorem dX5_digest_68 : decode cX5_digest 68 = .ok (.invokestatic 84, 3) := by decide +kernel
theorem dX5_digest_71 : decode cX5_digest 71 = .ok (.imul, 1) := by decide +kernel
theorem dX5_digest_72 : decode cX5_digest 72 = .ok (.iadd, 1) := by decide +kernel
theorem dX5_digest_73 : decode cX5_digest 73 = .ok (.if_icmp .ge 28, 3) := by decide +kernel
theorem dX5_digest_76 : decode cX5_digest 76 = .ok (.lload_n 1, 1) := by decide +kernel
theorem dX5_digest_77 : decode cX5_digest 77 = .ok (.ldc2_w 206, 3) := by decide +kernel
theorem dX5_digest_80 : decode cX5_digest 80 = .ok (.lmul, 1) := by decide +kernel
theorem dX5_digest_81 : decode cX5_digest 81 = .ok (.aload 4, 2) := by decide +kernel
theorem dX5_digest_83 : decode cX5_digest 83 = .ok (.iload 5, 2) := by decide +kernel
theorem dX5_digest_85 : decode cX5_digest 85 = .ok (.invokestatic 45, 3) := by decide +kernel
theorem dX5_digest_88 : decode cX5_digest 88 = .ok (.iload 6, 2) := by decide +kernel
theorem dX5_digest_90 : decode cX5_digest 90 = .ok (.iadd, 1) := by decide +kernel
theorem dX5_digest_91 : decode cX5_digest 91 = .ok (.iaload, 1) := by decide +kernel
theorem dX5_digest_92 : decode cX5_digest 92 = .ok (.i2l, 1) := by decide +kernel
theorem dX5_digest_93 : decode cX5_digest 93 = .ok (.ladd, 1) := by decide +kernel
theorem dX5_digest_94 : decode cX5_digest 94 = .ok (.lstore_n 1, 1) := by decide +kernel
theorem dX5_digest_95 : decode cX5_digest 95 = .ok (.iinc 6 1, 3) := by decide +kernel
theorem dX5_digest_98 : decode cX5_digest 98 = .ok (.goto (-38), 3) := by decide +kernel
theorem dX5_digest_101 : decode cX5_digest 101 = .ok (.iinc 5 1, 3) := by decide +kernel
theorem dX5_digest_104 : decode cX5_digest 104 = .ok (.goto (-56), 3) := by decide +kernel
theorem dX5_digest_107 : decode cX5_digest 107 = .ok (.iinc 3 1, 3) := by decide +kernel
theorem dX5_digest_110 : decode cX5_digest 110 = .ok (.goto (-93), 3) := by decide +kernel
theorem dX5_digest_113 : decode cX5_digest 113 = .ok (.lload_n 1, 1) := by decide +kernel
theorem dX5_digest_114 : decode cX5_digest 114 = .ok (.ldc2_w 206, 3) := by decide +kernel
theorem dX5_digest_117 : decode cX5_digest 117 = .ok (.lmul, 1) := by decide +kernel
theorem dX5_digest_118 : decode cX5_digest 118 = .ok (.aload_n 0, 1) := by decide +kernel
theorem dX5_digest_119 : decode cX5_digest 119 = .ok (.getfield 92, 3) := by decide +kernel
theorem dX5_digest_122 : decode cX5_digest 122 = .ok (.i2l, 1) := by decide +kernel
theorem dX5_digest_123 : decode cX5_digest 123 = .ok (.ladd, 1) := by decide +kernel
theorem dX5_digest_124 : decode cX5_digest 124 = .ok (.lstore_n 1, 1) := by decide +kernel
theorem dX5_digest_125 : decode cX5_digest 125 = .ok (.iconst 0, 1) := by decide +kernel
theorem dX5_digest_126 : decode cX5_digest 126 = .ok (.istore_n 3, 1) := by decide +kernel
theorem dX5_digest_127 : decode cX5_digest 127 = .ok (.iload_n 3, 1) := by decide +kernel
theorem dX5_digest_128 : decode cX5_digest 128 = .ok (.aload_n 0, 1) := by decide +kernel
theorem dX5_digest_129 : decode cX5_digest 129 = .ok (.getfield 92, 3) := by decide +kernel
theorem dX5_digest_132 : decode cX5_digest 132 = .ok (.if_icmp .ge 22, 3) := by decide +kernel
theorem dX5_digest_135 : decode cX5_digest 135 = .ok (.lload_n 1, 1) := by decide +kernel
theorem dX5_digest_136 : decode cX5_digest 136 = .ok (.ldc2_w 206, 3) := by decide +kernel
theorem dX5_digest_139 : decode cX5_digest 139 = .ok (.lmul, 1) := by decide +kernel
theorem dX5_digest_140 : decode cX5_digest 140 = .ok (.aload_n 0, 1) := by decide +kernel
theorem dX5_digest_141 : decode cX5_digest 141 = .ok (.getfield 18, 3) := by decide +kernel
theorem dX5_digest_144 : decode cX5_digest 144 = .ok (.iload_n 3, 1) := by decide +kernel
theorem dX5_digest_145 : decode cX5_digest 145 = .ok (.laload, 1) := by decide +kernel
theorem dX5_digest_146 : decode cX5_digest 146 = .ok (.ladd, 1) := by decide +kernel
theorem dX5_digest_147 : decode cX5_digest 147 = .ok (.lstore_n 1, 1) := by decide +kernel
theorem dX5_digest_148 : decode cX5_digest 148 = .ok (.iinc 3 1, 3) := by decide +kernel
theorem dX5_digest_151 : decode cX5_digest 151 = .ok (.goto (-24), 3) := by decide +kernel
theorem dX5_digest_154 : decode cX5_digest 154 = .ok (.iconst 0, 1) := by decide +kernel
theorem dX5_digest_155 : decode cX5_digest 155 = .ok (.istore_n 3, 1) := by decide +kernel
theorem dX5_digest_156 : decode cX5_digest 156 = .ok (.iload_n 3, 1) := by decide +kernel
theorem dX5_digest_157 : decode cX5_digest 157 = .ok (.iconst 5, 1) := by decide +kernel
theorem dX5_digest_158 : decode cX5_digest 158 = .ok (.if_icmp .ge 22, 3) := by decide +kernel
theorem dX5_digest_161 : decode cX5_digest 161 = .ok (.lload_n 1, 1) := by decide +kernel
theorem dX5_digest_162 : decode cX5_digest 162 = .ok (.ldc2_w 206, 3) := by decide +kernel
theorem dX5_digest_165 : decode cX5_digest 165 = .ok (.lmul, 1) := by decide +kernel
theorem dX5_digest_166 : decode cX5_digest 166 = .ok (.aload_n 0, 1) := by decide +kernel
theorem dX5_digest_167 : decode cX5_digest 167 = .ok (.getfield 28, 3) := by decide +kernel
theorem dX5_digest_170 : decode cX5_digest 170 = .ok (.iload_n 3, 1) := by decide +kernel
theorem dX5_digest_171 : decode cX5_digest 171 = .ok (.laload, 1) := by decide +kernel
theorem dX5_digest_172 : decode cX5_digest 172 = .ok (.ladd, 1) := by decide +kernel
theorem dX5_digest_173 : decode cX5_digest 173 = .ok (.lstore_n 1, 1) := by decide +kernel
theorem dX5_digest_174 : decode cX5_digest 174 = .ok (.iinc 3 1, 3) := by decide +kernel
theorem dX5_digest_177 : decode cX5_digest 177 = .ok (.goto (-21), 3) := by decide +kernel
theorem dX5_digest_180 : decode cX5_digest 180 = .ok (.lload_n 1, 1) := by decide +kernel
theorem dX5_digest_181 : decode cX5_digest 181 = .ok (.lreturn, 1) := by decide +kernel
theorem dJ9_max_7cf53_0 : decode cJ9_max_7cf53 0 = .ok (.iload_n 0, 1) := by decide +kernel
theorem dJ9_max_7cf53_1 : decode cJ9_max_7cf53 1 = .ok (.iload_n 1, 1) := by decide +kernel
theorem dJ9_max_7cf53_2 : decode cJ9_max_7cf53 2 = .ok (.if_icmp .lt 7, 3) := by decide +kernel
theorem dJ9_max_7cf53_5 : decode cJ9_max_7cf53 5 = .ok (.iload_n 0, 1) := by decide +kernel
theorem dJ9_max_7cf53_6 : decode cJ9_max_7cf53 6 = .ok (.goto 4, 3) := by decide +kernel
theorem dJ9_max_7cf53_9 : decode cJ9_max_7cf53 9 = .ok (.iload_n 1, 1) := by decide +kernel
theorem dJ9_max_7cf53_10 : decode cJ9_max_7cf53 10 = .ok (.ireturn, 1) := by decide +kernel
set_option maxRecDepth 20000 in
theorem ggL_addProgram_X4_addProgram : GoodIn wsL_addProgram wsX4_addProgram := goodIn_ca (goodIn_r _ [6, 7, 8, 9, 10, 11, 12, 5, 13, 14, 15, 16, 17, 18, 19, 20, 21, 22, 23, 24, 25, 26, 27, 28, 29, 30, 31, 32, 33, 34, 35, 36, 37, 38, 39] (by decide +kernel) (by decide +kernel)) (goodIn_sub (fun _ h => List.mem_cons_of_mem _ (List.mem_append_right _ h)) (by decide +kernel))
set_option maxRecDepth 20000 in
theorem gL_addProgram_X4_addProgram : GoodIn wsL_addProgram (wsV RL 7 RX4 yX4_addProgram wsX4_addProgram) := goodIn_app (goodIn_of _ (by decide +kernel)) ggL_addProgram_X4_addProgram
theorem dL_addProgram_0 : decode cL_addProgram 0 = .ok (.aload_n 1, 1) := by decide +kernel
theorem dL_addProgram_1 : decode cL_addProgram 1 = .ok (.iconst 0, 1) := by decide +kernel
theorem dL_addProgram_2 : decode cL_addProgram 2 = .ok (.aload_n 0, 1) := by decide +kernel
theorem dL_addProgram_3 : decode cL_addProgram 3 = .ok (.invokevirtual 7, 3) := by decide +kernel
theorem dL_addProgram_6 : decode cL_addProgram 6 = .ok (.i2l, 1) := by decide +kernel
theorem dL_addProgram_7 : decode cL_addProgram 7 = .ok (.lastore, 1) := by decide +kernel
theorem dL_addProgram_8 : decode cL_addProgram 8 = .ok (.goto 6, 3) := by decide +kernel
theorem dL_addProgram_11 : decode cL_addProgram 11 = .ok (.astore_n 2, 1) := by decide +kernel
theorem dL_addProgram_12 : decode cL_addProgram 12 = .ok (.iconst 1, 1) := by decide +kernel
theorem dL_addProgram_13 : decode cL_addProgram 13 = .ok (.ireturn, 1) := by decide +kernel
theorem dL_addProgram_14 : decode cL_addProgram 14 = .ok (.iconst 0, 1) := by decide +kernel
theorem dL_addProgram_15 : decode cL_addProgram 15 = .ok (.ireturn, 1) := by decide +kernel
set_option maxRecDepth 20000 in
theorem ggL_addLoop_X4_addLoop : GoodIn wsL_addLoop wsX4_addLoop := goodIn_ca (goodIn_ca (goodIn_ca (goodIn_r _ [8, 9, 10, 11, 12, 13, 14, 15, 7, 16, 17, 18, 19, 20, 21, 22, 23, 24, 25, 26, 27, 28, 29, 30, 31, 32, 33, 34, 35, 36, 37, 38, 39, 40, 41, 42, 43, 44, 45, 46, 47, 48, 49, 50, 51] (by decide +kernel) (by decide +kernel)) (goodIn_sub (fun _ h => List.mem_cons_of_mem _ (List.mem_append_left _ (List.mem_append_left _ (List.mem_append_right _ h)))) (by decide +kernel))) (goodIn_sub (fun _ h => List.mem_cons_of_mem _ (List.mem_append_left _ (List.mem_append_right _ h))) (by decide +kernel))) (goodIn_sub (fun _ h => List.mem_cons_of_mem _ (List.mem_append_right _ h)) (by decide +kernel))
set_option maxRecDepth 20000 in
theorem gL_addLoop_X4_addLoop : GoodIn wsL_addLoop (wsV RL 15 RX4 yX4_addLoop wsX4_addLoop) := goodIn_app (goodIn_of _ (by decide +kernel)) ggL_addLoop_X4_addLoop
theorem dL_addLoop_0 : decode cL_addLoop 0 = .ok (.aload 5, 2) := by decide +kernel
theorem dL_addLoop_2 : decode cL_addLoop 2 = .ok (.iconst 0, 1) := by decide +kernel
theorem dL_addLoop_3 : decode cL_addLoop 3 = .ok (.aload_n 0, 1) := by decide +kernel
theorem dL_addLoop_4 : decode cL_addLoop 4 = .ok (.iload_n 1, 1) := by decide +kernel
theorem dL_addLoop_5 : decode cL_addLoop 5 = .ok (.iload_n 2, 1) := by decide +kernel
theorem dL_addLoop_6 : decode cL_addLoop 6 = .ok (.iload_n 3, 1) := by decide +kernel
theorem dL_addLoop_7 : decode cL_addLoop 7 = .ok (.iload 4, 2) := by decide +kernel
theorem dL_addLoop_9 : decode cL_addLoop 9 = .ok (.invokevirtual 15, 3) := by decide +kernel
theorem dL_addLoop_12 : decode cL_addLoop 12 = .ok (.i2l, 1) := by decide +kernel
theorem dL_addLoop_13 : decode cL_addLoop 13 = .ok (.lastore, 1) := by decide +kernel
theorem dL_addLoop_14 : decode cL_addLoop 14 = .ok (.goto 15, 3) := by decide +kernel
theorem dL_addLoop_17 : decode cL_addLoop 17 = .ok (.astore 6, 2) := by decide +kernel
theorem dL_addLoop_19 : decode cL_addLoop 19 = .ok (.iconst 1, 1) := by decide +kernel
theorem dL_addLoop_20 : decode cL_addLoop 20 = .ok (.ireturn, 1) := by decide +kernel
theorem dL_addLoop_21 : decode cL_addLoop 21 = .ok (.astore 6, 2) := by decide +kernel
theorem dL_addLoop_23 : decode cL_addLoop 23 = .ok (.iconst 2, 1) := by decide +kernel
theorem dL_addLoop_24 : decode cL_addLoop 24 = .ok (.ireturn, 1) := by decide +kernel
theorem dL_addLoop_25 : decode cL_addLoop 25 = .ok (.astore 6, 2) := by decide +kernel
theorem dL_addLoop_27 : decode cL_addLoop 27 = .ok (.iconst 3, 1) := by decide +kernel
theorem dL_addLoop_28 : decode cL_addLoop 28 = .ok (.ireturn, 1) := by decide +kernel
theorem dL_addLoop_29 : decode cL_addLoop 29 = .ok (.iconst 0, 1) := by decide +kernel
theorem dL_addLoop_30 : decode cL_addLoop 30 = .ok (.ireturn, 1) := by decide +kernel
set_option maxRecDepth 20000 in
theorem ggL_addStep_X4_addStep : GoodIn wsL_addStep wsX4_addStep := goodIn_ca (goodIn_ca (goodIn_ca (goodIn_r _ [8, 9, 10, 11, 12, 13, 14, 15, 7, 16, 17, 18, 19, 20, 21, 22, 23, 24, 25, 26, 27, 28, 29, 30, 31, 32, 33, 34, 35, 36, 37, 38, 39, 40, 41, 42, 43, 44, 45, 46, 47, 48, 49, 50, 51, 52, 53, 54, 55, 56, 57, 58, 59, 60, 61, 62, 63, 64, 65, 66, 67, 68, 69, 70, 71, 72, 73, 74, 75, 76, 77, 78, 79] (by decide +kernel) (by decide +kernel)) (goodIn_sub (fun _ h => List.mem_cons_of_mem _ (List.mem_append_left _ (List.mem_append_left _ (List.mem_append_right _ h)))) (by decide +kernel))) (goodIn_sub (fun _ h => List.mem_cons_of_mem _ (List.mem_append_left _ (List.mem_append_right _ h))) (by decide +kernel))) (goodIn_sub (fun _ h => List.mem_cons_of_mem _ (List.mem_append_right _ h)) (by decide +kernel))
set_option maxRecDepth 20000 in
theorem gL_addStep_X4_addStep : GoodIn wsL_addStep (wsV RL 23 RX4 yX4_addStep wsX4_addStep) := goodIn_app (goodIn_of _ (by decide +kernel)) ggL_addStep_X4_addStep
theorem dL_addStep_0 : decode cL_addStep 0 = .ok (.aload 7, 2) := by decide +kernel
theorem dL_addStep_2 : decode cL_addStep 2 = .ok (.iconst 0, 1) := by decide +kernel
theorem dL_addStep_3 : decode cL_addStep 3 = .ok (.aload_n 0, 1) := by decide +kernel
theorem dL_addStep_4 : decode cL_addStep 4 = .ok (.iload_n 1, 1) := by decide +kernel
theorem dL_addStep_5 : decode cL_addStep 5 = .ok (.iload_n 2, 1) := by decide +kernel
theorem dL_addStep_6 : decode cL_addStep 6 = .ok (.iload_n 3, 1) := by decide +kernel
theorem dL_addStep_7 : decode cL_addStep 7 = .ok (.iload 4, 2) := by decide +kernel
theorem dL_addStep_9 : decode cL_addStep 9 = .ok (.iload 5, 2) := by decide +kernel
theorem dL_addStep_11 : decode cL_addStep 11 = .ok (.iload 6, 2) := by decide +kernel
theorem dL_addStep_13 : decode cL_addStep 13 = .ok (.invokevirtual 23, 3) := by decide +kernel
theorem dL_addStep_16 : decode cL_addStep 16 = .ok (.i2l, 1) := by decide +kernel
theorem dL_addStep_17 : decode cL_addStep 17 = .ok (.lastore, 1) := by decide +kernel
theorem dL_addStep_18 : decode cL_addStep 18 = .ok (.goto 15, 3) := by decide +kernel
theorem dL_addStep_21 : decode cL_addStep 21 = .ok (.astore 8, 2) := by decide +kernel
theorem dL_addStep_23 : decode cL_addStep 23 = .ok (.iconst 1, 1) := by decide +kernel
theorem dL_addStep_24 : decode cL_addStep 24 = .ok (.ireturn, 1) := by decide +kernel
theorem dL_addStep_25 : decode cL_addStep 25 = .ok (.astore 8, 2) := by decide +kernel
theorem dL_addStep_27 : decode cL_addStep 27 = .ok (.iconst 2, 1) := by decide +kernel
theorem dL_addStep_28 : decode cL_addStep 28 = .ok (.ireturn, 1) := by decide +kernel
theorem dL_addStep_29 : decode cL_addStep 29 = .ok (.astore 8, 2) := by decide +kernel
theorem dL_addStep_31 : decode cL_addStep 31 = .ok (.iconst 3, 1) := by decide +kernel
theorem dL_addStep_32 : decode cL_addStep 32 = .ok (.ireturn, 1) := by decide +kernel
theorem dL_addStep_33 : decode cL_addStep 33 = .ok (.iconst 0, 1) := by decide +kernel
theorem dL_addStep_34 : decode cL_addStep 34 = .ok (.ireturn, 1) := by decide +kernel
set_option maxRecDepth 20000 in
theorem ggL_loop_X4_loop : GoodIn wsL_loop wsX4_loop := goodIn_ca (goodIn_r _ [6, 7, 8, 9, 10, 11, 5, 12, 13, 14, 15, 16, 17, 18, 19, 20, 21, 22, 23, 24, 25, 26, 27, 28, 29, 30, 31, 32, 33, 34, 35, 36, 37, 38, 39, 40, 41, 42, 43, 44] (by decide +kernel) (by decide +kernel)) (goodIn_sub (fun _ h => List.mem_cons_of_mem _ (List.mem_append_right _ h)) (by decide +kernel))
set_option maxRecDepth 20000 in
theorem gL_loop_X4_loop : GoodIn wsL_loop (wsV RL 27 RX4 yX4_loop wsX4_loop) := goodIn_app (goodIn_of _ (by decide +kernel)) ggL_loop_X4_loop
theorem dL_loop_0 : decode cL_loop 0 = .ok (.aload 4, 2) := by decide +kernel
theorem dL_loop_2 : decode cL_loop 2 = .ok (.iconst 0, 1) := by decide +kernel
theorem dL_loop_3 : decode cL_loop 3 = .ok (.aload_n 0, 1) := by decide +kernel
theorem dL_loop_4 : decode cL_loop 4 = .ok (.iload_n 1, 1) := by decide +kernel
theorem dL_loop_5 : decode cL_loop 5 = .ok (.iload_n 2, 1) := by decide +kernel
theorem dL_loop_6 : decode cL_loop 6 = .ok (.iload_n 3, 1) := by decide +kernel
theorem dL_loop_7 : decode cL_loop 7 = .ok (.invokevirtual 27, 3) := by decide +kernel
theorem dL_loop_10 : decode cL_loop 10 = .ok (.i2l, 1) := by decide +kernel
theorem dL_loop_11 : decode cL_loop 11 = .ok (.lastore, 1) := by decide +kernel
theorem dL_loop_12 : decode cL_loop 12 = .ok (.goto 7, 3) := by decide +kernel
theorem dL_loop_15 : decode cL_loop 15 = .ok (.astore 5, 2) := by decide +kernel
theorem dL_loop_17 : decode cL_loop 17 = .ok (.iconst 1, 1) := by decide +kernel
theorem dL_loop_18 : decode cL_loop 18 = .ok (.ireturn, 1) := by decide +kernel
theorem dL_loop_19 : decode cL_loop 19 = .ok (.iconst 0, 1) := by decide +kernel
theorem dL_loop_20 : decode cL_loop 20 = .ok (.ireturn, 1) := by decide +kernel
set_option maxRecDepth 20000 in
theorem ggL_step_X4_step : GoodIn wsL_step wsX4_step := goodIn_ca (goodIn_r _ [6, 7, 8, 9, 10, 11, 5, 12, 13, 14, 15, 16, 17, 18, 19, 20, 21, 22, 23, 24, 25, 26, 27, 28, 29, 30, 31, 32, 33, 34, 35, 36, 37, 38, 39, 40, 41, 42, 43, 44, 45, 46, 47, 48, 49, 50, 51, 52] (by decide +kernel) (by decide +kernel)) (goodIn_sub (fun _ h => List.mem_cons_of_mem _ (List.mem_append_right _ h)) (by decide +kernel))
set_option maxRecDepth 20000 in
theorem gL_step_X4_step : GoodIn wsL_step (wsV RL 31 RX4 yX4_step wsX4_step) := goodIn_app (goodIn_of _ (by decide +kernel)) ggL_step_X4_step
theorem dL_step_0 : decode cL_step 0 = .ok (.aload 5, 2) := by decide +kernel
theorem dL_step_2 : decode cL_step 2 = .ok (.iconst 0, 1) := by decide +kernel
theorem dL_step_3 : decode cL_step 3 = .ok (.aload_n 0, 1) := by decide +kernel
theorem dL_step_4 : decode cL_step 4 = .ok (.iload_n 1, 1) := by decide +kernel
theorem dL_step_5 : decode cL_step 5 = .ok (.iload_n 2, 1) := by decide +kernel
theorem dL_step_6 : decode cL_step 6 = .ok (.iload_n 3, 1) := by decide +kernel
theorem dL_step_7 : decode cL_step 7 = .ok (.iload 4, 2) := by decide +kernel
theorem dL_step_9 : decode cL_step 9 = .ok (.invokevirtual 31, 3) := by decide +kernel
theorem dL_step_12 : decode cL_step 12 = .ok (.i2l, 1) := by decide +kernel
theorem dL_step_13 : decode cL_step 13 = .ok (.lastore, 1) := by decide +kernel
theorem dL_step_14 : decode cL_step 14 = .ok (.goto 7, 3) := by decide +kernel
theorem dL_step_17 : decode cL_step 17 = .ok (.astore 6, 2) := by decide +kernel
theorem dL_step_19 : decode cL_step 19 = .ok (.iconst 1, 1) := by decide +kernel
theorem dL_step_20 : decode cL_step 20 = .ok (.ireturn, 1) := by decide +kernel
theorem dL_step_21 : decode cL_step 21 = .ok (.iconst 0, 1) := by decide +kernel
theorem dL_step_22 : decode cL_step 22 = .ok (.ireturn, 1) := by decide +kernel
set_option maxRecDepth 20000 in
theorem ggL_loops_X4_loops : GoodIn wsL_loops wsX4_loops := goodIn_ca (goodIn_r _ [6, 7, 8, 9, 5, 10, 11, 12, 13, 14, 15, 16, 17, 18, 19, 20, 21, 22, 23, 24, 25, 26, 27, 28, 29] (by decide +kernel) (by decide +kernel)) (goodIn_sub (fun _ h => List.mem_cons_of_mem _ (List.mem_append_right _ h)) (by decide +kernel))
set_option maxRecDepth 20000 in
theorem gL_loops_X4_loops : GoodIn wsL_loops (wsV RL 35 RX4 yX4_loops wsX4_loops) := goodIn_app (goodIn_of _ (by decide +kernel)) ggL_loops_X4_loops
theorem dL_loops_0 : decode cL_loops 0 = .ok (.aload_n 2, 1) := by decide +kernel
theorem dL_loops_1 : decode cL_loops 1 = .ok (.iconst 0, 1) := by decide +kernel
theorem dL_loops_2 : decode cL_loops 2 = .ok (.aload_n 0, 1) := by decide +kernel
theorem dL_loops_3 : decode cL_loops 3 = .ok (.iload_n 1, 1) := by decide +kernel
theorem dL_loops_4 : decode cL_loops 4 = .ok (.invokevirtual 35, 3) := by decide +kernel
theorem dL_loops_7 : decode cL_loops 7 = .ok (.i2l, 1) := by decide +kernel
theorem dL_loops_8 : decode cL_loops 8 = .ok (.lastore, 1) := by decide +kernel
theorem dL_loops_9 : decode cL_loops 9 = .ok (.goto 6, 3) := by decide +kernel
theorem dL_loops_12 : decode cL_loops 12 = .ok (.astore_n 3, 1) := by decide +kernel
theorem dL_loops_13 : decode cL_loops 13 = .ok (.iconst 1, 1) := by decide +kernel
theorem dL_loops_14 : decode cL_loops 14 = .ok (.ireturn, 1) := by decide +kernel
theorem dL_loops_15 : decode cL_loops 15 = .ok (.iconst 0, 1) := by decide +kernel
theorem dL_loops_16 : decode cL_loops 16 = .ok (.ireturn, 1) := by decide +kernel
set_option maxRecDepth 20000 in
theorem ggL_put_X4_put : GoodIn wsL_put wsX4_put := goodIn_ca (goodIn_r _ [6, 7, 8, 9, 10, 11, 12, 13, 14, 15, 16, 17, 18] (by decide +kernel) (by decide +kernel)) (goodIn_sub (fun _ h => List.mem_cons_of_mem _ (List.mem_append_right _ h)) (by decide +kernel))
set_option maxRecDepth 20000 in
theorem gL_put_X4_put : GoodIn wsL_put (wsV RL 39 RX4 yX4_put wsX4_put) := goodIn_app (goodIn_of _ (by decide +kernel)) ggL_put_X4_put
theorem dL_put_0 : decode cL_put 0 = .ok (.aload_n 3, 1) := by decide +kernel
theorem dL_put_1 : decode cL_put 1 = .ok (.iconst 0, 1) := by decide +kernel
theorem dL_put_2 : decode cL_put 2 = .ok (.aload_n 0, 1) := by decide +kernel
theorem dL_put_3 : decode cL_put 3 = .ok (.lload_n 1, 1) := by decide +kernel
theorem dL_put_4 : decode cL_put 4 = .ok (.invokevirtual 39, 3) := by decide +kernel
theorem dL_put_7 : decode cL_put 7 = .ok (.i2l, 1) := by decide +kernel
theorem dL_put_8 : decode cL_put 8 = .ok (.lastore, 1) := by decide +kernel
theorem dL_put_9 : decode cL_put 9 = .ok (.goto 7, 3) := by decide +kernel
theorem dL_put_12 : decode cL_put 12 = .ok (.astore 4, 2) := by decide +kernel
theorem dL_put_14 : decode cL_put 14 = .ok (.iconst 1, 1) := by decide +kernel
theorem dL_put_15 : decode cL_put 15 = .ok (.ireturn, 1) := by decide +kernel
theorem dL_put_16 : decode cL_put 16 = .ok (.iconst 0, 1) := by decide +kernel
theorem dL_put_17 : decode cL_put 17 = .ok (.ireturn, 1) := by decide +kernel
set_option maxRecDepth 20000 in
theorem ggL_run_X4_run : GoodIn wsL_run wsX4_run := goodIn_ca (goodIn_r _ [6, 7, 8, 9, 10, 11, 12, 5, 13, 14, 15, 16, 17, 18, 19, 20, 21, 22, 23, 24, 25, 26, 27, 28, 29, 30, 31, 32, 33, 34, 35, 36, 37, 38, 39, 40, 41, 42, 43, 44, 45, 46, 47, 48, 49, 50, 51, 52, 53, 54, 55, 56, 57, 58, 59, 60, 61, 62, 63, 64, 65, 66, 67, 68, 69, 70, 71, 72, 73, 74, 75, 76, 77, 78, 79, 80, 81, 82, 83, 84, 85, 86, 87, 88, 89, 90, 91] (by decide +kernel) (by decide +kernel)) (goodIn_sub (fun _ h => List.mem_cons_of_mem _ (List.mem_append_right _ h)) (by decide +kernel))
set_option maxRecDepth 20000 in
theorem gL_run_X4_run : GoodIn wsL_run (wsV RL 43 RX4 yX4_run wsX4_run) := goodIn_app (goodIn_of _ (by decide +kernel)) ggL_run_X4_run
theorem dL_run_0 : decode cL_run 0 = .ok (.aload_n 2, 1) := by decide +kernel
theorem dL_run_1 : decode cL_run 1 = .ok (.iconst 0, 1) := by decide +kernel
theorem dL_run_2 : decode cL_run 2 = .ok (.aload_n 0, 1) := by decide +kernel
theorem dL_run_3 : decode cL_run 3 = .ok (.iload_n 1, 1) := by decide +kernel
theorem dL_run_4 : decode cL_run 4 = .ok (.invokevirtual 43, 3) := by decide +kernel
theorem dL_run_7 : decode cL_run 7 = .ok (.i2l, 1) := by decide +kernel
theorem dL_run_8 : decode cL_run 8 = .ok (.lastore, 1) := by decide +kernel
theorem dL_run_9 : decode cL_run 9 = .ok (.goto 6, 3) := by decide +kernel
theorem dL_run_12 : decode cL_run 12 = .ok (.astore_n 3, 1) := by decide +kernel
theorem dL_run_13 : decode cL_run 13 = .ok (.iconst 1, 1) := by decide +kernel
theorem dL_run_14 : decode cL_run 14 = .ok (.ireturn, 1) := by decide +kernel
theorem dL_run_15 : decode cL_run 15 = .ok (.iconst 0, 1) := by decide +kernel
theorem dL_run_16 : decode cL_run 16 = .ok (.ireturn, 1) := by decide +kernel
set_option maxRecDepth 20000 in
theorem ggL_ran_X4_ran : GoodIn wsL_ran wsX4_ran := goodIn_ca (goodIn_r _ [6, 7, 8, 9, 10, 11, 5, 12, 13, 14, 15, 16, 17, 18, 19, 20, 21, 22, 23, 24, 25, 26, 27, 28, 29, 30, 31, 32, 33, 34] (by decide +kernel) (by decide +kernel)) (goodIn_sub (fun _ h => List.mem_cons_of_mem _ (List.mem_append_right _ h)) (by decide +kernel))
set_option maxRecDepth 20000 in
theorem gL_ran_X4_ran : GoodIn wsL_ran (wsV RL 46 RX4 yX4_ran wsX4_ran) := goodIn_app (goodIn_of _ (by decide +kernel)) ggL_ran_X4_ran
theorem dL_ran_0 : decode cL_ran 0 = .ok (.aload_n 2, 1) := by decide +kernel
theorem dL_ran_1 : decode cL_ran 1 = .ok (.iconst 0, 1) := by decide +kernel
theorem dL_ran_2 : decode cL_ran 2 = .ok (.aload_n 0, 1) := by decide +kernel
theorem dL_ran_3 : decode cL_ran 3 = .ok (.iload_n 1, 1) := by decide +kernel
theorem dL_ran_4 : decode cL_ran 4 = .ok (.invokevirtual 46, 3) := by decide +kernel
theorem dL_ran_7 : decode cL_ran 7 = .ok (.lastore, 1) := by decide +kernel
theorem dL_ran_8 : decode cL_ran 8 = .ok (.goto 6, 3) := by decide +kernel
theorem dL_ran_11 : decode cL_ran 11 = .ok (.astore_n 3, 1) := by decide +kernel
theorem dL_ran_12 : decode cL_ran 12 = .ok (.iconst 1, 1) := by decide +kernel
theorem dL_ran_13 : decode cL_ran 13 = .ok (.ireturn, 1) := by decide +kernel
theorem dL_ran_14 : decode cL_ran 14 = .ok (.iconst 0, 1) := by decide +kernel
theorem dL_ran_15 : decode cL_ran 15 = .ok (.ireturn, 1) := by decide +kernel
set_option maxRecDepth 20000 in
theorem ggL_reason_X4_reason : GoodIn wsL_reason wsX4_reason := goodIn_ca (goodIn_ca (goodIn_r _ [7, 8, 9, 10, 6, 11, 12, 13, 14, 15, 16, 17, 18, 19, 20, 21, 22, 23, 24, 25, 26, 27, 28, 29, 30, 31, 32, 33, 34, 35, 36, 37, 38, 39, 40, 41, 42, 43, 44, 45, 46, 47, 48, 49, 50, 51, 52, 53, 54, 55, 56, 57, 58, 59, 60, 61, 62, 63, 64, 65, 66, 67, 68, 69, 70, 71, 72, 73, 74, 75, 76, 77, 78, 79, 80, 81, 82, 83, 84, 85, 86, 87, 88, 89, 90, 91, 92, 93, 94, 95, 96, 97, 98, 99, 100, 101, 102, 103] (by decide +kernel) (by decide +kernel)) (goodIn_sub (fun _ h => List.mem_cons_of_mem _ (List.mem_append_left _ (List.mem_append_right _ h))) (by decide +kernel))) (goodIn_sub (fun _ h => List.mem_cons_of_mem _ (List.mem_append_right _ h)) (by decide +kernel))
set_option maxRecDepth 20000 in
theorem gL_reason_X4_reason : GoodIn wsL_reason (wsV RL 50 RX4 yX4_reason wsX4_reason) := goodIn_app (goodIn_of _ (by decide +kernel)) ggL_reason_X4_reason
theorem dL_reason_0 : decode cL_reason 0 = .ok (.aload 5, 2) := by decide +kernel
theorem dL_reason_2 : decode cL_reason 2 = .ok (.iconst 0, 1) := by decide +kernel
theorem dL_reason_3 : decode cL_reason 3 = .ok (.aload_n 0, 1) := by decide +kernel
theorem dL_reason_4 : decode cL_reason 4 = .ok (.iload_n 1, 1) := by decide +kernel
theorem dL_reason_5 : decode cL_reason 5 = .ok (.iload_n 2, 1) := by decide +kernel
theorem dL_reason_6 : decode cL_reason 6 = .ok (.iload_n 3, 1) := by decide +kernel
theorem dL_reason_7 : decode cL_reason 7 = .ok (.iload 4, 2) := by decide +kernel
theorem dL_reason_9 : decode cL_reason 9 = .ok (.invokevirtual 50, 3) := by decide +kernel
theorem dL_reason_12 : decode cL_reason 12 = .ok (.i2l, 1) := by decide +kernel
theorem dL_reason_13 : decode cL_reason 13 = .ok (.lastore, 1) := by decide +kernel
theorem dL_reason_14 : decode cL_reason 14 = .ok (.goto 11, 3) := by decide +kernel
theorem dL_reason_17 : decode cL_reason 17 = .ok (.astore 6, 2) := by decide +kernel
theorem dL_reason_19 : decode cL_reason 19 = .ok (.iconst 1, 1) := by decide +kernel
theorem dL_reason_20 : decode cL_reason 20 = .ok (.ireturn, 1) := by decide +kernel
theorem dL_reason_21 : decode cL_reason 21 = .ok (.astore 6, 2) := by decide +kernel
theorem dL_reason_23 : decode cL_reason 23 = .ok (.iconst 2, 1) := by decide +kernel
theorem dL_reason_24 : decode cL_reason 24 = .ok (.ireturn, 1) := by decide +kernel
theorem dL_reason_25 : decode cL_reason 25 = .ok (.iconst 0, 1) := by decide +kernel
theorem dL_reason_26 : decode cL_reason 26 = .ok (.ireturn, 1) := by decide +kernel
set_option maxRecDepth 20000 in
theorem ggL_change_X4_change : GoodIn wsL_change wsX4_change := goodIn_ca (goodIn_ca (goodIn_ca (goodIn_r _ [8, 9, 10, 11, 12, 13, 14, 15, 16, 7, 17, 18, 19, 20, 21, 22, 23, 24, 25, 26, 27, 28, 29, 30, 31, 32, 33, 34, 35, 36, 37, 38, 39, 40, 41, 42, 43, 44, 45, 46, 47, 48, 49, 50, 51, 52, 53, 54, 55, 56, 57, 58, 59, 60, 61, 62, 63, 64, 65, 66, 67, 68, 69, 70, 71, 72, 73, 74, 75, 76, 77, 78, 79, 80, 81, 82, 83, 84, 85, 86, 87, 88, 89, 90, 91, 92, 93, 94, 95, 96, 97, 98, 99, 100, 101, 102, 103, 104, 105, 106, 107, 108, 109, 110, 111, 112, 113, 114, 115, 116, 117, 118, 119, 120, 121, 122, 123, 124, 125, 126, 127, 128, 129, 130, 131, 132, 133, 134, 135, 136, 137, 138, 139, 140, 141, 142, 143, 144, 145, 146, 147, 148, 149, 150, 151, 152, 153, 154, 155, 156, 157, 158, 159, 160, 161, 162, 163, 164, 165, 166, 167, 168, 169, 170, 171, 172, 173, 174, 175, 176, 177, 178, 179, 180] (by decide +kernel) (by decide +kernel)) (goodIn_sub (fun _ h => List.mem_cons_of_mem _ (List.mem_append_left _ (List.mem_append_left _ (List.mem_append_right _ h)))) (by decide +kernel))) (goodIn_sub (fun _ h => List.mem_cons_of_mem _ (List.mem_append_left _ (List.mem_append_right _ h))) (by decide +kernel))) (goodIn_sub (fun _ h => List.mem_cons_of_mem _ (List.mem_append_right _ h)) (by decide +kernel))
set_option maxRecDepth 20000 in
theorem gL_change_X4_change : GoodIn wsL_change (wsV RL 53 RX4 yX4_change wsX4_change) := goodIn_app (goodIn_of _ (by decide +kernel)) ggL_change_X4_change
theorem dL_change_0 : decode cL_change 0 = .ok (.aload 5, 2) := by decide +kernel
theorem dL_change_2 : decode cL_change 2 = .ok (.iconst 0, 1) := by decide +kernel
theorem dL_change_3 : decode cL_change 3 = .ok (.aload_n 0, 1) := by decide +kernel
theorem dL_change_4 : decode cL_change 4 = .ok (.iload_n 1, 1) := by decide +kernel
theorem dL_change_5 : decode cL_change 5 = .ok (.iload_n 2, 1) := by decide +kernel
theorem dL_change_6 : decode cL_change 6 = .ok (.iload_n 3, 1) := by decide +kernel
theorem dL_change_7 : decode cL_change 7 = .ok (.iload 4, 2) := by decide +kernel
theorem dL_change_9 : decode cL_change 9 = .ok (.invokevirtual 53, 3) := by decide +kernel
theorem dL_change_12 : decode cL_change 12 = .ok (.i2l, 1) := by decide +kernel
theorem dL_change_13 : decode cL_change 13 = .ok (.lastore, 1) := by decide +kernel
theorem dL_change_14 : decode cL_change 14 = .ok (.goto 15, 3) := by decide +kernel
theorem dL_change_17 : decode cL_change 17 = .ok (.astore 6, 2) := by decide +kernel
theorem dL_change_19 : decode cL_change 19 = .ok (.iconst 1, 1) := by decide +kernel
theorem dL_change_20 : decode cL_change 20 = .ok (.ireturn, 1) := by decide +kernel
theorem dL_change_21 : decode cL_change 21 = .ok (.astore 6, 2) := by decide +kernel
theorem dL_change_23 : decode cL_change 23 = .ok (.iconst 2, 1) := by decide +kernel
theorem dL_change_24 : decode cL_change 24 = .ok (.ireturn, 1) := by decide +kernel
theorem dL_change_25 : decode cL_change 25 = .ok (.astore 6, 2) := by decide +kernel
theorem dL_change_27 : decode cL_change 27 = .ok (.iconst 3, 1) := by decide +kernel
theorem dL_change_28 : decode cL_change 28 = .ok (.ireturn, 1) := by decide +kernel
theorem dL_change_29 : decode cL_change 29 = .ok (.iconst 0, 1) := by decide +kernel
theorem dL_change_30 : decode cL_change 30 = .ok (.ireturn, 1) := by decide +kernel
set_option maxRecDepth 20000 in
theorem ggL_joinAll_X4_joinAll : GoodIn wsL_joinAll wsX4_joinAll := goodIn_ca (goodIn_r _ [6, 7, 8, 9, 5, 10, 11, 12, 13, 14, 15, 16, 17, 18, 19, 20, 21, 22, 23, 24, 25, 26, 27, 28, 29, 30, 31, 32, 33, 34, 35, 36, 37, 38, 39, 40, 41, 42, 43, 44, 45, 46, 47, 48, 49, 50, 51, 52, 53, 54, 55, 56, 57, 58, 59, 60, 61, 62, 63, 64, 65, 66, 67, 68, 69, 70, 71, 72, 73, 74, 75, 76, 77, 78, 79, 80, 81, 82, 83, 84, 85, 86, 87, 88, 89, 90, 91, 92, 93, 94, 95, 96, 97, 98] (by decide +kernel) (by decide +kernel)) (goodIn_sub (fun _ h => List.mem_cons_of_mem _ (List.mem_append_right _ h)) (by decide +kernel))
set_option maxRecDepth 20000 in
theorem gL_joinAll_X4_joinAll : GoodIn wsL_joinAll (wsV RL 56 RX4 yX4_joinAll wsX4_joinAll) := goodIn_app (goodIn_of _ (by decide +kernel)) ggL_joinAll_X4_joinAll
theorem dL_joinAll_0 : decode cL_joinAll 0 = .ok (.aload_n 2, 1) := by decide +kernel
theorem dL_joinAll_1 : decode cL_joinAll 1 = .ok (.iconst 0, 1) := by decide +kernel
theorem dL_joinAll_2 : decode cL_joinAll 2 = .ok (.aload_n 0, 1) := by decide +kernel
theorem dL_joinAll_3 : decode cL_joinAll 3 = .ok (.iload_n 1, 1) := by decide +kernel
theorem dL_joinAll_4 : decode cL_joinAll 4 = .ok (.invokevirtual 56, 3) := by decide +kernel
theorem dL_joinAll_7 : decode cL_joinAll 7 = .ok (.i2l, 1) := by decide +kernel
theorem dL_joinAll_8 : decode cL_joinAll 8 = .ok (.lastore, 1) := by decide +kernel
theorem dL_joinAll_9 : decode cL_joinAll 9 = .ok (.goto 6, 3) := by decide +kernel
theorem dL_joinAll_12 : decode cL_joinAll 12 = .ok (.astore_n 3, 1) := by decide +kernel
theorem dL_joinAll_13 : decode cL_joinAll 13 = .ok (.iconst 1, 1) := by decide +kernel
theorem dL_joinAll_14 : decode cL_joinAll 14 = .ok (.ireturn, 1) := by decide +kernel
theorem dL_joinAll_15 : decode cL_joinAll 15 = .ok (.iconst 0, 1) := by decide +kernel
theorem dL_joinAll_16 : decode cL_joinAll 16 = .ok (.ireturn, 1) := by decide +kernel
set_option maxRecDepth 20000 in
theorem ggL_differ_X4_differ : GoodIn wsL_differ wsX4_differ := goodIn_ca (goodIn_ca (goodIn_r _ [7, 8, 9, 10, 11, 6, 12, 13, 14, 15, 16, 17, 18, 19, 20, 21, 22, 23, 24, 25, 26, 27, 28, 29, 30, 31, 32, 33, 34, 35, 36, 37, 38, 39, 40, 41, 42, 43, 44, 45, 46, 47, 48, 49, 50, 51, 52, 53, 54, 55, 56, 57, 58, 59, 60, 61, 62, 63, 64, 65, 66, 67, 68, 69, 70, 71, 72, 73, 74, 75, 76, 77, 78, 79, 80, 81, 82, 83, 84, 85, 86, 87, 88, 89, 90, 91, 92, 93, 94, 95, 96, 97, 98, 99, 100, 101, 102, 103, 104, 105, 106, 107, 108, 109, 110, 111, 112, 113, 114, 115, 116, 117, 118, 119] (by decide +kernel) (by decide +kernel)) (goodIn_sub (fun _ h => List.mem_cons_of_mem _ (List.mem_append_left _ (List.mem_append_right _ h))) (by decide +kernel))) (goodIn_sub (fun _ h => List.mem_cons_of_mem _ (List.mem_append_right _ h)) (by decide +kernel))
set_option maxRecDepth 20000 in
theorem gL_differ_X4_differ : GoodIn wsL_differ (wsV RL 59 RX4 yX4_differ wsX4_differ) := goodIn_app (goodIn_of _ (by decide +kernel)) ggL_differ_X4_differ
theorem dL_differ_0 : decode cL_differ 0 = .ok (.aload 5, 2) := by decide +kernel
theorem dL_differ_2 : decode cL_differ 2 = .ok (.iconst 0, 1) := by decide +kernel
theorem dL_differ_3 : decode cL_differ 3 = .ok (.aload_n 0, 1) := by decide +kernel
theorem dL_differ_4 : decode cL_differ 4 = .ok (.iload_n 1, 1) := by decide +kernel
theorem dL_differ_5 : decode cL_differ 5 = .ok (.iload_n 2, 1) := by decide +kernel
theorem dL_differ_6 : decode cL_differ 6 = .ok (.iload_n 3, 1) := by decide +kernel
theorem dL_differ_7 : decode cL_differ 7 = .ok (.iload 4, 2) := by decide +kernel
theorem dL_differ_9 : decode cL_differ 9 = .ok (.invokevirtual 59, 3) := by decide +kernel
theorem dL_differ_12 : decode cL_differ 12 = .ok (.i2l, 1) := by decide +kernel
theorem dL_differ_13 : decode cL_differ 13 = .ok (.lastore, 1) := by decide +kernel
theorem dL_differ_14 : decode cL_differ 14 = .ok (.goto 11, 3) := by decide +kernel
theorem dL_differ_17 : decode cL_differ 17 = .ok (.astore 6, 2) := by decide +kernel
theorem dL_differ_19 : decode cL_differ 19 = .ok (.iconst 1, 1) := by decide +kernel
theorem dL_differ_20 : decode cL_differ 20 = .ok (.ireturn, 1) := by decide +kernel
theorem dL_differ_21 : decode cL_differ 21 = .ok (.astore 6, 2) := by decide +kernel
theorem dL_differ_23 : decode cL_differ 23 = .ok (.iconst 2, 1) := by decide +kernel
theorem dL_differ_24 : decode cL_differ 24 = .ok (.ireturn, 1) := by decide +kernel
theorem dL_differ_25 : decode cL_differ 25 = .ok (.iconst 0, 1) := by decide +kernel
theorem dL_differ_26 : decode cL_differ 26 = .ok (.ireturn, 1) := by decide +kernel
set_option maxRecDepth 20000 in
theorem ggL_firstCase_X4_firstCase : GoodIn wsL_firstCase wsX4_firstCase := goodIn_ca (goodIn_ca (goodIn_r _ [7, 8, 9, 10, 11, 6, 12, 13, 14, 15, 16, 17, 18, 19, 20, 21, 22, 23, 24, 25, 26, 27, 28, 29, 30, 31, 32, 33, 34, 35, 36, 37, 38, 39, 40, 41, 42, 43, 44, 45, 46, 47, 48, 49, 50, 51, 52, 53, 54, 55, 56, 57, 58, 59, 60, 61, 62, 63, 64, 65, 66, 67, 68, 69, 70, 71, 72, 73, 74, 75, 76, 77, 78, 79, 80, 81, 82, 83, 84, 85, 86, 87, 88, 89, 90, 91, 92, 93, 94, 95, 96, 97, 98, 99, 100, 101, 102, 103, 104, 105, 106, 107, 108, 109, 110, 111, 112, 113, 114, 115, 116, 117, 118, 119] (by decide +kernel) (by decide +kernel)) (goodIn_sub (fun _ h => List.mem_cons_of_mem _ (List.mem_append_left _ (List.mem_append_right _ h))) (by decide +kernel))) (goodIn_sub (fun _ h => List.mem_cons_of_mem _ (List.mem_append_right _ h)) (by decide +kernel))
set_option maxRecDepth 20000 in
theorem gL_firstCase_X4_firstCase : GoodIn wsL_firstCase (wsV RL 62 RX4 yX4_firstCase wsX4_firstCase) := goodIn_app (goodIn_of _ (by decide +kernel)) ggL_firstCase_X4_firstCase
theorem dL_firstCase_0 : decode cL_firstCase 0 = .ok (.aload 5, 2) := by decide +kernel
theorem dL_firstCase_2 : decode cL_firstCase 2 = .ok (.iconst 0, 1) := by decide +kernel
theorem dL_firstCase_3 : decode cL_firstCase 3 = .ok (.aload_n 0, 1) := by decide +kernel
theorem dL_firstCase_4 : decode cL_firstCase 4 = .ok (.iload_n 1, 1) := by decide +kernel
theorem dL_firstCase_5 : decode cL_firstCase 5 = .ok (.iload_n 2, 1) := by decide +kernel
theorem dL_firstCase_6 : decode cL_firstCase 6 = .ok (.iload_n 3, 1) := by decide +kernel
theorem dL_firstCase_7 : decode cL_firstCase 7 = .ok (.iload 4, 2) := by decide +kernel
theorem dL_firstCase_9 : decode cL_firstCase 9 = .ok (.invokevirtual 62, 3) := by decide +kernel
theorem dL_firstCase_12 : decode cL_firstCase 12 = .ok (.i2l, 1) := by decide +kernel
theorem dL_firstCase_13 : decode cL_firstCase 13 = .ok (.lastore, 1) := by decide +kernel
theorem dL_firstCase_14 : decode cL_firstCase 14 = .ok (.goto 11, 3) := by decide +kernel
theorem dL_firstCase_17 : decode cL_firstCase 17 = .ok (.astore 6, 2) := by decide +kernel
theorem dL_firstCase_19 : decode cL_firstCase 19 = .ok (.iconst 1, 1) := by decide +kernel
theorem dL_firstCase_20 : decode cL_firstCase 20 = .ok (.ireturn, 1) := by decide +kernel
theorem dL_firstCase_21 : decode cL_firstCase 21 = .ok (.astore 6, 2) := by decide +kernel
theorem dL_firstCase_23 : decode cL_firstCase 23 = .ok (.iconst 2, 1) := by decide +kernel
theorem dL_firstCase_24 : decode cL_firstCase 24 = .ok (.ireturn, 1) := by decide +kernel
theorem dL_firstCase_25 : decode cL_firstCase 25 = .ok (.iconst 0, 1) := by decide +kernel
theorem dL_firstCase_26 : decode cL_firstCase 26 = .ok (.ireturn, 1) := by decide +kernel
set_option maxRecDepth 20000 in
theorem ggL_cost_X4_cost : GoodIn wsL_cost wsX4_cost := goodIn_ca (goodIn_ca (goodIn_r _ [7, 8, 9, 10, 11, 12, 6, 13, 14, 15, 16, 17, 18, 19, 20, 21, 22, 23, 24, 25, 26, 27, 28, 29, 30, 31, 32, 33, 34, 35, 36, 37, 38, 39, 40, 41, 42, 43, 44, 45, 46, 47, 48, 49, 50, 51, 52, 53, 54, 55, 56, 57, 58, 59, 60, 61, 62, 63, 64, 65, 66, 67, 68, 69, 70, 71, 72, 73, 74, 75, 76, 77, 78, 79, 80, 81, 82, 83, 84, 85, 86, 87, 88, 89, 90, 91, 92, 93, 94, 95, 96, 97, 98, 99, 100, 101, 102, 103, 104, 105, 106, 107, 108, 109, 110, 111, 112, 113, 114] (by decide +kernel) (by decide +kernel)) (goodIn_sub (fun _ h => List.mem_cons_of_mem _ (List.mem_append_left _ (List.mem_append_right _ h))) (by decide +kernel))) (goodIn_sub (fun _ h => List.mem_cons_of_mem _ (List.mem_append_right _ h)) (by decide +kernel))
set_option maxRecDepth 20000 in
theorem gL_cost_X4_cost : GoodIn wsL_cost (wsV RL 65 RX4 yX4_cost wsX4_cost) := goodIn_app (goodIn_of _ (by decide +kernel)) ggL_cost_X4_cost
theorem dL_cost_0 : decode cL_cost 0 = .ok (.aload 5, 2) := by decide +kernel
theorem dL_cost_2 : decode cL_cost 2 = .ok (.iconst 0, 1) := by decide +kernel
theorem dL_cost_3 : decode cL_cost 3 = .ok (.aload_n 0, 1) := by decide +kernel
theorem dL_cost_4 : decode cL_cost 4 = .ok (.iload_n 1, 1) := by decide +kernel
theorem dL_cost_5 : decode cL_cost 5 = .ok (.iload_n 2, 1) := by decide +kernel
theorem dL_cost_6 : decode cL_cost 6 = .ok (.iload_n 3, 1) := by decide +kernel
theorem dL_cost_7 : decode cL_cost 7 = .ok (.iload 4, 2) := by decide +kernel
theorem dL_cost_9 : decode cL_cost 9 = .ok (.invokevirtual 65, 3) := by decide +kernel
theorem dL_cost_12 : decode cL_cost 12 = .ok (.i2l, 1) := by decide +kernel
theorem dL_cost_13 : decode cL_cost 13 = .ok (.lastore, 1) := by decide +kernel
theorem dL_cost_14 : decode cL_cost 14 = .ok (.goto 11, 3) := by decide +kernel
theorem dL_cost_17 : decode cL_cost 17 = .ok (.astore 6, 2) := by decide +kernel
theorem dL_cost_19 : decode cL_cost 19 = .ok (.iconst 1, 1) := by decide +kernel
theorem dL_cost_20 : decode cL_cost 20 = .ok (.ireturn, 1) := by decide +kernel
theorem dL_cost_21 : decode cL_cost 21 = .ok (.astore 6, 2) := by decide +kernel
theorem dL_cost_23 : decode cL_cost 23 = .ok (.iconst 2, 1) := by decide +kernel
theorem dL_cost_24 : decode cL_cost 24 = .ok (.ireturn, 1) := by decide +kernel
theorem dL_cost_25 : decode cL_cost 25 = .ok (.iconst 0, 1) := by decide +kernel
theorem dL_cost_26 : decode cL_cost 26 = .ok (.ireturn, 1) := by decide +kernel
set_option maxRecDepth 20000 in
theorem ggL_exits_X4_exits : GoodIn wsL_exits wsX4_exits := goodIn_ca (goodIn_ca (goodIn_r _ [7, 8, 9, 10, 11, 12, 6, 13, 14, 15, 16, 17, 18, 19, 20, 21, 22, 23, 24, 25, 26, 27, 28, 29, 30, 31, 32, 33, 34, 35, 36, 37, 38, 39, 40, 41, 42, 43, 44, 45, 46, 47, 48, 49, 50, 51, 52, 53, 54, 55, 56, 57, 58, 59, 60, 61, 62, 63, 64, 65, 66, 67, 68, 69, 70, 71, 72, 73, 74, 75, 76, 77, 78, 79, 80, 81, 82, 83, 84, 85, 86, 87, 88, 89, 90, 91, 92, 93, 94, 95, 96, 97, 98, 99, 100, 101, 102, 103, 104, 105, 106, 107, 108, 109, 110, 111, 112, 113, 114] (by decide +kernel) (by decide +kernel)) (goodIn_sub (fun _ h => List.mem_cons_of_mem _ (List.mem_append_left _ (List.mem_append_right _ h))) (by decide +kernel))) (goodIn_sub (fun _ h => List.mem_cons_of_mem _ (List.mem_append_right _ h)) (by decide +kernel))
set_option maxRecDepth 20000 in
theorem gL_exits_X4_exits : GoodIn wsL_exits (wsV RL 68 RX4 yX4_exits wsX4_exits) := goodIn_app (goodIn_of _ (by decide +kernel)) ggL_exits_X4_exits
theorem dL_exits_0 : decode cL_exits 0 = .ok (.aload 4, 2) := by decide +kernel
theorem dL_exits_2 : decode cL_exits 2 = .ok (.iconst 0, 1) := by decide +kernel
theorem dL_exits_3 : decode cL_exits 3 = .ok (.aload_n 0, 1) := by decide +kernel
theorem dL_exits_4 : decode cL_exits 4 = .ok (.iload_n 1, 1) := by decide +kernel
theorem dL_exits_5 : decode cL_exits 5 = .ok (.iload_n 2, 1) := by decide +kernel
theorem dL_exits_6 : decode cL_exits 6 = .ok (.iload_n 3, 1) := by decide +kernel
theorem dL_exits_7 : decode cL_exits 7 = .ok (.invokevirtual 68, 3) := by decide +kernel
theorem dL_exits_10 : decode cL_exits 10 = .ok (.dastore, 1) := by decide +kernel
theorem dL_exits_11 : decode cL_exits 11 = .ok (.goto 11, 3) := by decide +kernel
theorem dL_exits_14 : decode cL_exits 14 = .ok (.astore 5, 2) := by decide +kernel
theorem dL_exits_16 : decode cL_exits 16 = .ok (.iconst 1, 1) := by decide +kernel
theorem dL_exits_17 : decode cL_exits 17 = .ok (.ireturn, 1) := by decide +kernel
theorem dL_exits_18 : decode cL_exits 18 = .ok (.astore 5, 2) := by decide +kernel
theorem dL_exits_20 : decode cL_exits 20 = .ok (.iconst 2, 1) := by decide +kernel
theorem dL_exits_21 : decode cL_exits 21 = .ok (.ireturn, 1) := by decide +kernel
theorem dL_exits_22 : decode cL_exits 22 = .ok (.iconst 0, 1) := by decide +kernel
theorem dL_exits_23 : decode cL_exits 23 = .ok (.ireturn, 1) := by decide +kernel
set_option maxRecDepth 20000 in
theorem ggL_law_X4_init : GoodIn wsL_law wsX4_init := goodIn_r _ [11, 12, 13, 14, 15, 16, 17, 6, 18, 19, 20, 21, 22, 23, 24, 25, 26, 27, 28, 29, 30, 31, 32, 33, 34, 35, 36, 37, 38, 39, 40, 41, 669, 670, 671, 672, 673, 674, 675, 676, 688, 689, 690, 691, 692, 693] (by decide +kernel) (by decide +kernel)
set_option maxRecDepth 20000 in
theorem gL_law_X4_init : GoodIn wsL_law (wsX4_init) := ggL_law_X4_init
set_option maxRecDepth 20000 in
theorem ggL_law_X5_init : GoodIn wsL_law wsX5_init := goodIn_r _ [44, 45, 13, 14, 46, 47, 48, 49, 6, 50, 51, 52, 53, 54, 677, 678, 679, 680, 681, 682, 683, 684, 685, 686, 687] (by decide +kernel) (by decide +kernel)
set_option maxRecDepth 20000 in
theorem gL_law_X5_init : GoodIn wsL_law (wsX5_init) := ggL_law_X5_init
set_option maxRecDepth 20000 in
theorem ggL_law_L_addProgram : GoodIn wsL_law wsL_addProgram := goodIn_ca (goodIn_r _ [58, 59, 60, 61, 62, 2, 63, 15, 64, 65, 66, 67, 68, 69, 70, 71, 17, 72, 73, 74, 13, 14, 47, 75, 76, 77, 78, 79, 80, 16, 694, 695, 669, 670, 671, 672, 673, 674, 675, 676] (by decide +kernel) (by decide +kernel)) (goodIn_sub (fun _ h => List.mem_append_left _ (List.mem_append_left _ (List.mem_append_right _ h))) (by decide +kernel))
set_option maxRecDepth 20000 in
theorem gL_law_L_addProgram : GoodIn wsL_law (va_wsS RL 76 yL_addProgram wsL_addProgram) := goodIn_app (goodIn_of _ (by decide +kernel)) ggL_law_L_addProgram
set_option maxRecDepth 20000 in
theorem ggL_law_X5_addProgram : GoodIn wsL_law wsX5_addProgram := goodIn_r _ [84, 85, 86, 48, 87, 88, 89, 5, 90, 677, 678, 679, 680, 681, 682, 683, 684, 685, 686, 687] (by decide +kernel) (by decide +kernel)
set_option maxRecDepth 20000 in
theorem gL_law_X5_addProgram : GoodIn wsL_law (wsV RL 81 RX5 yX5_addProgram wsX5_addProgram) := goodIn_app (goodIn_of _ (by decide +kernel)) ggL_law_X5_addProgram
set_option maxRecDepth 20000 in
theorem ggL_law_X5_thrown : GoodIn wsL_law wsX5_thrown := goodIn_r _ [94, 85, 677, 678, 679, 680, 681, 682, 683, 684, 685, 686, 687] (by decide +kernel) (by decide +kernel)
set_option maxRecDepth 20000 in
theorem gL_law_X5_thrown : GoodIn wsL_law (wsV RL 82 RX5 yX5_thrown wsX5_thrown) := goodIn_app (goodIn_of _ (by decide +kernel)) ggL_law_X5_thrown
set_option maxRecDepth 20000 in
theorem ggL_law_L_addLoop : GoodIn wsL_law wsL_addLoop := goodIn_ca (goodIn_ca (goodIn_ca (goodIn_r _ [97, 98, 99, 59, 100, 101, 102, 2, 103, 104, 105, 70, 71, 106, 107, 108, 109, 110, 111, 16, 112, 113, 114, 115, 116, 117, 65, 118, 76, 119, 120, 121, 122, 123, 124, 125, 126, 127, 128, 129, 130, 75, 669, 670, 671, 672, 673, 674, 675, 676, 694, 695] (by decide +kernel) (by decide +kernel)) (goodIn_sub (fun _ h => List.mem_append_left _ (List.mem_append_right _ h)) (by decide +kernel))) (goodIn_sub (fun _ h => List.mem_append_left _ (List.mem_append_left _ (List.mem_append_right _ h))) (by decide +kernel))) (goodIn_sub (fun _ h => List.mem_append_right _ h) (by decide +kernel))
set_option maxRecDepth 20000 in
theorem gL_law_L_addLoop : GoodIn wsL_law (va_wsS RL 85 yL_addLoop wsL_addLoop) := goodIn_app (goodIn_of _ (by decide +kernel)) ggL_law_L_addLoop
set_option maxRecDepth 20000 in
theorem ggL_law_X5_addLoop : GoodIn wsL_law wsX5_addLoop := goodIn_r _ [134, 85, 135, 48, 47, 136, 137, 138, 139, 140, 141, 142, 5, 143, 86, 144, 145, 146, 87, 88, 89, 90, 147, 148, 149, 677, 678, 679, 680, 681, 682, 683, 684, 685, 686, 687] (by decide +kernel) (by decide +kernel)
set_option maxRecDepth 20000 in
theorem gL_law_X5_addLoop : GoodIn wsL_law (wsV RL 88 RX5 yX5_addLoop wsX5_addLoop) := goodIn_app (goodIn_of _ (by decide +kernel)) ggL_law_X5_addLoop
set_option maxRecDepth 20000 in
theorem ggL_law_L_addStep : GoodIn wsL_law wsL_addStep := goodIn_ca (goodIn_ca (goodIn_ca (goodIn_r _ [152, 98, 99, 59, 153, 154, 155, 2, 156, 104, 105, 70, 71, 106, 107, 108, 109, 110, 111, 16, 157, 158, 159, 115, 116, 117, 65, 118, 76, 112, 113, 114, 160, 161, 162, 163, 164, 165, 166, 167, 168, 169, 170, 171, 172, 173, 174, 175, 176, 177, 178, 179, 180, 75, 181, 182, 183, 184, 185, 186, 187, 188, 127, 128, 129, 130, 123, 124, 125, 126, 669, 670, 671, 672, 673, 674, 675, 676, 694, 695] (by decide +kernel) (by decide +kernel)) (goodIn_sub (fun _ h => List.mem_append_left _ (List.mem_append_right _ h)) (by decide +kernel))) (goodIn_sub (fun _ h => List.mem_append_left _ (List.mem_append_left _ (List.mem_append_right _ h))) (by decide +kernel))) (goodIn_sub (fun _ h => List.mem_append_right _ h) (by decide +kernel))
set_option maxRecDepth 20000 in
theorem gL_law_L_addStep : GoodIn wsL_law (va_wsS RL 89 yL_addStep wsL_addStep) := goodIn_app (goodIn_of _ (by decide +kernel)) ggL_law_L_addStep
set_option maxRecDepth 20000 in
theorem ggL_law_X5_addStep : GoodIn wsL_law wsX5_addStep := goodIn_r _ [192, 85, 193, 194, 195, 196, 197, 135, 198, 48, 47, 136, 137, 138, 139, 199, 200, 201, 5, 202, 140, 141, 142, 143, 86, 144, 145, 146, 87, 88, 89, 90, 203, 204, 205, 147, 148, 149, 206, 207, 208, 677, 678, 679, 680, 681, 682, 683, 684, 685, 686, 687] (by decide +kernel) (by decide +kernel)
set_option maxRecDepth 20000 in
theorem gL_law_X5_addStep : GoodIn wsL_law (wsV RL 92 RX5 yX5_addStep wsX5_addStep) := goodIn_app (goodIn_of _ (by decide +kernel)) ggL_law_X5_addStep
set_option maxRecDepth 20000 in
theorem ggL_law_L_loop : GoodIn wsL_law wsL_loop := goodIn_ca (goodIn_r _ [211, 98, 212, 213, 214, 2, 215, 110, 111, 106, 107, 108, 109, 16, 157, 158, 159, 115, 116, 117, 65, 118, 76, 112, 113, 114, 216, 174, 175, 176, 177, 178, 179, 180, 75, 669, 670, 671, 672, 673, 674, 675, 676, 694, 695] (by decide +kernel) (by decide +kernel)) (goodIn_sub (fun _ h => List.mem_append_right _ h) (by decide +kernel))
set_option maxRecDepth 20000 in
theorem gL_law_L_loop : GoodIn wsL_law (va_wsS RL 93 yL_loop wsL_loop) := goodIn_app (goodIn_of _ (by decide +kernel)) ggL_law_L_loop
set_option maxRecDepth 20000 in
theorem ggL_law_X5_loop : GoodIn wsL_law wsX5_loop := goodIn_r _ [220, 85, 198, 48, 199, 200, 201, 5, 202, 140, 141, 142, 143, 86, 144, 145, 146, 147, 148, 149, 87, 88, 89, 90, 677, 678, 679, 680, 681, 682, 683, 684, 685, 686, 687] (by decide +kernel) (by decide +kernel)
set_option maxRecDepth 20000 in
theorem gL_law_X5_loop : GoodIn wsL_law (wsV RL 96 RX5 yX5_loop wsX5_loop) := goodIn_app (goodIn_of _ (by decide +kernel)) ggL_law_X5_loop
set_option maxRecDepth 20000 in
theorem ggL_law_L_step : GoodIn wsL_law wsL_step := goodIn_ca (goodIn_r _ [223, 98, 224, 225, 226, 2, 227, 110, 111, 106, 107, 108, 109, 16, 157, 158, 159, 115, 116, 117, 65, 118, 76, 112, 113, 114, 169, 170, 171, 172, 173, 174, 175, 176, 177, 178, 179, 180, 75, 228, 229, 230, 231, 669, 670, 671, 672, 673, 674, 675, 676, 694, 695] (by decide +kernel) (by decide +kernel)) (goodIn_sub (fun _ h => List.mem_append_right _ h) (by decide +kernel))
set_option maxRecDepth 20000 in
theorem gL_law_L_step : GoodIn wsL_law (va_wsS RL 97 yL_step wsL_step) := goodIn_app (goodIn_of _ (by decide +kernel)) ggL_law_L_step
set_option maxRecDepth 20000 in
theorem ggL_law_X5_step : GoodIn wsL_law wsX5_step := goodIn_r _ [235, 85, 48, 198, 199, 200, 201, 5, 202, 140, 141, 142, 143, 86, 144, 145, 146, 203, 204, 205, 147, 148, 149, 236, 237, 238, 206, 207, 208, 87, 88, 89, 90, 677, 678, 679, 680, 681, 682, 683, 684, 685, 686, 687] (by decide +kernel) (by decide +kernel)
set_option maxRecDepth 20000 in
theorem gL_law_X5_step : GoodIn wsL_law (wsV RL 100 RX5 yX5_step wsX5_step) := goodIn_app (goodIn_of _ (by decide +kernel)) ggL_law_X5_step
set_option maxRecDepth 20000 in
theorem ggL_law_X4_programs : GoodIn wsL_law wsX4_programs := goodIn_r _ [242, 17, 669, 670, 671, 672, 673, 674, 675, 676] (by decide +kernel) (by decide +kernel)
set_option maxRecDepth 20000 in
theorem gL_law_X4_programs : GoodIn wsL_law (wsV RL 101 RX4 yX4_programs wsX4_programs) := goodIn_app (goodIn_of _ (by decide +kernel)) ggL_law_X4_programs
set_option maxRecDepth 20000 in
theorem ggL_law_X5_programs : GoodIn wsL_law wsX5_programs := goodIn_r _ [246, 85, 86, 677, 678, 679, 680, 681, 682, 683, 684, 685, 686, 687] (by decide +kernel) (by decide +kernel)
set_option maxRecDepth 20000 in
theorem gL_law_X5_programs : GoodIn wsL_law (wsV RL 104 RX5 yX5_programs wsX5_programs) := goodIn_app (goodIn_of _ (by decide +kernel)) ggL_law_X5_programs
set_option maxRecDepth 20000 in
theorem ggL_law_L_loops : GoodIn wsL_law wsL_loops := goodIn_ca (goodIn_r _ [249, 98, 250, 251, 252, 2, 253, 106, 107, 108, 109, 110, 111, 16, 115, 116, 117, 65, 118, 76, 669, 670, 671, 672, 673, 674, 675, 676, 694, 695] (by decide +kernel) (by decide +kernel)) (goodIn_sub (fun _ h => List.mem_append_right _ h) (by decide +kernel))
set_option maxRecDepth 20000 in
theorem gL_law_L_loops : GoodIn wsL_law (va_wsS RL 105 yL_loops wsL_loops) := goodIn_app (goodIn_of _ (by decide +kernel)) ggL_law_L_loops
set_option maxRecDepth 20000 in
theorem ggL_law_X5_loops : GoodIn wsL_law wsX5_loops := goodIn_r _ [257, 85, 48, 140, 141, 142, 5, 143, 86, 144, 145, 146, 87, 88, 89, 90, 677, 678, 679, 680, 681, 682, 683, 684, 685, 686, 687] (by decide +kernel) (by decide +kernel)
set_option maxRecDepth 20000 in
theorem gL_law_X5_loops : GoodIn wsL_law (wsV RL 108 RX5 yX5_loops wsX5_loops) := goodIn_app (goodIn_of _ (by decide +kernel)) ggL_law_X5_loops
set_option maxRecDepth 20000 in
theorem ggL_law_L_put : GoodIn wsL_law wsL_put := goodIn_ca (goodIn_r _ [260, 59, 261, 262, 263, 2, 264, 70, 71, 19, 18, 669, 670, 671, 672, 673, 674, 675, 676] (by decide +kernel) (by decide +kernel)) (goodIn_sub (fun _ h => List.mem_append_left _ (List.mem_append_left _ (List.mem_append_right _ h))) (by decide +kernel))
set_option maxRecDepth 20000 in
theorem gL_law_L_put : GoodIn wsL_law (va_wsS RL 111 yL_put wsL_put) := goodIn_app (goodIn_of _ (by decide +kernel)) ggL_law_L_put
set_option maxRecDepth 20000 in
theorem ggL_law_X5_put : GoodIn wsL_law wsX5_put := goodIn_r _ [268, 85, 269, 50, 87, 88, 89, 5, 90, 677, 678, 679, 680, 681, 682, 683, 684, 685, 686, 687] (by decide +kernel) (by decide +kernel)
set_option maxRecDepth 20000 in
theorem gL_law_X5_put : GoodIn wsL_law (wsV RL 114 RX5 yX5_put wsX5_put) := goodIn_app (goodIn_of _ (by decide +kernel)) ggL_law_X5_put
set_option maxRecDepth 20000 in
theorem ggL_law_X4_empty : GoodIn wsL_law wsX4_empty := goodIn_r _ [273, 19, 669, 670, 671, 672, 673, 674, 675, 676] (by decide +kernel) (by decide +kernel)
set_option maxRecDepth 20000 in
theorem gL_law_X4_empty : GoodIn wsL_law (wsV RL 115 RX4 yX4_empty wsX4_empty) := goodIn_app (goodIn_of _ (by decide +kernel)) ggL_law_X4_empty
set_option maxRecDepth 20000 in
theorem ggL_law_X5_empty : GoodIn wsL_law wsX5_empty := goodIn_r _ [277, 85, 269, 677, 678, 679, 680, 681, 682, 683, 684, 685, 686, 687] (by decide +kernel) (by decide +kernel)
set_option maxRecDepth 20000 in
theorem gL_law_X5_empty : GoodIn wsL_law (wsV RL 118 RX5 yX5_empty wsX5_empty) := goodIn_app (goodIn_of _ (by decide +kernel)) ggL_law_X5_empty
set_option maxRecDepth 20000 in
theorem ggL_law_L_run : GoodIn wsL_law wsL_run := goodIn_ca (goodIn_r _ [280, 98, 281, 282, 283, 2, 284, 23, 18, 19, 106, 107, 108, 109, 110, 111, 16, 285, 286, 287, 22, 288, 33, 34, 35, 289, 116, 117, 65, 118, 76, 290, 291, 292, 293, 294, 174, 175, 176, 177, 178, 179, 180, 75, 295, 296, 297, 298, 299, 170, 171, 172, 173, 300, 229, 230, 231, 301, 302, 303, 304, 164, 165, 305, 306, 307, 308, 309, 310, 311, 312, 313, 314, 315, 316, 317, 318, 319, 320, 669, 670, 671, 672, 673, 674, 675, 676, 688, 689, 690, 694, 695] (by decide +kernel) (by decide +kernel)) (goodIn_sub (fun _ h => List.mem_append_right _ h) (by decide +kernel))
set_option maxRecDepth 20000 in
theorem gL_law_L_run : GoodIn wsL_law (va_wsS RL 119 yL_run wsL_run) := goodIn_app (goodIn_of _ (by decide +kernel)) ggL_law_L_run
set_option maxRecDepth 20000 in
theorem ggL_law_X5_run : GoodIn wsL_law wsX5_run := goodIn_r _ [324, 85, 48, 50, 269, 52, 53, 136, 137, 138, 139, 325, 140, 141, 142, 5, 143, 86, 144, 145, 146, 87, 88, 89, 90, 326, 327, 328, 329, 147, 148, 149, 203, 204, 205, 330, 331, 332, 333, 236, 237, 238, 206, 207, 208, 334, 335, 336, 337, 677, 678, 679, 680, 681, 682, 683, 684, 685, 686, 687] (by decide +kernel) (by decide +kernel)
set_option maxRecDepth 20000 in
theorem gL_law_X5_run : GoodIn wsL_law (wsV RL 121 RX5 yX5_run wsX5_run) := goodIn_app (goodIn_of _ (by decide +kernel)) ggL_law_X5_run
set_option maxRecDepth 20000 in
theorem ggL_law_L_ran : GoodIn wsL_law wsL_ran := goodIn_ca (goodIn_r _ [340, 98, 341, 342, 343, 2, 344, 110, 111, 23, 112, 113, 114, 345, 346, 347, 22, 348, 34, 305, 306, 307, 308, 33, 669, 670, 671, 672, 673, 674, 675, 676, 688, 689, 690] (by decide +kernel) (by decide +kernel)) (goodIn_sub (fun _ h => List.mem_append_right _ h) (by decide +kernel))
set_option maxRecDepth 20000 in
theorem gL_law_L_ran : GoodIn wsL_law (va_wsS RL 122 yL_ran wsL_ran) := goodIn_app (goodIn_of _ (by decide +kernel)) ggL_law_L_ran
set_option maxRecDepth 20000 in
theorem ggL_law_X5_ran : GoodIn wsL_law wsX5_ran := goodIn_r _ [352, 197, 85, 53, 144, 145, 5, 146, 677, 678, 679, 680, 681, 682, 683, 684, 685, 686, 687] (by decide +kernel) (by decide +kernel)
set_option maxRecDepth 20000 in
theorem gL_law_X5_ran : GoodIn wsL_law (wsV RL 124 RX5 yX5_ran wsX5_ran) := goodIn_app (goodIn_of _ (by decide +kernel)) ggL_law_X5_ran
set_option maxRecDepth 20000 in
theorem ggL_law_L_reason : GoodIn wsL_law wsL_reason := goodIn_ca (goodIn_ca (goodIn_r _ [355, 98, 99, 356, 357, 358, 2, 359, 106, 107, 108, 109, 110, 111, 16, 360, 361, 362, 104, 105, 112, 113, 114, 363, 364, 365, 115, 116, 117, 65, 118, 76, 366, 367, 368, 169, 170, 171, 172, 173, 174, 175, 176, 177, 178, 179, 180, 75, 369, 370, 371, 372, 373, 374, 375, 376, 377, 378, 379, 380, 381, 382, 383, 384, 385, 386, 387, 229, 230, 231, 388, 389, 390, 391, 392, 393, 394, 395, 396, 164, 165, 397, 398, 399, 400, 401, 402, 403, 404, 405, 406, 407, 408, 409, 669, 670, 671, 672, 673, 674, 675, 676, 694, 695] (by decide +kernel) (by decide +kernel)) (goodIn_sub (fun _ h => List.mem_append_right _ h) (by decide +kernel))) (goodIn_sub (fun _ h => List.mem_append_left _ (List.mem_append_right _ h)) (by decide +kernel))
set_option maxRecDepth 20000 in
theorem gL_law_L_reason : GoodIn wsL_law (va_wsS RL 125 yL_reason wsL_reason) := goodIn_app (goodIn_of _ (by decide +kernel)) ggL_law_L_reason
set_option maxRecDepth 20000 in
theorem ggL_law_X5_reason : GoodIn wsL_law wsX5_reason := goodIn_r _ [413, 85, 48, 414, 415, 416, 5, 417, 135, 418, 140, 141, 142, 143, 86, 144, 145, 146, 203, 204, 205, 147, 148, 149, 419, 420, 421, 422, 423, 424, 425, 426, 427, 428, 429, 430, 236, 237, 238, 206, 207, 208, 431, 432, 433, 434, 435, 436, 437, 438, 439, 440, 441, 442, 443, 444, 445, 446, 447, 448, 449, 450, 451, 677, 678, 679, 680, 681, 682, 683, 684, 685, 686, 687] (by decide +kernel) (by decide +kernel)
set_option maxRecDepth 20000 in
theorem gL_law_X5_reason : GoodIn wsL_law (wsV RL 127 RX5 yX5_reason wsX5_reason) := goodIn_app (goodIn_of _ (by decide +kernel)) ggL_law_X5_reason
set_option maxRecDepth 20000 in
theorem ggL_law_L_change : GoodIn wsL_law wsL_change := goodIn_ca (goodIn_ca (goodIn_ca (goodIn_r _ [454, 98, 99, 59, 455, 456, 457, 2, 458, 70, 71, 15, 64, 65, 106, 107, 108, 109, 110, 111, 16, 360, 361, 362, 104, 105, 112, 113, 114, 363, 364, 365, 115, 116, 117, 118, 76, 366, 367, 368, 169, 170, 171, 172, 173, 174, 175, 176, 177, 178, 179, 180, 75, 369, 370, 371, 372, 373, 374, 375, 376, 377, 378, 379, 380, 381, 382, 383, 384, 385, 386, 387, 229, 230, 231, 388, 389, 390, 391, 392, 393, 394, 395, 396, 164, 165, 397, 398, 399, 400, 401, 402, 403, 404, 405, 406, 407, 408, 409, 66, 67, 68, 69, 17, 72, 73, 74, 13, 14, 47, 459, 460, 461, 462, 463, 464, 465, 466, 467, 468, 469, 470, 185, 471, 472, 473, 474, 186, 187, 188, 127, 128, 129, 130, 123, 124, 125, 126, 475, 476, 477, 478, 479, 480, 481, 482, 483, 484, 485, 486, 487, 488, 489, 490, 491, 492, 493, 494, 495, 496, 497, 498, 499, 500, 501, 502, 503, 77, 78, 79, 80, 694, 695, 669, 670, 671, 672, 673, 674, 675, 676] (by decide +kernel) (by decide +kernel)) (goodIn_sub (fun _ h => List.mem_append_left _ (List.mem_append_left _ (List.mem_append_right _ h))) (by decide +kernel))) (goodIn_sub (fun _ h => List.mem_append_right _ h) (by decide +kernel))) (goodIn_sub (fun _ h => List.mem_append_left _ (List.mem_append_right _ h)) (by decide +kernel))
set_option maxRecDepth 20000 in
theorem gL_law_L_change : GoodIn wsL_law (va_wsS RL 128 yL_change wsL_change) := goodIn_app (goodIn_of _ (by decide +kernel)) ggL_law_L_change
set_option maxRecDepth 20000 in
theorem ggL_law_X5_change : GoodIn wsL_law wsX5_change := goodIn_r _ [507, 85, 48, 86, 49, 136, 137, 138, 139, 414, 415, 416, 5, 417, 135, 418, 140, 141, 142, 143, 144, 145, 146, 203, 204, 205, 147, 148, 149, 419, 420, 421, 422, 423, 424, 425, 426, 427, 428, 429, 430, 236, 237, 238, 206, 207, 208, 431, 432, 433, 434, 435, 436, 437, 438, 439, 440, 441, 442, 443, 444, 445, 446, 447, 448, 449, 450, 451, 87, 88, 89, 90, 508, 509, 510, 511, 512, 513, 514, 515, 516, 517, 518, 519, 520, 521, 522, 523, 524, 525, 526, 527, 528, 529, 530, 531, 532, 533, 534, 535, 536, 537, 538, 539, 540, 541, 542, 543, 677, 678, 679, 680, 681, 682, 683, 684, 685, 686, 687] (by decide +kernel) (by decide +kernel)
set_option maxRecDepth 20000 in
theorem gL_law_X5_change : GoodIn wsL_law (wsV RL 130 RX5 yX5_change wsX5_change) := goodIn_app (goodIn_of _ (by decide +kernel)) ggL_law_X5_change
set_option maxRecDepth 20000 in
theorem ggL_law_L_joinAll : GoodIn wsL_law wsL_joinAll := goodIn_ca (goodIn_r _ [546, 98, 547, 548, 549, 2, 550, 106, 107, 108, 109, 110, 111, 16, 551, 552, 553, 115, 116, 117, 65, 118, 76, 554, 374, 371, 375, 376, 377, 378, 379, 174, 175, 176, 177, 178, 179, 180, 75, 380, 381, 382, 383, 170, 171, 172, 173, 384, 385, 386, 387, 229, 230, 231, 388, 389, 390, 391, 392, 393, 394, 395, 396, 164, 165, 555, 468, 469, 470, 185, 471, 472, 473, 474, 186, 187, 188, 127, 128, 129, 130, 123, 124, 125, 126, 475, 476, 477, 478, 669, 670, 671, 672, 673, 674, 675, 676, 694, 695] (by decide +kernel) (by decide +kernel)) (goodIn_sub (fun _ h => List.mem_append_right _ h) (by decide +kernel))
set_option maxRecDepth 20000 in
theorem gL_law_L_joinAll : GoodIn wsL_law (va_wsS RL 131 yL_joinAll wsL_joinAll) := goodIn_app (goodIn_of _ (by decide +kernel)) ggL_law_L_joinAll
set_option maxRecDepth 20000 in
theorem ggL_law_X5_joinAll : GoodIn wsL_law wsX5_joinAll := goodIn_r _ [559, 85, 48, 49, 136, 137, 138, 139, 140, 141, 142, 5, 143, 86, 144, 145, 146, 87, 88, 89, 90, 422, 423, 424, 147, 148, 149, 425, 426, 427, 203, 204, 205, 428, 429, 430, 236, 237, 238, 206, 207, 208, 431, 432, 433, 434, 435, 436, 437, 438, 439, 512, 513, 514, 515, 516, 517, 518, 519, 677, 678, 679, 680, 681, 682, 683, 684, 685, 686, 687] (by decide +kernel) (by decide +kernel)
set_option maxRecDepth 20000 in
theorem gL_law_X5_joinAll : GoodIn wsL_law (wsV RL 133 RX5 yX5_joinAll wsX5_joinAll) := goodIn_app (goodIn_of _ (by decide +kernel)) ggL_law_X5_joinAll
set_option maxRecDepth 20000 in
theorem ggL_law_L_differ : GoodIn wsL_law wsL_differ := goodIn_ca (goodIn_ca (goodIn_r _ [562, 98, 99, 563, 564, 565, 2, 566, 29, 106, 107, 108, 109, 110, 111, 16, 567, 568, 569, 104, 105, 112, 113, 114, 570, 571, 572, 28, 573, 40, 41, 39, 574, 575, 576, 577, 24, 25, 285, 286, 287, 22, 288, 33, 34, 35, 289, 116, 117, 65, 118, 76, 290, 291, 292, 293, 294, 174, 175, 176, 177, 178, 179, 180, 75, 295, 296, 297, 298, 299, 170, 171, 172, 173, 300, 229, 230, 231, 301, 302, 303, 304, 164, 165, 305, 306, 307, 308, 309, 310, 311, 312, 313, 314, 315, 316, 578, 579, 580, 581, 582, 583, 584, 585, 669, 670, 671, 672, 673, 674, 675, 676, 691, 692, 693, 688, 689, 690, 694, 695] (by decide +kernel) (by decide +kernel)) (goodIn_sub (fun _ h => List.mem_append_right _ h) (by decide +kernel))) (goodIn_sub (fun _ h => List.mem_append_left _ (List.mem_append_right _ h)) (by decide +kernel))
set_option maxRecDepth 20000 in
theorem gL_law_L_differ : GoodIn wsL_law (va_wsS RL 134 yL_differ wsL_differ) := goodIn_app (goodIn_of _ (by decide +kernel)) ggL_law_L_differ
set_option maxRecDepth 20000 in
theorem ggL_law_X5_differ : GoodIn wsL_law wsX5_differ := goodIn_r _ [589, 85, 140, 141, 142, 5, 143, 86, 144, 145, 146, 590, 591, 592, 593, 594, 595, 596, 597, 197, 598, 599, 600, 601, 602, 603, 604, 51, 605, 606, 607, 608, 48, 52, 54, 136, 137, 138, 139, 326, 327, 328, 329, 325, 147, 148, 149, 203, 204, 205, 330, 331, 332, 333, 236, 237, 238, 206, 207, 208, 334, 335, 336, 337, 677, 678, 679, 680, 681, 682, 683, 684, 685, 686, 687] (by decide +kernel) (by decide +kernel)
set_option maxRecDepth 20000 in
theorem gL_law_X5_differ : GoodIn wsL_law (wsV RL 136 RX5 yX5_differ wsX5_differ) := goodIn_app (goodIn_of _ (by decide +kernel)) ggL_law_X5_differ
set_option maxRecDepth 20000 in
theorem ggL_law_L_firstCase : GoodIn wsL_law wsL_firstCase := goodIn_ca (goodIn_ca (goodIn_r _ [611, 98, 99, 612, 613, 614, 2, 615, 29, 106, 107, 108, 109, 110, 111, 16, 567, 568, 569, 104, 105, 112, 113, 114, 570, 571, 572, 28, 573, 40, 41, 39, 574, 575, 576, 577, 24, 25, 285, 286, 287, 22, 288, 33, 34, 35, 289, 116, 117, 65, 118, 76, 290, 291, 292, 293, 294, 174, 175, 176, 177, 178, 179, 180, 75, 295, 296, 297, 298, 299, 170, 171, 172, 173, 300, 229, 230, 231, 301, 302, 303, 304, 164, 165, 305, 306, 307, 308, 309, 310, 311, 312, 313, 314, 315, 316, 578, 579, 580, 581, 582, 583, 584, 585, 669, 670, 671, 672, 673, 674, 675, 676, 691, 692, 693, 688, 689, 690, 694, 695] (by decide +kernel) (by decide +kernel)) (goodIn_sub (fun _ h => List.mem_append_right _ h) (by decide +kernel))) (goodIn_sub (fun _ h => List.mem_append_left _ (List.mem_append_right _ h)) (by decide +kernel))
set_option maxRecDepth 20000 in
theorem gL_law_L_firstCase : GoodIn wsL_law (va_wsS RL 137 yL_firstCase wsL_firstCase) := goodIn_app (goodIn_of _ (by decide +kernel)) ggL_law_L_firstCase
set_option maxRecDepth 20000 in
theorem ggL_law_X5_firstCase : GoodIn wsL_law wsX5_firstCase := goodIn_r _ [619, 85, 140, 141, 142, 5, 143, 86, 144, 145, 146, 590, 591, 592, 593, 594, 595, 596, 597, 197, 598, 599, 600, 601, 602, 603, 604, 51, 605, 606, 607, 608, 48, 52, 54, 136, 137, 138, 139, 326, 327, 328, 329, 325, 147, 148, 149, 203, 204, 205, 330, 331, 332, 333, 236, 237, 238, 206, 207, 208, 334, 335, 336, 337, 677, 678, 679, 680, 681, 682, 683, 684, 685, 686, 687] (by decide +kernel) (by decide +kernel)
set_option maxRecDepth 20000 in
theorem gL_law_X5_firstCase : GoodIn wsL_law (wsV RL 139 RX5 yX5_firstCase wsX5_firstCase) := goodIn_app (goodIn_of _ (by decide +kernel)) ggL_law_X5_firstCase
set_option maxRecDepth 20000 in
theorem ggL_law_L_cost : GoodIn wsL_law wsL_cost := goodIn_ca (goodIn_ca (goodIn_r _ [622, 98, 99, 623, 624, 625, 2, 626, 29, 24, 106, 107, 108, 109, 110, 111, 16, 567, 568, 569, 104, 105, 112, 113, 114, 570, 571, 572, 28, 573, 40, 41, 39, 285, 286, 287, 22, 288, 33, 34, 35, 289, 116, 117, 65, 118, 76, 290, 291, 292, 293, 294, 174, 175, 176, 177, 178, 179, 180, 75, 295, 296, 297, 298, 299, 170, 171, 172, 173, 300, 229, 230, 231, 301, 302, 303, 304, 164, 165, 305, 306, 307, 308, 309, 310, 311, 312, 313, 314, 315, 316, 627, 628, 629, 630, 582, 583, 584, 585, 669, 670, 671, 672, 673, 674, 675, 676, 691, 692, 693, 688, 689, 690, 694, 695] (by decide +kernel) (by decide +kernel)) (goodIn_sub (fun _ h => List.mem_append_right _ h) (by decide +kernel))) (goodIn_sub (fun _ h => List.mem_append_left _ (List.mem_append_right _ h)) (by decide +kernel))
set_option maxRecDepth 20000 in
theorem gL_law_L_cost : GoodIn wsL_law (va_wsS RL 140 yL_cost wsL_cost) := goodIn_app (goodIn_of _ (by decide +kernel)) ggL_law_L_cost
set_option maxRecDepth 20000 in
theorem ggL_law_X5_cost : GoodIn wsL_law wsX5_cost := goodIn_r _ [634, 85, 48, 51, 325, 635, 636, 637, 638, 140, 141, 142, 5, 143, 86, 144, 145, 146, 590, 591, 592, 593, 594, 595, 596, 597, 197, 598, 599, 600, 601, 602, 603, 604, 326, 327, 328, 329, 52, 147, 148, 149, 203, 204, 205, 330, 331, 332, 333, 236, 237, 238, 206, 207, 208, 334, 335, 336, 337, 677, 678, 679, 680, 681, 682, 683, 684, 685, 686, 687] (by decide +kernel) (by decide +kernel)
set_option maxRecDepth 20000 in
theorem gL_law_X5_cost : GoodIn wsL_law (wsV RL 142 RX5 yX5_cost wsX5_cost) := goodIn_app (goodIn_of _ (by decide +kernel)) ggL_law_X5_cost
set_option maxRecDepth 20000 in
theorem ggL_law_L_exits : GoodIn wsL_law wsL_exits := goodIn_ca (goodIn_ca (goodIn_r _ [641, 98, 99, 642, 643, 644, 2, 645, 29, 24, 106, 107, 108, 109, 110, 111, 16, 567, 568, 569, 104, 105, 112, 113, 114, 570, 571, 572, 28, 573, 40, 41, 39, 285, 286, 287, 22, 288, 33, 34, 35, 289, 116, 117, 65, 118, 76, 290, 291, 292, 293, 294, 174, 175, 176, 177, 178, 179, 180, 75, 295, 296, 297, 298, 299, 170, 171, 172, 173, 300, 229, 230, 231, 301, 302, 303, 304, 164, 165, 305, 306, 307, 308, 309, 310, 311, 312, 313, 314, 315, 316, 317, 318, 319, 320, 582, 583, 584, 585, 669, 670, 671, 672, 673, 674, 675, 676, 691, 692, 693, 688, 689, 690, 694, 695] (by decide +kernel) (by decide +kernel)) (goodIn_sub (fun _ h => List.mem_append_right _ h) (by decide +kernel))) (goodIn_sub (fun _ h => List.mem_append_left _ (List.mem_append_right _ h)) (by decide +kernel))
set_option maxRecDepth 20000 in
theorem gL_law_L_exits : GoodIn wsL_law (va_wsS RL 143 yL_exits wsL_exits) := goodIn_app (goodIn_of _ (by decide +kernel)) ggL_law_L_exits
set_option maxRecDepth 20000 in
theorem ggL_law_X5_exits : GoodIn wsL_law wsX5_exits := goodIn_r _ [649, 85, 48, 51, 140, 141, 142, 5, 143, 86, 144, 145, 146, 590, 591, 592, 593, 594, 595, 596, 597, 197, 598, 599, 600, 601, 602, 603, 604, 326, 327, 328, 329, 325, 52, 147, 148, 149, 203, 204, 205, 330, 331, 332, 333, 236, 237, 238, 206, 207, 208, 334, 335, 336, 337, 677, 678, 679, 680, 681, 682, 683, 684, 685, 686, 687] (by decide +kernel) (by decide +kernel)
set_option maxRecDepth 20000 in
theorem gL_law_X5_exits : GoodIn wsL_law (wsV RL 146 RX5 yX5_exits wsX5_exits) := goodIn_app (goodIn_of _ (by decide +kernel)) ggL_law_X5_exits
set_option maxRecDepth 20000 in
theorem ggL_law_X4_digest : GoodIn wsL_law wsX4_digest := goodIn_r _ [653, 654, 17, 16, 19, 18, 23, 655, 656, 2, 657, 658, 659, 660, 661, 65, 662, 76, 173, 174, 175, 176, 177, 178, 179, 180, 75, 185, 170, 171, 172, 186, 187, 188, 345, 346, 347, 22, 348, 34, 305, 306, 307, 308, 33, 669, 670, 671, 672, 673, 674, 675, 676, 694, 695, 688, 689, 690] (by decide +kernel) (by decide +kernel)
set_option maxRecDepth 20000 in
theorem gL_law_X4_digest : GoodIn wsL_law (wsV RL 147 RX4 yX4_digest wsX4_digest) := goodIn_app (goodIn_of _ (by decide +kernel)) ggL_law_X4_digest
set_option maxRecDepth 20000 in
theorem ggL_law_X5_digest : GoodIn wsL_law wsX5_digest := goodIn_r _ [666, 85, 667, 86, 48, 668, 269, 50, 53, 203, 204, 5, 205, 147, 148, 149, 677, 678, 679, 680, 681, 682, 683, 684, 685, 686, 687] (by decide +kernel) (by decide +kernel)
set_option maxRecDepth 20000 in
theorem gL_law_X5_digest : GoodIn wsL_law (wsV RL 151 RX5 yX5_digest wsX5_digest) := goodIn_app (goodIn_of _ (by decide +kernel)) ggL_law_X5_digest
theorem dL_law_0 : decode cL_law 0 = .ok (.new 8, 3) := by decide +kernel
theorem dL_law_3 : decode cL_law 3 = .ok (.dup, 1) := by decide +kernel
theorem dL_law_4 : decode cL_law 4 = .ok (.invokespecial 72, 3) := by decide +kernel
theorem dL_law_7 : decode cL_law 7 = .ok (.astore_n 1, 1) := by decide +kernel
theorem dL_law_8 : decode cL_law 8 = .ok (.new 73, 3) := by decide +kernel
theorem dL_law_11 : decode cL_law 11 = .ok (.dup, 1) := by decide +kernel
theorem dL_law_12 : decode cL_law 12 = .ok (.invokespecial 75, 3) := by decide +kernel
theorem dL_law_15 : decode cL_law 15 = .ok (.astore_n 2, 1) := by decide +kernel
theorem dL_law_16 : decode cL_law 16 = .ok (.iconst 1, 1) := by decide +kernel
theorem dL_law_17 : decode cL_law 17 = .ok (.newarray .long, 2) := by decide +kernel
theorem dL_law_19 : decode cL_law 19 = .ok (.astore_n 3, 1) := by decide +kernel
theorem dL_law_20 : decode cL_law 20 = .ok (.iconst 1, 1) := by decide +kernel
theorem dL_law_21 : decode cL_law 21 = .ok (.newarray .double, 2) := by decide +kernel
theorem dL_law_23 : decode cL_law 23 = .ok (.astore 4, 2) := by decide +kernel
theorem dL_law_25 : decode cL_law 25 = .ok (.iconst 0, 1) := by decide +kernel
theorem dL_law_26 : decode cL_law 26 = .ok (.istore 5, 2) := by decide +kernel
theorem dL_law_28 : decode cL_law 28 = .ok (.iload 5, 2) := by decide +kernel
theorem dL_law_30 : decode cL_law 30 = .ok (.aload_n 0, 1) := by decide +kernel
theorem dL_law_31 : decode cL_law 31 = .ok (.arraylength, 1) := by decide +kernel
theorem dL_law_32 : decode cL_law 32 = .ok (.bipush 7, 2) := by decide +kernel
theorem dL_law_34 : decode cL_law 34 = .ok (.isub, 1) := by decide +kernel
theorem dL_law_35 : decode cL_law 35 = .ok (.if_icmp .gt 1477, 3) := by decide +kernel
theorem dL_law_38 : decode cL_law 38 = .ok (.aload_n 0, 1) := by decide +kernel
theorem dL_law_39 : decode cL_law 39 = .ok (.iload 5, 2) := by decide +kernel
theorem dL_law_41 : decode cL_law 41 = .ok (.iaload, 1) := by decide +kernel
theorem dL_law_42 : decode cL_law 42 = .ok (.bipush 31, 2) := by decide +kernel
theorem dL_law_44 : decode cL_law 44 = .ok (.iand, 1) := by decide +kernel
theorem dL_law_45 : decode cL_law 45 = .ok (.tableswitch 1461 0 18 #[91, 135, 243, 361, 441, 533, 546, 602, 690, 703, 759, 814, 906, 998, 1054, 1146, 1238, 1346, 1447], 91) := by decide +kernel
theorem dL_law_136 : decode cL_law 136 = .ok (.aload_n 1, 1) := by decide +kernel
theorem dL_law_137 : decode cL_law 137 = .ok (.aload_n 3, 1) := by decide +kernel
theorem dL_law_138 : decode cL_law 138 = .ok (.invokestatic 76, 3) := by decide +kernel
theorem dL_law_141 : decode cL_law 141 = .ok (.istore 6, 2) := by decide +kernel
theorem dL_law_143 : decode cL_law 143 = .ok (.aload_n 2, 1) := by decide +kernel
theorem dL_law_144 : decode cL_law 144 = .ok (.invokevirtual 81, 3) := by decide +kernel
theorem dL_law_147 : decode cL_law 147 = .ok (.istore 7, 2) := by decide +kernel
theorem dL_law_149 : decode cL_law 149 = .ok (.aload_n 2, 1) := by decide +kernel
theorem dL_law_150 : decode cL_law 150 = .ok (.invokevirtual 82, 3) := by decide +kernel
theorem dL_law_153 : decode cL_law 153 = .ok (.iload 6, 2) := by decide +kernel
theorem dL_law_155 : decode cL_law 155 = .ok (.if_icmp .eq 5, 3) := by decide +kernel
theorem dL_law_158 : decode cL_law 158 = .ok (.iconst 0, 1) := by decide +kernel
theorem dL_law_159 : decode cL_law 159 = .ok (.ireturn, 1) := by decide +kernel
theorem dL_law_160 : decode cL_law 160 = .ok (.iload 6, 2) := by decide +kernel
theorem dL_law_162 : decode cL_law 162 = .ok (.ifCond .ne 15, 3) := by decide +kernel
theorem dL_law_165 : decode cL_law 165 = .ok (.aload_n 3, 1) := by decide +kernel
theorem dL_law_166 : decode cL_law 166 = .ok (.iconst 0, 1) := by decide +kernel
theorem dL_law_167 : decode cL_law 167 = .ok (.laload, 1) := by decide +kernel
theorem dL_law_168 : decode cL_law 168 = .ok (.iload 7, 2) := by decide +kernel
theorem dL_law_170 : decode cL_law 170 = .ok (.i2l, 1) := by decide +kernel
theorem dL_law_171 : decode cL_law 171 = .ok (.lcmp, 1) := by decide +kernel
theorem dL_law_172 : decode cL_law 172 = .ok (.ifCond .eq 5, 3) := by decide +kernel
