set_option maxRecDepth 20000 in
theorem ggX4_differ_X4_answerTheSame : GoodIn wsX4_differ wsX4_answerTheSame := goodIn_r _ [29, 30, 1, 31, 32, 33, 34, 35, 36, 37, 38, 39, 40, 41, 42, 43, 44, 45, 46, 47, 48, 49, 50, 51, 52, 53, 54, 55, 56, 57, 58, 59, 60, 61, 62, 63, 64, 65, 66, 67, 68, 69, 70, 71, 72, 73, 74, 75, 76, 5, 77, 78, 79, 80, 81, 82, 83, 84, 85, 86, 87, 88, 89, 90, 91, 92, 93, 98, 99, 100, 101, 102, 103, 104, 105, 106, 107, 108, 109, 110, 111, 112, 113] (by decide +kernel) (by decide +kernel)
set_option maxRecDepth 20000 in
theorem gX4_differ_X4_answerTheSame : GoodIn wsX4_differ (wsV RX4 167 RX4 yX4_answerTheSame wsX4_answerTheSame) := goodIn_app (goodIn_of _ (by decide +kernel)) ggX4_differ_X4_answerTheSame
set_option maxRecDepth 20000 in
theorem ggX4_differ_X0_goOn : GoodIn wsX4_differ wsX0_goOn := goodIn_r _ [97, 23, 25, 24, 106, 107, 108] (by decide +kernel) (by decide +kernel)
set_option maxRecDepth 20000 in
theorem gX4_differ_X0_goOn : GoodIn wsX4_differ (wsV RX4 171 RX0 yX0_goOn wsX0_goOn) := goodIn_app (goodIn_of _ (by decide +kernel)) ggX4_differ_X0_goOn
theorem dX4_differ_0 : decode cX4_differ 0 = .ok (.aload_n 0, 1) := by decide +kernel
theorem dX4_differ_1 : decode cX4_differ 1 = .ok (.iload_n 1, 1) := by decide +kernel
theorem dX4_differ_2 : decode cX4_differ 2 = .ok (.invokevirtual 54, 3) := by decide +kernel
theorem dX4_differ_5 : decode cX4_differ 5 = .ok (.astore 5, 2) := by decide +kernel
theorem dX4_differ_7 : decode cX4_differ 7 = .ok (.aload_n 0, 1) := by decide +kernel
theorem dX4_differ_8 : decode cX4_differ 8 = .ok (.iload_n 2, 1) := by decide +kernel
theorem dX4_differ_9 : decode cX4_differ 9 = .ok (.invokevirtual 54, 3) := by decide +kernel
theorem dX4_differ_12 : decode cX4_differ 12 = .ok (.astore 6, 2) := by decide +kernel
theorem dX4_differ_14 : decode cX4_differ 14 = .ok (.iload_n 3, 1) := by decide +kernel
theorem dX4_differ_15 : decode cX4_differ 15 = .ok (.iload 4, 2) := by decide +kernel
theorem dX4_differ_17 : decode cX4_differ 17 = .ok (.invokestatic 160, 3) := by decide +kernel
theorem dX4_differ_20 : decode cX4_differ 20 = .ok (.istore 7, 2) := by decide +kernel
theorem dX4_differ_22 : decode cX4_differ 22 = .ok (.iconst 0, 1) := by decide +kernel
theorem dX4_differ_23 : decode cX4_differ 23 = .ok (.istore 8, 2) := by decide +kernel
theorem dX4_differ_25 : decode cX4_differ 25 = .ok (.aload_n 0, 1) := by decide +kernel
theorem dX4_differ_26 : decode cX4_differ 26 = .ok (.getfield 42, 3) := by decide +kernel
theorem dX4_differ_29 : decode cX4_differ 29 = .ok (.iload_n 3, 1) := by decide +kernel
theorem dX4_differ_30 : decode cX4_differ 30 = .ok (.iload 4, 2) := by decide +kernel
theorem dX4_differ_32 : decode cX4_differ 32 = .ok (.invokevirtual 163, 3) := by decide +kernel
theorem dX4_differ_35 : decode cX4_differ 35 = .ok (.iconst 0, 1) := by decide +kernel
theorem dX4_differ_36 : decode cX4_differ 36 = .ok (.istore 9, 2) := by decide +kernel
theorem dX4_differ_38 : decode cX4_differ 38 = .ok (.iload 9, 2) := by decide +kernel
theorem dX4_differ_40 : decode cX4_differ 40 = .ok (.iload 7, 2) := by decide +kernel
theorem dX4_differ_42 : decode cX4_differ 42 = .ok (.if_icmp .ge 30, 3) := by decide +kernel
theorem dX4_differ_45 : decode cX4_differ 45 = .ok (.aload_n 0, 1) := by decide +kernel
theorem dX4_differ_46 : decode cX4_differ 46 = .ok (.aload 5, 2) := by decide +kernel
theorem dX4_differ_48 : decode cX4_differ 48 = .ok (.aload 6, 2) := by decide +kernel
theorem dX4_differ_50 : decode cX4_differ 50 = .ok (.invokevirtual 167, 3) := by decide +kernel
theorem dX4_differ_53 : decode cX4_differ 53 = .ok (.ifCond .ne 6, 3) := by decide +kernel
theorem dX4_differ_56 : decode cX4_differ 56 = .ok (.iinc 8 1, 3) := by decide +kernel
theorem dX4_differ_59 : decode cX4_differ 59 = .ok (.aload_n 0, 1) := by decide +kernel
theorem dX4_differ_60 : decode cX4_differ 60 = .ok (.getfield 42, 3) := by decide +kernel
theorem dX4_differ_63 : decode cX4_differ 63 = .ok (.invokevirtual 171, 3) := by decide +kernel
theorem dX4_differ_66 : decode cX4_differ 66 = .ok (.iinc 9 1, 3) := by decide +kernel
theorem dX4_differ_69 : decode cX4_differ 69 = .ok (.goto (-31), 3) := by decide +kernel
theorem dX4_differ_72 : decode cX4_differ 72 = .ok (.iload 8, 2) := by decide +kernel
theorem dX4_differ_74 : decode cX4_differ 74 = .ok (.ireturn, 1) := by decide +kernel
set_option maxRecDepth 20000 in
theorem ggX4_firstCase_X4_programAt : GoodIn wsX4_firstCase wsX4_programAt := goodIn_ca (goodIn_r _ [6, 7, 8, 9, 98, 99, 100, 101, 102, 103, 104, 105] (by decide +kernel) (by decide +kernel)) (goodIn_sub (fun _ h => List.mem_cons_of_mem _ (List.mem_append_left _ (List.mem_append_right _ h))) (by decide +kernel))
set_option maxRecDepth 20000 in
theorem gX4_firstCase_X4_programAt : GoodIn wsX4_firstCase (wsV RX4 54 RX4 yX4_programAt wsX4_programAt) := goodIn_app (goodIn_of _ (by decide +kernel)) ggX4_firstCase_X4_programAt
set_option maxRecDepth 20000 in
theorem ggX4_firstCase_X4_checkedRows : GoodIn wsX4_firstCase wsX4_checkedRows := goodIn_ca (goodIn_r _ [12, 13, 14, 15, 16, 5, 17] (by decide +kernel) (by decide +kernel)) (goodIn_sub (fun _ h => List.mem_cons_of_mem _ (List.mem_append_right _ h)) (by decide +kernel))
set_option maxRecDepth 20000 in
theorem gX4_firstCase_X4_checkedRows : GoodIn wsX4_firstCase (va_wsS RX4 160 yX4_checkedRows wsX4_checkedRows) := goodIn_app (goodIn_of _ (by decide +kernel)) ggX4_firstCase_X4_checkedRows
set_option maxRecDepth 20000 in
theorem ggX4_firstCase_X0_begin : GoodIn wsX4_firstCase wsX0_begin := goodIn_r _ [22, 23, 24, 25, 106, 107, 108] (by decide +kernel) (by decide +kernel)
set_option maxRecDepth 20000 in
theorem gX4_firstCase_X0_begin : GoodIn wsX4_firstCase (wsV RX4 163 RX0 yX0_begin wsX0_begin) := goodIn_app (goodIn_of _ (by decide +kernel)) ggX4_firstCase_X0_begin
set_option maxRecDepth 20000 in
theorem ggX4_firstCase_X4_answerTheSame : GoodIn wsX4_firstCase wsX4_answerTheSame := goodIn_r _ [29, 30, 1, 31, 32, 33, 34, 35, 36, 37, 38, 39, 40, 41, 42, 43, 44, 45, 46, 47, 48, 49, 50, 51, 52, 53, 54, 55, 56, 57, 58, 59, 60, 61, 62, 63, 64, 65, 66, 67, 68, 69, 70, 71, 72, 73, 74, 75, 76, 5, 77, 78, 79, 80, 81, 82, 83, 84, 85, 86, 87, 88, 89, 90, 91, 92, 93, 98, 99, 100, 101, 102, 103, 104, 105, 106, 107, 108, 109, 110, 111, 112, 113] (by decide +kernel) (by decide +kernel)
set_option maxRecDepth 20000 in
theorem gX4_firstCase_X4_answerTheSame : GoodIn wsX4_firstCase (wsV RX4 167 RX4 yX4_answerTheSame wsX4_answerTheSame) := goodIn_app (goodIn_of _ (by decide +kernel)) ggX4_firstCase_X4_answerTheSame
set_option maxRecDepth 20000 in
theorem ggX4_firstCase_X0_goOn : GoodIn wsX4_firstCase wsX0_goOn := goodIn_r _ [97, 23, 25, 24, 106, 107, 108] (by decide +kernel) (by decide +kernel)
set_option maxRecDepth 20000 in
theorem gX4_firstCase_X0_goOn : GoodIn wsX4_firstCase (wsV RX4 171 RX0 yX0_goOn wsX0_goOn) := goodIn_app (goodIn_of _ (by decide +kernel)) ggX4_firstCase_X0_goOn
theorem dX4_firstCase_0 : decode cX4_firstCase 0 = .ok (.aload_n 0, 1) := by decide +kernel
theorem dX4_firstCase_1 : decode cX4_firstCase 1 = .ok (.iload_n 1, 1) := by decide +kernel
theorem dX4_firstCase_2 : decode cX4_firstCase 2 = .ok (.invokevirtual 54, 3) := by decide +kernel
theorem dX4_firstCase_5 : decode cX4_firstCase 5 = .ok (.astore 5, 2) := by decide +kernel
theorem dX4_firstCase_7 : decode cX4_firstCase 7 = .ok (.aload_n 0, 1) := by decide +kernel
theorem dX4_firstCase_8 : decode cX4_firstCase 8 = .ok (.iload_n 2, 1) := by decide +kernel
theorem dX4_firstCase_9 : decode cX4_firstCase 9 = .ok (.invokevirtual 54, 3) := by decide +kernel
theorem dX4_firstCase_12 : decode cX4_firstCase 12 = .ok (.astore 6, 2) := by decide +kernel
theorem dX4_firstCase_14 : decode cX4_firstCase 14 = .ok (.iload_n 3, 1) := by decide +kernel
theorem dX4_firstCase_15 : decode cX4_firstCase 15 = .ok (.iload 4, 2) := by decide +kernel
theorem dX4_firstCase_17 : decode cX4_firstCase 17 = .ok (.invokestatic 160, 3) := by decide +kernel
theorem dX4_firstCase_20 : decode cX4_firstCase 20 = .ok (.istore 7, 2) := by decide +kernel
theorem dX4_firstCase_22 : decode cX4_firstCase 22 = .ok (.aload_n 0, 1) := by decide +kernel
theorem dX4_firstCase_23 : decode cX4_firstCase 23 = .ok (.getfield 42, 3) := by decide +kernel
theorem dX4_firstCase_26 : decode cX4_firstCase 26 = .ok (.iload_n 3, 1) := by decide +kernel
theorem dX4_firstCase_27 : decode cX4_firstCase 27 = .ok (.iload 4, 2) := by decide +kernel
theorem dX4_firstCase_29 : decode cX4_firstCase 29 = .ok (.invokevirtual 163, 3) := by decide +kernel
theorem dX4_firstCase_32 : decode cX4_firstCase 32 = .ok (.iconst 0, 1) := by decide +kernel
theorem dX4_firstCase_33 : decode cX4_firstCase 33 = .ok (.istore 8, 2) := by decide +kernel
theorem dX4_firstCase_35 : decode cX4_firstCase 35 = .ok (.iload 8, 2) := by decide +kernel
theorem dX4_firstCase_37 : decode cX4_firstCase 37 = .ok (.iload 7, 2) := by decide +kernel
theorem dX4_firstCase_39 : decode cX4_firstCase 39 = .ok (.if_icmp .ge 30, 3) := by decide +kernel
theorem dX4_firstCase_42 : decode cX4_firstCase 42 = .ok (.aload_n 0, 1) := by decide +kernel
theorem dX4_firstCase_43 : decode cX4_firstCase 43 = .ok (.aload 5, 2) := by decide +kernel
theorem dX4_firstCase_45 : decode cX4_firstCase 45 = .ok (.aload 6, 2) := by decide +kernel
theorem dX4_firstCase_47 : decode cX4_firstCase 47 = .ok (.invokevirtual 167, 3) := by decide +kernel
theorem dX4_firstCase_50 : decode cX4_firstCase 50 = .ok (.ifCond .ne 6, 3) := by decide +kernel
theorem dX4_firstCase_53 : decode cX4_firstCase 53 = .ok (.iload 8, 2) := by decide +kernel
theorem dX4_firstCase_55 : decode cX4_firstCase 55 = .ok (.ireturn, 1) := by decide +kernel
theorem dX4_firstCase_56 : decode cX4_firstCase 56 = .ok (.aload_n 0, 1) := by decide +kernel
theorem dX4_firstCase_57 : decode cX4_firstCase 57 = .ok (.getfield 42, 3) := by decide +kernel
theorem dX4_firstCase_60 : decode cX4_firstCase 60 = .ok (.invokevirtual 171, 3) := by decide +kernel
theorem dX4_firstCase_63 : decode cX4_firstCase 63 = .ok (.iinc 8 1, 3) := by decide +kernel
theorem dX4_firstCase_66 : decode cX4_firstCase 66 = .ok (.goto (-31), 3) := by decide +kernel
theorem dX4_firstCase_69 : decode cX4_firstCase 69 = .ok (.iconst (-1), 1) := by decide +kernel
theorem dX4_firstCase_70 : decode cX4_firstCase 70 = .ok (.ireturn, 1) := by decide +kernel
set_option maxRecDepth 20000 in
theorem ggX4_cost_X4_programAt : GoodIn wsX4_cost wsX4_programAt := goodIn_ca (goodIn_r _ [7, 8, 9, 10, 93, 94, 95, 96, 97, 98, 99, 100] (by decide +kernel) (by decide +kernel)) (goodIn_sub (fun _ h => List.mem_cons_of_mem _ (List.mem_append_left _ (List.mem_append_right _ h))) (by decide +kernel))
set_option maxRecDepth 20000 in
theorem gX4_cost_X4_programAt : GoodIn wsX4_cost (wsV RX4 54 RX4 yX4_programAt wsX4_programAt) := goodIn_app (goodIn_of _ (by decide +kernel)) ggX4_cost_X4_programAt
set_option maxRecDepth 20000 in
theorem ggX4_cost_X4_checkedRows : GoodIn wsX4_cost wsX4_checkedRows := goodIn_ca (goodIn_r _ [13, 14, 15, 16, 17, 6, 18] (by decide +kernel) (by decide +kernel)) (goodIn_sub (fun _ h => List.mem_cons_of_mem _ (List.mem_append_right _ h)) (by decide +kernel))
set_option maxRecDepth 20000 in
theorem gX4_cost_X4_checkedRows : GoodIn wsX4_cost (va_wsS RX4 160 yX4_checkedRows wsX4_checkedRows) := goodIn_app (goodIn_of _ (by decide +kernel)) ggX4_cost_X4_checkedRows
set_option maxRecDepth 20000 in
theorem ggX4_cost_X0_begin : GoodIn wsX4_cost wsX0_begin := goodIn_r _ [23, 24, 25, 26, 101, 102, 103] (by decide +kernel) (by decide +kernel)
set_option maxRecDepth 20000 in
theorem gX4_cost_X0_begin : GoodIn wsX4_cost (wsV RX4 163 RX0 yX0_begin wsX0_begin) := goodIn_app (goodIn_of _ (by decide +kernel)) ggX4_cost_X0_begin
set_option maxRecDepth 20000 in
theorem ggX4_cost_X3_goThrough : GoodIn wsX4_cost wsX3_goThrough := goodIn_r _ [31, 32, 33, 34, 35, 36, 37, 38, 39, 40, 41, 42, 43, 30, 44, 45, 46, 47, 48, 49, 50, 51, 52, 53, 54, 55, 56, 57, 58, 59, 60, 61, 62, 63, 64, 65, 66, 67, 68, 69, 70, 71, 6, 72, 73, 74, 75, 76, 77, 78, 79, 80, 81, 82, 83, 84, 104, 105, 106, 107, 108] (by decide +kernel) (by decide +kernel)
set_option maxRecDepth 20000 in
theorem gX4_cost_X3_goThrough : GoodIn wsX4_cost (wsV RX4 120 RX3 yX3_goThrough wsX3_goThrough) := goodIn_app (goodIn_of _ (by decide +kernel)) ggX4_cost_X3_goThrough
set_option maxRecDepth 20000 in
theorem ggX4_cost_X3_countLooks : GoodIn wsX4_cost wsX3_countLooks := goodIn_r _ [88, 33, 104, 105, 106] (by decide +kernel) (by decide +kernel)
set_option maxRecDepth 20000 in
theorem gX4_cost_X3_countLooks : GoodIn wsX4_cost (wsV RX4 180 RX3 yX3_countLooks wsX3_countLooks) := goodIn_app (goodIn_of _ (by decide +kernel)) ggX4_cost_X3_countLooks
set_option maxRecDepth 20000 in
theorem ggX4_cost_X0_goOn : GoodIn wsX4_cost wsX0_goOn := goodIn_r _ [92, 24, 26, 25, 101, 102, 103] (by decide +kernel) (by decide +kernel)
set_option maxRecDepth 20000 in
theorem gX4_cost_X0_goOn : GoodIn wsX4_cost (wsV RX4 171 RX0 yX0_goOn wsX0_goOn) := goodIn_app (goodIn_of _ (by decide +kernel)) ggX4_cost_X0_goOn
theorem dX4_cost_0 : decode cX4_cost 0 = .ok (.aload_n 0, 1) := by decide +kernel
theorem dX4_cost_1 : decode cX4_cost 1 = .ok (.iload_n 1, 1) := by decide +kernel
theorem dX4_cost_2 : decode cX4_cost 2 = .ok (.invokevirtual 54, 3) := by decide +kernel
theorem dX4_cost_5 : decode cX4_cost 5 = .ok (.astore 5, 2) := by decide +kernel
theorem dX4_cost_7 : decode cX4_cost 7 = .ok (.iload_n 2, 1) := by decide +kernel
theorem dX4_cost_8 : decode cX4_cost 8 = .ok (.iload_n 3, 1) := by decide +kernel
theorem dX4_cost_9 : decode cX4_cost 9 = .ok (.invokestatic 160, 3) := by decide +kernel
theorem dX4_cost_12 : decode cX4_cost 12 = .ok (.istore 6, 2) := by decide +kernel
theorem dX4_cost_14 : decode cX4_cost 14 = .ok (.iconst 0, 1) := by decide +kernel
theorem dX4_cost_15 : decode cX4_cost 15 = .ok (.istore 7, 2) := by decide +kernel
theorem dX4_cost_17 : decode cX4_cost 17 = .ok (.iconst 0, 1) := by decide +kernel
theorem dX4_cost_18 : decode cX4_cost 18 = .ok (.istore 8, 2) := by decide +kernel
theorem dX4_cost_20 : decode cX4_cost 20 = .ok (.aload_n 0, 1) := by decide +kernel
theorem dX4_cost_21 : decode cX4_cost 21 = .ok (.getfield 42, 3) := by decide +kernel
theorem dX4_cost_24 : decode cX4_cost 24 = .ok (.iload_n 2, 1) := by decide +kernel
theorem dX4_cost_25 : decode cX4_cost 25 = .ok (.iload_n 3, 1) := by decide +kernel
theorem dX4_cost_26 : decode cX4_cost 26 = .ok (.invokevirtual 163, 3) := by decide +kernel
theorem dX4_cost_29 : decode cX4_cost 29 = .ok (.iconst 0, 1) := by decide +kernel
theorem dX4_cost_30 : decode cX4_cost 30 = .ok (.istore 9, 2) := by decide +kernel
theorem dX4_cost_32 : decode cX4_cost 32 = .ok (.iload 9, 2) := by decide +kernel
theorem dX4_cost_34 : decode cX4_cost 34 = .ok (.iload 6, 2) := by decide +kernel
theorem dX4_cost_36 : decode cX4_cost 36 = .ok (.if_icmp .ge 71, 3) := by decide +kernel
theorem dX4_cost_39 : decode cX4_cost 39 = .ok (.aload_n 0, 1) := by decide +kernel
theorem dX4_cost_40 : decode cX4_cost 40 = .ok (.getfield 33, 3) := by decide +kernel
theorem dX4_cost_43 : decode cX4_cost 43 = .ok (.aload 5, 2) := by decide +kernel
theorem dX4_cost_45 : decode cX4_cost 45 = .ok (.aload_n 0, 1) := by decide +kernel
theorem dX4_cost_46 : decode cX4_cost 46 = .ok (.getfield 42, 3) := by decide +kernel
theorem dX4_cost_49 : decode cX4_cost 49 = .ok (.getfield 174, 3) := by decide +kernel
theorem dX4_cost_52 : decode cX4_cost 52 = .ok (.aload_n 0, 1) := by decide +kernel
theorem dX4_cost_53 : decode cX4_cost 53 = .ok (.getfield 42, 3) := by decide +kernel
theorem dX4_cost_56 : decode cX4_cost 56 = .ok (.getfield 177, 3) := by decide +kernel
theorem dX4_cost_59 : decode cX4_cost 59 = .ok (.invokevirtual 120, 3) := by decide +kernel
theorem dX4_cost_62 : decode cX4_cost 62 = .ok (.aload_n 0, 1) := by decide +kernel
theorem dX4_cost_63 : decode cX4_cost 63 = .ok (.getfield 33, 3) := by decide +kernel
theorem dX4_cost_66 : decode cX4_cost 66 = .ok (.invokevirtual 180, 3) := by decide +kernel
theorem dX4_cost_69 : decode cX4_cost 69 = .ok (.istore 10, 2) := by decide +kernel
theorem dX4_cost_71 : decode cX4_cost 71 = .ok (.iload 10, 2) := by decide +kernel
theorem dX4_cost_73 : decode cX4_cost 73 = .ok (.iload 7, 2) := by decide +kernel
theorem dX4_cost_75 : decode cX4_cost 75 = .ok (.if_icmp .le 8, 3) := by decide +kernel
theorem dX4_cost_78 : decode cX4_cost 78 = .ok (.iload 10, 2) := by decide +kernel
theorem dX4_cost_80 : decode cX4_cost 80 = .ok (.goto 5, 3) := by decide +kernel
theorem dX4_cost_83 : decode cX4_cost 83 = .ok (.iload 7, 2) := by decide +kernel
theorem dX4_cost_85 : decode cX4_cost 85 = .ok (.istore 7, 2) := by decide +kernel
theorem dX4_cost_87 : decode cX4_cost 87 = .ok (.iload 8, 2) := by decide +kernel
theorem dX4_cost_89 : decode cX4_cost 89 = .ok (.iload 10, 2) := by decide +kernel
theorem dX4_cost_91 : decode cX4_cost 91 = .ok (.iadd, 1) := by decide +kernel
theorem dX4_cost_92 : decode cX4_cost 92 = .ok (.istore 8, 2) := by decide +kernel
theorem dX4_cost_94 : decode cX4_cost 94 = .ok (.aload_n 0, 1) := by decide +kernel
theorem dX4_cost_95 : decode cX4_cost 95 = .ok (.getfield 42, 3) := by decide +kernel
theorem dX4_cost_98 : decode cX4_cost 98 = .ok (.invokevirtual 171, 3) := by decide +kernel
theorem dX4_cost_101 : decode cX4_cost 101 = .ok (.iinc 9 1, 3) := by decide +kernel
theorem dX4_cost_104 : decode cX4_cost 104 = .ok (.goto (-72), 3) := by decide +kernel
theorem dX4_cost_107 : decode cX4_cost 107 = .ok (.iload 4, 2) := by decide +kernel
theorem dX4_cost_109 : decode cX4_cost 109 = .ok (.ifCond .eq 8, 3) := by decide +kernel
theorem dX4_cost_112 : decode cX4_cost 112 = .ok (.iload 7, 2) := by decide +kernel
theorem dX4_cost_114 : decode cX4_cost 114 = .ok (.goto 5, 3) := by decide +kernel
theorem dX4_cost_117 : decode cX4_cost 117 = .ok (.iload 8, 2) := by decide +kernel
theorem dX4_cost_119 : decode cX4_cost 119 = .ok (.ireturn, 1) := by decide +kernel
set_option maxRecDepth 20000 in
theorem ggX4_exits_X4_programAt : GoodIn wsX4_exits wsX4_programAt := goodIn_ca (goodIn_r _ [7, 8, 9, 10, 93, 94, 95, 96, 97, 98, 99, 100] (by decide +kernel) (by decide +kernel)) (goodIn_sub (fun _ h => List.mem_cons_of_mem _ (List.mem_append_left _ (List.mem_append_right _ h))) (by decide +kernel))
set_option maxRecDepth 20000 in
theorem gX4_exits_X4_programAt : GoodIn wsX4_exits (wsV RX4 54 RX4 yX4_programAt wsX4_programAt) := goodIn_app (goodIn_of _ (by decide +kernel)) ggX4_exits_X4_programAt
set_option maxRecDepth 20000 in
theorem ggX4_exits_X4_checkedRows : GoodIn wsX4_exits wsX4_checkedRows := goodIn_ca (goodIn_r _ [13, 14, 15, 16, 17, 6, 18] (by decide +kernel) (by decide +kernel)) (goodIn_sub (fun _ h => List.mem_cons_of_mem _ (List.mem_append_right _ h)) (by decide +kernel))
set_option maxRecDepth 20000 in
theorem gX4_exits_X4_checkedRows : GoodIn wsX4_exits (va_wsS RX4 160 yX4_checkedRows wsX4_checkedRows) := goodIn_app (goodIn_of _ (by decide +kernel)) ggX4_exits_X4_checkedRows
set_option maxRecDepth 20000 in
theorem ggX4_exits_X0_begin : GoodIn wsX4_exits wsX0_begin := goodIn_r _ [23, 24, 25, 26, 101, 102, 103] (by decide +kernel) (by decide +kernel)
set_option maxRecDepth 20000 in
theorem gX4_exits_X0_begin : GoodIn wsX4_exits (wsV RX4 163 RX0 yX0_begin wsX0_begin) := goodIn_app (goodIn_of _ (by decide +kernel)) ggX4_exits_X0_begin
set_option maxRecDepth 20000 in
theorem ggX4_exits_X3_goThrough : GoodIn wsX4_exits wsX3_goThrough := goodIn_r _ [31, 32, 33, 34, 35, 36, 37, 38, 39, 40, 41, 42, 43, 30, 44, 45, 46, 47, 48, 49, 50, 51, 52, 53, 54, 55, 56, 57, 58, 59, 60, 61, 62, 63, 64, 65, 66, 67, 68, 69, 70, 71, 6, 72, 73, 74, 75, 76, 77, 78, 79, 80, 81, 82, 83, 84, 104, 105, 106, 107, 108] (by decide +kernel) (by decide +kernel)
set_option maxRecDepth 20000 in
theorem gX4_exits_X3_goThrough : GoodIn wsX4_exits (wsV RX4 120 RX3 yX3_goThrough wsX3_goThrough) := goodIn_app (goodIn_of _ (by decide +kernel)) ggX4_exits_X3_goThrough
set_option maxRecDepth 20000 in
theorem ggX4_exits_X3_codeOfExit : GoodIn wsX4_exits wsX3_codeOfExit := goodIn_r _ [88, 34, 104, 105, 106] (by decide +kernel) (by decide +kernel)
set_option maxRecDepth 20000 in
theorem gX4_exits_X3_codeOfExit : GoodIn wsX4_exits (wsV RX4 124 RX3 yX3_codeOfExit wsX3_codeOfExit) := goodIn_app (goodIn_of _ (by decide +kernel)) ggX4_exits_X3_codeOfExit
set_option maxRecDepth 20000 in
theorem ggX4_exits_X0_goOn : GoodIn wsX4_exits wsX0_goOn := goodIn_r _ [92, 24, 26, 25, 101, 102, 103] (by decide +kernel) (by decide +kernel)
set_option maxRecDepth 20000 in
theorem gX4_exits_X0_goOn : GoodIn wsX4_exits (wsV RX4 171 RX0 yX0_goOn wsX0_goOn) := goodIn_app (goodIn_of _ (by decide +kernel)) ggX4_exits_X0_goOn
theorem dX4_exits_0 : decode cX4_exits 0 = .ok (.aload_n 0, 1) := by decide +kernel
theorem dX4_exits_1 : decode cX4_exits 1 = .ok (.iload_n 1, 1) := by decide +kernel
theorem dX4_exits_2 : decode cX4_exits 2 = .ok (.invokevirtual 54, 3) := by decide +kernel
theorem dX4_exits_5 : decode cX4_exits 5 = .ok (.astore 4, 2) := by decide +kernel
theorem dX4_exits_7 : decode cX4_exits 7 = .ok (.iload_n 2, 1) := by decide +kernel
theorem dX4_exits_8 : decode cX4_exits 8 = .ok (.iload_n 3, 1) := by decide +kernel
theorem dX4_exits_9 : decode cX4_exits 9 = .ok (.invokestatic 160, 3) := by decide +kernel
theorem dX4_exits_12 : decode cX4_exits 12 = .ok (.istore 5, 2) := by decide +kernel
theorem dX4_exits_14 : decode cX4_exits 14 = .ok (.iconst 0, 1) := by decide +kernel
theorem dX4_exits_15 : decode cX4_exits 15 = .ok (.istore 6, 2) := by decide +kernel
theorem dX4_exits_17 : decode cX4_exits 17 = .ok (.aload_n 0, 1) := by decide +kernel
theorem dX4_exits_18 : decode cX4_exits 18 = .ok (.getfield 42, 3) := by decide +kernel
theorem dX4_exits_21 : decode cX4_exits 21 = .ok (.iload_n 2, 1) := by decide +kernel
theorem dX4_exits_22 : decode cX4_exits 22 = .ok (.iload_n 3, 1) := by decide +kernel
theorem dX4_exits_23 : decode cX4_exits 23 = .ok (.invokevirtual 163, 3) := by decide +kernel
theorem dX4_exits_26 : decode cX4_exits 26 = .ok (.iconst 0, 1) := by decide +kernel
theorem dX4_exits_27 : decode cX4_exits 27 = .ok (.istore 7, 2) := by decide +kernel
theorem dX4_exits_29 : decode cX4_exits 29 = .ok (.iload 7, 2) := by decide +kernel
theorem dX4_exits_31 : decode cX4_exits 31 = .ok (.iload 5, 2) := by decide +kernel
theorem dX4_exits_33 : decode cX4_exits 33 = .ok (.if_icmp .ge 53, 3) := by decide +kernel
theorem dX4_exits_36 : decode cX4_exits 36 = .ok (.aload_n 0, 1) := by decide +kernel
theorem dX4_exits_37 : decode cX4_exits 37 = .ok (.getfield 33, 3) := by decide +kernel
theorem dX4_exits_40 : decode cX4_exits 40 = .ok (.aload 4, 2) := by decide +kernel
theorem dX4_exits_42 : decode cX4_exits 42 = .ok (.aload_n 0, 1) := by decide +kernel
theorem dX4_exits_43 : decode cX4_exits 43 = .ok (.getfield 42, 3) := by decide +kernel
theorem dX4_exits_46 : decode cX4_exits 46 = .ok (.getfield 174, 3) := by decide +kernel
theorem dX4_exits_49 : decode cX4_exits 49 = .ok (.aload_n 0, 1) := by decide +kernel
theorem dX4_exits_50 : decode cX4_exits 50 = .ok (.getfield 42, 3) := by decide +kernel
theorem dX4_exits_53 : decode cX4_exits 53 = .ok (.getfield 177, 3) := by decide +kernel
theorem dX4_exits_56 : decode cX4_exits 56 = .ok (.invokevirtual 120, 3) := by decide +kernel
theorem dX4_exits_59 : decode cX4_exits 59 = .ok (.aload_n 0, 1) := by decide +kernel
theorem dX4_exits_60 : decode cX4_exits 60 = .ok (.getfield 33, 3) := by decide +kernel
theorem dX4_exits_63 : decode cX4_exits 63 = .ok (.invokevirtual 124, 3) := by decide +kernel
theorem dX4_exits_66 : decode cX4_exits 66 = .ok (.iconst (-1), 1) := by decide +kernel
theorem dX4_exits_67 : decode cX4_exits 67 = .ok (.if_icmp .eq 6, 3) := by decide +kernel
theorem dX4_exits_70 : decode cX4_exits 70 = .ok (.iinc 6 1, 3) := by decide +kernel
theorem dX4_exits_73 : decode cX4_exits 73 = .ok (.aload_n 0, 1) := by decide +kernel
theorem dX4_exits_74 : decode cX4_exits 74 = .ok (.getfield 42, 3) := by decide +kernel
theorem dX4_exits_77 : decode cX4_exits 77 = .ok (.invokevirtual 171, 3) := by decide +kernel
theorem dX4_exits_80 : decode cX4_exits 80 = .ok (.iinc 7 1, 3) := by decide +kernel
theorem dX4_exits_83 : decode cX4_exits 83 = .ok (.goto (-54), 3) := by decide +kernel
theorem dX4_exits_86 : decode cX4_exits 86 = .ok (.iload 5, 2) := by decide +kernel
theorem dX4_exits_88 : decode cX4_exits 88 = .ok (.ifCond .le 13, 3) := by decide +kernel
theorem dX4_exits_91 : decode cX4_exits 91 = .ok (.iload 6, 2) := by decide +kernel
theorem dX4_exits_93 : decode cX4_exits 93 = .ok (.i2d, 1) := by decide +kernel
theorem dX4_exits_94 : decode cX4_exits 94 = .ok (.iload 5, 2) := by decide +kernel
theorem dX4_exits_96 : decode cX4_exits 96 = .ok (.i2d, 1) := by decide +kernel
theorem dX4_exits_97 : decode cX4_exits 97 = .ok (.ddiv, 1) := by decide +kernel
theorem dX4_exits_98 : decode cX4_exits 98 = .ok (.goto 4, 3) := by decide +kernel
theorem dX4_exits_101 : decode cX4_exits 101 = .ok (.dconst 0, 1) := by decide +kernel
theorem dX4_exits_102 : decode cX4_exits 102 = .ok (.dreturn, 1) := by decide +kernel
theorem dX4_programAt_0 : decode cX4_programAt 0 = .ok (.iload_n 1, 1) := by decide +kernel
theorem dX4_programAt_1 : decode cX4_programAt 1 = .ok (.ifCond .lt 21, 3) := by decide +kernel
theorem dX4_programAt_4 : decode cX4_programAt 4 = .ok (.iload_n 1, 1) := by decide +kernel
theorem dX4_programAt_5 : decode cX4_programAt 5 = .ok (.aload_n 0, 1) := by decide +kernel
theorem dX4_programAt_6 : decode cX4_programAt 6 = .ok (.getfield 11, 3) := by decide +kernel
theorem dX4_programAt_9 : decode cX4_programAt 9 = .ok (.arraylength, 1) := by decide +kernel
theorem dX4_programAt_10 : decode cX4_programAt 10 = .ok (.if_icmp .ge 12, 3) := by decide +kernel
theorem dX4_programAt_13 : decode cX4_programAt 13 = .ok (.aload_n 0, 1) := by decide +kernel
theorem dX4_programAt_14 : decode cX4_programAt 14 = .ok (.getfield 11, 3) := by decide +kernel
theorem dX4_programAt_17 : decode cX4_programAt 17 = .ok (.iload_n 1, 1) := by decide +kernel
theorem dX4_programAt_18 : decode cX4_programAt 18 = .ok (.aaload, 1) := by decide +kernel
theorem dX4_programAt_19 : decode cX4_programAt 19 = .ok (.goto 4, 3) := by decide +kernel
theorem dX4_programAt_22 : decode cX4_programAt 22 = .ok (.aconst_null, 1) := by decide +kernel
theorem dX4_programAt_23 : decode cX4_programAt 23 = .ok (.astore_n 2, 1) := by decide +kernel
theorem dX4_programAt_24 : decode cX4_programAt 24 = .ok (.aload_n 2, 1) := by decide +kernel
theorem dX4_programAt_25 : decode cX4_programAt 25 = .ok (.ifnonnull 13, 3) := by decide +kernel
theorem dX4_programAt_28 : decode cX4_programAt 28 = .ok (.new 105, 3) := by decide +kernel
theorem dX4_programAt_31 : decode cX4_programAt 31 = .ok (.dup, 1) := by decide +kernel
theorem dX4_programAt_32 : decode cX4_programAt 32 = .ok (.ldc 193, 2) := by decide +kernel
theorem dX4_programAt_34 : decode cX4_programAt 34 = .ok (.invokespecial 109, 3) := by decide +kernel
theorem dX4_programAt_37 : decode cX4_programAt 37 = .ok (.athrow, 1) := by decide +kernel
theorem dX4_programAt_38 : decode cX4_programAt 38 = .ok (.aload_n 2, 1) := by decide +kernel
theorem dX4_programAt_39 : decode cX4_programAt 39 = .ok (.areturn, 1) := by decide +kernel
theorem dX4_refuseEleventhProgram_0 : decode cX4_refuseEleventhProgram 0 = .ok (.aload_n 0, 1) := by decide +kernel
theorem dX4_refuseEleventhProgram_1 : decode cX4_refuseEleventhProgram 1 = .ok (.getfield 15, 3) := by decide +kernel
theorem dX4_refuseEleventhProgram_4 : decode cX4_refuseEleventhProgram 4 = .ok (.bipush 10, 2) := by decide +kernel
theorem dX4_refuseEleventhProgram_6 : decode cX4_refuseEleventhProgram 6 = .ok (.if_icmp .lt 13, 3) := by decide +kernel
theorem dX4_refuseEleventhProgram_9 : decode cX4_refuseEleventhProgram 9 = .ok (.new 73, 3) := by decide +kernel
theorem dX4_refuseEleventhProgram_12 : decode cX4_refuseEleventhProgram 12 = .ok (.dup, 1) := by decide +kernel
theorem dX4_refuseEleventhProgram_13 : decode cX4_refuseEleventhProgram 13 = .ok (.ldc 195, 2) := by decide +kernel
theorem dX4_refuseEleventhProgram_15 : decode cX4_refuseEleventhProgram 15 = .ok (.invokespecial 77, 3) := by decide +kernel
theorem dX4_refuseEleventhProgram_18 : decode cX4_refuseEleventhProgram 18 = .ok (.athrow, 1) := by decide +kernel
theorem dX4_refuseEleventhProgram_19 : decode cX4_refuseEleventhProgram 19 = .ok (.return_, 1) := by decide +kernel
theorem dX4_keepProgram_0 : decode cX4_keepProgram 0 = .ok (.aload_n 0, 1) := by decide +kernel
theorem dX4_keepProgram_1 : decode cX4_keepProgram 1 = .ok (.getfield 15, 3) := by decide +kernel
theorem dX4_keepProgram_4 : decode cX4_keepProgram 4 = .ok (.istore_n 2, 1) := by decide +kernel
theorem dX4_keepProgram_5 : decode cX4_keepProgram 5 = .ok (.iload_n 2, 1) := by decide +kernel
theorem dX4_keepProgram_6 : decode cX4_keepProgram 6 = .ok (.ifCond .lt 26, 3) := by decide +kernel
theorem dX4_keepProgram_9 : decode cX4_keepProgram 9 = .ok (.iload_n 2, 1) := by decide +kernel
theorem dX4_keepProgram_10 : decode cX4_keepProgram 10 = .ok (.aload_n 0, 1) := by decide +kernel
theorem dX4_keepProgram_11 : decode cX4_keepProgram 11 = .ok (.getfield 11, 3) := by decide +kernel
theorem dX4_keepProgram_14 : decode cX4_keepProgram 14 = .ok (.arraylength, 1) := by decide +kernel
theorem dX4_keepProgram_15 : decode cX4_keepProgram 15 = .ok (.if_icmp .ge 17, 3) := by decide +kernel
theorem dX4_keepProgram_18 : decode cX4_keepProgram 18 = .ok (.aload_n 0, 1) := by decide +kernel
theorem dX4_keepProgram_19 : decode cX4_keepProgram 19 = .ok (.getfield 11, 3) := by decide +kernel
theorem dX4_keepProgram_22 : decode cX4_keepProgram 22 = .ok (.iload_n 2, 1) := by decide +kernel
theorem dX4_keepProgram_23 : decode cX4_keepProgram 23 = .ok (.aload_n 1, 1) := by decide +kernel
theorem dX4_keepProgram_24 : decode cX4_keepProgram 24 = .ok (.aastore, 1) := by decide +kernel
theorem dX4_keepProgram_25 : decode cX4_keepProgram 25 = .ok (.aload_n 0, 1) := by decide +kernel
theorem dX4_keepProgram_26 : decode cX4_keepProgram 26 = .ok (.iload_n 2, 1) := by decide +kernel
theorem dX4_keepProgram_27 : decode cX4_keepProgram 27 = .ok (.iconst 1, 1) := by decide +kernel
theorem dX4_keepProgram_28 : decode cX4_keepProgram 28 = .ok (.iadd, 1) := by decide +kernel
theorem dX4_keepProgram_29 : decode cX4_keepProgram 29 = .ok (.putfield 15, 3) := by decide +kernel
theorem dX4_keepProgram_32 : decode cX4_keepProgram 32 = .ok (.iload_n 2, 1) := by decide +kernel
theorem dX4_keepProgram_33 : decode cX4_keepProgram 33 = .ok (.ireturn, 1) := by decide +kernel
set_option maxRecDepth 20000 in
theorem ggX4_refuseOtherLoops_X1_countLoops : GoodIn wsX4_refuseOtherLoops wsX1_countLoops := goodIn_r _ [7, 8, 13, 14] (by decide +kernel) (by decide +kernel)
set_option maxRecDepth 20000 in
theorem gX4_refuseOtherLoops_X1_countLoops : GoodIn wsX4_refuseOtherLoops (wsV RX4 69 RX1 yX1_countLoops wsX1_countLoops) := goodIn_app (goodIn_of _ (by decide +kernel)) ggX4_refuseOtherLoops_X1_countLoops
set_option maxRecDepth 20000 in
theorem ggX4_refuseOtherLoops_X4_isBetween : GoodIn wsX4_refuseOtherLoops wsX4_isBetween := goodIn_r _ [12] (by decide +kernel) (by decide +kernel)
set_option maxRecDepth 20000 in
theorem gX4_refuseOtherLoops_X4_isBetween : GoodIn wsX4_refuseOtherLoops (va_wsS RX4 58 yX4_isBetween wsX4_isBetween) := goodIn_app (goodIn_of _ (by decide +kernel)) ggX4_refuseOtherLoops_X4_isBetween
theorem dX4_refuseOtherLoops_0 : decode cX4_refuseOtherLoops 0 = .ok (.iload_n 1, 1) := by decide +kernel
theorem dX4_refuseOtherLoops_1 : decode cX4_refuseOtherLoops 1 = .ok (.iconst 0, 1) := by decide +kernel
theorem dX4_refuseOtherLoops_2 : decode cX4_refuseOtherLoops 2 = .ok (.aload_n 0, 1) := by decide +kernel
theorem dX4_refuseOtherLoops_3 : decode cX4_refuseOtherLoops 3 = .ok (.invokevirtual 69, 3) := by decide +kernel
theorem dX4_refuseOtherLoops_6 : decode cX4_refuseOtherLoops 6 = .ok (.iconst 1, 1) := by decide +kernel
theorem dX4_refuseOtherLoops_7 : decode cX4_refuseOtherLoops 7 = .ok (.isub, 1) := by decide +kernel
theorem dX4_refuseOtherLoops_8 : decode cX4_refuseOtherLoops 8 = .ok (.invokestatic 58, 3) := by decide +kernel
theorem dX4_refuseOtherLoops_11 : decode cX4_refuseOtherLoops 11 = .ok (.ifCond .ne 13, 3) := by decide +kernel
theorem dX4_refuseOtherLoops_14 : decode cX4_refuseOtherLoops 14 = .ok (.new 105, 3) := by decide +kernel
theorem dX4_refuseOtherLoops_17 : decode cX4_refuseOtherLoops 17 = .ok (.dup, 1) := by decide +kernel
theorem dX4_refuseOtherLoops_18 : decode cX4_refuseOtherLoops 18 = .ok (.ldc 197, 2) := by decide +kernel
theorem dX4_refuseOtherLoops_20 : decode cX4_refuseOtherLoops 20 = .ok (.invokespecial 109, 3) := by decide +kernel
theorem dX4_refuseOtherLoops_23 : decode cX4_refuseOtherLoops 23 = .ok (.athrow, 1) := by decide +kernel
theorem dX4_refuseOtherLoops_24 : decode cX4_refuseOtherLoops 24 = .ok (.return_, 1) := by decide +kernel
set_option maxRecDepth 20000 in
theorem ggX4_refuseOtherChanges_X4_isBetween : GoodIn wsX4_refuseOtherChanges wsX4_isBetween := goodIn_r _ [8] (by decide +kernel) (by decide +kernel)
set_option maxRecDepth 20000 in
theorem gX4_refuseOtherChanges_X4_isBetween : GoodIn wsX4_refuseOtherChanges (va_wsS RX4 58 yX4_isBetween wsX4_isBetween) := goodIn_app (goodIn_of _ (by decide +kernel)) ggX4_refuseOtherChanges_X4_isBetween
set_option maxRecDepth 20000 in
theorem ggX4_refuseOtherChanges_X4_lastLoopFor : GoodIn wsX4_refuseOtherChanges wsX4_lastLoopFor := goodIn_r _ [11, 12, 13, 14, 15, 16, 17, 34, 35] (by decide +kernel) (by decide +kernel)
set_option maxRecDepth 20000 in
theorem gX4_refuseOtherChanges_X4_lastLoopFor : GoodIn wsX4_refuseOtherChanges (va_wsS RX4 201 yX4_lastLoopFor wsX4_lastLoopFor) := goodIn_app (goodIn_of _ (by decide +kernel)) ggX4_refuseOtherChanges_X4_lastLoopFor
set_option maxRecDepth 20000 in
theorem ggX4_refuseOtherChanges_X4_isWith : GoodIn wsX4_refuseOtherChanges wsX4_isWith := goodIn_r _ [20, 21, 22, 23, 15, 24, 25, 26, 27, 28, 29, 30, 31, 32, 33, 5, 6, 7, 8, 34, 35] (by decide +kernel) (by decide +kernel)
set_option maxRecDepth 20000 in
theorem gX4_refuseOtherChanges_X4_isWith : GoodIn wsX4_refuseOtherChanges (va_wsS RX4 207 yX4_isWith wsX4_isWith) := goodIn_app (goodIn_of _ (by decide +kernel)) ggX4_refuseOtherChanges_X4_isWith
theorem dX4_refuseOtherChanges_0 : decode cX4_refuseOtherChanges 0 = .ok (.iload_n 1, 1) := by decide +kernel
theorem dX4_refuseOtherChanges_1 : decode cX4_refuseOtherChanges 1 = .ok (.iconst 0, 1) := by decide +kernel
theorem dX4_refuseOtherChanges_2 : decode cX4_refuseOtherChanges 2 = .ok (.iconst 5, 1) := by decide +kernel
theorem dX4_refuseOtherChanges_3 : decode cX4_refuseOtherChanges 3 = .ok (.invokestatic 58, 3) := by decide +kernel
theorem dX4_refuseOtherChanges_6 : decode cX4_refuseOtherChanges 6 = .ok (.ifCond .ne 13, 3) := by decide +kernel
theorem dX4_refuseOtherChanges_9 : decode cX4_refuseOtherChanges 9 = .ok (.new 105, 3) := by decide +kernel
theorem dX4_refuseOtherChanges_12 : decode cX4_refuseOtherChanges 12 = .ok (.dup, 1) := by decide +kernel
theorem dX4_refuseOtherChanges_13 : decode cX4_refuseOtherChanges 13 = .ok (.ldc 199, 2) := by decide +kernel
theorem dX4_refuseOtherChanges_15 : decode cX4_refuseOtherChanges 15 = .ok (.invokespecial 109, 3) := by decide +kernel
theorem dX4_refuseOtherChanges_18 : decode cX4_refuseOtherChanges 18 = .ok (.athrow, 1) := by decide +kernel
theorem dX4_refuseOtherChanges_19 : decode cX4_refuseOtherChanges 19 = .ok (.iload_n 2, 1) := by decide +kernel
theorem dX4_refuseOtherChanges_20 : decode cX4_refuseOtherChanges 20 = .ok (.iconst 0, 1) := by decide +kernel
theorem dX4_refuseOtherChanges_21 : decode cX4_refuseOtherChanges 21 = .ok (.aload_n 0, 1) := by decide +kernel
theorem dX4_refuseOtherChanges_22 : decode cX4_refuseOtherChanges 22 = .ok (.iload_n 1, 1) := by decide +kernel
theorem dX4_refuseOtherChanges_23 : decode cX4_refuseOtherChanges 23 = .ok (.invokestatic 201, 3) := by decide +kernel
theorem dX4_refuseOtherChanges_26 : decode cX4_refuseOtherChanges 26 = .ok (.invokestatic 58, 3) := by decide +kernel
theorem dX4_refuseOtherChanges_29 : decode cX4_refuseOtherChanges 29 = .ok (.ifCond .ne 13, 3) := by decide +kernel
theorem dX4_refuseOtherChanges_32 : decode cX4_refuseOtherChanges 32 = .ok (.new 105, 3) := by decide +kernel
theorem dX4_refuseOtherChanges_35 : decode cX4_refuseOtherChanges 35 = .ok (.dup, 1) := by decide +kernel
theorem dX4_refuseOtherChanges_36 : decode cX4_refuseOtherChanges 36 = .ok (.ldc 205, 2) := by decide +kernel
theorem dX4_refuseOtherChanges_38 : decode cX4_refuseOtherChanges 38 = .ok (.invokespecial 109, 3) := by decide +kernel
theorem dX4_refuseOtherChanges_41 : decode cX4_refuseOtherChanges 41 = .ok (.athrow, 1) := by decide +kernel
theorem dX4_refuseOtherChanges_42 : decode cX4_refuseOtherChanges 42 = .ok (.aload_n 0, 1) := by decide +kernel
theorem dX4_refuseOtherChanges_43 : decode cX4_refuseOtherChanges 43 = .ok (.iload_n 1, 1) := by decide +kernel
theorem dX4_refuseOtherChanges_44 : decode cX4_refuseOtherChanges 44 = .ok (.iload_n 2, 1) := by decide +kernel
theorem dX4_refuseOtherChanges_45 : decode cX4_refuseOtherChanges 45 = .ok (.iload_n 3, 1) := by decide +kernel
theorem dX4_refuseOtherChanges_46 : decode cX4_refuseOtherChanges 46 = .ok (.invokestatic 207, 3) := by decide +kernel
theorem dX4_refuseOtherChanges_49 : decode cX4_refuseOtherChanges 49 = .ok (.ifCond .ne 13, 3) := by decide +kernel
theorem dX4_refuseOtherChanges_52 : decode cX4_refuseOtherChanges 52 = .ok (.new 62, 3) := by decide +kernel
theorem dX4_refuseOtherChanges_55 : decode cX4_refuseOtherChanges 55 = .ok (.dup, 1) := by decide +kernel
theorem dX4_refuseOtherChanges_56 : decode cX4_refuseOtherChanges 56 = .ok (.ldc 211, 2) := by decide +kernel
theorem dX4_refuseOtherChanges_58 : decode cX4_refuseOtherChanges 58 = .ok (.invokespecial 66, 3) := by decide +kernel
theorem dX4_refuseOtherChanges_61 : decode cX4_refuseOtherChanges 61 = .ok (.athrow, 1) := by decide +kernel
theorem dX4_refuseOtherChanges_62 : decode cX4_refuseOtherChanges 62 = .ok (.return_, 1) := by decide +kernel
set_option maxRecDepth 20000 in
theorem ggX4_lastLoopFor_X1_countLoops : GoodIn wsX4_lastLoopFor wsX1_countLoops := goodIn_r _ [5, 6, 7, 8] (by decide +kernel) (by decide +kernel)
set_option maxRecDepth 20000 in
theorem gX4_lastLoopFor_X1_countLoops : GoodIn wsX4_lastLoopFor (wsV RX4 69 RX1 yX1_countLoops wsX1_countLoops) := goodIn_app (goodIn_of _ (by decide +kernel)) ggX4_lastLoopFor_X1_countLoops
theorem dX4_lastLoopFor_0 : decode cX4_lastLoopFor 0 = .ok (.iload_n 1, 1) := by decide +kernel
theorem dX4_lastLoopFor_1 : decode cX4_lastLoopFor 1 = .ok (.iconst 5, 1) := by decide +kernel
theorem dX4_lastLoopFor_2 : decode cX4_lastLoopFor 2 = .ok (.if_icmp .ne 5, 3) := by decide +kernel
theorem dX4_lastLoopFor_5 : decode cX4_lastLoopFor 5 = .ok (.iconst 0, 1) := by decide +kernel
theorem dX4_lastLoopFor_6 : decode cX4_lastLoopFor 6 = .ok (.ireturn, 1) := by decide +kernel
theorem dX4_lastLoopFor_7 : decode cX4_lastLoopFor 7 = .ok (.aload_n 0, 1) := by decide +kernel
theorem dX4_lastLoopFor_8 : decode cX4_lastLoopFor 8 = .ok (.invokevirtual 69, 3) := by decide +kernel
theorem dX4_lastLoopFor_11 : decode cX4_lastLoopFor 11 = .ok (.iconst 1, 1) := by decide +kernel
theorem dX4_lastLoopFor_12 : decode cX4_lastLoopFor 12 = .ok (.isub, 1) := by decide +kernel
theorem dX4_lastLoopFor_13 : decode cX4_lastLoopFor 13 = .ok (.istore_n 2, 1) := by decide +kernel
theorem dX4_lastLoopFor_14 : decode cX4_lastLoopFor 14 = .ok (.iload_n 1, 1) := by decide +kernel
theorem dX4_lastLoopFor_15 : decode cX4_lastLoopFor 15 = .ok (.ifCond .eq 8, 3) := by decide +kernel
theorem dX4_lastLoopFor_18 : decode cX4_lastLoopFor 18 = .ok (.iload_n 1, 1) := by decide +kernel
theorem dX4_lastLoopFor_19 : decode cX4_lastLoopFor 19 = .ok (.iconst 4, 1) := by decide +kernel
theorem dX4_lastLoopFor_20 : decode cX4_lastLoopFor 20 = .ok (.if_icmp .ne 9, 3) := by decide +kernel
theorem dX4_lastLoopFor_23 : decode cX4_lastLoopFor 23 = .ok (.iload_n 2, 1) := by decide +kernel
theorem dX4_lastLoopFor_24 : decode cX4_lastLoopFor 24 = .ok (.iconst 1, 1) := by decide +kernel
theorem dX4_lastLoopFor_25 : decode cX4_lastLoopFor 25 = .ok (.isub, 1) := by decide +kernel
theorem dX4_lastLoopFor_26 : decode cX4_lastLoopFor 26 = .ok (.goto 4, 3) := by decide +kernel
theorem dX4_lastLoopFor_29 : decode cX4_lastLoopFor 29 = .ok (.iload_n 2, 1) := by decide +kernel
theorem dX4_lastLoopFor_30 : decode cX4_lastLoopFor 30 = .ok (.ireturn, 1) := by decide +kernel
set_option maxRecDepth 20000 in
theorem ggX4_isWith_X1_countSteps : GoodIn wsX4_isWith wsX1_countSteps := goodIn_r _ [5, 6, 7, 8, 4, 9, 10, 11, 12, 13, 14, 19, 20] (by decide +kernel) (by decide +kernel)
set_option maxRecDepth 20000 in
theorem gX4_isWith_X1_countSteps : GoodIn wsX4_isWith (wsV RX4 95 RX1 yX1_countSteps wsX1_countSteps) := goodIn_app (goodIn_of _ (by decide +kernel)) ggX4_isWith_X1_countSteps
set_option maxRecDepth 20000 in
theorem ggX4_isWith_X4_isBetween : GoodIn wsX4_isWith wsX4_isBetween := goodIn_r _ [18] (by decide +kernel) (by decide +kernel)
set_option maxRecDepth 20000 in
theorem gX4_isWith_X4_isBetween : GoodIn wsX4_isWith (va_wsS RX4 58 yX4_isBetween wsX4_isBetween) := goodIn_app (goodIn_of _ (by decide +kernel)) ggX4_isWith_X4_isBetween
theorem dX4_isWith_0 : decode cX4_isWith 0 = .ok (.iload_n 1, 1) := by decide +kernel
theorem dX4_isWith_1 : decode cX4_isWith 1 = .ok (.iconst 1, 1) := by decide +kernel
theorem dX4_isWith_2 : decode cX4_isWith 2 = .ok (.if_icmp .ne 16, 3) := by decide +kernel
theorem dX4_isWith_5 : decode cX4_isWith 5 = .ok (.iload_n 3, 1) := by decide +kernel
theorem dX4_isWith_6 : decode cX4_isWith 6 = .ok (.iconst 1, 1) := by decide +kernel
theorem dX4_isWith_7 : decode cX4_isWith 7 = .ok (.aload_n 0, 1) := by decide +kernel
theorem dX4_isWith_8 : decode cX4_isWith 8 = .ok (.iload_n 2, 1) := by decide +kernel
theorem dX4_isWith_9 : decode cX4_isWith 9 = .ok (.invokevirtual 95, 3) := by decide +kernel
theorem dX4_isWith_12 : decode cX4_isWith 12 = .ok (.iconst 1, 1) := by decide +kernel
theorem dX4_isWith_13 : decode cX4_isWith 13 = .ok (.isub, 1) := by decide +kernel
theorem dX4_isWith_14 : decode cX4_isWith 14 = .ok (.invokestatic 58, 3) := by decide +kernel
theorem dX4_isWith_17 : decode cX4_isWith 17 = .ok (.ireturn, 1) := by decide +kernel
theorem dX4_isWith_18 : decode cX4_isWith 18 = .ok (.iload_n 1, 1) := by decide +kernel
theorem dX4_isWith_19 : decode cX4_isWith 19 = .ok (.iconst 2, 1) := by decide +kernel
theorem dX4_isWith_20 : decode cX4_isWith 20 = .ok (.if_icmp .ne 11, 3) := by decide +kernel
theorem dX4_isWith_23 : decode cX4_isWith 23 = .ok (.iload_n 3, 1) := by decide +kernel
theorem dX4_isWith_24 : decode cX4_isWith 24 = .ok (.iconst 1, 1) := by decide +kernel
theorem dX4_isWith_25 : decode cX4_isWith 25 = .ok (.bipush 10, 2) := by decide +kernel
theorem dX4_isWith_27 : decode cX4_isWith 27 = .ok (.invokestatic 58, 3) := by decide +kernel
theorem dX4_isWith_30 : decode cX4_isWith 30 = .ok (.ireturn, 1) := by decide +kernel
theorem dX4_isWith_31 : decode cX4_isWith 31 = .ok (.iload_n 3, 1) := by decide +kernel
theorem dX4_isWith_32 : decode cX4_isWith 32 = .ok (.ifCond .ne 7, 3) := by decide +kernel
theorem dX4_isWith_35 : decode cX4_isWith 35 = .ok (.iconst 1, 1) := by decide +kernel
theorem dX4_isWith_36 : decode cX4_isWith 36 = .ok (.goto 4, 3) := by decide +kernel
theorem dX4_isWith_39 : decode cX4_isWith 39 = .ok (.iconst 0, 1) := by decide +kernel
theorem dX4_isWith_40 : decode cX4_isWith 40 = .ok (.ireturn, 1) := by decide +kernel
set_option maxRecDepth 20000 in
theorem ggX4_isLook_X4_isBetween : GoodIn wsX4_isLook wsX4_isBetween := goodIn_r _ [4] (by decide +kernel) (by decide +kernel)
set_option maxRecDepth 20000 in
theorem gX4_isLook_X4_isBetween : GoodIn wsX4_isLook (va_wsS RX4 58 yX4_isBetween wsX4_isBetween) := goodIn_app (goodIn_of _ (by decide +kernel)) ggX4_isLook_X4_isBetween
set_option maxRecDepth 20000 in
theorem ggX4_isLook_X4_isVariable : GoodIn wsX4_isLook wsX4_isVariable := goodIn_r _ [7] (by decide +kernel) (by decide +kernel)
set_option maxRecDepth 20000 in
theorem gX4_isLook_X4_isVariable : GoodIn wsX4_isLook (va_wsS RX4 216 yX4_isVariable wsX4_isVariable) := goodIn_app (goodIn_of _ (by decide +kernel)) ggX4_isLook_X4_isVariable
theorem dX4_isLook_0 : decode cX4_isLook 0 = .ok (.iload_n 0, 1) := by decide +kernel
theorem dX4_isLook_1 : decode cX4_isLook 1 = .ok (.iconst 0, 1) := by decide +kernel
theorem dX4_isLook_2 : decode cX4_isLook 2 = .ok (.iconst 4, 1) := by decide +kernel
theorem dX4_isLook_3 : decode cX4_isLook 3 = .ok (.invokestatic 58, 3) := by decide +kernel
theorem dX4_isLook_6 : decode cX4_isLook 6 = .ok (.ifCond .eq 25, 3) := by decide +kernel
theorem dX4_isLook_9 : decode cX4_isLook 9 = .ok (.iload_n 1, 1) := by decide +kernel
theorem dX4_isLook_10 : decode cX4_isLook 10 = .ok (.bipush (-100), 2) := by decide +kernel
theorem dX4_isLook_12 : decode cX4_isLook 12 = .ok (.bipush 100, 2) := by decide +kernel
theorem dX4_isLook_14 : decode cX4_isLook 14 = .ok (.invokestatic 58, 3) := by decide +kernel
theorem dX4_isLook_17 : decode cX4_isLook 17 = .ok (.ifCond .ne 10, 3) := by decide +kernel
theorem dX4_isLook_20 : decode cX4_isLook 20 = .ok (.iload_n 1, 1) := by decide +kernel
theorem dX4_isLook_21 : decode cX4_isLook 21 = .ok (.invokestatic 216, 3) := by decide +kernel
theorem dX4_isLook_24 : decode cX4_isLook 24 = .ok (.ifCond .eq 7, 3) := by decide +kernel
theorem dX4_isLook_27 : decode cX4_isLook 27 = .ok (.iconst 1, 1) := by decide +kernel
theorem dX4_isLook_28 : decode cX4_isLook 28 = .ok (.goto 4, 3) := by decide +kernel
theorem dX4_isLook_31 : decode cX4_isLook 31 = .ok (.iconst 0, 1) := by decide +kernel
theorem dX4_isLook_32 : decode cX4_isLook 32 = .ok (.ireturn, 1) := by decide +kernel
theorem dX4_isVariable_0 : decode cX4_isVariable 0 = .ok (.iload_n 0, 1) := by decide +kernel
theorem dX4_isVariable_1 : decode cX4_isVariable 1 = .ok (.sipush 1000, 3) := by decide +kernel
theorem dX4_isVariable_4 : decode cX4_isVariable 4 = .ok (.if_icmp .lt 14, 3) := by decide +kernel
theorem dX4_isVariable_7 : decode cX4_isVariable 7 = .ok (.iload_n 0, 1) := by decide +kernel
theorem dX4_isVariable_8 : decode cX4_isVariable 8 = .ok (.sipush 1004, 3) := by decide +kernel
theorem dX4_isVariable_11 : decode cX4_isVariable 11 = .ok (.if_icmp .ge 7, 3) := by decide +kernel
theorem dX4_isVariable_14 : decode cX4_isVariable 14 = .ok (.iconst 1, 1) := by decide +kernel
theorem dX4_isVariable_15 : decode cX4_isVariable 15 = .ok (.goto 4, 3) := by decide +kernel
theorem dX4_isVariable_18 : decode cX4_isVariable 18 = .ok (.iconst 0, 1) := by decide +kernel
theorem dX4_isVariable_19 : decode cX4_isVariable 19 = .ok (.ireturn, 1) := by decide +kernel
set_option maxRecDepth 20000 in
theorem ggX4_isDeed_X4_isBetween : GoodIn wsX4_isDeed wsX4_isBetween := goodIn_r _ [4] (by decide +kernel) (by decide +kernel)
set_option maxRecDepth 20000 in
theorem gX4_isDeed_X4_isBetween : GoodIn wsX4_isDeed (va_wsS RX4 58 yX4_isBetween wsX4_isBetween) := goodIn_app (goodIn_of _ (by decide +kernel)) ggX4_isDeed_X4_isBetween
theorem dX4_isDeed_0 : decode cX4_isDeed 0 = .ok (.iload_n 0, 1) := by decide +kernel
theorem dX4_isDeed_1 : decode cX4_isDeed 1 = .ok (.iconst 4, 1) := by decide +kernel
theorem dX4_isDeed_2 : decode cX4_isDeed 2 = .ok (.if_icmp .ne 13, 3) := by decide +kernel
theorem dX4_isDeed_5 : decode cX4_isDeed 5 = .ok (.iload_n 1, 1) := by decide +kernel
theorem dX4_isDeed_6 : decode cX4_isDeed 6 = .ok (.ifCond .ne 7, 3) := by decide +kernel
theorem dX4_isDeed_9 : decode cX4_isDeed 9 = .ok (.iconst 1, 1) := by decide +kernel
theorem dX4_isDeed_10 : decode cX4_isDeed 10 = .ok (.goto 4, 3) := by decide +kernel
theorem dX4_isDeed_13 : decode cX4_isDeed 13 = .ok (.iconst 0, 1) := by decide +kernel
theorem dX4_isDeed_14 : decode cX4_isDeed 14 = .ok (.ireturn, 1) := by decide +kernel
theorem dX4_isDeed_15 : decode cX4_isDeed 15 = .ok (.iload_n 0, 1) := by decide +kernel
theorem dX4_isDeed_16 : decode cX4_isDeed 16 = .ok (.iconst 5, 1) := by decide +kernel
theorem dX4_isDeed_17 : decode cX4_isDeed 17 = .ok (.if_icmp .ne 11, 3) := by decide +kernel
theorem dX4_isDeed_20 : decode cX4_isDeed 20 = .ok (.iload_n 1, 1) := by decide +kernel
theorem dX4_isDeed_21 : decode cX4_isDeed 21 = .ok (.iconst 0, 1) := by decide +kernel
theorem dX4_isDeed_22 : decode cX4_isDeed 22 = .ok (.bipush 100, 2) := by decide +kernel
theorem dX4_isDeed_24 : decode cX4_isDeed 24 = .ok (.invokestatic 58, 3) := by decide +kernel
theorem dX4_isDeed_27 : decode cX4_isDeed 27 = .ok (.ireturn, 1) := by decide +kernel
theorem dX4_isDeed_28 : decode cX4_isDeed 28 = .ok (.iload_n 0, 1) := by decide +kernel
theorem dX4_isDeed_29 : decode cX4_isDeed 29 = .ok (.iconst 0, 1) := by decide +kernel
theorem dX4_isDeed_30 : decode cX4_isDeed 30 = .ok (.iconst 3, 1) := by decide +kernel
theorem dX4_isDeed_31 : decode cX4_isDeed 31 = .ok (.invokestatic 58, 3) := by decide +kernel
theorem dX4_isDeed_34 : decode cX4_isDeed 34 = .ok (.ifCond .eq 16, 3) := by decide +kernel
theorem dX4_isDeed_37 : decode cX4_isDeed 37 = .ok (.iload_n 1, 1) := by decide +kernel
theorem dX4_isDeed_38 : decode cX4_isDeed 38 = .ok (.iconst 0, 1) := by decide +kernel
theorem dX4_isDeed_39 : decode cX4_isDeed 39 = .ok (.iconst 3, 1) := by decide +kernel
theorem dX4_isDeed_40 : decode cX4_isDeed 40 = .ok (.invokestatic 58, 3) := by decide +kernel
theorem dX4_isDeed_43 : decode cX4_isDeed 43 = .ok (.ifCond .eq 7, 3) := by decide +kernel
theorem dX4_isDeed_46 : decode cX4_isDeed 46 = .ok (.iconst 1, 1) := by decide +kernel
theorem dX4_isDeed_47 : decode cX4_isDeed 47 = .ok (.goto 4, 3) := by decide +kernel
theorem dX4_isDeed_50 : decode cX4_isDeed 50 = .ok (.iconst 0, 1) := by decide +kernel
theorem dX4_isDeed_51 : decode cX4_isDeed 51 = .ok (.ireturn, 1) := by decide +kernel
