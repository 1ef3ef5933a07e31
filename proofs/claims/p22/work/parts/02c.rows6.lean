set_option maxRecDepth 20000 in
theorem ggX4_checkedRows_X4_isBetween : GoodIn wsX4_checkedRows wsX4_isBetween := goodIn_r _ [6] (by decide +kernel) (by decide +kernel)
set_option maxRecDepth 20000 in
theorem gX4_checkedRows_X4_isBetween : GoodIn wsX4_checkedRows (va_wsS RX4 58 yX4_isBetween wsX4_isBetween) := goodIn_app (goodIn_of _ (by decide +kernel)) ggX4_checkedRows_X4_isBetween
theorem dX4_checkedRows_0 : decode cX4_checkedRows 0 = .ok (.iload_n 0, 1) := by decide +kernel
theorem dX4_checkedRows_1 : decode cX4_checkedRows 1 = .ok (.iconst 0, 1) := by decide +kernel
theorem dX4_checkedRows_2 : decode cX4_checkedRows 2 = .ok (.bipush 6, 2) := by decide +kernel
theorem dX4_checkedRows_4 : decode cX4_checkedRows 4 = .ok (.invokestatic 58, 3) := by decide +kernel
theorem dX4_checkedRows_7 : decode cX4_checkedRows 7 = .ok (.ifCond .eq 12, 3) := by decide +kernel
theorem dX4_checkedRows_10 : decode cX4_checkedRows 10 = .ok (.iload_n 1, 1) := by decide +kernel
theorem dX4_checkedRows_11 : decode cX4_checkedRows 11 = .ok (.iconst 1, 1) := by decide +kernel
theorem dX4_checkedRows_12 : decode cX4_checkedRows 12 = .ok (.iconst 4, 1) := by decide +kernel
theorem dX4_checkedRows_13 : decode cX4_checkedRows 13 = .ok (.invokestatic 58, 3) := by decide +kernel
theorem dX4_checkedRows_16 : decode cX4_checkedRows 16 = .ok (.ifCond .ne 13, 3) := by decide +kernel
theorem dX4_checkedRows_19 : decode cX4_checkedRows 19 = .ok (.new 62, 3) := by decide +kernel
theorem dX4_checkedRows_22 : decode cX4_checkedRows 22 = .ok (.dup, 1) := by decide +kernel
theorem dX4_checkedRows_23 : decode cX4_checkedRows 23 = .ok (.ldc 220, 2) := by decide +kernel
theorem dX4_checkedRows_25 : decode cX4_checkedRows 25 = .ok (.invokespecial 66, 3) := by decide +kernel
theorem dX4_checkedRows_28 : decode cX4_checkedRows 28 = .ok (.athrow, 1) := by decide +kernel
theorem dX4_checkedRows_29 : decode cX4_checkedRows 29 = .ok (.iconst 1, 1) := by decide +kernel
theorem dX4_checkedRows_30 : decode cX4_checkedRows 30 = .ok (.istore_n 2, 1) := by decide +kernel
theorem dX4_checkedRows_31 : decode cX4_checkedRows 31 = .ok (.iconst 0, 1) := by decide +kernel
theorem dX4_checkedRows_32 : decode cX4_checkedRows 32 = .ok (.istore_n 3, 1) := by decide +kernel
theorem dX4_checkedRows_33 : decode cX4_checkedRows 33 = .ok (.iload_n 3, 1) := by decide +kernel
theorem dX4_checkedRows_34 : decode cX4_checkedRows 34 = .ok (.iload_n 0, 1) := by decide +kernel
theorem dX4_checkedRows_35 : decode cX4_checkedRows 35 = .ok (.if_icmp .ge 13, 3) := by decide +kernel
theorem dX4_checkedRows_38 : decode cX4_checkedRows 38 = .ok (.iload_n 2, 1) := by decide +kernel
theorem dX4_checkedRows_39 : decode cX4_checkedRows 39 = .ok (.iload_n 1, 1) := by decide +kernel
theorem dX4_checkedRows_40 : decode cX4_checkedRows 40 = .ok (.imul, 1) := by decide +kernel
theorem dX4_checkedRows_41 : decode cX4_checkedRows 41 = .ok (.istore_n 2, 1) := by decide +kernel
theorem dX4_checkedRows_42 : decode cX4_checkedRows 42 = .ok (.iinc 3 1, 3) := by decide +kernel
theorem dX4_checkedRows_45 : decode cX4_checkedRows 45 = .ok (.goto (-12), 3) := by decide +kernel
theorem dX4_checkedRows_48 : decode cX4_checkedRows 48 = .ok (.iload_n 2, 1) := by decide +kernel
theorem dX4_checkedRows_49 : decode cX4_checkedRows 49 = .ok (.sipush 1024, 3) := by decide +kernel
theorem dX4_checkedRows_52 : decode cX4_checkedRows 52 = .ok (.if_icmp .le 13, 3) := by decide +kernel
theorem dX4_checkedRows_55 : decode cX4_checkedRows 55 = .ok (.new 62, 3) := by decide +kernel
theorem dX4_checkedRows_58 : decode cX4_checkedRows 58 = .ok (.dup, 1) := by decide +kernel
theorem dX4_checkedRows_59 : decode cX4_checkedRows 59 = .ok (.ldc 222, 2) := by decide +kernel
theorem dX4_checkedRows_61 : decode cX4_checkedRows 61 = .ok (.invokespecial 66, 3) := by decide +kernel
theorem dX4_checkedRows_64 : decode cX4_checkedRows 64 = .ok (.athrow, 1) := by decide +kernel
theorem dX4_checkedRows_65 : decode cX4_checkedRows 65 = .ok (.iload_n 2, 1) := by decide +kernel
theorem dX4_checkedRows_66 : decode cX4_checkedRows 66 = .ok (.ireturn, 1) := by decide +kernel
set_option maxRecDepth 20000 in
theorem ggX4_answerTheSame_X3_goThrough : GoodIn wsX4_answerTheSame wsX3_goThrough := goodIn_r _ [8, 9, 10, 11, 12, 13, 14, 15, 16, 17, 18, 19, 20, 7, 21, 22, 23, 24, 25, 26, 27, 28, 29, 30, 31, 32, 33, 34, 35, 36, 37, 38, 39, 40, 41, 42, 43, 44, 45, 46, 47, 48, 49, 50, 51, 52, 53, 54, 55, 56, 57, 58, 59, 60, 61, 62, 78, 79, 80, 81, 82] (by decide +kernel) (by decide +kernel)
set_option maxRecDepth 20000 in
theorem gX4_answerTheSame_X3_goThrough : GoodIn wsX4_answerTheSame (wsV RX4 120 RX3 yX3_goThrough wsX3_goThrough) := goodIn_app (goodIn_of _ (by decide +kernel)) ggX4_answerTheSame_X3_goThrough
set_option maxRecDepth 20000 in
theorem ggX4_answerTheSame_X3_answersLike : GoodIn wsX4_answerTheSame wsX3_answersLike := goodIn_r _ [66, 11, 51, 52, 53, 7, 54, 9, 78, 79, 80] (by decide +kernel) (by decide +kernel)
set_option maxRecDepth 20000 in
theorem gX4_answerTheSame_X3_answersLike : GoodIn wsX4_answerTheSame (wsV RX4 224 RX3 yX3_answersLike wsX3_answersLike) := goodIn_app (goodIn_of _ (by decide +kernel)) ggX4_answerTheSame_X3_answersLike
theorem dX4_answerTheSame_0 : decode cX4_answerTheSame 0 = .ok (.aload_n 0, 1) := by decide +kernel
theorem dX4_answerTheSame_1 : decode cX4_answerTheSame 1 = .ok (.getfield 33, 3) := by decide +kernel
theorem dX4_answerTheSame_4 : decode cX4_answerTheSame 4 = .ok (.aload_n 1, 1) := by decide +kernel
theorem dX4_answerTheSame_5 : decode cX4_answerTheSame 5 = .ok (.aload_n 0, 1) := by decide +kernel
theorem dX4_answerTheSame_6 : decode cX4_answerTheSame 6 = .ok (.getfield 42, 3) := by decide +kernel
theorem dX4_answerTheSame_9 : decode cX4_answerTheSame 9 = .ok (.getfield 174, 3) := by decide +kernel
theorem dX4_answerTheSame_12 : decode cX4_answerTheSame 12 = .ok (.aload_n 0, 1) := by decide +kernel
theorem dX4_answerTheSame_13 : decode cX4_answerTheSame 13 = .ok (.getfield 42, 3) := by decide +kernel
theorem dX4_answerTheSame_16 : decode cX4_answerTheSame 16 = .ok (.getfield 177, 3) := by decide +kernel
theorem dX4_answerTheSame_19 : decode cX4_answerTheSame 19 = .ok (.invokevirtual 120, 3) := by decide +kernel
theorem dX4_answerTheSame_22 : decode cX4_answerTheSame 22 = .ok (.aload_n 0, 1) := by decide +kernel
theorem dX4_answerTheSame_23 : decode cX4_answerTheSame 23 = .ok (.getfield 36, 3) := by decide +kernel
theorem dX4_answerTheSame_26 : decode cX4_answerTheSame 26 = .ok (.aload_n 2, 1) := by decide +kernel
theorem dX4_answerTheSame_27 : decode cX4_answerTheSame 27 = .ok (.aload_n 0, 1) := by decide +kernel
theorem dX4_answerTheSame_28 : decode cX4_answerTheSame 28 = .ok (.getfield 42, 3) := by decide +kernel
theorem dX4_answerTheSame_31 : decode cX4_answerTheSame 31 = .ok (.getfield 174, 3) := by decide +kernel
theorem dX4_answerTheSame_34 : decode cX4_answerTheSame 34 = .ok (.aload_n 0, 1) := by decide +kernel
theorem dX4_answerTheSame_35 : decode cX4_answerTheSame 35 = .ok (.getfield 42, 3) := by decide +kernel
theorem dX4_answerTheSame_38 : decode cX4_answerTheSame 38 = .ok (.getfield 177, 3) := by decide +kernel
theorem dX4_answerTheSame_41 : decode cX4_answerTheSame 41 = .ok (.invokevirtual 120, 3) := by decide +kernel
theorem dX4_answerTheSame_44 : decode cX4_answerTheSame 44 = .ok (.aload_n 0, 1) := by decide +kernel
theorem dX4_answerTheSame_45 : decode cX4_answerTheSame 45 = .ok (.getfield 33, 3) := by decide +kernel
theorem dX4_answerTheSame_48 : decode cX4_answerTheSame 48 = .ok (.aload_n 0, 1) := by decide +kernel
theorem dX4_answerTheSame_49 : decode cX4_answerTheSame 49 = .ok (.getfield 36, 3) := by decide +kernel
theorem dX4_answerTheSame_52 : decode cX4_answerTheSame 52 = .ok (.invokevirtual 224, 3) := by decide +kernel
theorem dX4_answerTheSame_55 : decode cX4_answerTheSame 55 = .ok (.ireturn, 1) := by decide +kernel
theorem dX4_isBetween_0 : decode cX4_isBetween 0 = .ok (.iload_n 0, 1) := by decide +kernel
theorem dX4_isBetween_1 : decode cX4_isBetween 1 = .ok (.iload_n 1, 1) := by decide +kernel
theorem dX4_isBetween_2 : decode cX4_isBetween 2 = .ok (.if_icmp .lt 12, 3) := by decide +kernel
theorem dX4_isBetween_5 : decode cX4_isBetween 5 = .ok (.iload_n 0, 1) := by decide +kernel
theorem dX4_isBetween_6 : decode cX4_isBetween 6 = .ok (.iload_n 2, 1) := by decide +kernel
theorem dX4_isBetween_7 : decode cX4_isBetween 7 = .ok (.if_icmp .gt 7, 3) := by decide +kernel
theorem dX4_isBetween_10 : decode cX4_isBetween 10 = .ok (.iconst 1, 1) := by decide +kernel
theorem dX4_isBetween_11 : decode cX4_isBetween 11 = .ok (.goto 4, 3) := by decide +kernel
theorem dX4_isBetween_14 : decode cX4_isBetween 14 = .ok (.iconst 0, 1) := by decide +kernel
theorem dX4_isBetween_15 : decode cX4_isBetween 15 = .ok (.ireturn, 1) := by decide +kernel
theorem dL_below_0 : decode cL_below 0 = .ok (.iload_n 0, 1) := by decide +kernel
theorem dL_below_1 : decode cL_below 1 = .ok (.ldc 7, 2) := by decide +kernel
theorem dL_below_3 : decode cL_below 3 = .ok (.iand, 1) := by decide +kernel
theorem dL_below_4 : decode cL_below 4 = .ok (.iload_n 1, 1) := by decide +kernel
theorem dL_below_5 : decode cL_below 5 = .ok (.irem, 1) := by decide +kernel
theorem dL_below_6 : decode cL_below 6 = .ok (.ireturn, 1) := by decide +kernel
theorem dL_cell_0 : decode cL_cell 0 = .ok (.iload_n 1, 1) := by decide +kernel
theorem dL_cell_1 : decode cL_cell 1 = .ok (.aload_n 0, 1) := by decide +kernel
theorem dL_cell_2 : decode cL_cell 2 = .ok (.arraylength, 1) := by decide +kernel
theorem dL_cell_3 : decode cL_cell 3 = .ok (.if_icmp .ge 9, 3) := by decide +kernel
theorem dL_cell_6 : decode cL_cell 6 = .ok (.aload_n 0, 1) := by decide +kernel
theorem dL_cell_7 : decode cL_cell 7 = .ok (.iload_n 1, 1) := by decide +kernel
theorem dL_cell_8 : decode cL_cell 8 = .ok (.iaload, 1) := by decide +kernel
theorem dL_cell_9 : decode cL_cell 9 = .ok (.goto 9, 3) := by decide +kernel
theorem dL_cell_12 : decode cL_cell 12 = .ok (.ldc 8, 2) := by decide +kernel
theorem dL_cell_14 : decode cL_cell 14 = .ok (.iload_n 1, 1) := by decide +kernel
theorem dL_cell_15 : decode cL_cell 15 = .ok (.iconst 3, 1) := by decide +kernel
theorem dL_cell_16 : decode cL_cell 16 = .ok (.iadd, 1) := by decide +kernel
theorem dL_cell_17 : decode cL_cell 17 = .ok (.imul, 1) := by decide +kernel
theorem dL_cell_18 : decode cL_cell 18 = .ok (.ireturn, 1) := by decide +kernel
theorem dL_more_0 : decode cL_more 0 = .ok (.aload_n 0, 1) := by decide +kernel
theorem dL_more_1 : decode cL_more 1 = .ok (.arraylength, 1) := by decide +kernel
theorem dL_more_2 : decode cL_more 2 = .ok (.aload_n 1, 1) := by decide +kernel
theorem dL_more_3 : decode cL_more 3 = .ok (.arraylength, 1) := by decide +kernel
theorem dL_more_4 : decode cL_more 4 = .ok (.iadd, 1) := by decide +kernel
theorem dL_more_5 : decode cL_more 5 = .ok (.newarray .int, 2) := by decide +kernel
theorem dL_more_7 : decode cL_more 7 = .ok (.astore_n 2, 1) := by decide +kernel
theorem dL_more_8 : decode cL_more 8 = .ok (.iconst 0, 1) := by decide +kernel
theorem dL_more_9 : decode cL_more 9 = .ok (.istore_n 3, 1) := by decide +kernel
theorem dL_more_10 : decode cL_more 10 = .ok (.iload_n 3, 1) := by decide +kernel
theorem dL_more_11 : decode cL_more 11 = .ok (.aload_n 2, 1) := by decide +kernel
theorem dL_more_12 : decode cL_more 12 = .ok (.arraylength, 1) := by decide +kernel
theorem dL_more_13 : decode cL_more 13 = .ok (.if_icmp .ge 30, 3) := by decide +kernel
theorem dL_more_16 : decode cL_more 16 = .ok (.aload_n 2, 1) := by decide +kernel
theorem dL_more_17 : decode cL_more 17 = .ok (.iload_n 3, 1) := by decide +kernel
theorem dL_more_18 : decode cL_more 18 = .ok (.iload_n 3, 1) := by decide +kernel
theorem dL_more_19 : decode cL_more 19 = .ok (.aload_n 0, 1) := by decide +kernel
theorem dL_more_20 : decode cL_more 20 = .ok (.arraylength, 1) := by decide +kernel
theorem dL_more_21 : decode cL_more 21 = .ok (.if_icmp .ge 9, 3) := by decide +kernel
theorem dL_more_24 : decode cL_more 24 = .ok (.aload_n 0, 1) := by decide +kernel
theorem dL_more_25 : decode cL_more 25 = .ok (.iload_n 3, 1) := by decide +kernel
theorem dL_more_26 : decode cL_more 26 = .ok (.iaload, 1) := by decide +kernel
theorem dL_more_27 : decode cL_more 27 = .ok (.goto 9, 3) := by decide +kernel
theorem dL_more_30 : decode cL_more 30 = .ok (.aload_n 1, 1) := by decide +kernel
theorem dL_more_31 : decode cL_more 31 = .ok (.iload_n 3, 1) := by decide +kernel
theorem dL_more_32 : decode cL_more 32 = .ok (.aload_n 0, 1) := by decide +kernel
theorem dL_more_33 : decode cL_more 33 = .ok (.arraylength, 1) := by decide +kernel
theorem dL_more_34 : decode cL_more 34 = .ok (.isub, 1) := by decide +kernel
theorem dL_more_35 : decode cL_more 35 = .ok (.iaload, 1) := by decide +kernel
theorem dL_more_36 : decode cL_more 36 = .ok (.iastore, 1) := by decide +kernel
theorem dL_more_37 : decode cL_more 37 = .ok (.iinc 3 1, 3) := by decide +kernel
theorem dL_more_40 : decode cL_more 40 = .ok (.goto (-30), 3) := by decide +kernel
theorem dL_more_43 : decode cL_more 43 = .ok (.aload_n 2, 1) := by decide +kernel
theorem dL_more_44 : decode cL_more 44 = .ok (.areturn, 1) := by decide +kernel
theorem dL_with_0 : decode cL_with 0 = .ok (.aload_n 0, 1) := by decide +kernel
theorem dL_with_1 : decode cL_with 1 = .ok (.arraylength, 1) := by decide +kernel
theorem dL_with_2 : decode cL_with 2 = .ok (.iload_n 2, 1) := by decide +kernel
theorem dL_with_3 : decode cL_with 3 = .ok (.isub, 1) := by decide +kernel
theorem dL_with_4 : decode cL_with 4 = .ok (.aload_n 3, 1) := by decide +kernel
theorem dL_with_5 : decode cL_with 5 = .ok (.arraylength, 1) := by decide +kernel
theorem dL_with_6 : decode cL_with 6 = .ok (.iadd, 1) := by decide +kernel
theorem dL_with_7 : decode cL_with 7 = .ok (.anewarray 9, 3) := by decide +kernel
theorem dL_with_10 : decode cL_with 10 = .ok (.astore 4, 2) := by decide +kernel
theorem dL_with_12 : decode cL_with 12 = .ok (.iconst 0, 1) := by decide +kernel
theorem dL_with_13 : decode cL_with 13 = .ok (.istore 5, 2) := by decide +kernel
theorem dL_with_15 : decode cL_with 15 = .ok (.iload 5, 2) := by decide +kernel
theorem dL_with_17 : decode cL_with 17 = .ok (.aload 4, 2) := by decide +kernel
theorem dL_with_19 : decode cL_with 19 = .ok (.arraylength, 1) := by decide +kernel
theorem dL_with_20 : decode cL_with 20 = .ok (.if_icmp .ge 54, 3) := by decide +kernel
theorem dL_with_23 : decode cL_with 23 = .ok (.aload 4, 2) := by decide +kernel
theorem dL_with_25 : decode cL_with 25 = .ok (.iload 5, 2) := by decide +kernel
theorem dL_with_27 : decode cL_with 27 = .ok (.iload 5, 2) := by decide +kernel
theorem dL_with_29 : decode cL_with 29 = .ok (.iload_n 1, 1) := by decide +kernel
theorem dL_with_30 : decode cL_with 30 = .ok (.if_icmp .ge 10, 3) := by decide +kernel
theorem dL_with_33 : decode cL_with 33 = .ok (.aload_n 0, 1) := by decide +kernel
theorem dL_with_34 : decode cL_with 34 = .ok (.iload 5, 2) := by decide +kernel
theorem dL_with_36 : decode cL_with 36 = .ok (.aaload, 1) := by decide +kernel
theorem dL_with_37 : decode cL_with 37 = .ok (.goto 30, 3) := by decide +kernel
theorem dL_with_40 : decode cL_with 40 = .ok (.iload 5, 2) := by decide +kernel
theorem dL_with_42 : decode cL_with 42 = .ok (.iload_n 1, 1) := by decide +kernel
theorem dL_with_43 : decode cL_with 43 = .ok (.aload_n 3, 1) := by decide +kernel
theorem dL_with_44 : decode cL_with 44 = .ok (.arraylength, 1) := by decide +kernel
theorem dL_with_45 : decode cL_with 45 = .ok (.iadd, 1) := by decide +kernel
theorem dL_with_46 : decode cL_with 46 = .ok (.if_icmp .ge 12, 3) := by decide +kernel
theorem dL_with_49 : decode cL_with 49 = .ok (.aload_n 3, 1) := by decide +kernel
theorem dL_with_50 : decode cL_with 50 = .ok (.iload 5, 2) := by decide +kernel
theorem dL_with_52 : decode cL_with 52 = .ok (.iload_n 1, 1) := by decide +kernel
theorem dL_with_53 : decode cL_with 53 = .ok (.isub, 1) := by decide +kernel
theorem dL_with_54 : decode cL_with 54 = .ok (.aaload, 1) := by decide +kernel
theorem dL_with_55 : decode cL_with 55 = .ok (.goto 12, 3) := by decide +kernel
theorem dL_with_58 : decode cL_with 58 = .ok (.aload_n 0, 1) := by decide +kernel
theorem dL_with_59 : decode cL_with 59 = .ok (.iload 5, 2) := by decide +kernel
theorem dL_with_61 : decode cL_with 61 = .ok (.aload_n 3, 1) := by decide +kernel
theorem dL_with_62 : decode cL_with 62 = .ok (.arraylength, 1) := by decide +kernel
theorem dL_with_63 : decode cL_with 63 = .ok (.isub, 1) := by decide +kernel
theorem dL_with_64 : decode cL_with 64 = .ok (.iload_n 2, 1) := by decide +kernel
theorem dL_with_65 : decode cL_with 65 = .ok (.iadd, 1) := by decide +kernel
theorem dL_with_66 : decode cL_with 66 = .ok (.aaload, 1) := by decide +kernel
theorem dL_with_67 : decode cL_with 67 = .ok (.aastore, 1) := by decide +kernel
theorem dL_with_68 : decode cL_with 68 = .ok (.iinc 5 1, 3) := by decide +kernel
theorem dL_with_71 : decode cL_with 71 = .ok (.goto (-56), 3) := by decide +kernel
theorem dL_with_74 : decode cL_with 74 = .ok (.aload 4, 2) := by decide +kernel
theorem dL_with_76 : decode cL_with 76 = .ok (.areturn, 1) := by decide +kernel
set_option maxRecDepth 20000 in
theorem ggL_build_X4_addProgram : GoodIn wsL_build wsX4_addProgram := goodIn_ca (goodIn_r _ [7, 8, 9, 10, 11, 12, 13, 6, 14, 15, 16, 17, 18, 19, 20, 21, 22, 2, 23, 24, 25, 26, 27, 28, 29, 112, 113, 114, 115, 116, 117, 118, 119, 120, 121] (by decide +kernel) (by decide +kernel)) (goodIn_sub (fun _ h => List.mem_cons_of_mem _ (List.mem_append_left _ (List.mem_append_left _ (List.mem_append_right _ h)))) (by decide +kernel))
set_option maxRecDepth 20000 in
theorem gL_build_X4_addProgram : GoodIn wsL_build (wsV RL 67 RX4 yX4_addProgram wsX4_addProgram) := goodIn_app (goodIn_of _ (by decide +kernel)) ggL_build_X4_addProgram
set_option maxRecDepth 20000 in
theorem ggL_build_L_cell : GoodIn wsL_build wsL_cell := goodIn_r _ [33, 34] (by decide +kernel) (by decide +kernel)
set_option maxRecDepth 20000 in
theorem gL_build_L_cell : GoodIn wsL_build (va_wsS RL 73 yL_cell wsL_cell) := goodIn_app (goodIn_of _ (by decide +kernel)) ggL_build_L_cell
set_option maxRecDepth 20000 in
theorem ggL_build_L_below : GoodIn wsL_build wsL_below := goodIn_r _ [37, 38] (by decide +kernel) (by decide +kernel)
set_option maxRecDepth 20000 in
theorem gL_build_L_below : GoodIn wsL_build (va_wsS RL 77 yL_below wsL_below) := goodIn_app (goodIn_of _ (by decide +kernel)) ggL_build_L_below
set_option maxRecDepth 20000 in
theorem ggL_build_X4_addLoop : GoodIn wsL_build wsX4_addLoop := goodIn_ca (goodIn_ca (goodIn_ca (goodIn_r _ [42, 43, 44, 15, 16, 45, 46, 47, 6, 48, 49, 50, 29, 51, 52, 53, 54, 55, 56, 10, 57, 24, 58, 59, 60, 61, 62, 63, 64, 65, 66, 67, 68, 69, 23, 114, 115, 116, 117, 118, 119, 120, 121, 112, 113] (by decide +kernel) (by decide +kernel)) (goodIn_sub (fun _ h => List.mem_cons_of_mem _ (List.mem_append_left _ (List.mem_append_right _ h))) (by decide +kernel))) (goodIn_sub (fun _ h => List.mem_cons_of_mem _ (List.mem_append_left _ (List.mem_append_left _ (List.mem_append_right _ h)))) (by decide +kernel))) (goodIn_sub (fun _ h => List.mem_cons_of_mem _ (List.mem_append_right _ h)) (by decide +kernel))
set_option maxRecDepth 20000 in
theorem gL_build_X4_addLoop : GoodIn wsL_build (wsV RL 80 RX4 yX4_addLoop wsX4_addLoop) := goodIn_app (goodIn_of _ (by decide +kernel)) ggL_build_X4_addLoop
set_option maxRecDepth 20000 in
theorem ggL_build_X4_addStep : GoodIn wsL_build wsX4_addStep := goodIn_ca (goodIn_ca (goodIn_ca (goodIn_r _ [73, 43, 44, 15, 16, 45, 46, 47, 6, 48, 49, 50, 29, 74, 75, 76, 54, 55, 56, 10, 57, 24, 51, 52, 53, 77, 78, 79, 80, 81, 82, 83, 84, 85, 86, 87, 88, 89, 90, 91, 92, 93, 94, 95, 96, 97, 23, 98, 99, 100, 101, 102, 103, 104, 105, 66, 67, 68, 69, 62, 63, 64, 65, 114, 115, 116, 117, 118, 119, 120, 121, 112, 113] (by decide +kernel) (by decide +kernel)) (goodIn_sub (fun _ h => List.mem_cons_of_mem _ (List.mem_append_left _ (List.mem_append_right _ h))) (by decide +kernel))) (goodIn_sub (fun _ h => List.mem_cons_of_mem _ (List.mem_append_left _ (List.mem_append_left _ (List.mem_append_right _ h)))) (by decide +kernel))) (goodIn_sub (fun _ h => List.mem_cons_of_mem _ (List.mem_append_right _ h)) (by decide +kernel))
set_option maxRecDepth 20000 in
theorem gL_build_X4_addStep : GoodIn wsL_build (wsV RL 84 RX4 yX4_addStep wsX4_addStep) := goodIn_app (goodIn_of _ (by decide +kernel)) ggL_build_X4_addStep
set_option maxRecDepth 20000 in
theorem ggL_build_L_more : GoodIn wsL_build wsL_more := goodIn_r _ [108, 2] (by decide +kernel) (by decide +kernel)
set_option maxRecDepth 20000 in
theorem gL_build_L_more : GoodIn wsL_build (va_wsS RL 11 yL_more wsL_more) := goodIn_app (goodIn_of _ (by decide +kernel)) ggL_build_L_more
set_option maxRecDepth 20000 in
theorem ggL_build_L_with : GoodIn wsL_build wsL_with := goodIn_r _ [111, 1] (by decide +kernel) (by decide +kernel)
set_option maxRecDepth 20000 in
theorem gL_build_L_with : GoodIn wsL_build (va_wsS RL 59 yL_with wsL_with) := goodIn_app (goodIn_of _ (by decide +kernel)) ggL_build_L_with
theorem dL_build_0 : decode cL_build 0 = .ok (.aload_n 0, 1) := by decide +kernel
theorem dL_build_1 : decode cL_build 1 = .ok (.invokevirtual 67, 3) := by decide +kernel
theorem dL_build_4 : decode cL_build 4 = .ok (.iload_n 3, 1) := by decide +kernel
theorem dL_build_5 : decode cL_build 5 = .ok (.if_icmp .eq 5, 3) := by decide +kernel
theorem dL_build_8 : decode cL_build 8 = .ok (.aconst_null, 1) := by decide +kernel
theorem dL_build_9 : decode cL_build 9 = .ok (.areturn, 1) := by decide +kernel
theorem dL_build_10 : decode cL_build 10 = .ok (.iconst 1, 1) := by decide +kernel
theorem dL_build_11 : decode cL_build 11 = .ok (.aload_n 1, 1) := by decide +kernel
theorem dL_build_12 : decode cL_build 12 = .ok (.iload_n 2, 1) := by decide +kernel
theorem dL_build_13 : decode cL_build 13 = .ok (.invokestatic 73, 3) := by decide +kernel
theorem dL_build_16 : decode cL_build 16 = .ok (.iconst 4, 1) := by decide +kernel
theorem dL_build_17 : decode cL_build 17 = .ok (.invokestatic 77, 3) := by decide +kernel
theorem dL_build_20 : decode cL_build 20 = .ok (.iadd, 1) := by decide +kernel
theorem dL_build_21 : decode cL_build 21 = .ok (.istore 4, 2) := by decide +kernel
theorem dL_build_23 : decode cL_build 23 = .ok (.iconst 0, 1) := by decide +kernel
theorem dL_build_24 : decode cL_build 24 = .ok (.anewarray 9, 3) := by decide +kernel
theorem dL_build_27 : decode cL_build 27 = .ok (.astore 5, 2) := by decide +kernel
theorem dL_build_29 : decode cL_build 29 = .ok (.iconst 0, 1) := by decide +kernel
theorem dL_build_30 : decode cL_build 30 = .ok (.istore 6, 2) := by decide +kernel
theorem dL_build_32 : decode cL_build 32 = .ok (.iload 6, 2) := by decide +kernel
theorem dL_build_34 : decode cL_build 34 = .ok (.iload 4, 2) := by decide +kernel
theorem dL_build_36 : decode cL_build 36 = .ok (.if_icmp .ge 454, 3) := by decide +kernel
theorem dL_build_39 : decode cL_build 39 = .ok (.aload_n 1, 1) := by decide +kernel
theorem dL_build_40 : decode cL_build 40 = .ok (.iload_n 2, 1) := by decide +kernel
theorem dL_build_41 : decode cL_build 41 = .ok (.iconst 1, 1) := by decide +kernel
theorem dL_build_42 : decode cL_build 42 = .ok (.iadd, 1) := by decide +kernel
theorem dL_build_43 : decode cL_build 43 = .ok (.iload 6, 2) := by decide +kernel
theorem dL_build_45 : decode cL_build 45 = .ok (.iadd, 1) := by decide +kernel
theorem dL_build_46 : decode cL_build 46 = .ok (.invokestatic 73, 3) := by decide +kernel
theorem dL_build_49 : decode cL_build 49 = .ok (.istore 7, 2) := by decide +kernel
theorem dL_build_51 : decode cL_build 51 = .ok (.iload 6, 2) := by decide +kernel
theorem dL_build_53 : decode cL_build 53 = .ok (.ifCond .le 16, 3) := by decide +kernel
theorem dL_build_56 : decode cL_build 56 = .ok (.iload 7, 2) := by decide +kernel
theorem dL_build_58 : decode cL_build 58 = .ok (.iconst 3, 1) := by decide +kernel
theorem dL_build_59 : decode cL_build 59 = .ok (.invokestatic 77, 3) := by decide +kernel
theorem dL_build_62 : decode cL_build 62 = .ok (.ifCond .le 7, 3) := by decide +kernel
theorem dL_build_65 : decode cL_build 65 = .ok (.iconst 1, 1) := by decide +kernel
theorem dL_build_66 : decode cL_build 66 = .ok (.goto 4, 3) := by decide +kernel
theorem dL_build_69 : decode cL_build 69 = .ok (.iconst 0, 1) := by decide +kernel
theorem dL_build_70 : decode cL_build 70 = .ok (.istore 8, 2) := by decide +kernel
theorem dL_build_72 : decode cL_build 72 = .ok (.iload 8, 2) := by decide +kernel
theorem dL_build_74 : decode cL_build 74 = .ok (.ifCond .eq 45, 3) := by decide +kernel
theorem dL_build_77 : decode cL_build 77 = .ok (.iconst 3, 1) := by decide +kernel
theorem dL_build_78 : decode cL_build 78 = .ok (.newarray .int, 2) := by decide +kernel
theorem dL_build_80 : decode cL_build 80 = .ok (.dup, 1) := by decide +kernel
theorem dL_build_81 : decode cL_build 81 = .ok (.iconst 0, 1) := by decide +kernel
theorem dL_build_82 : decode cL_build 82 = .ok (.aload 5, 2) := by decide +kernel
theorem dL_build_84 : decode cL_build 84 = .ok (.iload 6, 2) := by decide +kernel
theorem dL_build_86 : decode cL_build 86 = .ok (.iconst 1, 1) := by decide +kernel
theorem dL_build_87 : decode cL_build 87 = .ok (.isub, 1) := by decide +kernel
theorem dL_build_88 : decode cL_build 88 = .ok (.aaload, 1) := by decide +kernel
theorem dL_build_89 : decode cL_build 89 = .ok (.iconst 0, 1) := by decide +kernel
theorem dL_build_90 : decode cL_build 90 = .ok (.iaload, 1) := by decide +kernel
theorem dL_build_91 : decode cL_build 91 = .ok (.iastore, 1) := by decide +kernel
theorem dL_build_92 : decode cL_build 92 = .ok (.dup, 1) := by decide +kernel
theorem dL_build_93 : decode cL_build 93 = .ok (.iconst 1, 1) := by decide +kernel
theorem dL_build_94 : decode cL_build 94 = .ok (.aload 5, 2) := by decide +kernel
theorem dL_build_96 : decode cL_build 96 = .ok (.iload 6, 2) := by decide +kernel
theorem dL_build_98 : decode cL_build 98 = .ok (.iconst 1, 1) := by decide +kernel
theorem dL_build_99 : decode cL_build 99 = .ok (.isub, 1) := by decide +kernel
theorem dL_build_100 : decode cL_build 100 = .ok (.aaload, 1) := by decide +kernel
theorem dL_build_101 : decode cL_build 101 = .ok (.iconst 1, 1) := by decide +kernel
theorem dL_build_102 : decode cL_build 102 = .ok (.iaload, 1) := by decide +kernel
theorem dL_build_103 : decode cL_build 103 = .ok (.iastore, 1) := by decide +kernel
theorem dL_build_104 : decode cL_build 104 = .ok (.dup, 1) := by decide +kernel
theorem dL_build_105 : decode cL_build 105 = .ok (.iconst 2, 1) := by decide +kernel
theorem dL_build_106 : decode cL_build 106 = .ok (.aload 5, 2) := by decide +kernel
theorem dL_build_108 : decode cL_build 108 = .ok (.iload 6, 2) := by decide +kernel
theorem dL_build_110 : decode cL_build 110 = .ok (.iconst 1, 1) := by decide +kernel
theorem dL_build_111 : decode cL_build 111 = .ok (.isub, 1) := by decide +kernel
theorem dL_build_112 : decode cL_build 112 = .ok (.aaload, 1) := by decide +kernel
theorem dL_build_113 : decode cL_build 113 = .ok (.iconst 2, 1) := by decide +kernel
theorem dL_build_114 : decode cL_build 114 = .ok (.iaload, 1) := by decide +kernel
theorem dL_build_115 : decode cL_build 115 = .ok (.iastore, 1) := by decide +kernel
theorem dL_build_116 : decode cL_build 116 = .ok (.goto 71, 3) := by decide +kernel
theorem dL_build_119 : decode cL_build 119 = .ok (.iconst 3, 1) := by decide +kernel
theorem dL_build_120 : decode cL_build 120 = .ok (.newarray .int, 2) := by decide +kernel
theorem dL_build_122 : decode cL_build 122 = .ok (.dup, 1) := by decide +kernel
theorem dL_build_123 : decode cL_build 123 = .ok (.iconst 0, 1) := by decide +kernel
theorem dL_build_124 : decode cL_build 124 = .ok (.iload 7, 2) := by decide +kernel
theorem dL_build_126 : decode cL_build 126 = .ok (.iconst 2, 1) := by decide +kernel
theorem dL_build_127 : decode cL_build 127 = .ok (.ishr, 1) := by decide +kernel
theorem dL_build_128 : decode cL_build 128 = .ok (.iconst 4, 1) := by decide +kernel
theorem dL_build_129 : decode cL_build 129 = .ok (.invokestatic 77, 3) := by decide +kernel
theorem dL_build_132 : decode cL_build 132 = .ok (.ifCond .ne 15, 3) := by decide +kernel
theorem dL_build_135 : decode cL_build 135 = .ok (.iload 7, 2) := by decide +kernel
theorem dL_build_137 : decode cL_build 137 = .ok (.iconst 4, 1) := by decide +kernel
theorem dL_build_138 : decode cL_build 138 = .ok (.ishr, 1) := by decide +kernel
theorem dL_build_139 : decode cL_build 139 = .ok (.bipush 6, 2) := by decide +kernel
theorem dL_build_141 : decode cL_build 141 = .ok (.invokestatic 77, 3) := by decide +kernel
theorem dL_build_144 : decode cL_build 144 = .ok (.goto 4, 3) := by decide +kernel
theorem dL_build_147 : decode cL_build 147 = .ok (.iconst 0, 1) := by decide +kernel
theorem dL_build_148 : decode cL_build 148 = .ok (.iastore, 1) := by decide +kernel
theorem dL_build_149 : decode cL_build 149 = .ok (.dup, 1) := by decide +kernel
theorem dL_build_150 : decode cL_build 150 = .ok (.iconst 1, 1) := by decide +kernel
theorem dL_build_151 : decode cL_build 151 = .ok (.iload 7, 2) := by decide +kernel
theorem dL_build_153 : decode cL_build 153 = .ok (.iconst 3, 1) := by decide +kernel
theorem dL_build_154 : decode cL_build 154 = .ok (.ishr, 1) := by decide +kernel
theorem dL_build_155 : decode cL_build 155 = .ok (.iconst 4, 1) := by decide +kernel
theorem dL_build_156 : decode cL_build 156 = .ok (.invokestatic 77, 3) := by decide +kernel
theorem dL_build_159 : decode cL_build 159 = .ok (.ifCond .ne 15, 3) := by decide +kernel
theorem dL_build_162 : decode cL_build 162 = .ok (.iload 7, 2) := by decide +kernel
theorem dL_build_164 : decode cL_build 164 = .ok (.iconst 5, 1) := by decide +kernel
theorem dL_build_165 : decode cL_build 165 = .ok (.ishr, 1) := by decide +kernel
theorem dL_build_166 : decode cL_build 166 = .ok (.bipush 6, 2) := by decide +kernel
theorem dL_build_168 : decode cL_build 168 = .ok (.invokestatic 77, 3) := by decide +kernel
theorem dL_build_171 : decode cL_build 171 = .ok (.goto 4, 3) := by decide +kernel
theorem dL_build_174 : decode cL_build 174 = .ok (.iconst 0, 1) := by decide +kernel
theorem dL_build_175 : decode cL_build 175 = .ok (.iastore, 1) := by decide +kernel
theorem dL_build_176 : decode cL_build 176 = .ok (.dup, 1) := by decide +kernel
theorem dL_build_177 : decode cL_build 177 = .ok (.iconst 2, 1) := by decide +kernel
theorem dL_build_178 : decode cL_build 178 = .ok (.iload 7, 2) := by decide +kernel
theorem dL_build_180 : decode cL_build 180 = .ok (.iconst 4, 1) := by decide +kernel
theorem dL_build_181 : decode cL_build 181 = .ok (.ishr, 1) := by decide +kernel
theorem dL_build_182 : decode cL_build 182 = .ok (.iconst 2, 1) := by decide +kernel
theorem dL_build_183 : decode cL_build 183 = .ok (.invokestatic 77, 3) := by decide +kernel
theorem dL_build_186 : decode cL_build 186 = .ok (.iastore, 1) := by decide +kernel
theorem dL_build_187 : decode cL_build 187 = .ok (.astore 9, 2) := by decide +kernel
theorem dL_build_189 : decode cL_build 189 = .ok (.aload_n 0, 1) := by decide +kernel
theorem dL_build_190 : decode cL_build 190 = .ok (.iload_n 3, 1) := by decide +kernel
theorem dL_build_191 : decode cL_build 191 = .ok (.aload 9, 2) := by decide +kernel
theorem dL_build_193 : decode cL_build 193 = .ok (.iconst 0, 1) := by decide +kernel
theorem dL_build_194 : decode cL_build 194 = .ok (.iaload, 1) := by decide +kernel
theorem dL_build_195 : decode cL_build 195 = .ok (.aload 9, 2) := by decide +kernel
theorem dL_build_197 : decode cL_build 197 = .ok (.iconst 1, 1) := by decide +kernel
theorem dL_build_198 : decode cL_build 198 = .ok (.iaload, 1) := by decide +kernel
theorem dL_build_199 : decode cL_build 199 = .ok (.aload 9, 2) := by decide +kernel
theorem dL_build_201 : decode cL_build 201 = .ok (.iconst 2, 1) := by decide +kernel
theorem dL_build_202 : decode cL_build 202 = .ok (.iaload, 1) := by decide +kernel
theorem dL_build_203 : decode cL_build 203 = .ok (.iconst 1, 1) := by decide +kernel
theorem dL_build_204 : decode cL_build 204 = .ok (.if_icmp .ne 7, 3) := by decide +kernel
theorem dL_build_207 : decode cL_build 207 = .ok (.iconst 1, 1) := by decide +kernel
theorem dL_build_208 : decode cL_build 208 = .ok (.goto 4, 3) := by decide +kernel
theorem dL_build_211 : decode cL_build 211 = .ok (.iconst 0, 1) := by decide +kernel
theorem dL_build_212 : decode cL_build 212 = .ok (.invokevirtual 80, 3) := by decide +kernel
theorem dL_build_215 : decode cL_build 215 = .ok (.iload 6, 2) := by decide +kernel
theorem dL_build_217 : decode cL_build 217 = .ok (.if_icmp .eq 5, 3) := by decide +kernel
theorem dL_build_220 : decode cL_build 220 = .ok (.aconst_null, 1) := by decide +kernel
theorem dL_build_221 : decode cL_build 221 = .ok (.areturn, 1) := by decide +kernel
theorem dL_build_222 : decode cL_build 222 = .ok (.iload 7, 2) := by decide +kernel
theorem dL_build_224 : decode cL_build 224 = .ok (.bipush 6, 2) := by decide +kernel
theorem dL_build_226 : decode cL_build 226 = .ok (.ishr, 1) := by decide +kernel
theorem dL_build_227 : decode cL_build 227 = .ok (.iconst 5, 1) := by decide +kernel
theorem dL_build_228 : decode cL_build 228 = .ok (.invokestatic 77, 3) := by decide +kernel
theorem dL_build_231 : decode cL_build 231 = .ok (.ifCond .ne 7, 3) := by decide +kernel
theorem dL_build_234 : decode cL_build 234 = .ok (.iconst 0, 1) := by decide +kernel
theorem dL_build_235 : decode cL_build 235 = .ok (.goto 14, 3) := by decide +kernel
theorem dL_build_238 : decode cL_build 238 = .ok (.iconst 1, 1) := by decide +kernel
theorem dL_build_239 : decode cL_build 239 = .ok (.iload 7, 2) := by decide +kernel
theorem dL_build_241 : decode cL_build 241 = .ok (.bipush 6, 2) := by decide +kernel
theorem dL_build_243 : decode cL_build 243 = .ok (.ishr, 1) := by decide +kernel
theorem dL_build_244 : decode cL_build 244 = .ok (.iconst 3, 1) := by decide +kernel
theorem dL_build_245 : decode cL_build 245 = .ok (.invokestatic 77, 3) := by decide +kernel
theorem dL_build_248 : decode cL_build 248 = .ok (.iadd, 1) := by decide +kernel
theorem dL_build_249 : decode cL_build 249 = .ok (.istore 10, 2) := by decide +kernel
theorem dL_build_251 : decode cL_build 251 = .ok (.iconst 0, 1) := by decide +kernel
theorem dL_build_252 : decode cL_build 252 = .ok (.istore 11, 2) := by decide +kernel
theorem dL_build_254 : decode cL_build 254 = .ok (.iload 11, 2) := by decide +kernel
theorem dL_build_256 : decode cL_build 256 = .ok (.iload 10, 2) := by decide +kernel
theorem dL_build_258 : decode cL_build 258 = .ok (.if_icmp .ge 207, 3) := by decide +kernel
theorem dL_build_261 : decode cL_build 261 = .ok (.iload 7, 2) := by decide +kernel
theorem dL_build_263 : decode cL_build 263 = .ok (.iconst 3, 1) := by decide +kernel
theorem dL_build_264 : decode cL_build 264 = .ok (.iload 11, 2) := by decide +kernel
theorem dL_build_266 : decode cL_build 266 = .ok (.imul, 1) := by decide +kernel
theorem dL_build_267 : decode cL_build 267 = .ok (.ishr, 1) := by decide +kernel
theorem dL_build_268 : decode cL_build 268 = .ok (.bipush 7, 2) := by decide +kernel
theorem dL_build_270 : decode cL_build 270 = .ok (.iload 11, 2) := by decide +kernel
theorem dL_build_272 : decode cL_build 272 = .ok (.imul, 1) := by decide +kernel
theorem dL_build_273 : decode cL_build 273 = .ok (.iadd, 1) := by decide +kernel
theorem dL_build_274 : decode cL_build 274 = .ok (.istore 12, 2) := by decide +kernel
theorem dL_build_276 : decode cL_build 276 = .ok (.iload 12, 2) := by decide +kernel
theorem dL_build_278 : decode cL_build 278 = .ok (.iconst 5, 1) := by decide +kernel
theorem dL_build_279 : decode cL_build 279 = .ok (.invokestatic 77, 3) := by decide +kernel
theorem dL_build_282 : decode cL_build 282 = .ok (.istore 13, 2) := by decide +kernel
theorem dL_build_284 : decode cL_build 284 = .ok (.iload 12, 2) := by decide +kernel
theorem dL_build_286 : decode cL_build 286 = .ok (.iconst 4, 1) := by decide +kernel
theorem dL_build_287 : decode cL_build 287 = .ok (.ishr, 1) := by decide +kernel
theorem dL_build_288 : decode cL_build 288 = .ok (.iconst 3, 1) := by decide +kernel
theorem dL_build_289 : decode cL_build 289 = .ok (.invokestatic 77, 3) := by decide +kernel
theorem dL_build_292 : decode cL_build 292 = .ok (.ifCond .ne 18, 3) := by decide +kernel
theorem dL_build_295 : decode cL_build 295 = .ok (.sipush 1000, 3) := by decide +kernel
theorem dL_build_298 : decode cL_build 298 = .ok (.iload 12, 2) := by decide +kernel
theorem dL_build_300 : decode cL_build 300 = .ok (.iconst 5, 1) := by decide +kernel
theorem dL_build_301 : decode cL_build 301 = .ok (.ishr, 1) := by decide +kernel
theorem dL_build_302 : decode cL_build 302 = .ok (.iconst 4, 1) := by decide +kernel
theorem dL_build_303 : decode cL_build 303 = .ok (.invokestatic 77, 3) := by decide +kernel
theorem dL_build_306 : decode cL_build 306 = .ok (.iadd, 1) := by decide +kernel
theorem dL_build_307 : decode cL_build 307 = .ok (.goto 13, 3) := by decide +kernel
theorem dL_build_310 : decode cL_build 310 = .ok (.iload 12, 2) := by decide +kernel
theorem dL_build_312 : decode cL_build 312 = .ok (.iconst 5, 1) := by decide +kernel
theorem dL_build_313 : decode cL_build 313 = .ok (.ishr, 1) := by decide +kernel
theorem dL_build_314 : decode cL_build 314 = .ok (.iconst 5, 1) := by decide +kernel
theorem dL_build_315 : decode cL_build 315 = .ok (.invokestatic 77, 3) := by decide +kernel
theorem dL_build_318 : decode cL_build 318 = .ok (.iconst 1, 1) := by decide +kernel
theorem dL_build_319 : decode cL_build 319 = .ok (.isub, 1) := by decide +kernel
theorem dL_build_320 : decode cL_build 320 = .ok (.istore 14, 2) := by decide +kernel
theorem dL_build_322 : decode cL_build 322 = .ok (.iload 12, 2) := by decide +kernel
theorem dL_build_324 : decode cL_build 324 = .ok (.bipush 6, 2) := by decide +kernel
theorem dL_build_326 : decode cL_build 326 = .ok (.ishr, 1) := by decide +kernel
theorem dL_build_327 : decode cL_build 327 = .ok (.bipush 9, 2) := by decide +kernel
theorem dL_build_329 : decode cL_build 329 = .ok (.invokestatic 77, 3) := by decide +kernel
theorem dL_build_332 : decode cL_build 332 = .ok (.ifCond .ne 7, 3) := by decide +kernel
theorem dL_build_335 : decode cL_build 335 = .ok (.iconst 5, 1) := by decide +kernel
theorem dL_build_336 : decode cL_build 336 = .ok (.goto 30, 3) := by decide +kernel
theorem dL_build_339 : decode cL_build 339 = .ok (.iload 12, 2) := by decide +kernel
theorem dL_build_341 : decode cL_build 341 = .ok (.bipush 6, 2) := by decide +kernel
theorem dL_build_343 : decode cL_build 343 = .ok (.ishr, 1) := by decide +kernel
theorem dL_build_344 : decode cL_build 344 = .ok (.bipush 9, 2) := by decide +kernel
theorem dL_build_346 : decode cL_build 346 = .ok (.invokestatic 77, 3) := by decide +kernel
theorem dL_build_349 : decode cL_build 349 = .ok (.iconst 1, 1) := by decide +kernel
theorem dL_build_350 : decode cL_build 350 = .ok (.if_icmp .ne 7, 3) := by decide +kernel
theorem dL_build_353 : decode cL_build 353 = .ok (.iconst 4, 1) := by decide +kernel
theorem dL_build_354 : decode cL_build 354 = .ok (.goto 12, 3) := by decide +kernel
theorem dL_build_357 : decode cL_build 357 = .ok (.iload 12, 2) := by decide +kernel
theorem dL_build_359 : decode cL_build 359 = .ok (.bipush 7, 2) := by decide +kernel
theorem dL_build_361 : decode cL_build 361 = .ok (.ishr, 1) := by decide +kernel
theorem dL_build_362 : decode cL_build 362 = .ok (.iconst 4, 1) := by decide +kernel
theorem dL_build_363 : decode cL_build 363 = .ok (.invokestatic 77, 3) := by decide +kernel
theorem dL_build_366 : decode cL_build 366 = .ok (.istore 15, 2) := by decide +kernel
theorem dL_build_368 : decode cL_build 368 = .ok (.iload 15, 2) := by decide +kernel
theorem dL_build_370 : decode cL_build 370 = .ok (.iconst 4, 1) := by decide +kernel
theorem dL_build_371 : decode cL_build 371 = .ok (.if_icmp .ne 7, 3) := by decide +kernel
theorem dL_build_374 : decode cL_build 374 = .ok (.iconst 0, 1) := by decide +kernel
theorem dL_build_375 : decode cL_build 375 = .ok (.goto 30, 3) := by decide +kernel
theorem dL_build_378 : decode cL_build 378 = .ok (.iload 15, 2) := by decide +kernel
theorem dL_build_380 : decode cL_build 380 = .ok (.iconst 5, 1) := by decide +kernel
theorem dL_build_381 : decode cL_build 381 = .ok (.if_icmp .ne 15, 3) := by decide +kernel
theorem dL_build_384 : decode cL_build 384 = .ok (.iload 12, 2) := by decide +kernel
theorem dL_build_386 : decode cL_build 386 = .ok (.bipush 8, 2) := by decide +kernel
theorem dL_build_388 : decode cL_build 388 = .ok (.ishr, 1) := by decide +kernel
theorem dL_build_389 : decode cL_build 389 = .ok (.iconst 3, 1) := by decide +kernel
theorem dL_build_390 : decode cL_build 390 = .ok (.invokestatic 77, 3) := by decide +kernel
theorem dL_build_393 : decode cL_build 393 = .ok (.goto 12, 3) := by decide +kernel
theorem dL_build_396 : decode cL_build 396 = .ok (.iload 12, 2) := by decide +kernel
theorem dL_build_398 : decode cL_build 398 = .ok (.bipush 8, 2) := by decide +kernel
theorem dL_build_400 : decode cL_build 400 = .ok (.ishr, 1) := by decide +kernel
theorem dL_build_401 : decode cL_build 401 = .ok (.iconst 4, 1) := by decide +kernel
theorem dL_build_402 : decode cL_build 402 = .ok (.invokestatic 77, 3) := by decide +kernel
theorem dL_build_405 : decode cL_build 405 = .ok (.istore 16, 2) := by decide +kernel
theorem dL_build_407 : decode cL_build 407 = .ok (.aload_n 0, 1) := by decide +kernel
theorem dL_build_408 : decode cL_build 408 = .ok (.iload_n 3, 1) := by decide +kernel
theorem dL_build_409 : decode cL_build 409 = .ok (.iload 6, 2) := by decide +kernel
theorem dL_build_411 : decode cL_build 411 = .ok (.iload 13, 2) := by decide +kernel
theorem dL_build_413 : decode cL_build 413 = .ok (.iload 14, 2) := by decide +kernel
theorem dL_build_415 : decode cL_build 415 = .ok (.iload 15, 2) := by decide +kernel
theorem dL_build_417 : decode cL_build 417 = .ok (.iload 16, 2) := by decide +kernel
theorem dL_build_419 : decode cL_build 419 = .ok (.invokevirtual 84, 3) := by decide +kernel
theorem dL_build_422 : decode cL_build 422 = .ok (.iload 11, 2) := by decide +kernel
theorem dL_build_424 : decode cL_build 424 = .ok (.if_icmp .eq 5, 3) := by decide +kernel
theorem dL_build_427 : decode cL_build 427 = .ok (.aconst_null, 1) := by decide +kernel
theorem dL_build_428 : decode cL_build 428 = .ok (.areturn, 1) := by decide +kernel
theorem dL_build_429 : decode cL_build 429 = .ok (.aload 9, 2) := by decide +kernel
theorem dL_build_431 : decode cL_build 431 = .ok (.iconst 4, 1) := by decide +kernel
