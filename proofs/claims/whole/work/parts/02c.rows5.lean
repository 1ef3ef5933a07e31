theorem dX5_holds_20 : decode cX5_holds 20 = .ok (.iload_n 2, 1) := by decide +kernel
theorem dX5_holds_21 : decode cX5_holds 21 = .ok (.iload_n 3, 1) := by decide +kernel
theorem dX5_holds_22 : decode cX5_holds 22 = .ok (.iconst 1, 1) := by decide +kernel
theorem dX5_holds_23 : decode cX5_holds 23 = .ok (.invokestatic 88, 3) := by decide +kernel
theorem dX5_holds_26 : decode cX5_holds 26 = .ok (.istore 7, 2) := by decide +kernel
theorem dX5_holds_28 : decode cX5_holds 28 = .ok (.iload 7, 2) := by decide +kernel
theorem dX5_holds_30 : decode cX5_holds 30 = .ok (.sipush 1000, 3) := by decide +kernel
theorem dX5_holds_33 : decode cX5_holds 33 = .ok (.if_icmp .lt 17, 3) := by decide +kernel
theorem dX5_holds_36 : decode cX5_holds 36 = .ok (.aload_n 0, 1) := by decide +kernel
theorem dX5_holds_37 : decode cX5_holds 37 = .ok (.getfield 25, 3) := by decide +kernel
theorem dX5_holds_40 : decode cX5_holds 40 = .ok (.iload 7, 2) := by decide +kernel
theorem dX5_holds_42 : decode cX5_holds 42 = .ok (.sipush 1000, 3) := by decide +kernel
theorem dX5_holds_45 : decode cX5_holds 45 = .ok (.isub, 1) := by decide +kernel
theorem dX5_holds_46 : decode cX5_holds 46 = .ok (.laload, 1) := by decide +kernel
theorem dX5_holds_47 : decode cX5_holds 47 = .ok (.goto 6, 3) := by decide +kernel
theorem dX5_holds_50 : decode cX5_holds 50 = .ok (.iload 7, 2) := by decide +kernel
theorem dX5_holds_52 : decode cX5_holds 52 = .ok (.i2l, 1) := by decide +kernel
theorem dX5_holds_53 : decode cX5_holds 53 = .ok (.lstore 8, 2) := by decide +kernel
theorem dX5_holds_55 : decode cX5_holds 55 = .ok (.iload 6, 2) := by decide +kernel
theorem dX5_holds_57 : decode cX5_holds 57 = .ok (.ifCond .eq 59, 3) := by decide +kernel
theorem dX5_holds_60 : decode cX5_holds 60 = .ok (.iload 6, 2) := by decide +kernel
theorem dX5_holds_62 : decode cX5_holds 62 = .ok (.iconst 1, 1) := by decide +kernel
theorem dX5_holds_63 : decode cX5_holds 63 = .ok (.if_icmp .ne 11, 3) := by decide +kernel
theorem dX5_holds_66 : decode cX5_holds 66 = .ok (.lload 4, 2) := by decide +kernel
theorem dX5_holds_68 : decode cX5_holds 68 = .ok (.lload 8, 2) := by decide +kernel
theorem dX5_holds_70 : decode cX5_holds 70 = .ok (.lcmp, 1) := by decide +kernel
theorem dX5_holds_71 : decode cX5_holds 71 = .ok (.ifCond .eq 45, 3) := by decide +kernel
theorem dX5_holds_74 : decode cX5_holds 74 = .ok (.iload 6, 2) := by decide +kernel
theorem dX5_holds_76 : decode cX5_holds 76 = .ok (.iconst 2, 1) := by decide +kernel
theorem dX5_holds_77 : decode cX5_holds 77 = .ok (.if_icmp .ne 11, 3) := by decide +kernel
theorem dX5_holds_80 : decode cX5_holds 80 = .ok (.lload 4, 2) := by decide +kernel
theorem dX5_holds_82 : decode cX5_holds 82 = .ok (.lload 8, 2) := by decide +kernel
theorem dX5_holds_84 : decode cX5_holds 84 = .ok (.lcmp, 1) := by decide +kernel
theorem dX5_holds_85 : decode cX5_holds 85 = .ok (.ifCond .ne 31, 3) := by decide +kernel
theorem dX5_holds_88 : decode cX5_holds 88 = .ok (.iload 6, 2) := by decide +kernel
theorem dX5_holds_90 : decode cX5_holds 90 = .ok (.iconst 3, 1) := by decide +kernel
theorem dX5_holds_91 : decode cX5_holds 91 = .ok (.if_icmp .ne 11, 3) := by decide +kernel
theorem dX5_holds_94 : decode cX5_holds 94 = .ok (.lload 4, 2) := by decide +kernel
theorem dX5_holds_96 : decode cX5_holds 96 = .ok (.lload 8, 2) := by decide +kernel
theorem dX5_holds_98 : decode cX5_holds 98 = .ok (.lcmp, 1) := by decide +kernel
theorem dX5_holds_99 : decode cX5_holds 99 = .ok (.ifCond .lt 17, 3) := by decide +kernel
theorem dX5_holds_102 : decode cX5_holds 102 = .ok (.iload 6, 2) := by decide +kernel
theorem dX5_holds_104 : decode cX5_holds 104 = .ok (.iconst 4, 1) := by decide +kernel
theorem dX5_holds_105 : decode cX5_holds 105 = .ok (.if_icmp .ne 15, 3) := by decide +kernel
theorem dX5_holds_108 : decode cX5_holds 108 = .ok (.lload 4, 2) := by decide +kernel
theorem dX5_holds_110 : decode cX5_holds 110 = .ok (.lload 8, 2) := by decide +kernel
theorem dX5_holds_112 : decode cX5_holds 112 = .ok (.lcmp, 1) := by decide +kernel
theorem dX5_holds_113 : decode cX5_holds 113 = .ok (.ifCond .le 7, 3) := by decide +kernel
theorem dX5_holds_116 : decode cX5_holds 116 = .ok (.iconst 1, 1) := by decide +kernel
theorem dX5_holds_117 : decode cX5_holds 117 = .ok (.goto 4, 3) := by decide +kernel
theorem dX5_holds_120 : decode cX5_holds 120 = .ok (.iconst 0, 1) := by decide +kernel
theorem dX5_holds_121 : decode cX5_holds 121 = .ok (.ireturn, 1) := by decide +kernel
theorem dX5_set_0 : decode cX5_set 0 = .ok (.iload_n 1, 1) := by decide +kernel
theorem dX5_set_1 : decode cX5_set 1 = .ok (.ifCond .ne 13, 3) := by decide +kernel
theorem dX5_set_4 : decode cX5_set 4 = .ok (.aload_n 0, 1) := by decide +kernel
theorem dX5_set_5 : decode cX5_set 5 = .ok (.getfield 25, 3) := by decide +kernel
theorem dX5_set_8 : decode cX5_set 8 = .ok (.iload_n 2, 1) := by decide +kernel
theorem dX5_set_9 : decode cX5_set 9 = .ok (.lload_n 3, 1) := by decide +kernel
theorem dX5_set_10 : decode cX5_set 10 = .ok (.lastore, 1) := by decide +kernel
theorem dX5_set_11 : decode cX5_set 11 = .ok (.goto 39, 3) := by decide +kernel
theorem dX5_set_14 : decode cX5_set 14 = .ok (.iload_n 1, 1) := by decide +kernel
theorem dX5_set_15 : decode cX5_set 15 = .ok (.iconst 1, 1) := by decide +kernel
theorem dX5_set_16 : decode cX5_set 16 = .ok (.if_icmp .ne 15, 3) := by decide +kernel
theorem dX5_set_19 : decode cX5_set 19 = .ok (.aload_n 0, 1) := by decide +kernel
theorem dX5_set_20 : decode cX5_set 20 = .ok (.getfield 25, 3) := by decide +kernel
theorem dX5_set_23 : decode cX5_set 23 = .ok (.iload_n 2, 1) := by decide +kernel
theorem dX5_set_24 : decode cX5_set 24 = .ok (.iload 5, 2) := by decide +kernel
theorem dX5_set_26 : decode cX5_set 26 = .ok (.i2l, 1) := by decide +kernel
theorem dX5_set_27 : decode cX5_set 27 = .ok (.lastore, 1) := by decide +kernel
theorem dX5_set_28 : decode cX5_set 28 = .ok (.goto 22, 3) := by decide +kernel
theorem dX5_set_31 : decode cX5_set 31 = .ok (.aload_n 0, 1) := by decide +kernel
theorem dX5_set_32 : decode cX5_set 32 = .ok (.getfield 25, 3) := by decide +kernel
theorem dX5_set_35 : decode cX5_set 35 = .ok (.iload_n 2, 1) := by decide +kernel
theorem dX5_set_36 : decode cX5_set 36 = .ok (.dup2, 1) := by decide +kernel
theorem dX5_set_37 : decode cX5_set 37 = .ok (.laload, 1) := by decide +kernel
theorem dX5_set_38 : decode cX5_set 38 = .ok (.iload_n 1, 1) := by decide +kernel
theorem dX5_set_39 : decode cX5_set 39 = .ok (.iconst 2, 1) := by decide +kernel
theorem dX5_set_40 : decode cX5_set 40 = .ok (.if_icmp .ne 7, 3) := by decide +kernel
theorem dX5_set_43 : decode cX5_set 43 = .ok (.lconst 1, 1) := by decide +kernel
theorem dX5_set_44 : decode cX5_set 44 = .ok (.goto 4, 3) := by decide +kernel
theorem dX5_set_47 : decode cX5_set 47 = .ok (.lload_n 3, 1) := by decide +kernel
theorem dX5_set_48 : decode cX5_set 48 = .ok (.ladd, 1) := by decide +kernel
theorem dX5_set_49 : decode cX5_set 49 = .ok (.lastore, 1) := by decide +kernel
theorem dX5_set_50 : decode cX5_set 50 = .ok (.return_, 1) := by decide +kernel
set_option maxRecDepth 20000 in
theorem ggX5_runOver_X5_loopAt : GoodIn wsX5_runOver wsX5_loopAt := goodIn_r _ [6] (by decide +kernel) (by decide +kernel)
set_option maxRecDepth 20000 in
theorem gX5_runOver_X5_loopAt : GoodIn wsX5_runOver (va_wsS RX5 45 yX5_loopAt wsX5_loopAt) := goodIn_app (goodIn_of _ (by decide +kernel)) ggX5_runOver_X5_loopAt
set_option maxRecDepth 20000 in
theorem ggX5_runOver_X5_steps : GoodIn wsX5_runOver wsX5_steps := goodIn_r _ [9, 3, 4, 5, 6] (by decide +kernel) (by decide +kernel)
set_option maxRecDepth 20000 in
theorem gX5_runOver_X5_steps : GoodIn wsX5_runOver (va_wsS RX5 84 yX5_steps wsX5_steps) := goodIn_app (goodIn_of _ (by decide +kernel)) ggX5_runOver_X5_steps
set_option maxRecDepth 20000 in
theorem ggX5_runOver_X5_holds : GoodIn wsX5_runOver wsX5_holds := goodIn_r _ [13, 1, 2, 14, 15, 5, 16, 17, 18, 19, 3, 4, 6, 24, 25, 26, 27, 28, 29, 30, 31, 32, 33, 34] (by decide +kernel) (by decide +kernel)
set_option maxRecDepth 20000 in
theorem gX5_runOver_X5_holds : GoodIn wsX5_runOver (wsV RX5 98 RX5 yX5_holds wsX5_holds) := goodIn_app (goodIn_of _ (by decide +kernel)) ggX5_runOver_X5_holds
set_option maxRecDepth 20000 in
theorem ggX5_runOver_X5_get : GoodIn wsX5_runOver wsX5_get := goodIn_r _ [16, 17, 18, 5, 19, 3, 4, 6] (by decide +kernel) (by decide +kernel)
set_option maxRecDepth 20000 in
theorem gX5_runOver_X5_get : GoodIn wsX5_runOver (va_wsS RX5 88 yX5_get wsX5_get) := goodIn_app (goodIn_of _ (by decide +kernel)) ggX5_runOver_X5_get
set_option maxRecDepth 20000 in
theorem ggX5_runOver_X5_set : GoodIn wsX5_runOver wsX5_set := goodIn_r _ [23, 2, 24, 25, 26, 27, 28, 29, 30, 31, 32, 33, 34] (by decide +kernel) (by decide +kernel)
set_option maxRecDepth 20000 in
theorem gX5_runOver_X5_set : GoodIn wsX5_runOver (wsV RX5 102 RX5 yX5_set wsX5_set) := goodIn_app (goodIn_of _ (by decide +kernel)) ggX5_runOver_X5_set
theorem dX5_runOver_0 : decode cX5_runOver 0 = .ok (.aload_n 0, 1) := by decide +kernel
theorem dX5_runOver_1 : decode cX5_runOver 1 = .ok (.iconst 0, 1) := by decide +kernel
theorem dX5_runOver_2 : decode cX5_runOver 2 = .ok (.putfield 95, 3) := by decide +kernel
theorem dX5_runOver_5 : decode cX5_runOver 5 = .ok (.iconst 0, 1) := by decide +kernel
theorem dX5_runOver_6 : decode cX5_runOver 6 = .ok (.istore 4, 2) := by decide +kernel
theorem dX5_runOver_8 : decode cX5_runOver 8 = .ok (.iload 4, 2) := by decide +kernel
theorem dX5_runOver_10 : decode cX5_runOver 10 = .ok (.iconst 4, 1) := by decide +kernel
theorem dX5_runOver_11 : decode cX5_runOver 11 = .ok (.if_icmp .ge 17, 3) := by decide +kernel
theorem dX5_runOver_14 : decode cX5_runOver 14 = .ok (.aload_n 0, 1) := by decide +kernel
theorem dX5_runOver_15 : decode cX5_runOver 15 = .ok (.getfield 25, 3) := by decide +kernel
theorem dX5_runOver_18 : decode cX5_runOver 18 = .ok (.iload 4, 2) := by decide +kernel
theorem dX5_runOver_20 : decode cX5_runOver 20 = .ok (.lconst 0, 1) := by decide +kernel
theorem dX5_runOver_21 : decode cX5_runOver 21 = .ok (.lastore, 1) := by decide +kernel
theorem dX5_runOver_22 : decode cX5_runOver 22 = .ok (.iinc 4 1, 3) := by decide +kernel
theorem dX5_runOver_25 : decode cX5_runOver 25 = .ok (.goto (-17), 3) := by decide +kernel
theorem dX5_runOver_28 : decode cX5_runOver 28 = .ok (.iconst 0, 1) := by decide +kernel
theorem dX5_runOver_29 : decode cX5_runOver 29 = .ok (.istore 4, 2) := by decide +kernel
theorem dX5_runOver_31 : decode cX5_runOver 31 = .ok (.iload 4, 2) := by decide +kernel
theorem dX5_runOver_33 : decode cX5_runOver 33 = .ok (.aload_n 1, 1) := by decide +kernel
theorem dX5_runOver_34 : decode cX5_runOver 34 = .ok (.iconst 0, 1) := by decide +kernel
theorem dX5_runOver_35 : decode cX5_runOver 35 = .ok (.iaload, 1) := by decide +kernel
theorem dX5_runOver_36 : decode cX5_runOver 36 = .ok (.if_icmp .ge 201, 3) := by decide +kernel
theorem dX5_runOver_39 : decode cX5_runOver 39 = .ok (.aload_n 1, 1) := by decide +kernel
theorem dX5_runOver_40 : decode cX5_runOver 40 = .ok (.iload 4, 2) := by decide +kernel
theorem dX5_runOver_42 : decode cX5_runOver 42 = .ok (.invokestatic 45, 3) := by decide +kernel
theorem dX5_runOver_45 : decode cX5_runOver 45 = .ok (.iaload, 1) := by decide +kernel
theorem dX5_runOver_46 : decode cX5_runOver 46 = .ok (.istore 5, 2) := by decide +kernel
theorem dX5_runOver_48 : decode cX5_runOver 48 = .ok (.iload_n 3, 1) := by decide +kernel
theorem dX5_runOver_49 : decode cX5_runOver 49 = .ok (.iconst 1, 1) := by decide +kernel
theorem dX5_runOver_50 : decode cX5_runOver 50 = .ok (.isub, 1) := by decide +kernel
theorem dX5_runOver_51 : decode cX5_runOver 51 = .ok (.aload_n 1, 1) := by decide +kernel
theorem dX5_runOver_52 : decode cX5_runOver 52 = .ok (.iload 4, 2) := by decide +kernel
theorem dX5_runOver_54 : decode cX5_runOver 54 = .ok (.invokestatic 45, 3) := by decide +kernel
theorem dX5_runOver_57 : decode cX5_runOver 57 = .ok (.iconst 1, 1) := by decide +kernel
theorem dX5_runOver_58 : decode cX5_runOver 58 = .ok (.iadd, 1) := by decide +kernel
theorem dX5_runOver_59 : decode cX5_runOver 59 = .ok (.iaload, 1) := by decide +kernel
theorem dX5_runOver_60 : decode cX5_runOver 60 = .ok (.isub, 1) := by decide +kernel
theorem dX5_runOver_61 : decode cX5_runOver 61 = .ok (.istore 6, 2) := by decide +kernel
theorem dX5_runOver_63 : decode cX5_runOver 63 = .ok (.aload_n 1, 1) := by decide +kernel
theorem dX5_runOver_64 : decode cX5_runOver 64 = .ok (.iload 4, 2) := by decide +kernel
theorem dX5_runOver_66 : decode cX5_runOver 66 = .ok (.invokestatic 45, 3) := by decide +kernel
theorem dX5_runOver_69 : decode cX5_runOver 69 = .ok (.iconst 2, 1) := by decide +kernel
theorem dX5_runOver_70 : decode cX5_runOver 70 = .ok (.iadd, 1) := by decide +kernel
theorem dX5_runOver_71 : decode cX5_runOver 71 = .ok (.iaload, 1) := by decide +kernel
theorem dX5_runOver_72 : decode cX5_runOver 72 = .ok (.iconst 1, 1) := by decide +kernel
theorem dX5_runOver_73 : decode cX5_runOver 73 = .ok (.if_icmp .ne 7, 3) := by decide +kernel
theorem dX5_runOver_76 : decode cX5_runOver 76 = .ok (.iconst 1, 1) := by decide +kernel
theorem dX5_runOver_77 : decode cX5_runOver 77 = .ok (.goto 4, 3) := by decide +kernel
theorem dX5_runOver_80 : decode cX5_runOver 80 = .ok (.iconst 0, 1) := by decide +kernel
theorem dX5_runOver_81 : decode cX5_runOver 81 = .ok (.istore 7, 2) := by decide +kernel
theorem dX5_runOver_83 : decode cX5_runOver 83 = .ok (.iconst 0, 1) := by decide +kernel
theorem dX5_runOver_84 : decode cX5_runOver 84 = .ok (.istore 8, 2) := by decide +kernel
theorem dX5_runOver_86 : decode cX5_runOver 86 = .ok (.iconst 0, 1) := by decide +kernel
theorem dX5_runOver_87 : decode cX5_runOver 87 = .ok (.istore 9, 2) := by decide +kernel
theorem dX5_runOver_89 : decode cX5_runOver 89 = .ok (.iload 9, 2) := by decide +kernel
theorem dX5_runOver_91 : decode cX5_runOver 91 = .ok (.iload 6, 2) := by decide +kernel
theorem dX5_runOver_93 : decode cX5_runOver 93 = .ok (.iload 5, 2) := by decide +kernel
theorem dX5_runOver_95 : decode cX5_runOver 95 = .ok (.isub, 1) := by decide +kernel
theorem dX5_runOver_96 : decode cX5_runOver 96 = .ok (.if_icmp .gt 135, 3) := by decide +kernel
theorem dX5_runOver_99 : decode cX5_runOver 99 = .ok (.iload 8, 2) := by decide +kernel
theorem dX5_runOver_101 : decode cX5_runOver 101 = .ok (.ifCond .ne 130, 3) := by decide +kernel
theorem dX5_runOver_104 : decode cX5_runOver 104 = .ok (.iload 7, 2) := by decide +kernel
theorem dX5_runOver_106 : decode cX5_runOver 106 = .ok (.ifCond .eq 11, 3) := by decide +kernel
theorem dX5_runOver_109 : decode cX5_runOver 109 = .ok (.iload 5, 2) := by decide +kernel
theorem dX5_runOver_111 : decode cX5_runOver 111 = .ok (.iload 9, 2) := by decide +kernel
theorem dX5_runOver_113 : decode cX5_runOver 113 = .ok (.iadd, 1) := by decide +kernel
theorem dX5_runOver_114 : decode cX5_runOver 114 = .ok (.goto 8, 3) := by decide +kernel
theorem dX5_runOver_117 : decode cX5_runOver 117 = .ok (.iload 6, 2) := by decide +kernel
theorem dX5_runOver_119 : decode cX5_runOver 119 = .ok (.iload 9, 2) := by decide +kernel
theorem dX5_runOver_121 : decode cX5_runOver 121 = .ok (.isub, 1) := by decide +kernel
theorem dX5_runOver_122 : decode cX5_runOver 122 = .ok (.istore 10, 2) := by decide +kernel
theorem dX5_runOver_124 : decode cX5_runOver 124 = .ok (.iconst 0, 1) := by decide +kernel
theorem dX5_runOver_125 : decode cX5_runOver 125 = .ok (.istore 11, 2) := by decide +kernel
theorem dX5_runOver_127 : decode cX5_runOver 127 = .ok (.iload 11, 2) := by decide +kernel
theorem dX5_runOver_129 : decode cX5_runOver 129 = .ok (.aload_n 1, 1) := by decide +kernel
theorem dX5_runOver_130 : decode cX5_runOver 130 = .ok (.iload 4, 2) := by decide +kernel
theorem dX5_runOver_132 : decode cX5_runOver 132 = .ok (.invokestatic 84, 3) := by decide +kernel
theorem dX5_runOver_135 : decode cX5_runOver 135 = .ok (.if_icmp .ge 90, 3) := by decide +kernel
theorem dX5_runOver_138 : decode cX5_runOver 138 = .ok (.iload 8, 2) := by decide +kernel
theorem dX5_runOver_140 : decode cX5_runOver 140 = .ok (.ifCond .ne 85, 3) := by decide +kernel
theorem dX5_runOver_143 : decode cX5_runOver 143 = .ok (.aload_n 0, 1) := by decide +kernel
theorem dX5_runOver_144 : decode cX5_runOver 144 = .ok (.aload_n 1, 1) := by decide +kernel
theorem dX5_runOver_145 : decode cX5_runOver 145 = .ok (.iload 4, 2) := by decide +kernel
theorem dX5_runOver_147 : decode cX5_runOver 147 = .ok (.iload 11, 2) := by decide +kernel
theorem dX5_runOver_149 : decode cX5_runOver 149 = .ok (.aload_n 2, 1) := by decide +kernel
theorem dX5_runOver_150 : decode cX5_runOver 150 = .ok (.iload 10, 2) := by decide +kernel
theorem dX5_runOver_152 : decode cX5_runOver 152 = .ok (.laload, 1) := by decide +kernel
theorem dX5_runOver_153 : decode cX5_runOver 153 = .ok (.invokevirtual 98, 3) := by decide +kernel
theorem dX5_runOver_156 : decode cX5_runOver 156 = .ok (.ifCond .ne 6, 3) := by decide +kernel
theorem dX5_runOver_159 : decode cX5_runOver 159 = .ok (.goto 60, 3) := by decide +kernel
theorem dX5_runOver_162 : decode cX5_runOver 162 = .ok (.aload_n 1, 1) := by decide +kernel
theorem dX5_runOver_163 : decode cX5_runOver 163 = .ok (.iload 4, 2) := by decide +kernel
theorem dX5_runOver_165 : decode cX5_runOver 165 = .ok (.iload 11, 2) := by decide +kernel
theorem dX5_runOver_167 : decode cX5_runOver 167 = .ok (.iconst 2, 1) := by decide +kernel
theorem dX5_runOver_168 : decode cX5_runOver 168 = .ok (.invokestatic 88, 3) := by decide +kernel
theorem dX5_runOver_171 : decode cX5_runOver 171 = .ok (.istore 12, 2) := by decide +kernel
theorem dX5_runOver_173 : decode cX5_runOver 173 = .ok (.aload_n 1, 1) := by decide +kernel
theorem dX5_runOver_174 : decode cX5_runOver 174 = .ok (.iload 4, 2) := by decide +kernel
theorem dX5_runOver_176 : decode cX5_runOver 176 = .ok (.iload 11, 2) := by decide +kernel
theorem dX5_runOver_178 : decode cX5_runOver 178 = .ok (.iconst 3, 1) := by decide +kernel
theorem dX5_runOver_179 : decode cX5_runOver 179 = .ok (.invokestatic 88, 3) := by decide +kernel
theorem dX5_runOver_182 : decode cX5_runOver 182 = .ok (.istore 13, 2) := by decide +kernel
theorem dX5_runOver_184 : decode cX5_runOver 184 = .ok (.iload 12, 2) := by decide +kernel
theorem dX5_runOver_186 : decode cX5_runOver 186 = .ok (.iconst 5, 1) := by decide +kernel
theorem dX5_runOver_187 : decode cX5_runOver 187 = .ok (.if_icmp .ne 6, 3) := by decide +kernel
theorem dX5_runOver_190 : decode cX5_runOver 190 = .ok (.iload 13, 2) := by decide +kernel
theorem dX5_runOver_192 : decode cX5_runOver 192 = .ok (.ireturn, 1) := by decide +kernel
theorem dX5_runOver_193 : decode cX5_runOver 193 = .ok (.iload 12, 2) := by decide +kernel
theorem dX5_runOver_195 : decode cX5_runOver 195 = .ok (.iconst 4, 1) := by decide +kernel
theorem dX5_runOver_196 : decode cX5_runOver 196 = .ok (.if_icmp .ne 9, 3) := by decide +kernel
theorem dX5_runOver_199 : decode cX5_runOver 199 = .ok (.iconst 1, 1) := by decide +kernel
theorem dX5_runOver_200 : decode cX5_runOver 200 = .ok (.istore 8, 2) := by decide +kernel
theorem dX5_runOver_202 : decode cX5_runOver 202 = .ok (.goto 17, 3) := by decide +kernel
theorem dX5_runOver_205 : decode cX5_runOver 205 = .ok (.aload_n 0, 1) := by decide +kernel
theorem dX5_runOver_206 : decode cX5_runOver 206 = .ok (.iload 12, 2) := by decide +kernel
theorem dX5_runOver_208 : decode cX5_runOver 208 = .ok (.iload 13, 2) := by decide +kernel
theorem dX5_runOver_210 : decode cX5_runOver 210 = .ok (.aload_n 2, 1) := by decide +kernel
theorem dX5_runOver_211 : decode cX5_runOver 211 = .ok (.iload 10, 2) := by decide +kernel
theorem dX5_runOver_213 : decode cX5_runOver 213 = .ok (.laload, 1) := by decide +kernel
theorem dX5_runOver_214 : decode cX5_runOver 214 = .ok (.iload 10, 2) := by decide +kernel
theorem dX5_runOver_216 : decode cX5_runOver 216 = .ok (.invokevirtual 102, 3) := by decide +kernel
theorem dX5_runOver_219 : decode cX5_runOver 219 = .ok (.iinc 11 1, 3) := by decide +kernel
theorem dX5_runOver_222 : decode cX5_runOver 222 = .ok (.goto (-95), 3) := by decide +kernel
theorem dX5_runOver_225 : decode cX5_runOver 225 = .ok (.iinc 9 1, 3) := by decide +kernel
theorem dX5_runOver_228 : decode cX5_runOver 228 = .ok (.goto (-139), 3) := by decide +kernel
theorem dX5_runOver_231 : decode cX5_runOver 231 = .ok (.iinc 4 1, 3) := by decide +kernel
theorem dX5_runOver_234 : decode cX5_runOver 234 = .ok (.goto (-203), 3) := by decide +kernel
theorem dX5_runOver_237 : decode cX5_runOver 237 = .ok (.iconst (-1), 1) := by decide +kernel
theorem dX5_runOver_238 : decode cX5_runOver 238 = .ok (.ireturn, 1) := by decide +kernel
set_option maxRecDepth 20000 in
theorem ggX5_run_X5_isProgram : GoodIn wsX5_run wsX5_isProgram := goodIn_r _ [16, 17, 18, 19, 15, 20, 49, 50, 51, 52, 53, 54, 55, 56, 57, 58, 59] (by decide +kernel) (by decide +kernel)
set_option maxRecDepth 20000 in
theorem gX5_run_X5_isProgram : GoodIn wsX5_run (wsV RX5 53 RX5 yX5_isProgram wsX5_isProgram) := goodIn_app (goodIn_of _ (by decide +kernel)) ggX5_run_X5_isProgram
set_option maxRecDepth 20000 in
theorem ggX5_run_X5_fail : GoodIn wsX5_run wsX5_fail := goodIn_r _ [24, 1, 49, 50, 51, 52, 53, 54, 55, 56, 57, 58, 59] (by decide +kernel) (by decide +kernel)
set_option maxRecDepth 20000 in
theorem gX5_run_X5_fail : GoodIn wsX5_run (wsV RX5 57 RX5 yX5_fail wsX5_fail) := goodIn_app (goodIn_of _ (by decide +kernel)) ggX5_run_X5_fail
set_option maxRecDepth 20000 in
theorem ggX5_run_X5_runOver : GoodIn wsX5_run wsX5_runOver := goodIn_r _ [28, 11, 5, 29, 30, 15, 31, 32, 33, 34, 35, 36, 37, 38, 39, 40, 41, 42, 43, 44, 45, 46, 47, 48, 49, 50, 51, 52, 53, 54, 55, 56, 57, 58, 59] (by decide +kernel) (by decide +kernel)
set_option maxRecDepth 20000 in
theorem gX5_run_X5_runOver : GoodIn wsX5_run (wsV RX5 106 RX5 yX5_runOver wsX5_runOver) := goodIn_app (goodIn_of _ (by decide +kernel)) ggX5_run_X5_runOver
theorem dX5_run_0 : decode cX5_run 0 = .ok (.aload_n 0, 1) := by decide +kernel
theorem dX5_run_1 : decode cX5_run 1 = .ok (.iconst 0, 1) := by decide +kernel
theorem dX5_run_2 : decode cX5_run 2 = .ok (.putfield 34, 3) := by decide +kernel
theorem dX5_run_5 : decode cX5_run 5 = .ok (.aload_n 0, 1) := by decide +kernel
theorem dX5_run_6 : decode cX5_run 6 = .ok (.iload_n 1, 1) := by decide +kernel
theorem dX5_run_7 : decode cX5_run 7 = .ok (.invokevirtual 53, 3) := by decide +kernel
theorem dX5_run_10 : decode cX5_run 10 = .ok (.ifCond .ne 9, 3) := by decide +kernel
theorem dX5_run_13 : decode cX5_run 13 = .ok (.aload_n 0, 1) := by decide +kernel
theorem dX5_run_14 : decode cX5_run 14 = .ok (.iconst 1, 1) := by decide +kernel
theorem dX5_run_15 : decode cX5_run 15 = .ok (.invokevirtual 57, 3) := by decide +kernel
theorem dX5_run_18 : decode cX5_run 18 = .ok (.ireturn, 1) := by decide +kernel
theorem dX5_run_19 : decode cX5_run 19 = .ok (.aload_n 0, 1) := by decide +kernel
theorem dX5_run_20 : decode cX5_run 20 = .ok (.aload_n 0, 1) := by decide +kernel
theorem dX5_run_21 : decode cX5_run 21 = .ok (.getfield 11, 3) := by decide +kernel
theorem dX5_run_24 : decode cX5_run 24 = .ok (.iload_n 1, 1) := by decide +kernel
theorem dX5_run_25 : decode cX5_run 25 = .ok (.aaload, 1) := by decide +kernel
theorem dX5_run_26 : decode cX5_run 26 = .ok (.aload_n 0, 1) := by decide +kernel
theorem dX5_run_27 : decode cX5_run 27 = .ok (.getfield 18, 3) := by decide +kernel
theorem dX5_run_30 : decode cX5_run 30 = .ok (.aload_n 0, 1) := by decide +kernel
theorem dX5_run_31 : decode cX5_run 31 = .ok (.getfield 92, 3) := by decide +kernel
theorem dX5_run_34 : decode cX5_run 34 = .ok (.invokevirtual 106, 3) := by decide +kernel
theorem dX5_run_37 : decode cX5_run 37 = .ok (.istore_n 2, 1) := by decide +kernel
theorem dX5_run_38 : decode cX5_run 38 = .ok (.aload_n 0, 1) := by decide +kernel
theorem dX5_run_39 : decode cX5_run 39 = .ok (.getfield 25, 3) := by decide +kernel
theorem dX5_run_42 : decode cX5_run 42 = .ok (.iconst 0, 1) := by decide +kernel
theorem dX5_run_43 : decode cX5_run 43 = .ok (.aload_n 0, 1) := by decide +kernel
theorem dX5_run_44 : decode cX5_run 44 = .ok (.getfield 28, 3) := by decide +kernel
theorem dX5_run_47 : decode cX5_run 47 = .ok (.iconst 0, 1) := by decide +kernel
theorem dX5_run_48 : decode cX5_run 48 = .ok (.iconst 4, 1) := by decide +kernel
theorem dX5_run_49 : decode cX5_run 49 = .ok (.invokestatic 62, 3) := by decide +kernel
theorem dX5_run_52 : decode cX5_run 52 = .ok (.aload_n 0, 1) := by decide +kernel
theorem dX5_run_53 : decode cX5_run 53 = .ok (.getfield 28, 3) := by decide +kernel
theorem dX5_run_56 : decode cX5_run 56 = .ok (.iconst 4, 1) := by decide +kernel
theorem dX5_run_57 : decode cX5_run 57 = .ok (.aload_n 0, 1) := by decide +kernel
theorem dX5_run_58 : decode cX5_run 58 = .ok (.getfield 95, 3) := by decide +kernel
theorem dX5_run_61 : decode cX5_run 61 = .ok (.i2l, 1) := by decide +kernel
theorem dX5_run_62 : decode cX5_run 62 = .ok (.lastore, 1) := by decide +kernel
theorem dX5_run_63 : decode cX5_run 63 = .ok (.iload_n 2, 1) := by decide +kernel
theorem dX5_run_64 : decode cX5_run 64 = .ok (.ireturn, 1) := by decide +kernel
set_option maxRecDepth 20000 in
theorem ggX5_ran_X5_isIn : GoodIn wsX5_ran wsX5_isIn := goodIn_r _ [7] (by decide +kernel) (by decide +kernel)
set_option maxRecDepth 20000 in
theorem gX5_ran_X5_isIn : GoodIn wsX5_ran (va_wsS RX5 41 yX5_isIn wsX5_isIn) := goodIn_app (goodIn_of _ (by decide +kernel)) ggX5_ran_X5_isIn
theorem dX5_ran_0 : decode cX5_ran 0 = .ok (.aload_n 0, 1) := by decide +kernel
theorem dX5_ran_1 : decode cX5_ran 1 = .ok (.iload_n 1, 1) := by decide +kernel
theorem dX5_ran_2 : decode cX5_ran 2 = .ok (.i2l, 1) := by decide +kernel
theorem dX5_ran_3 : decode cX5_ran 3 = .ok (.lconst 0, 1) := by decide +kernel
theorem dX5_ran_4 : decode cX5_ran 4 = .ok (.ldc2_w 80, 3) := by decide +kernel
theorem dX5_ran_7 : decode cX5_ran 7 = .ok (.invokestatic 41, 3) := by decide +kernel
theorem dX5_ran_10 : decode cX5_ran 10 = .ok (.ifCond .eq 7, 3) := by decide +kernel
theorem dX5_ran_13 : decode cX5_ran 13 = .ok (.iconst 0, 1) := by decide +kernel
theorem dX5_ran_14 : decode cX5_ran 14 = .ok (.goto 4, 3) := by decide +kernel
theorem dX5_ran_17 : decode cX5_ran 17 = .ok (.iconst 1, 1) := by decide +kernel
theorem dX5_ran_18 : decode cX5_ran 18 = .ok (.putfield 34, 3) := by decide +kernel
theorem dX5_ran_21 : decode cX5_ran 21 = .ok (.aload_n 0, 1) := by decide +kernel
theorem dX5_ran_22 : decode cX5_ran 22 = .ok (.getfield 34, 3) := by decide +kernel
theorem dX5_ran_25 : decode cX5_ran 25 = .ok (.ifCond .ne 12, 3) := by decide +kernel
theorem dX5_ran_28 : decode cX5_ran 28 = .ok (.aload_n 0, 1) := by decide +kernel
theorem dX5_ran_29 : decode cX5_ran 29 = .ok (.getfield 28, 3) := by decide +kernel
theorem dX5_ran_32 : decode cX5_ran 32 = .ok (.iload_n 1, 1) := by decide +kernel
theorem dX5_ran_33 : decode cX5_ran 33 = .ok (.laload, 1) := by decide +kernel
theorem dX5_ran_34 : decode cX5_ran 34 = .ok (.goto 4, 3) := by decide +kernel
theorem dX5_ran_37 : decode cX5_ran 37 = .ok (.lconst 0, 1) := by decide +kernel
theorem dX5_ran_38 : decode cX5_ran 38 = .ok (.lreturn, 1) := by decide +kernel
set_option maxRecDepth 20000 in
theorem ggX5_has_X5_get : GoodIn wsX5_has wsX5_get := goodIn_r _ [4, 5, 6, 3, 7, 8, 9, 10] (by decide +kernel) (by decide +kernel)
set_option maxRecDepth 20000 in
theorem gX5_has_X5_get : GoodIn wsX5_has (va_wsS RX5 88 yX5_get wsX5_get) := goodIn_app (goodIn_of _ (by decide +kernel)) ggX5_has_X5_get
theorem dX5_has_0 : decode cX5_has 0 = .ok (.iconst 0, 1) := by decide +kernel
theorem dX5_has_1 : decode cX5_has 1 = .ok (.istore 5, 2) := by decide +kernel
theorem dX5_has_3 : decode cX5_has 3 = .ok (.iload_n 2, 1) := by decide +kernel
theorem dX5_has_4 : decode cX5_has 4 = .ok (.istore 6, 2) := by decide +kernel
theorem dX5_has_6 : decode cX5_has 6 = .ok (.iload 6, 2) := by decide +kernel
theorem dX5_has_8 : decode cX5_has 8 = .ok (.iload_n 3, 1) := by decide +kernel
theorem dX5_has_9 : decode cX5_has 9 = .ok (.if_icmp .ge 34, 3) := by decide +kernel
theorem dX5_has_12 : decode cX5_has 12 = .ok (.iload 5, 2) := by decide +kernel
theorem dX5_has_14 : decode cX5_has 14 = .ok (.ifCond .ne 16, 3) := by decide +kernel
theorem dX5_has_17 : decode cX5_has 17 = .ok (.aload_n 0, 1) := by decide +kernel
theorem dX5_has_18 : decode cX5_has 18 = .ok (.iload_n 1, 1) := by decide +kernel
theorem dX5_has_19 : decode cX5_has 19 = .ok (.iload 6, 2) := by decide +kernel
theorem dX5_has_21 : decode cX5_has 21 = .ok (.iconst 2, 1) := by decide +kernel
theorem dX5_has_22 : decode cX5_has 22 = .ok (.invokestatic 88, 3) := by decide +kernel
theorem dX5_has_25 : decode cX5_has 25 = .ok (.iload 4, 2) := by decide +kernel
theorem dX5_has_27 : decode cX5_has 27 = .ok (.if_icmp .ne 7, 3) := by decide +kernel
theorem dX5_has_30 : decode cX5_has 30 = .ok (.iconst 1, 1) := by decide +kernel
theorem dX5_has_31 : decode cX5_has 31 = .ok (.goto 4, 3) := by decide +kernel
theorem dX5_has_34 : decode cX5_has 34 = .ok (.iconst 0, 1) := by decide +kernel
theorem dX5_has_35 : decode cX5_has 35 = .ok (.istore 5, 2) := by decide +kernel
theorem dX5_has_37 : decode cX5_has 37 = .ok (.iinc 6 1, 3) := by decide +kernel
theorem dX5_has_40 : decode cX5_has 40 = .ok (.goto (-34), 3) := by decide +kernel
theorem dX5_has_43 : decode cX5_has 43 = .ok (.iload 5, 2) := by decide +kernel
theorem dX5_has_45 : decode cX5_has 45 = .ok (.ireturn, 1) := by decide +kernel
set_option maxRecDepth 20000 in
theorem ggX5_has__X5_steps : GoodIn wsX5_has_ wsX5_steps := goodIn_r _ [4, 5, 6, 3, 7] (by decide +kernel) (by decide +kernel)
set_option maxRecDepth 20000 in
theorem gX5_has__X5_steps : GoodIn wsX5_has_ (va_wsS RX5 84 yX5_steps wsX5_steps) := goodIn_app (goodIn_of _ (by decide +kernel)) ggX5_has__X5_steps
set_option maxRecDepth 20000 in
theorem ggX5_has__X5_has : GoodIn wsX5_has_ wsX5_has := goodIn_r _ [10, 11, 12, 3, 13, 14, 15, 16, 5, 6, 7] (by decide +kernel) (by decide +kernel)
set_option maxRecDepth 20000 in
theorem gX5_has__X5_has : GoodIn wsX5_has_ (va_wsS RX5 110 yX5_has wsX5_has) := goodIn_app (goodIn_of _ (by decide +kernel)) ggX5_has__X5_has
theorem dX5_has__0 : decode cX5_has_ 0 = .ok (.aload_n 0, 1) := by decide +kernel
theorem dX5_has__1 : decode cX5_has_ 1 = .ok (.iload_n 1, 1) := by decide +kernel
theorem dX5_has__2 : decode cX5_has_ 2 = .ok (.iconst 0, 1) := by decide +kernel
theorem dX5_has__3 : decode cX5_has_ 3 = .ok (.aload_n 0, 1) := by decide +kernel
theorem dX5_has__4 : decode cX5_has_ 4 = .ok (.iload_n 1, 1) := by decide +kernel
theorem dX5_has__5 : decode cX5_has_ 5 = .ok (.invokestatic 84, 3) := by decide +kernel
theorem dX5_has__8 : decode cX5_has_ 8 = .ok (.iload_n 2, 1) := by decide +kernel
theorem dX5_has__9 : decode cX5_has_ 9 = .ok (.invokestatic 110, 3) := by decide +kernel
theorem dX5_has__12 : decode cX5_has_ 12 = .ok (.ireturn, 1) := by decide +kernel
set_option maxRecDepth 20000 in
theorem ggX5_effects_X5_get : GoodIn wsX5_effects wsX5_get := goodIn_r _ [4, 5, 6, 3, 7, 8, 9, 10] (by decide +kernel) (by decide +kernel)
set_option maxRecDepth 20000 in
theorem gX5_effects_X5_get : GoodIn wsX5_effects (va_wsS RX5 88 yX5_get wsX5_get) := goodIn_app (goodIn_of _ (by decide +kernel)) ggX5_effects_X5_get
theorem dX5_effects_0 : decode cX5_effects 0 = .ok (.iconst 0, 1) := by decide +kernel
theorem dX5_effects_1 : decode cX5_effects 1 = .ok (.istore 4, 2) := by decide +kernel
theorem dX5_effects_3 : decode cX5_effects 3 = .ok (.iload_n 2, 1) := by decide +kernel
theorem dX5_effects_4 : decode cX5_effects 4 = .ok (.istore 5, 2) := by decide +kernel
theorem dX5_effects_6 : decode cX5_effects 6 = .ok (.iload 5, 2) := by decide +kernel
theorem dX5_effects_8 : decode cX5_effects 8 = .ok (.iload_n 3, 1) := by decide +kernel
theorem dX5_effects_9 : decode cX5_effects 9 = .ok (.if_icmp .ge 113, 3) := by decide +kernel
theorem dX5_effects_12 : decode cX5_effects 12 = .ok (.aload_n 0, 1) := by decide +kernel
theorem dX5_effects_13 : decode cX5_effects 13 = .ok (.iload_n 1, 1) := by decide +kernel
theorem dX5_effects_14 : decode cX5_effects 14 = .ok (.iload 5, 2) := by decide +kernel
theorem dX5_effects_16 : decode cX5_effects 16 = .ok (.iconst 2, 1) := by decide +kernel
theorem dX5_effects_17 : decode cX5_effects 17 = .ok (.invokestatic 88, 3) := by decide +kernel
theorem dX5_effects_20 : decode cX5_effects 20 = .ok (.istore 6, 2) := by decide +kernel
theorem dX5_effects_22 : decode cX5_effects 22 = .ok (.iconst 1, 1) := by decide +kernel
theorem dX5_effects_23 : decode cX5_effects 23 = .ok (.aload_n 0, 1) := by decide +kernel
theorem dX5_effects_24 : decode cX5_effects 24 = .ok (.iload_n 1, 1) := by decide +kernel
theorem dX5_effects_25 : decode cX5_effects 25 = .ok (.iload 5, 2) := by decide +kernel
theorem dX5_effects_27 : decode cX5_effects 27 = .ok (.iconst 3, 1) := by decide +kernel
theorem dX5_effects_28 : decode cX5_effects 28 = .ok (.invokestatic 88, 3) := by decide +kernel
theorem dX5_effects_31 : decode cX5_effects 31 = .ok (.iconst 4, 1) := by decide +kernel
theorem dX5_effects_32 : decode cX5_effects 32 = .ok (.irem, 1) := by decide +kernel
theorem dX5_effects_33 : decode cX5_effects 33 = .ok (.ishl, 1) := by decide +kernel
theorem dX5_effects_34 : decode cX5_effects 34 = .ok (.istore 7, 2) := by decide +kernel
theorem dX5_effects_36 : decode cX5_effects 36 = .ok (.iload 6, 2) := by decide +kernel
theorem dX5_effects_38 : decode cX5_effects 38 = .ok (.iconst 4, 1) := by decide +kernel
theorem dX5_effects_39 : decode cX5_effects 39 = .ok (.if_icmp .ge 10, 3) := by decide +kernel
theorem dX5_effects_42 : decode cX5_effects 42 = .ok (.iload 4, 2) := by decide +kernel
theorem dX5_effects_44 : decode cX5_effects 44 = .ok (.iload 7, 2) := by decide +kernel
theorem dX5_effects_46 : decode cX5_effects 46 = .ok (.ior, 1) := by decide +kernel
theorem dX5_effects_47 : decode cX5_effects 47 = .ok (.istore 4, 2) := by decide +kernel
theorem dX5_effects_49 : decode cX5_effects 49 = .ok (.iload 6, 2) := by decide +kernel
theorem dX5_effects_51 : decode cX5_effects 51 = .ok (.iconst 2, 1) := by decide +kernel
theorem dX5_effects_52 : decode cX5_effects 52 = .ok (.if_icmp .lt 19, 3) := by decide +kernel
theorem dX5_effects_55 : decode cX5_effects 55 = .ok (.iload 6, 2) := by decide +kernel
theorem dX5_effects_57 : decode cX5_effects 57 = .ok (.iconst 4, 1) := by decide +kernel
theorem dX5_effects_58 : decode cX5_effects 58 = .ok (.if_icmp .ge 13, 3) := by decide +kernel
theorem dX5_effects_61 : decode cX5_effects 61 = .ok (.iload 4, 2) := by decide +kernel
theorem dX5_effects_63 : decode cX5_effects 63 = .ok (.bipush 16, 2) := by decide +kernel
theorem dX5_effects_65 : decode cX5_effects 65 = .ok (.iload 7, 2) := by decide +kernel
theorem dX5_effects_67 : decode cX5_effects 67 = .ok (.imul, 1) := by decide +kernel
theorem dX5_effects_68 : decode cX5_effects 68 = .ok (.ior, 1) := by decide +kernel
theorem dX5_effects_69 : decode cX5_effects 69 = .ok (.istore 4, 2) := by decide +kernel
theorem dX5_effects_71 : decode cX5_effects 71 = .ok (.aload_n 0, 1) := by decide +kernel
theorem dX5_effects_72 : decode cX5_effects 72 = .ok (.iload_n 1, 1) := by decide +kernel
theorem dX5_effects_73 : decode cX5_effects 73 = .ok (.iload 5, 2) := by decide +kernel
theorem dX5_effects_75 : decode cX5_effects 75 = .ok (.iconst 0, 1) := by decide +kernel
theorem dX5_effects_76 : decode cX5_effects 76 = .ok (.invokestatic 88, 3) := by decide +kernel
theorem dX5_effects_79 : decode cX5_effects 79 = .ok (.ifCond .eq 37, 3) := by decide +kernel
theorem dX5_effects_82 : decode cX5_effects 82 = .ok (.aload_n 0, 1) := by decide +kernel
theorem dX5_effects_83 : decode cX5_effects 83 = .ok (.iload_n 1, 1) := by decide +kernel
theorem dX5_effects_84 : decode cX5_effects 84 = .ok (.iload 5, 2) := by decide +kernel
theorem dX5_effects_86 : decode cX5_effects 86 = .ok (.iconst 1, 1) := by decide +kernel
theorem dX5_effects_87 : decode cX5_effects 87 = .ok (.invokestatic 88, 3) := by decide +kernel
theorem dX5_effects_90 : decode cX5_effects 90 = .ok (.sipush 1000, 3) := by decide +kernel
theorem dX5_effects_93 : decode cX5_effects 93 = .ok (.if_icmp .lt 23, 3) := by decide +kernel
theorem dX5_effects_96 : decode cX5_effects 96 = .ok (.iload 4, 2) := by decide +kernel
theorem dX5_effects_98 : decode cX5_effects 98 = .ok (.bipush 16, 2) := by decide +kernel
theorem dX5_effects_100 : decode cX5_effects 100 = .ok (.aload_n 0, 1) := by decide +kernel
theorem dX5_effects_101 : decode cX5_effects 101 = .ok (.iload_n 1, 1) := by decide +kernel
theorem dX5_effects_102 : decode cX5_effects 102 = .ok (.iload 5, 2) := by decide +kernel
theorem dX5_effects_104 : decode cX5_effects 104 = .ok (.iconst 1, 1) := by decide +kernel
theorem dX5_effects_105 : decode cX5_effects 105 = .ok (.invokestatic 88, 3) := by decide +kernel
theorem dX5_effects_108 : decode cX5_effects 108 = .ok (.sipush 1000, 3) := by decide +kernel
theorem dX5_effects_111 : decode cX5_effects 111 = .ok (.isub, 1) := by decide +kernel
theorem dX5_effects_112 : decode cX5_effects 112 = .ok (.ishl, 1) := by decide +kernel
theorem dX5_effects_113 : decode cX5_effects 113 = .ok (.ior, 1) := by decide +kernel
theorem dX5_effects_114 : decode cX5_effects 114 = .ok (.istore 4, 2) := by decide +kernel
theorem dX5_effects_116 : decode cX5_effects 116 = .ok (.iinc 5 1, 3) := by decide +kernel
theorem dX5_effects_119 : decode cX5_effects 119 = .ok (.goto (-113), 3) := by decide +kernel
theorem dX5_effects_122 : decode cX5_effects 122 = .ok (.iload 4, 2) := by decide +kernel
theorem dX5_effects_124 : decode cX5_effects 124 = .ok (.ireturn, 1) := by decide +kernel
theorem dX5_areApart_0 : decode cX5_areApart 0 = .ok (.iload_n 0, 1) := by decide +kernel
theorem dX5_areApart_1 : decode cX5_areApart 1 = .ok (.bipush 15, 2) := by decide +kernel
theorem dX5_areApart_3 : decode cX5_areApart 3 = .ok (.iand, 1) := by decide +kernel
theorem dX5_areApart_4 : decode cX5_areApart 4 = .ok (.iload_n 1, 1) := by decide +kernel
theorem dX5_areApart_5 : decode cX5_areApart 5 = .ok (.iload_n 1, 1) := by decide +kernel
theorem dX5_areApart_6 : decode cX5_areApart 6 = .ok (.iconst 4, 1) := by decide +kernel
theorem dX5_areApart_7 : decode cX5_areApart 7 = .ok (.ishr, 1) := by decide +kernel
theorem dX5_areApart_8 : decode cX5_areApart 8 = .ok (.ior, 1) := by decide +kernel
theorem dX5_areApart_9 : decode cX5_areApart 9 = .ok (.iand, 1) := by decide +kernel
theorem dX5_areApart_10 : decode cX5_areApart 10 = .ok (.ifCond .ne 20, 3) := by decide +kernel
theorem dX5_areApart_13 : decode cX5_areApart 13 = .ok (.iload_n 1, 1) := by decide +kernel
theorem dX5_areApart_14 : decode cX5_areApart 14 = .ok (.bipush 15, 2) := by decide +kernel
theorem dX5_areApart_16 : decode cX5_areApart 16 = .ok (.iand, 1) := by decide +kernel
theorem dX5_areApart_17 : decode cX5_areApart 17 = .ok (.iload_n 0, 1) := by decide +kernel
theorem dX5_areApart_18 : decode cX5_areApart 18 = .ok (.iload_n 0, 1) := by decide +kernel
theorem dX5_areApart_19 : decode cX5_areApart 19 = .ok (.iconst 4, 1) := by decide +kernel
theorem dX5_areApart_20 : decode cX5_areApart 20 = .ok (.ishr, 1) := by decide +kernel
theorem dX5_areApart_21 : decode cX5_areApart 21 = .ok (.ior, 1) := by decide +kernel
theorem dX5_areApart_22 : decode cX5_areApart 22 = .ok (.iand, 1) := by decide +kernel
theorem dX5_areApart_23 : decode cX5_areApart 23 = .ok (.ifCond .ne 7, 3) := by decide +kernel
theorem dX5_areApart_26 : decode cX5_areApart 26 = .ok (.iconst 1, 1) := by decide +kernel
theorem dX5_areApart_27 : decode cX5_areApart 27 = .ok (.goto 4, 3) := by decide +kernel
theorem dX5_areApart_30 : decode cX5_areApart 30 = .ok (.iconst 0, 1) := by decide +kernel
theorem dX5_areApart_31 : decode cX5_areApart 31 = .ok (.ireturn, 1) := by decide +kernel
set_option maxRecDepth 20000 in
theorem ggX5_areApart__X5_steps : GoodIn wsX5_areApart_ wsX5_steps := goodIn_r _ [4, 5, 6, 3, 7] (by decide +kernel) (by decide +kernel)
set_option maxRecDepth 20000 in
theorem gX5_areApart__X5_steps : GoodIn wsX5_areApart_ (va_wsS RX5 84 yX5_steps wsX5_steps) := goodIn_app (goodIn_of _ (by decide +kernel)) ggX5_areApart__X5_steps
set_option maxRecDepth 20000 in
theorem ggX5_areApart__X5_effects : GoodIn wsX5_areApart_ wsX5_effects := goodIn_r _ [10, 11, 12, 3, 13, 14, 15, 16, 5, 6, 7] (by decide +kernel) (by decide +kernel)
set_option maxRecDepth 20000 in
theorem gX5_areApart__X5_effects : GoodIn wsX5_areApart_ (va_wsS RX5 114 yX5_effects wsX5_effects) := goodIn_app (goodIn_of _ (by decide +kernel)) ggX5_areApart__X5_effects
set_option maxRecDepth 20000 in
theorem ggX5_areApart__X5_areApart : GoodIn wsX5_areApart_ wsX5_areApart := goodIn_r _ [19] (by decide +kernel) (by decide +kernel)
set_option maxRecDepth 20000 in
theorem gX5_areApart__X5_areApart : GoodIn wsX5_areApart_ (va_wsS RX5 117 yX5_areApart wsX5_areApart) := goodIn_app (goodIn_of _ (by decide +kernel)) ggX5_areApart__X5_areApart
theorem dX5_areApart__0 : decode cX5_areApart_ 0 = .ok (.aload_n 0, 1) := by decide +kernel
theorem dX5_areApart__1 : decode cX5_areApart_ 1 = .ok (.iload_n 1, 1) := by decide +kernel
theorem dX5_areApart__2 : decode cX5_areApart_ 2 = .ok (.iconst 0, 1) := by decide +kernel
theorem dX5_areApart__3 : decode cX5_areApart_ 3 = .ok (.aload_n 0, 1) := by decide +kernel
theorem dX5_areApart__4 : decode cX5_areApart_ 4 = .ok (.iload_n 1, 1) := by decide +kernel
theorem dX5_areApart__5 : decode cX5_areApart_ 5 = .ok (.invokestatic 84, 3) := by decide +kernel
theorem dX5_areApart__8 : decode cX5_areApart_ 8 = .ok (.invokestatic 114, 3) := by decide +kernel
theorem dX5_areApart__11 : decode cX5_areApart_ 11 = .ok (.aload_n 0, 1) := by decide +kernel
theorem dX5_areApart__12 : decode cX5_areApart_ 12 = .ok (.iload_n 2, 1) := by decide +kernel
theorem dX5_areApart__13 : decode cX5_areApart_ 13 = .ok (.iconst 0, 1) := by decide +kernel
theorem dX5_areApart__14 : decode cX5_areApart_ 14 = .ok (.aload_n 0, 1) := by decide +kernel
theorem dX5_areApart__15 : decode cX5_areApart_ 15 = .ok (.iload_n 2, 1) := by decide +kernel
theorem dX5_areApart__16 : decode cX5_areApart_ 16 = .ok (.invokestatic 84, 3) := by decide +kernel
theorem dX5_areApart__19 : decode cX5_areApart_ 19 = .ok (.invokestatic 114, 3) := by decide +kernel
theorem dX5_areApart__22 : decode cX5_areApart_ 22 = .ok (.invokestatic 117, 3) := by decide +kernel
theorem dX5_areApart__25 : decode cX5_areApart_ 25 = .ok (.ireturn, 1) := by decide +kernel
set_option maxRecDepth 20000 in
theorem ggX5_whyJoin_X5_loopAt : GoodIn wsX5_whyJoin wsX5_loopAt := goodIn_r _ [4] (by decide +kernel) (by decide +kernel)
set_option maxRecDepth 20000 in
theorem gX5_whyJoin_X5_loopAt : GoodIn wsX5_whyJoin (va_wsS RX5 45 yX5_loopAt wsX5_loopAt) := goodIn_app (goodIn_of _ (by decide +kernel)) ggX5_whyJoin_X5_loopAt
set_option maxRecDepth 20000 in
theorem ggX5_whyJoin_X5_has_ : GoodIn wsX5_whyJoin wsX5_has_ := goodIn_r _ [7, 8, 9, 3, 10, 1, 2, 4, 11, 12, 13, 14, 15, 16, 17, 18, 19] (by decide +kernel) (by decide +kernel)
set_option maxRecDepth 20000 in
theorem gX5_whyJoin_X5_has_ : GoodIn wsX5_whyJoin (va_wsS RX5 120 yX5_has_ wsX5_has_) := goodIn_app (goodIn_of _ (by decide +kernel)) ggX5_whyJoin_X5_has_
set_option maxRecDepth 20000 in
theorem ggX5_whyJoin_X5_areApart_ : GoodIn wsX5_whyJoin wsX5_areApart_ := goodIn_r _ [22, 8, 9, 3, 10, 1, 2, 4, 23, 24, 25, 14, 15, 16, 17, 18, 19, 26, 27, 28] (by decide +kernel) (by decide +kernel)
set_option maxRecDepth 20000 in
theorem gX5_whyJoin_X5_areApart_ : GoodIn wsX5_whyJoin (va_wsS RX5 123 yX5_areApart_ wsX5_areApart_) := goodIn_app (goodIn_of _ (by decide +kernel)) ggX5_whyJoin_X5_areApart_
set_option maxRecDepth 20000 in
theorem ggX5_whyJoin_X5_steps : GoodIn wsX5_whyJoin wsX5_steps := goodIn_r _ [10, 1, 2, 3, 4] (by decide +kernel) (by decide +kernel)
set_option maxRecDepth 20000 in
theorem gX5_whyJoin_X5_steps : GoodIn wsX5_whyJoin (va_wsS RX5 84 yX5_steps wsX5_steps) := goodIn_app (goodIn_of _ (by decide +kernel)) ggX5_whyJoin_X5_steps
theorem dX5_whyJoin_0 : decode cX5_whyJoin 0 = .ok (.iconst 0, 1) := by decide +kernel
theorem dX5_whyJoin_1 : decode cX5_whyJoin 1 = .ok (.istore_n 2, 1) := by decide +kernel
theorem dX5_whyJoin_2 : decode cX5_whyJoin 2 = .ok (.iload_n 2, 1) := by decide +kernel
theorem dX5_whyJoin_3 : decode cX5_whyJoin 3 = .ok (.iconst 3, 1) := by decide +kernel
theorem dX5_whyJoin_4 : decode cX5_whyJoin 4 = .ok (.if_icmp .ge 32, 3) := by decide +kernel
theorem dX5_whyJoin_7 : decode cX5_whyJoin 7 = .ok (.aload_n 0, 1) := by decide +kernel
theorem dX5_whyJoin_8 : decode cX5_whyJoin 8 = .ok (.iload_n 1, 1) := by decide +kernel
theorem dX5_whyJoin_9 : decode cX5_whyJoin 9 = .ok (.invokestatic 45, 3) := by decide +kernel
theorem dX5_whyJoin_12 : decode cX5_whyJoin 12 = .ok (.iload_n 2, 1) := by decide +kernel
theorem dX5_whyJoin_13 : decode cX5_whyJoin 13 = .ok (.iadd, 1) := by decide +kernel
theorem dX5_whyJoin_14 : decode cX5_whyJoin 14 = .ok (.iaload, 1) := by decide +kernel
theorem dX5_whyJoin_15 : decode cX5_whyJoin 15 = .ok (.aload_n 0, 1) := by decide +kernel
theorem dX5_whyJoin_16 : decode cX5_whyJoin 16 = .ok (.iload_n 1, 1) := by decide +kernel
theorem dX5_whyJoin_17 : decode cX5_whyJoin 17 = .ok (.iconst 1, 1) := by decide +kernel
theorem dX5_whyJoin_18 : decode cX5_whyJoin 18 = .ok (.iadd, 1) := by decide +kernel
theorem dX5_whyJoin_19 : decode cX5_whyJoin 19 = .ok (.invokestatic 45, 3) := by decide +kernel
theorem dX5_whyJoin_22 : decode cX5_whyJoin 22 = .ok (.iload_n 2, 1) := by decide +kernel
theorem dX5_whyJoin_23 : decode cX5_whyJoin 23 = .ok (.iadd, 1) := by decide +kernel
theorem dX5_whyJoin_24 : decode cX5_whyJoin 24 = .ok (.iaload, 1) := by decide +kernel
theorem dX5_whyJoin_25 : decode cX5_whyJoin 25 = .ok (.if_icmp .eq 5, 3) := by decide +kernel
theorem dX5_whyJoin_28 : decode cX5_whyJoin 28 = .ok (.iconst 1, 1) := by decide +kernel
theorem dX5_whyJoin_29 : decode cX5_whyJoin 29 = .ok (.ireturn, 1) := by decide +kernel
theorem dX5_whyJoin_30 : decode cX5_whyJoin 30 = .ok (.iinc 2 1, 3) := by decide +kernel
theorem dX5_whyJoin_33 : decode cX5_whyJoin 33 = .ok (.goto (-31), 3) := by decide +kernel
theorem dX5_whyJoin_36 : decode cX5_whyJoin 36 = .ok (.aload_n 0, 1) := by decide +kernel
theorem dX5_whyJoin_37 : decode cX5_whyJoin 37 = .ok (.iload_n 1, 1) := by decide +kernel
theorem dX5_whyJoin_38 : decode cX5_whyJoin 38 = .ok (.iconst 4, 1) := by decide +kernel
theorem dX5_whyJoin_39 : decode cX5_whyJoin 39 = .ok (.invokestatic 120, 3) := by decide +kernel
theorem dX5_whyJoin_42 : decode cX5_whyJoin 42 = .ok (.ifCond .ne 14, 3) := by decide +kernel
theorem dX5_whyJoin_45 : decode cX5_whyJoin 45 = .ok (.aload_n 0, 1) := by decide +kernel
theorem dX5_whyJoin_46 : decode cX5_whyJoin 46 = .ok (.iload_n 1, 1) := by decide +kernel
theorem dX5_whyJoin_47 : decode cX5_whyJoin 47 = .ok (.iconst 1, 1) := by decide +kernel
theorem dX5_whyJoin_48 : decode cX5_whyJoin 48 = .ok (.iadd, 1) := by decide +kernel
theorem dX5_whyJoin_49 : decode cX5_whyJoin 49 = .ok (.iconst 4, 1) := by decide +kernel
theorem dX5_whyJoin_50 : decode cX5_whyJoin 50 = .ok (.invokestatic 120, 3) := by decide +kernel
theorem dX5_whyJoin_53 : decode cX5_whyJoin 53 = .ok (.ifCond .eq 5, 3) := by decide +kernel
theorem dX5_whyJoin_56 : decode cX5_whyJoin 56 = .ok (.iconst 2, 1) := by decide +kernel
theorem dX5_whyJoin_57 : decode cX5_whyJoin 57 = .ok (.ireturn, 1) := by decide +kernel
theorem dX5_whyJoin_58 : decode cX5_whyJoin 58 = .ok (.aload_n 0, 1) := by decide +kernel
theorem dX5_whyJoin_59 : decode cX5_whyJoin 59 = .ok (.iload_n 1, 1) := by decide +kernel
theorem dX5_whyJoin_60 : decode cX5_whyJoin 60 = .ok (.iconst 5, 1) := by decide +kernel
theorem dX5_whyJoin_61 : decode cX5_whyJoin 61 = .ok (.invokestatic 120, 3) := by decide +kernel
theorem dX5_whyJoin_64 : decode cX5_whyJoin 64 = .ok (.ifCond .eq 16, 3) := by decide +kernel
theorem dX5_whyJoin_67 : decode cX5_whyJoin 67 = .ok (.aload_n 0, 1) := by decide +kernel
theorem dX5_whyJoin_68 : decode cX5_whyJoin 68 = .ok (.iload_n 1, 1) := by decide +kernel
theorem dX5_whyJoin_69 : decode cX5_whyJoin 69 = .ok (.iconst 1, 1) := by decide +kernel
theorem dX5_whyJoin_70 : decode cX5_whyJoin 70 = .ok (.iadd, 1) := by decide +kernel
theorem dX5_whyJoin_71 : decode cX5_whyJoin 71 = .ok (.iconst 5, 1) := by decide +kernel
theorem dX5_whyJoin_72 : decode cX5_whyJoin 72 = .ok (.invokestatic 120, 3) := by decide +kernel
theorem dX5_whyJoin_75 : decode cX5_whyJoin 75 = .ok (.ifCond .eq 5, 3) := by decide +kernel
theorem dX5_whyJoin_78 : decode cX5_whyJoin 78 = .ok (.iconst 3, 1) := by decide +kernel
theorem dX5_whyJoin_79 : decode cX5_whyJoin 79 = .ok (.ireturn, 1) := by decide +kernel
theorem dX5_whyJoin_80 : decode cX5_whyJoin 80 = .ok (.aload_n 0, 1) := by decide +kernel
theorem dX5_whyJoin_81 : decode cX5_whyJoin 81 = .ok (.iload_n 1, 1) := by decide +kernel
theorem dX5_whyJoin_82 : decode cX5_whyJoin 82 = .ok (.iload_n 1, 1) := by decide +kernel
theorem dX5_whyJoin_83 : decode cX5_whyJoin 83 = .ok (.iconst 1, 1) := by decide +kernel
theorem dX5_whyJoin_84 : decode cX5_whyJoin 84 = .ok (.iadd, 1) := by decide +kernel
theorem dX5_whyJoin_85 : decode cX5_whyJoin 85 = .ok (.invokestatic 123, 3) := by decide +kernel
theorem dX5_whyJoin_88 : decode cX5_whyJoin 88 = .ok (.ifCond .ne 5, 3) := by decide +kernel
theorem dX5_whyJoin_91 : decode cX5_whyJoin 91 = .ok (.iconst 4, 1) := by decide +kernel
theorem dX5_whyJoin_92 : decode cX5_whyJoin 92 = .ok (.ireturn, 1) := by decide +kernel
theorem dX5_whyJoin_93 : decode cX5_whyJoin 93 = .ok (.aload_n 0, 1) := by decide +kernel
theorem dX5_whyJoin_94 : decode cX5_whyJoin 94 = .ok (.iload_n 1, 1) := by decide +kernel
theorem dX5_whyJoin_95 : decode cX5_whyJoin 95 = .ok (.invokestatic 84, 3) := by decide +kernel
theorem dX5_whyJoin_98 : decode cX5_whyJoin 98 = .ok (.aload_n 0, 1) := by decide +kernel
theorem dX5_whyJoin_99 : decode cX5_whyJoin 99 = .ok (.iload_n 1, 1) := by decide +kernel
theorem dX5_whyJoin_100 : decode cX5_whyJoin 100 = .ok (.iconst 1, 1) := by decide +kernel
theorem dX5_whyJoin_101 : decode cX5_whyJoin 101 = .ok (.iadd, 1) := by decide +kernel
theorem dX5_whyJoin_102 : decode cX5_whyJoin 102 = .ok (.invokestatic 84, 3) := by decide +kernel
theorem dX5_whyJoin_105 : decode cX5_whyJoin 105 = .ok (.iadd, 1) := by decide +kernel
theorem dX5_whyJoin_106 : decode cX5_whyJoin 106 = .ok (.bipush 6, 2) := by decide +kernel
theorem dX5_whyJoin_108 : decode cX5_whyJoin 108 = .ok (.if_icmp .le 7, 3) := by decide +kernel
theorem dX5_whyJoin_111 : decode cX5_whyJoin 111 = .ok (.iconst 5, 1) := by decide +kernel
theorem dX5_whyJoin_112 : decode cX5_whyJoin 112 = .ok (.goto 4, 3) := by decide +kernel
theorem dX5_whyJoin_115 : decode cX5_whyJoin 115 = .ok (.iconst 0, 1) := by decide +kernel
theorem dX5_whyJoin_116 : decode cX5_whyJoin 116 = .ok (.ireturn, 1) := by decide +kernel
set_option maxRecDepth 20000 in
theorem ggX5_whyDivide_X5_steps : GoodIn wsX5_whyDivide wsX5_steps := goodIn_r _ [4, 5, 6, 3, 7] (by decide +kernel) (by decide +kernel)
set_option maxRecDepth 20000 in
theorem gX5_whyDivide_X5_steps : GoodIn wsX5_whyDivide (va_wsS RX5 84 yX5_steps wsX5_steps) := goodIn_app (goodIn_of _ (by decide +kernel)) ggX5_whyDivide_X5_steps
set_option maxRecDepth 20000 in
theorem ggX5_whyDivide_X5_has_ : GoodIn wsX5_whyDivide wsX5_has_ := goodIn_r _ [10, 1, 2, 3, 4, 5, 6, 7, 11, 12, 13, 14, 15, 16, 17, 18, 19] (by decide +kernel) (by decide +kernel)
set_option maxRecDepth 20000 in
theorem gX5_whyDivide_X5_has_ : GoodIn wsX5_whyDivide (va_wsS RX5 120 yX5_has_ wsX5_has_) := goodIn_app (goodIn_of _ (by decide +kernel)) ggX5_whyDivide_X5_has_
set_option maxRecDepth 20000 in
theorem ggX5_whyDivide_X5_has : GoodIn wsX5_whyDivide wsX5_has := goodIn_r _ [13, 14, 15, 3, 16, 17, 18, 19, 5, 6, 7] (by decide +kernel) (by decide +kernel)
set_option maxRecDepth 20000 in
theorem gX5_whyDivide_X5_has : GoodIn wsX5_whyDivide (va_wsS RX5 110 yX5_has wsX5_has) := goodIn_app (goodIn_of _ (by decide +kernel)) ggX5_whyDivide_X5_has
set_option maxRecDepth 20000 in
theorem ggX5_whyDivide_X5_effects : GoodIn wsX5_whyDivide wsX5_effects := goodIn_r _ [22, 14, 15, 3, 16, 17, 18, 19, 5, 6, 7] (by decide +kernel) (by decide +kernel)
set_option maxRecDepth 20000 in
theorem gX5_whyDivide_X5_effects : GoodIn wsX5_whyDivide (va_wsS RX5 114 yX5_effects wsX5_effects) := goodIn_app (goodIn_of _ (by decide +kernel)) ggX5_whyDivide_X5_effects
set_option maxRecDepth 20000 in
theorem ggX5_whyDivide_X5_areApart : GoodIn wsX5_whyDivide wsX5_areApart := goodIn_r _ [25] (by decide +kernel) (by decide +kernel)
set_option maxRecDepth 20000 in
theorem gX5_whyDivide_X5_areApart : GoodIn wsX5_whyDivide (va_wsS RX5 117 yX5_areApart wsX5_areApart) := goodIn_app (goodIn_of _ (by decide +kernel)) ggX5_whyDivide_X5_areApart
theorem dX5_whyDivide_0 : decode cX5_whyDivide 0 = .ok (.aload_n 0, 1) := by decide +kernel
theorem dX5_whyDivide_1 : decode cX5_whyDivide 1 = .ok (.iload_n 1, 1) := by decide +kernel
theorem dX5_whyDivide_2 : decode cX5_whyDivide 2 = .ok (.invokestatic 84, 3) := by decide +kernel
theorem dX5_whyDivide_5 : decode cX5_whyDivide 5 = .ok (.istore_n 3, 1) := by decide +kernel
theorem dX5_whyDivide_6 : decode cX5_whyDivide 6 = .ok (.aload_n 0, 1) := by decide +kernel
theorem dX5_whyDivide_7 : decode cX5_whyDivide 7 = .ok (.iload_n 1, 1) := by decide +kernel
theorem dX5_whyDivide_8 : decode cX5_whyDivide 8 = .ok (.iconst 4, 1) := by decide +kernel
theorem dX5_whyDivide_9 : decode cX5_whyDivide 9 = .ok (.invokestatic 120, 3) := by decide +kernel
theorem dX5_whyDivide_12 : decode cX5_whyDivide 12 = .ok (.ifCond .eq 5, 3) := by decide +kernel
theorem dX5_whyDivide_15 : decode cX5_whyDivide 15 = .ok (.iconst 2, 1) := by decide +kernel
theorem dX5_whyDivide_16 : decode cX5_whyDivide 16 = .ok (.ireturn, 1) := by decide +kernel
theorem dX5_whyDivide_17 : decode cX5_whyDivide 17 = .ok (.aload_n 0, 1) := by decide +kernel
theorem dX5_whyDivide_18 : decode cX5_whyDivide 18 = .ok (.iload_n 1, 1) := by decide +kernel
theorem dX5_whyDivide_19 : decode cX5_whyDivide 19 = .ok (.iconst 0, 1) := by decide +kernel
theorem dX5_whyDivide_20 : decode cX5_whyDivide 20 = .ok (.iload_n 2, 1) := by decide +kernel
theorem dX5_whyDivide_21 : decode cX5_whyDivide 21 = .ok (.iconst 5, 1) := by decide +kernel
theorem dX5_whyDivide_22 : decode cX5_whyDivide 22 = .ok (.invokestatic 110, 3) := by decide +kernel
theorem dX5_whyDivide_25 : decode cX5_whyDivide 25 = .ok (.ifCond .eq 16, 3) := by decide +kernel
theorem dX5_whyDivide_28 : decode cX5_whyDivide 28 = .ok (.aload_n 0, 1) := by decide +kernel
theorem dX5_whyDivide_29 : decode cX5_whyDivide 29 = .ok (.iload_n 1, 1) := by decide +kernel
theorem dX5_whyDivide_30 : decode cX5_whyDivide 30 = .ok (.iload_n 2, 1) := by decide +kernel
theorem dX5_whyDivide_31 : decode cX5_whyDivide 31 = .ok (.iload_n 3, 1) := by decide +kernel
theorem dX5_whyDivide_32 : decode cX5_whyDivide 32 = .ok (.iconst 5, 1) := by decide +kernel
theorem dX5_whyDivide_33 : decode cX5_whyDivide 33 = .ok (.invokestatic 110, 3) := by decide +kernel
theorem dX5_whyDivide_36 : decode cX5_whyDivide 36 = .ok (.ifCond .eq 5, 3) := by decide +kernel
theorem dX5_whyDivide_39 : decode cX5_whyDivide 39 = .ok (.iconst 3, 1) := by decide +kernel
theorem dX5_whyDivide_40 : decode cX5_whyDivide 40 = .ok (.ireturn, 1) := by decide +kernel
theorem dX5_whyDivide_41 : decode cX5_whyDivide 41 = .ok (.aload_n 0, 1) := by decide +kernel
theorem dX5_whyDivide_42 : decode cX5_whyDivide 42 = .ok (.iload_n 1, 1) := by decide +kernel
theorem dX5_whyDivide_43 : decode cX5_whyDivide 43 = .ok (.iconst 0, 1) := by decide +kernel
theorem dX5_whyDivide_44 : decode cX5_whyDivide 44 = .ok (.iload_n 2, 1) := by decide +kernel
theorem dX5_whyDivide_45 : decode cX5_whyDivide 45 = .ok (.invokestatic 114, 3) := by decide +kernel
theorem dX5_whyDivide_48 : decode cX5_whyDivide 48 = .ok (.aload_n 0, 1) := by decide +kernel
theorem dX5_whyDivide_49 : decode cX5_whyDivide 49 = .ok (.iload_n 1, 1) := by decide +kernel
theorem dX5_whyDivide_50 : decode cX5_whyDivide 50 = .ok (.iload_n 2, 1) := by decide +kernel
theorem dX5_whyDivide_51 : decode cX5_whyDivide 51 = .ok (.iload_n 3, 1) := by decide +kernel
theorem dX5_whyDivide_52 : decode cX5_whyDivide 52 = .ok (.invokestatic 114, 3) := by decide +kernel
theorem dX5_whyDivide_55 : decode cX5_whyDivide 55 = .ok (.invokestatic 117, 3) := by decide +kernel
theorem dX5_whyDivide_58 : decode cX5_whyDivide 58 = .ok (.ifCond .ne 5, 3) := by decide +kernel
theorem dX5_whyDivide_61 : decode cX5_whyDivide 61 = .ok (.iconst 4, 1) := by decide +kernel
theorem dX5_whyDivide_62 : decode cX5_whyDivide 62 = .ok (.ireturn, 1) := by decide +kernel
theorem dX5_whyDivide_63 : decode cX5_whyDivide 63 = .ok (.aload_n 0, 1) := by decide +kernel
theorem dX5_whyDivide_64 : decode cX5_whyDivide 64 = .ok (.iconst 0, 1) := by decide +kernel
theorem dX5_whyDivide_65 : decode cX5_whyDivide 65 = .ok (.iaload, 1) := by decide +kernel
theorem dX5_whyDivide_66 : decode cX5_whyDivide 66 = .ok (.bipush 8, 2) := by decide +kernel
theorem dX5_whyDivide_68 : decode cX5_whyDivide 68 = .ok (.if_icmp .ne 8, 3) := by decide +kernel
theorem dX5_whyDivide_71 : decode cX5_whyDivide 71 = .ok (.bipush 6, 2) := by decide +kernel
theorem dX5_whyDivide_73 : decode cX5_whyDivide 73 = .ok (.goto 4, 3) := by decide +kernel
theorem dX5_whyDivide_76 : decode cX5_whyDivide 76 = .ok (.iconst 0, 1) := by decide +kernel
theorem dX5_whyDivide_77 : decode cX5_whyDivide 77 = .ok (.ireturn, 1) := by decide +kernel
set_option maxRecDepth 20000 in
theorem ggX5_whyPeel_X5_loopAt : GoodIn wsX5_whyPeel wsX5_loopAt := goodIn_r _ [4] (by decide +kernel) (by decide +kernel)
set_option maxRecDepth 20000 in
theorem gX5_whyPeel_X5_loopAt : GoodIn wsX5_whyPeel (va_wsS RX5 45 yX5_loopAt wsX5_loopAt) := goodIn_app (goodIn_of _ (by decide +kernel)) ggX5_whyPeel_X5_loopAt
set_option maxRecDepth 20000 in
theorem ggX5_whyPeel_X5_has_ : GoodIn wsX5_whyPeel wsX5_has_ := goodIn_r _ [7, 8, 9, 3, 10, 1, 2, 4, 11, 12, 13, 14, 15, 16, 17, 18, 19] (by decide +kernel) (by decide +kernel)
set_option maxRecDepth 20000 in
theorem gX5_whyPeel_X5_has_ : GoodIn wsX5_whyPeel (va_wsS RX5 120 yX5_has_ wsX5_has_) := goodIn_app (goodIn_of _ (by decide +kernel)) ggX5_whyPeel_X5_has_
theorem dX5_whyPeel_0 : decode cX5_whyPeel 0 = .ok (.aload_n 0, 1) := by decide +kernel
theorem dX5_whyPeel_1 : decode cX5_whyPeel 1 = .ok (.iload_n 1, 1) := by decide +kernel
theorem dX5_whyPeel_2 : decode cX5_whyPeel 2 = .ok (.invokestatic 45, 3) := by decide +kernel
theorem dX5_whyPeel_5 : decode cX5_whyPeel 5 = .ok (.iaload, 1) := by decide +kernel
theorem dX5_whyPeel_6 : decode cX5_whyPeel 6 = .ok (.istore_n 3, 1) := by decide +kernel
theorem dX5_whyPeel_7 : decode cX5_whyPeel 7 = .ok (.aload_n 0, 1) := by decide +kernel
theorem dX5_whyPeel_8 : decode cX5_whyPeel 8 = .ok (.iload_n 1, 1) := by decide +kernel
theorem dX5_whyPeel_9 : decode cX5_whyPeel 9 = .ok (.invokestatic 45, 3) := by decide +kernel
theorem dX5_whyPeel_12 : decode cX5_whyPeel 12 = .ok (.iconst 1, 1) := by decide +kernel
theorem dX5_whyPeel_13 : decode cX5_whyPeel 13 = .ok (.iadd, 1) := by decide +kernel
theorem dX5_whyPeel_14 : decode cX5_whyPeel 14 = .ok (.iaload, 1) := by decide +kernel
theorem dX5_whyPeel_15 : decode cX5_whyPeel 15 = .ok (.istore 4, 2) := by decide +kernel
theorem dX5_whyPeel_17 : decode cX5_whyPeel 17 = .ok (.aload_n 0, 1) := by decide +kernel
theorem dX5_whyPeel_18 : decode cX5_whyPeel 18 = .ok (.iload_n 1, 1) := by decide +kernel
theorem dX5_whyPeel_19 : decode cX5_whyPeel 19 = .ok (.invokestatic 45, 3) := by decide +kernel
theorem dX5_whyPeel_22 : decode cX5_whyPeel 22 = .ok (.iconst 2, 1) := by decide +kernel
theorem dX5_whyPeel_23 : decode cX5_whyPeel 23 = .ok (.iadd, 1) := by decide +kernel
theorem dX5_whyPeel_24 : decode cX5_whyPeel 24 = .ok (.iaload, 1) := by decide +kernel
theorem dX5_whyPeel_25 : decode cX5_whyPeel 25 = .ok (.ifCond .ne 6, 3) := by decide +kernel
theorem dX5_whyPeel_28 : decode cX5_whyPeel 28 = .ok (.bipush 7, 2) := by decide +kernel
theorem dX5_whyPeel_30 : decode cX5_whyPeel 30 = .ok (.ireturn, 1) := by decide +kernel
theorem dX5_whyPeel_31 : decode cX5_whyPeel 31 = .ok (.iload_n 3, 1) := by decide +kernel
theorem dX5_whyPeel_32 : decode cX5_whyPeel 32 = .ok (.iload 4, 2) := by decide +kernel
theorem dX5_whyPeel_34 : decode cX5_whyPeel 34 = .ok (.iadd, 1) := by decide +kernel
theorem dX5_whyPeel_35 : decode cX5_whyPeel 35 = .ok (.iload_n 2, 1) := by decide +kernel
theorem dX5_whyPeel_36 : decode cX5_whyPeel 36 = .ok (.iconst 1, 1) := by decide +kernel
theorem dX5_whyPeel_37 : decode cX5_whyPeel 37 = .ok (.isub, 1) := by decide +kernel
theorem dX5_whyPeel_38 : decode cX5_whyPeel 38 = .ok (.if_icmp .gt 17, 3) := by decide +kernel
theorem dX5_whyPeel_41 : decode cX5_whyPeel 41 = .ok (.iload_n 2, 1) := by decide +kernel
theorem dX5_whyPeel_42 : decode cX5_whyPeel 42 = .ok (.iconst 1, 1) := by decide +kernel
theorem dX5_whyPeel_43 : decode cX5_whyPeel 43 = .ok (.isub, 1) := by decide +kernel
theorem dX5_whyPeel_44 : decode cX5_whyPeel 44 = .ok (.iload_n 3, 1) := by decide +kernel
theorem dX5_whyPeel_45 : decode cX5_whyPeel 45 = .ok (.isub, 1) := by decide +kernel
theorem dX5_whyPeel_46 : decode cX5_whyPeel 46 = .ok (.iconst 5, 1) := by decide +kernel
theorem dX5_whyPeel_47 : decode cX5_whyPeel 47 = .ok (.if_icmp .gt 8, 3) := by decide +kernel
theorem dX5_whyPeel_50 : decode cX5_whyPeel 50 = .ok (.iload_n 3, 1) := by decide +kernel
theorem dX5_whyPeel_51 : decode cX5_whyPeel 51 = .ok (.iconst 5, 1) := by decide +kernel
theorem dX5_whyPeel_52 : decode cX5_whyPeel 52 = .ok (.if_icmp .ne 6, 3) := by decide +kernel
theorem dX5_whyPeel_55 : decode cX5_whyPeel 55 = .ok (.bipush 8, 2) := by decide +kernel
theorem dX5_whyPeel_57 : decode cX5_whyPeel 57 = .ok (.ireturn, 1) := by decide +kernel
theorem dX5_whyPeel_58 : decode cX5_whyPeel 58 = .ok (.aload_n 0, 1) := by decide +kernel
theorem dX5_whyPeel_59 : decode cX5_whyPeel 59 = .ok (.iload_n 1, 1) := by decide +kernel
theorem dX5_whyPeel_60 : decode cX5_whyPeel 60 = .ok (.iconst 4, 1) := by decide +kernel
theorem dX5_whyPeel_61 : decode cX5_whyPeel 61 = .ok (.invokestatic 120, 3) := by decide +kernel
theorem dX5_whyPeel_64 : decode cX5_whyPeel 64 = .ok (.ifCond .eq 5, 3) := by decide +kernel
theorem dX5_whyPeel_67 : decode cX5_whyPeel 67 = .ok (.iconst 2, 1) := by decide +kernel
theorem dX5_whyPeel_68 : decode cX5_whyPeel 68 = .ok (.ireturn, 1) := by decide +kernel
theorem dX5_whyPeel_69 : decode cX5_whyPeel 69 = .ok (.aload_n 0, 1) := by decide +kernel
theorem dX5_whyPeel_70 : decode cX5_whyPeel 70 = .ok (.iconst 0, 1) := by decide +kernel
theorem dX5_whyPeel_71 : decode cX5_whyPeel 71 = .ok (.iaload, 1) := by decide +kernel
theorem dX5_whyPeel_72 : decode cX5_whyPeel 72 = .ok (.bipush 8, 2) := by decide +kernel
theorem dX5_whyPeel_74 : decode cX5_whyPeel 74 = .ok (.if_icmp .ne 8, 3) := by decide +kernel
theorem dX5_whyPeel_77 : decode cX5_whyPeel 77 = .ok (.bipush 6, 2) := by decide +kernel
theorem dX5_whyPeel_79 : decode cX5_whyPeel 79 = .ok (.goto 4, 3) := by decide +kernel
theorem dX5_whyPeel_82 : decode cX5_whyPeel 82 = .ok (.iconst 0, 1) := by decide +kernel
theorem dX5_whyPeel_83 : decode cX5_whyPeel 83 = .ok (.ireturn, 1) := by decide +kernel
set_option maxRecDepth 20000 in
theorem ggX5_whyTurn_X5_has_ : GoodIn wsX5_whyTurn wsX5_has_ := goodIn_r _ [4, 5, 6, 3, 7, 8, 9, 10, 11, 12, 13, 14, 15, 16, 17, 18, 19] (by decide +kernel) (by decide +kernel)
set_option maxRecDepth 20000 in
theorem gX5_whyTurn_X5_has_ : GoodIn wsX5_whyTurn (va_wsS RX5 120 yX5_has_ wsX5_has_) := goodIn_app (goodIn_of _ (by decide +kernel)) ggX5_whyTurn_X5_has_
set_option maxRecDepth 20000 in
theorem ggX5_whyTurn_X5_steps : GoodIn wsX5_whyTurn wsX5_steps := goodIn_r _ [7, 8, 9, 3, 10] (by decide +kernel) (by decide +kernel)
set_option maxRecDepth 20000 in
theorem gX5_whyTurn_X5_steps : GoodIn wsX5_whyTurn (va_wsS RX5 84 yX5_steps wsX5_steps) := goodIn_app (goodIn_of _ (by decide +kernel)) ggX5_whyTurn_X5_steps
set_option maxRecDepth 20000 in
theorem ggX5_whyTurn_X5_get : GoodIn wsX5_whyTurn wsX5_get := goodIn_r _ [16, 17, 18, 3, 19, 8, 9, 10] (by decide +kernel) (by decide +kernel)
set_option maxRecDepth 20000 in
theorem gX5_whyTurn_X5_get : GoodIn wsX5_whyTurn (va_wsS RX5 88 yX5_get wsX5_get) := goodIn_app (goodIn_of _ (by decide +kernel)) ggX5_whyTurn_X5_get
set_option maxRecDepth 20000 in
theorem ggX5_whyTurn_X5_effects : GoodIn wsX5_whyTurn wsX5_effects := goodIn_r _ [22, 14, 15, 3, 16, 17, 18, 19, 8, 9, 10] (by decide +kernel) (by decide +kernel)
set_option maxRecDepth 20000 in
theorem gX5_whyTurn_X5_effects : GoodIn wsX5_whyTurn (va_wsS RX5 114 yX5_effects wsX5_effects) := goodIn_app (goodIn_of _ (by decide +kernel)) ggX5_whyTurn_X5_effects
theorem dX5_whyTurn_0 : decode cX5_whyTurn 0 = .ok (.aload_n 0, 1) := by decide +kernel
theorem dX5_whyTurn_1 : decode cX5_whyTurn 1 = .ok (.iload_n 1, 1) := by decide +kernel
theorem dX5_whyTurn_2 : decode cX5_whyTurn 2 = .ok (.iconst 4, 1) := by decide +kernel
theorem dX5_whyTurn_3 : decode cX5_whyTurn 3 = .ok (.invokestatic 120, 3) := by decide +kernel
theorem dX5_whyTurn_6 : decode cX5_whyTurn 6 = .ok (.ifCond .eq 5, 3) := by decide +kernel
theorem dX5_whyTurn_9 : decode cX5_whyTurn 9 = .ok (.iconst 2, 1) := by decide +kernel
theorem dX5_whyTurn_10 : decode cX5_whyTurn 10 = .ok (.ireturn, 1) := by decide +kernel
theorem dX5_whyTurn_11 : decode cX5_whyTurn 11 = .ok (.iconst (-1), 1) := by decide +kernel
theorem dX5_whyTurn_12 : decode cX5_whyTurn 12 = .ok (.istore_n 2, 1) := by decide +kernel
theorem dX5_whyTurn_13 : decode cX5_whyTurn 13 = .ok (.iconst 0, 1) := by decide +kernel
theorem dX5_whyTurn_14 : decode cX5_whyTurn 14 = .ok (.istore_n 3, 1) := by decide +kernel
theorem dX5_whyTurn_15 : decode cX5_whyTurn 15 = .ok (.iconst 0, 1) := by decide +kernel
theorem dX5_whyTurn_16 : decode cX5_whyTurn 16 = .ok (.istore 4, 2) := by decide +kernel
theorem dX5_whyTurn_18 : decode cX5_whyTurn 18 = .ok (.iconst 0, 1) := by decide +kernel
theorem dX5_whyTurn_19 : decode cX5_whyTurn 19 = .ok (.istore 5, 2) := by decide +kernel
theorem dX5_whyTurn_21 : decode cX5_whyTurn 21 = .ok (.iload 5, 2) := by decide +kernel
theorem dX5_whyTurn_23 : decode cX5_whyTurn 23 = .ok (.aload_n 0, 1) := by decide +kernel
theorem dX5_whyTurn_24 : decode cX5_whyTurn 24 = .ok (.iload_n 1, 1) := by decide +kernel
theorem dX5_whyTurn_25 : decode cX5_whyTurn 25 = .ok (.invokestatic 84, 3) := by decide +kernel
theorem dX5_whyTurn_28 : decode cX5_whyTurn 28 = .ok (.if_icmp .ge 104, 3) := by decide +kernel
theorem dX5_whyTurn_31 : decode cX5_whyTurn 31 = .ok (.aload_n 0, 1) := by decide +kernel
theorem dX5_whyTurn_32 : decode cX5_whyTurn 32 = .ok (.iload_n 1, 1) := by decide +kernel
theorem dX5_whyTurn_33 : decode cX5_whyTurn 33 = .ok (.iload 5, 2) := by decide +kernel
theorem dX5_whyTurn_35 : decode cX5_whyTurn 35 = .ok (.iconst 0, 1) := by decide +kernel
theorem dX5_whyTurn_36 : decode cX5_whyTurn 36 = .ok (.invokestatic 88, 3) := by decide +kernel
theorem dX5_whyTurn_39 : decode cX5_whyTurn 39 = .ok (.ifCond .eq 34, 3) := by decide +kernel
theorem dX5_whyTurn_42 : decode cX5_whyTurn 42 = .ok (.aload_n 0, 1) := by decide +kernel
theorem dX5_whyTurn_43 : decode cX5_whyTurn 43 = .ok (.iload_n 1, 1) := by decide +kernel
theorem dX5_whyTurn_44 : decode cX5_whyTurn 44 = .ok (.iload 5, 2) := by decide +kernel
theorem dX5_whyTurn_46 : decode cX5_whyTurn 46 = .ok (.iconst 1, 1) := by decide +kernel
theorem dX5_whyTurn_47 : decode cX5_whyTurn 47 = .ok (.invokestatic 88, 3) := by decide +kernel
theorem dX5_whyTurn_50 : decode cX5_whyTurn 50 = .ok (.sipush 1000, 3) := by decide +kernel
theorem dX5_whyTurn_53 : decode cX5_whyTurn 53 = .ok (.if_icmp .lt 20, 3) := by decide +kernel
theorem dX5_whyTurn_56 : decode cX5_whyTurn 56 = .ok (.iload_n 3, 1) := by decide +kernel
theorem dX5_whyTurn_57 : decode cX5_whyTurn 57 = .ok (.iconst 1, 1) := by decide +kernel
theorem dX5_whyTurn_58 : decode cX5_whyTurn 58 = .ok (.aload_n 0, 1) := by decide +kernel
theorem dX5_whyTurn_59 : decode cX5_whyTurn 59 = .ok (.iload_n 1, 1) := by decide +kernel
theorem dX5_whyTurn_60 : decode cX5_whyTurn 60 = .ok (.iload 5, 2) := by decide +kernel
theorem dX5_whyTurn_62 : decode cX5_whyTurn 62 = .ok (.iconst 1, 1) := by decide +kernel
theorem dX5_whyTurn_63 : decode cX5_whyTurn 63 = .ok (.invokestatic 88, 3) := by decide +kernel
theorem dX5_whyTurn_66 : decode cX5_whyTurn 66 = .ok (.sipush 1000, 3) := by decide +kernel
theorem dX5_whyTurn_69 : decode cX5_whyTurn 69 = .ok (.isub, 1) := by decide +kernel
theorem dX5_whyTurn_70 : decode cX5_whyTurn 70 = .ok (.ishl, 1) := by decide +kernel
theorem dX5_whyTurn_71 : decode cX5_whyTurn 71 = .ok (.ior, 1) := by decide +kernel
theorem dX5_whyTurn_72 : decode cX5_whyTurn 72 = .ok (.istore_n 3, 1) := by decide +kernel
theorem dX5_whyTurn_73 : decode cX5_whyTurn 73 = .ok (.aload_n 0, 1) := by decide +kernel
theorem dX5_whyTurn_74 : decode cX5_whyTurn 74 = .ok (.iload_n 1, 1) := by decide +kernel
theorem dX5_whyTurn_75 : decode cX5_whyTurn 75 = .ok (.iload 5, 2) := by decide +kernel
theorem dX5_whyTurn_77 : decode cX5_whyTurn 77 = .ok (.iconst 2, 1) := by decide +kernel
theorem dX5_whyTurn_78 : decode cX5_whyTurn 78 = .ok (.invokestatic 88, 3) := by decide +kernel
theorem dX5_whyTurn_81 : decode cX5_whyTurn 81 = .ok (.iconst 5, 1) := by decide +kernel
theorem dX5_whyTurn_82 : decode cX5_whyTurn 82 = .ok (.if_icmp .eq 6, 3) := by decide +kernel
theorem dX5_whyTurn_85 : decode cX5_whyTurn 85 = .ok (.goto 41, 3) := by decide +kernel
theorem dX5_whyTurn_88 : decode cX5_whyTurn 88 = .ok (.iload 4, 2) := by decide +kernel
theorem dX5_whyTurn_90 : decode cX5_whyTurn 90 = .ok (.ifCond .ne 20, 3) := by decide +kernel
theorem dX5_whyTurn_93 : decode cX5_whyTurn 93 = .ok (.iload_n 2, 1) := by decide +kernel
theorem dX5_whyTurn_94 : decode cX5_whyTurn 94 = .ok (.iconst (-1), 1) := by decide +kernel
theorem dX5_whyTurn_95 : decode cX5_whyTurn 95 = .ok (.if_icmp .eq 19, 3) := by decide +kernel
theorem dX5_whyTurn_98 : decode cX5_whyTurn 98 = .ok (.iload_n 2, 1) := by decide +kernel
theorem dX5_whyTurn_99 : decode cX5_whyTurn 99 = .ok (.aload_n 0, 1) := by decide +kernel
theorem dX5_whyTurn_100 : decode cX5_whyTurn 100 = .ok (.iload_n 1, 1) := by decide +kernel
theorem dX5_whyTurn_101 : decode cX5_whyTurn 101 = .ok (.iload 5, 2) := by decide +kernel
theorem dX5_whyTurn_103 : decode cX5_whyTurn 103 = .ok (.iconst 3, 1) := by decide +kernel
theorem dX5_whyTurn_104 : decode cX5_whyTurn 104 = .ok (.invokestatic 88, 3) := by decide +kernel
theorem dX5_whyTurn_107 : decode cX5_whyTurn 107 = .ok (.if_icmp .eq 7, 3) := by decide +kernel
theorem dX5_whyTurn_110 : decode cX5_whyTurn 110 = .ok (.iconst 1, 1) := by decide +kernel
theorem dX5_whyTurn_111 : decode cX5_whyTurn 111 = .ok (.goto 4, 3) := by decide +kernel
theorem dX5_whyTurn_114 : decode cX5_whyTurn 114 = .ok (.iconst 0, 1) := by decide +kernel
theorem dX5_whyTurn_115 : decode cX5_whyTurn 115 = .ok (.istore 4, 2) := by decide +kernel
theorem dX5_whyTurn_117 : decode cX5_whyTurn 117 = .ok (.aload_n 0, 1) := by decide +kernel
theorem dX5_whyTurn_118 : decode cX5_whyTurn 118 = .ok (.iload_n 1, 1) := by decide +kernel
theorem dX5_whyTurn_119 : decode cX5_whyTurn 119 = .ok (.iload 5, 2) := by decide +kernel
theorem dX5_whyTurn_121 : decode cX5_whyTurn 121 = .ok (.iconst 3, 1) := by decide +kernel
theorem dX5_whyTurn_122 : decode cX5_whyTurn 122 = .ok (.invokestatic 88, 3) := by decide +kernel
theorem dX5_whyTurn_125 : decode cX5_whyTurn 125 = .ok (.istore_n 2, 1) := by decide +kernel
theorem dX5_whyTurn_126 : decode cX5_whyTurn 126 = .ok (.iinc 5 1, 3) := by decide +kernel
theorem dX5_whyTurn_129 : decode cX5_whyTurn 129 = .ok (.goto (-108), 3) := by decide +kernel
theorem dX5_whyTurn_132 : decode cX5_whyTurn 132 = .ok (.iload 4, 2) := by decide +kernel
theorem dX5_whyTurn_134 : decode cX5_whyTurn 134 = .ok (.ifCond .eq 6, 3) := by decide +kernel
theorem dX5_whyTurn_137 : decode cX5_whyTurn 137 = .ok (.bipush 9, 2) := by decide +kernel
theorem dX5_whyTurn_139 : decode cX5_whyTurn 139 = .ok (.ireturn, 1) := by decide +kernel
theorem dX5_whyTurn_140 : decode cX5_whyTurn 140 = .ok (.aload_n 0, 1) := by decide +kernel
theorem dX5_whyTurn_141 : decode cX5_whyTurn 141 = .ok (.iload_n 1, 1) := by decide +kernel
theorem dX5_whyTurn_142 : decode cX5_whyTurn 142 = .ok (.iconst 0, 1) := by decide +kernel
theorem dX5_whyTurn_143 : decode cX5_whyTurn 143 = .ok (.invokestatic 120, 3) := by decide +kernel
theorem dX5_whyTurn_146 : decode cX5_whyTurn 146 = .ok (.ifCond .ne 12, 3) := by decide +kernel
theorem dX5_whyTurn_149 : decode cX5_whyTurn 149 = .ok (.aload_n 0, 1) := by decide +kernel
theorem dX5_whyTurn_150 : decode cX5_whyTurn 150 = .ok (.iload_n 1, 1) := by decide +kernel
theorem dX5_whyTurn_151 : decode cX5_whyTurn 151 = .ok (.iconst 1, 1) := by decide +kernel
theorem dX5_whyTurn_152 : decode cX5_whyTurn 152 = .ok (.invokestatic 120, 3) := by decide +kernel
theorem dX5_whyTurn_155 : decode cX5_whyTurn 155 = .ok (.ifCond .eq 6, 3) := by decide +kernel
theorem dX5_whyTurn_158 : decode cX5_whyTurn 158 = .ok (.bipush 10, 2) := by decide +kernel
theorem dX5_whyTurn_160 : decode cX5_whyTurn 160 = .ok (.ireturn, 1) := by decide +kernel
theorem dX5_whyTurn_161 : decode cX5_whyTurn 161 = .ok (.iload_n 3, 1) := by decide +kernel
theorem dX5_whyTurn_162 : decode cX5_whyTurn 162 = .ok (.aload_n 0, 1) := by decide +kernel
theorem dX5_whyTurn_163 : decode cX5_whyTurn 163 = .ok (.iload_n 1, 1) := by decide +kernel
theorem dX5_whyTurn_164 : decode cX5_whyTurn 164 = .ok (.iconst 0, 1) := by decide +kernel
theorem dX5_whyTurn_165 : decode cX5_whyTurn 165 = .ok (.aload_n 0, 1) := by decide +kernel
theorem dX5_whyTurn_166 : decode cX5_whyTurn 166 = .ok (.iload_n 1, 1) := by decide +kernel
theorem dX5_whyTurn_167 : decode cX5_whyTurn 167 = .ok (.invokestatic 84, 3) := by decide +kernel
theorem dX5_whyTurn_170 : decode cX5_whyTurn 170 = .ok (.invokestatic 114, 3) := by decide +kernel
theorem dX5_whyTurn_173 : decode cX5_whyTurn 173 = .ok (.iand, 1) := by decide +kernel
theorem dX5_whyTurn_174 : decode cX5_whyTurn 174 = .ok (.ifCond .eq 8, 3) := by decide +kernel
theorem dX5_whyTurn_177 : decode cX5_whyTurn 177 = .ok (.bipush 11, 2) := by decide +kernel
theorem dX5_whyTurn_179 : decode cX5_whyTurn 179 = .ok (.goto 4, 3) := by decide +kernel
theorem dX5_whyTurn_182 : decode cX5_whyTurn 182 = .ok (.iconst 0, 1) := by decide +kernel
theorem dX5_whyTurn_183 : decode cX5_whyTurn 183 = .ok (.ireturn, 1) := by decide +kernel
set_option maxRecDepth 20000 in
theorem ggX5_whySwap_X5_has_ : GoodIn wsX5_whySwap wsX5_has_ := goodIn_r _ [4, 5, 6, 3, 7, 8, 9, 10, 11, 12, 13, 14, 15, 16, 17, 18, 19] (by decide +kernel) (by decide +kernel)
set_option maxRecDepth 20000 in
theorem gX5_whySwap_X5_has_ : GoodIn wsX5_whySwap (va_wsS RX5 120 yX5_has_ wsX5_has_) := goodIn_app (goodIn_of _ (by decide +kernel)) ggX5_whySwap_X5_has_
set_option maxRecDepth 20000 in
theorem ggX5_whySwap_X5_areApart_ : GoodIn wsX5_whySwap wsX5_areApart_ := goodIn_r _ [22, 5, 6, 3, 7, 8, 9, 10, 23, 24, 25, 14, 15, 16, 17, 18, 19, 26, 27, 28] (by decide +kernel) (by decide +kernel)
set_option maxRecDepth 20000 in
theorem gX5_whySwap_X5_areApart_ : GoodIn wsX5_whySwap (va_wsS RX5 123 yX5_areApart_ wsX5_areApart_) := goodIn_app (goodIn_of _ (by decide +kernel)) ggX5_whySwap_X5_areApart_
theorem dX5_whySwap_0 : decode cX5_whySwap 0 = .ok (.aload_n 0, 1) := by decide +kernel
theorem dX5_whySwap_1 : decode cX5_whySwap 1 = .ok (.iload_n 1, 1) := by decide +kernel
theorem dX5_whySwap_2 : decode cX5_whySwap 2 = .ok (.iconst 5, 1) := by decide +kernel
theorem dX5_whySwap_3 : decode cX5_whySwap 3 = .ok (.invokestatic 120, 3) := by decide +kernel
theorem dX5_whySwap_6 : decode cX5_whySwap 6 = .ok (.ifCond .eq 16, 3) := by decide +kernel
theorem dX5_whySwap_9 : decode cX5_whySwap 9 = .ok (.aload_n 0, 1) := by decide +kernel
theorem dX5_whySwap_10 : decode cX5_whySwap 10 = .ok (.iload_n 1, 1) := by decide +kernel
theorem dX5_whySwap_11 : decode cX5_whySwap 11 = .ok (.iconst 1, 1) := by decide +kernel
theorem dX5_whySwap_12 : decode cX5_whySwap 12 = .ok (.iadd, 1) := by decide +kernel
theorem dX5_whySwap_13 : decode cX5_whySwap 13 = .ok (.iconst 5, 1) := by decide +kernel
theorem dX5_whySwap_14 : decode cX5_whySwap 14 = .ok (.invokestatic 120, 3) := by decide +kernel
theorem dX5_whySwap_17 : decode cX5_whySwap 17 = .ok (.ifCond .eq 5, 3) := by decide +kernel
theorem dX5_whySwap_20 : decode cX5_whySwap 20 = .ok (.iconst 3, 1) := by decide +kernel
theorem dX5_whySwap_21 : decode cX5_whySwap 21 = .ok (.ireturn, 1) := by decide +kernel
theorem dX5_whySwap_22 : decode cX5_whySwap 22 = .ok (.aload_n 0, 1) := by decide +kernel
theorem dX5_whySwap_23 : decode cX5_whySwap 23 = .ok (.iload_n 1, 1) := by decide +kernel
theorem dX5_whySwap_24 : decode cX5_whySwap 24 = .ok (.iload_n 1, 1) := by decide +kernel
theorem dX5_whySwap_25 : decode cX5_whySwap 25 = .ok (.iconst 1, 1) := by decide +kernel
theorem dX5_whySwap_26 : decode cX5_whySwap 26 = .ok (.iadd, 1) := by decide +kernel
theorem dX5_whySwap_27 : decode cX5_whySwap 27 = .ok (.invokestatic 123, 3) := by decide +kernel
theorem dX5_whySwap_30 : decode cX5_whySwap 30 = .ok (.ifCond .eq 7, 3) := by decide +kernel
theorem dX5_whySwap_33 : decode cX5_whySwap 33 = .ok (.iconst 0, 1) := by decide +kernel
theorem dX5_whySwap_34 : decode cX5_whySwap 34 = .ok (.goto 4, 3) := by decide +kernel
theorem dX5_whySwap_37 : decode cX5_whySwap 37 = .ok (.iconst 4, 1) := by decide +kernel
theorem dX5_whySwap_38 : decode cX5_whySwap 38 = .ok (.ireturn, 1) := by decide +kernel
set_option maxRecDepth 20000 in
theorem ggX5_whyRange_X5_isProgram : GoodIn wsX5_whyRange wsX5_isProgram := goodIn_r _ [8, 9, 10, 11, 7, 12, 19, 20, 21, 22, 23, 24, 25, 26, 27, 28, 29] (by decide +kernel) (by decide +kernel)
set_option maxRecDepth 20000 in
theorem gX5_whyRange_X5_isProgram : GoodIn wsX5_whyRange (wsV RX5 53 RX5 yX5_isProgram wsX5_isProgram) := goodIn_app (goodIn_of _ (by decide +kernel)) ggX5_whyRange_X5_isProgram
set_option maxRecDepth 20000 in
theorem ggX5_whyRange_X5_isIn : GoodIn wsX5_whyRange wsX5_isIn := goodIn_r _ [12] (by decide +kernel) (by decide +kernel)
set_option maxRecDepth 20000 in
theorem gX5_whyRange_X5_isIn : GoodIn wsX5_whyRange (va_wsS RX5 41 yX5_isIn wsX5_isIn) := goodIn_app (goodIn_of _ (by decide +kernel)) ggX5_whyRange_X5_isIn
set_option maxRecDepth 20000 in
theorem ggX5_whyRange_X5_steps : GoodIn wsX5_whyRange wsX5_steps := goodIn_r _ [15, 16, 17, 7, 18] (by decide +kernel) (by decide +kernel)
set_option maxRecDepth 20000 in
theorem gX5_whyRange_X5_steps : GoodIn wsX5_whyRange (va_wsS RX5 84 yX5_steps wsX5_steps) := goodIn_app (goodIn_of _ (by decide +kernel)) ggX5_whyRange_X5_steps
theorem dX5_whyRange_0 : decode cX5_whyRange 0 = .ok (.aload_n 0, 1) := by decide +kernel
theorem dX5_whyRange_1 : decode cX5_whyRange 1 = .ok (.iload_n 1, 1) := by decide +kernel
theorem dX5_whyRange_2 : decode cX5_whyRange 2 = .ok (.invokevirtual 53, 3) := by decide +kernel
theorem dX5_whyRange_5 : decode cX5_whyRange 5 = .ok (.ifCond .eq 15, 3) := by decide +kernel
theorem dX5_whyRange_8 : decode cX5_whyRange 8 = .ok (.iload_n 2, 1) := by decide +kernel
theorem dX5_whyRange_9 : decode cX5_whyRange 9 = .ok (.i2l, 1) := by decide +kernel
theorem dX5_whyRange_10 : decode cX5_whyRange 10 = .ok (.lconst 0, 1) := by decide +kernel
theorem dX5_whyRange_11 : decode cX5_whyRange 11 = .ok (.ldc2_w 60, 3) := by decide +kernel
theorem dX5_whyRange_14 : decode cX5_whyRange 14 = .ok (.invokestatic 41, 3) := by decide +kernel
theorem dX5_whyRange_17 : decode cX5_whyRange 17 = .ok (.ifCond .ne 5, 3) := by decide +kernel
theorem dX5_whyRange_20 : decode cX5_whyRange 20 = .ok (.iconst 1, 1) := by decide +kernel
theorem dX5_whyRange_21 : decode cX5_whyRange 21 = .ok (.ireturn, 1) := by decide +kernel
theorem dX5_whyRange_22 : decode cX5_whyRange 22 = .ok (.aload_n 0, 1) := by decide +kernel
theorem dX5_whyRange_23 : decode cX5_whyRange 23 = .ok (.getfield 11, 3) := by decide +kernel
theorem dX5_whyRange_26 : decode cX5_whyRange 26 = .ok (.iload_n 1, 1) := by decide +kernel
theorem dX5_whyRange_27 : decode cX5_whyRange 27 = .ok (.aaload, 1) := by decide +kernel
theorem dX5_whyRange_28 : decode cX5_whyRange 28 = .ok (.astore 5, 2) := by decide +kernel
theorem dX5_whyRange_30 : decode cX5_whyRange 30 = .ok (.iload_n 2, 1) := by decide +kernel
theorem dX5_whyRange_31 : decode cX5_whyRange 31 = .ok (.ifCond .eq 8, 3) := by decide +kernel
theorem dX5_whyRange_34 : decode cX5_whyRange 34 = .ok (.iload_n 2, 1) := by decide +kernel
theorem dX5_whyRange_35 : decode cX5_whyRange 35 = .ok (.iconst 4, 1) := by decide +kernel
theorem dX5_whyRange_36 : decode cX5_whyRange 36 = .ok (.if_icmp .ne 7, 3) := by decide +kernel
theorem dX5_whyRange_39 : decode cX5_whyRange 39 = .ok (.iconst 1, 1) := by decide +kernel
theorem dX5_whyRange_40 : decode cX5_whyRange 40 = .ok (.goto 4, 3) := by decide +kernel
theorem dX5_whyRange_43 : decode cX5_whyRange 43 = .ok (.iconst 0, 1) := by decide +kernel
theorem dX5_whyRange_44 : decode cX5_whyRange 44 = .ok (.istore 6, 2) := by decide +kernel
theorem dX5_whyRange_46 : decode cX5_whyRange 46 = .ok (.iload_n 2, 1) := by decide +kernel
theorem dX5_whyRange_47 : decode cX5_whyRange 47 = .ok (.iconst 5, 1) := by decide +kernel
theorem dX5_whyRange_48 : decode cX5_whyRange 48 = .ok (.if_icmp .ne 10, 3) := by decide +kernel
theorem dX5_whyRange_51 : decode cX5_whyRange 51 = .ok (.iload_n 3, 1) := by decide +kernel
theorem dX5_whyRange_52 : decode cX5_whyRange 52 = .ok (.ifCond .eq 33, 3) := by decide +kernel
theorem dX5_whyRange_55 : decode cX5_whyRange 55 = .ok (.goto 28, 3) := by decide +kernel
theorem dX5_whyRange_58 : decode cX5_whyRange 58 = .ok (.iload_n 3, 1) := by decide +kernel
theorem dX5_whyRange_59 : decode cX5_whyRange 59 = .ok (.i2l, 1) := by decide +kernel
theorem dX5_whyRange_60 : decode cX5_whyRange 60 = .ok (.lconst 0, 1) := by decide +kernel
