theorem dX1_init_0 : decode cX1_init 0 = .ok (.aload_n 0, 1) := by decide +kernel
theorem dX1_init_1 : decode cX1_init 1 = .ok (.invokespecial 1, 3) := by decide +kernel
theorem dX1_init_4 : decode cX1_init 4 = .ok (.aload_n 0, 1) := by decide +kernel
theorem dX1_init_5 : decode cX1_init 5 = .ok (.bipush 12, 2) := by decide +kernel
theorem dX1_init_7 : decode cX1_init 7 = .ok (.newarray .boolean, 2) := by decide +kernel
theorem dX1_init_9 : decode cX1_init 9 = .ok (.putfield 7, 3) := by decide +kernel
theorem dX1_init_12 : decode cX1_init 12 = .ok (.aload_n 0, 1) := by decide +kernel
theorem dX1_init_13 : decode cX1_init 13 = .ok (.bipush 12, 2) := by decide +kernel
theorem dX1_init_15 : decode cX1_init 15 = .ok (.newarray .int, 2) := by decide +kernel
theorem dX1_init_17 : decode cX1_init 17 = .ok (.putfield 13, 3) := by decide +kernel
theorem dX1_init_20 : decode cX1_init 20 = .ok (.aload_n 0, 1) := by decide +kernel
theorem dX1_init_21 : decode cX1_init 21 = .ok (.bipush 12, 2) := by decide +kernel
theorem dX1_init_23 : decode cX1_init 23 = .ok (.newarray .int, 2) := by decide +kernel
theorem dX1_init_25 : decode cX1_init 25 = .ok (.putfield 17, 3) := by decide +kernel
theorem dX1_init_28 : decode cX1_init 28 = .ok (.aload_n 0, 1) := by decide +kernel
theorem dX1_init_29 : decode cX1_init 29 = .ok (.bipush 12, 2) := by decide +kernel
theorem dX1_init_31 : decode cX1_init 31 = .ok (.newarray .int, 2) := by decide +kernel
theorem dX1_init_33 : decode cX1_init 33 = .ok (.putfield 20, 3) := by decide +kernel
theorem dX1_init_36 : decode cX1_init 36 = .ok (.aload_n 0, 1) := by decide +kernel
theorem dX1_init_37 : decode cX1_init 37 = .ok (.bipush 12, 2) := by decide +kernel
theorem dX1_init_39 : decode cX1_init 39 = .ok (.newarray .int, 2) := by decide +kernel
theorem dX1_init_41 : decode cX1_init 41 = .ok (.putfield 23, 3) := by decide +kernel
theorem dX1_init_44 : decode cX1_init 44 = .ok (.aload_n 0, 1) := by decide +kernel
theorem dX1_init_45 : decode cX1_init 45 = .ok (.bipush 12, 2) := by decide +kernel
theorem dX1_init_47 : decode cX1_init 47 = .ok (.newarray .int, 2) := by decide +kernel
theorem dX1_init_49 : decode cX1_init 49 = .ok (.putfield 26, 3) := by decide +kernel
theorem dX1_init_52 : decode cX1_init 52 = .ok (.aload_n 0, 1) := by decide +kernel
theorem dX1_init_53 : decode cX1_init 53 = .ok (.bipush 12, 2) := by decide +kernel
theorem dX1_init_55 : decode cX1_init 55 = .ok (.newarray .int, 2) := by decide +kernel
theorem dX1_init_57 : decode cX1_init 57 = .ok (.putfield 29, 3) := by decide +kernel
theorem dX1_init_60 : decode cX1_init 60 = .ok (.aload_n 0, 1) := by decide +kernel
theorem dX1_init_61 : decode cX1_init 61 = .ok (.bipush 64, 2) := by decide +kernel
theorem dX1_init_63 : decode cX1_init 63 = .ok (.newarray .boolean, 2) := by decide +kernel
theorem dX1_init_65 : decode cX1_init 65 = .ok (.putfield 32, 3) := by decide +kernel
theorem dX1_init_68 : decode cX1_init 68 = .ok (.aload_n 0, 1) := by decide +kernel
theorem dX1_init_69 : decode cX1_init 69 = .ok (.sipush 1152, 3) := by decide +kernel
theorem dX1_init_72 : decode cX1_init 72 = .ok (.newarray .int, 2) := by decide +kernel
theorem dX1_init_74 : decode cX1_init 74 = .ok (.putfield 35, 3) := by decide +kernel
theorem dX1_init_77 : decode cX1_init 77 = .ok (.aload_n 0, 1) := by decide +kernel
theorem dX1_init_78 : decode cX1_init 78 = .ok (.bipush 12, 2) := by decide +kernel
theorem dX1_init_80 : decode cX1_init 80 = .ok (.newarray .int, 2) := by decide +kernel
theorem dX1_init_82 : decode cX1_init 82 = .ok (.putfield 38, 3) := by decide +kernel
theorem dX1_init_85 : decode cX1_init 85 = .ok (.return_, 1) := by decide +kernel
theorem dX1_thrown_0 : decode cX1_thrown 0 = .ok (.aload_n 0, 1) := by decide +kernel
theorem dX1_thrown_1 : decode cX1_thrown 1 = .ok (.getfield 41, 3) := by decide +kernel
theorem dX1_thrown_4 : decode cX1_thrown 4 = .ok (.ireturn, 1) := by decide +kernel
theorem dX1_goes_0 : decode cX1_goes 0 = .ok (.aload_n 0, 1) := by decide +kernel
theorem dX1_goes_1 : decode cX1_goes 1 = .ok (.iload_n 1, 1) := by decide +kernel
theorem dX1_goes_2 : decode cX1_goes 2 = .ok (.putfield 41, 3) := by decide +kernel
theorem dX1_goes_5 : decode cX1_goes 5 = .ok (.iload_n 1, 1) := by decide +kernel
theorem dX1_goes_6 : decode cX1_goes 6 = .ok (.ifCond .ne 7, 3) := by decide +kernel
theorem dX1_goes_9 : decode cX1_goes 9 = .ok (.iconst 1, 1) := by decide +kernel
theorem dX1_goes_10 : decode cX1_goes 10 = .ok (.goto 4, 3) := by decide +kernel
theorem dX1_goes_13 : decode cX1_goes 13 = .ok (.iconst 0, 1) := by decide +kernel
theorem dX1_goes_14 : decode cX1_goes 14 = .ok (.ireturn, 1) := by decide +kernel
theorem dX1_isIn_0 : decode cX1_isIn 0 = .ok (.iload_n 0, 1) := by decide +kernel
theorem dX1_isIn_1 : decode cX1_isIn 1 = .ok (.iload_n 1, 1) := by decide +kernel
theorem dX1_isIn_2 : decode cX1_isIn 2 = .ok (.if_icmp .lt 12, 3) := by decide +kernel
theorem dX1_isIn_5 : decode cX1_isIn 5 = .ok (.iload_n 0, 1) := by decide +kernel
theorem dX1_isIn_6 : decode cX1_isIn 6 = .ok (.iload_n 2, 1) := by decide +kernel
theorem dX1_isIn_7 : decode cX1_isIn 7 = .ok (.if_icmp .gt 7, 3) := by decide +kernel
theorem dX1_isIn_10 : decode cX1_isIn 10 = .ok (.iconst 1, 1) := by decide +kernel
theorem dX1_isIn_11 : decode cX1_isIn 11 = .ok (.goto 4, 3) := by decide +kernel
theorem dX1_isIn_14 : decode cX1_isIn 14 = .ok (.iconst 0, 1) := by decide +kernel
theorem dX1_isIn_15 : decode cX1_isIn 15 = .ok (.ireturn, 1) := by decide +kernel
set_option maxRecDepth 20000 in
theorem ggX1_isThing_X1_isIn : GoodIn wsX1_isThing wsX1_isIn := goodIn_r _ [6] (by decide +kernel) (by decide +kernel)
set_option maxRecDepth 20000 in
theorem gX1_isThing_X1_isIn : GoodIn wsX1_isThing (va_wsS RX1 48 yX1_isIn wsX1_isIn) := goodIn_app (goodIn_of _ (by decide +kernel)) ggX1_isThing_X1_isIn
theorem dX1_isThing_0 : decode cX1_isThing 0 = .ok (.iload_n 1, 1) := by decide +kernel
theorem dX1_isThing_1 : decode cX1_isThing 1 = .ok (.iconst 0, 1) := by decide +kernel
theorem dX1_isThing_2 : decode cX1_isThing 2 = .ok (.aload_n 0, 1) := by decide +kernel
theorem dX1_isThing_3 : decode cX1_isThing 3 = .ok (.getfield 45, 3) := by decide +kernel
theorem dX1_isThing_6 : decode cX1_isThing 6 = .ok (.iconst 1, 1) := by decide +kernel
theorem dX1_isThing_7 : decode cX1_isThing 7 = .ok (.isub, 1) := by decide +kernel
theorem dX1_isThing_8 : decode cX1_isThing 8 = .ok (.invokestatic 48, 3) := by decide +kernel
theorem dX1_isThing_11 : decode cX1_isThing 11 = .ok (.ifCond .eq 16, 3) := by decide +kernel
theorem dX1_isThing_14 : decode cX1_isThing 14 = .ok (.aload_n 0, 1) := by decide +kernel
theorem dX1_isThing_15 : decode cX1_isThing 15 = .ok (.getfield 7, 3) := by decide +kernel
theorem dX1_isThing_18 : decode cX1_isThing 18 = .ok (.iload_n 1, 1) := by decide +kernel
theorem dX1_isThing_19 : decode cX1_isThing 19 = .ok (.baload, 1) := by decide +kernel
theorem dX1_isThing_20 : decode cX1_isThing 20 = .ok (.ifCond .ne 7, 3) := by decide +kernel
theorem dX1_isThing_23 : decode cX1_isThing 23 = .ok (.iconst 1, 1) := by decide +kernel
theorem dX1_isThing_24 : decode cX1_isThing 24 = .ok (.goto 4, 3) := by decide +kernel
theorem dX1_isThing_27 : decode cX1_isThing 27 = .ok (.iconst 0, 1) := by decide +kernel
theorem dX1_isThing_28 : decode cX1_isThing 28 = .ok (.ireturn, 1) := by decide +kernel
set_option maxRecDepth 20000 in
theorem ggX1_isColour_X1_isIn : GoodIn wsX1_isColour wsX1_isIn := goodIn_r _ [4] (by decide +kernel) (by decide +kernel)
set_option maxRecDepth 20000 in
theorem gX1_isColour_X1_isIn : GoodIn wsX1_isColour (va_wsS RX1 48 yX1_isIn wsX1_isIn) := goodIn_app (goodIn_of _ (by decide +kernel)) ggX1_isColour_X1_isIn
theorem dX1_isColour_0 : decode cX1_isColour 0 = .ok (.iload_n 0, 1) := by decide +kernel
theorem dX1_isColour_1 : decode cX1_isColour 1 = .ok (.iconst 0, 1) := by decide +kernel
theorem dX1_isColour_2 : decode cX1_isColour 2 = .ok (.bipush 7, 2) := by decide +kernel
theorem dX1_isColour_4 : decode cX1_isColour 4 = .ok (.invokestatic 48, 3) := by decide +kernel
theorem dX1_isColour_7 : decode cX1_isColour 7 = .ok (.ireturn, 1) := by decide +kernel
set_option maxRecDepth 20000 in
theorem ggX1_arePeople_X1_isIn : GoodIn wsX1_arePeople wsX1_isIn := goodIn_r _ [4] (by decide +kernel) (by decide +kernel)
set_option maxRecDepth 20000 in
theorem gX1_arePeople_X1_isIn : GoodIn wsX1_arePeople (va_wsS RX1 48 yX1_isIn wsX1_isIn) := goodIn_app (goodIn_of _ (by decide +kernel)) ggX1_arePeople_X1_isIn
theorem dX1_arePeople_0 : decode cX1_arePeople 0 = .ok (.iload_n 0, 1) := by decide +kernel
theorem dX1_arePeople_1 : decode cX1_arePeople 1 = .ok (.iconst 0, 1) := by decide +kernel
theorem dX1_arePeople_2 : decode cX1_arePeople 2 = .ok (.sipush 255, 3) := by decide +kernel
theorem dX1_arePeople_5 : decode cX1_arePeople 5 = .ok (.invokestatic 48, 3) := by decide +kernel
theorem dX1_arePeople_8 : decode cX1_arePeople 8 = .ok (.ireturn, 1) := by decide +kernel
set_option maxRecDepth 20000 in
theorem ggX1_isCare_X1_isIn : GoodIn wsX1_isCare wsX1_isIn := goodIn_r _ [4] (by decide +kernel) (by decide +kernel)
set_option maxRecDepth 20000 in
theorem gX1_isCare_X1_isIn : GoodIn wsX1_isCare (va_wsS RX1 48 yX1_isIn wsX1_isIn) := goodIn_app (goodIn_of _ (by decide +kernel)) ggX1_isCare_X1_isIn
theorem dX1_isCare_0 : decode cX1_isCare 0 = .ok (.iload_n 0, 1) := by decide +kernel
theorem dX1_isCare_1 : decode cX1_isCare 1 = .ok (.iconst 0, 1) := by decide +kernel
theorem dX1_isCare_2 : decode cX1_isCare 2 = .ok (.iconst 2, 1) := by decide +kernel
theorem dX1_isCare_3 : decode cX1_isCare 3 = .ok (.invokestatic 48, 3) := by decide +kernel
theorem dX1_isCare_6 : decode cX1_isCare 6 = .ok (.ireturn, 1) := by decide +kernel
set_option maxRecDepth 20000 in
theorem ggX1_add_X1_isIn : GoodIn wsX1_add wsX1_isIn := goodIn_r _ [11] (by decide +kernel) (by decide +kernel)
set_option maxRecDepth 20000 in
theorem gX1_add_X1_isIn : GoodIn wsX1_add (va_wsS RX1 48 yX1_isIn wsX1_isIn) := goodIn_app (goodIn_of _ (by decide +kernel)) ggX1_add_X1_isIn
set_option maxRecDepth 20000 in
theorem ggX1_add_X1_isColour : GoodIn wsX1_add wsX1_isColour := goodIn_r _ [14, 8, 9, 10, 11] (by decide +kernel) (by decide +kernel)
set_option maxRecDepth 20000 in
theorem gX1_add_X1_isColour : GoodIn wsX1_add (va_wsS RX1 52 yX1_isColour wsX1_isColour) := goodIn_app (goodIn_of _ (by decide +kernel)) ggX1_add_X1_isColour
set_option maxRecDepth 20000 in
theorem ggX1_add_X1_isCare : GoodIn wsX1_add wsX1_isCare := goodIn_r _ [17, 8, 9, 10, 11] (by decide +kernel) (by decide +kernel)
set_option maxRecDepth 20000 in
theorem gX1_add_X1_isCare : GoodIn wsX1_add (va_wsS RX1 56 yX1_isCare wsX1_isCare) := goodIn_app (goodIn_of _ (by decide +kernel)) ggX1_add_X1_isCare
set_option maxRecDepth 20000 in
theorem ggX1_add_X1_goes : GoodIn wsX1_add wsX1_goes := goodIn_r _ [21, 22, 23, 24, 25, 26, 27, 28, 29, 30, 31, 32, 33, 34, 35] (by decide +kernel) (by decide +kernel)
set_option maxRecDepth 20000 in
theorem gX1_add_X1_goes : GoodIn wsX1_add (wsV RX1 59 RX1 yX1_goes wsX1_goes) := goodIn_app (goodIn_of _ (by decide +kernel)) ggX1_add_X1_goes
theorem dX1_add_0 : decode cX1_add 0 = .ok (.iload_n 1, 1) := by decide +kernel
theorem dX1_add_1 : decode cX1_add 1 = .ok (.iconst 0, 1) := by decide +kernel
theorem dX1_add_2 : decode cX1_add 2 = .ok (.iconst 2, 1) := by decide +kernel
theorem dX1_add_3 : decode cX1_add 3 = .ok (.invokestatic 48, 3) := by decide +kernel
theorem dX1_add_6 : decode cX1_add 6 = .ok (.ifCond .eq 43, 3) := by decide +kernel
theorem dX1_add_9 : decode cX1_add 9 = .ok (.iload_n 2, 1) := by decide +kernel
theorem dX1_add_10 : decode cX1_add 10 = .ok (.invokestatic 52, 3) := by decide +kernel
theorem dX1_add_13 : decode cX1_add 13 = .ok (.ifCond .eq 36, 3) := by decide +kernel
theorem dX1_add_16 : decode cX1_add 16 = .ok (.iload_n 3, 1) := by decide +kernel
theorem dX1_add_17 : decode cX1_add 17 = .ok (.iconst 0, 1) := by decide +kernel
theorem dX1_add_18 : decode cX1_add 18 = .ok (.bipush 10, 2) := by decide +kernel
theorem dX1_add_20 : decode cX1_add 20 = .ok (.invokestatic 48, 3) := by decide +kernel
theorem dX1_add_23 : decode cX1_add 23 = .ok (.ifCond .eq 26, 3) := by decide +kernel
theorem dX1_add_26 : decode cX1_add 26 = .ok (.iload 4, 2) := by decide +kernel
theorem dX1_add_28 : decode cX1_add 28 = .ok (.iconst 1, 1) := by decide +kernel
theorem dX1_add_29 : decode cX1_add 29 = .ok (.bipush 9, 2) := by decide +kernel
theorem dX1_add_31 : decode cX1_add 31 = .ok (.invokestatic 48, 3) := by decide +kernel
theorem dX1_add_34 : decode cX1_add 34 = .ok (.ifCond .eq 15, 3) := by decide +kernel
theorem dX1_add_37 : decode cX1_add 37 = .ok (.iload 5, 2) := by decide +kernel
theorem dX1_add_39 : decode cX1_add 39 = .ok (.invokestatic 56, 3) := by decide +kernel
theorem dX1_add_42 : decode cX1_add 42 = .ok (.ifCond .eq 7, 3) := by decide +kernel
theorem dX1_add_45 : decode cX1_add 45 = .ok (.iconst 1, 1) := by decide +kernel
theorem dX1_add_46 : decode cX1_add 46 = .ok (.goto 4, 3) := by decide +kernel
theorem dX1_add_49 : decode cX1_add 49 = .ok (.iconst 0, 1) := by decide +kernel
theorem dX1_add_50 : decode cX1_add 50 = .ok (.istore 6, 2) := by decide +kernel
theorem dX1_add_52 : decode cX1_add 52 = .ok (.aload_n 0, 1) := by decide +kernel
theorem dX1_add_53 : decode cX1_add 53 = .ok (.iload 6, 2) := by decide +kernel
theorem dX1_add_55 : decode cX1_add 55 = .ok (.ifCond .ne 7, 3) := by decide +kernel
theorem dX1_add_58 : decode cX1_add 58 = .ok (.iconst 1, 1) := by decide +kernel
theorem dX1_add_59 : decode cX1_add 59 = .ok (.goto 17, 3) := by decide +kernel
theorem dX1_add_62 : decode cX1_add 62 = .ok (.aload_n 0, 1) := by decide +kernel
theorem dX1_add_63 : decode cX1_add 63 = .ok (.getfield 45, 3) := by decide +kernel
theorem dX1_add_66 : decode cX1_add 66 = .ok (.bipush 12, 2) := by decide +kernel
theorem dX1_add_68 : decode cX1_add 68 = .ok (.if_icmp .ne 7, 3) := by decide +kernel
theorem dX1_add_71 : decode cX1_add 71 = .ok (.iconst 2, 1) := by decide +kernel
theorem dX1_add_72 : decode cX1_add 72 = .ok (.goto 4, 3) := by decide +kernel
theorem dX1_add_75 : decode cX1_add 75 = .ok (.iconst 0, 1) := by decide +kernel
theorem dX1_add_76 : decode cX1_add 76 = .ok (.invokevirtual 59, 3) := by decide +kernel
theorem dX1_add_79 : decode cX1_add 79 = .ok (.ifCond .ne 5, 3) := by decide +kernel
theorem dX1_add_82 : decode cX1_add 82 = .ok (.iconst 0, 1) := by decide +kernel
theorem dX1_add_83 : decode cX1_add 83 = .ok (.ireturn, 1) := by decide +kernel
theorem dX1_add_84 : decode cX1_add 84 = .ok (.aload_n 0, 1) := by decide +kernel
theorem dX1_add_85 : decode cX1_add 85 = .ok (.getfield 13, 3) := by decide +kernel
theorem dX1_add_88 : decode cX1_add 88 = .ok (.aload_n 0, 1) := by decide +kernel
theorem dX1_add_89 : decode cX1_add 89 = .ok (.getfield 45, 3) := by decide +kernel
theorem dX1_add_92 : decode cX1_add 92 = .ok (.iload_n 1, 1) := by decide +kernel
theorem dX1_add_93 : decode cX1_add 93 = .ok (.iastore, 1) := by decide +kernel
theorem dX1_add_94 : decode cX1_add 94 = .ok (.aload_n 0, 1) := by decide +kernel
theorem dX1_add_95 : decode cX1_add 95 = .ok (.getfield 17, 3) := by decide +kernel
theorem dX1_add_98 : decode cX1_add 98 = .ok (.aload_n 0, 1) := by decide +kernel
theorem dX1_add_99 : decode cX1_add 99 = .ok (.getfield 45, 3) := by decide +kernel
theorem dX1_add_102 : decode cX1_add 102 = .ok (.iload_n 2, 1) := by decide +kernel
theorem dX1_add_103 : decode cX1_add 103 = .ok (.iastore, 1) := by decide +kernel
theorem dX1_add_104 : decode cX1_add 104 = .ok (.aload_n 0, 1) := by decide +kernel
theorem dX1_add_105 : decode cX1_add 105 = .ok (.getfield 20, 3) := by decide +kernel
theorem dX1_add_108 : decode cX1_add 108 = .ok (.aload_n 0, 1) := by decide +kernel
theorem dX1_add_109 : decode cX1_add 109 = .ok (.getfield 45, 3) := by decide +kernel
theorem dX1_add_112 : decode cX1_add 112 = .ok (.iload_n 3, 1) := by decide +kernel
theorem dX1_add_113 : decode cX1_add 113 = .ok (.iastore, 1) := by decide +kernel
theorem dX1_add_114 : decode cX1_add 114 = .ok (.aload_n 0, 1) := by decide +kernel
theorem dX1_add_115 : decode cX1_add 115 = .ok (.getfield 23, 3) := by decide +kernel
theorem dX1_add_118 : decode cX1_add 118 = .ok (.aload_n 0, 1) := by decide +kernel
theorem dX1_add_119 : decode cX1_add 119 = .ok (.getfield 45, 3) := by decide +kernel
theorem dX1_add_122 : decode cX1_add 122 = .ok (.iload 4, 2) := by decide +kernel
theorem dX1_add_124 : decode cX1_add 124 = .ok (.iastore, 1) := by decide +kernel
theorem dX1_add_125 : decode cX1_add 125 = .ok (.aload_n 0, 1) := by decide +kernel
theorem dX1_add_126 : decode cX1_add 126 = .ok (.getfield 26, 3) := by decide +kernel
theorem dX1_add_129 : decode cX1_add 129 = .ok (.aload_n 0, 1) := by decide +kernel
theorem dX1_add_130 : decode cX1_add 130 = .ok (.getfield 45, 3) := by decide +kernel
theorem dX1_add_133 : decode cX1_add 133 = .ok (.iload 5, 2) := by decide +kernel
theorem dX1_add_135 : decode cX1_add 135 = .ok (.iastore, 1) := by decide +kernel
theorem dX1_add_136 : decode cX1_add 136 = .ok (.aload_n 0, 1) := by decide +kernel
theorem dX1_add_137 : decode cX1_add 137 = .ok (.getfield 29, 3) := by decide +kernel
theorem dX1_add_140 : decode cX1_add 140 = .ok (.aload_n 0, 1) := by decide +kernel
theorem dX1_add_141 : decode cX1_add 141 = .ok (.getfield 45, 3) := by decide +kernel
theorem dX1_add_144 : decode cX1_add 144 = .ok (.iload 4, 2) := by decide +kernel
theorem dX1_add_146 : decode cX1_add 146 = .ok (.iastore, 1) := by decide +kernel
theorem dX1_add_147 : decode cX1_add 147 = .ok (.aload_n 0, 1) := by decide +kernel
theorem dX1_add_148 : decode cX1_add 148 = .ok (.dup, 1) := by decide +kernel
theorem dX1_add_149 : decode cX1_add 149 = .ok (.getfield 45, 3) := by decide +kernel
theorem dX1_add_152 : decode cX1_add 152 = .ok (.iconst 1, 1) := by decide +kernel
theorem dX1_add_153 : decode cX1_add 153 = .ok (.iadd, 1) := by decide +kernel
theorem dX1_add_154 : decode cX1_add 154 = .ok (.putfield 45, 3) := by decide +kernel
theorem dX1_add_157 : decode cX1_add 157 = .ok (.aload_n 0, 1) := by decide +kernel
theorem dX1_add_158 : decode cX1_add 158 = .ok (.getfield 45, 3) := by decide +kernel
theorem dX1_add_161 : decode cX1_add 161 = .ok (.iconst 1, 1) := by decide +kernel
theorem dX1_add_162 : decode cX1_add 162 = .ok (.isub, 1) := by decide +kernel
theorem dX1_add_163 : decode cX1_add 163 = .ok (.ireturn, 1) := by decide +kernel
theorem dX1_here_0 : decode cX1_here 0 = .ok (.iconst 0, 1) := by decide +kernel
theorem dX1_here_1 : decode cX1_here 1 = .ok (.istore_n 1, 1) := by decide +kernel
theorem dX1_here_2 : decode cX1_here 2 = .ok (.iconst 0, 1) := by decide +kernel
theorem dX1_here_3 : decode cX1_here 3 = .ok (.istore_n 2, 1) := by decide +kernel
theorem dX1_here_4 : decode cX1_here 4 = .ok (.iload_n 2, 1) := by decide +kernel
theorem dX1_here_5 : decode cX1_here 5 = .ok (.aload_n 0, 1) := by decide +kernel
theorem dX1_here_6 : decode cX1_here 6 = .ok (.getfield 45, 3) := by decide +kernel
theorem dX1_here_9 : decode cX1_here 9 = .ok (.if_icmp .ge 26, 3) := by decide +kernel
theorem dX1_here_12 : decode cX1_here 12 = .ok (.iload_n 1, 1) := by decide +kernel
theorem dX1_here_13 : decode cX1_here 13 = .ok (.aload_n 0, 1) := by decide +kernel
theorem dX1_here_14 : decode cX1_here 14 = .ok (.getfield 7, 3) := by decide +kernel
theorem dX1_here_17 : decode cX1_here 17 = .ok (.iload_n 2, 1) := by decide +kernel
theorem dX1_here_18 : decode cX1_here 18 = .ok (.baload, 1) := by decide +kernel
theorem dX1_here_19 : decode cX1_here 19 = .ok (.ifCond .eq 7, 3) := by decide +kernel
theorem dX1_here_22 : decode cX1_here 22 = .ok (.iconst 0, 1) := by decide +kernel
theorem dX1_here_23 : decode cX1_here 23 = .ok (.goto 4, 3) := by decide +kernel
theorem dX1_here_26 : decode cX1_here 26 = .ok (.iconst 1, 1) := by decide +kernel
theorem dX1_here_27 : decode cX1_here 27 = .ok (.iadd, 1) := by decide +kernel
theorem dX1_here_28 : decode cX1_here 28 = .ok (.istore_n 1, 1) := by decide +kernel
theorem dX1_here_29 : decode cX1_here 29 = .ok (.iinc 2 1, 3) := by decide +kernel
theorem dX1_here_32 : decode cX1_here 32 = .ok (.goto (-28), 3) := by decide +kernel
theorem dX1_here_35 : decode cX1_here 35 = .ok (.iload_n 1, 1) := by decide +kernel
theorem dX1_here_36 : decode cX1_here 36 = .ok (.ireturn, 1) := by decide +kernel
set_option maxRecDepth 20000 in
theorem ggX1_giveAway_X1_isThing : GoodIn wsX1_giveAway wsX1_isThing := goodIn_r _ [6, 7, 1, 8, 9, 5, 10, 20, 21, 22, 23, 24, 25, 26, 27, 28, 29, 30, 31, 32] (by decide +kernel) (by decide +kernel)
set_option maxRecDepth 20000 in
theorem gX1_giveAway_X1_isThing : GoodIn wsX1_giveAway (wsV RX1 62 RX1 yX1_isThing wsX1_isThing) := goodIn_app (goodIn_of _ (by decide +kernel)) ggX1_giveAway_X1_isThing
set_option maxRecDepth 20000 in
theorem ggX1_giveAway_X1_goes : GoodIn wsX1_giveAway wsX1_goes := goodIn_r _ [14, 15, 20, 21, 22, 23, 24, 25, 26, 27, 28, 29, 30, 31, 32] (by decide +kernel) (by decide +kernel)
set_option maxRecDepth 20000 in
theorem gX1_giveAway_X1_goes : GoodIn wsX1_giveAway (wsV RX1 59 RX1 yX1_goes wsX1_goes) := goodIn_app (goodIn_of _ (by decide +kernel)) ggX1_giveAway_X1_goes
set_option maxRecDepth 20000 in
theorem ggX1_giveAway_X1_here : GoodIn wsX1_giveAway wsX1_here := goodIn_r _ [19, 7, 1, 20, 21, 22, 23, 24, 25, 26, 27, 28, 29, 30, 31, 32] (by decide +kernel) (by decide +kernel)
set_option maxRecDepth 20000 in
theorem gX1_giveAway_X1_here : GoodIn wsX1_giveAway (wsV RX1 65 RX1 yX1_here wsX1_here) := goodIn_app (goodIn_of _ (by decide +kernel)) ggX1_giveAway_X1_here
theorem dX1_giveAway_0 : decode cX1_giveAway 0 = .ok (.aload_n 0, 1) := by decide +kernel
theorem dX1_giveAway_1 : decode cX1_giveAway 1 = .ok (.aload_n 0, 1) := by decide +kernel
theorem dX1_giveAway_2 : decode cX1_giveAway 2 = .ok (.iload_n 1, 1) := by decide +kernel
theorem dX1_giveAway_3 : decode cX1_giveAway 3 = .ok (.invokevirtual 62, 3) := by decide +kernel
theorem dX1_giveAway_6 : decode cX1_giveAway 6 = .ok (.ifCond .eq 7, 3) := by decide +kernel
theorem dX1_giveAway_9 : decode cX1_giveAway 9 = .ok (.iconst 0, 1) := by decide +kernel
theorem dX1_giveAway_10 : decode cX1_giveAway 10 = .ok (.goto 4, 3) := by decide +kernel
theorem dX1_giveAway_13 : decode cX1_giveAway 13 = .ok (.iconst 1, 1) := by decide +kernel
theorem dX1_giveAway_14 : decode cX1_giveAway 14 = .ok (.invokevirtual 59, 3) := by decide +kernel
theorem dX1_giveAway_17 : decode cX1_giveAway 17 = .ok (.ifCond .ne 5, 3) := by decide +kernel
theorem dX1_giveAway_20 : decode cX1_giveAway 20 = .ok (.iconst 0, 1) := by decide +kernel
theorem dX1_giveAway_21 : decode cX1_giveAway 21 = .ok (.ireturn, 1) := by decide +kernel
theorem dX1_giveAway_22 : decode cX1_giveAway 22 = .ok (.aload_n 0, 1) := by decide +kernel
theorem dX1_giveAway_23 : decode cX1_giveAway 23 = .ok (.getfield 7, 3) := by decide +kernel
theorem dX1_giveAway_26 : decode cX1_giveAway 26 = .ok (.iload_n 1, 1) := by decide +kernel
theorem dX1_giveAway_27 : decode cX1_giveAway 27 = .ok (.iconst 1, 1) := by decide +kernel
theorem dX1_giveAway_28 : decode cX1_giveAway 28 = .ok (.bastore, 1) := by decide +kernel
theorem dX1_giveAway_29 : decode cX1_giveAway 29 = .ok (.aload_n 0, 1) := by decide +kernel
theorem dX1_giveAway_30 : decode cX1_giveAway 30 = .ok (.invokevirtual 65, 3) := by decide +kernel
theorem dX1_giveAway_33 : decode cX1_giveAway 33 = .ok (.ireturn, 1) := by decide +kernel
set_option maxRecDepth 20000 in
theorem ggX1_setClash_X1_isColour : GoodIn wsX1_setClash wsX1_isColour := goodIn_r _ [5, 6, 7, 4, 8] (by decide +kernel) (by decide +kernel)
set_option maxRecDepth 20000 in
theorem gX1_setClash_X1_isColour : GoodIn wsX1_setClash (va_wsS RX1 52 yX1_isColour wsX1_isColour) := goodIn_app (goodIn_of _ (by decide +kernel)) ggX1_setClash_X1_isColour
set_option maxRecDepth 20000 in
theorem ggX1_setClash_X1_goes : GoodIn wsX1_setClash wsX1_goes := goodIn_r _ [12, 13, 14, 15, 16, 17, 18, 19, 20, 21, 22, 23, 24, 25, 26] (by decide +kernel) (by decide +kernel)
set_option maxRecDepth 20000 in
theorem gX1_setClash_X1_goes : GoodIn wsX1_setClash (wsV RX1 59 RX1 yX1_goes wsX1_goes) := goodIn_app (goodIn_of _ (by decide +kernel)) ggX1_setClash_X1_goes
theorem dX1_setClash_0 : decode cX1_setClash 0 = .ok (.aload_n 0, 1) := by decide +kernel
theorem dX1_setClash_1 : decode cX1_setClash 1 = .ok (.iload_n 1, 1) := by decide +kernel
theorem dX1_setClash_2 : decode cX1_setClash 2 = .ok (.invokestatic 52, 3) := by decide +kernel
theorem dX1_setClash_5 : decode cX1_setClash 5 = .ok (.ifCond .eq 14, 3) := by decide +kernel
theorem dX1_setClash_8 : decode cX1_setClash 8 = .ok (.iload_n 2, 1) := by decide +kernel
theorem dX1_setClash_9 : decode cX1_setClash 9 = .ok (.invokestatic 52, 3) := by decide +kernel
theorem dX1_setClash_12 : decode cX1_setClash 12 = .ok (.ifCond .eq 7, 3) := by decide +kernel
theorem dX1_setClash_15 : decode cX1_setClash 15 = .ok (.iconst 0, 1) := by decide +kernel
theorem dX1_setClash_16 : decode cX1_setClash 16 = .ok (.goto 4, 3) := by decide +kernel
theorem dX1_setClash_19 : decode cX1_setClash 19 = .ok (.iconst 1, 1) := by decide +kernel
theorem dX1_setClash_20 : decode cX1_setClash 20 = .ok (.invokevirtual 59, 3) := by decide +kernel
theorem dX1_setClash_23 : decode cX1_setClash 23 = .ok (.ifCond .ne 5, 3) := by decide +kernel
theorem dX1_setClash_26 : decode cX1_setClash 26 = .ok (.iconst 0, 1) := by decide +kernel
theorem dX1_setClash_27 : decode cX1_setClash 27 = .ok (.ireturn, 1) := by decide +kernel
theorem dX1_setClash_28 : decode cX1_setClash 28 = .ok (.aload_n 0, 1) := by decide +kernel
theorem dX1_setClash_29 : decode cX1_setClash 29 = .ok (.getfield 32, 3) := by decide +kernel
theorem dX1_setClash_32 : decode cX1_setClash 32 = .ok (.bipush 8, 2) := by decide +kernel
theorem dX1_setClash_34 : decode cX1_setClash 34 = .ok (.iload_n 1, 1) := by decide +kernel
theorem dX1_setClash_35 : decode cX1_setClash 35 = .ok (.imul, 1) := by decide +kernel
theorem dX1_setClash_36 : decode cX1_setClash 36 = .ok (.iload_n 2, 1) := by decide +kernel
theorem dX1_setClash_37 : decode cX1_setClash 37 = .ok (.iadd, 1) := by decide +kernel
theorem dX1_setClash_38 : decode cX1_setClash 38 = .ok (.baload, 1) := by decide +kernel
theorem dX1_setClash_39 : decode cX1_setClash 39 = .ok (.istore 4, 2) := by decide +kernel
theorem dX1_setClash_41 : decode cX1_setClash 41 = .ok (.aload_n 0, 1) := by decide +kernel
theorem dX1_setClash_42 : decode cX1_setClash 42 = .ok (.getfield 32, 3) := by decide +kernel
theorem dX1_setClash_45 : decode cX1_setClash 45 = .ok (.bipush 8, 2) := by decide +kernel
theorem dX1_setClash_47 : decode cX1_setClash 47 = .ok (.iload_n 1, 1) := by decide +kernel
theorem dX1_setClash_48 : decode cX1_setClash 48 = .ok (.imul, 1) := by decide +kernel
theorem dX1_setClash_49 : decode cX1_setClash 49 = .ok (.iload_n 2, 1) := by decide +kernel
theorem dX1_setClash_50 : decode cX1_setClash 50 = .ok (.iadd, 1) := by decide +kernel
theorem dX1_setClash_51 : decode cX1_setClash 51 = .ok (.iload_n 3, 1) := by decide +kernel
theorem dX1_setClash_52 : decode cX1_setClash 52 = .ok (.bastore, 1) := by decide +kernel
theorem dX1_setClash_53 : decode cX1_setClash 53 = .ok (.aload_n 0, 1) := by decide +kernel
theorem dX1_setClash_54 : decode cX1_setClash 54 = .ok (.getfield 32, 3) := by decide +kernel
theorem dX1_setClash_57 : decode cX1_setClash 57 = .ok (.bipush 8, 2) := by decide +kernel
theorem dX1_setClash_59 : decode cX1_setClash 59 = .ok (.iload_n 2, 1) := by decide +kernel
theorem dX1_setClash_60 : decode cX1_setClash 60 = .ok (.imul, 1) := by decide +kernel
theorem dX1_setClash_61 : decode cX1_setClash 61 = .ok (.iload_n 1, 1) := by decide +kernel
theorem dX1_setClash_62 : decode cX1_setClash 62 = .ok (.iadd, 1) := by decide +kernel
theorem dX1_setClash_63 : decode cX1_setClash 63 = .ok (.iload_n 3, 1) := by decide +kernel
theorem dX1_setClash_64 : decode cX1_setClash 64 = .ok (.bastore, 1) := by decide +kernel
theorem dX1_setClash_65 : decode cX1_setClash 65 = .ok (.iload 4, 2) := by decide +kernel
theorem dX1_setClash_67 : decode cX1_setClash 67 = .ok (.ireturn, 1) := by decide +kernel
set_option maxRecDepth 20000 in
theorem ggX1_things_X1_here : GoodIn wsX1_things wsX1_here := goodIn_r _ [6, 7, 8, 9, 10, 11, 12, 13, 14, 15, 16, 17, 18, 19, 20, 21] (by decide +kernel) (by decide +kernel)
set_option maxRecDepth 20000 in
theorem gX1_things_X1_here : GoodIn wsX1_things (wsV RX1 65 RX1 yX1_here wsX1_here) := goodIn_app (goodIn_of _ (by decide +kernel)) ggX1_things_X1_here
theorem dX1_things_0 : decode cX1_things 0 = .ok (.aload_n 0, 1) := by decide +kernel
theorem dX1_things_1 : decode cX1_things 1 = .ok (.iconst 0, 1) := by decide +kernel
theorem dX1_things_2 : decode cX1_things 2 = .ok (.putfield 41, 3) := by decide +kernel
theorem dX1_things_5 : decode cX1_things 5 = .ok (.aload_n 0, 1) := by decide +kernel
theorem dX1_things_6 : decode cX1_things 6 = .ok (.invokevirtual 65, 3) := by decide +kernel
theorem dX1_things_9 : decode cX1_things 9 = .ok (.ireturn, 1) := by decide +kernel
set_option maxRecDepth 20000 in
theorem ggX1_left_X1_isThing : GoodIn wsX1_left wsX1_isThing := goodIn_r _ [6, 7, 8, 9, 10, 5, 11, 17, 18, 19, 20, 21, 22, 23, 24, 25, 26, 27, 28, 29] (by decide +kernel) (by decide +kernel)
set_option maxRecDepth 20000 in
theorem gX1_left_X1_isThing : GoodIn wsX1_left (wsV RX1 62 RX1 yX1_isThing wsX1_isThing) := goodIn_app (goodIn_of _ (by decide +kernel)) ggX1_left_X1_isThing
set_option maxRecDepth 20000 in
theorem ggX1_left_X1_goes : GoodIn wsX1_left wsX1_goes := goodIn_r _ [15, 16, 17, 18, 19, 20, 21, 22, 23, 24, 25, 26, 27, 28, 29] (by decide +kernel) (by decide +kernel)
set_option maxRecDepth 20000 in
theorem gX1_left_X1_goes : GoodIn wsX1_left (wsV RX1 59 RX1 yX1_goes wsX1_goes) := goodIn_app (goodIn_of _ (by decide +kernel)) ggX1_left_X1_goes
theorem dX1_left_0 : decode cX1_left 0 = .ok (.aload_n 0, 1) := by decide +kernel
theorem dX1_left_1 : decode cX1_left 1 = .ok (.aload_n 0, 1) := by decide +kernel
theorem dX1_left_2 : decode cX1_left 2 = .ok (.iload_n 1, 1) := by decide +kernel
theorem dX1_left_3 : decode cX1_left 3 = .ok (.invokevirtual 62, 3) := by decide +kernel
theorem dX1_left_6 : decode cX1_left 6 = .ok (.ifCond .eq 7, 3) := by decide +kernel
theorem dX1_left_9 : decode cX1_left 9 = .ok (.iconst 0, 1) := by decide +kernel
theorem dX1_left_10 : decode cX1_left 10 = .ok (.goto 4, 3) := by decide +kernel
theorem dX1_left_13 : decode cX1_left 13 = .ok (.iconst 1, 1) := by decide +kernel
theorem dX1_left_14 : decode cX1_left 14 = .ok (.invokevirtual 59, 3) := by decide +kernel
theorem dX1_left_17 : decode cX1_left 17 = .ok (.ifCond .eq 12, 3) := by decide +kernel
theorem dX1_left_20 : decode cX1_left 20 = .ok (.aload_n 0, 1) := by decide +kernel
theorem dX1_left_21 : decode cX1_left 21 = .ok (.getfield 29, 3) := by decide +kernel
theorem dX1_left_24 : decode cX1_left 24 = .ok (.iload_n 1, 1) := by decide +kernel
theorem dX1_left_25 : decode cX1_left 25 = .ok (.iaload, 1) := by decide +kernel
theorem dX1_left_26 : decode cX1_left 26 = .ok (.goto 4, 3) := by decide +kernel
theorem dX1_left_29 : decode cX1_left 29 = .ok (.iconst 0, 1) := by decide +kernel
theorem dX1_left_30 : decode cX1_left 30 = .ok (.ireturn, 1) := by decide +kernel
theorem dX1_doClash_0 : decode cX1_doClash 0 = .ok (.aload_n 0, 1) := by decide +kernel
theorem dX1_doClash_1 : decode cX1_doClash 1 = .ok (.getfield 32, 3) := by decide +kernel
theorem dX1_doClash_4 : decode cX1_doClash 4 = .ok (.bipush 8, 2) := by decide +kernel
theorem dX1_doClash_6 : decode cX1_doClash 6 = .ok (.aload_n 0, 1) := by decide +kernel
theorem dX1_doClash_7 : decode cX1_doClash 7 = .ok (.getfield 17, 3) := by decide +kernel
theorem dX1_doClash_10 : decode cX1_doClash 10 = .ok (.iload_n 1, 1) := by decide +kernel
theorem dX1_doClash_11 : decode cX1_doClash 11 = .ok (.iaload, 1) := by decide +kernel
theorem dX1_doClash_12 : decode cX1_doClash 12 = .ok (.imul, 1) := by decide +kernel
theorem dX1_doClash_13 : decode cX1_doClash 13 = .ok (.aload_n 0, 1) := by decide +kernel
theorem dX1_doClash_14 : decode cX1_doClash 14 = .ok (.getfield 17, 3) := by decide +kernel
theorem dX1_doClash_17 : decode cX1_doClash 17 = .ok (.iload_n 2, 1) := by decide +kernel
theorem dX1_doClash_18 : decode cX1_doClash 18 = .ok (.iaload, 1) := by decide +kernel
theorem dX1_doClash_19 : decode cX1_doClash 19 = .ok (.iadd, 1) := by decide +kernel
theorem dX1_doClash_20 : decode cX1_doClash 20 = .ok (.baload, 1) := by decide +kernel
theorem dX1_doClash_21 : decode cX1_doClash 21 = .ok (.ireturn, 1) := by decide +kernel
set_option maxRecDepth 20000 in
theorem ggX1_wrong_X1_isThing : GoodIn wsX1_wrong wsX1_isThing := goodIn_r _ [6, 7, 8, 9, 10, 5, 11, 12, 13, 14, 15, 16, 17, 18, 19, 20, 21, 22, 23, 24] (by decide +kernel) (by decide +kernel)
set_option maxRecDepth 20000 in
theorem gX1_wrong_X1_isThing : GoodIn wsX1_wrong (wsV RX1 62 RX1 yX1_isThing wsX1_isThing) := goodIn_app (goodIn_of _ (by decide +kernel)) ggX1_wrong_X1_isThing
theorem dX1_wrong_0 : decode cX1_wrong 0 = .ok (.aload_n 0, 1) := by decide +kernel
theorem dX1_wrong_1 : decode cX1_wrong 1 = .ok (.iload_n 1, 1) := by decide +kernel
theorem dX1_wrong_2 : decode cX1_wrong 2 = .ok (.invokevirtual 62, 3) := by decide +kernel
theorem dX1_wrong_5 : decode cX1_wrong 5 = .ok (.ifCond .eq 28, 3) := by decide +kernel
theorem dX1_wrong_8 : decode cX1_wrong 8 = .ok (.aload_n 0, 1) := by decide +kernel
theorem dX1_wrong_9 : decode cX1_wrong 9 = .ok (.iload_n 2, 1) := by decide +kernel
theorem dX1_wrong_10 : decode cX1_wrong 10 = .ok (.invokevirtual 62, 3) := by decide +kernel
theorem dX1_wrong_13 : decode cX1_wrong 13 = .ok (.ifCond .eq 20, 3) := by decide +kernel
theorem dX1_wrong_16 : decode cX1_wrong 16 = .ok (.iload_n 3, 1) := by decide +kernel
theorem dX1_wrong_17 : decode cX1_wrong 17 = .ok (.iconst (-1), 1) := by decide +kernel
theorem dX1_wrong_18 : decode cX1_wrong 18 = .ok (.if_icmp .eq 11, 3) := by decide +kernel
theorem dX1_wrong_21 : decode cX1_wrong 21 = .ok (.aload_n 0, 1) := by decide +kernel
theorem dX1_wrong_22 : decode cX1_wrong 22 = .ok (.iload_n 3, 1) := by decide +kernel
theorem dX1_wrong_23 : decode cX1_wrong 23 = .ok (.invokevirtual 62, 3) := by decide +kernel
theorem dX1_wrong_26 : decode cX1_wrong 26 = .ok (.ifCond .eq 7, 3) := by decide +kernel
theorem dX1_wrong_29 : decode cX1_wrong 29 = .ok (.iconst 1, 1) := by decide +kernel
theorem dX1_wrong_30 : decode cX1_wrong 30 = .ok (.goto 4, 3) := by decide +kernel
theorem dX1_wrong_33 : decode cX1_wrong 33 = .ok (.iconst 0, 1) := by decide +kernel
theorem dX1_wrong_34 : decode cX1_wrong 34 = .ok (.istore 4, 2) := by decide +kernel
theorem dX1_wrong_36 : decode cX1_wrong 36 = .ok (.iload 4, 2) := by decide +kernel
theorem dX1_wrong_38 : decode cX1_wrong 38 = .ok (.ifCond .ne 7, 3) := by decide +kernel
theorem dX1_wrong_41 : decode cX1_wrong 41 = .ok (.iconst 1, 1) := by decide +kernel
theorem dX1_wrong_42 : decode cX1_wrong 42 = .ok (.goto 42, 3) := by decide +kernel
theorem dX1_wrong_45 : decode cX1_wrong 45 = .ok (.aload_n 0, 1) := by decide +kernel
theorem dX1_wrong_46 : decode cX1_wrong 46 = .ok (.getfield 13, 3) := by decide +kernel
theorem dX1_wrong_49 : decode cX1_wrong 49 = .ok (.iload_n 1, 1) := by decide +kernel
theorem dX1_wrong_50 : decode cX1_wrong 50 = .ok (.iaload, 1) := by decide +kernel
theorem dX1_wrong_51 : decode cX1_wrong 51 = .ok (.ifCond .ne 28, 3) := by decide +kernel
theorem dX1_wrong_54 : decode cX1_wrong 54 = .ok (.aload_n 0, 1) := by decide +kernel
theorem dX1_wrong_55 : decode cX1_wrong 55 = .ok (.getfield 13, 3) := by decide +kernel
theorem dX1_wrong_58 : decode cX1_wrong 58 = .ok (.iload_n 2, 1) := by decide +kernel
theorem dX1_wrong_59 : decode cX1_wrong 59 = .ok (.iaload, 1) := by decide +kernel
theorem dX1_wrong_60 : decode cX1_wrong 60 = .ok (.iconst 1, 1) := by decide +kernel
theorem dX1_wrong_61 : decode cX1_wrong 61 = .ok (.if_icmp .ne 18, 3) := by decide +kernel
theorem dX1_wrong_64 : decode cX1_wrong 64 = .ok (.iload_n 3, 1) := by decide +kernel
theorem dX1_wrong_65 : decode cX1_wrong 65 = .ok (.iconst (-1), 1) := by decide +kernel
theorem dX1_wrong_66 : decode cX1_wrong 66 = .ok (.if_icmp .eq 17, 3) := by decide +kernel
theorem dX1_wrong_69 : decode cX1_wrong 69 = .ok (.aload_n 0, 1) := by decide +kernel
theorem dX1_wrong_70 : decode cX1_wrong 70 = .ok (.getfield 13, 3) := by decide +kernel
theorem dX1_wrong_73 : decode cX1_wrong 73 = .ok (.iload_n 3, 1) := by decide +kernel
theorem dX1_wrong_74 : decode cX1_wrong 74 = .ok (.iaload, 1) := by decide +kernel
theorem dX1_wrong_75 : decode cX1_wrong 75 = .ok (.iconst 2, 1) := by decide +kernel
theorem dX1_wrong_76 : decode cX1_wrong 76 = .ok (.if_icmp .eq 7, 3) := by decide +kernel
theorem dX1_wrong_79 : decode cX1_wrong 79 = .ok (.iconst 2, 1) := by decide +kernel
theorem dX1_wrong_80 : decode cX1_wrong 80 = .ok (.goto 4, 3) := by decide +kernel
theorem dX1_wrong_83 : decode cX1_wrong 83 = .ok (.iconst 0, 1) := by decide +kernel
theorem dX1_wrong_84 : decode cX1_wrong 84 = .ok (.ireturn, 1) := by decide +kernel
set_option maxRecDepth 20000 in
theorem ggX1_fits_X1_doClash : GoodIn wsX1_fits wsX1_doClash := goodIn_r _ [6, 7, 8, 9, 10, 11, 12, 13, 14, 15, 16, 17, 18, 19, 20, 21] (by decide +kernel) (by decide +kernel)
set_option maxRecDepth 20000 in
theorem gX1_fits_X1_doClash : GoodIn wsX1_fits (wsV RX1 69 RX1 yX1_doClash wsX1_doClash) := goodIn_app (goodIn_of _ (by decide +kernel)) ggX1_fits_X1_doClash
theorem dX1_fits_0 : decode cX1_fits 0 = .ok (.aload_n 0, 1) := by decide +kernel
theorem dX1_fits_1 : decode cX1_fits 1 = .ok (.getfield 29, 3) := by decide +kernel
theorem dX1_fits_4 : decode cX1_fits 4 = .ok (.iload_n 1, 1) := by decide +kernel
theorem dX1_fits_5 : decode cX1_fits 5 = .ok (.iaload, 1) := by decide +kernel
theorem dX1_fits_6 : decode cX1_fits 6 = .ok (.ifCond .le 25, 3) := by decide +kernel
theorem dX1_fits_9 : decode cX1_fits 9 = .ok (.aload_n 0, 1) := by decide +kernel
theorem dX1_fits_10 : decode cX1_fits 10 = .ok (.getfield 29, 3) := by decide +kernel
theorem dX1_fits_13 : decode cX1_fits 13 = .ok (.iload_n 2, 1) := by decide +kernel
theorem dX1_fits_14 : decode cX1_fits 14 = .ok (.iaload, 1) := by decide +kernel
theorem dX1_fits_15 : decode cX1_fits 15 = .ok (.ifCond .le 16, 3) := by decide +kernel
theorem dX1_fits_18 : decode cX1_fits 18 = .ok (.aload_n 0, 1) := by decide +kernel
theorem dX1_fits_19 : decode cX1_fits 19 = .ok (.iload_n 1, 1) := by decide +kernel
theorem dX1_fits_20 : decode cX1_fits 20 = .ok (.iload_n 2, 1) := by decide +kernel
theorem dX1_fits_21 : decode cX1_fits 21 = .ok (.invokevirtual 69, 3) := by decide +kernel
theorem dX1_fits_24 : decode cX1_fits 24 = .ok (.ifCond .ne 7, 3) := by decide +kernel
theorem dX1_fits_27 : decode cX1_fits 27 = .ok (.iconst 1, 1) := by decide +kernel
theorem dX1_fits_28 : decode cX1_fits 28 = .ok (.goto 4, 3) := by decide +kernel
theorem dX1_fits_31 : decode cX1_fits 31 = .ok (.iconst 0, 1) := by decide +kernel
theorem dX1_fits_32 : decode cX1_fits 32 = .ok (.istore 4, 2) := by decide +kernel
theorem dX1_fits_34 : decode cX1_fits 34 = .ok (.iload 4, 2) := by decide +kernel
theorem dX1_fits_36 : decode cX1_fits 36 = .ok (.ifCond .eq 39, 3) := by decide +kernel
theorem dX1_fits_39 : decode cX1_fits 39 = .ok (.iload_n 3, 1) := by decide +kernel
theorem dX1_fits_40 : decode cX1_fits 40 = .ok (.iconst (-1), 1) := by decide +kernel
theorem dX1_fits_41 : decode cX1_fits 41 = .ok (.if_icmp .eq 30, 3) := by decide +kernel
theorem dX1_fits_44 : decode cX1_fits 44 = .ok (.aload_n 0, 1) := by decide +kernel
theorem dX1_fits_45 : decode cX1_fits 45 = .ok (.getfield 29, 3) := by decide +kernel
theorem dX1_fits_48 : decode cX1_fits 48 = .ok (.iload_n 3, 1) := by decide +kernel
theorem dX1_fits_49 : decode cX1_fits 49 = .ok (.iaload, 1) := by decide +kernel
theorem dX1_fits_50 : decode cX1_fits 50 = .ok (.ifCond .le 25, 3) := by decide +kernel
theorem dX1_fits_53 : decode cX1_fits 53 = .ok (.aload_n 0, 1) := by decide +kernel
theorem dX1_fits_54 : decode cX1_fits 54 = .ok (.iload_n 1, 1) := by decide +kernel
theorem dX1_fits_55 : decode cX1_fits 55 = .ok (.iload_n 3, 1) := by decide +kernel
theorem dX1_fits_56 : decode cX1_fits 56 = .ok (.invokevirtual 69, 3) := by decide +kernel
theorem dX1_fits_59 : decode cX1_fits 59 = .ok (.ifCond .ne 16, 3) := by decide +kernel
theorem dX1_fits_62 : decode cX1_fits 62 = .ok (.aload_n 0, 1) := by decide +kernel
theorem dX1_fits_63 : decode cX1_fits 63 = .ok (.iload_n 2, 1) := by decide +kernel
theorem dX1_fits_64 : decode cX1_fits 64 = .ok (.iload_n 3, 1) := by decide +kernel
theorem dX1_fits_65 : decode cX1_fits 65 = .ok (.invokevirtual 69, 3) := by decide +kernel
theorem dX1_fits_68 : decode cX1_fits 68 = .ok (.ifCond .ne 7, 3) := by decide +kernel
theorem dX1_fits_71 : decode cX1_fits 71 = .ok (.iconst 1, 1) := by decide +kernel
theorem dX1_fits_72 : decode cX1_fits 72 = .ok (.goto 4, 3) := by decide +kernel
theorem dX1_fits_75 : decode cX1_fits 75 = .ok (.iconst 0, 1) := by decide +kernel
theorem dX1_fits_76 : decode cX1_fits 76 = .ok (.ireturn, 1) := by decide +kernel
theorem dX1_warmthOf_0 : decode cX1_warmthOf 0 = .ok (.aload_n 0, 1) := by decide +kernel
theorem dX1_warmthOf_1 : decode cX1_warmthOf 1 = .ok (.getfield 20, 3) := by decide +kernel
theorem dX1_warmthOf_4 : decode cX1_warmthOf 4 = .ok (.iload_n 1, 1) := by decide +kernel
theorem dX1_warmthOf_5 : decode cX1_warmthOf 5 = .ok (.iaload, 1) := by decide +kernel
theorem dX1_warmthOf_6 : decode cX1_warmthOf 6 = .ok (.aload_n 0, 1) := by decide +kernel
theorem dX1_warmthOf_7 : decode cX1_warmthOf 7 = .ok (.getfield 20, 3) := by decide +kernel
theorem dX1_warmthOf_10 : decode cX1_warmthOf 10 = .ok (.iload_n 2, 1) := by decide +kernel
theorem dX1_warmthOf_11 : decode cX1_warmthOf 11 = .ok (.iaload, 1) := by decide +kernel
theorem dX1_warmthOf_12 : decode cX1_warmthOf 12 = .ok (.iadd, 1) := by decide +kernel
theorem dX1_warmthOf_13 : decode cX1_warmthOf 13 = .ok (.iload_n 3, 1) := by decide +kernel
theorem dX1_warmthOf_14 : decode cX1_warmthOf 14 = .ok (.iconst (-1), 1) := by decide +kernel
theorem dX1_warmthOf_15 : decode cX1_warmthOf 15 = .ok (.if_icmp .ne 7, 3) := by decide +kernel
theorem dX1_warmthOf_18 : decode cX1_warmthOf 18 = .ok (.iconst 0, 1) := by decide +kernel
theorem dX1_warmthOf_19 : decode cX1_warmthOf 19 = .ok (.goto 9, 3) := by decide +kernel
theorem dX1_warmthOf_22 : decode cX1_warmthOf 22 = .ok (.aload_n 0, 1) := by decide +kernel
theorem dX1_warmthOf_23 : decode cX1_warmthOf 23 = .ok (.getfield 20, 3) := by decide +kernel
theorem dX1_warmthOf_26 : decode cX1_warmthOf 26 = .ok (.iload_n 3, 1) := by decide +kernel
theorem dX1_warmthOf_27 : decode cX1_warmthOf 27 = .ok (.iaload, 1) := by decide +kernel
theorem dX1_warmthOf_28 : decode cX1_warmthOf 28 = .ok (.iadd, 1) := by decide +kernel
theorem dX1_warmthOf_29 : decode cX1_warmthOf 29 = .ok (.ireturn, 1) := by decide +kernel
theorem dX1_isSoon_0 : decode cX1_isSoon 0 = .ok (.iconst 0, 1) := by decide +kernel
theorem dX1_isSoon_1 : decode cX1_isSoon 1 = .ok (.istore 4, 2) := by decide +kernel
theorem dX1_isSoon_3 : decode cX1_isSoon 3 = .ok (.iconst 0, 1) := by decide +kernel
theorem dX1_isSoon_4 : decode cX1_isSoon 4 = .ok (.istore 5, 2) := by decide +kernel
theorem dX1_isSoon_6 : decode cX1_isSoon 6 = .ok (.iload 5, 2) := by decide +kernel
theorem dX1_isSoon_8 : decode cX1_isSoon 8 = .ok (.bipush 8, 2) := by decide +kernel
theorem dX1_isSoon_10 : decode cX1_isSoon 10 = .ok (.if_icmp .ge 69, 3) := by decide +kernel
theorem dX1_isSoon_13 : decode cX1_isSoon 13 = .ok (.aload_n 0, 1) := by decide +kernel
theorem dX1_isSoon_14 : decode cX1_isSoon 14 = .ok (.getfield 35, 3) := by decide +kernel
theorem dX1_isSoon_17 : decode cX1_isSoon 17 = .ok (.bipush 8, 2) := by decide +kernel
theorem dX1_isSoon_19 : decode cX1_isSoon 19 = .ok (.bipush 12, 2) := by decide +kernel
theorem dX1_isSoon_21 : decode cX1_isSoon 21 = .ok (.iload_n 1, 1) := by decide +kernel
theorem dX1_isSoon_22 : decode cX1_isSoon 22 = .ok (.imul, 1) := by decide +kernel
theorem dX1_isSoon_23 : decode cX1_isSoon 23 = .ok (.iload_n 2, 1) := by decide +kernel
theorem dX1_isSoon_24 : decode cX1_isSoon 24 = .ok (.iadd, 1) := by decide +kernel
theorem dX1_isSoon_25 : decode cX1_isSoon 25 = .ok (.imul, 1) := by decide +kernel
theorem dX1_isSoon_26 : decode cX1_isSoon 26 = .ok (.iload 5, 2) := by decide +kernel
theorem dX1_isSoon_28 : decode cX1_isSoon 28 = .ok (.iadd, 1) := by decide +kernel
theorem dX1_isSoon_29 : decode cX1_isSoon 29 = .ok (.iaload, 1) := by decide +kernel
theorem dX1_isSoon_30 : decode cX1_isSoon 30 = .ok (.istore 6, 2) := by decide +kernel
theorem dX1_isSoon_32 : decode cX1_isSoon 32 = .ok (.iload 4, 2) := by decide +kernel
theorem dX1_isSoon_34 : decode cX1_isSoon 34 = .ok (.ifCond .ne 32, 3) := by decide +kernel
theorem dX1_isSoon_37 : decode cX1_isSoon 37 = .ok (.iload_n 3, 1) := by decide +kernel
theorem dX1_isSoon_38 : decode cX1_isSoon 38 = .ok (.iload 5, 2) := by decide +kernel
theorem dX1_isSoon_40 : decode cX1_isSoon 40 = .ok (.ishr, 1) := by decide +kernel
theorem dX1_isSoon_41 : decode cX1_isSoon 41 = .ok (.iconst 1, 1) := by decide +kernel
theorem dX1_isSoon_42 : decode cX1_isSoon 42 = .ok (.iand, 1) := by decide +kernel
theorem dX1_isSoon_43 : decode cX1_isSoon 43 = .ok (.iconst 1, 1) := by decide +kernel
theorem dX1_isSoon_44 : decode cX1_isSoon 44 = .ok (.if_icmp .ne 26, 3) := by decide +kernel
theorem dX1_isSoon_47 : decode cX1_isSoon 47 = .ok (.iload 6, 2) := by decide +kernel
theorem dX1_isSoon_49 : decode cX1_isSoon 49 = .ok (.ifCond .le 21, 3) := by decide +kernel
theorem dX1_isSoon_52 : decode cX1_isSoon 52 = .ok (.aload_n 0, 1) := by decide +kernel
theorem dX1_isSoon_53 : decode cX1_isSoon 53 = .ok (.getfield 73, 3) := by decide +kernel
theorem dX1_isSoon_56 : decode cX1_isSoon 56 = .ok (.iload 6, 2) := by decide +kernel
theorem dX1_isSoon_58 : decode cX1_isSoon 58 = .ok (.iconst 1, 1) := by decide +kernel
theorem dX1_isSoon_59 : decode cX1_isSoon 59 = .ok (.isub, 1) := by decide +kernel
theorem dX1_isSoon_60 : decode cX1_isSoon 60 = .ok (.isub, 1) := by decide +kernel
theorem dX1_isSoon_61 : decode cX1_isSoon 61 = .ok (.bipush 7, 2) := by decide +kernel
theorem dX1_isSoon_63 : decode cX1_isSoon 63 = .ok (.if_icmp .ge 7, 3) := by decide +kernel
theorem dX1_isSoon_66 : decode cX1_isSoon 66 = .ok (.iconst 1, 1) := by decide +kernel
theorem dX1_isSoon_67 : decode cX1_isSoon 67 = .ok (.goto 4, 3) := by decide +kernel
theorem dX1_isSoon_70 : decode cX1_isSoon 70 = .ok (.iconst 0, 1) := by decide +kernel
theorem dX1_isSoon_71 : decode cX1_isSoon 71 = .ok (.istore 4, 2) := by decide +kernel
theorem dX1_isSoon_73 : decode cX1_isSoon 73 = .ok (.iinc 5 1, 3) := by decide +kernel
theorem dX1_isSoon_76 : decode cX1_isSoon 76 = .ok (.goto (-70), 3) := by decide +kernel
theorem dX1_isSoon_79 : decode cX1_isSoon 79 = .ok (.iload 4, 2) := by decide +kernel
theorem dX1_isSoon_81 : decode cX1_isSoon 81 = .ok (.ireturn, 1) := by decide +kernel
set_option maxRecDepth 20000 in
theorem ggX1_isPossible_X1_wrong : GoodIn wsX1_isPossible wsX1_wrong := goodIn_r _ [5, 6, 7, 8, 9, 4, 10, 11, 12, 13, 14, 15, 32, 33, 34, 35, 36, 37, 38, 39, 40, 41, 42, 43, 44] (by decide +kernel) (by decide +kernel)
set_option maxRecDepth 20000 in
theorem gX1_isPossible_X1_wrong : GoodIn wsX1_isPossible (wsV RX1 76 RX1 yX1_wrong wsX1_wrong) := goodIn_app (goodIn_of _ (by decide +kernel)) ggX1_isPossible_X1_wrong
set_option maxRecDepth 20000 in
theorem ggX1_isPossible_X1_goes : GoodIn wsX1_isPossible wsX1_goes := goodIn_r _ [19, 20, 32, 33, 34, 35, 36, 37, 38, 39, 40, 41, 42, 43, 44] (by decide +kernel) (by decide +kernel)
set_option maxRecDepth 20000 in
theorem gX1_isPossible_X1_goes : GoodIn wsX1_isPossible (wsV RX1 59 RX1 yX1_goes wsX1_goes) := goodIn_app (goodIn_of _ (by decide +kernel)) ggX1_isPossible_X1_goes
set_option maxRecDepth 20000 in
theorem ggX1_isPossible_X1_fits : GoodIn wsX1_isPossible wsX1_fits := goodIn_r _ [24, 25, 26, 27, 28, 4, 29, 30, 31, 32, 33, 34, 35, 36, 37, 38, 39, 40, 41, 42, 43, 44] (by decide +kernel) (by decide +kernel)
set_option maxRecDepth 20000 in
theorem gX1_isPossible_X1_fits : GoodIn wsX1_isPossible (wsV RX1 80 RX1 yX1_fits wsX1_fits) := goodIn_app (goodIn_of _ (by decide +kernel)) ggX1_isPossible_X1_fits
theorem dX1_isPossible_0 : decode cX1_isPossible 0 = .ok (.aload_n 0, 1) := by decide +kernel
theorem dX1_isPossible_1 : decode cX1_isPossible 1 = .ok (.aload_n 0, 1) := by decide +kernel
theorem dX1_isPossible_2 : decode cX1_isPossible 2 = .ok (.iload_n 1, 1) := by decide +kernel
theorem dX1_isPossible_3 : decode cX1_isPossible 3 = .ok (.iload_n 2, 1) := by decide +kernel
theorem dX1_isPossible_4 : decode cX1_isPossible 4 = .ok (.iload_n 3, 1) := by decide +kernel
theorem dX1_isPossible_5 : decode cX1_isPossible 5 = .ok (.invokevirtual 76, 3) := by decide +kernel
theorem dX1_isPossible_8 : decode cX1_isPossible 8 = .ok (.invokevirtual 59, 3) := by decide +kernel
theorem dX1_isPossible_11 : decode cX1_isPossible 11 = .ok (.ifCond .eq 17, 3) := by decide +kernel
theorem dX1_isPossible_14 : decode cX1_isPossible 14 = .ok (.aload_n 0, 1) := by decide +kernel
theorem dX1_isPossible_15 : decode cX1_isPossible 15 = .ok (.iload_n 1, 1) := by decide +kernel
theorem dX1_isPossible_16 : decode cX1_isPossible 16 = .ok (.iload_n 2, 1) := by decide +kernel
theorem dX1_isPossible_17 : decode cX1_isPossible 17 = .ok (.iload_n 3, 1) := by decide +kernel
theorem dX1_isPossible_18 : decode cX1_isPossible 18 = .ok (.invokevirtual 80, 3) := by decide +kernel
theorem dX1_isPossible_21 : decode cX1_isPossible 21 = .ok (.ifCond .eq 7, 3) := by decide +kernel
theorem dX1_isPossible_24 : decode cX1_isPossible 24 = .ok (.iconst 1, 1) := by decide +kernel
theorem dX1_isPossible_25 : decode cX1_isPossible 25 = .ok (.goto 4, 3) := by decide +kernel
theorem dX1_isPossible_28 : decode cX1_isPossible 28 = .ok (.iconst 0, 1) := by decide +kernel
theorem dX1_isPossible_29 : decode cX1_isPossible 29 = .ok (.ireturn, 1) := by decide +kernel
set_option maxRecDepth 20000 in
theorem ggX1_isTooSoon_X1_wrong : GoodIn wsX1_isTooSoon wsX1_wrong := goodIn_r _ [5, 6, 7, 8, 9, 4, 10, 11, 12, 13, 14, 15, 30, 31, 32, 33, 34, 35, 36, 37, 38, 39, 40, 41, 42] (by decide +kernel) (by decide +kernel)
set_option maxRecDepth 20000 in
theorem gX1_isTooSoon_X1_wrong : GoodIn wsX1_isTooSoon (wsV RX1 76 RX1 yX1_wrong wsX1_wrong) := goodIn_app (goodIn_of _ (by decide +kernel)) ggX1_isTooSoon_X1_wrong
set_option maxRecDepth 20000 in
theorem ggX1_isTooSoon_X1_arePeople : GoodIn wsX1_isTooSoon wsX1_arePeople := goodIn_r _ [18, 13, 14, 4, 15] (by decide +kernel) (by decide +kernel)
set_option maxRecDepth 20000 in
theorem gX1_isTooSoon_X1_arePeople : GoodIn wsX1_isTooSoon (va_wsS RX1 83 yX1_arePeople wsX1_arePeople) := goodIn_app (goodIn_of _ (by decide +kernel)) ggX1_isTooSoon_X1_arePeople
set_option maxRecDepth 20000 in
theorem ggX1_isTooSoon_X1_goes : GoodIn wsX1_isTooSoon wsX1_goes := goodIn_r _ [22, 23, 30, 31, 32, 33, 34, 35, 36, 37, 38, 39, 40, 41, 42] (by decide +kernel) (by decide +kernel)
set_option maxRecDepth 20000 in
theorem gX1_isTooSoon_X1_goes : GoodIn wsX1_isTooSoon (wsV RX1 59 RX1 yX1_goes wsX1_goes) := goodIn_app (goodIn_of _ (by decide +kernel)) ggX1_isTooSoon_X1_goes
set_option maxRecDepth 20000 in
theorem ggX1_isTooSoon_X1_isSoon : GoodIn wsX1_isTooSoon wsX1_isSoon := goodIn_r _ [27, 28, 29, 30, 31, 32, 33, 34, 35, 36, 37, 38, 39, 40, 41, 42] (by decide +kernel) (by decide +kernel)
set_option maxRecDepth 20000 in
theorem gX1_isTooSoon_X1_isSoon : GoodIn wsX1_isTooSoon (wsV RX1 86 RX1 yX1_isSoon wsX1_isSoon) := goodIn_app (goodIn_of _ (by decide +kernel)) ggX1_isTooSoon_X1_isSoon
theorem dX1_isTooSoon_0 : decode cX1_isTooSoon 0 = .ok (.aload_n 0, 1) := by decide +kernel
theorem dX1_isTooSoon_1 : decode cX1_isTooSoon 1 = .ok (.iload_n 1, 1) := by decide +kernel
theorem dX1_isTooSoon_2 : decode cX1_isTooSoon 2 = .ok (.iload_n 2, 1) := by decide +kernel
theorem dX1_isTooSoon_3 : decode cX1_isTooSoon 3 = .ok (.iconst (-1), 1) := by decide +kernel
theorem dX1_isTooSoon_4 : decode cX1_isTooSoon 4 = .ok (.invokevirtual 76, 3) := by decide +kernel
theorem dX1_isTooSoon_7 : decode cX1_isTooSoon 7 = .ok (.istore 4, 2) := by decide +kernel
theorem dX1_isTooSoon_9 : decode cX1_isTooSoon 9 = .ok (.aload_n 0, 1) := by decide +kernel
theorem dX1_isTooSoon_10 : decode cX1_isTooSoon 10 = .ok (.iload 4, 2) := by decide +kernel
theorem dX1_isTooSoon_12 : decode cX1_isTooSoon 12 = .ok (.ifCond .eq 8, 3) := by decide +kernel
theorem dX1_isTooSoon_15 : decode cX1_isTooSoon 15 = .ok (.iload 4, 2) := by decide +kernel
theorem dX1_isTooSoon_17 : decode cX1_isTooSoon 17 = .ok (.goto 15, 3) := by decide +kernel
theorem dX1_isTooSoon_20 : decode cX1_isTooSoon 20 = .ok (.iload_n 3, 1) := by decide +kernel
theorem dX1_isTooSoon_21 : decode cX1_isTooSoon 21 = .ok (.invokestatic 83, 3) := by decide +kernel
theorem dX1_isTooSoon_24 : decode cX1_isTooSoon 24 = .ok (.ifCond .eq 7, 3) := by decide +kernel
theorem dX1_isTooSoon_27 : decode cX1_isTooSoon 27 = .ok (.iconst 0, 1) := by decide +kernel
theorem dX1_isTooSoon_28 : decode cX1_isTooSoon 28 = .ok (.goto 4, 3) := by decide +kernel
theorem dX1_isTooSoon_31 : decode cX1_isTooSoon 31 = .ok (.iconst 2, 1) := by decide +kernel
theorem dX1_isTooSoon_32 : decode cX1_isTooSoon 32 = .ok (.invokevirtual 59, 3) := by decide +kernel
theorem dX1_isTooSoon_35 : decode cX1_isTooSoon 35 = .ok (.ifCond .eq 17, 3) := by decide +kernel
theorem dX1_isTooSoon_38 : decode cX1_isTooSoon 38 = .ok (.aload_n 0, 1) := by decide +kernel
theorem dX1_isTooSoon_39 : decode cX1_isTooSoon 39 = .ok (.iload_n 1, 1) := by decide +kernel
theorem dX1_isTooSoon_40 : decode cX1_isTooSoon 40 = .ok (.iload_n 2, 1) := by decide +kernel
theorem dX1_isTooSoon_41 : decode cX1_isTooSoon 41 = .ok (.iload_n 3, 1) := by decide +kernel
theorem dX1_isTooSoon_42 : decode cX1_isTooSoon 42 = .ok (.invokevirtual 86, 3) := by decide +kernel
theorem dX1_isTooSoon_45 : decode cX1_isTooSoon 45 = .ok (.ifCond .eq 7, 3) := by decide +kernel
theorem dX1_isTooSoon_48 : decode cX1_isTooSoon 48 = .ok (.iconst 1, 1) := by decide +kernel
theorem dX1_isTooSoon_49 : decode cX1_isTooSoon 49 = .ok (.goto 4, 3) := by decide +kernel
theorem dX1_isTooSoon_52 : decode cX1_isTooSoon 52 = .ok (.iconst 0, 1) := by decide +kernel
theorem dX1_isTooSoon_53 : decode cX1_isTooSoon 53 = .ok (.ireturn, 1) := by decide +kernel
set_option maxRecDepth 20000 in
theorem ggX1_wear_X1_wrong : GoodIn wsX1_wear wsX1_wrong := goodIn_r _ [8, 9, 10, 11, 12, 7, 13, 14, 15, 16, 17, 18, 46, 47, 48, 49, 50, 51, 52, 53, 54, 55, 56, 57, 58] (by decide +kernel) (by decide +kernel)
set_option maxRecDepth 20000 in
theorem gX1_wear_X1_wrong : GoodIn wsX1_wear (wsV RX1 76 RX1 yX1_wrong wsX1_wrong) := goodIn_app (goodIn_of _ (by decide +kernel)) ggX1_wear_X1_wrong
set_option maxRecDepth 20000 in
theorem ggX1_wear_X1_arePeople : GoodIn wsX1_wear wsX1_arePeople := goodIn_r _ [21, 16, 17, 7, 18] (by decide +kernel) (by decide +kernel)
set_option maxRecDepth 20000 in
theorem gX1_wear_X1_arePeople : GoodIn wsX1_wear (va_wsS RX1 83 yX1_arePeople wsX1_arePeople) := goodIn_app (goodIn_of _ (by decide +kernel)) ggX1_wear_X1_arePeople
set_option maxRecDepth 20000 in
theorem ggX1_wear_X1_fits : GoodIn wsX1_wear wsX1_fits := goodIn_r _ [25, 1, 26, 27, 28, 7, 29, 30, 31, 46, 47, 48, 49, 50, 51, 52, 53, 54, 55, 56, 57, 58] (by decide +kernel) (by decide +kernel)
set_option maxRecDepth 20000 in
theorem gX1_wear_X1_fits : GoodIn wsX1_wear (wsV RX1 80 RX1 yX1_fits wsX1_fits) := goodIn_app (goodIn_of _ (by decide +kernel)) ggX1_wear_X1_fits
set_option maxRecDepth 20000 in
theorem ggX1_wear_X1_isSoon : GoodIn wsX1_wear wsX1_isSoon := goodIn_r _ [35, 2, 3, 46, 47, 48, 49, 50, 51, 52, 53, 54, 55, 56, 57, 58] (by decide +kernel) (by decide +kernel)
set_option maxRecDepth 20000 in
theorem gX1_wear_X1_isSoon : GoodIn wsX1_wear (wsV RX1 86 RX1 yX1_isSoon wsX1_isSoon) := goodIn_app (goodIn_of _ (by decide +kernel)) ggX1_wear_X1_isSoon
set_option maxRecDepth 20000 in
theorem ggX1_wear_X1_goes : GoodIn wsX1_wear wsX1_goes := goodIn_r _ [39, 40, 46, 47, 48, 49, 50, 51, 52, 53, 54, 55, 56, 57, 58] (by decide +kernel) (by decide +kernel)
set_option maxRecDepth 20000 in
theorem gX1_wear_X1_goes : GoodIn wsX1_wear (wsV RX1 59 RX1 yX1_goes wsX1_goes) := goodIn_app (goodIn_of _ (by decide +kernel)) ggX1_wear_X1_goes
set_option maxRecDepth 20000 in
theorem ggX1_wear_X1_warmthOf : GoodIn wsX1_wear wsX1_warmthOf := goodIn_r _ [44, 45, 46, 47, 48, 49, 50, 51, 52, 53, 54, 55, 56, 57, 58] (by decide +kernel) (by decide +kernel)
set_option maxRecDepth 20000 in
theorem gX1_wear_X1_warmthOf : GoodIn wsX1_wear (wsV RX1 89 RX1 yX1_warmthOf wsX1_warmthOf) := goodIn_app (goodIn_of _ (by decide +kernel)) ggX1_wear_X1_warmthOf
theorem dX1_wear_0 : decode cX1_wear 0 = .ok (.aload_n 0, 1) := by decide +kernel
theorem dX1_wear_1 : decode cX1_wear 1 = .ok (.iload_n 1, 1) := by decide +kernel
theorem dX1_wear_2 : decode cX1_wear 2 = .ok (.iload_n 2, 1) := by decide +kernel
theorem dX1_wear_3 : decode cX1_wear 3 = .ok (.iload_n 3, 1) := by decide +kernel
theorem dX1_wear_4 : decode cX1_wear 4 = .ok (.invokevirtual 76, 3) := by decide +kernel
theorem dX1_wear_7 : decode cX1_wear 7 = .ok (.istore 5, 2) := by decide +kernel
theorem dX1_wear_9 : decode cX1_wear 9 = .ok (.aload_n 0, 1) := by decide +kernel
theorem dX1_wear_10 : decode cX1_wear 10 = .ok (.iload 5, 2) := by decide +kernel
theorem dX1_wear_12 : decode cX1_wear 12 = .ok (.ifCond .eq 8, 3) := by decide +kernel
theorem dX1_wear_15 : decode cX1_wear 15 = .ok (.iload 5, 2) := by decide +kernel
theorem dX1_wear_17 : decode cX1_wear 17 = .ok (.goto 41, 3) := by decide +kernel
theorem dX1_wear_20 : decode cX1_wear 20 = .ok (.iload 4, 2) := by decide +kernel
theorem dX1_wear_22 : decode cX1_wear 22 = .ok (.invokestatic 83, 3) := by decide +kernel
theorem dX1_wear_25 : decode cX1_wear 25 = .ok (.ifCond .ne 7, 3) := by decide +kernel
theorem dX1_wear_28 : decode cX1_wear 28 = .ok (.iconst 2, 1) := by decide +kernel
theorem dX1_wear_29 : decode cX1_wear 29 = .ok (.goto 29, 3) := by decide +kernel
theorem dX1_wear_32 : decode cX1_wear 32 = .ok (.aload_n 0, 1) := by decide +kernel
theorem dX1_wear_33 : decode cX1_wear 33 = .ok (.iload_n 1, 1) := by decide +kernel
theorem dX1_wear_34 : decode cX1_wear 34 = .ok (.iload_n 2, 1) := by decide +kernel
theorem dX1_wear_35 : decode cX1_wear 35 = .ok (.iload_n 3, 1) := by decide +kernel
theorem dX1_wear_36 : decode cX1_wear 36 = .ok (.invokevirtual 80, 3) := by decide +kernel
theorem dX1_wear_39 : decode cX1_wear 39 = .ok (.ifCond .eq 14, 3) := by decide +kernel
theorem dX1_wear_42 : decode cX1_wear 42 = .ok (.aload_n 0, 1) := by decide +kernel
theorem dX1_wear_43 : decode cX1_wear 43 = .ok (.iload_n 1, 1) := by decide +kernel
theorem dX1_wear_44 : decode cX1_wear 44 = .ok (.iload_n 2, 1) := by decide +kernel
theorem dX1_wear_45 : decode cX1_wear 45 = .ok (.iload 4, 2) := by decide +kernel
theorem dX1_wear_47 : decode cX1_wear 47 = .ok (.invokevirtual 86, 3) := by decide +kernel
theorem dX1_wear_50 : decode cX1_wear 50 = .ok (.ifCond .eq 7, 3) := by decide +kernel
theorem dX1_wear_53 : decode cX1_wear 53 = .ok (.iconst 3, 1) := by decide +kernel
theorem dX1_wear_54 : decode cX1_wear 54 = .ok (.goto 4, 3) := by decide +kernel
theorem dX1_wear_57 : decode cX1_wear 57 = .ok (.iconst 0, 1) := by decide +kernel
theorem dX1_wear_58 : decode cX1_wear 58 = .ok (.invokevirtual 59, 3) := by decide +kernel
theorem dX1_wear_61 : decode cX1_wear 61 = .ok (.ifCond .ne 5, 3) := by decide +kernel
theorem dX1_wear_64 : decode cX1_wear 64 = .ok (.iconst 0, 1) := by decide +kernel
theorem dX1_wear_65 : decode cX1_wear 65 = .ok (.ireturn, 1) := by decide +kernel
theorem dX1_wear_66 : decode cX1_wear 66 = .ok (.aload_n 0, 1) := by decide +kernel
theorem dX1_wear_67 : decode cX1_wear 67 = .ok (.getfield 29, 3) := by decide +kernel
theorem dX1_wear_70 : decode cX1_wear 70 = .ok (.iload_n 1, 1) := by decide +kernel
theorem dX1_wear_71 : decode cX1_wear 71 = .ok (.dup2, 1) := by decide +kernel
theorem dX1_wear_72 : decode cX1_wear 72 = .ok (.iaload, 1) := by decide +kernel
theorem dX1_wear_73 : decode cX1_wear 73 = .ok (.iconst 1, 1) := by decide +kernel
theorem dX1_wear_74 : decode cX1_wear 74 = .ok (.isub, 1) := by decide +kernel
theorem dX1_wear_75 : decode cX1_wear 75 = .ok (.iastore, 1) := by decide +kernel
theorem dX1_wear_76 : decode cX1_wear 76 = .ok (.aload_n 0, 1) := by decide +kernel
theorem dX1_wear_77 : decode cX1_wear 77 = .ok (.getfield 29, 3) := by decide +kernel
theorem dX1_wear_80 : decode cX1_wear 80 = .ok (.iload_n 2, 1) := by decide +kernel
theorem dX1_wear_81 : decode cX1_wear 81 = .ok (.dup2, 1) := by decide +kernel
theorem dX1_wear_82 : decode cX1_wear 82 = .ok (.iaload, 1) := by decide +kernel
theorem dX1_wear_83 : decode cX1_wear 83 = .ok (.iconst 1, 1) := by decide +kernel
theorem dX1_wear_84 : decode cX1_wear 84 = .ok (.isub, 1) := by decide +kernel
theorem dX1_wear_85 : decode cX1_wear 85 = .ok (.iastore, 1) := by decide +kernel
theorem dX1_wear_86 : decode cX1_wear 86 = .ok (.iload_n 3, 1) := by decide +kernel
theorem dX1_wear_87 : decode cX1_wear 87 = .ok (.iconst (-1), 1) := by decide +kernel
theorem dX1_wear_88 : decode cX1_wear 88 = .ok (.if_icmp .eq 13, 3) := by decide +kernel
theorem dX1_wear_91 : decode cX1_wear 91 = .ok (.aload_n 0, 1) := by decide +kernel
theorem dX1_wear_92 : decode cX1_wear 92 = .ok (.getfield 29, 3) := by decide +kernel
theorem dX1_wear_95 : decode cX1_wear 95 = .ok (.iload_n 3, 1) := by decide +kernel
theorem dX1_wear_96 : decode cX1_wear 96 = .ok (.dup2, 1) := by decide +kernel
theorem dX1_wear_97 : decode cX1_wear 97 = .ok (.iaload, 1) := by decide +kernel
theorem dX1_wear_98 : decode cX1_wear 98 = .ok (.iconst 1, 1) := by decide +kernel
theorem dX1_wear_99 : decode cX1_wear 99 = .ok (.isub, 1) := by decide +kernel
theorem dX1_wear_100 : decode cX1_wear 100 = .ok (.iastore, 1) := by decide +kernel
theorem dX1_wear_101 : decode cX1_wear 101 = .ok (.iconst 0, 1) := by decide +kernel
theorem dX1_wear_102 : decode cX1_wear 102 = .ok (.istore 6, 2) := by decide +kernel
theorem dX1_wear_104 : decode cX1_wear 104 = .ok (.iload 6, 2) := by decide +kernel
theorem dX1_wear_106 : decode cX1_wear 106 = .ok (.bipush 8, 2) := by decide +kernel
theorem dX1_wear_108 : decode cX1_wear 108 = .ok (.if_icmp .ge 57, 3) := by decide +kernel
theorem dX1_wear_111 : decode cX1_wear 111 = .ok (.bipush 8, 2) := by decide +kernel
theorem dX1_wear_113 : decode cX1_wear 113 = .ok (.bipush 12, 2) := by decide +kernel
theorem dX1_wear_115 : decode cX1_wear 115 = .ok (.iload_n 1, 1) := by decide +kernel
theorem dX1_wear_116 : decode cX1_wear 116 = .ok (.imul, 1) := by decide +kernel
theorem dX1_wear_117 : decode cX1_wear 117 = .ok (.iload_n 2, 1) := by decide +kernel
theorem dX1_wear_118 : decode cX1_wear 118 = .ok (.iadd, 1) := by decide +kernel
theorem dX1_wear_119 : decode cX1_wear 119 = .ok (.imul, 1) := by decide +kernel
theorem dX1_wear_120 : decode cX1_wear 120 = .ok (.iload 6, 2) := by decide +kernel
theorem dX1_wear_122 : decode cX1_wear 122 = .ok (.iadd, 1) := by decide +kernel
theorem dX1_wear_123 : decode cX1_wear 123 = .ok (.istore 7, 2) := by decide +kernel
theorem dX1_wear_125 : decode cX1_wear 125 = .ok (.aload_n 0, 1) := by decide +kernel
theorem dX1_wear_126 : decode cX1_wear 126 = .ok (.getfield 35, 3) := by decide +kernel
theorem dX1_wear_129 : decode cX1_wear 129 = .ok (.iload 7, 2) := by decide +kernel
theorem dX1_wear_131 : decode cX1_wear 131 = .ok (.iload 4, 2) := by decide +kernel
theorem dX1_wear_133 : decode cX1_wear 133 = .ok (.iload 6, 2) := by decide +kernel
theorem dX1_wear_135 : decode cX1_wear 135 = .ok (.ishr, 1) := by decide +kernel
theorem dX1_wear_136 : decode cX1_wear 136 = .ok (.iconst 1, 1) := by decide +kernel
theorem dX1_wear_137 : decode cX1_wear 137 = .ok (.iand, 1) := by decide +kernel
theorem dX1_wear_138 : decode cX1_wear 138 = .ok (.iconst 1, 1) := by decide +kernel
theorem dX1_wear_139 : decode cX1_wear 139 = .ok (.if_icmp .ne 12, 3) := by decide +kernel
theorem dX1_wear_142 : decode cX1_wear 142 = .ok (.aload_n 0, 1) := by decide +kernel
theorem dX1_wear_143 : decode cX1_wear 143 = .ok (.getfield 73, 3) := by decide +kernel
theorem dX1_wear_146 : decode cX1_wear 146 = .ok (.iconst 1, 1) := by decide +kernel
theorem dX1_wear_147 : decode cX1_wear 147 = .ok (.iadd, 1) := by decide +kernel
theorem dX1_wear_148 : decode cX1_wear 148 = .ok (.goto 10, 3) := by decide +kernel
theorem dX1_wear_151 : decode cX1_wear 151 = .ok (.aload_n 0, 1) := by decide +kernel
theorem dX1_wear_152 : decode cX1_wear 152 = .ok (.getfield 35, 3) := by decide +kernel
theorem dX1_wear_155 : decode cX1_wear 155 = .ok (.iload 7, 2) := by decide +kernel
theorem dX1_wear_157 : decode cX1_wear 157 = .ok (.iaload, 1) := by decide +kernel
theorem dX1_wear_158 : decode cX1_wear 158 = .ok (.iastore, 1) := by decide +kernel
theorem dX1_wear_159 : decode cX1_wear 159 = .ok (.iinc 6 1, 3) := by decide +kernel
theorem dX1_wear_162 : decode cX1_wear 162 = .ok (.goto (-58), 3) := by decide +kernel
theorem dX1_wear_165 : decode cX1_wear 165 = .ok (.aload_n 0, 1) := by decide +kernel
theorem dX1_wear_166 : decode cX1_wear 166 = .ok (.iload_n 1, 1) := by decide +kernel
theorem dX1_wear_167 : decode cX1_wear 167 = .ok (.iload_n 2, 1) := by decide +kernel
theorem dX1_wear_168 : decode cX1_wear 168 = .ok (.iload_n 3, 1) := by decide +kernel
theorem dX1_wear_169 : decode cX1_wear 169 = .ok (.invokevirtual 89, 3) := by decide +kernel
theorem dX1_wear_172 : decode cX1_wear 172 = .ok (.ireturn, 1) := by decide +kernel
set_option maxRecDepth 20000 in
theorem ggX1_count_X1_wrong : GoodIn wsX1_count wsX1_wrong := goodIn_r _ [5, 6, 7, 8, 9, 4, 10, 11, 12, 13, 14, 15, 32, 33, 34, 35, 36, 37, 38, 39, 40, 41, 42, 43, 44] (by decide +kernel) (by decide +kernel)
set_option maxRecDepth 20000 in
theorem gX1_count_X1_wrong : GoodIn wsX1_count (wsV RX1 76 RX1 yX1_wrong wsX1_wrong) := goodIn_app (goodIn_of _ (by decide +kernel)) ggX1_count_X1_wrong
set_option maxRecDepth 20000 in
theorem ggX1_count_X1_fits : GoodIn wsX1_count wsX1_fits := goodIn_r _ [19, 20, 21, 22, 23, 4, 24, 25, 26, 32, 33, 34, 35, 36, 37, 38, 39, 40, 41, 42, 43, 44] (by decide +kernel) (by decide +kernel)
set_option maxRecDepth 20000 in
theorem gX1_count_X1_fits : GoodIn wsX1_count (wsV RX1 80 RX1 yX1_fits wsX1_fits) := goodIn_app (goodIn_of _ (by decide +kernel)) ggX1_count_X1_fits
set_option maxRecDepth 20000 in
theorem ggX1_count_X1_warmthOf : GoodIn wsX1_count wsX1_warmthOf := goodIn_r _ [30, 31, 32, 33, 34, 35, 36, 37, 38, 39, 40, 41, 42, 43, 44] (by decide +kernel) (by decide +kernel)
set_option maxRecDepth 20000 in
theorem gX1_count_X1_warmthOf : GoodIn wsX1_count (wsV RX1 89 RX1 yX1_warmthOf wsX1_warmthOf) := goodIn_app (goodIn_of _ (by decide +kernel)) ggX1_count_X1_warmthOf
theorem dX1_count_0 : decode cX1_count 0 = .ok (.iconst 0, 1) := by decide +kernel
theorem dX1_count_1 : decode cX1_count 1 = .ok (.istore_n 3, 1) := by decide +kernel
theorem dX1_count_2 : decode cX1_count 2 = .ok (.iconst 0, 1) := by decide +kernel
theorem dX1_count_3 : decode cX1_count 3 = .ok (.istore 4, 2) := by decide +kernel
theorem dX1_count_5 : decode cX1_count 5 = .ok (.iload 4, 2) := by decide +kernel
theorem dX1_count_7 : decode cX1_count 7 = .ok (.sipush 1872, 3) := by decide +kernel
theorem dX1_count_10 : decode cX1_count 10 = .ok (.if_icmp .ge 119, 3) := by decide +kernel
theorem dX1_count_13 : decode cX1_count 13 = .ok (.iload 4, 2) := by decide +kernel
theorem dX1_count_15 : decode cX1_count 15 = .ok (.bipush 12, 2) := by decide +kernel
theorem dX1_count_17 : decode cX1_count 17 = .ok (.idiv, 1) := by decide +kernel
theorem dX1_count_18 : decode cX1_count 18 = .ok (.bipush 12, 2) := by decide +kernel
theorem dX1_count_20 : decode cX1_count 20 = .ok (.irem, 1) := by decide +kernel
theorem dX1_count_21 : decode cX1_count 21 = .ok (.istore 5, 2) := by decide +kernel
theorem dX1_count_23 : decode cX1_count 23 = .ok (.iload 4, 2) := by decide +kernel
theorem dX1_count_25 : decode cX1_count 25 = .ok (.bipush 12, 2) := by decide +kernel
theorem dX1_count_27 : decode cX1_count 27 = .ok (.irem, 1) := by decide +kernel
theorem dX1_count_28 : decode cX1_count 28 = .ok (.istore 6, 2) := by decide +kernel
theorem dX1_count_30 : decode cX1_count 30 = .ok (.iload 4, 2) := by decide +kernel
theorem dX1_count_32 : decode cX1_count 32 = .ok (.sipush 144, 3) := by decide +kernel
theorem dX1_count_35 : decode cX1_count 35 = .ok (.idiv, 1) := by decide +kernel
theorem dX1_count_36 : decode cX1_count 36 = .ok (.iconst 1, 1) := by decide +kernel
theorem dX1_count_37 : decode cX1_count 37 = .ok (.isub, 1) := by decide +kernel
theorem dX1_count_38 : decode cX1_count 38 = .ok (.istore 7, 2) := by decide +kernel
theorem dX1_count_40 : decode cX1_count 40 = .ok (.aload_n 0, 1) := by decide +kernel
theorem dX1_count_41 : decode cX1_count 41 = .ok (.iload 5, 2) := by decide +kernel
theorem dX1_count_43 : decode cX1_count 43 = .ok (.iload 6, 2) := by decide +kernel
theorem dX1_count_45 : decode cX1_count 45 = .ok (.iload 7, 2) := by decide +kernel
theorem dX1_count_47 : decode cX1_count 47 = .ok (.invokevirtual 76, 3) := by decide +kernel
theorem dX1_count_50 : decode cX1_count 50 = .ok (.ifCond .ne 34, 3) := by decide +kernel
theorem dX1_count_53 : decode cX1_count 53 = .ok (.aload_n 0, 1) := by decide +kernel
theorem dX1_count_54 : decode cX1_count 54 = .ok (.iload 5, 2) := by decide +kernel
theorem dX1_count_56 : decode cX1_count 56 = .ok (.iload 6, 2) := by decide +kernel
theorem dX1_count_58 : decode cX1_count 58 = .ok (.iload 7, 2) := by decide +kernel
theorem dX1_count_60 : decode cX1_count 60 = .ok (.invokevirtual 80, 3) := by decide +kernel
theorem dX1_count_63 : decode cX1_count 63 = .ok (.ifCond .eq 21, 3) := by decide +kernel
theorem dX1_count_66 : decode cX1_count 66 = .ok (.aload_n 0, 1) := by decide +kernel
theorem dX1_count_67 : decode cX1_count 67 = .ok (.iload 5, 2) := by decide +kernel
theorem dX1_count_69 : decode cX1_count 69 = .ok (.iload 6, 2) := by decide +kernel
theorem dX1_count_71 : decode cX1_count 71 = .ok (.iload 7, 2) := by decide +kernel
theorem dX1_count_73 : decode cX1_count 73 = .ok (.invokevirtual 89, 3) := by decide +kernel
theorem dX1_count_76 : decode cX1_count 76 = .ok (.iload_n 1, 1) := by decide +kernel
theorem dX1_count_77 : decode cX1_count 77 = .ok (.if_icmp .lt 7, 3) := by decide +kernel
theorem dX1_count_80 : decode cX1_count 80 = .ok (.iconst 1, 1) := by decide +kernel
theorem dX1_count_81 : decode cX1_count 81 = .ok (.goto 4, 3) := by decide +kernel
theorem dX1_count_84 : decode cX1_count 84 = .ok (.iconst 0, 1) := by decide +kernel
theorem dX1_count_85 : decode cX1_count 85 = .ok (.istore 8, 2) := by decide +kernel
theorem dX1_count_87 : decode cX1_count 87 = .ok (.iload_n 3, 1) := by decide +kernel
theorem dX1_count_88 : decode cX1_count 88 = .ok (.iload 8, 2) := by decide +kernel
theorem dX1_count_90 : decode cX1_count 90 = .ok (.ifCond .eq 30, 3) := by decide +kernel
theorem dX1_count_93 : decode cX1_count 93 = .ok (.iload_n 2, 1) := by decide +kernel
theorem dX1_count_94 : decode cX1_count 94 = .ok (.iconst (-1), 1) := by decide +kernel
theorem dX1_count_95 : decode cX1_count 95 = .ok (.if_icmp .eq 21, 3) := by decide +kernel
theorem dX1_count_98 : decode cX1_count 98 = .ok (.iload 5, 2) := by decide +kernel
theorem dX1_count_100 : decode cX1_count 100 = .ok (.iload_n 2, 1) := by decide +kernel
theorem dX1_count_101 : decode cX1_count 101 = .ok (.if_icmp .eq 15, 3) := by decide +kernel
theorem dX1_count_104 : decode cX1_count 104 = .ok (.iload 6, 2) := by decide +kernel
theorem dX1_count_106 : decode cX1_count 106 = .ok (.iload_n 2, 1) := by decide +kernel
theorem dX1_count_107 : decode cX1_count 107 = .ok (.if_icmp .eq 9, 3) := by decide +kernel
theorem dX1_count_110 : decode cX1_count 110 = .ok (.iload 7, 2) := by decide +kernel
theorem dX1_count_112 : decode cX1_count 112 = .ok (.iload_n 2, 1) := by decide +kernel
theorem dX1_count_113 : decode cX1_count 113 = .ok (.if_icmp .ne 7, 3) := by decide +kernel
theorem dX1_count_116 : decode cX1_count 116 = .ok (.iconst 1, 1) := by decide +kernel
theorem dX1_count_117 : decode cX1_count 117 = .ok (.goto 4, 3) := by decide +kernel
theorem dX1_count_120 : decode cX1_count 120 = .ok (.iconst 0, 1) := by decide +kernel
theorem dX1_count_121 : decode cX1_count 121 = .ok (.iadd, 1) := by decide +kernel
theorem dX1_count_122 : decode cX1_count 122 = .ok (.istore_n 3, 1) := by decide +kernel
theorem dX1_count_123 : decode cX1_count 123 = .ok (.iinc 4 1, 3) := by decide +kernel
theorem dX1_count_126 : decode cX1_count 126 = .ok (.goto (-121), 3) := by decide +kernel
theorem dX1_count_129 : decode cX1_count 129 = .ok (.iload_n 3, 1) := by decide +kernel
theorem dX1_count_130 : decode cX1_count 130 = .ok (.ireturn, 1) := by decide +kernel
set_option maxRecDepth 20000 in
theorem ggX1_outfits_X1_isIn : GoodIn wsX1_outfits wsX1_isIn := goodIn_r _ [4] (by decide +kernel) (by decide +kernel)
set_option maxRecDepth 20000 in
theorem gX1_outfits_X1_isIn : GoodIn wsX1_outfits (va_wsS RX1 48 yX1_isIn wsX1_isIn) := goodIn_app (goodIn_of _ (by decide +kernel)) ggX1_outfits_X1_isIn
set_option maxRecDepth 20000 in
theorem ggX1_outfits_X1_goes : GoodIn wsX1_outfits wsX1_goes := goodIn_r _ [8, 9, 41, 42, 43, 44, 45, 46, 47, 48, 49, 50, 51, 52, 53] (by decide +kernel) (by decide +kernel)
set_option maxRecDepth 20000 in
theorem gX1_outfits_X1_goes : GoodIn wsX1_outfits (wsV RX1 59 RX1 yX1_goes wsX1_goes) := goodIn_app (goodIn_of _ (by decide +kernel)) ggX1_outfits_X1_goes
set_option maxRecDepth 20000 in
theorem ggX1_outfits_X1_count : GoodIn wsX1_outfits wsX1_count := goodIn_r _ [13, 14, 15, 16, 3, 17, 18, 19, 20, 21, 22, 23, 24, 1, 2, 4, 25, 26, 27, 28, 29, 30, 31, 32, 33, 34, 35, 36, 37, 38, 39, 40, 41, 42, 43, 44, 45, 46, 47, 48, 49, 50, 51, 52, 53] (by decide +kernel) (by decide +kernel)
set_option maxRecDepth 20000 in
theorem gX1_outfits_X1_count : GoodIn wsX1_outfits (wsV RX1 92 RX1 yX1_count wsX1_count) := goodIn_app (goodIn_of _ (by decide +kernel)) ggX1_outfits_X1_count
theorem dX1_outfits_0 : decode cX1_outfits 0 = .ok (.aload_n 0, 1) := by decide +kernel
theorem dX1_outfits_1 : decode cX1_outfits 1 = .ok (.iload_n 1, 1) := by decide +kernel
theorem dX1_outfits_2 : decode cX1_outfits 2 = .ok (.iconst 0, 1) := by decide +kernel
theorem dX1_outfits_3 : decode cX1_outfits 3 = .ok (.bipush 30, 2) := by decide +kernel
theorem dX1_outfits_5 : decode cX1_outfits 5 = .ok (.invokestatic 48, 3) := by decide +kernel
theorem dX1_outfits_8 : decode cX1_outfits 8 = .ok (.ifCond .eq 7, 3) := by decide +kernel
theorem dX1_outfits_11 : decode cX1_outfits 11 = .ok (.iconst 0, 1) := by decide +kernel
theorem dX1_outfits_12 : decode cX1_outfits 12 = .ok (.goto 4, 3) := by decide +kernel
theorem dX1_outfits_15 : decode cX1_outfits 15 = .ok (.iconst 1, 1) := by decide +kernel
theorem dX1_outfits_16 : decode cX1_outfits 16 = .ok (.invokevirtual 59, 3) := by decide +kernel
theorem dX1_outfits_19 : decode cX1_outfits 19 = .ok (.ifCond .eq 12, 3) := by decide +kernel
theorem dX1_outfits_22 : decode cX1_outfits 22 = .ok (.aload_n 0, 1) := by decide +kernel
theorem dX1_outfits_23 : decode cX1_outfits 23 = .ok (.iload_n 1, 1) := by decide +kernel
theorem dX1_outfits_24 : decode cX1_outfits 24 = .ok (.iconst (-1), 1) := by decide +kernel
theorem dX1_outfits_25 : decode cX1_outfits 25 = .ok (.invokevirtual 92, 3) := by decide +kernel
theorem dX1_outfits_28 : decode cX1_outfits 28 = .ok (.goto 4, 3) := by decide +kernel
theorem dX1_outfits_31 : decode cX1_outfits 31 = .ok (.iconst 0, 1) := by decide +kernel
theorem dX1_outfits_32 : decode cX1_outfits 32 = .ok (.ireturn, 1) := by decide +kernel
set_option maxRecDepth 20000 in
theorem ggX1_adds_X1_isThing : GoodIn wsX1_adds wsX1_isThing := goodIn_r _ [5, 6, 7, 8, 9, 4, 10, 41, 42, 43, 44, 45, 46, 47, 48, 49, 50, 51, 52, 53] (by decide +kernel) (by decide +kernel)
set_option maxRecDepth 20000 in
theorem gX1_adds_X1_isThing : GoodIn wsX1_adds (wsV RX1 62 RX1 yX1_isThing wsX1_isThing) := goodIn_app (goodIn_of _ (by decide +kernel)) ggX1_adds_X1_isThing
set_option maxRecDepth 20000 in
theorem ggX1_adds_X1_isIn : GoodIn wsX1_adds wsX1_isIn := goodIn_r _ [10] (by decide +kernel) (by decide +kernel)
set_option maxRecDepth 20000 in
theorem gX1_adds_X1_isIn : GoodIn wsX1_adds (va_wsS RX1 48 yX1_isIn wsX1_isIn) := goodIn_app (goodIn_of _ (by decide +kernel)) ggX1_adds_X1_isIn
set_option maxRecDepth 20000 in
theorem ggX1_adds_X1_goes : GoodIn wsX1_adds wsX1_goes := goodIn_r _ [14, 15, 41, 42, 43, 44, 45, 46, 47, 48, 49, 50, 51, 52, 53] (by decide +kernel) (by decide +kernel)
set_option maxRecDepth 20000 in
theorem gX1_adds_X1_goes : GoodIn wsX1_adds (wsV RX1 59 RX1 yX1_goes wsX1_goes) := goodIn_app (goodIn_of _ (by decide +kernel)) ggX1_adds_X1_goes
set_option maxRecDepth 20000 in
theorem ggX1_adds_X1_count : GoodIn wsX1_adds wsX1_count := goodIn_r _ [19, 20, 21, 22, 4, 23, 24, 1, 2, 3, 5, 6, 7, 8, 9, 10, 25, 26, 27, 28, 29, 30, 31, 32, 33, 34, 35, 36, 37, 38, 39, 40, 41, 42, 43, 44, 45, 46, 47, 48, 49, 50, 51, 52, 53] (by decide +kernel) (by decide +kernel)
set_option maxRecDepth 20000 in
theorem gX1_adds_X1_count : GoodIn wsX1_adds (wsV RX1 92 RX1 yX1_count wsX1_count) := goodIn_app (goodIn_of _ (by decide +kernel)) ggX1_adds_X1_count
theorem dX1_adds_0 : decode cX1_adds 0 = .ok (.aload_n 0, 1) := by decide +kernel
theorem dX1_adds_1 : decode cX1_adds 1 = .ok (.aload_n 0, 1) := by decide +kernel
theorem dX1_adds_2 : decode cX1_adds 2 = .ok (.iload_n 1, 1) := by decide +kernel
theorem dX1_adds_3 : decode cX1_adds 3 = .ok (.invokevirtual 62, 3) := by decide +kernel
theorem dX1_adds_6 : decode cX1_adds 6 = .ok (.ifCond .ne 7, 3) := by decide +kernel
theorem dX1_adds_9 : decode cX1_adds 9 = .ok (.iconst 1, 1) := by decide +kernel
theorem dX1_adds_10 : decode cX1_adds 10 = .ok (.goto 18, 3) := by decide +kernel
theorem dX1_adds_13 : decode cX1_adds 13 = .ok (.iload_n 2, 1) := by decide +kernel
theorem dX1_adds_14 : decode cX1_adds 14 = .ok (.iconst 0, 1) := by decide +kernel
theorem dX1_adds_15 : decode cX1_adds 15 = .ok (.bipush 30, 2) := by decide +kernel
theorem dX1_adds_17 : decode cX1_adds 17 = .ok (.invokestatic 48, 3) := by decide +kernel
theorem dX1_adds_20 : decode cX1_adds 20 = .ok (.ifCond .eq 7, 3) := by decide +kernel
theorem dX1_adds_23 : decode cX1_adds 23 = .ok (.iconst 0, 1) := by decide +kernel
theorem dX1_adds_24 : decode cX1_adds 24 = .ok (.goto 4, 3) := by decide +kernel
theorem dX1_adds_27 : decode cX1_adds 27 = .ok (.iconst 2, 1) := by decide +kernel
theorem dX1_adds_28 : decode cX1_adds 28 = .ok (.invokevirtual 59, 3) := by decide +kernel
theorem dX1_adds_31 : decode cX1_adds 31 = .ok (.ifCond .eq 12, 3) := by decide +kernel
theorem dX1_adds_34 : decode cX1_adds 34 = .ok (.aload_n 0, 1) := by decide +kernel
theorem dX1_adds_35 : decode cX1_adds 35 = .ok (.iload_n 2, 1) := by decide +kernel
theorem dX1_adds_36 : decode cX1_adds 36 = .ok (.iload_n 1, 1) := by decide +kernel
theorem dX1_adds_37 : decode cX1_adds 37 = .ok (.invokevirtual 92, 3) := by decide +kernel
theorem dX1_adds_40 : decode cX1_adds 40 = .ok (.goto 4, 3) := by decide +kernel
theorem dX1_adds_43 : decode cX1_adds 43 = .ok (.iconst 0, 1) := by decide +kernel
theorem dX1_adds_44 : decode cX1_adds 44 = .ok (.ireturn, 1) := by decide +kernel
theorem dX1_missingTop_0 : decode cX1_missingTop 0 = .ok (.aload_n 0, 1) := by decide +kernel
theorem dX1_missingTop_1 : decode cX1_missingTop 1 = .ok (.iconst 0, 1) := by decide +kernel
theorem dX1_missingTop_2 : decode cX1_missingTop 2 = .ok (.putfield 41, 3) := by decide +kernel
theorem dX1_missingTop_5 : decode cX1_missingTop 5 = .ok (.iconst 0, 1) := by decide +kernel
theorem dX1_missingTop_6 : decode cX1_missingTop 6 = .ok (.istore_n 1, 1) := by decide +kernel
theorem dX1_missingTop_7 : decode cX1_missingTop 7 = .ok (.iconst 0, 1) := by decide +kernel
theorem dX1_missingTop_8 : decode cX1_missingTop 8 = .ok (.istore_n 2, 1) := by decide +kernel
theorem dX1_missingTop_9 : decode cX1_missingTop 9 = .ok (.iconst 0, 1) := by decide +kernel
theorem dX1_missingTop_10 : decode cX1_missingTop 10 = .ok (.istore_n 3, 1) := by decide +kernel
theorem dX1_missingTop_11 : decode cX1_missingTop 11 = .ok (.iload_n 3, 1) := by decide +kernel
theorem dX1_missingTop_12 : decode cX1_missingTop 12 = .ok (.bipush 8, 2) := by decide +kernel
theorem dX1_missingTop_14 : decode cX1_missingTop 14 = .ok (.if_icmp .ge 128, 3) := by decide +kernel
theorem dX1_missingTop_17 : decode cX1_missingTop 17 = .ok (.iconst 0, 1) := by decide +kernel
theorem dX1_missingTop_18 : decode cX1_missingTop 18 = .ok (.istore 4, 2) := by decide +kernel
theorem dX1_missingTop_20 : decode cX1_missingTop 20 = .ok (.iconst 0, 1) := by decide +kernel
theorem dX1_missingTop_21 : decode cX1_missingTop 21 = .ok (.istore 5, 2) := by decide +kernel
theorem dX1_missingTop_23 : decode cX1_missingTop 23 = .ok (.iload 5, 2) := by decide +kernel
theorem dX1_missingTop_25 : decode cX1_missingTop 25 = .ok (.aload_n 0, 1) := by decide +kernel
theorem dX1_missingTop_26 : decode cX1_missingTop 26 = .ok (.getfield 45, 3) := by decide +kernel
theorem dX1_missingTop_29 : decode cX1_missingTop 29 = .ok (.if_icmp .ge 82, 3) := by decide +kernel
theorem dX1_missingTop_32 : decode cX1_missingTop 32 = .ok (.aload_n 0, 1) := by decide +kernel
theorem dX1_missingTop_33 : decode cX1_missingTop 33 = .ok (.getfield 7, 3) := by decide +kernel
theorem dX1_missingTop_36 : decode cX1_missingTop 36 = .ok (.iload 5, 2) := by decide +kernel
theorem dX1_missingTop_38 : decode cX1_missingTop 38 = .ok (.baload, 1) := by decide +kernel
theorem dX1_missingTop_39 : decode cX1_missingTop 39 = .ok (.ifCond .ne 28, 3) := by decide +kernel
theorem dX1_missingTop_42 : decode cX1_missingTop 42 = .ok (.aload_n 0, 1) := by decide +kernel
theorem dX1_missingTop_43 : decode cX1_missingTop 43 = .ok (.getfield 13, 3) := by decide +kernel
theorem dX1_missingTop_46 : decode cX1_missingTop 46 = .ok (.iload 5, 2) := by decide +kernel
theorem dX1_missingTop_48 : decode cX1_missingTop 48 = .ok (.iaload, 1) := by decide +kernel
theorem dX1_missingTop_49 : decode cX1_missingTop 49 = .ok (.iconst 1, 1) := by decide +kernel
theorem dX1_missingTop_50 : decode cX1_missingTop 50 = .ok (.if_icmp .ne 17, 3) := by decide +kernel
theorem dX1_missingTop_53 : decode cX1_missingTop 53 = .ok (.aload_n 0, 1) := by decide +kernel
theorem dX1_missingTop_54 : decode cX1_missingTop 54 = .ok (.getfield 29, 3) := by decide +kernel
theorem dX1_missingTop_57 : decode cX1_missingTop 57 = .ok (.iload 5, 2) := by decide +kernel
theorem dX1_missingTop_59 : decode cX1_missingTop 59 = .ok (.iaload, 1) := by decide +kernel
theorem dX1_missingTop_60 : decode cX1_missingTop 60 = .ok (.ifCond .le 7, 3) := by decide +kernel
theorem dX1_missingTop_63 : decode cX1_missingTop 63 = .ok (.iconst 1, 1) := by decide +kernel
theorem dX1_missingTop_64 : decode cX1_missingTop 64 = .ok (.goto 4, 3) := by decide +kernel
theorem dX1_missingTop_67 : decode cX1_missingTop 67 = .ok (.iconst 0, 1) := by decide +kernel
theorem dX1_missingTop_68 : decode cX1_missingTop 68 = .ok (.istore 6, 2) := by decide +kernel
theorem dX1_missingTop_70 : decode cX1_missingTop 70 = .ok (.iload 4, 2) := by decide +kernel
theorem dX1_missingTop_72 : decode cX1_missingTop 72 = .ok (.iload 6, 2) := by decide +kernel
theorem dX1_missingTop_74 : decode cX1_missingTop 74 = .ok (.ifCond .eq 27, 3) := by decide +kernel
theorem dX1_missingTop_77 : decode cX1_missingTop 77 = .ok (.aload_n 0, 1) := by decide +kernel
theorem dX1_missingTop_78 : decode cX1_missingTop 78 = .ok (.getfield 32, 3) := by decide +kernel
theorem dX1_missingTop_81 : decode cX1_missingTop 81 = .ok (.bipush 8, 2) := by decide +kernel
theorem dX1_missingTop_83 : decode cX1_missingTop 83 = .ok (.iload_n 3, 1) := by decide +kernel
theorem dX1_missingTop_84 : decode cX1_missingTop 84 = .ok (.imul, 1) := by decide +kernel
theorem dX1_missingTop_85 : decode cX1_missingTop 85 = .ok (.aload_n 0, 1) := by decide +kernel
theorem dX1_missingTop_86 : decode cX1_missingTop 86 = .ok (.getfield 17, 3) := by decide +kernel
theorem dX1_missingTop_89 : decode cX1_missingTop 89 = .ok (.iload 5, 2) := by decide +kernel
theorem dX1_missingTop_91 : decode cX1_missingTop 91 = .ok (.iaload, 1) := by decide +kernel
theorem dX1_missingTop_92 : decode cX1_missingTop 92 = .ok (.iadd, 1) := by decide +kernel
theorem dX1_missingTop_93 : decode cX1_missingTop 93 = .ok (.baload, 1) := by decide +kernel
theorem dX1_missingTop_94 : decode cX1_missingTop 94 = .ok (.ifCond .ne 7, 3) := by decide +kernel
theorem dX1_missingTop_97 : decode cX1_missingTop 97 = .ok (.iconst 1, 1) := by decide +kernel
theorem dX1_missingTop_98 : decode cX1_missingTop 98 = .ok (.goto 4, 3) := by decide +kernel
theorem dX1_missingTop_101 : decode cX1_missingTop 101 = .ok (.iconst 0, 1) := by decide +kernel
theorem dX1_missingTop_102 : decode cX1_missingTop 102 = .ok (.iadd, 1) := by decide +kernel
theorem dX1_missingTop_103 : decode cX1_missingTop 103 = .ok (.istore 4, 2) := by decide +kernel
theorem dX1_missingTop_105 : decode cX1_missingTop 105 = .ok (.iinc 5 1, 3) := by decide +kernel
theorem dX1_missingTop_108 : decode cX1_missingTop 108 = .ok (.goto (-85), 3) := by decide +kernel
theorem dX1_missingTop_111 : decode cX1_missingTop 111 = .ok (.iload 4, 2) := by decide +kernel
theorem dX1_missingTop_113 : decode cX1_missingTop 113 = .ok (.iload_n 2, 1) := by decide +kernel
theorem dX1_missingTop_114 : decode cX1_missingTop 114 = .ok (.if_icmp .le 7, 3) := by decide +kernel
theorem dX1_missingTop_117 : decode cX1_missingTop 117 = .ok (.iload_n 3, 1) := by decide +kernel
theorem dX1_missingTop_118 : decode cX1_missingTop 118 = .ok (.goto 4, 3) := by decide +kernel
theorem dX1_missingTop_121 : decode cX1_missingTop 121 = .ok (.iload_n 1, 1) := by decide +kernel
theorem dX1_missingTop_122 : decode cX1_missingTop 122 = .ok (.istore_n 1, 1) := by decide +kernel
theorem dX1_missingTop_123 : decode cX1_missingTop 123 = .ok (.iload 4, 2) := by decide +kernel
theorem dX1_missingTop_125 : decode cX1_missingTop 125 = .ok (.iload_n 2, 1) := by decide +kernel
theorem dX1_missingTop_126 : decode cX1_missingTop 126 = .ok (.if_icmp .le 8, 3) := by decide +kernel
theorem dX1_missingTop_129 : decode cX1_missingTop 129 = .ok (.iload 4, 2) := by decide +kernel
theorem dX1_missingTop_131 : decode cX1_missingTop 131 = .ok (.goto 4, 3) := by decide +kernel
theorem dX1_missingTop_134 : decode cX1_missingTop 134 = .ok (.iload_n 2, 1) := by decide +kernel
theorem dX1_missingTop_135 : decode cX1_missingTop 135 = .ok (.istore_n 2, 1) := by decide +kernel
theorem dX1_missingTop_136 : decode cX1_missingTop 136 = .ok (.iinc 3 1, 3) := by decide +kernel
theorem dX1_missingTop_139 : decode cX1_missingTop 139 = .ok (.goto (-128), 3) := by decide +kernel
theorem dX1_missingTop_142 : decode cX1_missingTop 142 = .ok (.iload_n 1, 1) := by decide +kernel
theorem dX1_missingTop_143 : decode cX1_missingTop 143 = .ok (.ireturn, 1) := by decide +kernel
set_option maxRecDepth 20000 in
theorem ggX1_outfitFor_X1_isIn : GoodIn wsX1_outfitFor wsX1_isIn := goodIn_r _ [4] (by decide +kernel) (by decide +kernel)
set_option maxRecDepth 20000 in
theorem gX1_outfitFor_X1_isIn : GoodIn wsX1_outfitFor (va_wsS RX1 48 yX1_isIn wsX1_isIn) := goodIn_app (goodIn_of _ (by decide +kernel)) ggX1_outfitFor_X1_isIn
set_option maxRecDepth 20000 in
theorem ggX1_outfitFor_X1_arePeople : GoodIn wsX1_outfitFor wsX1_arePeople := goodIn_r _ [7, 1, 2, 3, 4] (by decide +kernel) (by decide +kernel)
set_option maxRecDepth 20000 in
theorem gX1_outfitFor_X1_arePeople : GoodIn wsX1_outfitFor (va_wsS RX1 83 yX1_arePeople wsX1_arePeople) := goodIn_app (goodIn_of _ (by decide +kernel)) ggX1_outfitFor_X1_arePeople
set_option maxRecDepth 20000 in
theorem ggX1_outfitFor_X1_goes : GoodIn wsX1_outfitFor wsX1_goes := goodIn_r _ [11, 12, 46, 47, 48, 49, 50, 51, 52, 53, 54, 55, 56, 57, 58] (by decide +kernel) (by decide +kernel)
set_option maxRecDepth 20000 in
theorem gX1_outfitFor_X1_goes : GoodIn wsX1_outfitFor (wsV RX1 59 RX1 yX1_goes wsX1_goes) := goodIn_app (goodIn_of _ (by decide +kernel)) ggX1_outfitFor_X1_goes
set_option maxRecDepth 20000 in
theorem ggX1_outfitFor_X1_wrong : GoodIn wsX1_outfitFor wsX1_wrong := goodIn_r _ [16, 17, 18, 19, 20, 3, 21, 22, 23, 1, 2, 4, 46, 47, 48, 49, 50, 51, 52, 53, 54, 55, 56, 57, 58] (by decide +kernel) (by decide +kernel)
set_option maxRecDepth 20000 in
theorem gX1_outfitFor_X1_wrong : GoodIn wsX1_outfitFor (wsV RX1 76 RX1 yX1_wrong wsX1_wrong) := goodIn_app (goodIn_of _ (by decide +kernel)) ggX1_outfitFor_X1_wrong
set_option maxRecDepth 20000 in
theorem ggX1_outfitFor_X1_fits : GoodIn wsX1_outfitFor wsX1_fits := goodIn_r _ [27, 28, 29, 30, 31, 3, 32, 33, 34, 46, 47, 48, 49, 50, 51, 52, 53, 54, 55, 56, 57, 58] (by decide +kernel) (by decide +kernel)
set_option maxRecDepth 20000 in
theorem gX1_outfitFor_X1_fits : GoodIn wsX1_outfitFor (wsV RX1 80 RX1 yX1_fits wsX1_fits) := goodIn_app (goodIn_of _ (by decide +kernel)) ggX1_outfitFor_X1_fits
set_option maxRecDepth 20000 in
theorem ggX1_outfitFor_X1_isSoon : GoodIn wsX1_outfitFor wsX1_isSoon := goodIn_r _ [38, 39, 40, 46, 47, 48, 49, 50, 51, 52, 53, 54, 55, 56, 57, 58] (by decide +kernel) (by decide +kernel)
set_option maxRecDepth 20000 in
theorem gX1_outfitFor_X1_isSoon : GoodIn wsX1_outfitFor (wsV RX1 86 RX1 yX1_isSoon wsX1_isSoon) := goodIn_app (goodIn_of _ (by decide +kernel)) ggX1_outfitFor_X1_isSoon
set_option maxRecDepth 20000 in
theorem ggX1_outfitFor_X1_warmthOf : GoodIn wsX1_outfitFor wsX1_warmthOf := goodIn_r _ [44, 45, 46, 47, 48, 49, 50, 51, 52, 53, 54, 55, 56, 57, 58] (by decide +kernel) (by decide +kernel)
set_option maxRecDepth 20000 in
theorem gX1_outfitFor_X1_warmthOf : GoodIn wsX1_outfitFor (wsV RX1 89 RX1 yX1_warmthOf wsX1_warmthOf) := goodIn_app (goodIn_of _ (by decide +kernel)) ggX1_outfitFor_X1_warmthOf
theorem dX1_outfitFor_0 : decode cX1_outfitFor 0 = .ok (.aload_n 0, 1) := by decide +kernel
theorem dX1_outfitFor_1 : decode cX1_outfitFor 1 = .ok (.iload_n 1, 1) := by decide +kernel
theorem dX1_outfitFor_2 : decode cX1_outfitFor 2 = .ok (.iconst 0, 1) := by decide +kernel
theorem dX1_outfitFor_3 : decode cX1_outfitFor 3 = .ok (.bipush 30, 2) := by decide +kernel
theorem dX1_outfitFor_5 : decode cX1_outfitFor 5 = .ok (.invokestatic 48, 3) := by decide +kernel
theorem dX1_outfitFor_8 : decode cX1_outfitFor 8 = .ok (.ifCond .eq 14, 3) := by decide +kernel
theorem dX1_outfitFor_11 : decode cX1_outfitFor 11 = .ok (.iload_n 2, 1) := by decide +kernel
theorem dX1_outfitFor_12 : decode cX1_outfitFor 12 = .ok (.invokestatic 83, 3) := by decide +kernel
theorem dX1_outfitFor_15 : decode cX1_outfitFor 15 = .ok (.ifCond .eq 7, 3) := by decide +kernel
theorem dX1_outfitFor_18 : decode cX1_outfitFor 18 = .ok (.iconst 0, 1) := by decide +kernel
theorem dX1_outfitFor_19 : decode cX1_outfitFor 19 = .ok (.goto 4, 3) := by decide +kernel
theorem dX1_outfitFor_22 : decode cX1_outfitFor 22 = .ok (.iconst 1, 1) := by decide +kernel
theorem dX1_outfitFor_23 : decode cX1_outfitFor 23 = .ok (.invokevirtual 59, 3) := by decide +kernel
theorem dX1_outfitFor_26 : decode cX1_outfitFor 26 = .ok (.ifCond .ne 5, 3) := by decide +kernel
theorem dX1_outfitFor_29 : decode cX1_outfitFor 29 = .ok (.iconst 0, 1) := by decide +kernel
theorem dX1_outfitFor_30 : decode cX1_outfitFor 30 = .ok (.ireturn, 1) := by decide +kernel
theorem dX1_outfitFor_31 : decode cX1_outfitFor 31 = .ok (.iconst (-1), 1) := by decide +kernel
theorem dX1_outfitFor_32 : decode cX1_outfitFor 32 = .ok (.istore_n 3, 1) := by decide +kernel
theorem dX1_outfitFor_33 : decode cX1_outfitFor 33 = .ok (.bipush 100, 2) := by decide +kernel
theorem dX1_outfitFor_35 : decode cX1_outfitFor 35 = .ok (.istore 4, 2) := by decide +kernel
theorem dX1_outfitFor_37 : decode cX1_outfitFor 37 = .ok (.iconst 0, 1) := by decide +kernel
theorem dX1_outfitFor_38 : decode cX1_outfitFor 38 = .ok (.istore 5, 2) := by decide +kernel
theorem dX1_outfitFor_40 : decode cX1_outfitFor 40 = .ok (.iload 5, 2) := by decide +kernel
theorem dX1_outfitFor_42 : decode cX1_outfitFor 42 = .ok (.sipush 1872, 3) := by decide +kernel
theorem dX1_outfitFor_45 : decode cX1_outfitFor 45 = .ok (.if_icmp .ge 168, 3) := by decide +kernel
theorem dX1_outfitFor_48 : decode cX1_outfitFor 48 = .ok (.iload 5, 2) := by decide +kernel
theorem dX1_outfitFor_50 : decode cX1_outfitFor 50 = .ok (.sipush 156, 3) := by decide +kernel
theorem dX1_outfitFor_53 : decode cX1_outfitFor 53 = .ok (.idiv, 1) := by decide +kernel
theorem dX1_outfitFor_54 : decode cX1_outfitFor 54 = .ok (.istore 6, 2) := by decide +kernel
theorem dX1_outfitFor_56 : decode cX1_outfitFor 56 = .ok (.iload 5, 2) := by decide +kernel
theorem dX1_outfitFor_58 : decode cX1_outfitFor 58 = .ok (.bipush 13, 2) := by decide +kernel
theorem dX1_outfitFor_60 : decode cX1_outfitFor 60 = .ok (.idiv, 1) := by decide +kernel
theorem dX1_outfitFor_61 : decode cX1_outfitFor 61 = .ok (.bipush 12, 2) := by decide +kernel
theorem dX1_outfitFor_63 : decode cX1_outfitFor 63 = .ok (.irem, 1) := by decide +kernel
theorem dX1_outfitFor_64 : decode cX1_outfitFor 64 = .ok (.istore 7, 2) := by decide +kernel
theorem dX1_outfitFor_66 : decode cX1_outfitFor 66 = .ok (.iload 5, 2) := by decide +kernel
theorem dX1_outfitFor_68 : decode cX1_outfitFor 68 = .ok (.bipush 13, 2) := by decide +kernel
theorem dX1_outfitFor_70 : decode cX1_outfitFor 70 = .ok (.irem, 1) := by decide +kernel
theorem dX1_outfitFor_71 : decode cX1_outfitFor 71 = .ok (.iconst 1, 1) := by decide +kernel
theorem dX1_outfitFor_72 : decode cX1_outfitFor 72 = .ok (.isub, 1) := by decide +kernel
theorem dX1_outfitFor_73 : decode cX1_outfitFor 73 = .ok (.istore 8, 2) := by decide +kernel
theorem dX1_outfitFor_75 : decode cX1_outfitFor 75 = .ok (.aload_n 0, 1) := by decide +kernel
theorem dX1_outfitFor_76 : decode cX1_outfitFor 76 = .ok (.iload 6, 2) := by decide +kernel
theorem dX1_outfitFor_78 : decode cX1_outfitFor 78 = .ok (.iload 7, 2) := by decide +kernel
theorem dX1_outfitFor_80 : decode cX1_outfitFor 80 = .ok (.iload 8, 2) := by decide +kernel
theorem dX1_outfitFor_82 : decode cX1_outfitFor 82 = .ok (.invokevirtual 76, 3) := by decide +kernel
theorem dX1_outfitFor_85 : decode cX1_outfitFor 85 = .ok (.ifCond .ne 32, 3) := by decide +kernel
theorem dX1_outfitFor_88 : decode cX1_outfitFor 88 = .ok (.aload_n 0, 1) := by decide +kernel
theorem dX1_outfitFor_89 : decode cX1_outfitFor 89 = .ok (.iload 6, 2) := by decide +kernel
theorem dX1_outfitFor_91 : decode cX1_outfitFor 91 = .ok (.iload 7, 2) := by decide +kernel
theorem dX1_outfitFor_93 : decode cX1_outfitFor 93 = .ok (.iload 8, 2) := by decide +kernel
theorem dX1_outfitFor_95 : decode cX1_outfitFor 95 = .ok (.invokevirtual 80, 3) := by decide +kernel
theorem dX1_outfitFor_98 : decode cX1_outfitFor 98 = .ok (.ifCond .eq 19, 3) := by decide +kernel
theorem dX1_outfitFor_101 : decode cX1_outfitFor 101 = .ok (.aload_n 0, 1) := by decide +kernel
theorem dX1_outfitFor_102 : decode cX1_outfitFor 102 = .ok (.iload 6, 2) := by decide +kernel
theorem dX1_outfitFor_104 : decode cX1_outfitFor 104 = .ok (.iload 7, 2) := by decide +kernel
theorem dX1_outfitFor_106 : decode cX1_outfitFor 106 = .ok (.iload_n 2, 1) := by decide +kernel
theorem dX1_outfitFor_107 : decode cX1_outfitFor 107 = .ok (.invokevirtual 86, 3) := by decide +kernel
theorem dX1_outfitFor_110 : decode cX1_outfitFor 110 = .ok (.ifCond .ne 7, 3) := by decide +kernel
theorem dX1_outfitFor_113 : decode cX1_outfitFor 113 = .ok (.iconst 1, 1) := by decide +kernel
theorem dX1_outfitFor_114 : decode cX1_outfitFor 114 = .ok (.goto 4, 3) := by decide +kernel
theorem dX1_outfitFor_117 : decode cX1_outfitFor 117 = .ok (.iconst 0, 1) := by decide +kernel
theorem dX1_outfitFor_118 : decode cX1_outfitFor 118 = .ok (.istore 9, 2) := by decide +kernel
theorem dX1_outfitFor_120 : decode cX1_outfitFor 120 = .ok (.iload 9, 2) := by decide +kernel
theorem dX1_outfitFor_122 : decode cX1_outfitFor 122 = .ok (.ifCond .eq 16, 3) := by decide +kernel
theorem dX1_outfitFor_125 : decode cX1_outfitFor 125 = .ok (.aload_n 0, 1) := by decide +kernel
theorem dX1_outfitFor_126 : decode cX1_outfitFor 126 = .ok (.iload 6, 2) := by decide +kernel
theorem dX1_outfitFor_128 : decode cX1_outfitFor 128 = .ok (.iload 7, 2) := by decide +kernel
theorem dX1_outfitFor_130 : decode cX1_outfitFor 130 = .ok (.iload 8, 2) := by decide +kernel
theorem dX1_outfitFor_132 : decode cX1_outfitFor 132 = .ok (.invokevirtual 89, 3) := by decide +kernel
theorem dX1_outfitFor_135 : decode cX1_outfitFor 135 = .ok (.goto 4, 3) := by decide +kernel
theorem dX1_outfitFor_138 : decode cX1_outfitFor 138 = .ok (.iconst 0, 1) := by decide +kernel
theorem dX1_outfitFor_139 : decode cX1_outfitFor 139 = .ok (.istore 10, 2) := by decide +kernel
theorem dX1_outfitFor_141 : decode cX1_outfitFor 141 = .ok (.iload 9, 2) := by decide +kernel
theorem dX1_outfitFor_143 : decode cX1_outfitFor 143 = .ok (.ifCond .eq 20, 3) := by decide +kernel
theorem dX1_outfitFor_146 : decode cX1_outfitFor 146 = .ok (.iload 10, 2) := by decide +kernel
theorem dX1_outfitFor_148 : decode cX1_outfitFor 148 = .ok (.iload_n 1, 1) := by decide +kernel
theorem dX1_outfitFor_149 : decode cX1_outfitFor 149 = .ok (.if_icmp .lt 14, 3) := by decide +kernel
theorem dX1_outfitFor_152 : decode cX1_outfitFor 152 = .ok (.iload 10, 2) := by decide +kernel
theorem dX1_outfitFor_154 : decode cX1_outfitFor 154 = .ok (.iload 4, 2) := by decide +kernel
theorem dX1_outfitFor_156 : decode cX1_outfitFor 156 = .ok (.if_icmp .ge 7, 3) := by decide +kernel
theorem dX1_outfitFor_159 : decode cX1_outfitFor 159 = .ok (.iconst 1, 1) := by decide +kernel
theorem dX1_outfitFor_160 : decode cX1_outfitFor 160 = .ok (.goto 4, 3) := by decide +kernel
theorem dX1_outfitFor_163 : decode cX1_outfitFor 163 = .ok (.iconst 0, 1) := by decide +kernel
theorem dX1_outfitFor_164 : decode cX1_outfitFor 164 = .ok (.istore 9, 2) := by decide +kernel
theorem dX1_outfitFor_166 : decode cX1_outfitFor 166 = .ok (.iload 9, 2) := by decide +kernel
theorem dX1_outfitFor_168 : decode cX1_outfitFor 168 = .ok (.ifCond .eq 23, 3) := by decide +kernel
theorem dX1_outfitFor_171 : decode cX1_outfitFor 171 = .ok (.sipush 10000, 3) := by decide +kernel
theorem dX1_outfitFor_174 : decode cX1_outfitFor 174 = .ok (.iload 6, 2) := by decide +kernel
theorem dX1_outfitFor_176 : decode cX1_outfitFor 176 = .ok (.imul, 1) := by decide +kernel
theorem dX1_outfitFor_177 : decode cX1_outfitFor 177 = .ok (.bipush 100, 2) := by decide +kernel
theorem dX1_outfitFor_179 : decode cX1_outfitFor 179 = .ok (.iload 7, 2) := by decide +kernel
theorem dX1_outfitFor_181 : decode cX1_outfitFor 181 = .ok (.imul, 1) := by decide +kernel
theorem dX1_outfitFor_182 : decode cX1_outfitFor 182 = .ok (.iadd, 1) := by decide +kernel
theorem dX1_outfitFor_183 : decode cX1_outfitFor 183 = .ok (.iload 8, 2) := by decide +kernel
theorem dX1_outfitFor_185 : decode cX1_outfitFor 185 = .ok (.iadd, 1) := by decide +kernel
theorem dX1_outfitFor_186 : decode cX1_outfitFor 186 = .ok (.iconst 1, 1) := by decide +kernel
theorem dX1_outfitFor_187 : decode cX1_outfitFor 187 = .ok (.iadd, 1) := by decide +kernel
theorem dX1_outfitFor_188 : decode cX1_outfitFor 188 = .ok (.goto 4, 3) := by decide +kernel
theorem dX1_outfitFor_191 : decode cX1_outfitFor 191 = .ok (.iload_n 3, 1) := by decide +kernel
theorem dX1_outfitFor_192 : decode cX1_outfitFor 192 = .ok (.istore_n 3, 1) := by decide +kernel
theorem dX1_outfitFor_193 : decode cX1_outfitFor 193 = .ok (.iload 9, 2) := by decide +kernel
theorem dX1_outfitFor_195 : decode cX1_outfitFor 195 = .ok (.ifCond .eq 8, 3) := by decide +kernel
theorem dX1_outfitFor_198 : decode cX1_outfitFor 198 = .ok (.iload 10, 2) := by decide +kernel
theorem dX1_outfitFor_200 : decode cX1_outfitFor 200 = .ok (.goto 5, 3) := by decide +kernel
theorem dX1_outfitFor_203 : decode cX1_outfitFor 203 = .ok (.iload 4, 2) := by decide +kernel
theorem dX1_outfitFor_205 : decode cX1_outfitFor 205 = .ok (.istore 4, 2) := by decide +kernel
theorem dX1_outfitFor_207 : decode cX1_outfitFor 207 = .ok (.iinc 5 1, 3) := by decide +kernel
theorem dX1_outfitFor_210 : decode cX1_outfitFor 210 = .ok (.goto (-170), 3) := by decide +kernel
theorem dX1_outfitFor_213 : decode cX1_outfitFor 213 = .ok (.iload_n 3, 1) := by decide +kernel
theorem dX1_outfitFor_214 : decode cX1_outfitFor 214 = .ok (.ireturn, 1) := by decide +kernel
theorem dX1_isOf_0 : decode cX1_isOf 0 = .ok (.aload_n 0, 1) := by decide +kernel
theorem dX1_isOf_1 : decode cX1_isOf 1 = .ok (.getfield 7, 3) := by decide +kernel
theorem dX1_isOf_4 : decode cX1_isOf 4 = .ok (.iload_n 1, 1) := by decide +kernel
theorem dX1_isOf_5 : decode cX1_isOf 5 = .ok (.baload, 1) := by decide +kernel
theorem dX1_isOf_6 : decode cX1_isOf 6 = .ok (.ifCond .ne 36, 3) := by decide +kernel
theorem dX1_isOf_9 : decode cX1_isOf 9 = .ok (.aload_n 0, 1) := by decide +kernel
theorem dX1_isOf_10 : decode cX1_isOf 10 = .ok (.getfield 26, 3) := by decide +kernel
theorem dX1_isOf_13 : decode cX1_isOf 13 = .ok (.iload_n 1, 1) := by decide +kernel
theorem dX1_isOf_14 : decode cX1_isOf 14 = .ok (.iaload, 1) := by decide +kernel
theorem dX1_isOf_15 : decode cX1_isOf 15 = .ok (.iload_n 2, 1) := by decide +kernel
theorem dX1_isOf_16 : decode cX1_isOf 16 = .ok (.if_icmp .ne 26, 3) := by decide +kernel
theorem dX1_isOf_19 : decode cX1_isOf 19 = .ok (.aload_n 0, 1) := by decide +kernel
theorem dX1_isOf_20 : decode cX1_isOf 20 = .ok (.getfield 17, 3) := by decide +kernel
theorem dX1_isOf_23 : decode cX1_isOf 23 = .ok (.iload_n 1, 1) := by decide +kernel
theorem dX1_isOf_24 : decode cX1_isOf 24 = .ok (.iaload, 1) := by decide +kernel
theorem dX1_isOf_25 : decode cX1_isOf 25 = .ok (.iconst 3, 1) := by decide +kernel
theorem dX1_isOf_26 : decode cX1_isOf 26 = .ok (.if_icmp .le 7, 3) := by decide +kernel
theorem dX1_isOf_29 : decode cX1_isOf 29 = .ok (.iconst 1, 1) := by decide +kernel
theorem dX1_isOf_30 : decode cX1_isOf 30 = .ok (.goto 4, 3) := by decide +kernel
theorem dX1_isOf_33 : decode cX1_isOf 33 = .ok (.iconst 0, 1) := by decide +kernel
theorem dX1_isOf_34 : decode cX1_isOf 34 = .ok (.iload_n 3, 1) := by decide +kernel
theorem dX1_isOf_35 : decode cX1_isOf 35 = .ok (.if_icmp .ne 7, 3) := by decide +kernel
theorem dX1_isOf_38 : decode cX1_isOf 38 = .ok (.iconst 1, 1) := by decide +kernel
theorem dX1_isOf_39 : decode cX1_isOf 39 = .ok (.goto 4, 3) := by decide +kernel
theorem dX1_isOf_42 : decode cX1_isOf 42 = .ok (.iconst 0, 1) := by decide +kernel
theorem dX1_isOf_43 : decode cX1_isOf 43 = .ok (.ireturn, 1) := by decide +kernel
set_option maxRecDepth 20000 in
theorem ggX1_load_X1_isCare : GoodIn wsX1_load wsX1_isCare := goodIn_r _ [6, 7, 8, 5, 9] (by decide +kernel) (by decide +kernel)
set_option maxRecDepth 20000 in
theorem gX1_load_X1_isCare : GoodIn wsX1_load (va_wsS RX1 56 yX1_isCare wsX1_isCare) := goodIn_app (goodIn_of _ (by decide +kernel)) ggX1_load_X1_isCare
set_option maxRecDepth 20000 in
theorem ggX1_load_X1_goes : GoodIn wsX1_load wsX1_goes := goodIn_r _ [13, 14, 22, 23, 24, 25, 26, 27, 28, 29, 30, 31, 32, 33, 34] (by decide +kernel) (by decide +kernel)
set_option maxRecDepth 20000 in
theorem gX1_load_X1_goes : GoodIn wsX1_load (wsV RX1 59 RX1 yX1_goes wsX1_goes) := goodIn_app (goodIn_of _ (by decide +kernel)) ggX1_load_X1_goes
set_option maxRecDepth 20000 in
theorem ggX1_load_X1_isOf : GoodIn wsX1_load wsX1_isOf := goodIn_r _ [18, 19, 20, 21, 22, 23, 24, 25, 26, 27, 28, 29, 30, 31, 32, 33, 34] (by decide +kernel) (by decide +kernel)
set_option maxRecDepth 20000 in
theorem gX1_load_X1_isOf : GoodIn wsX1_load (wsV RX1 96 RX1 yX1_isOf wsX1_isOf) := goodIn_app (goodIn_of _ (by decide +kernel)) ggX1_load_X1_isOf
theorem dX1_load_0 : decode cX1_load 0 = .ok (.aload_n 0, 1) := by decide +kernel
theorem dX1_load_1 : decode cX1_load 1 = .ok (.iload_n 1, 1) := by decide +kernel
theorem dX1_load_2 : decode cX1_load 2 = .ok (.invokestatic 56, 3) := by decide +kernel
theorem dX1_load_5 : decode cX1_load 5 = .ok (.ifCond .eq 7, 3) := by decide +kernel
theorem dX1_load_8 : decode cX1_load 8 = .ok (.iconst 0, 1) := by decide +kernel
theorem dX1_load_9 : decode cX1_load 9 = .ok (.goto 4, 3) := by decide +kernel
theorem dX1_load_12 : decode cX1_load 12 = .ok (.iconst 1, 1) := by decide +kernel
theorem dX1_load_13 : decode cX1_load 13 = .ok (.invokevirtual 59, 3) := by decide +kernel
theorem dX1_load_16 : decode cX1_load 16 = .ok (.ifCond .ne 5, 3) := by decide +kernel
theorem dX1_load_19 : decode cX1_load 19 = .ok (.iconst 0, 1) := by decide +kernel
theorem dX1_load_20 : decode cX1_load 20 = .ok (.ireturn, 1) := by decide +kernel
theorem dX1_load_21 : decode cX1_load 21 = .ok (.iconst 0, 1) := by decide +kernel
theorem dX1_load_22 : decode cX1_load 22 = .ok (.istore_n 3, 1) := by decide +kernel
theorem dX1_load_23 : decode cX1_load 23 = .ok (.iconst 0, 1) := by decide +kernel
theorem dX1_load_24 : decode cX1_load 24 = .ok (.istore 4, 2) := by decide +kernel
theorem dX1_load_26 : decode cX1_load 26 = .ok (.iload 4, 2) := by decide +kernel
theorem dX1_load_28 : decode cX1_load 28 = .ok (.aload_n 0, 1) := by decide +kernel
theorem dX1_load_29 : decode cX1_load 29 = .ok (.getfield 45, 3) := by decide +kernel
theorem dX1_load_32 : decode cX1_load 32 = .ok (.if_icmp .ge 38, 3) := by decide +kernel
theorem dX1_load_35 : decode cX1_load 35 = .ok (.iload_n 3, 1) := by decide +kernel
theorem dX1_load_36 : decode cX1_load 36 = .ok (.aload_n 0, 1) := by decide +kernel
theorem dX1_load_37 : decode cX1_load 37 = .ok (.iload 4, 2) := by decide +kernel
theorem dX1_load_39 : decode cX1_load 39 = .ok (.iload_n 1, 1) := by decide +kernel
theorem dX1_load_40 : decode cX1_load 40 = .ok (.iload_n 2, 1) := by decide +kernel
theorem dX1_load_41 : decode cX1_load 41 = .ok (.invokevirtual 96, 3) := by decide +kernel
theorem dX1_load_44 : decode cX1_load 44 = .ok (.ifCond .eq 17, 3) := by decide +kernel
theorem dX1_load_47 : decode cX1_load 47 = .ok (.aload_n 0, 1) := by decide +kernel
theorem dX1_load_48 : decode cX1_load 48 = .ok (.getfield 29, 3) := by decide +kernel
theorem dX1_load_51 : decode cX1_load 51 = .ok (.iload 4, 2) := by decide +kernel
theorem dX1_load_53 : decode cX1_load 53 = .ok (.iaload, 1) := by decide +kernel
theorem dX1_load_54 : decode cX1_load 54 = .ok (.ifCond .ne 7, 3) := by decide +kernel
theorem dX1_load_57 : decode cX1_load 57 = .ok (.iconst 1, 1) := by decide +kernel
theorem dX1_load_58 : decode cX1_load 58 = .ok (.goto 4, 3) := by decide +kernel
theorem dX1_load_61 : decode cX1_load 61 = .ok (.iconst 0, 1) := by decide +kernel
theorem dX1_load_62 : decode cX1_load 62 = .ok (.iadd, 1) := by decide +kernel
theorem dX1_load_63 : decode cX1_load 63 = .ok (.istore_n 3, 1) := by decide +kernel
theorem dX1_load_64 : decode cX1_load 64 = .ok (.iinc 4 1, 3) := by decide +kernel
theorem dX1_load_67 : decode cX1_load 67 = .ok (.goto (-41), 3) := by decide +kernel
theorem dX1_load_70 : decode cX1_load 70 = .ok (.iload_n 3, 1) := by decide +kernel
theorem dX1_load_71 : decode cX1_load 71 = .ok (.ireturn, 1) := by decide +kernel
set_option maxRecDepth 20000 in
theorem ggX1_wash_X1_isCare : GoodIn wsX1_wash wsX1_isCare := goodIn_r _ [7, 8, 9, 6, 10] (by decide +kernel) (by decide +kernel)
set_option maxRecDepth 20000 in
theorem gX1_wash_X1_isCare : GoodIn wsX1_wash (va_wsS RX1 56 yX1_isCare wsX1_isCare) := goodIn_app (goodIn_of _ (by decide +kernel)) ggX1_wash_X1_isCare
set_option maxRecDepth 20000 in
theorem ggX1_wash_X1_goes : GoodIn wsX1_wash wsX1_goes := goodIn_r _ [14, 15, 23, 24, 25, 26, 27, 28, 29, 30, 31, 32, 33, 34, 35] (by decide +kernel) (by decide +kernel)
set_option maxRecDepth 20000 in
theorem gX1_wash_X1_goes : GoodIn wsX1_wash (wsV RX1 59 RX1 yX1_goes wsX1_goes) := goodIn_app (goodIn_of _ (by decide +kernel)) ggX1_wash_X1_goes
set_option maxRecDepth 20000 in
theorem ggX1_wash_X1_isOf : GoodIn wsX1_wash wsX1_isOf := goodIn_r _ [19, 20, 21, 22, 23, 24, 25, 26, 27, 28, 29, 30, 31, 32, 33, 34, 35] (by decide +kernel) (by decide +kernel)
set_option maxRecDepth 20000 in
theorem gX1_wash_X1_isOf : GoodIn wsX1_wash (wsV RX1 96 RX1 yX1_isOf wsX1_isOf) := goodIn_app (goodIn_of _ (by decide +kernel)) ggX1_wash_X1_isOf
theorem dX1_wash_0 : decode cX1_wash 0 = .ok (.aload_n 0, 1) := by decide +kernel
theorem dX1_wash_1 : decode cX1_wash 1 = .ok (.iload_n 1, 1) := by decide +kernel
theorem dX1_wash_2 : decode cX1_wash 2 = .ok (.invokestatic 56, 3) := by decide +kernel
theorem dX1_wash_5 : decode cX1_wash 5 = .ok (.ifCond .eq 7, 3) := by decide +kernel
theorem dX1_wash_8 : decode cX1_wash 8 = .ok (.iconst 0, 1) := by decide +kernel
theorem dX1_wash_9 : decode cX1_wash 9 = .ok (.goto 4, 3) := by decide +kernel
theorem dX1_wash_12 : decode cX1_wash 12 = .ok (.iconst 1, 1) := by decide +kernel
theorem dX1_wash_13 : decode cX1_wash 13 = .ok (.invokevirtual 59, 3) := by decide +kernel
theorem dX1_wash_16 : decode cX1_wash 16 = .ok (.ifCond .ne 5, 3) := by decide +kernel
theorem dX1_wash_19 : decode cX1_wash 19 = .ok (.iconst 0, 1) := by decide +kernel
theorem dX1_wash_20 : decode cX1_wash 20 = .ok (.ireturn, 1) := by decide +kernel
theorem dX1_wash_21 : decode cX1_wash 21 = .ok (.iconst 0, 1) := by decide +kernel
theorem dX1_wash_22 : decode cX1_wash 22 = .ok (.istore_n 3, 1) := by decide +kernel
theorem dX1_wash_23 : decode cX1_wash 23 = .ok (.iconst 0, 1) := by decide +kernel
theorem dX1_wash_24 : decode cX1_wash 24 = .ok (.istore 4, 2) := by decide +kernel
theorem dX1_wash_26 : decode cX1_wash 26 = .ok (.iload 4, 2) := by decide +kernel
theorem dX1_wash_28 : decode cX1_wash 28 = .ok (.bipush 10, 2) := by decide +kernel
theorem dX1_wash_30 : decode cX1_wash 30 = .ok (.if_icmp .ge 116, 3) := by decide +kernel
theorem dX1_wash_33 : decode cX1_wash 33 = .ok (.iconst 0, 1) := by decide +kernel
theorem dX1_wash_34 : decode cX1_wash 34 = .ok (.istore 5, 2) := by decide +kernel
theorem dX1_wash_36 : decode cX1_wash 36 = .ok (.iload 5, 2) := by decide +kernel
theorem dX1_wash_38 : decode cX1_wash 38 = .ok (.aload_n 0, 1) := by decide +kernel
theorem dX1_wash_39 : decode cX1_wash 39 = .ok (.getfield 45, 3) := by decide +kernel
theorem dX1_wash_42 : decode cX1_wash 42 = .ok (.if_icmp .ge 98, 3) := by decide +kernel
theorem dX1_wash_45 : decode cX1_wash 45 = .ok (.aload_n 0, 1) := by decide +kernel
theorem dX1_wash_46 : decode cX1_wash 46 = .ok (.iload 5, 2) := by decide +kernel
theorem dX1_wash_48 : decode cX1_wash 48 = .ok (.iload_n 1, 1) := by decide +kernel
theorem dX1_wash_49 : decode cX1_wash 49 = .ok (.iload_n 2, 1) := by decide +kernel
theorem dX1_wash_50 : decode cX1_wash 50 = .ok (.invokevirtual 96, 3) := by decide +kernel
theorem dX1_wash_53 : decode cX1_wash 53 = .ok (.ifCond .eq 36, 3) := by decide +kernel
theorem dX1_wash_56 : decode cX1_wash 56 = .ok (.aload_n 0, 1) := by decide +kernel
theorem dX1_wash_57 : decode cX1_wash 57 = .ok (.getfield 29, 3) := by decide +kernel
theorem dX1_wash_60 : decode cX1_wash 60 = .ok (.iload 5, 2) := by decide +kernel
theorem dX1_wash_62 : decode cX1_wash 62 = .ok (.iaload, 1) := by decide +kernel
theorem dX1_wash_63 : decode cX1_wash 63 = .ok (.iload 4, 2) := by decide +kernel
theorem dX1_wash_65 : decode cX1_wash 65 = .ok (.if_icmp .ne 24, 3) := by decide +kernel
theorem dX1_wash_68 : decode cX1_wash 68 = .ok (.iload 4, 2) := by decide +kernel
theorem dX1_wash_70 : decode cX1_wash 70 = .ok (.aload_n 0, 1) := by decide +kernel
theorem dX1_wash_71 : decode cX1_wash 71 = .ok (.getfield 23, 3) := by decide +kernel
theorem dX1_wash_74 : decode cX1_wash 74 = .ok (.iload 5, 2) := by decide +kernel
theorem dX1_wash_76 : decode cX1_wash 76 = .ok (.iaload, 1) := by decide +kernel
theorem dX1_wash_77 : decode cX1_wash 77 = .ok (.if_icmp .ge 12, 3) := by decide +kernel
theorem dX1_wash_80 : decode cX1_wash 80 = .ok (.iload_n 3, 1) := by decide +kernel
theorem dX1_wash_81 : decode cX1_wash 81 = .ok (.iconst 5, 1) := by decide +kernel
theorem dX1_wash_82 : decode cX1_wash 82 = .ok (.if_icmp .ge 7, 3) := by decide +kernel
theorem dX1_wash_85 : decode cX1_wash 85 = .ok (.iconst 1, 1) := by decide +kernel
theorem dX1_wash_86 : decode cX1_wash 86 = .ok (.goto 4, 3) := by decide +kernel
theorem dX1_wash_89 : decode cX1_wash 89 = .ok (.iconst 0, 1) := by decide +kernel
theorem dX1_wash_90 : decode cX1_wash 90 = .ok (.istore 6, 2) := by decide +kernel
theorem dX1_wash_92 : decode cX1_wash 92 = .ok (.aload_n 0, 1) := by decide +kernel
theorem dX1_wash_93 : decode cX1_wash 93 = .ok (.getfield 29, 3) := by decide +kernel
theorem dX1_wash_96 : decode cX1_wash 96 = .ok (.iload 5, 2) := by decide +kernel
theorem dX1_wash_98 : decode cX1_wash 98 = .ok (.iload 6, 2) := by decide +kernel
theorem dX1_wash_100 : decode cX1_wash 100 = .ok (.ifCond .eq 13, 3) := by decide +kernel
theorem dX1_wash_103 : decode cX1_wash 103 = .ok (.aload_n 0, 1) := by decide +kernel
theorem dX1_wash_104 : decode cX1_wash 104 = .ok (.getfield 23, 3) := by decide +kernel
theorem dX1_wash_107 : decode cX1_wash 107 = .ok (.iload 5, 2) := by decide +kernel
theorem dX1_wash_109 : decode cX1_wash 109 = .ok (.iaload, 1) := by decide +kernel
theorem dX1_wash_110 : decode cX1_wash 110 = .ok (.goto 10, 3) := by decide +kernel
theorem dX1_wash_113 : decode cX1_wash 113 = .ok (.aload_n 0, 1) := by decide +kernel
theorem dX1_wash_114 : decode cX1_wash 114 = .ok (.getfield 29, 3) := by decide +kernel
theorem dX1_wash_117 : decode cX1_wash 117 = .ok (.iload 5, 2) := by decide +kernel
theorem dX1_wash_119 : decode cX1_wash 119 = .ok (.iaload, 1) := by decide +kernel
theorem dX1_wash_120 : decode cX1_wash 120 = .ok (.iastore, 1) := by decide +kernel
theorem dX1_wash_121 : decode cX1_wash 121 = .ok (.iload_n 3, 1) := by decide +kernel
theorem dX1_wash_122 : decode cX1_wash 122 = .ok (.iload 6, 2) := by decide +kernel
theorem dX1_wash_124 : decode cX1_wash 124 = .ok (.ifCond .eq 7, 3) := by decide +kernel
theorem dX1_wash_127 : decode cX1_wash 127 = .ok (.iconst 1, 1) := by decide +kernel
theorem dX1_wash_128 : decode cX1_wash 128 = .ok (.goto 4, 3) := by decide +kernel
theorem dX1_wash_131 : decode cX1_wash 131 = .ok (.iconst 0, 1) := by decide +kernel
theorem dX1_wash_132 : decode cX1_wash 132 = .ok (.iadd, 1) := by decide +kernel
theorem dX1_wash_133 : decode cX1_wash 133 = .ok (.istore_n 3, 1) := by decide +kernel
theorem dX1_wash_134 : decode cX1_wash 134 = .ok (.iinc 5 1, 3) := by decide +kernel
theorem dX1_wash_137 : decode cX1_wash 137 = .ok (.goto (-101), 3) := by decide +kernel
theorem dX1_wash_140 : decode cX1_wash 140 = .ok (.iinc 4 1, 3) := by decide +kernel
theorem dX1_wash_143 : decode cX1_wash 143 = .ok (.goto (-117), 3) := by decide +kernel
theorem dX1_wash_146 : decode cX1_wash 146 = .ok (.iload_n 3, 1) := by decide +kernel
theorem dX1_wash_147 : decode cX1_wash 147 = .ok (.ireturn, 1) := by decide +kernel
set_option maxRecDepth 20000 in
theorem ggX1_pass_X1_isIn : GoodIn wsX1_pass wsX1_isIn := goodIn_r _ [5] (by decide +kernel) (by decide +kernel)
set_option maxRecDepth 20000 in
theorem gX1_pass_X1_isIn : GoodIn wsX1_pass (va_wsS RX1 48 yX1_isIn wsX1_isIn) := goodIn_app (goodIn_of _ (by decide +kernel)) ggX1_pass_X1_isIn
set_option maxRecDepth 20000 in
theorem ggX1_pass_X1_goes : GoodIn wsX1_pass wsX1_goes := goodIn_r _ [9, 10, 11, 12, 13, 14, 15, 16, 17, 18, 19, 20, 21, 22, 23] (by decide +kernel) (by decide +kernel)
set_option maxRecDepth 20000 in
theorem gX1_pass_X1_goes : GoodIn wsX1_pass (wsV RX1 59 RX1 yX1_goes wsX1_goes) := goodIn_app (goodIn_of _ (by decide +kernel)) ggX1_pass_X1_goes
theorem dX1_pass_0 : decode cX1_pass 0 = .ok (.aload_n 0, 1) := by decide +kernel
theorem dX1_pass_1 : decode cX1_pass 1 = .ok (.iload_n 1, 1) := by decide +kernel
theorem dX1_pass_2 : decode cX1_pass 2 = .ok (.iconst 1, 1) := by decide +kernel
theorem dX1_pass_3 : decode cX1_pass 3 = .ok (.sipush 365, 3) := by decide +kernel
theorem dX1_pass_6 : decode cX1_pass 6 = .ok (.invokestatic 48, 3) := by decide +kernel
theorem dX1_pass_9 : decode cX1_pass 9 = .ok (.ifCond .ne 7, 3) := by decide +kernel
theorem dX1_pass_12 : decode cX1_pass 12 = .ok (.iconst 1, 1) := by decide +kernel
theorem dX1_pass_13 : decode cX1_pass 13 = .ok (.goto 20, 3) := by decide +kernel
theorem dX1_pass_16 : decode cX1_pass 16 = .ok (.aload_n 0, 1) := by decide +kernel
theorem dX1_pass_17 : decode cX1_pass 17 = .ok (.getfield 73, 3) := by decide +kernel
theorem dX1_pass_20 : decode cX1_pass 20 = .ok (.iload_n 1, 1) := by decide +kernel
theorem dX1_pass_21 : decode cX1_pass 21 = .ok (.iadd, 1) := by decide +kernel
theorem dX1_pass_22 : decode cX1_pass 22 = .ok (.sipush 10000, 3) := by decide +kernel
theorem dX1_pass_25 : decode cX1_pass 25 = .ok (.if_icmp .le 7, 3) := by decide +kernel
theorem dX1_pass_28 : decode cX1_pass 28 = .ok (.iconst 2, 1) := by decide +kernel
theorem dX1_pass_29 : decode cX1_pass 29 = .ok (.goto 4, 3) := by decide +kernel
theorem dX1_pass_32 : decode cX1_pass 32 = .ok (.iconst 0, 1) := by decide +kernel
theorem dX1_pass_33 : decode cX1_pass 33 = .ok (.invokevirtual 59, 3) := by decide +kernel
theorem dX1_pass_36 : decode cX1_pass 36 = .ok (.ifCond .ne 5, 3) := by decide +kernel
theorem dX1_pass_39 : decode cX1_pass 39 = .ok (.iconst 0, 1) := by decide +kernel
theorem dX1_pass_40 : decode cX1_pass 40 = .ok (.ireturn, 1) := by decide +kernel
theorem dX1_pass_41 : decode cX1_pass 41 = .ok (.aload_n 0, 1) := by decide +kernel
theorem dX1_pass_42 : decode cX1_pass 42 = .ok (.dup, 1) := by decide +kernel
theorem dX1_pass_43 : decode cX1_pass 43 = .ok (.getfield 73, 3) := by decide +kernel
theorem dX1_pass_46 : decode cX1_pass 46 = .ok (.iload_n 1, 1) := by decide +kernel
theorem dX1_pass_47 : decode cX1_pass 47 = .ok (.iadd, 1) := by decide +kernel
theorem dX1_pass_48 : decode cX1_pass 48 = .ok (.putfield 73, 3) := by decide +kernel
theorem dX1_pass_51 : decode cX1_pass 51 = .ok (.aload_n 0, 1) := by decide +kernel
theorem dX1_pass_52 : decode cX1_pass 52 = .ok (.getfield 73, 3) := by decide +kernel
theorem dX1_pass_55 : decode cX1_pass 55 = .ok (.ireturn, 1) := by decide +kernel
set_option maxRecDepth 20000 in
theorem ggX1_laysPairs_X1_wrong : GoodIn wsX1_laysPairs wsX1_wrong := goodIn_r _ [7, 8, 9, 10, 11, 6, 12, 13, 14, 15, 16, 17, 24, 25, 26, 27, 28, 29, 30, 31, 32, 33, 34, 35, 36] (by decide +kernel) (by decide +kernel)
set_option maxRecDepth 20000 in
theorem gX1_laysPairs_X1_wrong : GoodIn wsX1_laysPairs (wsV RX1 76 RX1 yX1_wrong wsX1_wrong) := goodIn_app (goodIn_of _ (by decide +kernel)) ggX1_laysPairs_X1_wrong
set_option maxRecDepth 20000 in
theorem ggX1_laysPairs_X1_doClash : GoodIn wsX1_laysPairs wsX1_doClash := goodIn_r _ [21, 22, 23, 24, 25, 26, 27, 28, 29, 30, 31, 32, 33, 34, 35, 36] (by decide +kernel) (by decide +kernel)
set_option maxRecDepth 20000 in
theorem gX1_laysPairs_X1_doClash : GoodIn wsX1_laysPairs (wsV RX1 69 RX1 yX1_doClash wsX1_doClash) := goodIn_app (goodIn_of _ (by decide +kernel)) ggX1_laysPairs_X1_doClash
theorem dX1_laysPairs_0 : decode cX1_laysPairs 0 = .ok (.iconst 0, 1) := by decide +kernel
theorem dX1_laysPairs_1 : decode cX1_laysPairs 1 = .ok (.istore_n 2, 1) := by decide +kernel
theorem dX1_laysPairs_2 : decode cX1_laysPairs 2 = .ok (.iload_n 2, 1) := by decide +kernel
theorem dX1_laysPairs_3 : decode cX1_laysPairs 3 = .ok (.bipush 12, 2) := by decide +kernel
theorem dX1_laysPairs_5 : decode cX1_laysPairs 5 = .ok (.if_icmp .ge 94, 3) := by decide +kernel
theorem dX1_laysPairs_8 : decode cX1_laysPairs 8 = .ok (.aload_n 0, 1) := by decide +kernel
theorem dX1_laysPairs_9 : decode cX1_laysPairs 9 = .ok (.getfield 38, 3) := by decide +kernel
theorem dX1_laysPairs_12 : decode cX1_laysPairs 12 = .ok (.iload_n 2, 1) := by decide +kernel
theorem dX1_laysPairs_13 : decode cX1_laysPairs 13 = .ok (.iconst 0, 1) := by decide +kernel
theorem dX1_laysPairs_14 : decode cX1_laysPairs 14 = .ok (.iastore, 1) := by decide +kernel
theorem dX1_laysPairs_15 : decode cX1_laysPairs 15 = .ok (.iconst 0, 1) := by decide +kernel
theorem dX1_laysPairs_16 : decode cX1_laysPairs 16 = .ok (.istore_n 3, 1) := by decide +kernel
theorem dX1_laysPairs_17 : decode cX1_laysPairs 17 = .ok (.iload_n 3, 1) := by decide +kernel
theorem dX1_laysPairs_18 : decode cX1_laysPairs 18 = .ok (.bipush 12, 2) := by decide +kernel
theorem dX1_laysPairs_20 : decode cX1_laysPairs 20 = .ok (.if_icmp .ge 73, 3) := by decide +kernel
theorem dX1_laysPairs_23 : decode cX1_laysPairs 23 = .ok (.aload_n 0, 1) := by decide +kernel
theorem dX1_laysPairs_24 : decode cX1_laysPairs 24 = .ok (.iload_n 2, 1) := by decide +kernel
theorem dX1_laysPairs_25 : decode cX1_laysPairs 25 = .ok (.iload_n 3, 1) := by decide +kernel
theorem dX1_laysPairs_26 : decode cX1_laysPairs 26 = .ok (.iconst (-1), 1) := by decide +kernel
theorem dX1_laysPairs_27 : decode cX1_laysPairs 27 = .ok (.invokevirtual 76, 3) := by decide +kernel
theorem dX1_laysPairs_30 : decode cX1_laysPairs 30 = .ok (.ifCond .ne 33, 3) := by decide +kernel
theorem dX1_laysPairs_33 : decode cX1_laysPairs 33 = .ok (.aload_n 0, 1) := by decide +kernel
theorem dX1_laysPairs_34 : decode cX1_laysPairs 34 = .ok (.iload_n 2, 1) := by decide +kernel
theorem dX1_laysPairs_35 : decode cX1_laysPairs 35 = .ok (.iload_n 3, 1) := by decide +kernel
theorem dX1_laysPairs_36 : decode cX1_laysPairs 36 = .ok (.invokevirtual 69, 3) := by decide +kernel
theorem dX1_laysPairs_39 : decode cX1_laysPairs 39 = .ok (.ifCond .ne 24, 3) := by decide +kernel
theorem dX1_laysPairs_42 : decode cX1_laysPairs 42 = .ok (.aload_n 0, 1) := by decide +kernel
theorem dX1_laysPairs_43 : decode cX1_laysPairs 43 = .ok (.getfield 20, 3) := by decide +kernel
theorem dX1_laysPairs_46 : decode cX1_laysPairs 46 = .ok (.iload_n 2, 1) := by decide +kernel
theorem dX1_laysPairs_47 : decode cX1_laysPairs 47 = .ok (.iaload, 1) := by decide +kernel
theorem dX1_laysPairs_48 : decode cX1_laysPairs 48 = .ok (.aload_n 0, 1) := by decide +kernel
theorem dX1_laysPairs_49 : decode cX1_laysPairs 49 = .ok (.getfield 20, 3) := by decide +kernel
theorem dX1_laysPairs_52 : decode cX1_laysPairs 52 = .ok (.iload_n 3, 1) := by decide +kernel
theorem dX1_laysPairs_53 : decode cX1_laysPairs 53 = .ok (.iaload, 1) := by decide +kernel
theorem dX1_laysPairs_54 : decode cX1_laysPairs 54 = .ok (.iadd, 1) := by decide +kernel
theorem dX1_laysPairs_55 : decode cX1_laysPairs 55 = .ok (.iload_n 1, 1) := by decide +kernel
theorem dX1_laysPairs_56 : decode cX1_laysPairs 56 = .ok (.if_icmp .lt 7, 3) := by decide +kernel
theorem dX1_laysPairs_59 : decode cX1_laysPairs 59 = .ok (.iconst 1, 1) := by decide +kernel
theorem dX1_laysPairs_60 : decode cX1_laysPairs 60 = .ok (.goto 4, 3) := by decide +kernel
theorem dX1_laysPairs_63 : decode cX1_laysPairs 63 = .ok (.iconst 0, 1) := by decide +kernel
theorem dX1_laysPairs_64 : decode cX1_laysPairs 64 = .ok (.istore 4, 2) := by decide +kernel
theorem dX1_laysPairs_66 : decode cX1_laysPairs 66 = .ok (.aload_n 0, 1) := by decide +kernel
theorem dX1_laysPairs_67 : decode cX1_laysPairs 67 = .ok (.getfield 38, 3) := by decide +kernel
theorem dX1_laysPairs_70 : decode cX1_laysPairs 70 = .ok (.iload_n 2, 1) := by decide +kernel
theorem dX1_laysPairs_71 : decode cX1_laysPairs 71 = .ok (.dup2, 1) := by decide +kernel
theorem dX1_laysPairs_72 : decode cX1_laysPairs 72 = .ok (.iaload, 1) := by decide +kernel
theorem dX1_laysPairs_73 : decode cX1_laysPairs 73 = .ok (.iload 4, 2) := by decide +kernel
theorem dX1_laysPairs_75 : decode cX1_laysPairs 75 = .ok (.ifCond .eq 9, 3) := by decide +kernel
theorem dX1_laysPairs_78 : decode cX1_laysPairs 78 = .ok (.iconst 1, 1) := by decide +kernel
theorem dX1_laysPairs_79 : decode cX1_laysPairs 79 = .ok (.iload_n 3, 1) := by decide +kernel
theorem dX1_laysPairs_80 : decode cX1_laysPairs 80 = .ok (.ishl, 1) := by decide +kernel
theorem dX1_laysPairs_81 : decode cX1_laysPairs 81 = .ok (.goto 4, 3) := by decide +kernel
theorem dX1_laysPairs_84 : decode cX1_laysPairs 84 = .ok (.iconst 0, 1) := by decide +kernel
theorem dX1_laysPairs_85 : decode cX1_laysPairs 85 = .ok (.ior, 1) := by decide +kernel
theorem dX1_laysPairs_86 : decode cX1_laysPairs 86 = .ok (.iastore, 1) := by decide +kernel
theorem dX1_laysPairs_87 : decode cX1_laysPairs 87 = .ok (.iinc 3 1, 3) := by decide +kernel
theorem dX1_laysPairs_90 : decode cX1_laysPairs 90 = .ok (.goto (-73), 3) := by decide +kernel
theorem dX1_laysPairs_93 : decode cX1_laysPairs 93 = .ok (.iinc 2 1, 3) := by decide +kernel
theorem dX1_laysPairs_96 : decode cX1_laysPairs 96 = .ok (.goto (-94), 3) := by decide +kernel
theorem dX1_laysPairs_99 : decode cX1_laysPairs 99 = .ok (.return_, 1) := by decide +kernel
theorem dX1_setOf_0 : decode cX1_setOf 0 = .ok (.iconst 0, 1) := by decide +kernel
theorem dX1_setOf_1 : decode cX1_setOf 1 = .ok (.istore_n 2, 1) := by decide +kernel
theorem dX1_setOf_2 : decode cX1_setOf 2 = .ok (.iconst 0, 1) := by decide +kernel
theorem dX1_setOf_3 : decode cX1_setOf 3 = .ok (.istore_n 3, 1) := by decide +kernel
theorem dX1_setOf_4 : decode cX1_setOf 4 = .ok (.iload_n 3, 1) := by decide +kernel
theorem dX1_setOf_5 : decode cX1_setOf 5 = .ok (.aload_n 0, 1) := by decide +kernel
theorem dX1_setOf_6 : decode cX1_setOf 6 = .ok (.getfield 45, 3) := by decide +kernel
theorem dX1_setOf_9 : decode cX1_setOf 9 = .ok (.if_icmp .ge 38, 3) := by decide +kernel
theorem dX1_setOf_12 : decode cX1_setOf 12 = .ok (.iload_n 2, 1) := by decide +kernel
theorem dX1_setOf_13 : decode cX1_setOf 13 = .ok (.aload_n 0, 1) := by decide +kernel
theorem dX1_setOf_14 : decode cX1_setOf 14 = .ok (.getfield 7, 3) := by decide +kernel
theorem dX1_setOf_17 : decode cX1_setOf 17 = .ok (.iload_n 3, 1) := by decide +kernel
theorem dX1_setOf_18 : decode cX1_setOf 18 = .ok (.baload, 1) := by decide +kernel
theorem dX1_setOf_19 : decode cX1_setOf 19 = .ok (.ifCond .ne 19, 3) := by decide +kernel
theorem dX1_setOf_22 : decode cX1_setOf 22 = .ok (.aload_n 0, 1) := by decide +kernel
theorem dX1_setOf_23 : decode cX1_setOf 23 = .ok (.getfield 13, 3) := by decide +kernel
theorem dX1_setOf_26 : decode cX1_setOf 26 = .ok (.iload_n 3, 1) := by decide +kernel
theorem dX1_setOf_27 : decode cX1_setOf 27 = .ok (.iaload, 1) := by decide +kernel
theorem dX1_setOf_28 : decode cX1_setOf 28 = .ok (.iload_n 1, 1) := by decide +kernel
theorem dX1_setOf_29 : decode cX1_setOf 29 = .ok (.if_icmp .ne 9, 3) := by decide +kernel
theorem dX1_setOf_32 : decode cX1_setOf 32 = .ok (.iconst 1, 1) := by decide +kernel
theorem dX1_setOf_33 : decode cX1_setOf 33 = .ok (.iload_n 3, 1) := by decide +kernel
theorem dX1_setOf_34 : decode cX1_setOf 34 = .ok (.ishl, 1) := by decide +kernel
theorem dX1_setOf_35 : decode cX1_setOf 35 = .ok (.goto 4, 3) := by decide +kernel
theorem dX1_setOf_38 : decode cX1_setOf 38 = .ok (.iconst 0, 1) := by decide +kernel
theorem dX1_setOf_39 : decode cX1_setOf 39 = .ok (.ior, 1) := by decide +kernel
theorem dX1_setOf_40 : decode cX1_setOf 40 = .ok (.istore_n 2, 1) := by decide +kernel
theorem dX1_setOf_41 : decode cX1_setOf 41 = .ok (.iinc 3 1, 3) := by decide +kernel
theorem dX1_setOf_44 : decode cX1_setOf 44 = .ok (.goto (-40), 3) := by decide +kernel
theorem dX1_setOf_47 : decode cX1_setOf 47 = .ok (.iload_n 2, 1) := by decide +kernel
theorem dX1_setOf_48 : decode cX1_setOf 48 = .ok (.ireturn, 1) := by decide +kernel
theorem dX1_worn_0 : decode cX1_worn 0 = .ok (.iconst 0, 1) := by decide +kernel
theorem dX1_worn_1 : decode cX1_worn 1 = .ok (.istore_n 2, 1) := by decide +kernel
theorem dX1_worn_2 : decode cX1_worn 2 = .ok (.iconst 0, 1) := by decide +kernel
theorem dX1_worn_3 : decode cX1_worn 3 = .ok (.istore_n 3, 1) := by decide +kernel
theorem dX1_worn_4 : decode cX1_worn 4 = .ok (.iload_n 3, 1) := by decide +kernel
theorem dX1_worn_5 : decode cX1_worn 5 = .ok (.aload_n 0, 1) := by decide +kernel
theorem dX1_worn_6 : decode cX1_worn 6 = .ok (.getfield 45, 3) := by decide +kernel
theorem dX1_worn_9 : decode cX1_worn 9 = .ok (.if_icmp .ge 31, 3) := by decide +kernel
theorem dX1_worn_12 : decode cX1_worn 12 = .ok (.iload_n 2, 1) := by decide +kernel
theorem dX1_worn_13 : decode cX1_worn 13 = .ok (.iload_n 1, 1) := by decide +kernel
theorem dX1_worn_14 : decode cX1_worn 14 = .ok (.iload_n 3, 1) := by decide +kernel
theorem dX1_worn_15 : decode cX1_worn 15 = .ok (.ishr, 1) := by decide +kernel
theorem dX1_worn_16 : decode cX1_worn 16 = .ok (.iconst 1, 1) := by decide +kernel
theorem dX1_worn_17 : decode cX1_worn 17 = .ok (.iand, 1) := by decide +kernel
theorem dX1_worn_18 : decode cX1_worn 18 = .ok (.iconst 1, 1) := by decide +kernel
theorem dX1_worn_19 : decode cX1_worn 19 = .ok (.if_icmp .ne 12, 3) := by decide +kernel
theorem dX1_worn_22 : decode cX1_worn 22 = .ok (.aload_n 0, 1) := by decide +kernel
theorem dX1_worn_23 : decode cX1_worn 23 = .ok (.getfield 29, 3) := by decide +kernel
theorem dX1_worn_26 : decode cX1_worn 26 = .ok (.iload_n 3, 1) := by decide +kernel
theorem dX1_worn_27 : decode cX1_worn 27 = .ok (.iaload, 1) := by decide +kernel
theorem dX1_worn_28 : decode cX1_worn 28 = .ok (.goto 4, 3) := by decide +kernel
theorem dX1_worn_31 : decode cX1_worn 31 = .ok (.iconst 0, 1) := by decide +kernel
theorem dX1_worn_32 : decode cX1_worn 32 = .ok (.iadd, 1) := by decide +kernel
theorem dX1_worn_33 : decode cX1_worn 33 = .ok (.istore_n 2, 1) := by decide +kernel
theorem dX1_worn_34 : decode cX1_worn 34 = .ok (.iinc 3 1, 3) := by decide +kernel
theorem dX1_worn_37 : decode cX1_worn 37 = .ok (.goto (-33), 3) := by decide +kernel
theorem dX1_worn_40 : decode cX1_worn 40 = .ok (.iload_n 2, 1) := by decide +kernel
theorem dX1_worn_41 : decode cX1_worn 41 = .ok (.ireturn, 1) := by decide +kernel
set_option maxRecDepth 20000 in
theorem ggX1_daysOf_X1_worn : GoodIn wsX1_daysOf wsX1_worn := goodIn_r _ [7, 1, 8, 9, 10, 11, 12, 13, 14, 15, 16, 17, 18, 19, 20, 21] (by decide +kernel) (by decide +kernel)
set_option maxRecDepth 20000 in
theorem gX1_daysOf_X1_worn : GoodIn wsX1_daysOf (wsV RX1 100 RX1 yX1_worn wsX1_worn) := goodIn_app (goodIn_of _ (by decide +kernel)) ggX1_daysOf_X1_worn
theorem dX1_daysOf_0 : decode cX1_daysOf 0 = .ok (.iload_n 1, 1) := by decide +kernel
theorem dX1_daysOf_1 : decode cX1_daysOf 1 = .ok (.iload_n 2, 1) := by decide +kernel
theorem dX1_daysOf_2 : decode cX1_daysOf 2 = .ok (.iand, 1) := by decide +kernel
theorem dX1_daysOf_3 : decode cX1_daysOf 3 = .ok (.istore 4, 2) := by decide +kernel
theorem dX1_daysOf_5 : decode cX1_daysOf 5 = .ok (.iload_n 1, 1) := by decide +kernel
theorem dX1_daysOf_6 : decode cX1_daysOf 6 = .ok (.iload_n 3, 1) := by decide +kernel
theorem dX1_daysOf_7 : decode cX1_daysOf 7 = .ok (.iand, 1) := by decide +kernel
theorem dX1_daysOf_8 : decode cX1_daysOf 8 = .ok (.istore 5, 2) := by decide +kernel
theorem dX1_daysOf_10 : decode cX1_daysOf 10 = .ok (.aload_n 0, 1) := by decide +kernel
theorem dX1_daysOf_11 : decode cX1_daysOf 11 = .ok (.iload 4, 2) := by decide +kernel
theorem dX1_daysOf_13 : decode cX1_daysOf 13 = .ok (.invokevirtual 100, 3) := by decide +kernel
theorem dX1_daysOf_16 : decode cX1_daysOf 16 = .ok (.istore 6, 2) := by decide +kernel
theorem dX1_daysOf_18 : decode cX1_daysOf 18 = .ok (.iload 4, 2) := by decide +kernel
theorem dX1_daysOf_20 : decode cX1_daysOf 20 = .ok (.istore 7, 2) := by decide +kernel
theorem dX1_daysOf_22 : decode cX1_daysOf 22 = .ok (.iload 7, 2) := by decide +kernel
theorem dX1_daysOf_24 : decode cX1_daysOf 24 = .ok (.ifCond .le 102, 3) := by decide +kernel
theorem dX1_daysOf_27 : decode cX1_daysOf 27 = .ok (.iconst 0, 1) := by decide +kernel
theorem dX1_daysOf_28 : decode cX1_daysOf 28 = .ok (.istore 8, 2) := by decide +kernel
theorem dX1_daysOf_30 : decode cX1_daysOf 30 = .ok (.iconst 0, 1) := by decide +kernel
theorem dX1_daysOf_31 : decode cX1_daysOf 31 = .ok (.istore 9, 2) := by decide +kernel
theorem dX1_daysOf_33 : decode cX1_daysOf 33 = .ok (.iload 9, 2) := by decide +kernel
theorem dX1_daysOf_35 : decode cX1_daysOf 35 = .ok (.aload_n 0, 1) := by decide +kernel
theorem dX1_daysOf_36 : decode cX1_daysOf 36 = .ok (.getfield 45, 3) := by decide +kernel
theorem dX1_daysOf_39 : decode cX1_daysOf 39 = .ok (.if_icmp .ge 36, 3) := by decide +kernel
theorem dX1_daysOf_42 : decode cX1_daysOf 42 = .ok (.iload 8, 2) := by decide +kernel
theorem dX1_daysOf_44 : decode cX1_daysOf 44 = .ok (.iload 7, 2) := by decide +kernel
theorem dX1_daysOf_46 : decode cX1_daysOf 46 = .ok (.iload 9, 2) := by decide +kernel
theorem dX1_daysOf_48 : decode cX1_daysOf 48 = .ok (.ishr, 1) := by decide +kernel
theorem dX1_daysOf_49 : decode cX1_daysOf 49 = .ok (.iconst 1, 1) := by decide +kernel
theorem dX1_daysOf_50 : decode cX1_daysOf 50 = .ok (.iand, 1) := by decide +kernel
theorem dX1_daysOf_51 : decode cX1_daysOf 51 = .ok (.iconst 1, 1) := by decide +kernel
theorem dX1_daysOf_52 : decode cX1_daysOf 52 = .ok (.if_icmp .ne 13, 3) := by decide +kernel
theorem dX1_daysOf_55 : decode cX1_daysOf 55 = .ok (.aload_n 0, 1) := by decide +kernel
theorem dX1_daysOf_56 : decode cX1_daysOf 56 = .ok (.getfield 38, 3) := by decide +kernel
theorem dX1_daysOf_59 : decode cX1_daysOf 59 = .ok (.iload 9, 2) := by decide +kernel
theorem dX1_daysOf_61 : decode cX1_daysOf 61 = .ok (.iaload, 1) := by decide +kernel
theorem dX1_daysOf_62 : decode cX1_daysOf 62 = .ok (.goto 4, 3) := by decide +kernel
theorem dX1_daysOf_65 : decode cX1_daysOf 65 = .ok (.iconst 0, 1) := by decide +kernel
theorem dX1_daysOf_66 : decode cX1_daysOf 66 = .ok (.ior, 1) := by decide +kernel
theorem dX1_daysOf_67 : decode cX1_daysOf 67 = .ok (.istore 8, 2) := by decide +kernel
theorem dX1_daysOf_69 : decode cX1_daysOf 69 = .ok (.iinc 9 1, 3) := by decide +kernel
theorem dX1_daysOf_72 : decode cX1_daysOf 72 = .ok (.goto (-39), 3) := by decide +kernel
theorem dX1_daysOf_75 : decode cX1_daysOf 75 = .ok (.aload_n 0, 1) := by decide +kernel
theorem dX1_daysOf_76 : decode cX1_daysOf 76 = .ok (.iload 4, 2) := by decide +kernel
theorem dX1_daysOf_78 : decode cX1_daysOf 78 = .ok (.iload 7, 2) := by decide +kernel
theorem dX1_daysOf_80 : decode cX1_daysOf 80 = .ok (.iconst (-1), 1) := by decide +kernel
theorem dX1_daysOf_81 : decode cX1_daysOf 81 = .ok (.ixor, 1) := by decide +kernel
theorem dX1_daysOf_82 : decode cX1_daysOf 82 = .ok (.iand, 1) := by decide +kernel
theorem dX1_daysOf_83 : decode cX1_daysOf 83 = .ok (.invokevirtual 100, 3) := by decide +kernel
theorem dX1_daysOf_86 : decode cX1_daysOf 86 = .ok (.aload_n 0, 1) := by decide +kernel
theorem dX1_daysOf_87 : decode cX1_daysOf 87 = .ok (.iload 8, 2) := by decide +kernel
theorem dX1_daysOf_89 : decode cX1_daysOf 89 = .ok (.iload 5, 2) := by decide +kernel
theorem dX1_daysOf_91 : decode cX1_daysOf 91 = .ok (.iand, 1) := by decide +kernel
theorem dX1_daysOf_92 : decode cX1_daysOf 92 = .ok (.invokevirtual 100, 3) := by decide +kernel
theorem dX1_daysOf_95 : decode cX1_daysOf 95 = .ok (.iadd, 1) := by decide +kernel
theorem dX1_daysOf_96 : decode cX1_daysOf 96 = .ok (.istore 9, 2) := by decide +kernel
theorem dX1_daysOf_98 : decode cX1_daysOf 98 = .ok (.iload 9, 2) := by decide +kernel
theorem dX1_daysOf_100 : decode cX1_daysOf 100 = .ok (.iload 6, 2) := by decide +kernel
theorem dX1_daysOf_102 : decode cX1_daysOf 102 = .ok (.if_icmp .ge 8, 3) := by decide +kernel
theorem dX1_daysOf_105 : decode cX1_daysOf 105 = .ok (.iload 9, 2) := by decide +kernel
theorem dX1_daysOf_107 : decode cX1_daysOf 107 = .ok (.goto 5, 3) := by decide +kernel
theorem dX1_daysOf_110 : decode cX1_daysOf 110 = .ok (.iload 6, 2) := by decide +kernel
theorem dX1_daysOf_112 : decode cX1_daysOf 112 = .ok (.istore 6, 2) := by decide +kernel
theorem dX1_daysOf_114 : decode cX1_daysOf 114 = .ok (.iload 7, 2) := by decide +kernel
theorem dX1_daysOf_116 : decode cX1_daysOf 116 = .ok (.iconst 1, 1) := by decide +kernel
theorem dX1_daysOf_117 : decode cX1_daysOf 117 = .ok (.isub, 1) := by decide +kernel
theorem dX1_daysOf_118 : decode cX1_daysOf 118 = .ok (.iload 4, 2) := by decide +kernel
theorem dX1_daysOf_120 : decode cX1_daysOf 120 = .ok (.iand, 1) := by decide +kernel
theorem dX1_daysOf_121 : decode cX1_daysOf 121 = .ok (.istore 7, 2) := by decide +kernel
theorem dX1_daysOf_123 : decode cX1_daysOf 123 = .ok (.goto (-101), 3) := by decide +kernel
theorem dX1_daysOf_126 : decode cX1_daysOf 126 = .ok (.iload 6, 2) := by decide +kernel
theorem dX1_daysOf_128 : decode cX1_daysOf 128 = .ok (.ireturn, 1) := by decide +kernel
set_option maxRecDepth 20000 in
theorem ggX1_isEnough_X1_setOf : GoodIn wsX1_isEnough wsX1_setOf := goodIn_r _ [5, 6, 7, 8, 46, 47, 48, 49, 50, 51, 52, 53, 54, 55, 56, 57, 58] (by decide +kernel) (by decide +kernel)
set_option maxRecDepth 20000 in
theorem gX1_isEnough_X1_setOf : GoodIn wsX1_isEnough (wsV RX1 104 RX1 yX1_setOf wsX1_setOf) := goodIn_app (goodIn_of _ (by decide +kernel)) ggX1_isEnough_X1_setOf
set_option maxRecDepth 20000 in
theorem ggX1_isEnough_X1_isIn : GoodIn wsX1_isEnough wsX1_isIn := goodIn_r _ [11] (by decide +kernel) (by decide +kernel)
set_option maxRecDepth 20000 in
theorem gX1_isEnough_X1_isIn : GoodIn wsX1_isEnough (va_wsS RX1 48 yX1_isIn wsX1_isIn) := goodIn_app (goodIn_of _ (by decide +kernel)) ggX1_isEnough_X1_isIn
set_option maxRecDepth 20000 in
theorem ggX1_isEnough_X1_goes : GoodIn wsX1_isEnough wsX1_goes := goodIn_r _ [15, 16, 46, 47, 48, 49, 50, 51, 52, 53, 54, 55, 56, 57, 58] (by decide +kernel) (by decide +kernel)
set_option maxRecDepth 20000 in
theorem gX1_isEnough_X1_goes : GoodIn wsX1_isEnough (wsV RX1 59 RX1 yX1_goes wsX1_goes) := goodIn_app (goodIn_of _ (by decide +kernel)) ggX1_isEnough_X1_goes
set_option maxRecDepth 20000 in
theorem ggX1_isEnough_X1_laysPairs : GoodIn wsX1_isEnough wsX1_laysPairs := goodIn_r _ [20, 21, 22, 23, 24, 25, 4, 26, 8, 27, 28, 29, 30, 6, 7, 9, 10, 11, 31, 32, 33, 34, 35, 36, 46, 47, 48, 49, 50, 51, 52, 53, 54, 55, 56, 57, 58] (by decide +kernel) (by decide +kernel)
set_option maxRecDepth 20000 in
theorem gX1_isEnough_X1_laysPairs : GoodIn wsX1_isEnough (wsV RX1 107 RX1 yX1_laysPairs wsX1_laysPairs) := goodIn_app (goodIn_of _ (by decide +kernel)) ggX1_isEnough_X1_laysPairs
set_option maxRecDepth 20000 in
theorem ggX1_isEnough_X1_daysOf : GoodIn wsX1_isEnough wsX1_daysOf := goodIn_r _ [40, 6, 21, 41, 42, 43, 4, 44, 45, 46, 47, 48, 49, 50, 51, 52, 53, 54, 55, 56, 57, 58] (by decide +kernel) (by decide +kernel)
set_option maxRecDepth 20000 in
theorem gX1_isEnough_X1_daysOf : GoodIn wsX1_isEnough (wsV RX1 111 RX1 yX1_daysOf wsX1_daysOf) := goodIn_app (goodIn_of _ (by decide +kernel)) ggX1_isEnough_X1_daysOf
theorem dX1_isEnough_0 : decode cX1_isEnough 0 = .ok (.aload_n 0, 1) := by decide +kernel
theorem dX1_isEnough_1 : decode cX1_isEnough 1 = .ok (.iconst 0, 1) := by decide +kernel
theorem dX1_isEnough_2 : decode cX1_isEnough 2 = .ok (.invokevirtual 104, 3) := by decide +kernel
theorem dX1_isEnough_5 : decode cX1_isEnough 5 = .ok (.aload_n 0, 1) := by decide +kernel
theorem dX1_isEnough_6 : decode cX1_isEnough 6 = .ok (.iconst 1, 1) := by decide +kernel
theorem dX1_isEnough_7 : decode cX1_isEnough 7 = .ok (.invokevirtual 104, 3) := by decide +kernel
theorem dX1_isEnough_10 : decode cX1_isEnough 10 = .ok (.ior, 1) := by decide +kernel
theorem dX1_isEnough_11 : decode cX1_isEnough 11 = .ok (.aload_n 0, 1) := by decide +kernel
theorem dX1_isEnough_12 : decode cX1_isEnough 12 = .ok (.iconst 2, 1) := by decide +kernel
theorem dX1_isEnough_13 : decode cX1_isEnough 13 = .ok (.invokevirtual 104, 3) := by decide +kernel
theorem dX1_isEnough_16 : decode cX1_isEnough 16 = .ok (.ior, 1) := by decide +kernel
theorem dX1_isEnough_17 : decode cX1_isEnough 17 = .ok (.istore 4, 2) := by decide +kernel
theorem dX1_isEnough_19 : decode cX1_isEnough 19 = .ok (.aload_n 0, 1) := by decide +kernel
theorem dX1_isEnough_20 : decode cX1_isEnough 20 = .ok (.iload_n 1, 1) := by decide +kernel
theorem dX1_isEnough_21 : decode cX1_isEnough 21 = .ok (.iload 4, 2) := by decide +kernel
theorem dX1_isEnough_23 : decode cX1_isEnough 23 = .ok (.iconst (-1), 1) := by decide +kernel
theorem dX1_isEnough_24 : decode cX1_isEnough 24 = .ok (.ixor, 1) := by decide +kernel
theorem dX1_isEnough_25 : decode cX1_isEnough 25 = .ok (.iand, 1) := by decide +kernel
theorem dX1_isEnough_26 : decode cX1_isEnough 26 = .ok (.ifCond .ne 27, 3) := by decide +kernel
theorem dX1_isEnough_29 : decode cX1_isEnough 29 = .ok (.iload_n 2, 1) := by decide +kernel
theorem dX1_isEnough_30 : decode cX1_isEnough 30 = .ok (.iconst 1, 1) := by decide +kernel
theorem dX1_isEnough_31 : decode cX1_isEnough 31 = .ok (.bipush 20, 2) := by decide +kernel
theorem dX1_isEnough_33 : decode cX1_isEnough 33 = .ok (.invokestatic 48, 3) := by decide +kernel
theorem dX1_isEnough_36 : decode cX1_isEnough 36 = .ok (.ifCond .eq 17, 3) := by decide +kernel
theorem dX1_isEnough_39 : decode cX1_isEnough 39 = .ok (.iload_n 3, 1) := by decide +kernel
theorem dX1_isEnough_40 : decode cX1_isEnough 40 = .ok (.iconst 0, 1) := by decide +kernel
theorem dX1_isEnough_41 : decode cX1_isEnough 41 = .ok (.bipush 20, 2) := by decide +kernel
theorem dX1_isEnough_43 : decode cX1_isEnough 43 = .ok (.invokestatic 48, 3) := by decide +kernel
theorem dX1_isEnough_46 : decode cX1_isEnough 46 = .ok (.ifCond .eq 7, 3) := by decide +kernel
theorem dX1_isEnough_49 : decode cX1_isEnough 49 = .ok (.iconst 0, 1) := by decide +kernel
theorem dX1_isEnough_50 : decode cX1_isEnough 50 = .ok (.goto 4, 3) := by decide +kernel
theorem dX1_isEnough_53 : decode cX1_isEnough 53 = .ok (.iconst 1, 1) := by decide +kernel
theorem dX1_isEnough_54 : decode cX1_isEnough 54 = .ok (.invokevirtual 59, 3) := by decide +kernel
theorem dX1_isEnough_57 : decode cX1_isEnough 57 = .ok (.ifCond .ne 5, 3) := by decide +kernel
theorem dX1_isEnough_60 : decode cX1_isEnough 60 = .ok (.iconst 0, 1) := by decide +kernel
theorem dX1_isEnough_61 : decode cX1_isEnough 61 = .ok (.ireturn, 1) := by decide +kernel
theorem dX1_isEnough_62 : decode cX1_isEnough 62 = .ok (.aload_n 0, 1) := by decide +kernel
theorem dX1_isEnough_63 : decode cX1_isEnough 63 = .ok (.iload_n 3, 1) := by decide +kernel
theorem dX1_isEnough_64 : decode cX1_isEnough 64 = .ok (.invokevirtual 107, 3) := by decide +kernel
theorem dX1_isEnough_67 : decode cX1_isEnough 67 = .ok (.aload_n 0, 1) := by decide +kernel
theorem dX1_isEnough_68 : decode cX1_isEnough 68 = .ok (.iload_n 1, 1) := by decide +kernel
theorem dX1_isEnough_69 : decode cX1_isEnough 69 = .ok (.aload_n 0, 1) := by decide +kernel
theorem dX1_isEnough_70 : decode cX1_isEnough 70 = .ok (.iconst 0, 1) := by decide +kernel
theorem dX1_isEnough_71 : decode cX1_isEnough 71 = .ok (.invokevirtual 104, 3) := by decide +kernel
theorem dX1_isEnough_74 : decode cX1_isEnough 74 = .ok (.aload_n 0, 1) := by decide +kernel
theorem dX1_isEnough_75 : decode cX1_isEnough 75 = .ok (.iconst 1, 1) := by decide +kernel
theorem dX1_isEnough_76 : decode cX1_isEnough 76 = .ok (.invokevirtual 104, 3) := by decide +kernel
theorem dX1_isEnough_79 : decode cX1_isEnough 79 = .ok (.invokevirtual 111, 3) := by decide +kernel
theorem dX1_isEnough_82 : decode cX1_isEnough 82 = .ok (.iload_n 2, 1) := by decide +kernel
theorem dX1_isEnough_83 : decode cX1_isEnough 83 = .ok (.if_icmp .lt 7, 3) := by decide +kernel
theorem dX1_isEnough_86 : decode cX1_isEnough 86 = .ok (.iconst 1, 1) := by decide +kernel
theorem dX1_isEnough_87 : decode cX1_isEnough 87 = .ok (.goto 4, 3) := by decide +kernel
theorem dX1_isEnough_90 : decode cX1_isEnough 90 = .ok (.iconst 0, 1) := by decide +kernel
theorem dX1_isEnough_91 : decode cX1_isEnough 91 = .ok (.ireturn, 1) := by decide +kernel
theorem dX1_size_0 : decode cX1_size 0 = .ok (.iconst 0, 1) := by decide +kernel
theorem dX1_size_1 : decode cX1_size 1 = .ok (.istore_n 1, 1) := by decide +kernel
theorem dX1_size_2 : decode cX1_size 2 = .ok (.iconst 0, 1) := by decide +kernel
theorem dX1_size_3 : decode cX1_size 3 = .ok (.istore_n 2, 1) := by decide +kernel
theorem dX1_size_4 : decode cX1_size 4 = .ok (.iload_n 2, 1) := by decide +kernel
theorem dX1_size_5 : decode cX1_size 5 = .ok (.bipush 12, 2) := by decide +kernel
theorem dX1_size_7 : decode cX1_size 7 = .ok (.if_icmp .ge 17, 3) := by decide +kernel
theorem dX1_size_10 : decode cX1_size 10 = .ok (.iload_n 1, 1) := by decide +kernel
theorem dX1_size_11 : decode cX1_size 11 = .ok (.iload_n 0, 1) := by decide +kernel
theorem dX1_size_12 : decode cX1_size 12 = .ok (.iload_n 2, 1) := by decide +kernel
theorem dX1_size_13 : decode cX1_size 13 = .ok (.ishr, 1) := by decide +kernel
theorem dX1_size_14 : decode cX1_size 14 = .ok (.iconst 1, 1) := by decide +kernel
theorem dX1_size_15 : decode cX1_size 15 = .ok (.iand, 1) := by decide +kernel
theorem dX1_size_16 : decode cX1_size 16 = .ok (.iadd, 1) := by decide +kernel
theorem dX1_size_17 : decode cX1_size 17 = .ok (.istore_n 1, 1) := by decide +kernel
theorem dX1_size_18 : decode cX1_size 18 = .ok (.iinc 2 1, 3) := by decide +kernel
theorem dX1_size_21 : decode cX1_size 21 = .ok (.goto (-17), 3) := by decide +kernel
theorem dX1_size_24 : decode cX1_size 24 = .ok (.iload_n 1, 1) := by decide +kernel
theorem dX1_size_25 : decode cX1_size 25 = .ok (.ireturn, 1) := by decide +kernel
set_option maxRecDepth 20000 in
theorem ggX1_bag_X1_isIn : GoodIn wsX1_bag wsX1_isIn := goodIn_r _ [4] (by decide +kernel) (by decide +kernel)
set_option maxRecDepth 20000 in
theorem gX1_bag_X1_isIn : GoodIn wsX1_bag (va_wsS RX1 48 yX1_isIn wsX1_isIn) := goodIn_app (goodIn_of _ (by decide +kernel)) ggX1_bag_X1_isIn
set_option maxRecDepth 20000 in
theorem ggX1_bag_X1_goes : GoodIn wsX1_bag wsX1_goes := goodIn_r _ [8, 9, 49, 50, 51, 52, 53, 54, 55, 56, 57, 58, 59, 60, 61] (by decide +kernel) (by decide +kernel)
set_option maxRecDepth 20000 in
theorem gX1_bag_X1_goes : GoodIn wsX1_bag (wsV RX1 59 RX1 yX1_goes wsX1_goes) := goodIn_app (goodIn_of _ (by decide +kernel)) ggX1_bag_X1_goes
set_option maxRecDepth 20000 in
theorem ggX1_bag_X1_laysPairs : GoodIn wsX1_bag wsX1_laysPairs := goodIn_r _ [13, 14, 15, 16, 17, 18, 3, 19, 20, 21, 22, 23, 24, 25, 26, 1, 2, 4, 27, 28, 29, 30, 31, 32, 49, 50, 51, 52, 53, 54, 55, 56, 57, 58, 59, 60, 61] (by decide +kernel) (by decide +kernel)
set_option maxRecDepth 20000 in
theorem gX1_bag_X1_laysPairs : GoodIn wsX1_bag (wsV RX1 107 RX1 yX1_laysPairs wsX1_laysPairs) := goodIn_app (goodIn_of _ (by decide +kernel)) ggX1_bag_X1_laysPairs
set_option maxRecDepth 20000 in
theorem ggX1_bag_X1_setOf : GoodIn wsX1_bag wsX1_setOf := goodIn_r _ [36, 25, 26, 20, 49, 50, 51, 52, 53, 54, 55, 56, 57, 58, 59, 60, 61] (by decide +kernel) (by decide +kernel)
set_option maxRecDepth 20000 in
theorem gX1_bag_X1_setOf : GoodIn wsX1_bag (wsV RX1 104 RX1 yX1_setOf wsX1_setOf) := goodIn_app (goodIn_of _ (by decide +kernel)) ggX1_bag_X1_setOf
set_option maxRecDepth 20000 in
theorem ggX1_bag_X1_size : GoodIn wsX1_bag wsX1_size := goodIn_r _ [39] (by decide +kernel) (by decide +kernel)
set_option maxRecDepth 20000 in
theorem gX1_bag_X1_size : GoodIn wsX1_bag (va_wsS RX1 114 yX1_size wsX1_size) := goodIn_app (goodIn_of _ (by decide +kernel)) ggX1_bag_X1_size
set_option maxRecDepth 20000 in
theorem ggX1_bag_X1_daysOf : GoodIn wsX1_bag wsX1_daysOf := goodIn_r _ [43, 25, 14, 44, 45, 46, 3, 47, 48, 49, 50, 51, 52, 53, 54, 55, 56, 57, 58, 59, 60, 61] (by decide +kernel) (by decide +kernel)
set_option maxRecDepth 20000 in
theorem gX1_bag_X1_daysOf : GoodIn wsX1_bag (wsV RX1 111 RX1 yX1_daysOf wsX1_daysOf) := goodIn_app (goodIn_of _ (by decide +kernel)) ggX1_bag_X1_daysOf
theorem dX1_bag_0 : decode cX1_bag 0 = .ok (.aload_n 0, 1) := by decide +kernel
theorem dX1_bag_1 : decode cX1_bag 1 = .ok (.iload_n 1, 1) := by decide +kernel
theorem dX1_bag_2 : decode cX1_bag 2 = .ok (.iconst 1, 1) := by decide +kernel
theorem dX1_bag_3 : decode cX1_bag 3 = .ok (.bipush 20, 2) := by decide +kernel
theorem dX1_bag_5 : decode cX1_bag 5 = .ok (.invokestatic 48, 3) := by decide +kernel
theorem dX1_bag_8 : decode cX1_bag 8 = .ok (.ifCond .eq 17, 3) := by decide +kernel
theorem dX1_bag_11 : decode cX1_bag 11 = .ok (.iload_n 2, 1) := by decide +kernel
theorem dX1_bag_12 : decode cX1_bag 12 = .ok (.iconst 0, 1) := by decide +kernel
theorem dX1_bag_13 : decode cX1_bag 13 = .ok (.bipush 20, 2) := by decide +kernel
theorem dX1_bag_15 : decode cX1_bag 15 = .ok (.invokestatic 48, 3) := by decide +kernel
theorem dX1_bag_18 : decode cX1_bag 18 = .ok (.ifCond .eq 7, 3) := by decide +kernel
theorem dX1_bag_21 : decode cX1_bag 21 = .ok (.iconst 0, 1) := by decide +kernel
theorem dX1_bag_22 : decode cX1_bag 22 = .ok (.goto 4, 3) := by decide +kernel
theorem dX1_bag_25 : decode cX1_bag 25 = .ok (.iconst 1, 1) := by decide +kernel
theorem dX1_bag_26 : decode cX1_bag 26 = .ok (.invokevirtual 59, 3) := by decide +kernel
theorem dX1_bag_29 : decode cX1_bag 29 = .ok (.ifCond .ne 5, 3) := by decide +kernel
theorem dX1_bag_32 : decode cX1_bag 32 = .ok (.iconst 0, 1) := by decide +kernel
theorem dX1_bag_33 : decode cX1_bag 33 = .ok (.ireturn, 1) := by decide +kernel
theorem dX1_bag_34 : decode cX1_bag 34 = .ok (.aload_n 0, 1) := by decide +kernel
theorem dX1_bag_35 : decode cX1_bag 35 = .ok (.iload_n 2, 1) := by decide +kernel
theorem dX1_bag_36 : decode cX1_bag 36 = .ok (.invokevirtual 107, 3) := by decide +kernel
theorem dX1_bag_39 : decode cX1_bag 39 = .ok (.aload_n 0, 1) := by decide +kernel
theorem dX1_bag_40 : decode cX1_bag 40 = .ok (.iconst 0, 1) := by decide +kernel
theorem dX1_bag_41 : decode cX1_bag 41 = .ok (.invokevirtual 104, 3) := by decide +kernel
theorem dX1_bag_44 : decode cX1_bag 44 = .ok (.istore_n 3, 1) := by decide +kernel
theorem dX1_bag_45 : decode cX1_bag 45 = .ok (.aload_n 0, 1) := by decide +kernel
theorem dX1_bag_46 : decode cX1_bag 46 = .ok (.iconst 1, 1) := by decide +kernel
theorem dX1_bag_47 : decode cX1_bag 47 = .ok (.invokevirtual 104, 3) := by decide +kernel
theorem dX1_bag_50 : decode cX1_bag 50 = .ok (.istore 4, 2) := by decide +kernel
theorem dX1_bag_52 : decode cX1_bag 52 = .ok (.iload_n 3, 1) := by decide +kernel
theorem dX1_bag_53 : decode cX1_bag 53 = .ok (.iload 4, 2) := by decide +kernel
theorem dX1_bag_55 : decode cX1_bag 55 = .ok (.ior, 1) := by decide +kernel
theorem dX1_bag_56 : decode cX1_bag 56 = .ok (.istore 5, 2) := by decide +kernel
theorem dX1_bag_58 : decode cX1_bag 58 = .ok (.iconst 0, 1) := by decide +kernel
theorem dX1_bag_59 : decode cX1_bag 59 = .ok (.istore 6, 2) := by decide +kernel
theorem dX1_bag_61 : decode cX1_bag 61 = .ok (.bipush 13, 2) := by decide +kernel
theorem dX1_bag_63 : decode cX1_bag 63 = .ok (.istore 7, 2) := by decide +kernel
theorem dX1_bag_65 : decode cX1_bag 65 = .ok (.iload 5, 2) := by decide +kernel
theorem dX1_bag_67 : decode cX1_bag 67 = .ok (.istore 8, 2) := by decide +kernel
theorem dX1_bag_69 : decode cX1_bag 69 = .ok (.iload 8, 2) := by decide +kernel
theorem dX1_bag_71 : decode cX1_bag 71 = .ok (.ifCond .le 77, 3) := by decide +kernel
theorem dX1_bag_74 : decode cX1_bag 74 = .ok (.iload 8, 2) := by decide +kernel
theorem dX1_bag_76 : decode cX1_bag 76 = .ok (.invokestatic 114, 3) := by decide +kernel
theorem dX1_bag_79 : decode cX1_bag 79 = .ok (.istore 9, 2) := by decide +kernel
theorem dX1_bag_81 : decode cX1_bag 81 = .ok (.iload 9, 2) := by decide +kernel
theorem dX1_bag_83 : decode cX1_bag 83 = .ok (.iload 7, 2) := by decide +kernel
theorem dX1_bag_85 : decode cX1_bag 85 = .ok (.if_icmp .gt 20, 3) := by decide +kernel
theorem dX1_bag_88 : decode cX1_bag 88 = .ok (.aload_n 0, 1) := by decide +kernel
theorem dX1_bag_89 : decode cX1_bag 89 = .ok (.iload 8, 2) := by decide +kernel
theorem dX1_bag_91 : decode cX1_bag 91 = .ok (.iload_n 3, 1) := by decide +kernel
theorem dX1_bag_92 : decode cX1_bag 92 = .ok (.iload 4, 2) := by decide +kernel
theorem dX1_bag_94 : decode cX1_bag 94 = .ok (.invokevirtual 111, 3) := by decide +kernel
theorem dX1_bag_97 : decode cX1_bag 97 = .ok (.iload_n 1, 1) := by decide +kernel
theorem dX1_bag_98 : decode cX1_bag 98 = .ok (.if_icmp .lt 7, 3) := by decide +kernel
theorem dX1_bag_101 : decode cX1_bag 101 = .ok (.iconst 1, 1) := by decide +kernel
theorem dX1_bag_102 : decode cX1_bag 102 = .ok (.goto 4, 3) := by decide +kernel
theorem dX1_bag_105 : decode cX1_bag 105 = .ok (.iconst 0, 1) := by decide +kernel
theorem dX1_bag_106 : decode cX1_bag 106 = .ok (.istore 10, 2) := by decide +kernel
theorem dX1_bag_108 : decode cX1_bag 108 = .ok (.iload 10, 2) := by decide +kernel
theorem dX1_bag_110 : decode cX1_bag 110 = .ok (.ifCond .eq 8, 3) := by decide +kernel
theorem dX1_bag_113 : decode cX1_bag 113 = .ok (.iload 8, 2) := by decide +kernel
theorem dX1_bag_115 : decode cX1_bag 115 = .ok (.goto 5, 3) := by decide +kernel
theorem dX1_bag_118 : decode cX1_bag 118 = .ok (.iload 6, 2) := by decide +kernel
theorem dX1_bag_120 : decode cX1_bag 120 = .ok (.istore 6, 2) := by decide +kernel
theorem dX1_bag_122 : decode cX1_bag 122 = .ok (.iload 10, 2) := by decide +kernel
theorem dX1_bag_124 : decode cX1_bag 124 = .ok (.ifCond .eq 8, 3) := by decide +kernel
theorem dX1_bag_127 : decode cX1_bag 127 = .ok (.iload 9, 2) := by decide +kernel
theorem dX1_bag_129 : decode cX1_bag 129 = .ok (.goto 5, 3) := by decide +kernel
theorem dX1_bag_132 : decode cX1_bag 132 = .ok (.iload 7, 2) := by decide +kernel
theorem dX1_bag_134 : decode cX1_bag 134 = .ok (.istore 7, 2) := by decide +kernel
theorem dX1_bag_136 : decode cX1_bag 136 = .ok (.iload 8, 2) := by decide +kernel
theorem dX1_bag_138 : decode cX1_bag 138 = .ok (.iconst 1, 1) := by decide +kernel
theorem dX1_bag_139 : decode cX1_bag 139 = .ok (.isub, 1) := by decide +kernel
theorem dX1_bag_140 : decode cX1_bag 140 = .ok (.iload 5, 2) := by decide +kernel
theorem dX1_bag_142 : decode cX1_bag 142 = .ok (.iand, 1) := by decide +kernel
theorem dX1_bag_143 : decode cX1_bag 143 = .ok (.istore 8, 2) := by decide +kernel
theorem dX1_bag_145 : decode cX1_bag 145 = .ok (.goto (-76), 3) := by decide +kernel
theorem dX1_bag_148 : decode cX1_bag 148 = .ok (.iload 6, 2) := by decide +kernel
theorem dX1_bag_150 : decode cX1_bag 150 = .ok (.ireturn, 1) := by decide +kernel
theorem dJ6_bitCount_0f7a4_0 : decode cJ6_bitCount_0f7a4 0 = .ok (.iload_n 0, 1) := by decide +kernel
theorem dJ6_bitCount_0f7a4_1 : decode cJ6_bitCount_0f7a4 1 = .ok (.iload_n 0, 1) := by decide +kernel
theorem dJ6_bitCount_0f7a4_2 : decode cJ6_bitCount_0f7a4 2 = .ok (.iconst 1, 1) := by decide +kernel
theorem dJ6_bitCount_0f7a4_3 : decode cJ6_bitCount_0f7a4 3 = .ok (.iushr, 1) := by decide +kernel
theorem dJ6_bitCount_0f7a4_4 : decode cJ6_bitCount_0f7a4 4 = .ok (.ldc_w 265, 3) := by decide +kernel
theorem dJ6_bitCount_0f7a4_7 : decode cJ6_bitCount_0f7a4 7 = .ok (.iand, 1) := by decide +kernel
theorem dJ6_bitCount_0f7a4_8 : decode cJ6_bitCount_0f7a4 8 = .ok (.isub, 1) := by decide +kernel
theorem dJ6_bitCount_0f7a4_9 : decode cJ6_bitCount_0f7a4 9 = .ok (.istore_n 0, 1) := by decide +kernel
theorem dJ6_bitCount_0f7a4_10 : decode cJ6_bitCount_0f7a4 10 = .ok (.iload_n 0, 1) := by decide +kernel
theorem dJ6_bitCount_0f7a4_11 : decode cJ6_bitCount_0f7a4 11 = .ok (.ldc_w 266, 3) := by decide +kernel
theorem dJ6_bitCount_0f7a4_14 : decode cJ6_bitCount_0f7a4 14 = .ok (.iand, 1) := by decide +kernel
theorem dJ6_bitCount_0f7a4_15 : decode cJ6_bitCount_0f7a4 15 = .ok (.iload_n 0, 1) := by decide +kernel
theorem dJ6_bitCount_0f7a4_16 : decode cJ6_bitCount_0f7a4 16 = .ok (.iconst 2, 1) := by decide +kernel
theorem dJ6_bitCount_0f7a4_17 : decode cJ6_bitCount_0f7a4 17 = .ok (.iushr, 1) := by decide +kernel
theorem dJ6_bitCount_0f7a4_18 : decode cJ6_bitCount_0f7a4 18 = .ok (.ldc_w 266, 3) := by decide +kernel
theorem dJ6_bitCount_0f7a4_21 : decode cJ6_bitCount_0f7a4 21 = .ok (.iand, 1) := by decide +kernel
theorem dJ6_bitCount_0f7a4_22 : decode cJ6_bitCount_0f7a4 22 = .ok (.iadd, 1) := by decide +kernel
theorem dJ6_bitCount_0f7a4_23 : decode cJ6_bitCount_0f7a4 23 = .ok (.istore_n 0, 1) := by decide +kernel
theorem dJ6_bitCount_0f7a4_24 : decode cJ6_bitCount_0f7a4 24 = .ok (.iload_n 0, 1) := by decide +kernel
theorem dJ6_bitCount_0f7a4_25 : decode cJ6_bitCount_0f7a4 25 = .ok (.iload_n 0, 1) := by decide +kernel
theorem dJ6_bitCount_0f7a4_26 : decode cJ6_bitCount_0f7a4 26 = .ok (.iconst 4, 1) := by decide +kernel
theorem dJ6_bitCount_0f7a4_27 : decode cJ6_bitCount_0f7a4 27 = .ok (.iushr, 1) := by decide +kernel
theorem dJ6_bitCount_0f7a4_28 : decode cJ6_bitCount_0f7a4 28 = .ok (.iadd, 1) := by decide +kernel
theorem dJ6_bitCount_0f7a4_29 : decode cJ6_bitCount_0f7a4 29 = .ok (.ldc_w 267, 3) := by decide +kernel
theorem dJ6_bitCount_0f7a4_32 : decode cJ6_bitCount_0f7a4 32 = .ok (.iand, 1) := by decide +kernel
theorem dJ6_bitCount_0f7a4_33 : decode cJ6_bitCount_0f7a4 33 = .ok (.istore_n 0, 1) := by decide +kernel
theorem dJ6_bitCount_0f7a4_34 : decode cJ6_bitCount_0f7a4 34 = .ok (.iload_n 0, 1) := by decide +kernel
theorem dJ6_bitCount_0f7a4_35 : decode cJ6_bitCount_0f7a4 35 = .ok (.iload_n 0, 1) := by decide +kernel
theorem dJ6_bitCount_0f7a4_36 : decode cJ6_bitCount_0f7a4 36 = .ok (.bipush 8, 2) := by decide +kernel
theorem dJ6_bitCount_0f7a4_38 : decode cJ6_bitCount_0f7a4 38 = .ok (.iushr, 1) := by decide +kernel
theorem dJ6_bitCount_0f7a4_39 : decode cJ6_bitCount_0f7a4 39 = .ok (.iadd, 1) := by decide +kernel
theorem dJ6_bitCount_0f7a4_40 : decode cJ6_bitCount_0f7a4 40 = .ok (.istore_n 0, 1) := by decide +kernel
theorem dJ6_bitCount_0f7a4_41 : decode cJ6_bitCount_0f7a4 41 = .ok (.iload_n 0, 1) := by decide +kernel
theorem dJ6_bitCount_0f7a4_42 : decode cJ6_bitCount_0f7a4 42 = .ok (.iload_n 0, 1) := by decide +kernel
theorem dJ6_bitCount_0f7a4_43 : decode cJ6_bitCount_0f7a4 43 = .ok (.bipush 16, 2) := by decide +kernel
theorem dJ6_bitCount_0f7a4_45 : decode cJ6_bitCount_0f7a4 45 = .ok (.iushr, 1) := by decide +kernel
theorem dJ6_bitCount_0f7a4_46 : decode cJ6_bitCount_0f7a4 46 = .ok (.iadd, 1) := by decide +kernel
theorem dJ6_bitCount_0f7a4_47 : decode cJ6_bitCount_0f7a4 47 = .ok (.istore_n 0, 1) := by decide +kernel
theorem dJ6_bitCount_0f7a4_48 : decode cJ6_bitCount_0f7a4 48 = .ok (.iload_n 0, 1) := by decide +kernel
theorem dJ6_bitCount_0f7a4_49 : decode cJ6_bitCount_0f7a4 49 = .ok (.bipush 63, 2) := by decide +kernel
theorem dJ6_bitCount_0f7a4_51 : decode cJ6_bitCount_0f7a4 51 = .ok (.iand, 1) := by decide +kernel
theorem dJ6_bitCount_0f7a4_52 : decode cJ6_bitCount_0f7a4 52 = .ok (.ireturn, 1) := by decide +kernel
