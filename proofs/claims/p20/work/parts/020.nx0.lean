theorem dX0_init_0 : decode cX0_init 0 = .ok (.aload_n 0, 1) := by decide +kernel
theorem dX0_init_1 : decode cX0_init 1 = .ok (.invokespecial 1, 3) := by decide +kernel
theorem dX0_init_4 : decode cX0_init 4 = .ok (.aload_n 0, 1) := by decide +kernel
theorem dX0_init_5 : decode cX0_init 5 = .ok (.bipush 12, 2) := by decide +kernel
theorem dX0_init_7 : decode cX0_init 7 = .ok (.newarray .int, 2) := by decide +kernel
theorem dX0_init_9 : decode cX0_init 9 = .ok (.putfield 9, 3) := by decide +kernel
theorem dX0_init_12 : decode cX0_init 12 = .ok (.aload_n 0, 1) := by decide +kernel
theorem dX0_init_13 : decode cX0_init 13 = .ok (.bipush 12, 2) := by decide +kernel
theorem dX0_init_15 : decode cX0_init 15 = .ok (.newarray .int, 2) := by decide +kernel
theorem dX0_init_17 : decode cX0_init 17 = .ok (.putfield 13, 3) := by decide +kernel
theorem dX0_init_20 : decode cX0_init 20 = .ok (.aload_n 0, 1) := by decide +kernel
theorem dX0_init_21 : decode cX0_init 21 = .ok (.bipush 12, 2) := by decide +kernel
theorem dX0_init_23 : decode cX0_init 23 = .ok (.newarray .int, 2) := by decide +kernel
theorem dX0_init_25 : decode cX0_init 25 = .ok (.putfield 16, 3) := by decide +kernel
theorem dX0_init_28 : decode cX0_init 28 = .ok (.aload_n 0, 1) := by decide +kernel
theorem dX0_init_29 : decode cX0_init 29 = .ok (.bipush 12, 2) := by decide +kernel
theorem dX0_init_31 : decode cX0_init 31 = .ok (.newarray .int, 2) := by decide +kernel
theorem dX0_init_33 : decode cX0_init 33 = .ok (.putfield 19, 3) := by decide +kernel
theorem dX0_init_36 : decode cX0_init 36 = .ok (.aload_n 0, 1) := by decide +kernel
theorem dX0_init_37 : decode cX0_init 37 = .ok (.bipush 12, 2) := by decide +kernel
theorem dX0_init_39 : decode cX0_init 39 = .ok (.newarray .int, 2) := by decide +kernel
theorem dX0_init_41 : decode cX0_init 41 = .ok (.putfield 22, 3) := by decide +kernel
theorem dX0_init_44 : decode cX0_init 44 = .ok (.aload_n 0, 1) := by decide +kernel
theorem dX0_init_45 : decode cX0_init 45 = .ok (.bipush 12, 2) := by decide +kernel
theorem dX0_init_47 : decode cX0_init 47 = .ok (.newarray .int, 2) := by decide +kernel
theorem dX0_init_49 : decode cX0_init 49 = .ok (.putfield 25, 3) := by decide +kernel
theorem dX0_init_52 : decode cX0_init 52 = .ok (.aload_n 0, 1) := by decide +kernel
theorem dX0_init_53 : decode cX0_init 53 = .ok (.sipush 1152, 3) := by decide +kernel
theorem dX0_init_56 : decode cX0_init 56 = .ok (.newarray .int, 2) := by decide +kernel
theorem dX0_init_58 : decode cX0_init 58 = .ok (.putfield 28, 3) := by decide +kernel
theorem dX0_init_61 : decode cX0_init 61 = .ok (.aload_n 0, 1) := by decide +kernel
theorem dX0_init_62 : decode cX0_init 62 = .ok (.bipush 12, 2) := by decide +kernel
theorem dX0_init_64 : decode cX0_init 64 = .ok (.newarray .int, 2) := by decide +kernel
theorem dX0_init_66 : decode cX0_init 66 = .ok (.putfield 31, 3) := by decide +kernel
theorem dX0_init_69 : decode cX0_init 69 = .ok (.return_, 1) := by decide +kernel
set_option maxRecDepth 20000 in
theorem ggX0_add_X0_isWithin : GoodIn wsX0_add wsX0_isWithin := goodIn_r _ [16] (by decide +kernel) (by decide +kernel)
set_option maxRecDepth 20000 in
theorem gX0_add_X0_isWithin : GoodIn wsX0_add (va_wsS RX0 34 yX0_isWithin wsX0_isWithin) := goodIn_app (goodIn_of _ (by decide +kernel)) ggX0_add_X0_isWithin
set_option maxRecDepth 20000 in
theorem ggX0_add_X0_isColour : GoodIn wsX0_add wsX0_isColour := goodIn_r _ [19, 13, 14, 15, 16] (by decide +kernel) (by decide +kernel)
set_option maxRecDepth 20000 in
theorem gX0_add_X0_isColour : GoodIn wsX0_add (va_wsS RX0 38 yX0_isColour wsX0_isColour) := goodIn_app (goodIn_of _ (by decide +kernel)) ggX0_add_X0_isColour
set_option maxRecDepth 20000 in
theorem ggX0_add_X0_isCare : GoodIn wsX0_add wsX0_isCare := goodIn_r _ [22, 13, 14, 15, 16] (by decide +kernel) (by decide +kernel)
set_option maxRecDepth 20000 in
theorem gX0_add_X0_isCare : GoodIn wsX0_add (va_wsS RX0 42 yX0_isCare wsX0_isCare) := goodIn_app (goodIn_of _ (by decide +kernel)) ggX0_add_X0_isCare
theorem dX0_add_0 : decode cX0_add 0 = .ok (.iload_n 1, 1) := by decide +kernel
theorem dX0_add_1 : decode cX0_add 1 = .ok (.iconst 0, 1) := by decide +kernel
theorem dX0_add_2 : decode cX0_add 2 = .ok (.iconst 2, 1) := by decide +kernel
theorem dX0_add_3 : decode cX0_add 3 = .ok (.invokestatic 34, 3) := by decide +kernel
theorem dX0_add_6 : decode cX0_add 6 = .ok (.ifCond .eq 39, 3) := by decide +kernel
theorem dX0_add_9 : decode cX0_add 9 = .ok (.iload_n 2, 1) := by decide +kernel
theorem dX0_add_10 : decode cX0_add 10 = .ok (.invokestatic 38, 3) := by decide +kernel
theorem dX0_add_13 : decode cX0_add 13 = .ok (.ifCond .eq 32, 3) := by decide +kernel
theorem dX0_add_16 : decode cX0_add 16 = .ok (.iload_n 3, 1) := by decide +kernel
theorem dX0_add_17 : decode cX0_add 17 = .ok (.iconst 0, 1) := by decide +kernel
theorem dX0_add_18 : decode cX0_add 18 = .ok (.bipush 10, 2) := by decide +kernel
theorem dX0_add_20 : decode cX0_add 20 = .ok (.invokestatic 34, 3) := by decide +kernel
theorem dX0_add_23 : decode cX0_add 23 = .ok (.ifCond .eq 22, 3) := by decide +kernel
theorem dX0_add_26 : decode cX0_add 26 = .ok (.iload 4, 2) := by decide +kernel
theorem dX0_add_28 : decode cX0_add 28 = .ok (.iconst 1, 1) := by decide +kernel
theorem dX0_add_29 : decode cX0_add 29 = .ok (.bipush 9, 2) := by decide +kernel
theorem dX0_add_31 : decode cX0_add 31 = .ok (.invokestatic 34, 3) := by decide +kernel
theorem dX0_add_34 : decode cX0_add 34 = .ok (.ifCond .eq 11, 3) := by decide +kernel
theorem dX0_add_37 : decode cX0_add 37 = .ok (.iload 5, 2) := by decide +kernel
theorem dX0_add_39 : decode cX0_add 39 = .ok (.invokestatic 42, 3) := by decide +kernel
theorem dX0_add_42 : decode cX0_add 42 = .ok (.ifCond .ne 13, 3) := by decide +kernel
theorem dX0_add_45 : decode cX0_add 45 = .ok (.new 45, 3) := by decide +kernel
theorem dX0_add_48 : decode cX0_add 48 = .ok (.dup, 1) := by decide +kernel
theorem dX0_add_49 : decode cX0_add 49 = .ok (.ldc 47, 2) := by decide +kernel
theorem dX0_add_51 : decode cX0_add 51 = .ok (.invokespecial 49, 3) := by decide +kernel
theorem dX0_add_54 : decode cX0_add 54 = .ok (.athrow, 1) := by decide +kernel
theorem dX0_add_55 : decode cX0_add 55 = .ok (.aload_n 0, 1) := by decide +kernel
theorem dX0_add_56 : decode cX0_add 56 = .ok (.getfield 52, 3) := by decide +kernel
theorem dX0_add_59 : decode cX0_add 59 = .ok (.bipush 12, 2) := by decide +kernel
theorem dX0_add_61 : decode cX0_add 61 = .ok (.if_icmp .lt 13, 3) := by decide +kernel
theorem dX0_add_64 : decode cX0_add 64 = .ok (.new 56, 3) := by decide +kernel
theorem dX0_add_67 : decode cX0_add 67 = .ok (.dup, 1) := by decide +kernel
theorem dX0_add_68 : decode cX0_add 68 = .ok (.ldc 58, 2) := by decide +kernel
theorem dX0_add_70 : decode cX0_add 70 = .ok (.invokespecial 60, 3) := by decide +kernel
theorem dX0_add_73 : decode cX0_add 73 = .ok (.athrow, 1) := by decide +kernel
theorem dX0_add_74 : decode cX0_add 74 = .ok (.aload_n 0, 1) := by decide +kernel
theorem dX0_add_75 : decode cX0_add 75 = .ok (.getfield 52, 3) := by decide +kernel
theorem dX0_add_78 : decode cX0_add 78 = .ok (.istore 6, 2) := by decide +kernel
theorem dX0_add_80 : decode cX0_add 80 = .ok (.aload_n 0, 1) := by decide +kernel
theorem dX0_add_81 : decode cX0_add 81 = .ok (.getfield 9, 3) := by decide +kernel
theorem dX0_add_84 : decode cX0_add 84 = .ok (.iload 6, 2) := by decide +kernel
theorem dX0_add_86 : decode cX0_add 86 = .ok (.iload_n 1, 1) := by decide +kernel
theorem dX0_add_87 : decode cX0_add 87 = .ok (.iastore, 1) := by decide +kernel
theorem dX0_add_88 : decode cX0_add 88 = .ok (.aload_n 0, 1) := by decide +kernel
theorem dX0_add_89 : decode cX0_add 89 = .ok (.getfield 13, 3) := by decide +kernel
theorem dX0_add_92 : decode cX0_add 92 = .ok (.iload 6, 2) := by decide +kernel
theorem dX0_add_94 : decode cX0_add 94 = .ok (.iload_n 2, 1) := by decide +kernel
theorem dX0_add_95 : decode cX0_add 95 = .ok (.iastore, 1) := by decide +kernel
theorem dX0_add_96 : decode cX0_add 96 = .ok (.aload_n 0, 1) := by decide +kernel
theorem dX0_add_97 : decode cX0_add 97 = .ok (.getfield 16, 3) := by decide +kernel
theorem dX0_add_100 : decode cX0_add 100 = .ok (.iload 6, 2) := by decide +kernel
theorem dX0_add_102 : decode cX0_add 102 = .ok (.iload_n 3, 1) := by decide +kernel
theorem dX0_add_103 : decode cX0_add 103 = .ok (.iastore, 1) := by decide +kernel
theorem dX0_add_104 : decode cX0_add 104 = .ok (.aload_n 0, 1) := by decide +kernel
theorem dX0_add_105 : decode cX0_add 105 = .ok (.getfield 19, 3) := by decide +kernel
theorem dX0_add_108 : decode cX0_add 108 = .ok (.iload 6, 2) := by decide +kernel
theorem dX0_add_110 : decode cX0_add 110 = .ok (.iload 4, 2) := by decide +kernel
theorem dX0_add_112 : decode cX0_add 112 = .ok (.iastore, 1) := by decide +kernel
theorem dX0_add_113 : decode cX0_add 113 = .ok (.aload_n 0, 1) := by decide +kernel
theorem dX0_add_114 : decode cX0_add 114 = .ok (.getfield 22, 3) := by decide +kernel
theorem dX0_add_117 : decode cX0_add 117 = .ok (.iload 6, 2) := by decide +kernel
theorem dX0_add_119 : decode cX0_add 119 = .ok (.iload 5, 2) := by decide +kernel
theorem dX0_add_121 : decode cX0_add 121 = .ok (.iastore, 1) := by decide +kernel
theorem dX0_add_122 : decode cX0_add 122 = .ok (.aload_n 0, 1) := by decide +kernel
theorem dX0_add_123 : decode cX0_add 123 = .ok (.getfield 25, 3) := by decide +kernel
theorem dX0_add_126 : decode cX0_add 126 = .ok (.iload 6, 2) := by decide +kernel
theorem dX0_add_128 : decode cX0_add 128 = .ok (.iload 4, 2) := by decide +kernel
theorem dX0_add_130 : decode cX0_add 130 = .ok (.iastore, 1) := by decide +kernel
theorem dX0_add_131 : decode cX0_add 131 = .ok (.aload_n 0, 1) := by decide +kernel
theorem dX0_add_132 : decode cX0_add 132 = .ok (.dup, 1) := by decide +kernel
theorem dX0_add_133 : decode cX0_add 133 = .ok (.getfield 61, 3) := by decide +kernel
theorem dX0_add_136 : decode cX0_add 136 = .ok (.iconst 1, 1) := by decide +kernel
theorem dX0_add_137 : decode cX0_add 137 = .ok (.iload 6, 2) := by decide +kernel
theorem dX0_add_139 : decode cX0_add 139 = .ok (.ishl, 1) := by decide +kernel
theorem dX0_add_140 : decode cX0_add 140 = .ok (.ior, 1) := by decide +kernel
theorem dX0_add_141 : decode cX0_add 141 = .ok (.putfield 61, 3) := by decide +kernel
theorem dX0_add_144 : decode cX0_add 144 = .ok (.aload_n 0, 1) := by decide +kernel
theorem dX0_add_145 : decode cX0_add 145 = .ok (.dup, 1) := by decide +kernel
theorem dX0_add_146 : decode cX0_add 146 = .ok (.getfield 52, 3) := by decide +kernel
theorem dX0_add_149 : decode cX0_add 149 = .ok (.iconst 1, 1) := by decide +kernel
theorem dX0_add_150 : decode cX0_add 150 = .ok (.iadd, 1) := by decide +kernel
theorem dX0_add_151 : decode cX0_add 151 = .ok (.putfield 52, 3) := by decide +kernel
theorem dX0_add_154 : decode cX0_add 154 = .ok (.iload 6, 2) := by decide +kernel
theorem dX0_add_156 : decode cX0_add 156 = .ok (.ireturn, 1) := by decide +kernel
set_option maxRecDepth 20000 in
theorem ggX0_giveAway_X0_isThing : GoodIn wsX0_giveAway wsX0_isThing := goodIn_r _ [8, 3, 16, 17, 18, 19, 20, 21, 22, 23, 24, 25, 26, 27] (by decide +kernel) (by decide +kernel)
set_option maxRecDepth 20000 in
theorem gX0_giveAway_X0_isThing : GoodIn wsX0_giveAway (wsV RX0 64 RX0 yX0_isThing wsX0_isThing) := goodIn_app (goodIn_of _ (by decide +kernel)) ggX0_giveAway_X0_isThing
set_option maxRecDepth 20000 in
theorem ggX0_giveAway_J6_bitCount_0f7a4 : GoodIn wsX0_giveAway wsJ6_bitCount_0f7a4 := goodIn_r _ [12, 13, 14, 15] (by decide +kernel) (by decide +kernel)
set_option maxRecDepth 20000 in
theorem gX0_giveAway_J6_bitCount_0f7a4 : GoodIn wsX0_giveAway (va_wsS RX0 72 yJ6_bitCount_0f7a4 wsJ6_bitCount_0f7a4) := goodIn_app (goodIn_of _ (by decide +kernel)) ggX0_giveAway_J6_bitCount_0f7a4
theorem dX0_giveAway_0 : decode cX0_giveAway 0 = .ok (.aload_n 0, 1) := by decide +kernel
theorem dX0_giveAway_1 : decode cX0_giveAway 1 = .ok (.iload_n 1, 1) := by decide +kernel
theorem dX0_giveAway_2 : decode cX0_giveAway 2 = .ok (.invokevirtual 64, 3) := by decide +kernel
theorem dX0_giveAway_5 : decode cX0_giveAway 5 = .ok (.ifCond .ne 13, 3) := by decide +kernel
theorem dX0_giveAway_8 : decode cX0_giveAway 8 = .ok (.new 67, 3) := by decide +kernel
theorem dX0_giveAway_11 : decode cX0_giveAway 11 = .ok (.dup, 1) := by decide +kernel
theorem dX0_giveAway_12 : decode cX0_giveAway 12 = .ok (.ldc 69, 2) := by decide +kernel
theorem dX0_giveAway_14 : decode cX0_giveAway 14 = .ok (.invokespecial 71, 3) := by decide +kernel
theorem dX0_giveAway_17 : decode cX0_giveAway 17 = .ok (.athrow, 1) := by decide +kernel
theorem dX0_giveAway_18 : decode cX0_giveAway 18 = .ok (.aload_n 0, 1) := by decide +kernel
theorem dX0_giveAway_19 : decode cX0_giveAway 19 = .ok (.dup, 1) := by decide +kernel
theorem dX0_giveAway_20 : decode cX0_giveAway 20 = .ok (.getfield 61, 3) := by decide +kernel
theorem dX0_giveAway_23 : decode cX0_giveAway 23 = .ok (.iconst 1, 1) := by decide +kernel
theorem dX0_giveAway_24 : decode cX0_giveAway 24 = .ok (.iload_n 1, 1) := by decide +kernel
theorem dX0_giveAway_25 : decode cX0_giveAway 25 = .ok (.ishl, 1) := by decide +kernel
theorem dX0_giveAway_26 : decode cX0_giveAway 26 = .ok (.iconst (-1), 1) := by decide +kernel
theorem dX0_giveAway_27 : decode cX0_giveAway 27 = .ok (.ixor, 1) := by decide +kernel
theorem dX0_giveAway_28 : decode cX0_giveAway 28 = .ok (.iand, 1) := by decide +kernel
theorem dX0_giveAway_29 : decode cX0_giveAway 29 = .ok (.putfield 61, 3) := by decide +kernel
theorem dX0_giveAway_32 : decode cX0_giveAway 32 = .ok (.aload_n 0, 1) := by decide +kernel
theorem dX0_giveAway_33 : decode cX0_giveAway 33 = .ok (.getfield 61, 3) := by decide +kernel
theorem dX0_giveAway_36 : decode cX0_giveAway 36 = .ok (.invokestatic 72, 3) := by decide +kernel
theorem dX0_giveAway_39 : decode cX0_giveAway 39 = .ok (.ireturn, 1) := by decide +kernel
set_option maxRecDepth 20000 in
theorem ggX0_setClash_X0_isColour : GoodIn wsX0_setClash wsX0_isColour := goodIn_r _ [8, 9, 10, 7, 11] (by decide +kernel) (by decide +kernel)
set_option maxRecDepth 20000 in
theorem gX0_setClash_X0_isColour : GoodIn wsX0_setClash (va_wsS RX0 38 yX0_isColour wsX0_isColour) := goodIn_app (goodIn_of _ (by decide +kernel)) ggX0_setClash_X0_isColour
set_option maxRecDepth 20000 in
theorem ggX0_setClash_X0_coloursClash : GoodIn wsX0_setClash wsX0_coloursClash := goodIn_r _ [15, 3, 16, 17, 7, 18, 19, 20, 21, 22, 23, 24, 25, 26, 27, 28, 29, 30] (by decide +kernel) (by decide +kernel)
set_option maxRecDepth 20000 in
theorem gX0_setClash_X0_coloursClash : GoodIn wsX0_setClash (wsV RX0 80 RX0 yX0_coloursClash wsX0_coloursClash) := goodIn_app (goodIn_of _ (by decide +kernel)) ggX0_setClash_X0_coloursClash
set_option maxRecDepth 20000 in
theorem ggX0_setClash_X0_clashBit : GoodIn wsX0_setClash wsX0_clashBit := goodIn_r _ [18] (by decide +kernel) (by decide +kernel)
set_option maxRecDepth 20000 in
theorem gX0_setClash_X0_clashBit : GoodIn wsX0_setClash (va_wsS RX0 84 yX0_clashBit wsX0_clashBit) := goodIn_app (goodIn_of _ (by decide +kernel)) ggX0_setClash_X0_clashBit
theorem dX0_setClash_0 : decode cX0_setClash 0 = .ok (.iload_n 1, 1) := by decide +kernel
theorem dX0_setClash_1 : decode cX0_setClash 1 = .ok (.invokestatic 38, 3) := by decide +kernel
theorem dX0_setClash_4 : decode cX0_setClash 4 = .ok (.ifCond .eq 10, 3) := by decide +kernel
theorem dX0_setClash_7 : decode cX0_setClash 7 = .ok (.iload_n 2, 1) := by decide +kernel
theorem dX0_setClash_8 : decode cX0_setClash 8 = .ok (.invokestatic 38, 3) := by decide +kernel
theorem dX0_setClash_11 : decode cX0_setClash 11 = .ok (.ifCond .ne 13, 3) := by decide +kernel
theorem dX0_setClash_14 : decode cX0_setClash 14 = .ok (.new 45, 3) := by decide +kernel
theorem dX0_setClash_17 : decode cX0_setClash 17 = .ok (.dup, 1) := by decide +kernel
theorem dX0_setClash_18 : decode cX0_setClash 18 = .ok (.ldc 78, 2) := by decide +kernel
theorem dX0_setClash_20 : decode cX0_setClash 20 = .ok (.invokespecial 49, 3) := by decide +kernel
theorem dX0_setClash_23 : decode cX0_setClash 23 = .ok (.athrow, 1) := by decide +kernel
theorem dX0_setClash_24 : decode cX0_setClash 24 = .ok (.aload_n 0, 1) := by decide +kernel
theorem dX0_setClash_25 : decode cX0_setClash 25 = .ok (.iload_n 1, 1) := by decide +kernel
theorem dX0_setClash_26 : decode cX0_setClash 26 = .ok (.iload_n 2, 1) := by decide +kernel
theorem dX0_setClash_27 : decode cX0_setClash 27 = .ok (.invokevirtual 80, 3) := by decide +kernel
theorem dX0_setClash_30 : decode cX0_setClash 30 = .ok (.istore 4, 2) := by decide +kernel
theorem dX0_setClash_32 : decode cX0_setClash 32 = .ok (.iload_n 1, 1) := by decide +kernel
theorem dX0_setClash_33 : decode cX0_setClash 33 = .ok (.iload_n 2, 1) := by decide +kernel
theorem dX0_setClash_34 : decode cX0_setClash 34 = .ok (.invokestatic 84, 3) := by decide +kernel
theorem dX0_setClash_37 : decode cX0_setClash 37 = .ok (.iload_n 2, 1) := by decide +kernel
theorem dX0_setClash_38 : decode cX0_setClash 38 = .ok (.iload_n 1, 1) := by decide +kernel
theorem dX0_setClash_39 : decode cX0_setClash 39 = .ok (.invokestatic 84, 3) := by decide +kernel
theorem dX0_setClash_42 : decode cX0_setClash 42 = .ok (.lor, 1) := by decide +kernel
theorem dX0_setClash_43 : decode cX0_setClash 43 = .ok (.lstore 5, 2) := by decide +kernel
theorem dX0_setClash_45 : decode cX0_setClash 45 = .ok (.aload_n 0, 1) := by decide +kernel
theorem dX0_setClash_46 : decode cX0_setClash 46 = .ok (.iload_n 3, 1) := by decide +kernel
theorem dX0_setClash_47 : decode cX0_setClash 47 = .ok (.ifCond .eq 13, 3) := by decide +kernel
theorem dX0_setClash_50 : decode cX0_setClash 50 = .ok (.aload_n 0, 1) := by decide +kernel
theorem dX0_setClash_51 : decode cX0_setClash 51 = .ok (.getfield 88, 3) := by decide +kernel
theorem dX0_setClash_54 : decode cX0_setClash 54 = .ok (.lload 5, 2) := by decide +kernel
theorem dX0_setClash_56 : decode cX0_setClash 56 = .ok (.lor, 1) := by decide +kernel
theorem dX0_setClash_57 : decode cX0_setClash 57 = .ok (.goto 14, 3) := by decide +kernel
theorem dX0_setClash_60 : decode cX0_setClash 60 = .ok (.aload_n 0, 1) := by decide +kernel
theorem dX0_setClash_61 : decode cX0_setClash 61 = .ok (.getfield 88, 3) := by decide +kernel
theorem dX0_setClash_64 : decode cX0_setClash 64 = .ok (.lload 5, 2) := by decide +kernel
theorem dX0_setClash_66 : decode cX0_setClash 66 = .ok (.ldc2_w 92, 3) := by decide +kernel
theorem dX0_setClash_69 : decode cX0_setClash 69 = .ok (.lxor, 1) := by decide +kernel
theorem dX0_setClash_70 : decode cX0_setClash 70 = .ok (.land, 1) := by decide +kernel
theorem dX0_setClash_71 : decode cX0_setClash 71 = .ok (.putfield 88, 3) := by decide +kernel
theorem dX0_setClash_74 : decode cX0_setClash 74 = .ok (.iload 4, 2) := by decide +kernel
theorem dX0_setClash_76 : decode cX0_setClash 76 = .ok (.ireturn, 1) := by decide +kernel
set_option maxRecDepth 20000 in
theorem ggX0_things_J6_bitCount_0f7a4 : GoodIn wsX0_things wsJ6_bitCount_0f7a4 := goodIn_r _ [5, 6, 7, 8] (by decide +kernel) (by decide +kernel)
set_option maxRecDepth 20000 in
theorem gX0_things_J6_bitCount_0f7a4 : GoodIn wsX0_things (va_wsS RX0 72 yJ6_bitCount_0f7a4 wsJ6_bitCount_0f7a4) := goodIn_app (goodIn_of _ (by decide +kernel)) ggX0_things_J6_bitCount_0f7a4
theorem dX0_things_0 : decode cX0_things 0 = .ok (.aload_n 0, 1) := by decide +kernel
theorem dX0_things_1 : decode cX0_things 1 = .ok (.getfield 61, 3) := by decide +kernel
theorem dX0_things_4 : decode cX0_things 4 = .ok (.invokestatic 72, 3) := by decide +kernel
theorem dX0_things_7 : decode cX0_things 7 = .ok (.ireturn, 1) := by decide +kernel
set_option maxRecDepth 20000 in
theorem ggX0_left_X0_isThing : GoodIn wsX0_left wsX0_isThing := goodIn_r _ [8, 9, 10, 11, 12, 13, 14, 15, 16, 17, 18, 19, 20, 21] (by decide +kernel) (by decide +kernel)
set_option maxRecDepth 20000 in
theorem gX0_left_X0_isThing : GoodIn wsX0_left (wsV RX0 64 RX0 yX0_isThing wsX0_isThing) := goodIn_app (goodIn_of _ (by decide +kernel)) ggX0_left_X0_isThing
theorem dX0_left_0 : decode cX0_left 0 = .ok (.aload_n 0, 1) := by decide +kernel
theorem dX0_left_1 : decode cX0_left 1 = .ok (.iload_n 1, 1) := by decide +kernel
theorem dX0_left_2 : decode cX0_left 2 = .ok (.invokevirtual 64, 3) := by decide +kernel
theorem dX0_left_5 : decode cX0_left 5 = .ok (.ifCond .ne 13, 3) := by decide +kernel
theorem dX0_left_8 : decode cX0_left 8 = .ok (.new 67, 3) := by decide +kernel
theorem dX0_left_11 : decode cX0_left 11 = .ok (.dup, 1) := by decide +kernel
theorem dX0_left_12 : decode cX0_left 12 = .ok (.ldc 69, 2) := by decide +kernel
theorem dX0_left_14 : decode cX0_left 14 = .ok (.invokespecial 71, 3) := by decide +kernel
theorem dX0_left_17 : decode cX0_left 17 = .ok (.athrow, 1) := by decide +kernel
theorem dX0_left_18 : decode cX0_left 18 = .ok (.aload_n 0, 1) := by decide +kernel
theorem dX0_left_19 : decode cX0_left 19 = .ok (.getfield 25, 3) := by decide +kernel
theorem dX0_left_22 : decode cX0_left 22 = .ok (.iload_n 1, 1) := by decide +kernel
theorem dX0_left_23 : decode cX0_left 23 = .ok (.iaload, 1) := by decide +kernel
theorem dX0_left_24 : decode cX0_left 24 = .ok (.ireturn, 1) := by decide +kernel
set_option maxRecDepth 20000 in
theorem ggX0_isPossible_X0_areThings : GoodIn wsX0_isPossible wsX0_areThings := goodIn_r _ [9, 10, 11, 12, 8, 13, 14, 50, 51, 52, 53, 54, 55, 56, 57, 58, 59, 60, 61] (by decide +kernel) (by decide +kernel)
set_option maxRecDepth 20000 in
theorem gX0_isPossible_X0_areThings : GoodIn wsX0_isPossible (wsV RX0 94 RX0 yX0_areThings wsX0_areThings) := goodIn_app (goodIn_of _ (by decide +kernel)) ggX0_isPossible_X0_areThings
set_option maxRecDepth 20000 in
theorem ggX0_isPossible_X0_areOfTheirKinds : GoodIn wsX0_isPossible wsX0_areOfTheirKinds := goodIn_r _ [18, 19, 20, 21, 8, 22, 23, 10, 11, 12, 13, 14, 50, 51, 52, 53, 54, 55, 56, 57, 58, 59, 60, 61] (by decide +kernel) (by decide +kernel)
set_option maxRecDepth 20000 in
theorem gX0_isPossible_X0_areOfTheirKinds : GoodIn wsX0_isPossible (wsV RX0 97 RX0 yX0_areOfTheirKinds wsX0_areOfTheirKinds) := goodIn_app (goodIn_of _ (by decide +kernel)) ggX0_isPossible_X0_areOfTheirKinds
set_option maxRecDepth 20000 in
theorem ggX0_isPossible_X0_canBeWorn : GoodIn wsX0_isPossible wsX0_canBeWorn := goodIn_r _ [27, 28, 29, 30, 8, 31, 23, 32, 10, 11, 12, 13, 14, 33, 34, 35, 36, 37, 38, 39, 40, 41, 42, 43, 44, 45, 46, 47, 48, 49, 50, 51, 52, 53, 54, 55, 56, 57, 58, 59, 60, 61] (by decide +kernel) (by decide +kernel)
set_option maxRecDepth 20000 in
theorem gX0_isPossible_X0_canBeWorn : GoodIn wsX0_isPossible (wsV RX0 102 RX0 yX0_canBeWorn wsX0_canBeWorn) := goodIn_app (goodIn_of _ (by decide +kernel)) ggX0_isPossible_X0_canBeWorn
theorem dX0_isPossible_0 : decode cX0_isPossible 0 = .ok (.aload_n 0, 1) := by decide +kernel
theorem dX0_isPossible_1 : decode cX0_isPossible 1 = .ok (.iload_n 1, 1) := by decide +kernel
theorem dX0_isPossible_2 : decode cX0_isPossible 2 = .ok (.iload_n 2, 1) := by decide +kernel
theorem dX0_isPossible_3 : decode cX0_isPossible 3 = .ok (.iload_n 3, 1) := by decide +kernel
theorem dX0_isPossible_4 : decode cX0_isPossible 4 = .ok (.invokevirtual 94, 3) := by decide +kernel
theorem dX0_isPossible_7 : decode cX0_isPossible 7 = .ok (.ifCond .ne 13, 3) := by decide +kernel
theorem dX0_isPossible_10 : decode cX0_isPossible 10 = .ok (.new 67, 3) := by decide +kernel
theorem dX0_isPossible_13 : decode cX0_isPossible 13 = .ok (.dup, 1) := by decide +kernel
theorem dX0_isPossible_14 : decode cX0_isPossible 14 = .ok (.ldc 69, 2) := by decide +kernel
theorem dX0_isPossible_16 : decode cX0_isPossible 16 = .ok (.invokespecial 71, 3) := by decide +kernel
theorem dX0_isPossible_19 : decode cX0_isPossible 19 = .ok (.athrow, 1) := by decide +kernel
theorem dX0_isPossible_20 : decode cX0_isPossible 20 = .ok (.aload_n 0, 1) := by decide +kernel
theorem dX0_isPossible_21 : decode cX0_isPossible 21 = .ok (.iload_n 1, 1) := by decide +kernel
theorem dX0_isPossible_22 : decode cX0_isPossible 22 = .ok (.iload_n 2, 1) := by decide +kernel
theorem dX0_isPossible_23 : decode cX0_isPossible 23 = .ok (.iload_n 3, 1) := by decide +kernel
theorem dX0_isPossible_24 : decode cX0_isPossible 24 = .ok (.invokevirtual 97, 3) := by decide +kernel
theorem dX0_isPossible_27 : decode cX0_isPossible 27 = .ok (.ifCond .ne 13, 3) := by decide +kernel
theorem dX0_isPossible_30 : decode cX0_isPossible 30 = .ok (.new 45, 3) := by decide +kernel
theorem dX0_isPossible_33 : decode cX0_isPossible 33 = .ok (.dup, 1) := by decide +kernel
theorem dX0_isPossible_34 : decode cX0_isPossible 34 = .ok (.ldc 100, 2) := by decide +kernel
theorem dX0_isPossible_36 : decode cX0_isPossible 36 = .ok (.invokespecial 49, 3) := by decide +kernel
theorem dX0_isPossible_39 : decode cX0_isPossible 39 = .ok (.athrow, 1) := by decide +kernel
theorem dX0_isPossible_40 : decode cX0_isPossible 40 = .ok (.aload_n 0, 1) := by decide +kernel
theorem dX0_isPossible_41 : decode cX0_isPossible 41 = .ok (.iload_n 1, 1) := by decide +kernel
theorem dX0_isPossible_42 : decode cX0_isPossible 42 = .ok (.iload_n 2, 1) := by decide +kernel
theorem dX0_isPossible_43 : decode cX0_isPossible 43 = .ok (.iload_n 3, 1) := by decide +kernel
theorem dX0_isPossible_44 : decode cX0_isPossible 44 = .ok (.invokevirtual 102, 3) := by decide +kernel
theorem dX0_isPossible_47 : decode cX0_isPossible 47 = .ok (.ireturn, 1) := by decide +kernel
set_option maxRecDepth 20000 in
theorem ggX0_isTooSoon_X0_areThings : GoodIn wsX0_isTooSoon wsX0_areThings := goodIn_r _ [9, 10, 11, 12, 8, 13, 14, 39, 40, 41, 42, 43, 44, 45, 46, 47, 48, 49, 50] (by decide +kernel) (by decide +kernel)
set_option maxRecDepth 20000 in
theorem gX0_isTooSoon_X0_areThings : GoodIn wsX0_isTooSoon (wsV RX0 94 RX0 yX0_areThings wsX0_areThings) := goodIn_app (goodIn_of _ (by decide +kernel)) ggX0_isTooSoon_X0_areThings
set_option maxRecDepth 20000 in
theorem ggX0_isTooSoon_X0_areOfTheirKinds : GoodIn wsX0_isTooSoon wsX0_areOfTheirKinds := goodIn_r _ [18, 19, 20, 21, 8, 22, 23, 10, 11, 12, 13, 14, 39, 40, 41, 42, 43, 44, 45, 46, 47, 48, 49, 50] (by decide +kernel) (by decide +kernel)
set_option maxRecDepth 20000 in
theorem gX0_isTooSoon_X0_areOfTheirKinds : GoodIn wsX0_isTooSoon (wsV RX0 97 RX0 yX0_areOfTheirKinds wsX0_areOfTheirKinds) := goodIn_app (goodIn_of _ (by decide +kernel)) ggX0_isTooSoon_X0_areOfTheirKinds
set_option maxRecDepth 20000 in
theorem ggX0_isTooSoon_X0_arePeople : GoodIn wsX0_isTooSoon wsX0_arePeople := goodIn_r _ [26, 27, 28, 8, 29] (by decide +kernel) (by decide +kernel)
set_option maxRecDepth 20000 in
theorem gX0_isTooSoon_X0_arePeople : GoodIn wsX0_isTooSoon (va_wsS RX0 105 yX0_arePeople wsX0_arePeople) := goodIn_app (goodIn_of _ (by decide +kernel)) ggX0_isTooSoon_X0_arePeople
set_option maxRecDepth 20000 in
theorem ggX0_isTooSoon_X0_wasSeenLately : GoodIn wsX0_isTooSoon wsX0_wasSeenLately := goodIn_r _ [33, 34, 35, 10, 11, 12, 8, 13, 14, 36, 37, 38, 39, 40, 41, 42, 43, 44, 45, 46, 47, 48, 49, 50] (by decide +kernel) (by decide +kernel)
set_option maxRecDepth 20000 in
theorem gX0_isTooSoon_X0_wasSeenLately : GoodIn wsX0_isTooSoon (wsV RX0 110 RX0 yX0_wasSeenLately wsX0_wasSeenLately) := goodIn_app (goodIn_of _ (by decide +kernel)) ggX0_isTooSoon_X0_wasSeenLately
theorem dX0_isTooSoon_0 : decode cX0_isTooSoon 0 = .ok (.aload_n 0, 1) := by decide +kernel
theorem dX0_isTooSoon_1 : decode cX0_isTooSoon 1 = .ok (.iload_n 1, 1) := by decide +kernel
theorem dX0_isTooSoon_2 : decode cX0_isTooSoon 2 = .ok (.iload_n 2, 1) := by decide +kernel
theorem dX0_isTooSoon_3 : decode cX0_isTooSoon 3 = .ok (.iconst (-1), 1) := by decide +kernel
theorem dX0_isTooSoon_4 : decode cX0_isTooSoon 4 = .ok (.invokevirtual 94, 3) := by decide +kernel
theorem dX0_isTooSoon_7 : decode cX0_isTooSoon 7 = .ok (.ifCond .ne 13, 3) := by decide +kernel
theorem dX0_isTooSoon_10 : decode cX0_isTooSoon 10 = .ok (.new 67, 3) := by decide +kernel
theorem dX0_isTooSoon_13 : decode cX0_isTooSoon 13 = .ok (.dup, 1) := by decide +kernel
theorem dX0_isTooSoon_14 : decode cX0_isTooSoon 14 = .ok (.ldc 69, 2) := by decide +kernel
theorem dX0_isTooSoon_16 : decode cX0_isTooSoon 16 = .ok (.invokespecial 71, 3) := by decide +kernel
theorem dX0_isTooSoon_19 : decode cX0_isTooSoon 19 = .ok (.athrow, 1) := by decide +kernel
theorem dX0_isTooSoon_20 : decode cX0_isTooSoon 20 = .ok (.aload_n 0, 1) := by decide +kernel
theorem dX0_isTooSoon_21 : decode cX0_isTooSoon 21 = .ok (.iload_n 1, 1) := by decide +kernel
theorem dX0_isTooSoon_22 : decode cX0_isTooSoon 22 = .ok (.iload_n 2, 1) := by decide +kernel
theorem dX0_isTooSoon_23 : decode cX0_isTooSoon 23 = .ok (.iconst (-1), 1) := by decide +kernel
theorem dX0_isTooSoon_24 : decode cX0_isTooSoon 24 = .ok (.invokevirtual 97, 3) := by decide +kernel
theorem dX0_isTooSoon_27 : decode cX0_isTooSoon 27 = .ok (.ifCond .eq 10, 3) := by decide +kernel
theorem dX0_isTooSoon_30 : decode cX0_isTooSoon 30 = .ok (.iload_n 3, 1) := by decide +kernel
theorem dX0_isTooSoon_31 : decode cX0_isTooSoon 31 = .ok (.invokestatic 105, 3) := by decide +kernel
theorem dX0_isTooSoon_34 : decode cX0_isTooSoon 34 = .ok (.ifCond .ne 13, 3) := by decide +kernel
theorem dX0_isTooSoon_37 : decode cX0_isTooSoon 37 = .ok (.new 45, 3) := by decide +kernel
theorem dX0_isTooSoon_40 : decode cX0_isTooSoon 40 = .ok (.dup, 1) := by decide +kernel
theorem dX0_isTooSoon_41 : decode cX0_isTooSoon 41 = .ok (.ldc 108, 2) := by decide +kernel
theorem dX0_isTooSoon_43 : decode cX0_isTooSoon 43 = .ok (.invokespecial 49, 3) := by decide +kernel
theorem dX0_isTooSoon_46 : decode cX0_isTooSoon 46 = .ok (.athrow, 1) := by decide +kernel
theorem dX0_isTooSoon_47 : decode cX0_isTooSoon 47 = .ok (.aload_n 0, 1) := by decide +kernel
theorem dX0_isTooSoon_48 : decode cX0_isTooSoon 48 = .ok (.iload_n 1, 1) := by decide +kernel
theorem dX0_isTooSoon_49 : decode cX0_isTooSoon 49 = .ok (.iload_n 2, 1) := by decide +kernel
theorem dX0_isTooSoon_50 : decode cX0_isTooSoon 50 = .ok (.iload_n 3, 1) := by decide +kernel
theorem dX0_isTooSoon_51 : decode cX0_isTooSoon 51 = .ok (.invokevirtual 110, 3) := by decide +kernel
theorem dX0_isTooSoon_54 : decode cX0_isTooSoon 54 = .ok (.ireturn, 1) := by decide +kernel
set_option maxRecDepth 20000 in
theorem ggX0_wear_X0_areThings : GoodIn wsX0_wear wsX0_areThings := goodIn_r _ [11, 12, 13, 14, 10, 15, 16, 88, 89, 90, 91, 92, 93, 94, 95, 96, 97, 98, 99] (by decide +kernel) (by decide +kernel)
set_option maxRecDepth 20000 in
theorem gX0_wear_X0_areThings : GoodIn wsX0_wear (wsV RX0 94 RX0 yX0_areThings wsX0_areThings) := goodIn_app (goodIn_of _ (by decide +kernel)) ggX0_wear_X0_areThings
set_option maxRecDepth 20000 in
theorem ggX0_wear_X0_areOfTheirKinds : GoodIn wsX0_wear wsX0_areOfTheirKinds := goodIn_r _ [20, 21, 22, 23, 10, 24, 25, 12, 13, 14, 15, 16, 88, 89, 90, 91, 92, 93, 94, 95, 96, 97, 98, 99] (by decide +kernel) (by decide +kernel)
set_option maxRecDepth 20000 in
theorem gX0_wear_X0_areOfTheirKinds : GoodIn wsX0_wear (wsV RX0 97 RX0 yX0_areOfTheirKinds wsX0_areOfTheirKinds) := goodIn_app (goodIn_of _ (by decide +kernel)) ggX0_wear_X0_areOfTheirKinds
set_option maxRecDepth 20000 in
theorem ggX0_wear_X0_arePeople : GoodIn wsX0_wear wsX0_arePeople := goodIn_r _ [28, 29, 30, 10, 31] (by decide +kernel) (by decide +kernel)
set_option maxRecDepth 20000 in
theorem gX0_wear_X0_arePeople : GoodIn wsX0_wear (va_wsS RX0 105 yX0_arePeople wsX0_arePeople) := goodIn_app (goodIn_of _ (by decide +kernel)) ggX0_wear_X0_arePeople
set_option maxRecDepth 20000 in
theorem ggX0_wear_X0_canBeWorn : GoodIn wsX0_wear wsX0_canBeWorn := goodIn_r _ [35, 36, 37, 38, 10, 39, 25, 40, 12, 13, 14, 15, 16, 41, 42, 43, 44, 45, 46, 47, 48, 49, 50, 51, 52, 53, 54, 55, 56, 57, 88, 89, 90, 91, 92, 93, 94, 95, 96, 97, 98, 99] (by decide +kernel) (by decide +kernel)
set_option maxRecDepth 20000 in
theorem gX0_wear_X0_canBeWorn : GoodIn wsX0_wear (wsV RX0 102 RX0 yX0_canBeWorn wsX0_canBeWorn) := goodIn_app (goodIn_of _ (by decide +kernel)) ggX0_wear_X0_canBeWorn
set_option maxRecDepth 20000 in
theorem ggX0_wear_X0_wasSeenLately : GoodIn wsX0_wear wsX0_wasSeenLately := goodIn_r _ [61, 62, 63, 12, 13, 14, 10, 15, 16, 64, 65, 66, 88, 89, 90, 91, 92, 93, 94, 95, 96, 97, 98, 99] (by decide +kernel) (by decide +kernel)
set_option maxRecDepth 20000 in
theorem gX0_wear_X0_wasSeenLately : GoodIn wsX0_wear (wsV RX0 110 RX0 yX0_wasSeenLately wsX0_wasSeenLately) := goodIn_app (goodIn_of _ (by decide +kernel)) ggX0_wear_X0_wasSeenLately
set_option maxRecDepth 20000 in
theorem ggX0_wear_X0_wearOnce : GoodIn wsX0_wear wsX0_wearOnce := goodIn_r _ [70, 40, 71, 72, 73, 10, 74, 12, 13, 14, 15, 16, 88, 89, 90, 91, 92, 93, 94, 95, 96, 97, 98, 99] (by decide +kernel) (by decide +kernel)
set_option maxRecDepth 20000 in
theorem gX0_wear_X0_wearOnce : GoodIn wsX0_wear (wsV RX0 115 RX0 yX0_wearOnce wsX0_wearOnce) := goodIn_app (goodIn_of _ (by decide +kernel)) ggX0_wear_X0_wearOnce
set_option maxRecDepth 20000 in
theorem ggX0_wear_X0_showTo : GoodIn wsX0_wear wsX0_showTo := goodIn_r _ [78, 63, 62, 12, 13, 14, 10, 15, 16, 64, 65, 66, 88, 89, 90, 91, 92, 93, 94, 95, 96, 97, 98, 99] (by decide +kernel) (by decide +kernel)
set_option maxRecDepth 20000 in
theorem gX0_wear_X0_showTo : GoodIn wsX0_wear (wsV RX0 119 RX0 yX0_showTo wsX0_showTo) := goodIn_app (goodIn_of _ (by decide +kernel)) ggX0_wear_X0_showTo
set_option maxRecDepth 20000 in
theorem ggX0_wear_X0_outfitWarmth : GoodIn wsX0_wear wsX0_outfitWarmth := goodIn_r _ [82, 83, 84, 85, 10, 86, 87, 12, 13, 14, 15, 16, 88, 89, 90, 91, 92, 93, 94, 95, 96, 97, 98, 99] (by decide +kernel) (by decide +kernel)
set_option maxRecDepth 20000 in
theorem gX0_wear_X0_outfitWarmth : GoodIn wsX0_wear (wsV RX0 123 RX0 yX0_outfitWarmth wsX0_outfitWarmth) := goodIn_app (goodIn_of _ (by decide +kernel)) ggX0_wear_X0_outfitWarmth
theorem dX0_wear_0 : decode cX0_wear 0 = .ok (.aload_n 0, 1) := by decide +kernel
theorem dX0_wear_1 : decode cX0_wear 1 = .ok (.iload_n 1, 1) := by decide +kernel
theorem dX0_wear_2 : decode cX0_wear 2 = .ok (.iload_n 2, 1) := by decide +kernel
theorem dX0_wear_3 : decode cX0_wear 3 = .ok (.iload_n 3, 1) := by decide +kernel
theorem dX0_wear_4 : decode cX0_wear 4 = .ok (.invokevirtual 94, 3) := by decide +kernel
theorem dX0_wear_7 : decode cX0_wear 7 = .ok (.ifCond .ne 13, 3) := by decide +kernel
theorem dX0_wear_10 : decode cX0_wear 10 = .ok (.new 67, 3) := by decide +kernel
theorem dX0_wear_13 : decode cX0_wear 13 = .ok (.dup, 1) := by decide +kernel
theorem dX0_wear_14 : decode cX0_wear 14 = .ok (.ldc 69, 2) := by decide +kernel
theorem dX0_wear_16 : decode cX0_wear 16 = .ok (.invokespecial 71, 3) := by decide +kernel
theorem dX0_wear_19 : decode cX0_wear 19 = .ok (.athrow, 1) := by decide +kernel
theorem dX0_wear_20 : decode cX0_wear 20 = .ok (.aload_n 0, 1) := by decide +kernel
theorem dX0_wear_21 : decode cX0_wear 21 = .ok (.iload_n 1, 1) := by decide +kernel
theorem dX0_wear_22 : decode cX0_wear 22 = .ok (.iload_n 2, 1) := by decide +kernel
theorem dX0_wear_23 : decode cX0_wear 23 = .ok (.iload_n 3, 1) := by decide +kernel
theorem dX0_wear_24 : decode cX0_wear 24 = .ok (.invokevirtual 97, 3) := by decide +kernel
theorem dX0_wear_27 : decode cX0_wear 27 = .ok (.ifCond .eq 11, 3) := by decide +kernel
theorem dX0_wear_30 : decode cX0_wear 30 = .ok (.iload 4, 2) := by decide +kernel
theorem dX0_wear_32 : decode cX0_wear 32 = .ok (.invokestatic 105, 3) := by decide +kernel
theorem dX0_wear_35 : decode cX0_wear 35 = .ok (.ifCond .ne 13, 3) := by decide +kernel
theorem dX0_wear_38 : decode cX0_wear 38 = .ok (.new 45, 3) := by decide +kernel
theorem dX0_wear_41 : decode cX0_wear 41 = .ok (.dup, 1) := by decide +kernel
theorem dX0_wear_42 : decode cX0_wear 42 = .ok (.ldc 108, 2) := by decide +kernel
theorem dX0_wear_44 : decode cX0_wear 44 = .ok (.invokespecial 49, 3) := by decide +kernel
theorem dX0_wear_47 : decode cX0_wear 47 = .ok (.athrow, 1) := by decide +kernel
theorem dX0_wear_48 : decode cX0_wear 48 = .ok (.aload_n 0, 1) := by decide +kernel
theorem dX0_wear_49 : decode cX0_wear 49 = .ok (.iload_n 1, 1) := by decide +kernel
theorem dX0_wear_50 : decode cX0_wear 50 = .ok (.iload_n 2, 1) := by decide +kernel
theorem dX0_wear_51 : decode cX0_wear 51 = .ok (.iload_n 3, 1) := by decide +kernel
theorem dX0_wear_52 : decode cX0_wear 52 = .ok (.invokevirtual 102, 3) := by decide +kernel
theorem dX0_wear_55 : decode cX0_wear 55 = .ok (.ifCond .eq 14, 3) := by decide +kernel
theorem dX0_wear_58 : decode cX0_wear 58 = .ok (.aload_n 0, 1) := by decide +kernel
theorem dX0_wear_59 : decode cX0_wear 59 = .ok (.iload_n 1, 1) := by decide +kernel
theorem dX0_wear_60 : decode cX0_wear 60 = .ok (.iload_n 2, 1) := by decide +kernel
theorem dX0_wear_61 : decode cX0_wear 61 = .ok (.iload 4, 2) := by decide +kernel
theorem dX0_wear_63 : decode cX0_wear 63 = .ok (.invokevirtual 110, 3) := by decide +kernel
theorem dX0_wear_66 : decode cX0_wear 66 = .ok (.ifCond .eq 13, 3) := by decide +kernel
theorem dX0_wear_69 : decode cX0_wear 69 = .ok (.new 56, 3) := by decide +kernel
theorem dX0_wear_72 : decode cX0_wear 72 = .ok (.dup, 1) := by decide +kernel
theorem dX0_wear_73 : decode cX0_wear 73 = .ok (.ldc 113, 2) := by decide +kernel
theorem dX0_wear_75 : decode cX0_wear 75 = .ok (.invokespecial 60, 3) := by decide +kernel
theorem dX0_wear_78 : decode cX0_wear 78 = .ok (.athrow, 1) := by decide +kernel
theorem dX0_wear_79 : decode cX0_wear 79 = .ok (.aload_n 0, 1) := by decide +kernel
theorem dX0_wear_80 : decode cX0_wear 80 = .ok (.iload_n 1, 1) := by decide +kernel
theorem dX0_wear_81 : decode cX0_wear 81 = .ok (.invokevirtual 115, 3) := by decide +kernel
theorem dX0_wear_84 : decode cX0_wear 84 = .ok (.aload_n 0, 1) := by decide +kernel
theorem dX0_wear_85 : decode cX0_wear 85 = .ok (.iload_n 2, 1) := by decide +kernel
theorem dX0_wear_86 : decode cX0_wear 86 = .ok (.invokevirtual 115, 3) := by decide +kernel
theorem dX0_wear_89 : decode cX0_wear 89 = .ok (.aload_n 0, 1) := by decide +kernel
theorem dX0_wear_90 : decode cX0_wear 90 = .ok (.iload_n 3, 1) := by decide +kernel
theorem dX0_wear_91 : decode cX0_wear 91 = .ok (.invokevirtual 115, 3) := by decide +kernel
theorem dX0_wear_94 : decode cX0_wear 94 = .ok (.aload_n 0, 1) := by decide +kernel
theorem dX0_wear_95 : decode cX0_wear 95 = .ok (.iload_n 1, 1) := by decide +kernel
theorem dX0_wear_96 : decode cX0_wear 96 = .ok (.iload_n 2, 1) := by decide +kernel
theorem dX0_wear_97 : decode cX0_wear 97 = .ok (.iload 4, 2) := by decide +kernel
theorem dX0_wear_99 : decode cX0_wear 99 = .ok (.invokevirtual 119, 3) := by decide +kernel
theorem dX0_wear_102 : decode cX0_wear 102 = .ok (.aload_n 0, 1) := by decide +kernel
theorem dX0_wear_103 : decode cX0_wear 103 = .ok (.iload_n 1, 1) := by decide +kernel
theorem dX0_wear_104 : decode cX0_wear 104 = .ok (.iload_n 2, 1) := by decide +kernel
theorem dX0_wear_105 : decode cX0_wear 105 = .ok (.iload_n 3, 1) := by decide +kernel
theorem dX0_wear_106 : decode cX0_wear 106 = .ok (.invokevirtual 123, 3) := by decide +kernel
theorem dX0_wear_109 : decode cX0_wear 109 = .ok (.ireturn, 1) := by decide +kernel
set_option maxRecDepth 20000 in
theorem ggX0_outfits_X0_isOutfitWarmth : GoodIn wsX0_outfits wsX0_isOutfitWarmth := goodIn_r _ [7, 8, 9, 6, 10] (by decide +kernel) (by decide +kernel)
set_option maxRecDepth 20000 in
theorem gX0_outfits_X0_isOutfitWarmth : GoodIn wsX0_outfits (va_wsS RX0 127 yX0_isOutfitWarmth wsX0_isOutfitWarmth) := goodIn_app (goodIn_of _ (by decide +kernel)) ggX0_outfits_X0_isOutfitWarmth
set_option maxRecDepth 20000 in
theorem ggX0_outfits_X0_countOutfitsOf : GoodIn wsX0_outfits wsX0_countOutfitsOf := goodIn_r _ [14, 3, 15, 16, 17, 6, 18, 19, 20, 21, 22, 23, 24, 25, 26, 27, 28, 29, 30, 31, 32, 33, 34, 35, 36, 37, 38, 39, 40, 41, 42, 43, 44, 45, 46, 47, 48, 49, 50, 51, 52, 53, 54, 55, 56, 57, 58, 59, 60, 61, 62, 63, 64, 65, 66, 67, 68, 69, 70, 71] (by decide +kernel) (by decide +kernel)
set_option maxRecDepth 20000 in
theorem gX0_outfits_X0_countOutfitsOf : GoodIn wsX0_outfits (wsV RX0 132 RX0 yX0_countOutfitsOf wsX0_countOutfitsOf) := goodIn_app (goodIn_of _ (by decide +kernel)) ggX0_outfits_X0_countOutfitsOf
theorem dX0_outfits_0 : decode cX0_outfits 0 = .ok (.iload_n 1, 1) := by decide +kernel
theorem dX0_outfits_1 : decode cX0_outfits 1 = .ok (.invokestatic 127, 3) := by decide +kernel
theorem dX0_outfits_4 : decode cX0_outfits 4 = .ok (.ifCond .ne 13, 3) := by decide +kernel
theorem dX0_outfits_7 : decode cX0_outfits 7 = .ok (.new 45, 3) := by decide +kernel
theorem dX0_outfits_10 : decode cX0_outfits 10 = .ok (.dup, 1) := by decide +kernel
theorem dX0_outfits_11 : decode cX0_outfits 11 = .ok (.ldc 130, 2) := by decide +kernel
theorem dX0_outfits_13 : decode cX0_outfits 13 = .ok (.invokespecial 49, 3) := by decide +kernel
theorem dX0_outfits_16 : decode cX0_outfits 16 = .ok (.athrow, 1) := by decide +kernel
theorem dX0_outfits_17 : decode cX0_outfits 17 = .ok (.iconst 0, 1) := by decide +kernel
theorem dX0_outfits_18 : decode cX0_outfits 18 = .ok (.istore_n 2, 1) := by decide +kernel
theorem dX0_outfits_19 : decode cX0_outfits 19 = .ok (.iconst 0, 1) := by decide +kernel
theorem dX0_outfits_20 : decode cX0_outfits 20 = .ok (.istore_n 3, 1) := by decide +kernel
theorem dX0_outfits_21 : decode cX0_outfits 21 = .ok (.iload_n 3, 1) := by decide +kernel
theorem dX0_outfits_22 : decode cX0_outfits 22 = .ok (.aload_n 0, 1) := by decide +kernel
theorem dX0_outfits_23 : decode cX0_outfits 23 = .ok (.getfield 52, 3) := by decide +kernel
theorem dX0_outfits_26 : decode cX0_outfits 26 = .ok (.if_icmp .ge 38, 3) := by decide +kernel
theorem dX0_outfits_29 : decode cX0_outfits 29 = .ok (.iconst 0, 1) := by decide +kernel
theorem dX0_outfits_30 : decode cX0_outfits 30 = .ok (.istore 4, 2) := by decide +kernel
theorem dX0_outfits_32 : decode cX0_outfits 32 = .ok (.iload 4, 2) := by decide +kernel
theorem dX0_outfits_34 : decode cX0_outfits 34 = .ok (.aload_n 0, 1) := by decide +kernel
theorem dX0_outfits_35 : decode cX0_outfits 35 = .ok (.getfield 52, 3) := by decide +kernel
theorem dX0_outfits_38 : decode cX0_outfits 38 = .ok (.if_icmp .ge 20, 3) := by decide +kernel
theorem dX0_outfits_41 : decode cX0_outfits 41 = .ok (.iload_n 2, 1) := by decide +kernel
theorem dX0_outfits_42 : decode cX0_outfits 42 = .ok (.aload_n 0, 1) := by decide +kernel
theorem dX0_outfits_43 : decode cX0_outfits 43 = .ok (.iload_n 3, 1) := by decide +kernel
theorem dX0_outfits_44 : decode cX0_outfits 44 = .ok (.iload 4, 2) := by decide +kernel
theorem dX0_outfits_46 : decode cX0_outfits 46 = .ok (.iload_n 1, 1) := by decide +kernel
theorem dX0_outfits_47 : decode cX0_outfits 47 = .ok (.invokevirtual 132, 3) := by decide +kernel
theorem dX0_outfits_50 : decode cX0_outfits 50 = .ok (.iadd, 1) := by decide +kernel
theorem dX0_outfits_51 : decode cX0_outfits 51 = .ok (.istore_n 2, 1) := by decide +kernel
theorem dX0_outfits_52 : decode cX0_outfits 52 = .ok (.iinc 4 1, 3) := by decide +kernel
theorem dX0_outfits_55 : decode cX0_outfits 55 = .ok (.goto (-23), 3) := by decide +kernel
theorem dX0_outfits_58 : decode cX0_outfits 58 = .ok (.iinc 3 1, 3) := by decide +kernel
theorem dX0_outfits_61 : decode cX0_outfits 61 = .ok (.goto (-40), 3) := by decide +kernel
theorem dX0_outfits_64 : decode cX0_outfits 64 = .ok (.iload_n 2, 1) := by decide +kernel
theorem dX0_outfits_65 : decode cX0_outfits 65 = .ok (.ireturn, 1) := by decide +kernel
set_option maxRecDepth 20000 in
theorem ggX0_adds_X0_isThing : GoodIn wsX0_adds wsX0_isThing := goodIn_r _ [10, 11, 62, 63, 64, 65, 66, 67, 68, 69, 70, 71, 72, 73] (by decide +kernel) (by decide +kernel)
set_option maxRecDepth 20000 in
theorem gX0_adds_X0_isThing : GoodIn wsX0_adds (wsV RX0 64 RX0 yX0_isThing wsX0_isThing) := goodIn_app (goodIn_of _ (by decide +kernel)) ggX0_adds_X0_isThing
set_option maxRecDepth 20000 in
theorem ggX0_adds_X0_isOutfitWarmth : GoodIn wsX0_adds wsX0_isOutfitWarmth := goodIn_r _ [14, 15, 16, 9, 17] (by decide +kernel) (by decide +kernel)
set_option maxRecDepth 20000 in
theorem gX0_adds_X0_isOutfitWarmth : GoodIn wsX0_adds (va_wsS RX0 127 yX0_isOutfitWarmth wsX0_isOutfitWarmth) := goodIn_app (goodIn_of _ (by decide +kernel)) ggX0_adds_X0_isOutfitWarmth
set_option maxRecDepth 20000 in
theorem ggX0_adds_X0_countOutfitsOf : GoodIn wsX0_adds wsX0_countOutfitsOf := goodIn_r _ [21, 5, 22, 23, 24, 9, 25, 26, 27, 28, 29, 30, 31, 6, 7, 8, 10, 11, 32, 33, 34, 35, 36, 37, 38, 39, 40, 41, 42, 43, 44, 45, 46, 47, 48, 49, 50, 51, 52, 53, 54, 55, 56, 57, 58, 59, 60, 61, 62, 63, 64, 65, 66, 67, 68, 69, 70, 71, 72, 73] (by decide +kernel) (by decide +kernel)
set_option maxRecDepth 20000 in
theorem gX0_adds_X0_countOutfitsOf : GoodIn wsX0_adds (wsV RX0 132 RX0 yX0_countOutfitsOf wsX0_countOutfitsOf) := goodIn_app (goodIn_of _ (by decide +kernel)) ggX0_adds_X0_countOutfitsOf
set_option maxRecDepth 20000 in
theorem ggX0_adds_X0_isWarmOutfit : GoodIn wsX0_adds wsX0_isWarmOutfit := goodIn_r _ [52, 53, 54, 55, 9, 56, 57, 58, 59, 60, 61, 6, 7, 8, 10, 11, 22, 23, 24, 25, 26, 27, 28, 29, 30, 31, 32, 33, 34, 35, 36, 37, 38, 39, 40, 41, 42, 43, 44, 45, 46, 47, 48, 62, 63, 64, 65, 66, 67, 68, 69, 70, 71, 72, 73] (by decide +kernel) (by decide +kernel)
set_option maxRecDepth 20000 in
theorem gX0_adds_X0_isWarmOutfit : GoodIn wsX0_adds (wsV RX0 135 RX0 yX0_isWarmOutfit wsX0_isWarmOutfit) := goodIn_app (goodIn_of _ (by decide +kernel)) ggX0_adds_X0_isWarmOutfit
theorem dX0_adds_0 : decode cX0_adds 0 = .ok (.aload_n 0, 1) := by decide +kernel
theorem dX0_adds_1 : decode cX0_adds 1 = .ok (.iload_n 1, 1) := by decide +kernel
theorem dX0_adds_2 : decode cX0_adds 2 = .ok (.invokevirtual 64, 3) := by decide +kernel
theorem dX0_adds_5 : decode cX0_adds 5 = .ok (.ifCond .ne 13, 3) := by decide +kernel
theorem dX0_adds_8 : decode cX0_adds 8 = .ok (.new 67, 3) := by decide +kernel
theorem dX0_adds_11 : decode cX0_adds 11 = .ok (.dup, 1) := by decide +kernel
theorem dX0_adds_12 : decode cX0_adds 12 = .ok (.ldc 69, 2) := by decide +kernel
theorem dX0_adds_14 : decode cX0_adds 14 = .ok (.invokespecial 71, 3) := by decide +kernel
theorem dX0_adds_17 : decode cX0_adds 17 = .ok (.athrow, 1) := by decide +kernel
theorem dX0_adds_18 : decode cX0_adds 18 = .ok (.iload_n 2, 1) := by decide +kernel
theorem dX0_adds_19 : decode cX0_adds 19 = .ok (.invokestatic 127, 3) := by decide +kernel
theorem dX0_adds_22 : decode cX0_adds 22 = .ok (.ifCond .ne 13, 3) := by decide +kernel
theorem dX0_adds_25 : decode cX0_adds 25 = .ok (.new 45, 3) := by decide +kernel
theorem dX0_adds_28 : decode cX0_adds 28 = .ok (.dup, 1) := by decide +kernel
theorem dX0_adds_29 : decode cX0_adds 29 = .ok (.ldc 130, 2) := by decide +kernel
theorem dX0_adds_31 : decode cX0_adds 31 = .ok (.invokespecial 49, 3) := by decide +kernel
theorem dX0_adds_34 : decode cX0_adds 34 = .ok (.athrow, 1) := by decide +kernel
theorem dX0_adds_35 : decode cX0_adds 35 = .ok (.iconst 0, 1) := by decide +kernel
theorem dX0_adds_36 : decode cX0_adds 36 = .ok (.istore_n 3, 1) := by decide +kernel
theorem dX0_adds_37 : decode cX0_adds 37 = .ok (.iconst 0, 1) := by decide +kernel
theorem dX0_adds_38 : decode cX0_adds 38 = .ok (.istore 4, 2) := by decide +kernel
theorem dX0_adds_40 : decode cX0_adds 40 = .ok (.iload 4, 2) := by decide +kernel
theorem dX0_adds_42 : decode cX0_adds 42 = .ok (.aload_n 0, 1) := by decide +kernel
theorem dX0_adds_43 : decode cX0_adds 43 = .ok (.getfield 52, 3) := by decide +kernel
theorem dX0_adds_46 : decode cX0_adds 46 = .ok (.if_icmp .ge 70, 3) := by decide +kernel
theorem dX0_adds_49 : decode cX0_adds 49 = .ok (.iconst 0, 1) := by decide +kernel
theorem dX0_adds_50 : decode cX0_adds 50 = .ok (.istore 5, 2) := by decide +kernel
theorem dX0_adds_52 : decode cX0_adds 52 = .ok (.iload 5, 2) := by decide +kernel
theorem dX0_adds_54 : decode cX0_adds 54 = .ok (.aload_n 0, 1) := by decide +kernel
theorem dX0_adds_55 : decode cX0_adds 55 = .ok (.getfield 52, 3) := by decide +kernel
theorem dX0_adds_58 : decode cX0_adds 58 = .ok (.if_icmp .ge 52, 3) := by decide +kernel
theorem dX0_adds_61 : decode cX0_adds 61 = .ok (.iload 4, 2) := by decide +kernel
theorem dX0_adds_63 : decode cX0_adds 63 = .ok (.iload_n 1, 1) := by decide +kernel
theorem dX0_adds_64 : decode cX0_adds 64 = .ok (.if_icmp .eq 9, 3) := by decide +kernel
theorem dX0_adds_67 : decode cX0_adds 67 = .ok (.iload 5, 2) := by decide +kernel
theorem dX0_adds_69 : decode cX0_adds 69 = .ok (.iload_n 1, 1) := by decide +kernel
theorem dX0_adds_70 : decode cX0_adds 70 = .ok (.if_icmp .ne 18, 3) := by decide +kernel
theorem dX0_adds_73 : decode cX0_adds 73 = .ok (.iload_n 3, 1) := by decide +kernel
theorem dX0_adds_74 : decode cX0_adds 74 = .ok (.aload_n 0, 1) := by decide +kernel
theorem dX0_adds_75 : decode cX0_adds 75 = .ok (.iload 4, 2) := by decide +kernel
theorem dX0_adds_77 : decode cX0_adds 77 = .ok (.iload 5, 2) := by decide +kernel
theorem dX0_adds_79 : decode cX0_adds 79 = .ok (.iload_n 2, 1) := by decide +kernel
theorem dX0_adds_80 : decode cX0_adds 80 = .ok (.invokevirtual 132, 3) := by decide +kernel
theorem dX0_adds_83 : decode cX0_adds 83 = .ok (.iadd, 1) := by decide +kernel
theorem dX0_adds_84 : decode cX0_adds 84 = .ok (.istore_n 3, 1) := by decide +kernel
theorem dX0_adds_85 : decode cX0_adds 85 = .ok (.goto 19, 3) := by decide +kernel
theorem dX0_adds_88 : decode cX0_adds 88 = .ok (.aload_n 0, 1) := by decide +kernel
theorem dX0_adds_89 : decode cX0_adds 89 = .ok (.iload 4, 2) := by decide +kernel
theorem dX0_adds_91 : decode cX0_adds 91 = .ok (.iload 5, 2) := by decide +kernel
theorem dX0_adds_93 : decode cX0_adds 93 = .ok (.iload_n 1, 1) := by decide +kernel
theorem dX0_adds_94 : decode cX0_adds 94 = .ok (.iload_n 2, 1) := by decide +kernel
theorem dX0_adds_95 : decode cX0_adds 95 = .ok (.invokevirtual 135, 3) := by decide +kernel
theorem dX0_adds_98 : decode cX0_adds 98 = .ok (.ifCond .eq 6, 3) := by decide +kernel
theorem dX0_adds_101 : decode cX0_adds 101 = .ok (.iinc 3 1, 3) := by decide +kernel
theorem dX0_adds_104 : decode cX0_adds 104 = .ok (.iinc 5 1, 3) := by decide +kernel
theorem dX0_adds_107 : decode cX0_adds 107 = .ok (.goto (-55), 3) := by decide +kernel
theorem dX0_adds_110 : decode cX0_adds 110 = .ok (.iinc 4 1, 3) := by decide +kernel
theorem dX0_adds_113 : decode cX0_adds 113 = .ok (.goto (-73), 3) := by decide +kernel
theorem dX0_adds_116 : decode cX0_adds 116 = .ok (.iload_n 3, 1) := by decide +kernel
theorem dX0_adds_117 : decode cX0_adds 117 = .ok (.ireturn, 1) := by decide +kernel
set_option maxRecDepth 20000 in
theorem ggX0_missingTop_X0_countBottomsFor : GoodIn wsX0_missingTop wsX0_countBottomsFor := goodIn_r _ [5, 6, 7, 8, 9, 10, 4, 11, 12, 13, 14, 15, 16, 17, 18, 19, 20, 21, 22, 23, 24, 25, 26, 27, 28, 29, 30, 31, 32, 33, 34, 35, 36, 37, 38] (by decide +kernel) (by decide +kernel)
set_option maxRecDepth 20000 in
theorem gX0_missingTop_X0_countBottomsFor : GoodIn wsX0_missingTop (wsV RX0 139 RX0 yX0_countBottomsFor wsX0_countBottomsFor) := goodIn_app (goodIn_of _ (by decide +kernel)) ggX0_missingTop_X0_countBottomsFor
theorem dX0_missingTop_0 : decode cX0_missingTop 0 = .ok (.iconst 0, 1) := by decide +kernel
theorem dX0_missingTop_1 : decode cX0_missingTop 1 = .ok (.istore_n 1, 1) := by decide +kernel
theorem dX0_missingTop_2 : decode cX0_missingTop 2 = .ok (.iconst 0, 1) := by decide +kernel
theorem dX0_missingTop_3 : decode cX0_missingTop 3 = .ok (.istore_n 2, 1) := by decide +kernel
theorem dX0_missingTop_4 : decode cX0_missingTop 4 = .ok (.iconst 0, 1) := by decide +kernel
theorem dX0_missingTop_5 : decode cX0_missingTop 5 = .ok (.istore_n 3, 1) := by decide +kernel
theorem dX0_missingTop_6 : decode cX0_missingTop 6 = .ok (.iload_n 3, 1) := by decide +kernel
theorem dX0_missingTop_7 : decode cX0_missingTop 7 = .ok (.bipush 8, 2) := by decide +kernel
theorem dX0_missingTop_9 : decode cX0_missingTop 9 = .ok (.if_icmp .ge 27, 3) := by decide +kernel
theorem dX0_missingTop_12 : decode cX0_missingTop 12 = .ok (.aload_n 0, 1) := by decide +kernel
theorem dX0_missingTop_13 : decode cX0_missingTop 13 = .ok (.iload_n 3, 1) := by decide +kernel
theorem dX0_missingTop_14 : decode cX0_missingTop 14 = .ok (.invokevirtual 139, 3) := by decide +kernel
theorem dX0_missingTop_17 : decode cX0_missingTop 17 = .ok (.istore 4, 2) := by decide +kernel
theorem dX0_missingTop_19 : decode cX0_missingTop 19 = .ok (.iload 4, 2) := by decide +kernel
theorem dX0_missingTop_21 : decode cX0_missingTop 21 = .ok (.iload_n 2, 1) := by decide +kernel
theorem dX0_missingTop_22 : decode cX0_missingTop 22 = .ok (.if_icmp .le 8, 3) := by decide +kernel
theorem dX0_missingTop_25 : decode cX0_missingTop 25 = .ok (.iload_n 3, 1) := by decide +kernel
theorem dX0_missingTop_26 : decode cX0_missingTop 26 = .ok (.istore_n 1, 1) := by decide +kernel
theorem dX0_missingTop_27 : decode cX0_missingTop 27 = .ok (.iload 4, 2) := by decide +kernel
theorem dX0_missingTop_29 : decode cX0_missingTop 29 = .ok (.istore_n 2, 1) := by decide +kernel
theorem dX0_missingTop_30 : decode cX0_missingTop 30 = .ok (.iinc 3 1, 3) := by decide +kernel
theorem dX0_missingTop_33 : decode cX0_missingTop 33 = .ok (.goto (-27), 3) := by decide +kernel
theorem dX0_missingTop_36 : decode cX0_missingTop 36 = .ok (.iload_n 1, 1) := by decide +kernel
theorem dX0_missingTop_37 : decode cX0_missingTop 37 = .ok (.ireturn, 1) := by decide +kernel
set_option maxRecDepth 20000 in
theorem ggX0_outfitFor_X0_isOutfitWarmth : GoodIn wsX0_outfitFor wsX0_isOutfitWarmth := goodIn_r _ [7, 8, 9, 6, 10] (by decide +kernel) (by decide +kernel)
set_option maxRecDepth 20000 in
theorem gX0_outfitFor_X0_isOutfitWarmth : GoodIn wsX0_outfitFor (va_wsS RX0 127 yX0_isOutfitWarmth wsX0_isOutfitWarmth) := goodIn_app (goodIn_of _ (by decide +kernel)) ggX0_outfitFor_X0_isOutfitWarmth
set_option maxRecDepth 20000 in
theorem ggX0_outfitFor_X0_arePeople : GoodIn wsX0_outfitFor wsX0_arePeople := goodIn_r _ [13, 8, 9, 6, 10] (by decide +kernel) (by decide +kernel)
set_option maxRecDepth 20000 in
theorem gX0_outfitFor_X0_arePeople : GoodIn wsX0_outfitFor (va_wsS RX0 105 yX0_arePeople wsX0_arePeople) := goodIn_app (goodIn_of _ (by decide +kernel)) ggX0_outfitFor_X0_arePeople
set_option maxRecDepth 20000 in
theorem ggX0_outfitFor_X0_canBeWorn : GoodIn wsX0_outfitFor wsX0_canBeWorn := goodIn_r _ [17, 18, 19, 20, 6, 21, 22, 23, 24, 25, 26, 27, 28, 29, 30, 31, 32, 33, 34, 35, 36, 37, 38, 39, 40, 41, 42, 43, 44, 45, 68, 69, 70, 71, 72, 73, 74, 75, 76, 77, 78, 79] (by decide +kernel) (by decide +kernel)
set_option maxRecDepth 20000 in
theorem gX0_outfitFor_X0_canBeWorn : GoodIn wsX0_outfitFor (wsV RX0 102 RX0 yX0_canBeWorn wsX0_canBeWorn) := goodIn_app (goodIn_of _ (by decide +kernel)) ggX0_outfitFor_X0_canBeWorn
set_option maxRecDepth 20000 in
theorem ggX0_outfitFor_X0_wasSeenLately : GoodIn wsX0_outfitFor wsX0_wasSeenLately := goodIn_r _ [49, 50, 51, 24, 25, 26, 6, 27, 28, 52, 53, 54, 68, 69, 70, 71, 72, 73, 74, 75, 76, 77, 78, 79] (by decide +kernel) (by decide +kernel)
set_option maxRecDepth 20000 in
theorem gX0_outfitFor_X0_wasSeenLately : GoodIn wsX0_outfitFor (wsV RX0 110 RX0 yX0_wasSeenLately wsX0_wasSeenLately) := goodIn_app (goodIn_of _ (by decide +kernel)) ggX0_outfitFor_X0_wasSeenLately
set_option maxRecDepth 20000 in
theorem ggX0_outfitFor_X0_outfitWarmth : GoodIn wsX0_outfitFor wsX0_outfitWarmth := goodIn_r _ [58, 59, 60, 61, 6, 62, 63, 24, 25, 26, 27, 28, 68, 69, 70, 71, 72, 73, 74, 75, 76, 77, 78, 79] (by decide +kernel) (by decide +kernel)
set_option maxRecDepth 20000 in
theorem gX0_outfitFor_X0_outfitWarmth : GoodIn wsX0_outfitFor (wsV RX0 123 RX0 yX0_outfitWarmth wsX0_outfitWarmth) := goodIn_app (goodIn_of _ (by decide +kernel)) ggX0_outfitFor_X0_outfitWarmth
set_option maxRecDepth 20000 in
theorem ggX0_outfitFor_X0_isWarmOutfit : GoodIn wsX0_outfitFor wsX0_isWarmOutfit := goodIn_r _ [67, 55, 56, 57, 6, 58, 59, 60, 61, 62, 63, 24, 25, 26, 27, 28, 14, 15, 16, 17, 18, 19, 20, 21, 22, 23, 29, 30, 31, 32, 33, 34, 35, 36, 37, 38, 39, 40, 41, 42, 43, 44, 45, 68, 69, 70, 71, 72, 73, 74, 75, 76, 77, 78, 79] (by decide +kernel) (by decide +kernel)
set_option maxRecDepth 20000 in
theorem gX0_outfitFor_X0_isWarmOutfit : GoodIn wsX0_outfitFor (wsV RX0 135 RX0 yX0_isWarmOutfit wsX0_isWarmOutfit) := goodIn_app (goodIn_of _ (by decide +kernel)) ggX0_outfitFor_X0_isWarmOutfit
theorem dX0_outfitFor_0 : decode cX0_outfitFor 0 = .ok (.iload_n 1, 1) := by decide +kernel
theorem dX0_outfitFor_1 : decode cX0_outfitFor 1 = .ok (.invokestatic 127, 3) := by decide +kernel
theorem dX0_outfitFor_4 : decode cX0_outfitFor 4 = .ok (.ifCond .eq 10, 3) := by decide +kernel
theorem dX0_outfitFor_7 : decode cX0_outfitFor 7 = .ok (.iload_n 2, 1) := by decide +kernel
theorem dX0_outfitFor_8 : decode cX0_outfitFor 8 = .ok (.invokestatic 105, 3) := by decide +kernel
theorem dX0_outfitFor_11 : decode cX0_outfitFor 11 = .ok (.ifCond .ne 13, 3) := by decide +kernel
theorem dX0_outfitFor_14 : decode cX0_outfitFor 14 = .ok (.new 45, 3) := by decide +kernel
theorem dX0_outfitFor_17 : decode cX0_outfitFor 17 = .ok (.dup, 1) := by decide +kernel
theorem dX0_outfitFor_18 : decode cX0_outfitFor 18 = .ok (.ldc 142, 2) := by decide +kernel
theorem dX0_outfitFor_20 : decode cX0_outfitFor 20 = .ok (.invokespecial 49, 3) := by decide +kernel
theorem dX0_outfitFor_23 : decode cX0_outfitFor 23 = .ok (.athrow, 1) := by decide +kernel
theorem dX0_outfitFor_24 : decode cX0_outfitFor 24 = .ok (.iconst (-1), 1) := by decide +kernel
theorem dX0_outfitFor_25 : decode cX0_outfitFor 25 = .ok (.istore_n 3, 1) := by decide +kernel
theorem dX0_outfitFor_26 : decode cX0_outfitFor 26 = .ok (.bipush 31, 2) := by decide +kernel
theorem dX0_outfitFor_28 : decode cX0_outfitFor 28 = .ok (.istore 4, 2) := by decide +kernel
theorem dX0_outfitFor_30 : decode cX0_outfitFor 30 = .ok (.iconst 0, 1) := by decide +kernel
theorem dX0_outfitFor_31 : decode cX0_outfitFor 31 = .ok (.istore 5, 2) := by decide +kernel
theorem dX0_outfitFor_33 : decode cX0_outfitFor 33 = .ok (.iload 5, 2) := by decide +kernel
theorem dX0_outfitFor_35 : decode cX0_outfitFor 35 = .ok (.aload_n 0, 1) := by decide +kernel
theorem dX0_outfitFor_36 : decode cX0_outfitFor 36 = .ok (.getfield 52, 3) := by decide +kernel
theorem dX0_outfitFor_39 : decode cX0_outfitFor 39 = .ok (.if_icmp .ge 127, 3) := by decide +kernel
theorem dX0_outfitFor_42 : decode cX0_outfitFor 42 = .ok (.iconst 0, 1) := by decide +kernel
theorem dX0_outfitFor_43 : decode cX0_outfitFor 43 = .ok (.istore 6, 2) := by decide +kernel
theorem dX0_outfitFor_45 : decode cX0_outfitFor 45 = .ok (.iload 6, 2) := by decide +kernel
theorem dX0_outfitFor_47 : decode cX0_outfitFor 47 = .ok (.aload_n 0, 1) := by decide +kernel
theorem dX0_outfitFor_48 : decode cX0_outfitFor 48 = .ok (.getfield 52, 3) := by decide +kernel
theorem dX0_outfitFor_51 : decode cX0_outfitFor 51 = .ok (.if_icmp .ge 109, 3) := by decide +kernel
theorem dX0_outfitFor_54 : decode cX0_outfitFor 54 = .ok (.aload_n 0, 1) := by decide +kernel
theorem dX0_outfitFor_55 : decode cX0_outfitFor 55 = .ok (.iload 5, 2) := by decide +kernel
theorem dX0_outfitFor_57 : decode cX0_outfitFor 57 = .ok (.iload 6, 2) := by decide +kernel
theorem dX0_outfitFor_59 : decode cX0_outfitFor 59 = .ok (.iconst (-1), 1) := by decide +kernel
theorem dX0_outfitFor_60 : decode cX0_outfitFor 60 = .ok (.invokevirtual 102, 3) := by decide +kernel
theorem dX0_outfitFor_63 : decode cX0_outfitFor 63 = .ok (.ifCond .eq 91, 3) := by decide +kernel
theorem dX0_outfitFor_66 : decode cX0_outfitFor 66 = .ok (.aload_n 0, 1) := by decide +kernel
theorem dX0_outfitFor_67 : decode cX0_outfitFor 67 = .ok (.iload 5, 2) := by decide +kernel
theorem dX0_outfitFor_69 : decode cX0_outfitFor 69 = .ok (.iload 6, 2) := by decide +kernel
theorem dX0_outfitFor_71 : decode cX0_outfitFor 71 = .ok (.iload_n 2, 1) := by decide +kernel
theorem dX0_outfitFor_72 : decode cX0_outfitFor 72 = .ok (.invokevirtual 110, 3) := by decide +kernel
theorem dX0_outfitFor_75 : decode cX0_outfitFor 75 = .ok (.ifCond .eq 6, 3) := by decide +kernel
theorem dX0_outfitFor_78 : decode cX0_outfitFor 78 = .ok (.goto 76, 3) := by decide +kernel
theorem dX0_outfitFor_81 : decode cX0_outfitFor 81 = .ok (.iconst (-1), 1) := by decide +kernel
theorem dX0_outfitFor_82 : decode cX0_outfitFor 82 = .ok (.istore 7, 2) := by decide +kernel
theorem dX0_outfitFor_84 : decode cX0_outfitFor 84 = .ok (.iload 7, 2) := by decide +kernel
theorem dX0_outfitFor_86 : decode cX0_outfitFor 86 = .ok (.aload_n 0, 1) := by decide +kernel
theorem dX0_outfitFor_87 : decode cX0_outfitFor 87 = .ok (.getfield 52, 3) := by decide +kernel
theorem dX0_outfitFor_90 : decode cX0_outfitFor 90 = .ok (.if_icmp .ge 64, 3) := by decide +kernel
theorem dX0_outfitFor_93 : decode cX0_outfitFor 93 = .ok (.aload_n 0, 1) := by decide +kernel
theorem dX0_outfitFor_94 : decode cX0_outfitFor 94 = .ok (.iload 5, 2) := by decide +kernel
theorem dX0_outfitFor_96 : decode cX0_outfitFor 96 = .ok (.iload 6, 2) := by decide +kernel
theorem dX0_outfitFor_98 : decode cX0_outfitFor 98 = .ok (.iload 7, 2) := by decide +kernel
theorem dX0_outfitFor_100 : decode cX0_outfitFor 100 = .ok (.invokevirtual 123, 3) := by decide +kernel
theorem dX0_outfitFor_103 : decode cX0_outfitFor 103 = .ok (.istore 8, 2) := by decide +kernel
theorem dX0_outfitFor_105 : decode cX0_outfitFor 105 = .ok (.iload 8, 2) := by decide +kernel
theorem dX0_outfitFor_107 : decode cX0_outfitFor 107 = .ok (.iload 4, 2) := by decide +kernel
theorem dX0_outfitFor_109 : decode cX0_outfitFor 109 = .ok (.if_icmp .ge 39, 3) := by decide +kernel
theorem dX0_outfitFor_112 : decode cX0_outfitFor 112 = .ok (.aload_n 0, 1) := by decide +kernel
theorem dX0_outfitFor_113 : decode cX0_outfitFor 113 = .ok (.iload 5, 2) := by decide +kernel
theorem dX0_outfitFor_115 : decode cX0_outfitFor 115 = .ok (.iload 6, 2) := by decide +kernel
theorem dX0_outfitFor_117 : decode cX0_outfitFor 117 = .ok (.iload 7, 2) := by decide +kernel
theorem dX0_outfitFor_119 : decode cX0_outfitFor 119 = .ok (.iload_n 1, 1) := by decide +kernel
theorem dX0_outfitFor_120 : decode cX0_outfitFor 120 = .ok (.invokevirtual 135, 3) := by decide +kernel
theorem dX0_outfitFor_123 : decode cX0_outfitFor 123 = .ok (.ifCond .eq 25, 3) := by decide +kernel
theorem dX0_outfitFor_126 : decode cX0_outfitFor 126 = .ok (.sipush 10000, 3) := by decide +kernel
theorem dX0_outfitFor_129 : decode cX0_outfitFor 129 = .ok (.iload 5, 2) := by decide +kernel
theorem dX0_outfitFor_131 : decode cX0_outfitFor 131 = .ok (.imul, 1) := by decide +kernel
theorem dX0_outfitFor_132 : decode cX0_outfitFor 132 = .ok (.bipush 100, 2) := by decide +kernel
theorem dX0_outfitFor_134 : decode cX0_outfitFor 134 = .ok (.iload 6, 2) := by decide +kernel
theorem dX0_outfitFor_136 : decode cX0_outfitFor 136 = .ok (.imul, 1) := by decide +kernel
theorem dX0_outfitFor_137 : decode cX0_outfitFor 137 = .ok (.iadd, 1) := by decide +kernel
theorem dX0_outfitFor_138 : decode cX0_outfitFor 138 = .ok (.iload 7, 2) := by decide +kernel
theorem dX0_outfitFor_140 : decode cX0_outfitFor 140 = .ok (.iadd, 1) := by decide +kernel
theorem dX0_outfitFor_141 : decode cX0_outfitFor 141 = .ok (.iconst 1, 1) := by decide +kernel
theorem dX0_outfitFor_142 : decode cX0_outfitFor 142 = .ok (.iadd, 1) := by decide +kernel
theorem dX0_outfitFor_143 : decode cX0_outfitFor 143 = .ok (.istore_n 3, 1) := by decide +kernel
theorem dX0_outfitFor_144 : decode cX0_outfitFor 144 = .ok (.iload 8, 2) := by decide +kernel
theorem dX0_outfitFor_146 : decode cX0_outfitFor 146 = .ok (.istore 4, 2) := by decide +kernel
theorem dX0_outfitFor_148 : decode cX0_outfitFor 148 = .ok (.iinc 7 1, 3) := by decide +kernel
theorem dX0_outfitFor_151 : decode cX0_outfitFor 151 = .ok (.goto (-67), 3) := by decide +kernel
theorem dX0_outfitFor_154 : decode cX0_outfitFor 154 = .ok (.iinc 6 1, 3) := by decide +kernel
theorem dX0_outfitFor_157 : decode cX0_outfitFor 157 = .ok (.goto (-112), 3) := by decide +kernel
theorem dX0_outfitFor_160 : decode cX0_outfitFor 160 = .ok (.iinc 5 1, 3) := by decide +kernel
theorem dX0_outfitFor_163 : decode cX0_outfitFor 163 = .ok (.goto (-130), 3) := by decide +kernel
theorem dX0_outfitFor_166 : decode cX0_outfitFor 166 = .ok (.iload_n 3, 1) := by decide +kernel
theorem dX0_outfitFor_167 : decode cX0_outfitFor 167 = .ok (.ireturn, 1) := by decide +kernel
set_option maxRecDepth 20000 in
theorem ggX0_load_X0_isCare : GoodIn wsX0_load wsX0_isCare := goodIn_r _ [7, 8, 9, 6, 10] (by decide +kernel) (by decide +kernel)
set_option maxRecDepth 20000 in
theorem gX0_load_X0_isCare : GoodIn wsX0_load (va_wsS RX0 42 yX0_isCare wsX0_isCare) := goodIn_app (goodIn_of _ (by decide +kernel)) ggX0_load_X0_isCare
set_option maxRecDepth 20000 in
theorem ggX0_load_X0_isWashedWith : GoodIn wsX0_load wsX0_isWashedWith := goodIn_r _ [14, 15, 16, 17, 18, 19, 6, 20, 21, 27, 28, 29, 30, 31, 32, 33, 34, 35, 36, 37, 38] (by decide +kernel) (by decide +kernel)
set_option maxRecDepth 20000 in
theorem gX0_load_X0_isWashedWith : GoodIn wsX0_load (wsV RX0 146 RX0 yX0_isWashedWith wsX0_isWashedWith) := goodIn_app (goodIn_of _ (by decide +kernel)) ggX0_load_X0_isWashedWith
set_option maxRecDepth 20000 in
theorem ggX0_load_X0_wearsLeftOf : GoodIn wsX0_load wsX0_wearsLeftOf := goodIn_r _ [25, 26, 17, 18, 19, 6, 20, 21, 27, 28, 29, 30, 31, 32, 33, 34, 35, 36, 37, 38] (by decide +kernel) (by decide +kernel)
set_option maxRecDepth 20000 in
theorem gX0_load_X0_wearsLeftOf : GoodIn wsX0_load (wsV RX0 150 RX0 yX0_wearsLeftOf wsX0_wearsLeftOf) := goodIn_app (goodIn_of _ (by decide +kernel)) ggX0_load_X0_wearsLeftOf
theorem dX0_load_0 : decode cX0_load 0 = .ok (.iload_n 1, 1) := by decide +kernel
theorem dX0_load_1 : decode cX0_load 1 = .ok (.invokestatic 42, 3) := by decide +kernel
theorem dX0_load_4 : decode cX0_load 4 = .ok (.ifCond .ne 13, 3) := by decide +kernel
theorem dX0_load_7 : decode cX0_load 7 = .ok (.new 45, 3) := by decide +kernel
theorem dX0_load_10 : decode cX0_load 10 = .ok (.dup, 1) := by decide +kernel
theorem dX0_load_11 : decode cX0_load 11 = .ok (.ldc 144, 2) := by decide +kernel
theorem dX0_load_13 : decode cX0_load 13 = .ok (.invokespecial 49, 3) := by decide +kernel
theorem dX0_load_16 : decode cX0_load 16 = .ok (.athrow, 1) := by decide +kernel
theorem dX0_load_17 : decode cX0_load 17 = .ok (.iconst 0, 1) := by decide +kernel
theorem dX0_load_18 : decode cX0_load 18 = .ok (.istore_n 3, 1) := by decide +kernel
theorem dX0_load_19 : decode cX0_load 19 = .ok (.iconst 0, 1) := by decide +kernel
theorem dX0_load_20 : decode cX0_load 20 = .ok (.istore 4, 2) := by decide +kernel
theorem dX0_load_22 : decode cX0_load 22 = .ok (.iload 4, 2) := by decide +kernel
theorem dX0_load_24 : decode cX0_load 24 = .ok (.aload_n 0, 1) := by decide +kernel
theorem dX0_load_25 : decode cX0_load 25 = .ok (.getfield 52, 3) := by decide +kernel
theorem dX0_load_28 : decode cX0_load 28 = .ok (.if_icmp .ge 32, 3) := by decide +kernel
theorem dX0_load_31 : decode cX0_load 31 = .ok (.aload_n 0, 1) := by decide +kernel
theorem dX0_load_32 : decode cX0_load 32 = .ok (.iload 4, 2) := by decide +kernel
theorem dX0_load_34 : decode cX0_load 34 = .ok (.iload_n 1, 1) := by decide +kernel
theorem dX0_load_35 : decode cX0_load 35 = .ok (.iload_n 2, 1) := by decide +kernel
theorem dX0_load_36 : decode cX0_load 36 = .ok (.invokevirtual 146, 3) := by decide +kernel
theorem dX0_load_39 : decode cX0_load 39 = .ok (.ifCond .eq 15, 3) := by decide +kernel
theorem dX0_load_42 : decode cX0_load 42 = .ok (.aload_n 0, 1) := by decide +kernel
theorem dX0_load_43 : decode cX0_load 43 = .ok (.iload 4, 2) := by decide +kernel
theorem dX0_load_45 : decode cX0_load 45 = .ok (.invokevirtual 150, 3) := by decide +kernel
theorem dX0_load_48 : decode cX0_load 48 = .ok (.ifCond .ne 6, 3) := by decide +kernel
theorem dX0_load_51 : decode cX0_load 51 = .ok (.iinc 3 1, 3) := by decide +kernel
theorem dX0_load_54 : decode cX0_load 54 = .ok (.iinc 4 1, 3) := by decide +kernel
theorem dX0_load_57 : decode cX0_load 57 = .ok (.goto (-35), 3) := by decide +kernel
theorem dX0_load_60 : decode cX0_load 60 = .ok (.iload_n 3, 1) := by decide +kernel
theorem dX0_load_61 : decode cX0_load 61 = .ok (.ireturn, 1) := by decide +kernel
set_option maxRecDepth 20000 in
theorem ggX0_wash_X0_isCare : GoodIn wsX0_wash wsX0_isCare := goodIn_r _ [6, 7, 8, 5, 9] (by decide +kernel) (by decide +kernel)
set_option maxRecDepth 20000 in
theorem gX0_wash_X0_isCare : GoodIn wsX0_wash (va_wsS RX0 42 yX0_isCare wsX0_isCare) := goodIn_app (goodIn_of _ (by decide +kernel)) ggX0_wash_X0_isCare
set_option maxRecDepth 20000 in
theorem ggX0_wash_X0_nextToWash : GoodIn wsX0_wash wsX0_nextToWash := goodIn_r _ [13, 14, 15, 16, 17, 18, 19, 5, 20, 21, 22, 23, 24, 25, 26, 27, 28, 29, 30, 31, 36, 37, 38, 39, 40, 41, 42, 43, 44, 45, 46, 47] (by decide +kernel) (by decide +kernel)
set_option maxRecDepth 20000 in
theorem gX0_wash_X0_nextToWash : GoodIn wsX0_wash (wsV RX0 153 RX0 yX0_nextToWash wsX0_nextToWash) := goodIn_app (goodIn_of _ (by decide +kernel)) ggX0_wash_X0_nextToWash
set_option maxRecDepth 20000 in
theorem ggX0_wash_X0_makeClean : GoodIn wsX0_wash wsX0_makeClean := goodIn_r _ [35, 15, 16, 23, 24, 25, 5, 26, 27, 36, 37, 38, 39, 40, 41, 42, 43, 44, 45, 46, 47] (by decide +kernel) (by decide +kernel)
set_option maxRecDepth 20000 in
theorem gX0_wash_X0_makeClean : GoodIn wsX0_wash (wsV RX0 157 RX0 yX0_makeClean wsX0_makeClean) := goodIn_app (goodIn_of _ (by decide +kernel)) ggX0_wash_X0_makeClean
theorem dX0_wash_0 : decode cX0_wash 0 = .ok (.iload_n 1, 1) := by decide +kernel
theorem dX0_wash_1 : decode cX0_wash 1 = .ok (.invokestatic 42, 3) := by decide +kernel
theorem dX0_wash_4 : decode cX0_wash 4 = .ok (.ifCond .ne 13, 3) := by decide +kernel
theorem dX0_wash_7 : decode cX0_wash 7 = .ok (.new 45, 3) := by decide +kernel
theorem dX0_wash_10 : decode cX0_wash 10 = .ok (.dup, 1) := by decide +kernel
theorem dX0_wash_11 : decode cX0_wash 11 = .ok (.ldc 144, 2) := by decide +kernel
theorem dX0_wash_13 : decode cX0_wash 13 = .ok (.invokespecial 49, 3) := by decide +kernel
theorem dX0_wash_16 : decode cX0_wash 16 = .ok (.athrow, 1) := by decide +kernel
theorem dX0_wash_17 : decode cX0_wash 17 = .ok (.iconst 0, 1) := by decide +kernel
theorem dX0_wash_18 : decode cX0_wash 18 = .ok (.istore_n 3, 1) := by decide +kernel
theorem dX0_wash_19 : decode cX0_wash 19 = .ok (.iconst 0, 1) := by decide +kernel
theorem dX0_wash_20 : decode cX0_wash 20 = .ok (.istore 4, 2) := by decide +kernel
theorem dX0_wash_22 : decode cX0_wash 22 = .ok (.iload 4, 2) := by decide +kernel
theorem dX0_wash_24 : decode cX0_wash 24 = .ok (.iconst 5, 1) := by decide +kernel
theorem dX0_wash_25 : decode cX0_wash 25 = .ok (.if_icmp .ge 32, 3) := by decide +kernel
theorem dX0_wash_28 : decode cX0_wash 28 = .ok (.aload_n 0, 1) := by decide +kernel
theorem dX0_wash_29 : decode cX0_wash 29 = .ok (.iload_n 1, 1) := by decide +kernel
theorem dX0_wash_30 : decode cX0_wash 30 = .ok (.iload_n 2, 1) := by decide +kernel
theorem dX0_wash_31 : decode cX0_wash 31 = .ok (.invokevirtual 153, 3) := by decide +kernel
theorem dX0_wash_34 : decode cX0_wash 34 = .ok (.istore 5, 2) := by decide +kernel
theorem dX0_wash_36 : decode cX0_wash 36 = .ok (.iload 5, 2) := by decide +kernel
theorem dX0_wash_38 : decode cX0_wash 38 = .ok (.iconst (-1), 1) := by decide +kernel
theorem dX0_wash_39 : decode cX0_wash 39 = .ok (.if_icmp .eq 12, 3) := by decide +kernel
theorem dX0_wash_42 : decode cX0_wash 42 = .ok (.aload_n 0, 1) := by decide +kernel
theorem dX0_wash_43 : decode cX0_wash 43 = .ok (.iload 5, 2) := by decide +kernel
theorem dX0_wash_45 : decode cX0_wash 45 = .ok (.invokevirtual 157, 3) := by decide +kernel
theorem dX0_wash_48 : decode cX0_wash 48 = .ok (.iinc 3 1, 3) := by decide +kernel
theorem dX0_wash_51 : decode cX0_wash 51 = .ok (.iinc 4 1, 3) := by decide +kernel
theorem dX0_wash_54 : decode cX0_wash 54 = .ok (.goto (-32), 3) := by decide +kernel
theorem dX0_wash_57 : decode cX0_wash 57 = .ok (.iload_n 3, 1) := by decide +kernel
theorem dX0_wash_58 : decode cX0_wash 58 = .ok (.ireturn, 1) := by decide +kernel
set_option maxRecDepth 20000 in
theorem ggX0_pass_X0_isWithin : GoodIn wsX0_pass wsX0_isWithin := goodIn_r _ [9] (by decide +kernel) (by decide +kernel)
set_option maxRecDepth 20000 in
theorem gX0_pass_X0_isWithin : GoodIn wsX0_pass (va_wsS RX0 34 yX0_isWithin wsX0_isWithin) := goodIn_app (goodIn_of _ (by decide +kernel)) ggX0_pass_X0_isWithin
theorem dX0_pass_0 : decode cX0_pass 0 = .ok (.iload_n 1, 1) := by decide +kernel
theorem dX0_pass_1 : decode cX0_pass 1 = .ok (.iconst 1, 1) := by decide +kernel
theorem dX0_pass_2 : decode cX0_pass 2 = .ok (.sipush 365, 3) := by decide +kernel
theorem dX0_pass_5 : decode cX0_pass 5 = .ok (.invokestatic 34, 3) := by decide +kernel
theorem dX0_pass_8 : decode cX0_pass 8 = .ok (.ifCond .ne 13, 3) := by decide +kernel
theorem dX0_pass_11 : decode cX0_pass 11 = .ok (.new 45, 3) := by decide +kernel
theorem dX0_pass_14 : decode cX0_pass 14 = .ok (.dup, 1) := by decide +kernel
theorem dX0_pass_15 : decode cX0_pass 15 = .ok (.ldc 160, 2) := by decide +kernel
theorem dX0_pass_17 : decode cX0_pass 17 = .ok (.invokespecial 49, 3) := by decide +kernel
theorem dX0_pass_20 : decode cX0_pass 20 = .ok (.athrow, 1) := by decide +kernel
theorem dX0_pass_21 : decode cX0_pass 21 = .ok (.aload_n 0, 1) := by decide +kernel
theorem dX0_pass_22 : decode cX0_pass 22 = .ok (.getfield 162, 3) := by decide +kernel
theorem dX0_pass_25 : decode cX0_pass 25 = .ok (.iload_n 1, 1) := by decide +kernel
theorem dX0_pass_26 : decode cX0_pass 26 = .ok (.iadd, 1) := by decide +kernel
theorem dX0_pass_27 : decode cX0_pass 27 = .ok (.sipush 10000, 3) := by decide +kernel
theorem dX0_pass_30 : decode cX0_pass 30 = .ok (.if_icmp .le 13, 3) := by decide +kernel
theorem dX0_pass_33 : decode cX0_pass 33 = .ok (.new 56, 3) := by decide +kernel
theorem dX0_pass_36 : decode cX0_pass 36 = .ok (.dup, 1) := by decide +kernel
theorem dX0_pass_37 : decode cX0_pass 37 = .ok (.ldc 165, 2) := by decide +kernel
theorem dX0_pass_39 : decode cX0_pass 39 = .ok (.invokespecial 60, 3) := by decide +kernel
theorem dX0_pass_42 : decode cX0_pass 42 = .ok (.athrow, 1) := by decide +kernel
theorem dX0_pass_43 : decode cX0_pass 43 = .ok (.aload_n 0, 1) := by decide +kernel
theorem dX0_pass_44 : decode cX0_pass 44 = .ok (.dup, 1) := by decide +kernel
theorem dX0_pass_45 : decode cX0_pass 45 = .ok (.getfield 162, 3) := by decide +kernel
theorem dX0_pass_48 : decode cX0_pass 48 = .ok (.iload_n 1, 1) := by decide +kernel
theorem dX0_pass_49 : decode cX0_pass 49 = .ok (.iadd, 1) := by decide +kernel
theorem dX0_pass_50 : decode cX0_pass 50 = .ok (.putfield 162, 3) := by decide +kernel
theorem dX0_pass_53 : decode cX0_pass 53 = .ok (.aload_n 0, 1) := by decide +kernel
theorem dX0_pass_54 : decode cX0_pass 54 = .ok (.getfield 162, 3) := by decide +kernel
theorem dX0_pass_57 : decode cX0_pass 57 = .ok (.ireturn, 1) := by decide +kernel
set_option maxRecDepth 20000 in
theorem ggX0_isEnough_X0_isBagQuestion : GoodIn wsX0_isEnough wsX0_isBagQuestion := goodIn_r _ [7, 8, 9, 6, 10] (by decide +kernel) (by decide +kernel)
set_option maxRecDepth 20000 in
theorem gX0_isEnough_X0_isBagQuestion : GoodIn wsX0_isEnough (va_wsS RX0 167 yX0_isBagQuestion wsX0_isBagQuestion) := goodIn_app (goodIn_of _ (by decide +kernel)) ggX0_isEnough_X0_isBagQuestion
set_option maxRecDepth 20000 in
theorem ggX0_isEnough_X0_findPartners : GoodIn wsX0_isEnough wsX0_findPartners := goodIn_r _ [14, 15, 16, 17, 18, 19, 6, 20, 21, 22, 23, 24, 25, 26, 27, 28, 29, 30, 31, 32, 33, 3, 34, 35, 36, 37, 38, 39, 40, 41, 42, 43, 44, 45, 46, 47, 48, 49, 50, 51, 52, 53, 54, 55, 83, 84, 85, 86, 87, 88, 89, 90, 91, 92, 93, 94] (by decide +kernel) (by decide +kernel)
set_option maxRecDepth 20000 in
theorem gX0_isEnough_X0_findPartners : GoodIn wsX0_isEnough (wsV RX0 172 RX0 yX0_findPartners wsX0_findPartners) := goodIn_app (goodIn_of _ (by decide +kernel)) ggX0_isEnough_X0_findPartners
set_option maxRecDepth 20000 in
theorem ggX0_isEnough_X0_thingsOfKind : GoodIn wsX0_isEnough wsX0_thingsOfKind := goodIn_r _ [59, 16, 25, 26, 27, 6, 28, 29, 30, 31, 32, 33, 3, 83, 84, 85, 86, 87, 88, 89, 90, 91, 92, 93, 94] (by decide +kernel) (by decide +kernel)
set_option maxRecDepth 20000 in
theorem gX0_isEnough_X0_thingsOfKind : GoodIn wsX0_isEnough (wsV RX0 175 RX0 yX0_thingsOfKind wsX0_thingsOfKind) := goodIn_app (goodIn_of _ (by decide +kernel)) ggX0_isEnough_X0_thingsOfKind
set_option maxRecDepth 20000 in
theorem ggX0_isEnough_X0_lasts : GoodIn wsX0_isEnough wsX0_lasts := goodIn_r _ [63, 64, 65, 66, 67, 68, 69, 70, 71, 72, 73, 6, 74, 75, 76, 77, 78, 79, 15, 80, 81, 82, 83, 84, 85, 86, 87, 88, 89, 90, 91, 92, 93, 94] (by decide +kernel) (by decide +kernel)
set_option maxRecDepth 20000 in
theorem gX0_isEnough_X0_lasts : GoodIn wsX0_isEnough (wsV RX0 178 RX0 yX0_lasts wsX0_lasts) := goodIn_app (goodIn_of _ (by decide +kernel)) ggX0_isEnough_X0_lasts
theorem dX0_isEnough_0 : decode cX0_isEnough 0 = .ok (.iload_n 1, 1) := by decide +kernel
theorem dX0_isEnough_1 : decode cX0_isEnough 1 = .ok (.aload_n 0, 1) := by decide +kernel
theorem dX0_isEnough_2 : decode cX0_isEnough 2 = .ok (.getfield 61, 3) := by decide +kernel
theorem dX0_isEnough_5 : decode cX0_isEnough 5 = .ok (.iconst (-1), 1) := by decide +kernel
theorem dX0_isEnough_6 : decode cX0_isEnough 6 = .ok (.ixor, 1) := by decide +kernel
theorem dX0_isEnough_7 : decode cX0_isEnough 7 = .ok (.iand, 1) := by decide +kernel
theorem dX0_isEnough_8 : decode cX0_isEnough 8 = .ok (.ifCond .ne 11, 3) := by decide +kernel
theorem dX0_isEnough_11 : decode cX0_isEnough 11 = .ok (.iload_n 2, 1) := by decide +kernel
theorem dX0_isEnough_12 : decode cX0_isEnough 12 = .ok (.iload_n 3, 1) := by decide +kernel
theorem dX0_isEnough_13 : decode cX0_isEnough 13 = .ok (.invokestatic 167, 3) := by decide +kernel
theorem dX0_isEnough_16 : decode cX0_isEnough 16 = .ok (.ifCond .ne 13, 3) := by decide +kernel
theorem dX0_isEnough_19 : decode cX0_isEnough 19 = .ok (.new 45, 3) := by decide +kernel
theorem dX0_isEnough_22 : decode cX0_isEnough 22 = .ok (.dup, 1) := by decide +kernel
theorem dX0_isEnough_23 : decode cX0_isEnough 23 = .ok (.ldc 170, 2) := by decide +kernel
theorem dX0_isEnough_25 : decode cX0_isEnough 25 = .ok (.invokespecial 49, 3) := by decide +kernel
theorem dX0_isEnough_28 : decode cX0_isEnough 28 = .ok (.athrow, 1) := by decide +kernel
theorem dX0_isEnough_29 : decode cX0_isEnough 29 = .ok (.aload_n 0, 1) := by decide +kernel
theorem dX0_isEnough_30 : decode cX0_isEnough 30 = .ok (.iload_n 3, 1) := by decide +kernel
theorem dX0_isEnough_31 : decode cX0_isEnough 31 = .ok (.invokevirtual 172, 3) := by decide +kernel
theorem dX0_isEnough_34 : decode cX0_isEnough 34 = .ok (.aload_n 0, 1) := by decide +kernel
theorem dX0_isEnough_35 : decode cX0_isEnough 35 = .ok (.iload_n 1, 1) := by decide +kernel
theorem dX0_isEnough_36 : decode cX0_isEnough 36 = .ok (.aload_n 0, 1) := by decide +kernel
theorem dX0_isEnough_37 : decode cX0_isEnough 37 = .ok (.iconst 0, 1) := by decide +kernel
theorem dX0_isEnough_38 : decode cX0_isEnough 38 = .ok (.invokevirtual 175, 3) := by decide +kernel
theorem dX0_isEnough_41 : decode cX0_isEnough 41 = .ok (.iand, 1) := by decide +kernel
theorem dX0_isEnough_42 : decode cX0_isEnough 42 = .ok (.iload_n 1, 1) := by decide +kernel
theorem dX0_isEnough_43 : decode cX0_isEnough 43 = .ok (.aload_n 0, 1) := by decide +kernel
theorem dX0_isEnough_44 : decode cX0_isEnough 44 = .ok (.iconst 1, 1) := by decide +kernel
theorem dX0_isEnough_45 : decode cX0_isEnough 45 = .ok (.invokevirtual 175, 3) := by decide +kernel
theorem dX0_isEnough_48 : decode cX0_isEnough 48 = .ok (.iand, 1) := by decide +kernel
theorem dX0_isEnough_49 : decode cX0_isEnough 49 = .ok (.iload_n 2, 1) := by decide +kernel
theorem dX0_isEnough_50 : decode cX0_isEnough 50 = .ok (.invokevirtual 178, 3) := by decide +kernel
theorem dX0_isEnough_53 : decode cX0_isEnough 53 = .ok (.ireturn, 1) := by decide +kernel
set_option maxRecDepth 20000 in
theorem ggX0_bag_X0_isBagQuestion : GoodIn wsX0_bag wsX0_isBagQuestion := goodIn_r _ [6, 7, 8, 5, 9] (by decide +kernel) (by decide +kernel)
set_option maxRecDepth 20000 in
theorem gX0_bag_X0_isBagQuestion : GoodIn wsX0_bag (va_wsS RX0 167 yX0_isBagQuestion wsX0_isBagQuestion) := goodIn_app (goodIn_of _ (by decide +kernel)) ggX0_bag_X0_isBagQuestion
set_option maxRecDepth 20000 in
theorem ggX0_bag_X0_findPartners : GoodIn wsX0_bag wsX0_findPartners := goodIn_r _ [13, 14, 15, 16, 17, 18, 5, 19, 20, 21, 22, 23, 24, 25, 26, 27, 28, 29, 30, 31, 32, 33, 34, 35, 36, 37, 38, 39, 40, 41, 42, 43, 44, 45, 46, 47, 48, 49, 50, 51, 52, 53, 54, 55, 91, 92, 93, 94, 95, 96, 97, 98, 99, 100, 101, 102] (by decide +kernel) (by decide +kernel)
set_option maxRecDepth 20000 in
theorem gX0_bag_X0_findPartners : GoodIn wsX0_bag (wsV RX0 172 RX0 yX0_findPartners wsX0_findPartners) := goodIn_app (goodIn_of _ (by decide +kernel)) ggX0_bag_X0_findPartners
set_option maxRecDepth 20000 in
theorem ggX0_bag_X0_usefulThings : GoodIn wsX0_bag wsX0_usefulThings := goodIn_r _ [59, 15, 14, 60, 61, 62, 5, 63, 64, 29, 30, 31, 32, 33, 91, 92, 93, 94, 95, 96, 97, 98, 99, 100, 101, 102] (by decide +kernel) (by decide +kernel)
set_option maxRecDepth 20000 in
theorem gX0_bag_X0_usefulThings : GoodIn wsX0_bag (wsV RX0 183 RX0 yX0_usefulThings wsX0_usefulThings) := goodIn_app (goodIn_of _ (by decide +kernel)) ggX0_bag_X0_usefulThings
set_option maxRecDepth 20000 in
theorem ggX0_bag_X0_thingsOfKind : GoodIn wsX0_bag wsX0_thingsOfKind := goodIn_r _ [68, 15, 24, 25, 26, 5, 27, 28, 29, 30, 31, 32, 33, 91, 92, 93, 94, 95, 96, 97, 98, 99, 100, 101, 102] (by decide +kernel) (by decide +kernel)
set_option maxRecDepth 20000 in
theorem gX0_bag_X0_thingsOfKind : GoodIn wsX0_bag (wsV RX0 175 RX0 yX0_thingsOfKind wsX0_thingsOfKind) := goodIn_app (goodIn_of _ (by decide +kernel)) ggX0_bag_X0_thingsOfKind
set_option maxRecDepth 20000 in
theorem ggX0_bag_X0_lasts : GoodIn wsX0_bag wsX0_lasts := goodIn_r _ [72, 73, 74, 75, 76, 77, 78, 79, 80, 81, 82, 5, 83, 64, 84, 85, 86, 87, 14, 88, 89, 90, 91, 92, 93, 94, 95, 96, 97, 98, 99, 100, 101, 102] (by decide +kernel) (by decide +kernel)
set_option maxRecDepth 20000 in
theorem gX0_bag_X0_lasts : GoodIn wsX0_bag (wsV RX0 178 RX0 yX0_lasts wsX0_lasts) := goodIn_app (goodIn_of _ (by decide +kernel)) ggX0_bag_X0_lasts
set_option maxRecDepth 20000 in
theorem ggX0_bag_J6_bitCount_0f7a4 : GoodIn wsX0_bag wsJ6_bitCount_0f7a4 := goodIn_r _ [76, 77, 78, 79] (by decide +kernel) (by decide +kernel)
set_option maxRecDepth 20000 in
theorem gX0_bag_J6_bitCount_0f7a4 : GoodIn wsX0_bag (va_wsS RX0 72 yJ6_bitCount_0f7a4 wsJ6_bitCount_0f7a4) := goodIn_app (goodIn_of _ (by decide +kernel)) ggX0_bag_J6_bitCount_0f7a4
set_option maxRecDepth 20000 in
theorem ggX0_bag_X0_nextPart : GoodIn wsX0_bag wsX0_nextPart := goodIn_r _ [90] (by decide +kernel) (by decide +kernel)
set_option maxRecDepth 20000 in
theorem gX0_bag_X0_nextPart : GoodIn wsX0_bag (va_wsS RX0 187 yX0_nextPart wsX0_nextPart) := goodIn_app (goodIn_of _ (by decide +kernel)) ggX0_bag_X0_nextPart
theorem dX0_bag_0 : decode cX0_bag 0 = .ok (.iload_n 1, 1) := by decide +kernel
theorem dX0_bag_1 : decode cX0_bag 1 = .ok (.iload_n 2, 1) := by decide +kernel
theorem dX0_bag_2 : decode cX0_bag 2 = .ok (.invokestatic 167, 3) := by decide +kernel
theorem dX0_bag_5 : decode cX0_bag 5 = .ok (.ifCond .ne 13, 3) := by decide +kernel
theorem dX0_bag_8 : decode cX0_bag 8 = .ok (.new 45, 3) := by decide +kernel
theorem dX0_bag_11 : decode cX0_bag 11 = .ok (.dup, 1) := by decide +kernel
theorem dX0_bag_12 : decode cX0_bag 12 = .ok (.ldc 181, 2) := by decide +kernel
theorem dX0_bag_14 : decode cX0_bag 14 = .ok (.invokespecial 49, 3) := by decide +kernel
theorem dX0_bag_17 : decode cX0_bag 17 = .ok (.athrow, 1) := by decide +kernel
theorem dX0_bag_18 : decode cX0_bag 18 = .ok (.aload_n 0, 1) := by decide +kernel
theorem dX0_bag_19 : decode cX0_bag 19 = .ok (.iload_n 2, 1) := by decide +kernel
theorem dX0_bag_20 : decode cX0_bag 20 = .ok (.invokevirtual 172, 3) := by decide +kernel
theorem dX0_bag_23 : decode cX0_bag 23 = .ok (.aload_n 0, 1) := by decide +kernel
theorem dX0_bag_24 : decode cX0_bag 24 = .ok (.invokevirtual 183, 3) := by decide +kernel
theorem dX0_bag_27 : decode cX0_bag 27 = .ok (.istore_n 3, 1) := by decide +kernel
theorem dX0_bag_28 : decode cX0_bag 28 = .ok (.iload_n 3, 1) := by decide +kernel
theorem dX0_bag_29 : decode cX0_bag 29 = .ok (.aload_n 0, 1) := by decide +kernel
theorem dX0_bag_30 : decode cX0_bag 30 = .ok (.iconst 0, 1) := by decide +kernel
theorem dX0_bag_31 : decode cX0_bag 31 = .ok (.invokevirtual 175, 3) := by decide +kernel
theorem dX0_bag_34 : decode cX0_bag 34 = .ok (.iand, 1) := by decide +kernel
theorem dX0_bag_35 : decode cX0_bag 35 = .ok (.istore 4, 2) := by decide +kernel
theorem dX0_bag_37 : decode cX0_bag 37 = .ok (.iload_n 3, 1) := by decide +kernel
theorem dX0_bag_38 : decode cX0_bag 38 = .ok (.aload_n 0, 1) := by decide +kernel
theorem dX0_bag_39 : decode cX0_bag 39 = .ok (.iconst 1, 1) := by decide +kernel
theorem dX0_bag_40 : decode cX0_bag 40 = .ok (.invokevirtual 175, 3) := by decide +kernel
theorem dX0_bag_43 : decode cX0_bag 43 = .ok (.iand, 1) := by decide +kernel
theorem dX0_bag_44 : decode cX0_bag 44 = .ok (.istore 5, 2) := by decide +kernel
theorem dX0_bag_46 : decode cX0_bag 46 = .ok (.aload_n 0, 1) := by decide +kernel
theorem dX0_bag_47 : decode cX0_bag 47 = .ok (.iload 4, 2) := by decide +kernel
theorem dX0_bag_49 : decode cX0_bag 49 = .ok (.iload 5, 2) := by decide +kernel
theorem dX0_bag_51 : decode cX0_bag 51 = .ok (.iload_n 1, 1) := by decide +kernel
theorem dX0_bag_52 : decode cX0_bag 52 = .ok (.invokevirtual 178, 3) := by decide +kernel
theorem dX0_bag_55 : decode cX0_bag 55 = .ok (.ifCond .ne 5, 3) := by decide +kernel
theorem dX0_bag_58 : decode cX0_bag 58 = .ok (.iconst 0, 1) := by decide +kernel
theorem dX0_bag_59 : decode cX0_bag 59 = .ok (.ireturn, 1) := by decide +kernel
theorem dX0_bag_60 : decode cX0_bag 60 = .ok (.iload_n 3, 1) := by decide +kernel
theorem dX0_bag_61 : decode cX0_bag 61 = .ok (.istore 6, 2) := by decide +kernel
theorem dX0_bag_63 : decode cX0_bag 63 = .ok (.iload_n 3, 1) := by decide +kernel
theorem dX0_bag_64 : decode cX0_bag 64 = .ok (.invokestatic 72, 3) := by decide +kernel
theorem dX0_bag_67 : decode cX0_bag 67 = .ok (.istore 7, 2) := by decide +kernel
theorem dX0_bag_69 : decode cX0_bag 69 = .ok (.iconst 0, 1) := by decide +kernel
theorem dX0_bag_70 : decode cX0_bag 70 = .ok (.istore 8, 2) := by decide +kernel
theorem dX0_bag_72 : decode cX0_bag 72 = .ok (.iconst 1, 1) := by decide +kernel
theorem dX0_bag_73 : decode cX0_bag 73 = .ok (.iload 7, 2) := by decide +kernel
theorem dX0_bag_75 : decode cX0_bag 75 = .ok (.ishl, 1) := by decide +kernel
theorem dX0_bag_76 : decode cX0_bag 76 = .ok (.istore 9, 2) := by decide +kernel
theorem dX0_bag_78 : decode cX0_bag 78 = .ok (.iload 9, 2) := by decide +kernel
theorem dX0_bag_80 : decode cX0_bag 80 = .ok (.ifCond .le 57, 3) := by decide +kernel
theorem dX0_bag_83 : decode cX0_bag 83 = .ok (.iload 8, 2) := by decide +kernel
theorem dX0_bag_85 : decode cX0_bag 85 = .ok (.invokestatic 72, 3) := by decide +kernel
theorem dX0_bag_88 : decode cX0_bag 88 = .ok (.istore 10, 2) := by decide +kernel
theorem dX0_bag_90 : decode cX0_bag 90 = .ok (.iload 10, 2) := by decide +kernel
theorem dX0_bag_92 : decode cX0_bag 92 = .ok (.iload 7, 2) := by decide +kernel
theorem dX0_bag_94 : decode cX0_bag 94 = .ok (.if_icmp .ge 29, 3) := by decide +kernel
theorem dX0_bag_97 : decode cX0_bag 97 = .ok (.aload_n 0, 1) := by decide +kernel
theorem dX0_bag_98 : decode cX0_bag 98 = .ok (.iload 8, 2) := by decide +kernel
theorem dX0_bag_100 : decode cX0_bag 100 = .ok (.iload 4, 2) := by decide +kernel
theorem dX0_bag_102 : decode cX0_bag 102 = .ok (.iand, 1) := by decide +kernel
theorem dX0_bag_103 : decode cX0_bag 103 = .ok (.iload 8, 2) := by decide +kernel
theorem dX0_bag_105 : decode cX0_bag 105 = .ok (.iload 5, 2) := by decide +kernel
theorem dX0_bag_107 : decode cX0_bag 107 = .ok (.iand, 1) := by decide +kernel
theorem dX0_bag_108 : decode cX0_bag 108 = .ok (.iload_n 1, 1) := by decide +kernel
theorem dX0_bag_109 : decode cX0_bag 109 = .ok (.invokevirtual 178, 3) := by decide +kernel
theorem dX0_bag_112 : decode cX0_bag 112 = .ok (.ifCond .eq 11, 3) := by decide +kernel
theorem dX0_bag_115 : decode cX0_bag 115 = .ok (.iload 8, 2) := by decide +kernel
theorem dX0_bag_117 : decode cX0_bag 117 = .ok (.istore 6, 2) := by decide +kernel
theorem dX0_bag_119 : decode cX0_bag 119 = .ok (.iload 10, 2) := by decide +kernel
theorem dX0_bag_121 : decode cX0_bag 121 = .ok (.istore 7, 2) := by decide +kernel
theorem dX0_bag_123 : decode cX0_bag 123 = .ok (.iload 8, 2) := by decide +kernel
theorem dX0_bag_125 : decode cX0_bag 125 = .ok (.iload_n 3, 1) := by decide +kernel
theorem dX0_bag_126 : decode cX0_bag 126 = .ok (.invokestatic 187, 3) := by decide +kernel
theorem dX0_bag_129 : decode cX0_bag 129 = .ok (.istore 8, 2) := by decide +kernel
theorem dX0_bag_131 : decode cX0_bag 131 = .ok (.iinc 9 (-1), 3) := by decide +kernel
theorem dX0_bag_134 : decode cX0_bag 134 = .ok (.goto (-56), 3) := by decide +kernel
theorem dX0_bag_137 : decode cX0_bag 137 = .ok (.iload 6, 2) := by decide +kernel
theorem dX0_bag_139 : decode cX0_bag 139 = .ok (.ireturn, 1) := by decide +kernel
theorem dX0_isWithin_0 : decode cX0_isWithin 0 = .ok (.iload_n 0, 1) := by decide +kernel
theorem dX0_isWithin_1 : decode cX0_isWithin 1 = .ok (.iload_n 1, 1) := by decide +kernel
theorem dX0_isWithin_2 : decode cX0_isWithin 2 = .ok (.if_icmp .lt 12, 3) := by decide +kernel
theorem dX0_isWithin_5 : decode cX0_isWithin 5 = .ok (.iload_n 0, 1) := by decide +kernel
theorem dX0_isWithin_6 : decode cX0_isWithin 6 = .ok (.iload_n 2, 1) := by decide +kernel
theorem dX0_isWithin_7 : decode cX0_isWithin 7 = .ok (.if_icmp .gt 7, 3) := by decide +kernel
theorem dX0_isWithin_10 : decode cX0_isWithin 10 = .ok (.iconst 1, 1) := by decide +kernel
theorem dX0_isWithin_11 : decode cX0_isWithin 11 = .ok (.goto 4, 3) := by decide +kernel
theorem dX0_isWithin_14 : decode cX0_isWithin 14 = .ok (.iconst 0, 1) := by decide +kernel
theorem dX0_isWithin_15 : decode cX0_isWithin 15 = .ok (.ireturn, 1) := by decide +kernel
set_option maxRecDepth 20000 in
theorem ggX0_isColour_X0_isWithin : GoodIn wsX0_isColour wsX0_isWithin := goodIn_r _ [4] (by decide +kernel) (by decide +kernel)
set_option maxRecDepth 20000 in
theorem gX0_isColour_X0_isWithin : GoodIn wsX0_isColour (va_wsS RX0 34 yX0_isWithin wsX0_isWithin) := goodIn_app (goodIn_of _ (by decide +kernel)) ggX0_isColour_X0_isWithin
theorem dX0_isColour_0 : decode cX0_isColour 0 = .ok (.iload_n 0, 1) := by decide +kernel
theorem dX0_isColour_1 : decode cX0_isColour 1 = .ok (.iconst 0, 1) := by decide +kernel
theorem dX0_isColour_2 : decode cX0_isColour 2 = .ok (.bipush 7, 2) := by decide +kernel
theorem dX0_isColour_4 : decode cX0_isColour 4 = .ok (.invokestatic 34, 3) := by decide +kernel
theorem dX0_isColour_7 : decode cX0_isColour 7 = .ok (.ireturn, 1) := by decide +kernel
set_option maxRecDepth 20000 in
theorem ggX0_isCare_X0_isWithin : GoodIn wsX0_isCare wsX0_isWithin := goodIn_r _ [4] (by decide +kernel) (by decide +kernel)
set_option maxRecDepth 20000 in
theorem gX0_isCare_X0_isWithin : GoodIn wsX0_isCare (va_wsS RX0 34 yX0_isWithin wsX0_isWithin) := goodIn_app (goodIn_of _ (by decide +kernel)) ggX0_isCare_X0_isWithin
theorem dX0_isCare_0 : decode cX0_isCare 0 = .ok (.iload_n 0, 1) := by decide +kernel
theorem dX0_isCare_1 : decode cX0_isCare 1 = .ok (.iconst 0, 1) := by decide +kernel
theorem dX0_isCare_2 : decode cX0_isCare 2 = .ok (.iconst 2, 1) := by decide +kernel
theorem dX0_isCare_3 : decode cX0_isCare 3 = .ok (.invokestatic 34, 3) := by decide +kernel
theorem dX0_isCare_6 : decode cX0_isCare 6 = .ok (.ireturn, 1) := by decide +kernel
set_option maxRecDepth 20000 in
theorem ggX0_arePeople_X0_isWithin : GoodIn wsX0_arePeople wsX0_isWithin := goodIn_r _ [4] (by decide +kernel) (by decide +kernel)
set_option maxRecDepth 20000 in
theorem gX0_arePeople_X0_isWithin : GoodIn wsX0_arePeople (va_wsS RX0 34 yX0_isWithin wsX0_isWithin) := goodIn_app (goodIn_of _ (by decide +kernel)) ggX0_arePeople_X0_isWithin
theorem dX0_arePeople_0 : decode cX0_arePeople 0 = .ok (.iload_n 0, 1) := by decide +kernel
theorem dX0_arePeople_1 : decode cX0_arePeople 1 = .ok (.iconst 0, 1) := by decide +kernel
theorem dX0_arePeople_2 : decode cX0_arePeople 2 = .ok (.sipush 255, 3) := by decide +kernel
theorem dX0_arePeople_5 : decode cX0_arePeople 5 = .ok (.invokestatic 34, 3) := by decide +kernel
theorem dX0_arePeople_8 : decode cX0_arePeople 8 = .ok (.ireturn, 1) := by decide +kernel
set_option maxRecDepth 20000 in
theorem ggX0_isOutfitWarmth_X0_isWithin : GoodIn wsX0_isOutfitWarmth wsX0_isWithin := goodIn_r _ [4] (by decide +kernel) (by decide +kernel)
set_option maxRecDepth 20000 in
theorem gX0_isOutfitWarmth_X0_isWithin : GoodIn wsX0_isOutfitWarmth (va_wsS RX0 34 yX0_isWithin wsX0_isWithin) := goodIn_app (goodIn_of _ (by decide +kernel)) ggX0_isOutfitWarmth_X0_isWithin
theorem dX0_isOutfitWarmth_0 : decode cX0_isOutfitWarmth 0 = .ok (.iload_n 0, 1) := by decide +kernel
theorem dX0_isOutfitWarmth_1 : decode cX0_isOutfitWarmth 1 = .ok (.iconst 0, 1) := by decide +kernel
theorem dX0_isOutfitWarmth_2 : decode cX0_isOutfitWarmth 2 = .ok (.bipush 30, 2) := by decide +kernel
theorem dX0_isOutfitWarmth_4 : decode cX0_isOutfitWarmth 4 = .ok (.invokestatic 34, 3) := by decide +kernel
theorem dX0_isOutfitWarmth_7 : decode cX0_isOutfitWarmth 7 = .ok (.ireturn, 1) := by decide +kernel
set_option maxRecDepth 20000 in
theorem ggX0_isBagQuestion_X0_isWithin : GoodIn wsX0_isBagQuestion wsX0_isWithin := goodIn_r _ [4] (by decide +kernel) (by decide +kernel)
set_option maxRecDepth 20000 in
theorem gX0_isBagQuestion_X0_isWithin : GoodIn wsX0_isBagQuestion (va_wsS RX0 34 yX0_isWithin wsX0_isWithin) := goodIn_app (goodIn_of _ (by decide +kernel)) ggX0_isBagQuestion_X0_isWithin
theorem dX0_isBagQuestion_0 : decode cX0_isBagQuestion 0 = .ok (.iload_n 0, 1) := by decide +kernel
theorem dX0_isBagQuestion_1 : decode cX0_isBagQuestion 1 = .ok (.iconst 1, 1) := by decide +kernel
theorem dX0_isBagQuestion_2 : decode cX0_isBagQuestion 2 = .ok (.bipush 20, 2) := by decide +kernel
theorem dX0_isBagQuestion_4 : decode cX0_isBagQuestion 4 = .ok (.invokestatic 34, 3) := by decide +kernel
theorem dX0_isBagQuestion_7 : decode cX0_isBagQuestion 7 = .ok (.ifCond .eq 17, 3) := by decide +kernel
theorem dX0_isBagQuestion_10 : decode cX0_isBagQuestion 10 = .ok (.iload_n 1, 1) := by decide +kernel
theorem dX0_isBagQuestion_11 : decode cX0_isBagQuestion 11 = .ok (.iconst 0, 1) := by decide +kernel
theorem dX0_isBagQuestion_12 : decode cX0_isBagQuestion 12 = .ok (.bipush 20, 2) := by decide +kernel
theorem dX0_isBagQuestion_14 : decode cX0_isBagQuestion 14 = .ok (.invokestatic 34, 3) := by decide +kernel
theorem dX0_isBagQuestion_17 : decode cX0_isBagQuestion 17 = .ok (.ifCond .eq 7, 3) := by decide +kernel
theorem dX0_isBagQuestion_20 : decode cX0_isBagQuestion 20 = .ok (.iconst 1, 1) := by decide +kernel
theorem dX0_isBagQuestion_21 : decode cX0_isBagQuestion 21 = .ok (.goto 4, 3) := by decide +kernel
theorem dX0_isBagQuestion_24 : decode cX0_isBagQuestion 24 = .ok (.iconst 0, 1) := by decide +kernel
theorem dX0_isBagQuestion_25 : decode cX0_isBagQuestion 25 = .ok (.ireturn, 1) := by decide +kernel
theorem dX0_isThing_0 : decode cX0_isThing 0 = .ok (.iload_n 1, 1) := by decide +kernel
theorem dX0_isThing_1 : decode cX0_isThing 1 = .ok (.ifCond .lt 24, 3) := by decide +kernel
theorem dX0_isThing_4 : decode cX0_isThing 4 = .ok (.iload_n 1, 1) := by decide +kernel
theorem dX0_isThing_5 : decode cX0_isThing 5 = .ok (.bipush 12, 2) := by decide +kernel
theorem dX0_isThing_7 : decode cX0_isThing 7 = .ok (.if_icmp .ge 18, 3) := by decide +kernel
theorem dX0_isThing_10 : decode cX0_isThing 10 = .ok (.aload_n 0, 1) := by decide +kernel
theorem dX0_isThing_11 : decode cX0_isThing 11 = .ok (.getfield 61, 3) := by decide +kernel
theorem dX0_isThing_14 : decode cX0_isThing 14 = .ok (.iload_n 1, 1) := by decide +kernel
theorem dX0_isThing_15 : decode cX0_isThing 15 = .ok (.ishr, 1) := by decide +kernel
theorem dX0_isThing_16 : decode cX0_isThing 16 = .ok (.iconst 1, 1) := by decide +kernel
theorem dX0_isThing_17 : decode cX0_isThing 17 = .ok (.iand, 1) := by decide +kernel
theorem dX0_isThing_18 : decode cX0_isThing 18 = .ok (.ifCond .eq 7, 3) := by decide +kernel
theorem dX0_isThing_21 : decode cX0_isThing 21 = .ok (.iconst 1, 1) := by decide +kernel
theorem dX0_isThing_22 : decode cX0_isThing 22 = .ok (.goto 4, 3) := by decide +kernel
theorem dX0_isThing_25 : decode cX0_isThing 25 = .ok (.iconst 0, 1) := by decide +kernel
theorem dX0_isThing_26 : decode cX0_isThing 26 = .ok (.ireturn, 1) := by decide +kernel
set_option maxRecDepth 20000 in
theorem ggX0_areThings_X0_isThing : GoodIn wsX0_areThings wsX0_isThing := goodIn_r _ [5, 6, 7, 8, 9, 10, 11, 12, 13, 14, 15, 16, 17, 18] (by decide +kernel) (by decide +kernel)
set_option maxRecDepth 20000 in
theorem gX0_areThings_X0_isThing : GoodIn wsX0_areThings (wsV RX0 64 RX0 yX0_isThing wsX0_isThing) := goodIn_app (goodIn_of _ (by decide +kernel)) ggX0_areThings_X0_isThing
theorem dX0_areThings_0 : decode cX0_areThings 0 = .ok (.aload_n 0, 1) := by decide +kernel
theorem dX0_areThings_1 : decode cX0_areThings 1 = .ok (.iload_n 1, 1) := by decide +kernel
theorem dX0_areThings_2 : decode cX0_areThings 2 = .ok (.invokevirtual 64, 3) := by decide +kernel
theorem dX0_areThings_5 : decode cX0_areThings 5 = .ok (.ifCond .eq 28, 3) := by decide +kernel
theorem dX0_areThings_8 : decode cX0_areThings 8 = .ok (.aload_n 0, 1) := by decide +kernel
theorem dX0_areThings_9 : decode cX0_areThings 9 = .ok (.iload_n 2, 1) := by decide +kernel
theorem dX0_areThings_10 : decode cX0_areThings 10 = .ok (.invokevirtual 64, 3) := by decide +kernel
theorem dX0_areThings_13 : decode cX0_areThings 13 = .ok (.ifCond .eq 20, 3) := by decide +kernel
theorem dX0_areThings_16 : decode cX0_areThings 16 = .ok (.iload_n 3, 1) := by decide +kernel
theorem dX0_areThings_17 : decode cX0_areThings 17 = .ok (.iconst (-1), 1) := by decide +kernel
theorem dX0_areThings_18 : decode cX0_areThings 18 = .ok (.if_icmp .eq 11, 3) := by decide +kernel
theorem dX0_areThings_21 : decode cX0_areThings 21 = .ok (.aload_n 0, 1) := by decide +kernel
theorem dX0_areThings_22 : decode cX0_areThings 22 = .ok (.iload_n 3, 1) := by decide +kernel
theorem dX0_areThings_23 : decode cX0_areThings 23 = .ok (.invokevirtual 64, 3) := by decide +kernel
theorem dX0_areThings_26 : decode cX0_areThings 26 = .ok (.ifCond .eq 7, 3) := by decide +kernel
theorem dX0_areThings_29 : decode cX0_areThings 29 = .ok (.iconst 1, 1) := by decide +kernel
theorem dX0_areThings_30 : decode cX0_areThings 30 = .ok (.goto 4, 3) := by decide +kernel
theorem dX0_areThings_33 : decode cX0_areThings 33 = .ok (.iconst 0, 1) := by decide +kernel
theorem dX0_areThings_34 : decode cX0_areThings 34 = .ok (.ireturn, 1) := by decide +kernel
set_option maxRecDepth 20000 in
theorem ggX0_isOfKind_X0_isThing : GoodIn wsX0_isOfKind wsX0_isThing := goodIn_r _ [6, 7, 8, 9, 10, 11, 12, 13, 14, 15, 16, 17, 18, 19] (by decide +kernel) (by decide +kernel)
set_option maxRecDepth 20000 in
theorem gX0_isOfKind_X0_isThing : GoodIn wsX0_isOfKind (wsV RX0 64 RX0 yX0_isThing wsX0_isThing) := goodIn_app (goodIn_of _ (by decide +kernel)) ggX0_isOfKind_X0_isThing
theorem dX0_isOfKind_0 : decode cX0_isOfKind 0 = .ok (.aload_n 0, 1) := by decide +kernel
theorem dX0_isOfKind_1 : decode cX0_isOfKind 1 = .ok (.iload_n 1, 1) := by decide +kernel
theorem dX0_isOfKind_2 : decode cX0_isOfKind 2 = .ok (.invokevirtual 64, 3) := by decide +kernel
theorem dX0_isOfKind_5 : decode cX0_isOfKind 5 = .ok (.ifCond .eq 17, 3) := by decide +kernel
theorem dX0_isOfKind_8 : decode cX0_isOfKind 8 = .ok (.aload_n 0, 1) := by decide +kernel
theorem dX0_isOfKind_9 : decode cX0_isOfKind 9 = .ok (.getfield 9, 3) := by decide +kernel
theorem dX0_isOfKind_12 : decode cX0_isOfKind 12 = .ok (.iload_n 1, 1) := by decide +kernel
theorem dX0_isOfKind_13 : decode cX0_isOfKind 13 = .ok (.iaload, 1) := by decide +kernel
theorem dX0_isOfKind_14 : decode cX0_isOfKind 14 = .ok (.iload_n 2, 1) := by decide +kernel
theorem dX0_isOfKind_15 : decode cX0_isOfKind 15 = .ok (.if_icmp .ne 7, 3) := by decide +kernel
theorem dX0_isOfKind_18 : decode cX0_isOfKind 18 = .ok (.iconst 1, 1) := by decide +kernel
theorem dX0_isOfKind_19 : decode cX0_isOfKind 19 = .ok (.goto 4, 3) := by decide +kernel
theorem dX0_isOfKind_22 : decode cX0_isOfKind 22 = .ok (.iconst 0, 1) := by decide +kernel
theorem dX0_isOfKind_23 : decode cX0_isOfKind 23 = .ok (.ireturn, 1) := by decide +kernel
set_option maxRecDepth 20000 in
theorem ggX0_areOfTheirKinds_X0_isOfKind : GoodIn wsX0_areOfTheirKinds wsX0_isOfKind := goodIn_r _ [5, 6, 7, 8, 9, 4, 10, 11, 12, 13, 14, 15, 16, 17, 18, 19, 20, 21, 22, 23] (by decide +kernel) (by decide +kernel)
set_option maxRecDepth 20000 in
theorem gX0_areOfTheirKinds_X0_isOfKind : GoodIn wsX0_areOfTheirKinds (wsV RX0 191 RX0 yX0_isOfKind wsX0_isOfKind) := goodIn_app (goodIn_of _ (by decide +kernel)) ggX0_areOfTheirKinds_X0_isOfKind
theorem dX0_areOfTheirKinds_0 : decode cX0_areOfTheirKinds 0 = .ok (.aload_n 0, 1) := by decide +kernel
theorem dX0_areOfTheirKinds_1 : decode cX0_areOfTheirKinds 1 = .ok (.iload_n 1, 1) := by decide +kernel
theorem dX0_areOfTheirKinds_2 : decode cX0_areOfTheirKinds 2 = .ok (.iconst 0, 1) := by decide +kernel
theorem dX0_areOfTheirKinds_3 : decode cX0_areOfTheirKinds 3 = .ok (.invokevirtual 191, 3) := by decide +kernel
theorem dX0_areOfTheirKinds_6 : decode cX0_areOfTheirKinds 6 = .ok (.ifCond .eq 30, 3) := by decide +kernel
theorem dX0_areOfTheirKinds_9 : decode cX0_areOfTheirKinds 9 = .ok (.aload_n 0, 1) := by decide +kernel
theorem dX0_areOfTheirKinds_10 : decode cX0_areOfTheirKinds 10 = .ok (.iload_n 2, 1) := by decide +kernel
theorem dX0_areOfTheirKinds_11 : decode cX0_areOfTheirKinds 11 = .ok (.iconst 1, 1) := by decide +kernel
theorem dX0_areOfTheirKinds_12 : decode cX0_areOfTheirKinds 12 = .ok (.invokevirtual 191, 3) := by decide +kernel
theorem dX0_areOfTheirKinds_15 : decode cX0_areOfTheirKinds 15 = .ok (.ifCond .eq 21, 3) := by decide +kernel
theorem dX0_areOfTheirKinds_18 : decode cX0_areOfTheirKinds 18 = .ok (.iload_n 3, 1) := by decide +kernel
theorem dX0_areOfTheirKinds_19 : decode cX0_areOfTheirKinds 19 = .ok (.iconst (-1), 1) := by decide +kernel
theorem dX0_areOfTheirKinds_20 : decode cX0_areOfTheirKinds 20 = .ok (.if_icmp .eq 12, 3) := by decide +kernel
theorem dX0_areOfTheirKinds_23 : decode cX0_areOfTheirKinds 23 = .ok (.aload_n 0, 1) := by decide +kernel
theorem dX0_areOfTheirKinds_24 : decode cX0_areOfTheirKinds 24 = .ok (.iload_n 3, 1) := by decide +kernel
theorem dX0_areOfTheirKinds_25 : decode cX0_areOfTheirKinds 25 = .ok (.iconst 2, 1) := by decide +kernel
theorem dX0_areOfTheirKinds_26 : decode cX0_areOfTheirKinds 26 = .ok (.invokevirtual 191, 3) := by decide +kernel
theorem dX0_areOfTheirKinds_29 : decode cX0_areOfTheirKinds 29 = .ok (.ifCond .eq 7, 3) := by decide +kernel
theorem dX0_areOfTheirKinds_32 : decode cX0_areOfTheirKinds 32 = .ok (.iconst 1, 1) := by decide +kernel
theorem dX0_areOfTheirKinds_33 : decode cX0_areOfTheirKinds 33 = .ok (.goto 4, 3) := by decide +kernel
theorem dX0_areOfTheirKinds_36 : decode cX0_areOfTheirKinds 36 = .ok (.iconst 0, 1) := by decide +kernel
theorem dX0_areOfTheirKinds_37 : decode cX0_areOfTheirKinds 37 = .ok (.ireturn, 1) := by decide +kernel
set_option maxRecDepth 20000 in
theorem ggX0_wearsLeftOf_X0_isThing : GoodIn wsX0_wearsLeftOf wsX0_isThing := goodIn_r _ [6, 7, 8, 9, 10, 11, 12, 13, 14, 15, 16, 17, 18, 19] (by decide +kernel) (by decide +kernel)
set_option maxRecDepth 20000 in
theorem gX0_wearsLeftOf_X0_isThing : GoodIn wsX0_wearsLeftOf (wsV RX0 64 RX0 yX0_isThing wsX0_isThing) := goodIn_app (goodIn_of _ (by decide +kernel)) ggX0_wearsLeftOf_X0_isThing
theorem dX0_wearsLeftOf_0 : decode cX0_wearsLeftOf 0 = .ok (.aload_n 0, 1) := by decide +kernel
theorem dX0_wearsLeftOf_1 : decode cX0_wearsLeftOf 1 = .ok (.iload_n 1, 1) := by decide +kernel
theorem dX0_wearsLeftOf_2 : decode cX0_wearsLeftOf 2 = .ok (.invokevirtual 64, 3) := by decide +kernel
theorem dX0_wearsLeftOf_5 : decode cX0_wearsLeftOf 5 = .ok (.ifCond .eq 12, 3) := by decide +kernel
theorem dX0_wearsLeftOf_8 : decode cX0_wearsLeftOf 8 = .ok (.aload_n 0, 1) := by decide +kernel
theorem dX0_wearsLeftOf_9 : decode cX0_wearsLeftOf 9 = .ok (.getfield 25, 3) := by decide +kernel
theorem dX0_wearsLeftOf_12 : decode cX0_wearsLeftOf 12 = .ok (.iload_n 1, 1) := by decide +kernel
theorem dX0_wearsLeftOf_13 : decode cX0_wearsLeftOf 13 = .ok (.iaload, 1) := by decide +kernel
theorem dX0_wearsLeftOf_14 : decode cX0_wearsLeftOf 14 = .ok (.goto 4, 3) := by decide +kernel
theorem dX0_wearsLeftOf_17 : decode cX0_wearsLeftOf 17 = .ok (.iconst 0, 1) := by decide +kernel
theorem dX0_wearsLeftOf_18 : decode cX0_wearsLeftOf 18 = .ok (.ireturn, 1) := by decide +kernel
set_option maxRecDepth 20000 in
theorem ggX0_warmthOf_X0_isThing : GoodIn wsX0_warmthOf wsX0_isThing := goodIn_r _ [6, 7, 8, 9, 10, 11, 12, 13, 14, 15, 16, 17, 18, 19] (by decide +kernel) (by decide +kernel)
set_option maxRecDepth 20000 in
theorem gX0_warmthOf_X0_isThing : GoodIn wsX0_warmthOf (wsV RX0 64 RX0 yX0_isThing wsX0_isThing) := goodIn_app (goodIn_of _ (by decide +kernel)) ggX0_warmthOf_X0_isThing
theorem dX0_warmthOf_0 : decode cX0_warmthOf 0 = .ok (.aload_n 0, 1) := by decide +kernel
theorem dX0_warmthOf_1 : decode cX0_warmthOf 1 = .ok (.iload_n 1, 1) := by decide +kernel
theorem dX0_warmthOf_2 : decode cX0_warmthOf 2 = .ok (.invokevirtual 64, 3) := by decide +kernel
theorem dX0_warmthOf_5 : decode cX0_warmthOf 5 = .ok (.ifCond .eq 12, 3) := by decide +kernel
theorem dX0_warmthOf_8 : decode cX0_warmthOf 8 = .ok (.aload_n 0, 1) := by decide +kernel
theorem dX0_warmthOf_9 : decode cX0_warmthOf 9 = .ok (.getfield 16, 3) := by decide +kernel
theorem dX0_warmthOf_12 : decode cX0_warmthOf 12 = .ok (.iload_n 1, 1) := by decide +kernel
theorem dX0_warmthOf_13 : decode cX0_warmthOf 13 = .ok (.iaload, 1) := by decide +kernel
theorem dX0_warmthOf_14 : decode cX0_warmthOf 14 = .ok (.goto 4, 3) := by decide +kernel
theorem dX0_warmthOf_17 : decode cX0_warmthOf 17 = .ok (.iconst 0, 1) := by decide +kernel
theorem dX0_warmthOf_18 : decode cX0_warmthOf 18 = .ok (.ireturn, 1) := by decide +kernel
set_option maxRecDepth 20000 in
theorem ggX0_isCleanOfKind_X0_isThing : GoodIn wsX0_isCleanOfKind wsX0_isThing := goodIn_r _ [7, 8, 9, 10, 11, 12, 13, 14, 15, 16, 17, 18, 19, 20] (by decide +kernel) (by decide +kernel)
set_option maxRecDepth 20000 in
theorem gX0_isCleanOfKind_X0_isThing : GoodIn wsX0_isCleanOfKind (wsV RX0 64 RX0 yX0_isThing wsX0_isThing) := goodIn_app (goodIn_of _ (by decide +kernel)) ggX0_isCleanOfKind_X0_isThing
theorem dX0_isCleanOfKind_0 : decode cX0_isCleanOfKind 0 = .ok (.aload_n 0, 1) := by decide +kernel
theorem dX0_isCleanOfKind_1 : decode cX0_isCleanOfKind 1 = .ok (.iload_n 1, 1) := by decide +kernel
theorem dX0_isCleanOfKind_2 : decode cX0_isCleanOfKind 2 = .ok (.invokevirtual 64, 3) := by decide +kernel
theorem dX0_isCleanOfKind_5 : decode cX0_isCleanOfKind 5 = .ok (.ifCond .eq 26, 3) := by decide +kernel
theorem dX0_isCleanOfKind_8 : decode cX0_isCleanOfKind 8 = .ok (.aload_n 0, 1) := by decide +kernel
theorem dX0_isCleanOfKind_9 : decode cX0_isCleanOfKind 9 = .ok (.getfield 9, 3) := by decide +kernel
theorem dX0_isCleanOfKind_12 : decode cX0_isCleanOfKind 12 = .ok (.iload_n 1, 1) := by decide +kernel
theorem dX0_isCleanOfKind_13 : decode cX0_isCleanOfKind 13 = .ok (.iaload, 1) := by decide +kernel
theorem dX0_isCleanOfKind_14 : decode cX0_isCleanOfKind 14 = .ok (.iload_n 2, 1) := by decide +kernel
theorem dX0_isCleanOfKind_15 : decode cX0_isCleanOfKind 15 = .ok (.if_icmp .ne 16, 3) := by decide +kernel
theorem dX0_isCleanOfKind_18 : decode cX0_isCleanOfKind 18 = .ok (.aload_n 0, 1) := by decide +kernel
theorem dX0_isCleanOfKind_19 : decode cX0_isCleanOfKind 19 = .ok (.getfield 25, 3) := by decide +kernel
theorem dX0_isCleanOfKind_22 : decode cX0_isCleanOfKind 22 = .ok (.iload_n 1, 1) := by decide +kernel
theorem dX0_isCleanOfKind_23 : decode cX0_isCleanOfKind 23 = .ok (.iaload, 1) := by decide +kernel
theorem dX0_isCleanOfKind_24 : decode cX0_isCleanOfKind 24 = .ok (.ifCond .le 7, 3) := by decide +kernel
theorem dX0_isCleanOfKind_27 : decode cX0_isCleanOfKind 27 = .ok (.iconst 1, 1) := by decide +kernel
theorem dX0_isCleanOfKind_28 : decode cX0_isCleanOfKind 28 = .ok (.goto 4, 3) := by decide +kernel
theorem dX0_isCleanOfKind_31 : decode cX0_isCleanOfKind 31 = .ok (.iconst 0, 1) := by decide +kernel
theorem dX0_isCleanOfKind_32 : decode cX0_isCleanOfKind 32 = .ok (.ireturn, 1) := by decide +kernel
set_option maxRecDepth 20000 in
theorem ggX0_wearOnce_X0_wearsLeftOf : GoodIn wsX0_wearOnce wsX0_wearsLeftOf := goodIn_r _ [6, 1, 7, 8, 9, 5, 10, 11, 12, 13, 14, 15, 16, 17, 18, 19, 20, 21, 22, 23] (by decide +kernel) (by decide +kernel)
set_option maxRecDepth 20000 in
theorem gX0_wearOnce_X0_wearsLeftOf : GoodIn wsX0_wearOnce (wsV RX0 150 RX0 yX0_wearsLeftOf wsX0_wearsLeftOf) := goodIn_app (goodIn_of _ (by decide +kernel)) ggX0_wearOnce_X0_wearsLeftOf
theorem dX0_wearOnce_0 : decode cX0_wearOnce 0 = .ok (.aload_n 0, 1) := by decide +kernel
theorem dX0_wearOnce_1 : decode cX0_wearOnce 1 = .ok (.iload_n 1, 1) := by decide +kernel
theorem dX0_wearOnce_2 : decode cX0_wearOnce 2 = .ok (.invokevirtual 150, 3) := by decide +kernel
theorem dX0_wearOnce_5 : decode cX0_wearOnce 5 = .ok (.ifCond .le 13, 3) := by decide +kernel
theorem dX0_wearOnce_8 : decode cX0_wearOnce 8 = .ok (.aload_n 0, 1) := by decide +kernel
theorem dX0_wearOnce_9 : decode cX0_wearOnce 9 = .ok (.getfield 25, 3) := by decide +kernel
theorem dX0_wearOnce_12 : decode cX0_wearOnce 12 = .ok (.iload_n 1, 1) := by decide +kernel
theorem dX0_wearOnce_13 : decode cX0_wearOnce 13 = .ok (.dup2, 1) := by decide +kernel
theorem dX0_wearOnce_14 : decode cX0_wearOnce 14 = .ok (.iaload, 1) := by decide +kernel
theorem dX0_wearOnce_15 : decode cX0_wearOnce 15 = .ok (.iconst 1, 1) := by decide +kernel
theorem dX0_wearOnce_16 : decode cX0_wearOnce 16 = .ok (.isub, 1) := by decide +kernel
theorem dX0_wearOnce_17 : decode cX0_wearOnce 17 = .ok (.iastore, 1) := by decide +kernel
theorem dX0_wearOnce_18 : decode cX0_wearOnce 18 = .ok (.return_, 1) := by decide +kernel
set_option maxRecDepth 20000 in
theorem ggX0_makeClean_X0_isThing : GoodIn wsX0_makeClean wsX0_isThing := goodIn_r _ [7, 8, 9, 10, 11, 12, 13, 14, 15, 16, 17, 18, 19, 20] (by decide +kernel) (by decide +kernel)
set_option maxRecDepth 20000 in
theorem gX0_makeClean_X0_isThing : GoodIn wsX0_makeClean (wsV RX0 64 RX0 yX0_isThing wsX0_isThing) := goodIn_app (goodIn_of _ (by decide +kernel)) ggX0_makeClean_X0_isThing
theorem dX0_makeClean_0 : decode cX0_makeClean 0 = .ok (.aload_n 0, 1) := by decide +kernel
theorem dX0_makeClean_1 : decode cX0_makeClean 1 = .ok (.iload_n 1, 1) := by decide +kernel
theorem dX0_makeClean_2 : decode cX0_makeClean 2 = .ok (.invokevirtual 64, 3) := by decide +kernel
theorem dX0_makeClean_5 : decode cX0_makeClean 5 = .ok (.ifCond .eq 15, 3) := by decide +kernel
theorem dX0_makeClean_8 : decode cX0_makeClean 8 = .ok (.aload_n 0, 1) := by decide +kernel
theorem dX0_makeClean_9 : decode cX0_makeClean 9 = .ok (.getfield 25, 3) := by decide +kernel
theorem dX0_makeClean_12 : decode cX0_makeClean 12 = .ok (.iload_n 1, 1) := by decide +kernel
theorem dX0_makeClean_13 : decode cX0_makeClean 13 = .ok (.aload_n 0, 1) := by decide +kernel
theorem dX0_makeClean_14 : decode cX0_makeClean 14 = .ok (.getfield 19, 3) := by decide +kernel
theorem dX0_makeClean_17 : decode cX0_makeClean 17 = .ok (.iload_n 1, 1) := by decide +kernel
theorem dX0_makeClean_18 : decode cX0_makeClean 18 = .ok (.iaload, 1) := by decide +kernel
theorem dX0_makeClean_19 : decode cX0_makeClean 19 = .ok (.iastore, 1) := by decide +kernel
theorem dX0_makeClean_20 : decode cX0_makeClean 20 = .ok (.return_, 1) := by decide +kernel
theorem dX0_clashBit_0 : decode cX0_clashBit 0 = .ok (.lconst 1, 1) := by decide +kernel
theorem dX0_clashBit_1 : decode cX0_clashBit 1 = .ok (.bipush 8, 2) := by decide +kernel
theorem dX0_clashBit_3 : decode cX0_clashBit 3 = .ok (.iload_n 0, 1) := by decide +kernel
theorem dX0_clashBit_4 : decode cX0_clashBit 4 = .ok (.imul, 1) := by decide +kernel
theorem dX0_clashBit_5 : decode cX0_clashBit 5 = .ok (.iload_n 1, 1) := by decide +kernel
theorem dX0_clashBit_6 : decode cX0_clashBit 6 = .ok (.iadd, 1) := by decide +kernel
theorem dX0_clashBit_7 : decode cX0_clashBit 7 = .ok (.lshl, 1) := by decide +kernel
theorem dX0_clashBit_8 : decode cX0_clashBit 8 = .ok (.lreturn, 1) := by decide +kernel
set_option maxRecDepth 20000 in
theorem ggX0_coloursClash_X0_clashBit : GoodIn wsX0_coloursClash wsX0_clashBit := goodIn_r _ [5] (by decide +kernel) (by decide +kernel)
set_option maxRecDepth 20000 in
theorem gX0_coloursClash_X0_clashBit : GoodIn wsX0_coloursClash (va_wsS RX0 84 yX0_clashBit wsX0_clashBit) := goodIn_app (goodIn_of _ (by decide +kernel)) ggX0_coloursClash_X0_clashBit
theorem dX0_coloursClash_0 : decode cX0_coloursClash 0 = .ok (.aload_n 0, 1) := by decide +kernel
theorem dX0_coloursClash_1 : decode cX0_coloursClash 1 = .ok (.getfield 88, 3) := by decide +kernel
theorem dX0_coloursClash_4 : decode cX0_coloursClash 4 = .ok (.iload_n 1, 1) := by decide +kernel
theorem dX0_coloursClash_5 : decode cX0_coloursClash 5 = .ok (.iload_n 2, 1) := by decide +kernel
theorem dX0_coloursClash_6 : decode cX0_coloursClash 6 = .ok (.invokestatic 84, 3) := by decide +kernel
theorem dX0_coloursClash_9 : decode cX0_coloursClash 9 = .ok (.land, 1) := by decide +kernel
theorem dX0_coloursClash_10 : decode cX0_coloursClash 10 = .ok (.lconst 0, 1) := by decide +kernel
theorem dX0_coloursClash_11 : decode cX0_coloursClash 11 = .ok (.lcmp, 1) := by decide +kernel
theorem dX0_coloursClash_12 : decode cX0_coloursClash 12 = .ok (.ifCond .eq 7, 3) := by decide +kernel
theorem dX0_coloursClash_15 : decode cX0_coloursClash 15 = .ok (.iconst 1, 1) := by decide +kernel
theorem dX0_coloursClash_16 : decode cX0_coloursClash 16 = .ok (.goto 4, 3) := by decide +kernel
theorem dX0_coloursClash_19 : decode cX0_coloursClash 19 = .ok (.iconst 0, 1) := by decide +kernel
theorem dX0_coloursClash_20 : decode cX0_coloursClash 20 = .ok (.ireturn, 1) := by decide +kernel
set_option maxRecDepth 20000 in
theorem ggX0_doClash_X0_isThing : GoodIn wsX0_doClash wsX0_isThing := goodIn_r _ [6, 7, 16, 17, 18, 19, 20, 21, 22, 23, 24, 25, 26, 27] (by decide +kernel) (by decide +kernel)
set_option maxRecDepth 20000 in
theorem gX0_doClash_X0_isThing : GoodIn wsX0_doClash (wsV RX0 64 RX0 yX0_isThing wsX0_isThing) := goodIn_app (goodIn_of _ (by decide +kernel)) ggX0_doClash_X0_isThing
set_option maxRecDepth 20000 in
theorem ggX0_doClash_X0_coloursClash : GoodIn wsX0_doClash wsX0_coloursClash := goodIn_r _ [11, 12, 13, 14, 5, 15, 16, 17, 18, 19, 20, 21, 22, 23, 24, 25, 26, 27] (by decide +kernel) (by decide +kernel)
set_option maxRecDepth 20000 in
theorem gX0_doClash_X0_coloursClash : GoodIn wsX0_doClash (wsV RX0 80 RX0 yX0_coloursClash wsX0_coloursClash) := goodIn_app (goodIn_of _ (by decide +kernel)) ggX0_doClash_X0_coloursClash
theorem dX0_doClash_0 : decode cX0_doClash 0 = .ok (.aload_n 0, 1) := by decide +kernel
theorem dX0_doClash_1 : decode cX0_doClash 1 = .ok (.iload_n 1, 1) := by decide +kernel
theorem dX0_doClash_2 : decode cX0_doClash 2 = .ok (.invokevirtual 64, 3) := by decide +kernel
theorem dX0_doClash_5 : decode cX0_doClash 5 = .ok (.ifCond .eq 34, 3) := by decide +kernel
theorem dX0_doClash_8 : decode cX0_doClash 8 = .ok (.aload_n 0, 1) := by decide +kernel
theorem dX0_doClash_9 : decode cX0_doClash 9 = .ok (.iload_n 2, 1) := by decide +kernel
theorem dX0_doClash_10 : decode cX0_doClash 10 = .ok (.invokevirtual 64, 3) := by decide +kernel
theorem dX0_doClash_13 : decode cX0_doClash 13 = .ok (.ifCond .eq 26, 3) := by decide +kernel
theorem dX0_doClash_16 : decode cX0_doClash 16 = .ok (.aload_n 0, 1) := by decide +kernel
theorem dX0_doClash_17 : decode cX0_doClash 17 = .ok (.aload_n 0, 1) := by decide +kernel
theorem dX0_doClash_18 : decode cX0_doClash 18 = .ok (.getfield 13, 3) := by decide +kernel
theorem dX0_doClash_21 : decode cX0_doClash 21 = .ok (.iload_n 1, 1) := by decide +kernel
theorem dX0_doClash_22 : decode cX0_doClash 22 = .ok (.iaload, 1) := by decide +kernel
theorem dX0_doClash_23 : decode cX0_doClash 23 = .ok (.aload_n 0, 1) := by decide +kernel
theorem dX0_doClash_24 : decode cX0_doClash 24 = .ok (.getfield 13, 3) := by decide +kernel
theorem dX0_doClash_27 : decode cX0_doClash 27 = .ok (.iload_n 2, 1) := by decide +kernel
theorem dX0_doClash_28 : decode cX0_doClash 28 = .ok (.iaload, 1) := by decide +kernel
theorem dX0_doClash_29 : decode cX0_doClash 29 = .ok (.invokevirtual 80, 3) := by decide +kernel
theorem dX0_doClash_32 : decode cX0_doClash 32 = .ok (.ifCond .eq 7, 3) := by decide +kernel
theorem dX0_doClash_35 : decode cX0_doClash 35 = .ok (.iconst 1, 1) := by decide +kernel
theorem dX0_doClash_36 : decode cX0_doClash 36 = .ok (.goto 4, 3) := by decide +kernel
theorem dX0_doClash_39 : decode cX0_doClash 39 = .ok (.iconst 0, 1) := by decide +kernel
theorem dX0_doClash_40 : decode cX0_doClash 40 = .ok (.ireturn, 1) := by decide +kernel
set_option maxRecDepth 20000 in
theorem ggX0_canBeWorn_X0_isCleanOfKind : GoodIn wsX0_canBeWorn wsX0_isCleanOfKind := goodIn_r _ [5, 6, 7, 8, 9, 10, 4, 11, 12, 30, 31, 32, 33, 34, 35, 36, 37, 38, 39, 40, 41] (by decide +kernel) (by decide +kernel)
set_option maxRecDepth 20000 in
theorem gX0_canBeWorn_X0_isCleanOfKind : GoodIn wsX0_canBeWorn (wsV RX0 194 RX0 yX0_isCleanOfKind wsX0_isCleanOfKind) := goodIn_app (goodIn_of _ (by decide +kernel)) ggX0_canBeWorn_X0_isCleanOfKind
set_option maxRecDepth 20000 in
theorem ggX0_canBeWorn_X0_doClash : GoodIn wsX0_canBeWorn wsX0_doClash := goodIn_r _ [16, 17, 8, 9, 10, 4, 11, 12, 18, 19, 20, 21, 22, 23, 24, 25, 30, 31, 32, 33, 34, 35, 36, 37, 38, 39, 40, 41] (by decide +kernel) (by decide +kernel)
set_option maxRecDepth 20000 in
theorem gX0_canBeWorn_X0_doClash : GoodIn wsX0_canBeWorn (wsV RX0 197 RX0 yX0_doClash wsX0_doClash) := goodIn_app (goodIn_of _ (by decide +kernel)) ggX0_canBeWorn_X0_doClash
set_option maxRecDepth 20000 in
theorem ggX0_canBeWorn_X0_fitsOver : GoodIn wsX0_canBeWorn wsX0_fitsOver := goodIn_r _ [29, 1, 2, 3, 4, 5, 6, 7, 8, 9, 10, 11, 12, 13, 14, 15, 16, 17, 18, 19, 20, 21, 22, 23, 24, 25, 30, 31, 32, 33, 34, 35, 36, 37, 38, 39, 40, 41] (by decide +kernel) (by decide +kernel)
set_option maxRecDepth 20000 in
theorem gX0_canBeWorn_X0_fitsOver : GoodIn wsX0_canBeWorn (wsV RX0 200 RX0 yX0_fitsOver wsX0_fitsOver) := goodIn_app (goodIn_of _ (by decide +kernel)) ggX0_canBeWorn_X0_fitsOver
theorem dX0_canBeWorn_0 : decode cX0_canBeWorn 0 = .ok (.aload_n 0, 1) := by decide +kernel
theorem dX0_canBeWorn_1 : decode cX0_canBeWorn 1 = .ok (.iload_n 1, 1) := by decide +kernel
theorem dX0_canBeWorn_2 : decode cX0_canBeWorn 2 = .ok (.iconst 0, 1) := by decide +kernel
theorem dX0_canBeWorn_3 : decode cX0_canBeWorn 3 = .ok (.invokevirtual 194, 3) := by decide +kernel
theorem dX0_canBeWorn_6 : decode cX0_canBeWorn 6 = .ok (.ifCond .eq 40, 3) := by decide +kernel
theorem dX0_canBeWorn_9 : decode cX0_canBeWorn 9 = .ok (.aload_n 0, 1) := by decide +kernel
theorem dX0_canBeWorn_10 : decode cX0_canBeWorn 10 = .ok (.iload_n 2, 1) := by decide +kernel
theorem dX0_canBeWorn_11 : decode cX0_canBeWorn 11 = .ok (.iconst 1, 1) := by decide +kernel
theorem dX0_canBeWorn_12 : decode cX0_canBeWorn 12 = .ok (.invokevirtual 194, 3) := by decide +kernel
theorem dX0_canBeWorn_15 : decode cX0_canBeWorn 15 = .ok (.ifCond .eq 31, 3) := by decide +kernel
theorem dX0_canBeWorn_18 : decode cX0_canBeWorn 18 = .ok (.aload_n 0, 1) := by decide +kernel
theorem dX0_canBeWorn_19 : decode cX0_canBeWorn 19 = .ok (.iload_n 1, 1) := by decide +kernel
theorem dX0_canBeWorn_20 : decode cX0_canBeWorn 20 = .ok (.iload_n 2, 1) := by decide +kernel
theorem dX0_canBeWorn_21 : decode cX0_canBeWorn 21 = .ok (.invokevirtual 197, 3) := by decide +kernel
theorem dX0_canBeWorn_24 : decode cX0_canBeWorn 24 = .ok (.ifCond .ne 22, 3) := by decide +kernel
theorem dX0_canBeWorn_27 : decode cX0_canBeWorn 27 = .ok (.iload_n 3, 1) := by decide +kernel
theorem dX0_canBeWorn_28 : decode cX0_canBeWorn 28 = .ok (.iconst (-1), 1) := by decide +kernel
theorem dX0_canBeWorn_29 : decode cX0_canBeWorn 29 = .ok (.if_icmp .eq 13, 3) := by decide +kernel
theorem dX0_canBeWorn_32 : decode cX0_canBeWorn 32 = .ok (.aload_n 0, 1) := by decide +kernel
theorem dX0_canBeWorn_33 : decode cX0_canBeWorn 33 = .ok (.iload_n 3, 1) := by decide +kernel
theorem dX0_canBeWorn_34 : decode cX0_canBeWorn 34 = .ok (.iload_n 1, 1) := by decide +kernel
theorem dX0_canBeWorn_35 : decode cX0_canBeWorn 35 = .ok (.iload_n 2, 1) := by decide +kernel
theorem dX0_canBeWorn_36 : decode cX0_canBeWorn 36 = .ok (.invokevirtual 200, 3) := by decide +kernel
theorem dX0_canBeWorn_39 : decode cX0_canBeWorn 39 = .ok (.ifCond .eq 7, 3) := by decide +kernel
theorem dX0_canBeWorn_42 : decode cX0_canBeWorn 42 = .ok (.iconst 1, 1) := by decide +kernel
theorem dX0_canBeWorn_43 : decode cX0_canBeWorn 43 = .ok (.goto 4, 3) := by decide +kernel
theorem dX0_canBeWorn_46 : decode cX0_canBeWorn 46 = .ok (.iconst 0, 1) := by decide +kernel
theorem dX0_canBeWorn_47 : decode cX0_canBeWorn 47 = .ok (.ireturn, 1) := by decide +kernel
set_option maxRecDepth 20000 in
theorem ggX0_fitsOver_X0_isCleanOfKind : GoodIn wsX0_fitsOver wsX0_isCleanOfKind := goodIn_r _ [5, 6, 7, 8, 9, 10, 4, 11, 12, 26, 27, 28, 29, 30, 31, 32, 33, 34, 35, 36, 37] (by decide +kernel) (by decide +kernel)
set_option maxRecDepth 20000 in
theorem gX0_fitsOver_X0_isCleanOfKind : GoodIn wsX0_fitsOver (wsV RX0 194 RX0 yX0_isCleanOfKind wsX0_isCleanOfKind) := goodIn_app (goodIn_of _ (by decide +kernel)) ggX0_fitsOver_X0_isCleanOfKind
set_option maxRecDepth 20000 in
theorem ggX0_fitsOver_X0_doClash : GoodIn wsX0_fitsOver wsX0_doClash := goodIn_r _ [16, 17, 8, 9, 10, 4, 11, 12, 18, 19, 20, 21, 22, 23, 24, 25, 26, 27, 28, 29, 30, 31, 32, 33, 34, 35, 36, 37] (by decide +kernel) (by decide +kernel)
set_option maxRecDepth 20000 in
theorem gX0_fitsOver_X0_doClash : GoodIn wsX0_fitsOver (wsV RX0 197 RX0 yX0_doClash wsX0_doClash) := goodIn_app (goodIn_of _ (by decide +kernel)) ggX0_fitsOver_X0_doClash
theorem dX0_fitsOver_0 : decode cX0_fitsOver 0 = .ok (.aload_n 0, 1) := by decide +kernel
theorem dX0_fitsOver_1 : decode cX0_fitsOver 1 = .ok (.iload_n 1, 1) := by decide +kernel
theorem dX0_fitsOver_2 : decode cX0_fitsOver 2 = .ok (.iconst 2, 1) := by decide +kernel
theorem dX0_fitsOver_3 : decode cX0_fitsOver 3 = .ok (.invokevirtual 194, 3) := by decide +kernel
theorem dX0_fitsOver_6 : decode cX0_fitsOver 6 = .ok (.ifCond .eq 25, 3) := by decide +kernel
theorem dX0_fitsOver_9 : decode cX0_fitsOver 9 = .ok (.aload_n 0, 1) := by decide +kernel
theorem dX0_fitsOver_10 : decode cX0_fitsOver 10 = .ok (.iload_n 1, 1) := by decide +kernel
theorem dX0_fitsOver_11 : decode cX0_fitsOver 11 = .ok (.iload_n 2, 1) := by decide +kernel
theorem dX0_fitsOver_12 : decode cX0_fitsOver 12 = .ok (.invokevirtual 197, 3) := by decide +kernel
theorem dX0_fitsOver_15 : decode cX0_fitsOver 15 = .ok (.ifCond .ne 16, 3) := by decide +kernel
theorem dX0_fitsOver_18 : decode cX0_fitsOver 18 = .ok (.aload_n 0, 1) := by decide +kernel
theorem dX0_fitsOver_19 : decode cX0_fitsOver 19 = .ok (.iload_n 1, 1) := by decide +kernel
theorem dX0_fitsOver_20 : decode cX0_fitsOver 20 = .ok (.iload_n 3, 1) := by decide +kernel
theorem dX0_fitsOver_21 : decode cX0_fitsOver 21 = .ok (.invokevirtual 197, 3) := by decide +kernel
theorem dX0_fitsOver_24 : decode cX0_fitsOver 24 = .ok (.ifCond .ne 7, 3) := by decide +kernel
theorem dX0_fitsOver_27 : decode cX0_fitsOver 27 = .ok (.iconst 1, 1) := by decide +kernel
theorem dX0_fitsOver_28 : decode cX0_fitsOver 28 = .ok (.goto 4, 3) := by decide +kernel
theorem dX0_fitsOver_31 : decode cX0_fitsOver 31 = .ok (.iconst 0, 1) := by decide +kernel
theorem dX0_fitsOver_32 : decode cX0_fitsOver 32 = .ok (.ireturn, 1) := by decide +kernel
set_option maxRecDepth 20000 in
theorem ggX0_outfitWarmth_X0_warmthOf : GoodIn wsX0_outfitWarmth wsX0_warmthOf := goodIn_r _ [5, 6, 7, 8, 9, 4, 10, 11, 12, 13, 14, 15, 16, 17, 18, 19, 20, 21, 22, 23] (by decide +kernel) (by decide +kernel)
set_option maxRecDepth 20000 in
theorem gX0_outfitWarmth_X0_warmthOf : GoodIn wsX0_outfitWarmth (wsV RX0 203 RX0 yX0_warmthOf wsX0_warmthOf) := goodIn_app (goodIn_of _ (by decide +kernel)) ggX0_outfitWarmth_X0_warmthOf
theorem dX0_outfitWarmth_0 : decode cX0_outfitWarmth 0 = .ok (.aload_n 0, 1) := by decide +kernel
theorem dX0_outfitWarmth_1 : decode cX0_outfitWarmth 1 = .ok (.iload_n 1, 1) := by decide +kernel
theorem dX0_outfitWarmth_2 : decode cX0_outfitWarmth 2 = .ok (.invokevirtual 203, 3) := by decide +kernel
theorem dX0_outfitWarmth_5 : decode cX0_outfitWarmth 5 = .ok (.aload_n 0, 1) := by decide +kernel
theorem dX0_outfitWarmth_6 : decode cX0_outfitWarmth 6 = .ok (.iload_n 2, 1) := by decide +kernel
theorem dX0_outfitWarmth_7 : decode cX0_outfitWarmth 7 = .ok (.invokevirtual 203, 3) := by decide +kernel
theorem dX0_outfitWarmth_10 : decode cX0_outfitWarmth 10 = .ok (.iadd, 1) := by decide +kernel
theorem dX0_outfitWarmth_11 : decode cX0_outfitWarmth 11 = .ok (.aload_n 0, 1) := by decide +kernel
theorem dX0_outfitWarmth_12 : decode cX0_outfitWarmth 12 = .ok (.iload_n 3, 1) := by decide +kernel
theorem dX0_outfitWarmth_13 : decode cX0_outfitWarmth 13 = .ok (.invokevirtual 203, 3) := by decide +kernel
theorem dX0_outfitWarmth_16 : decode cX0_outfitWarmth 16 = .ok (.iadd, 1) := by decide +kernel
theorem dX0_outfitWarmth_17 : decode cX0_outfitWarmth 17 = .ok (.ireturn, 1) := by decide +kernel
set_option maxRecDepth 20000 in
theorem ggX0_isWarmOutfit_X0_outfitWarmth : GoodIn wsX0_isWarmOutfit wsX0_outfitWarmth := goodIn_r _ [5, 6, 7, 8, 4, 9, 10, 11, 12, 13, 14, 15, 43, 44, 45, 46, 47, 48, 49, 50, 51, 52, 53, 54] (by decide +kernel) (by decide +kernel)
set_option maxRecDepth 20000 in
theorem gX0_isWarmOutfit_X0_outfitWarmth : GoodIn wsX0_isWarmOutfit (wsV RX0 123 RX0 yX0_outfitWarmth wsX0_outfitWarmth) := goodIn_app (goodIn_of _ (by decide +kernel)) ggX0_isWarmOutfit_X0_outfitWarmth
set_option maxRecDepth 20000 in
theorem ggX0_isWarmOutfit_X0_canBeWorn : GoodIn wsX0_isWarmOutfit wsX0_canBeWorn := goodIn_r _ [19, 20, 21, 22, 4, 23, 24, 25, 11, 12, 13, 14, 15, 26, 27, 28, 29, 30, 31, 32, 33, 34, 35, 36, 37, 38, 39, 40, 41, 42, 43, 44, 45, 46, 47, 48, 49, 50, 51, 52, 53, 54] (by decide +kernel) (by decide +kernel)
set_option maxRecDepth 20000 in
theorem gX0_isWarmOutfit_X0_canBeWorn : GoodIn wsX0_isWarmOutfit (wsV RX0 102 RX0 yX0_canBeWorn wsX0_canBeWorn) := goodIn_app (goodIn_of _ (by decide +kernel)) ggX0_isWarmOutfit_X0_canBeWorn
theorem dX0_isWarmOutfit_0 : decode cX0_isWarmOutfit 0 = .ok (.aload_n 0, 1) := by decide +kernel
theorem dX0_isWarmOutfit_1 : decode cX0_isWarmOutfit 1 = .ok (.iload_n 1, 1) := by decide +kernel
theorem dX0_isWarmOutfit_2 : decode cX0_isWarmOutfit 2 = .ok (.iload_n 2, 1) := by decide +kernel
theorem dX0_isWarmOutfit_3 : decode cX0_isWarmOutfit 3 = .ok (.iload_n 3, 1) := by decide +kernel
theorem dX0_isWarmOutfit_4 : decode cX0_isWarmOutfit 4 = .ok (.invokevirtual 123, 3) := by decide +kernel
theorem dX0_isWarmOutfit_7 : decode cX0_isWarmOutfit 7 = .ok (.iload 4, 2) := by decide +kernel
theorem dX0_isWarmOutfit_9 : decode cX0_isWarmOutfit 9 = .ok (.if_icmp .lt 17, 3) := by decide +kernel
theorem dX0_isWarmOutfit_12 : decode cX0_isWarmOutfit 12 = .ok (.aload_n 0, 1) := by decide +kernel
theorem dX0_isWarmOutfit_13 : decode cX0_isWarmOutfit 13 = .ok (.iload_n 1, 1) := by decide +kernel
theorem dX0_isWarmOutfit_14 : decode cX0_isWarmOutfit 14 = .ok (.iload_n 2, 1) := by decide +kernel
theorem dX0_isWarmOutfit_15 : decode cX0_isWarmOutfit 15 = .ok (.iload_n 3, 1) := by decide +kernel
theorem dX0_isWarmOutfit_16 : decode cX0_isWarmOutfit 16 = .ok (.invokevirtual 102, 3) := by decide +kernel
theorem dX0_isWarmOutfit_19 : decode cX0_isWarmOutfit 19 = .ok (.ifCond .eq 7, 3) := by decide +kernel
theorem dX0_isWarmOutfit_22 : decode cX0_isWarmOutfit 22 = .ok (.iconst 1, 1) := by decide +kernel
theorem dX0_isWarmOutfit_23 : decode cX0_isWarmOutfit 23 = .ok (.goto 4, 3) := by decide +kernel
theorem dX0_isWarmOutfit_26 : decode cX0_isWarmOutfit 26 = .ok (.iconst 0, 1) := by decide +kernel
theorem dX0_isWarmOutfit_27 : decode cX0_isWarmOutfit 27 = .ok (.ireturn, 1) := by decide +kernel
set_option maxRecDepth 20000 in
theorem ggX0_countOutfitsOf_X0_canBeWorn : GoodIn wsX0_countOutfitsOf wsX0_canBeWorn := goodIn_r _ [6, 7, 8, 9, 5, 10, 11, 12, 13, 14, 15, 16, 17, 18, 19, 20, 21, 22, 23, 24, 25, 26, 27, 28, 29, 30, 31, 32, 33, 34, 48, 49, 50, 51, 52, 53, 54, 55, 56, 57, 58, 59] (by decide +kernel) (by decide +kernel)
set_option maxRecDepth 20000 in
theorem gX0_countOutfitsOf_X0_canBeWorn : GoodIn wsX0_countOutfitsOf (wsV RX0 102 RX0 yX0_canBeWorn wsX0_canBeWorn) := goodIn_app (goodIn_of _ (by decide +kernel)) ggX0_countOutfitsOf_X0_canBeWorn
set_option maxRecDepth 20000 in
theorem ggX0_countOutfitsOf_X0_isWarmOutfit : GoodIn wsX0_countOutfitsOf wsX0_isWarmOutfit := goodIn_r _ [38, 39, 40, 41, 5, 42, 43, 44, 45, 46, 47, 13, 14, 15, 16, 17, 2, 3, 4, 6, 7, 8, 9, 10, 11, 12, 18, 19, 20, 21, 22, 23, 24, 25, 26, 27, 28, 29, 30, 31, 32, 33, 34, 48, 49, 50, 51, 52, 53, 54, 55, 56, 57, 58, 59] (by decide +kernel) (by decide +kernel)
set_option maxRecDepth 20000 in
theorem gX0_countOutfitsOf_X0_isWarmOutfit : GoodIn wsX0_countOutfitsOf (wsV RX0 135 RX0 yX0_isWarmOutfit wsX0_isWarmOutfit) := goodIn_app (goodIn_of _ (by decide +kernel)) ggX0_countOutfitsOf_X0_isWarmOutfit
theorem dX0_countOutfitsOf_0 : decode cX0_countOutfitsOf 0 = .ok (.aload_n 0, 1) := by decide +kernel
theorem dX0_countOutfitsOf_1 : decode cX0_countOutfitsOf 1 = .ok (.iload_n 1, 1) := by decide +kernel
theorem dX0_countOutfitsOf_2 : decode cX0_countOutfitsOf 2 = .ok (.iload_n 2, 1) := by decide +kernel
theorem dX0_countOutfitsOf_3 : decode cX0_countOutfitsOf 3 = .ok (.iconst (-1), 1) := by decide +kernel
theorem dX0_countOutfitsOf_4 : decode cX0_countOutfitsOf 4 = .ok (.invokevirtual 102, 3) := by decide +kernel
theorem dX0_countOutfitsOf_7 : decode cX0_countOutfitsOf 7 = .ok (.ifCond .ne 5, 3) := by decide +kernel
theorem dX0_countOutfitsOf_10 : decode cX0_countOutfitsOf 10 = .ok (.iconst 0, 1) := by decide +kernel
theorem dX0_countOutfitsOf_11 : decode cX0_countOutfitsOf 11 = .ok (.ireturn, 1) := by decide +kernel
theorem dX0_countOutfitsOf_12 : decode cX0_countOutfitsOf 12 = .ok (.iconst 0, 1) := by decide +kernel
theorem dX0_countOutfitsOf_13 : decode cX0_countOutfitsOf 13 = .ok (.istore 4, 2) := by decide +kernel
theorem dX0_countOutfitsOf_15 : decode cX0_countOutfitsOf 15 = .ok (.iconst (-1), 1) := by decide +kernel
theorem dX0_countOutfitsOf_16 : decode cX0_countOutfitsOf 16 = .ok (.istore 5, 2) := by decide +kernel
theorem dX0_countOutfitsOf_18 : decode cX0_countOutfitsOf 18 = .ok (.iload 5, 2) := by decide +kernel
theorem dX0_countOutfitsOf_20 : decode cX0_countOutfitsOf 20 = .ok (.aload_n 0, 1) := by decide +kernel
theorem dX0_countOutfitsOf_21 : decode cX0_countOutfitsOf 21 = .ok (.getfield 52, 3) := by decide +kernel
theorem dX0_countOutfitsOf_24 : decode cX0_countOutfitsOf 24 = .ok (.if_icmp .ge 24, 3) := by decide +kernel
theorem dX0_countOutfitsOf_27 : decode cX0_countOutfitsOf 27 = .ok (.aload_n 0, 1) := by decide +kernel
theorem dX0_countOutfitsOf_28 : decode cX0_countOutfitsOf 28 = .ok (.iload_n 1, 1) := by decide +kernel
theorem dX0_countOutfitsOf_29 : decode cX0_countOutfitsOf 29 = .ok (.iload_n 2, 1) := by decide +kernel
theorem dX0_countOutfitsOf_30 : decode cX0_countOutfitsOf 30 = .ok (.iload 5, 2) := by decide +kernel
theorem dX0_countOutfitsOf_32 : decode cX0_countOutfitsOf 32 = .ok (.iload_n 3, 1) := by decide +kernel
theorem dX0_countOutfitsOf_33 : decode cX0_countOutfitsOf 33 = .ok (.invokevirtual 135, 3) := by decide +kernel
theorem dX0_countOutfitsOf_36 : decode cX0_countOutfitsOf 36 = .ok (.ifCond .eq 6, 3) := by decide +kernel
theorem dX0_countOutfitsOf_39 : decode cX0_countOutfitsOf 39 = .ok (.iinc 4 1, 3) := by decide +kernel
theorem dX0_countOutfitsOf_42 : decode cX0_countOutfitsOf 42 = .ok (.iinc 5 1, 3) := by decide +kernel
theorem dX0_countOutfitsOf_45 : decode cX0_countOutfitsOf 45 = .ok (.goto (-27), 3) := by decide +kernel
theorem dX0_countOutfitsOf_48 : decode cX0_countOutfitsOf 48 = .ok (.iload 4, 2) := by decide +kernel
theorem dX0_countOutfitsOf_50 : decode cX0_countOutfitsOf 50 = .ok (.ireturn, 1) := by decide +kernel
set_option maxRecDepth 20000 in
theorem ggX0_countBottomsFor_X0_isCleanOfKind : GoodIn wsX0_countBottomsFor wsX0_isCleanOfKind := goodIn_r _ [7, 8, 9, 10, 11, 12, 6, 13, 14, 23, 24, 25, 26, 27, 28, 29, 30, 31, 32, 33, 34] (by decide +kernel) (by decide +kernel)
set_option maxRecDepth 20000 in
theorem gX0_countBottomsFor_X0_isCleanOfKind : GoodIn wsX0_countBottomsFor (wsV RX0 194 RX0 yX0_isCleanOfKind wsX0_isCleanOfKind) := goodIn_app (goodIn_of _ (by decide +kernel)) ggX0_countBottomsFor_X0_isCleanOfKind
set_option maxRecDepth 20000 in
theorem ggX0_countBottomsFor_X0_coloursClash : GoodIn wsX0_countBottomsFor wsX0_coloursClash := goodIn_r _ [18, 19, 20, 21, 6, 22, 23, 24, 25, 26, 27, 28, 29, 30, 31, 32, 33, 34] (by decide +kernel) (by decide +kernel)
set_option maxRecDepth 20000 in
theorem gX0_countBottomsFor_X0_coloursClash : GoodIn wsX0_countBottomsFor (wsV RX0 80 RX0 yX0_coloursClash wsX0_coloursClash) := goodIn_app (goodIn_of _ (by decide +kernel)) ggX0_countBottomsFor_X0_coloursClash
theorem dX0_countBottomsFor_0 : decode cX0_countBottomsFor 0 = .ok (.iconst 0, 1) := by decide +kernel
theorem dX0_countBottomsFor_1 : decode cX0_countBottomsFor 1 = .ok (.istore_n 2, 1) := by decide +kernel
theorem dX0_countBottomsFor_2 : decode cX0_countBottomsFor 2 = .ok (.iconst 0, 1) := by decide +kernel
theorem dX0_countBottomsFor_3 : decode cX0_countBottomsFor 3 = .ok (.istore_n 3, 1) := by decide +kernel
theorem dX0_countBottomsFor_4 : decode cX0_countBottomsFor 4 = .ok (.iload_n 3, 1) := by decide +kernel
theorem dX0_countBottomsFor_5 : decode cX0_countBottomsFor 5 = .ok (.aload_n 0, 1) := by decide +kernel
theorem dX0_countBottomsFor_6 : decode cX0_countBottomsFor 6 = .ok (.getfield 52, 3) := by decide +kernel
theorem dX0_countBottomsFor_9 : decode cX0_countBottomsFor 9 = .ok (.if_icmp .ge 35, 3) := by decide +kernel
theorem dX0_countBottomsFor_12 : decode cX0_countBottomsFor 12 = .ok (.aload_n 0, 1) := by decide +kernel
theorem dX0_countBottomsFor_13 : decode cX0_countBottomsFor 13 = .ok (.iload_n 3, 1) := by decide +kernel
theorem dX0_countBottomsFor_14 : decode cX0_countBottomsFor 14 = .ok (.iconst 1, 1) := by decide +kernel
theorem dX0_countBottomsFor_15 : decode cX0_countBottomsFor 15 = .ok (.invokevirtual 194, 3) := by decide +kernel
theorem dX0_countBottomsFor_18 : decode cX0_countBottomsFor 18 = .ok (.ifCond .eq 20, 3) := by decide +kernel
theorem dX0_countBottomsFor_21 : decode cX0_countBottomsFor 21 = .ok (.aload_n 0, 1) := by decide +kernel
theorem dX0_countBottomsFor_22 : decode cX0_countBottomsFor 22 = .ok (.iload_n 1, 1) := by decide +kernel
theorem dX0_countBottomsFor_23 : decode cX0_countBottomsFor 23 = .ok (.aload_n 0, 1) := by decide +kernel
theorem dX0_countBottomsFor_24 : decode cX0_countBottomsFor 24 = .ok (.getfield 13, 3) := by decide +kernel
theorem dX0_countBottomsFor_27 : decode cX0_countBottomsFor 27 = .ok (.iload_n 3, 1) := by decide +kernel
theorem dX0_countBottomsFor_28 : decode cX0_countBottomsFor 28 = .ok (.iaload, 1) := by decide +kernel
theorem dX0_countBottomsFor_29 : decode cX0_countBottomsFor 29 = .ok (.invokevirtual 80, 3) := by decide +kernel
theorem dX0_countBottomsFor_32 : decode cX0_countBottomsFor 32 = .ok (.ifCond .ne 6, 3) := by decide +kernel
theorem dX0_countBottomsFor_35 : decode cX0_countBottomsFor 35 = .ok (.iinc 2 1, 3) := by decide +kernel
theorem dX0_countBottomsFor_38 : decode cX0_countBottomsFor 38 = .ok (.iinc 3 1, 3) := by decide +kernel
theorem dX0_countBottomsFor_41 : decode cX0_countBottomsFor 41 = .ok (.goto (-37), 3) := by decide +kernel
theorem dX0_countBottomsFor_44 : decode cX0_countBottomsFor 44 = .ok (.iload_n 2, 1) := by decide +kernel
theorem dX0_countBottomsFor_45 : decode cX0_countBottomsFor 45 = .ok (.ireturn, 1) := by decide +kernel
theorem dX0_firstSeat_0 : decode cX0_firstSeat 0 = .ok (.iload_n 0, 1) := by decide +kernel
theorem dX0_firstSeat_1 : decode cX0_firstSeat 1 = .ok (.bipush 12, 2) := by decide +kernel
theorem dX0_firstSeat_3 : decode cX0_firstSeat 3 = .ok (.imul, 1) := by decide +kernel
theorem dX0_firstSeat_4 : decode cX0_firstSeat 4 = .ok (.iload_n 1, 1) := by decide +kernel
theorem dX0_firstSeat_5 : decode cX0_firstSeat 5 = .ok (.iadd, 1) := by decide +kernel
theorem dX0_firstSeat_6 : decode cX0_firstSeat 6 = .ok (.bipush 8, 2) := by decide +kernel
theorem dX0_firstSeat_8 : decode cX0_firstSeat 8 = .ok (.imul, 1) := by decide +kernel
theorem dX0_firstSeat_9 : decode cX0_firstSeat 9 = .ok (.ireturn, 1) := by decide +kernel
set_option maxRecDepth 20000 in
theorem ggX0_wasSeenLately_X0_isThing : GoodIn wsX0_wasSeenLately wsX0_isThing := goodIn_r _ [7, 8, 12, 13, 14, 15, 16, 17, 18, 19, 20, 21, 22, 23] (by decide +kernel) (by decide +kernel)
set_option maxRecDepth 20000 in
theorem gX0_wasSeenLately_X0_isThing : GoodIn wsX0_wasSeenLately (wsV RX0 64 RX0 yX0_isThing wsX0_isThing) := goodIn_app (goodIn_of _ (by decide +kernel)) ggX0_wasSeenLately_X0_isThing
set_option maxRecDepth 20000 in
theorem ggX0_wasSeenLately_X0_firstSeat : GoodIn wsX0_wasSeenLately wsX0_firstSeat := goodIn_r _ [11] (by decide +kernel) (by decide +kernel)
set_option maxRecDepth 20000 in
theorem gX0_wasSeenLately_X0_firstSeat : GoodIn wsX0_wasSeenLately (va_wsS RX0 206 yX0_firstSeat wsX0_firstSeat) := goodIn_app (goodIn_of _ (by decide +kernel)) ggX0_wasSeenLately_X0_firstSeat
theorem dX0_wasSeenLately_0 : decode cX0_wasSeenLately 0 = .ok (.aload_n 0, 1) := by decide +kernel
theorem dX0_wasSeenLately_1 : decode cX0_wasSeenLately 1 = .ok (.iload_n 1, 1) := by decide +kernel
theorem dX0_wasSeenLately_2 : decode cX0_wasSeenLately 2 = .ok (.invokevirtual 64, 3) := by decide +kernel
theorem dX0_wasSeenLately_5 : decode cX0_wasSeenLately 5 = .ok (.ifCond .eq 11, 3) := by decide +kernel
theorem dX0_wasSeenLately_8 : decode cX0_wasSeenLately 8 = .ok (.aload_n 0, 1) := by decide +kernel
theorem dX0_wasSeenLately_9 : decode cX0_wasSeenLately 9 = .ok (.iload_n 2, 1) := by decide +kernel
theorem dX0_wasSeenLately_10 : decode cX0_wasSeenLately 10 = .ok (.invokevirtual 64, 3) := by decide +kernel
theorem dX0_wasSeenLately_13 : decode cX0_wasSeenLately 13 = .ok (.ifCond .ne 5, 3) := by decide +kernel
theorem dX0_wasSeenLately_16 : decode cX0_wasSeenLately 16 = .ok (.iconst 0, 1) := by decide +kernel
theorem dX0_wasSeenLately_17 : decode cX0_wasSeenLately 17 = .ok (.ireturn, 1) := by decide +kernel
theorem dX0_wasSeenLately_18 : decode cX0_wasSeenLately 18 = .ok (.iload_n 1, 1) := by decide +kernel
theorem dX0_wasSeenLately_19 : decode cX0_wasSeenLately 19 = .ok (.iload_n 2, 1) := by decide +kernel
theorem dX0_wasSeenLately_20 : decode cX0_wasSeenLately 20 = .ok (.invokestatic 206, 3) := by decide +kernel
theorem dX0_wasSeenLately_23 : decode cX0_wasSeenLately 23 = .ok (.istore 4, 2) := by decide +kernel
theorem dX0_wasSeenLately_25 : decode cX0_wasSeenLately 25 = .ok (.iconst 0, 1) := by decide +kernel
theorem dX0_wasSeenLately_26 : decode cX0_wasSeenLately 26 = .ok (.istore 5, 2) := by decide +kernel
theorem dX0_wasSeenLately_28 : decode cX0_wasSeenLately 28 = .ok (.iload 5, 2) := by decide +kernel
theorem dX0_wasSeenLately_30 : decode cX0_wasSeenLately 30 = .ok (.bipush 8, 2) := by decide +kernel
theorem dX0_wasSeenLately_32 : decode cX0_wasSeenLately 32 = .ok (.if_icmp .ge 37, 3) := by decide +kernel
theorem dX0_wasSeenLately_35 : decode cX0_wasSeenLately 35 = .ok (.iload_n 3, 1) := by decide +kernel
theorem dX0_wasSeenLately_36 : decode cX0_wasSeenLately 36 = .ok (.iload 5, 2) := by decide +kernel
theorem dX0_wasSeenLately_38 : decode cX0_wasSeenLately 38 = .ok (.ishr, 1) := by decide +kernel
theorem dX0_wasSeenLately_39 : decode cX0_wasSeenLately 39 = .ok (.iconst 1, 1) := by decide +kernel
theorem dX0_wasSeenLately_40 : decode cX0_wasSeenLately 40 = .ok (.iand, 1) := by decide +kernel
theorem dX0_wasSeenLately_41 : decode cX0_wasSeenLately 41 = .ok (.ifCond .eq 22, 3) := by decide +kernel
theorem dX0_wasSeenLately_44 : decode cX0_wasSeenLately 44 = .ok (.aload_n 0, 1) := by decide +kernel
theorem dX0_wasSeenLately_45 : decode cX0_wasSeenLately 45 = .ok (.getfield 162, 3) := by decide +kernel
theorem dX0_wasSeenLately_48 : decode cX0_wasSeenLately 48 = .ok (.aload_n 0, 1) := by decide +kernel
theorem dX0_wasSeenLately_49 : decode cX0_wasSeenLately 49 = .ok (.getfield 28, 3) := by decide +kernel
theorem dX0_wasSeenLately_52 : decode cX0_wasSeenLately 52 = .ok (.iload 4, 2) := by decide +kernel
theorem dX0_wasSeenLately_54 : decode cX0_wasSeenLately 54 = .ok (.iload 5, 2) := by decide +kernel
theorem dX0_wasSeenLately_56 : decode cX0_wasSeenLately 56 = .ok (.iadd, 1) := by decide +kernel
theorem dX0_wasSeenLately_57 : decode cX0_wasSeenLately 57 = .ok (.iaload, 1) := by decide +kernel
theorem dX0_wasSeenLately_58 : decode cX0_wasSeenLately 58 = .ok (.if_icmp .ge 5, 3) := by decide +kernel
theorem dX0_wasSeenLately_61 : decode cX0_wasSeenLately 61 = .ok (.iconst 1, 1) := by decide +kernel
theorem dX0_wasSeenLately_62 : decode cX0_wasSeenLately 62 = .ok (.ireturn, 1) := by decide +kernel
theorem dX0_wasSeenLately_63 : decode cX0_wasSeenLately 63 = .ok (.iinc 5 1, 3) := by decide +kernel
theorem dX0_wasSeenLately_66 : decode cX0_wasSeenLately 66 = .ok (.goto (-38), 3) := by decide +kernel
theorem dX0_wasSeenLately_69 : decode cX0_wasSeenLately 69 = .ok (.iconst 0, 1) := by decide +kernel
theorem dX0_wasSeenLately_70 : decode cX0_wasSeenLately 70 = .ok (.ireturn, 1) := by decide +kernel
set_option maxRecDepth 20000 in
theorem ggX0_showTo_X0_isThing : GoodIn wsX0_showTo wsX0_isThing := goodIn_r _ [7, 8, 12, 13, 14, 15, 16, 17, 18, 19, 20, 21, 22, 23] (by decide +kernel) (by decide +kernel)
set_option maxRecDepth 20000 in
theorem gX0_showTo_X0_isThing : GoodIn wsX0_showTo (wsV RX0 64 RX0 yX0_isThing wsX0_isThing) := goodIn_app (goodIn_of _ (by decide +kernel)) ggX0_showTo_X0_isThing
set_option maxRecDepth 20000 in
theorem ggX0_showTo_X0_firstSeat : GoodIn wsX0_showTo wsX0_firstSeat := goodIn_r _ [11] (by decide +kernel) (by decide +kernel)
set_option maxRecDepth 20000 in
theorem gX0_showTo_X0_firstSeat : GoodIn wsX0_showTo (va_wsS RX0 206 yX0_firstSeat wsX0_firstSeat) := goodIn_app (goodIn_of _ (by decide +kernel)) ggX0_showTo_X0_firstSeat
theorem dX0_showTo_0 : decode cX0_showTo 0 = .ok (.aload_n 0, 1) := by decide +kernel
theorem dX0_showTo_1 : decode cX0_showTo 1 = .ok (.iload_n 1, 1) := by decide +kernel
theorem dX0_showTo_2 : decode cX0_showTo 2 = .ok (.invokevirtual 64, 3) := by decide +kernel
theorem dX0_showTo_5 : decode cX0_showTo 5 = .ok (.ifCond .eq 11, 3) := by decide +kernel
theorem dX0_showTo_8 : decode cX0_showTo 8 = .ok (.aload_n 0, 1) := by decide +kernel
theorem dX0_showTo_9 : decode cX0_showTo 9 = .ok (.iload_n 2, 1) := by decide +kernel
theorem dX0_showTo_10 : decode cX0_showTo 10 = .ok (.invokevirtual 64, 3) := by decide +kernel
theorem dX0_showTo_13 : decode cX0_showTo 13 = .ok (.ifCond .ne 4, 3) := by decide +kernel
theorem dX0_showTo_16 : decode cX0_showTo 16 = .ok (.return_, 1) := by decide +kernel
theorem dX0_showTo_17 : decode cX0_showTo 17 = .ok (.iload_n 1, 1) := by decide +kernel
theorem dX0_showTo_18 : decode cX0_showTo 18 = .ok (.iload_n 2, 1) := by decide +kernel
theorem dX0_showTo_19 : decode cX0_showTo 19 = .ok (.invokestatic 206, 3) := by decide +kernel
theorem dX0_showTo_22 : decode cX0_showTo 22 = .ok (.istore 4, 2) := by decide +kernel
theorem dX0_showTo_24 : decode cX0_showTo 24 = .ok (.iconst 0, 1) := by decide +kernel
theorem dX0_showTo_25 : decode cX0_showTo 25 = .ok (.istore 5, 2) := by decide +kernel
theorem dX0_showTo_27 : decode cX0_showTo 27 = .ok (.iload 5, 2) := by decide +kernel
theorem dX0_showTo_29 : decode cX0_showTo 29 = .ok (.bipush 8, 2) := by decide +kernel
theorem dX0_showTo_31 : decode cX0_showTo 31 = .ok (.if_icmp .ge 35, 3) := by decide +kernel
theorem dX0_showTo_34 : decode cX0_showTo 34 = .ok (.iload_n 3, 1) := by decide +kernel
theorem dX0_showTo_35 : decode cX0_showTo 35 = .ok (.iload 5, 2) := by decide +kernel
theorem dX0_showTo_37 : decode cX0_showTo 37 = .ok (.ishr, 1) := by decide +kernel
theorem dX0_showTo_38 : decode cX0_showTo 38 = .ok (.iconst 1, 1) := by decide +kernel
theorem dX0_showTo_39 : decode cX0_showTo 39 = .ok (.iand, 1) := by decide +kernel
theorem dX0_showTo_40 : decode cX0_showTo 40 = .ok (.ifCond .eq 20, 3) := by decide +kernel
theorem dX0_showTo_43 : decode cX0_showTo 43 = .ok (.aload_n 0, 1) := by decide +kernel
theorem dX0_showTo_44 : decode cX0_showTo 44 = .ok (.getfield 28, 3) := by decide +kernel
theorem dX0_showTo_47 : decode cX0_showTo 47 = .ok (.iload 4, 2) := by decide +kernel
theorem dX0_showTo_49 : decode cX0_showTo 49 = .ok (.iload 5, 2) := by decide +kernel
theorem dX0_showTo_51 : decode cX0_showTo 51 = .ok (.iadd, 1) := by decide +kernel
theorem dX0_showTo_52 : decode cX0_showTo 52 = .ok (.aload_n 0, 1) := by decide +kernel
theorem dX0_showTo_53 : decode cX0_showTo 53 = .ok (.getfield 162, 3) := by decide +kernel
theorem dX0_showTo_56 : decode cX0_showTo 56 = .ok (.bipush 7, 2) := by decide +kernel
theorem dX0_showTo_58 : decode cX0_showTo 58 = .ok (.iadd, 1) := by decide +kernel
theorem dX0_showTo_59 : decode cX0_showTo 59 = .ok (.iastore, 1) := by decide +kernel
theorem dX0_showTo_60 : decode cX0_showTo 60 = .ok (.iinc 5 1, 3) := by decide +kernel
theorem dX0_showTo_63 : decode cX0_showTo 63 = .ok (.goto (-36), 3) := by decide +kernel
theorem dX0_showTo_66 : decode cX0_showTo 66 = .ok (.return_, 1) := by decide +kernel
set_option maxRecDepth 20000 in
theorem ggX0_isWashedWith_X0_isThing : GoodIn wsX0_isWashedWith wsX0_isThing := goodIn_r _ [7, 8, 9, 10, 11, 12, 13, 14, 15, 16, 17, 18, 19, 20] (by decide +kernel) (by decide +kernel)
set_option maxRecDepth 20000 in
theorem gX0_isWashedWith_X0_isThing : GoodIn wsX0_isWashedWith (wsV RX0 64 RX0 yX0_isThing wsX0_isThing) := goodIn_app (goodIn_of _ (by decide +kernel)) ggX0_isWashedWith_X0_isThing
theorem dX0_isWashedWith_0 : decode cX0_isWashedWith 0 = .ok (.aload_n 0, 1) := by decide +kernel
theorem dX0_isWashedWith_1 : decode cX0_isWashedWith 1 = .ok (.iload_n 1, 1) := by decide +kernel
theorem dX0_isWashedWith_2 : decode cX0_isWashedWith 2 = .ok (.invokevirtual 64, 3) := by decide +kernel
theorem dX0_isWashedWith_5 : decode cX0_isWashedWith 5 = .ok (.ifCond .eq 36, 3) := by decide +kernel
theorem dX0_isWashedWith_8 : decode cX0_isWashedWith 8 = .ok (.aload_n 0, 1) := by decide +kernel
theorem dX0_isWashedWith_9 : decode cX0_isWashedWith 9 = .ok (.getfield 22, 3) := by decide +kernel
theorem dX0_isWashedWith_12 : decode cX0_isWashedWith 12 = .ok (.iload_n 1, 1) := by decide +kernel
theorem dX0_isWashedWith_13 : decode cX0_isWashedWith 13 = .ok (.iaload, 1) := by decide +kernel
theorem dX0_isWashedWith_14 : decode cX0_isWashedWith 14 = .ok (.iload_n 2, 1) := by decide +kernel
theorem dX0_isWashedWith_15 : decode cX0_isWashedWith 15 = .ok (.if_icmp .ne 26, 3) := by decide +kernel
theorem dX0_isWashedWith_18 : decode cX0_isWashedWith 18 = .ok (.aload_n 0, 1) := by decide +kernel
theorem dX0_isWashedWith_19 : decode cX0_isWashedWith 19 = .ok (.getfield 13, 3) := by decide +kernel
theorem dX0_isWashedWith_22 : decode cX0_isWashedWith 22 = .ok (.iload_n 1, 1) := by decide +kernel
theorem dX0_isWashedWith_23 : decode cX0_isWashedWith 23 = .ok (.iaload, 1) := by decide +kernel
theorem dX0_isWashedWith_24 : decode cX0_isWashedWith 24 = .ok (.iconst 4, 1) := by decide +kernel
theorem dX0_isWashedWith_25 : decode cX0_isWashedWith 25 = .ok (.if_icmp .lt 7, 3) := by decide +kernel
theorem dX0_isWashedWith_28 : decode cX0_isWashedWith 28 = .ok (.iconst 1, 1) := by decide +kernel
theorem dX0_isWashedWith_29 : decode cX0_isWashedWith 29 = .ok (.goto 4, 3) := by decide +kernel
theorem dX0_isWashedWith_32 : decode cX0_isWashedWith 32 = .ok (.iconst 0, 1) := by decide +kernel
theorem dX0_isWashedWith_33 : decode cX0_isWashedWith 33 = .ok (.iload_n 3, 1) := by decide +kernel
theorem dX0_isWashedWith_34 : decode cX0_isWashedWith 34 = .ok (.if_icmp .ne 7, 3) := by decide +kernel
theorem dX0_isWashedWith_37 : decode cX0_isWashedWith 37 = .ok (.iconst 1, 1) := by decide +kernel
theorem dX0_isWashedWith_38 : decode cX0_isWashedWith 38 = .ok (.goto 4, 3) := by decide +kernel
theorem dX0_isWashedWith_41 : decode cX0_isWashedWith 41 = .ok (.iconst 0, 1) := by decide +kernel
theorem dX0_isWashedWith_42 : decode cX0_isWashedWith 42 = .ok (.ireturn, 1) := by decide +kernel
set_option maxRecDepth 20000 in
theorem ggX0_nextToWash_X0_isWashedWith : GoodIn wsX0_nextToWash wsX0_isWashedWith := goodIn_r _ [8, 9, 10, 11, 12, 13, 7, 14, 15, 20, 21, 22, 23, 24, 25, 26, 27, 28, 29, 30, 31] (by decide +kernel) (by decide +kernel)
set_option maxRecDepth 20000 in
theorem gX0_nextToWash_X0_isWashedWith : GoodIn wsX0_nextToWash (wsV RX0 146 RX0 yX0_isWashedWith wsX0_isWashedWith) := goodIn_app (goodIn_of _ (by decide +kernel)) ggX0_nextToWash_X0_isWashedWith
set_option maxRecDepth 20000 in
theorem ggX0_nextToWash_X0_wearsLeftOf : GoodIn wsX0_nextToWash wsX0_wearsLeftOf := goodIn_r _ [19, 2, 11, 12, 13, 7, 14, 15, 20, 21, 22, 23, 24, 25, 26, 27, 28, 29, 30, 31] (by decide +kernel) (by decide +kernel)
set_option maxRecDepth 20000 in
theorem gX0_nextToWash_X0_wearsLeftOf : GoodIn wsX0_nextToWash (wsV RX0 150 RX0 yX0_wearsLeftOf wsX0_wearsLeftOf) := goodIn_app (goodIn_of _ (by decide +kernel)) ggX0_nextToWash_X0_wearsLeftOf
theorem dX0_nextToWash_0 : decode cX0_nextToWash 0 = .ok (.iconst (-1), 1) := by decide +kernel
theorem dX0_nextToWash_1 : decode cX0_nextToWash 1 = .ok (.istore_n 3, 1) := by decide +kernel
theorem dX0_nextToWash_2 : decode cX0_nextToWash 2 = .ok (.iconst 0, 1) := by decide +kernel
theorem dX0_nextToWash_3 : decode cX0_nextToWash 3 = .ok (.istore 4, 2) := by decide +kernel
theorem dX0_nextToWash_5 : decode cX0_nextToWash 5 = .ok (.iload 4, 2) := by decide +kernel
theorem dX0_nextToWash_7 : decode cX0_nextToWash 7 = .ok (.aload_n 0, 1) := by decide +kernel
theorem dX0_nextToWash_8 : decode cX0_nextToWash 8 = .ok (.getfield 52, 3) := by decide +kernel
theorem dX0_nextToWash_11 : decode cX0_nextToWash 11 = .ok (.if_icmp .ge 60, 3) := by decide +kernel
theorem dX0_nextToWash_14 : decode cX0_nextToWash 14 = .ok (.aload_n 0, 1) := by decide +kernel
theorem dX0_nextToWash_15 : decode cX0_nextToWash 15 = .ok (.iload 4, 2) := by decide +kernel
theorem dX0_nextToWash_17 : decode cX0_nextToWash 17 = .ok (.iload_n 1, 1) := by decide +kernel
theorem dX0_nextToWash_18 : decode cX0_nextToWash 18 = .ok (.iload_n 2, 1) := by decide +kernel
theorem dX0_nextToWash_19 : decode cX0_nextToWash 19 = .ok (.invokevirtual 146, 3) := by decide +kernel
theorem dX0_nextToWash_22 : decode cX0_nextToWash 22 = .ok (.ifCond .eq 43, 3) := by decide +kernel
theorem dX0_nextToWash_25 : decode cX0_nextToWash 25 = .ok (.aload_n 0, 1) := by decide +kernel
theorem dX0_nextToWash_26 : decode cX0_nextToWash 26 = .ok (.getfield 25, 3) := by decide +kernel
theorem dX0_nextToWash_29 : decode cX0_nextToWash 29 = .ok (.iload 4, 2) := by decide +kernel
theorem dX0_nextToWash_31 : decode cX0_nextToWash 31 = .ok (.iaload, 1) := by decide +kernel
theorem dX0_nextToWash_32 : decode cX0_nextToWash 32 = .ok (.aload_n 0, 1) := by decide +kernel
theorem dX0_nextToWash_33 : decode cX0_nextToWash 33 = .ok (.getfield 19, 3) := by decide +kernel
theorem dX0_nextToWash_36 : decode cX0_nextToWash 36 = .ok (.iload 4, 2) := by decide +kernel
theorem dX0_nextToWash_38 : decode cX0_nextToWash 38 = .ok (.iaload, 1) := by decide +kernel
theorem dX0_nextToWash_39 : decode cX0_nextToWash 39 = .ok (.if_icmp .ge 26, 3) := by decide +kernel
theorem dX0_nextToWash_42 : decode cX0_nextToWash 42 = .ok (.iload_n 3, 1) := by decide +kernel
theorem dX0_nextToWash_43 : decode cX0_nextToWash 43 = .ok (.iconst (-1), 1) := by decide +kernel
theorem dX0_nextToWash_44 : decode cX0_nextToWash 44 = .ok (.if_icmp .eq 18, 3) := by decide +kernel
theorem dX0_nextToWash_47 : decode cX0_nextToWash 47 = .ok (.aload_n 0, 1) := by decide +kernel
theorem dX0_nextToWash_48 : decode cX0_nextToWash 48 = .ok (.getfield 25, 3) := by decide +kernel
theorem dX0_nextToWash_51 : decode cX0_nextToWash 51 = .ok (.iload 4, 2) := by decide +kernel
theorem dX0_nextToWash_53 : decode cX0_nextToWash 53 = .ok (.iaload, 1) := by decide +kernel
theorem dX0_nextToWash_54 : decode cX0_nextToWash 54 = .ok (.aload_n 0, 1) := by decide +kernel
theorem dX0_nextToWash_55 : decode cX0_nextToWash 55 = .ok (.iload_n 3, 1) := by decide +kernel
theorem dX0_nextToWash_56 : decode cX0_nextToWash 56 = .ok (.invokevirtual 150, 3) := by decide +kernel
theorem dX0_nextToWash_59 : decode cX0_nextToWash 59 = .ok (.if_icmp .ge 6, 3) := by decide +kernel
theorem dX0_nextToWash_62 : decode cX0_nextToWash 62 = .ok (.iload 4, 2) := by decide +kernel
theorem dX0_nextToWash_64 : decode cX0_nextToWash 64 = .ok (.istore_n 3, 1) := by decide +kernel
theorem dX0_nextToWash_65 : decode cX0_nextToWash 65 = .ok (.iinc 4 1, 3) := by decide +kernel
theorem dX0_nextToWash_68 : decode cX0_nextToWash 68 = .ok (.goto (-63), 3) := by decide +kernel
theorem dX0_nextToWash_71 : decode cX0_nextToWash 71 = .ok (.iload_n 3, 1) := by decide +kernel
theorem dX0_nextToWash_72 : decode cX0_nextToWash 72 = .ok (.ireturn, 1) := by decide +kernel
set_option maxRecDepth 20000 in
theorem ggX0_thingsOfKind_X0_isOfKind : GoodIn wsX0_thingsOfKind wsX0_isOfKind := goodIn_r _ [6, 7, 8, 9, 10, 5, 11, 12, 13, 14, 15, 16, 17, 18, 19, 20, 21, 22, 23, 24] (by decide +kernel) (by decide +kernel)
set_option maxRecDepth 20000 in
theorem gX0_thingsOfKind_X0_isOfKind : GoodIn wsX0_thingsOfKind (wsV RX0 191 RX0 yX0_isOfKind wsX0_isOfKind) := goodIn_app (goodIn_of _ (by decide +kernel)) ggX0_thingsOfKind_X0_isOfKind
theorem dX0_thingsOfKind_0 : decode cX0_thingsOfKind 0 = .ok (.iconst 0, 1) := by decide +kernel
theorem dX0_thingsOfKind_1 : decode cX0_thingsOfKind 1 = .ok (.istore_n 2, 1) := by decide +kernel
theorem dX0_thingsOfKind_2 : decode cX0_thingsOfKind 2 = .ok (.iconst 0, 1) := by decide +kernel
theorem dX0_thingsOfKind_3 : decode cX0_thingsOfKind 3 = .ok (.istore_n 3, 1) := by decide +kernel
theorem dX0_thingsOfKind_4 : decode cX0_thingsOfKind 4 = .ok (.iload_n 3, 1) := by decide +kernel
theorem dX0_thingsOfKind_5 : decode cX0_thingsOfKind 5 = .ok (.aload_n 0, 1) := by decide +kernel
theorem dX0_thingsOfKind_6 : decode cX0_thingsOfKind 6 = .ok (.getfield 52, 3) := by decide +kernel
theorem dX0_thingsOfKind_9 : decode cX0_thingsOfKind 9 = .ok (.if_icmp .ge 24, 3) := by decide +kernel
theorem dX0_thingsOfKind_12 : decode cX0_thingsOfKind 12 = .ok (.aload_n 0, 1) := by decide +kernel
theorem dX0_thingsOfKind_13 : decode cX0_thingsOfKind 13 = .ok (.iload_n 3, 1) := by decide +kernel
theorem dX0_thingsOfKind_14 : decode cX0_thingsOfKind 14 = .ok (.iload_n 1, 1) := by decide +kernel
theorem dX0_thingsOfKind_15 : decode cX0_thingsOfKind 15 = .ok (.invokevirtual 191, 3) := by decide +kernel
theorem dX0_thingsOfKind_18 : decode cX0_thingsOfKind 18 = .ok (.ifCond .eq 9, 3) := by decide +kernel
theorem dX0_thingsOfKind_21 : decode cX0_thingsOfKind 21 = .ok (.iload_n 2, 1) := by decide +kernel
theorem dX0_thingsOfKind_22 : decode cX0_thingsOfKind 22 = .ok (.iconst 1, 1) := by decide +kernel
theorem dX0_thingsOfKind_23 : decode cX0_thingsOfKind 23 = .ok (.iload_n 3, 1) := by decide +kernel
theorem dX0_thingsOfKind_24 : decode cX0_thingsOfKind 24 = .ok (.ishl, 1) := by decide +kernel
theorem dX0_thingsOfKind_25 : decode cX0_thingsOfKind 25 = .ok (.ior, 1) := by decide +kernel
theorem dX0_thingsOfKind_26 : decode cX0_thingsOfKind 26 = .ok (.istore_n 2, 1) := by decide +kernel
theorem dX0_thingsOfKind_27 : decode cX0_thingsOfKind 27 = .ok (.iinc 3 1, 3) := by decide +kernel
theorem dX0_thingsOfKind_30 : decode cX0_thingsOfKind 30 = .ok (.goto (-26), 3) := by decide +kernel
theorem dX0_thingsOfKind_33 : decode cX0_thingsOfKind 33 = .ok (.iload_n 2, 1) := by decide +kernel
theorem dX0_thingsOfKind_34 : decode cX0_thingsOfKind 34 = .ok (.ireturn, 1) := by decide +kernel
set_option maxRecDepth 20000 in
theorem ggX0_findPartners_X0_arePartners : GoodIn wsX0_findPartners wsX0_arePartners := goodIn_r _ [7, 8, 9, 10, 6, 11, 12, 13, 14, 15, 16, 17, 18, 19, 20, 21, 22, 23, 24, 25, 26, 27, 28, 29, 30, 31, 32, 33, 34, 35, 36, 37, 38, 39, 40, 41, 42, 43, 44, 45, 46, 47, 48, 49, 50, 51, 52, 53, 54, 55] (by decide +kernel) (by decide +kernel)
set_option maxRecDepth 20000 in
theorem gX0_findPartners_X0_arePartners : GoodIn wsX0_findPartners (wsV RX0 209 RX0 yX0_arePartners wsX0_arePartners) := goodIn_app (goodIn_of _ (by decide +kernel)) ggX0_findPartners_X0_arePartners
theorem dX0_findPartners_0 : decode cX0_findPartners 0 = .ok (.iconst 0, 1) := by decide +kernel
theorem dX0_findPartners_1 : decode cX0_findPartners 1 = .ok (.istore_n 2, 1) := by decide +kernel
theorem dX0_findPartners_2 : decode cX0_findPartners 2 = .ok (.iload_n 2, 1) := by decide +kernel
theorem dX0_findPartners_3 : decode cX0_findPartners 3 = .ok (.bipush 12, 2) := by decide +kernel
theorem dX0_findPartners_5 : decode cX0_findPartners 5 = .ok (.if_icmp .ge 16, 3) := by decide +kernel
theorem dX0_findPartners_8 : decode cX0_findPartners 8 = .ok (.aload_n 0, 1) := by decide +kernel
theorem dX0_findPartners_9 : decode cX0_findPartners 9 = .ok (.getfield 31, 3) := by decide +kernel
theorem dX0_findPartners_12 : decode cX0_findPartners 12 = .ok (.iload_n 2, 1) := by decide +kernel
theorem dX0_findPartners_13 : decode cX0_findPartners 13 = .ok (.iconst 0, 1) := by decide +kernel
theorem dX0_findPartners_14 : decode cX0_findPartners 14 = .ok (.iastore, 1) := by decide +kernel
theorem dX0_findPartners_15 : decode cX0_findPartners 15 = .ok (.iinc 2 1, 3) := by decide +kernel
theorem dX0_findPartners_18 : decode cX0_findPartners 18 = .ok (.goto (-16), 3) := by decide +kernel
theorem dX0_findPartners_21 : decode cX0_findPartners 21 = .ok (.iconst 0, 1) := by decide +kernel
theorem dX0_findPartners_22 : decode cX0_findPartners 22 = .ok (.istore_n 2, 1) := by decide +kernel
theorem dX0_findPartners_23 : decode cX0_findPartners 23 = .ok (.iload_n 2, 1) := by decide +kernel
theorem dX0_findPartners_24 : decode cX0_findPartners 24 = .ok (.aload_n 0, 1) := by decide +kernel
theorem dX0_findPartners_25 : decode cX0_findPartners 25 = .ok (.getfield 52, 3) := by decide +kernel
theorem dX0_findPartners_28 : decode cX0_findPartners 28 = .ok (.if_icmp .ge 59, 3) := by decide +kernel
theorem dX0_findPartners_31 : decode cX0_findPartners 31 = .ok (.iconst 0, 1) := by decide +kernel
theorem dX0_findPartners_32 : decode cX0_findPartners 32 = .ok (.istore_n 3, 1) := by decide +kernel
theorem dX0_findPartners_33 : decode cX0_findPartners 33 = .ok (.iload_n 3, 1) := by decide +kernel
theorem dX0_findPartners_34 : decode cX0_findPartners 34 = .ok (.aload_n 0, 1) := by decide +kernel
theorem dX0_findPartners_35 : decode cX0_findPartners 35 = .ok (.getfield 52, 3) := by decide +kernel
theorem dX0_findPartners_38 : decode cX0_findPartners 38 = .ok (.if_icmp .ge 43, 3) := by decide +kernel
theorem dX0_findPartners_41 : decode cX0_findPartners 41 = .ok (.aload_n 0, 1) := by decide +kernel
theorem dX0_findPartners_42 : decode cX0_findPartners 42 = .ok (.iload_n 2, 1) := by decide +kernel
theorem dX0_findPartners_43 : decode cX0_findPartners 43 = .ok (.iload_n 3, 1) := by decide +kernel
theorem dX0_findPartners_44 : decode cX0_findPartners 44 = .ok (.iload_n 1, 1) := by decide +kernel
theorem dX0_findPartners_45 : decode cX0_findPartners 45 = .ok (.invokevirtual 209, 3) := by decide +kernel
theorem dX0_findPartners_48 : decode cX0_findPartners 48 = .ok (.ifCond .eq 27, 3) := by decide +kernel
theorem dX0_findPartners_51 : decode cX0_findPartners 51 = .ok (.aload_n 0, 1) := by decide +kernel
theorem dX0_findPartners_52 : decode cX0_findPartners 52 = .ok (.getfield 31, 3) := by decide +kernel
theorem dX0_findPartners_55 : decode cX0_findPartners 55 = .ok (.iload_n 2, 1) := by decide +kernel
theorem dX0_findPartners_56 : decode cX0_findPartners 56 = .ok (.dup2, 1) := by decide +kernel
theorem dX0_findPartners_57 : decode cX0_findPartners 57 = .ok (.iaload, 1) := by decide +kernel
theorem dX0_findPartners_58 : decode cX0_findPartners 58 = .ok (.iconst 1, 1) := by decide +kernel
theorem dX0_findPartners_59 : decode cX0_findPartners 59 = .ok (.iload_n 3, 1) := by decide +kernel
theorem dX0_findPartners_60 : decode cX0_findPartners 60 = .ok (.ishl, 1) := by decide +kernel
theorem dX0_findPartners_61 : decode cX0_findPartners 61 = .ok (.ior, 1) := by decide +kernel
theorem dX0_findPartners_62 : decode cX0_findPartners 62 = .ok (.iastore, 1) := by decide +kernel
theorem dX0_findPartners_63 : decode cX0_findPartners 63 = .ok (.aload_n 0, 1) := by decide +kernel
theorem dX0_findPartners_64 : decode cX0_findPartners 64 = .ok (.getfield 31, 3) := by decide +kernel
theorem dX0_findPartners_67 : decode cX0_findPartners 67 = .ok (.iload_n 3, 1) := by decide +kernel
theorem dX0_findPartners_68 : decode cX0_findPartners 68 = .ok (.dup2, 1) := by decide +kernel
theorem dX0_findPartners_69 : decode cX0_findPartners 69 = .ok (.iaload, 1) := by decide +kernel
theorem dX0_findPartners_70 : decode cX0_findPartners 70 = .ok (.iconst 1, 1) := by decide +kernel
theorem dX0_findPartners_71 : decode cX0_findPartners 71 = .ok (.iload_n 2, 1) := by decide +kernel
theorem dX0_findPartners_72 : decode cX0_findPartners 72 = .ok (.ishl, 1) := by decide +kernel
theorem dX0_findPartners_73 : decode cX0_findPartners 73 = .ok (.ior, 1) := by decide +kernel
theorem dX0_findPartners_74 : decode cX0_findPartners 74 = .ok (.iastore, 1) := by decide +kernel
theorem dX0_findPartners_75 : decode cX0_findPartners 75 = .ok (.iinc 3 1, 3) := by decide +kernel
theorem dX0_findPartners_78 : decode cX0_findPartners 78 = .ok (.goto (-45), 3) := by decide +kernel
theorem dX0_findPartners_81 : decode cX0_findPartners 81 = .ok (.iinc 2 1, 3) := by decide +kernel
theorem dX0_findPartners_84 : decode cX0_findPartners 84 = .ok (.goto (-61), 3) := by decide +kernel
theorem dX0_findPartners_87 : decode cX0_findPartners 87 = .ok (.return_, 1) := by decide +kernel
set_option maxRecDepth 20000 in
theorem ggX0_arePartners_X0_areOfTheirKinds : GoodIn wsX0_arePartners wsX0_areOfTheirKinds := goodIn_r _ [5, 6, 7, 8, 4, 9, 10, 11, 12, 13, 14, 15, 38, 39, 40, 41, 42, 43, 44, 45, 46, 47, 48, 49] (by decide +kernel) (by decide +kernel)
set_option maxRecDepth 20000 in
theorem gX0_arePartners_X0_areOfTheirKinds : GoodIn wsX0_arePartners (wsV RX0 97 RX0 yX0_areOfTheirKinds wsX0_areOfTheirKinds) := goodIn_app (goodIn_of _ (by decide +kernel)) ggX0_arePartners_X0_areOfTheirKinds
set_option maxRecDepth 20000 in
theorem ggX0_arePartners_X0_doClash : GoodIn wsX0_arePartners wsX0_doClash := goodIn_r _ [19, 20, 11, 12, 13, 4, 14, 15, 21, 22, 23, 24, 25, 26, 27, 28, 38, 39, 40, 41, 42, 43, 44, 45, 46, 47, 48, 49] (by decide +kernel) (by decide +kernel)
set_option maxRecDepth 20000 in
theorem gX0_arePartners_X0_doClash : GoodIn wsX0_arePartners (wsV RX0 197 RX0 yX0_doClash wsX0_doClash) := goodIn_app (goodIn_of _ (by decide +kernel)) ggX0_arePartners_X0_doClash
set_option maxRecDepth 20000 in
theorem ggX0_arePartners_X0_outfitWarmth : GoodIn wsX0_arePartners wsX0_outfitWarmth := goodIn_r _ [32, 33, 34, 35, 4, 36, 37, 11, 12, 13, 14, 15, 38, 39, 40, 41, 42, 43, 44, 45, 46, 47, 48, 49] (by decide +kernel) (by decide +kernel)
set_option maxRecDepth 20000 in
theorem gX0_arePartners_X0_outfitWarmth : GoodIn wsX0_arePartners (wsV RX0 123 RX0 yX0_outfitWarmth wsX0_outfitWarmth) := goodIn_app (goodIn_of _ (by decide +kernel)) ggX0_arePartners_X0_outfitWarmth
theorem dX0_arePartners_0 : decode cX0_arePartners 0 = .ok (.aload_n 0, 1) := by decide +kernel
theorem dX0_arePartners_1 : decode cX0_arePartners 1 = .ok (.iload_n 1, 1) := by decide +kernel
theorem dX0_arePartners_2 : decode cX0_arePartners 2 = .ok (.iload_n 2, 1) := by decide +kernel
theorem dX0_arePartners_3 : decode cX0_arePartners 3 = .ok (.iconst (-1), 1) := by decide +kernel
theorem dX0_arePartners_4 : decode cX0_arePartners 4 = .ok (.invokevirtual 97, 3) := by decide +kernel
theorem dX0_arePartners_7 : decode cX0_arePartners 7 = .ok (.ifCond .eq 27, 3) := by decide +kernel
theorem dX0_arePartners_10 : decode cX0_arePartners 10 = .ok (.aload_n 0, 1) := by decide +kernel
theorem dX0_arePartners_11 : decode cX0_arePartners 11 = .ok (.iload_n 1, 1) := by decide +kernel
theorem dX0_arePartners_12 : decode cX0_arePartners 12 = .ok (.iload_n 2, 1) := by decide +kernel
theorem dX0_arePartners_13 : decode cX0_arePartners 13 = .ok (.invokevirtual 197, 3) := by decide +kernel
theorem dX0_arePartners_16 : decode cX0_arePartners 16 = .ok (.ifCond .ne 18, 3) := by decide +kernel
theorem dX0_arePartners_19 : decode cX0_arePartners 19 = .ok (.aload_n 0, 1) := by decide +kernel
theorem dX0_arePartners_20 : decode cX0_arePartners 20 = .ok (.iload_n 1, 1) := by decide +kernel
theorem dX0_arePartners_21 : decode cX0_arePartners 21 = .ok (.iload_n 2, 1) := by decide +kernel
theorem dX0_arePartners_22 : decode cX0_arePartners 22 = .ok (.iconst (-1), 1) := by decide +kernel
theorem dX0_arePartners_23 : decode cX0_arePartners 23 = .ok (.invokevirtual 123, 3) := by decide +kernel
theorem dX0_arePartners_26 : decode cX0_arePartners 26 = .ok (.iload_n 3, 1) := by decide +kernel
theorem dX0_arePartners_27 : decode cX0_arePartners 27 = .ok (.if_icmp .lt 7, 3) := by decide +kernel
theorem dX0_arePartners_30 : decode cX0_arePartners 30 = .ok (.iconst 1, 1) := by decide +kernel
theorem dX0_arePartners_31 : decode cX0_arePartners 31 = .ok (.goto 4, 3) := by decide +kernel
theorem dX0_arePartners_34 : decode cX0_arePartners 34 = .ok (.iconst 0, 1) := by decide +kernel
theorem dX0_arePartners_35 : decode cX0_arePartners 35 = .ok (.ireturn, 1) := by decide +kernel
set_option maxRecDepth 20000 in
theorem ggX0_usefulThings_X0_wearsLeftOf : GoodIn wsX0_usefulThings wsX0_wearsLeftOf := goodIn_r _ [7, 8, 9, 10, 11, 6, 12, 13, 14, 15, 16, 17, 18, 19, 20, 21, 22, 23, 24, 25] (by decide +kernel) (by decide +kernel)
set_option maxRecDepth 20000 in
theorem gX0_usefulThings_X0_wearsLeftOf : GoodIn wsX0_usefulThings (wsV RX0 150 RX0 yX0_wearsLeftOf wsX0_wearsLeftOf) := goodIn_app (goodIn_of _ (by decide +kernel)) ggX0_usefulThings_X0_wearsLeftOf
theorem dX0_usefulThings_0 : decode cX0_usefulThings 0 = .ok (.iconst 0, 1) := by decide +kernel
theorem dX0_usefulThings_1 : decode cX0_usefulThings 1 = .ok (.istore_n 1, 1) := by decide +kernel
theorem dX0_usefulThings_2 : decode cX0_usefulThings 2 = .ok (.iconst 0, 1) := by decide +kernel
theorem dX0_usefulThings_3 : decode cX0_usefulThings 3 = .ok (.istore_n 2, 1) := by decide +kernel
theorem dX0_usefulThings_4 : decode cX0_usefulThings 4 = .ok (.iload_n 2, 1) := by decide +kernel
theorem dX0_usefulThings_5 : decode cX0_usefulThings 5 = .ok (.aload_n 0, 1) := by decide +kernel
theorem dX0_usefulThings_6 : decode cX0_usefulThings 6 = .ok (.getfield 52, 3) := by decide +kernel
theorem dX0_usefulThings_9 : decode cX0_usefulThings 9 = .ok (.if_icmp .ge 32, 3) := by decide +kernel
theorem dX0_usefulThings_12 : decode cX0_usefulThings 12 = .ok (.aload_n 0, 1) := by decide +kernel
theorem dX0_usefulThings_13 : decode cX0_usefulThings 13 = .ok (.iload_n 2, 1) := by decide +kernel
theorem dX0_usefulThings_14 : decode cX0_usefulThings 14 = .ok (.invokevirtual 150, 3) := by decide +kernel
theorem dX0_usefulThings_17 : decode cX0_usefulThings 17 = .ok (.ifCond .le 18, 3) := by decide +kernel
theorem dX0_usefulThings_20 : decode cX0_usefulThings 20 = .ok (.aload_n 0, 1) := by decide +kernel
theorem dX0_usefulThings_21 : decode cX0_usefulThings 21 = .ok (.getfield 31, 3) := by decide +kernel
theorem dX0_usefulThings_24 : decode cX0_usefulThings 24 = .ok (.iload_n 2, 1) := by decide +kernel
theorem dX0_usefulThings_25 : decode cX0_usefulThings 25 = .ok (.iaload, 1) := by decide +kernel
theorem dX0_usefulThings_26 : decode cX0_usefulThings 26 = .ok (.ifCond .eq 9, 3) := by decide +kernel
theorem dX0_usefulThings_29 : decode cX0_usefulThings 29 = .ok (.iload_n 1, 1) := by decide +kernel
theorem dX0_usefulThings_30 : decode cX0_usefulThings 30 = .ok (.iconst 1, 1) := by decide +kernel
theorem dX0_usefulThings_31 : decode cX0_usefulThings 31 = .ok (.iload_n 2, 1) := by decide +kernel
theorem dX0_usefulThings_32 : decode cX0_usefulThings 32 = .ok (.ishl, 1) := by decide +kernel
theorem dX0_usefulThings_33 : decode cX0_usefulThings 33 = .ok (.ior, 1) := by decide +kernel
theorem dX0_usefulThings_34 : decode cX0_usefulThings 34 = .ok (.istore_n 1, 1) := by decide +kernel
theorem dX0_usefulThings_35 : decode cX0_usefulThings 35 = .ok (.iinc 2 1, 3) := by decide +kernel
theorem dX0_usefulThings_38 : decode cX0_usefulThings 38 = .ok (.goto (-34), 3) := by decide +kernel
theorem dX0_usefulThings_41 : decode cX0_usefulThings 41 = .ok (.iload_n 1, 1) := by decide +kernel
theorem dX0_usefulThings_42 : decode cX0_usefulThings 42 = .ok (.ireturn, 1) := by decide +kernel
theorem dX0_partnersOf_0 : decode cX0_partnersOf 0 = .ok (.iconst 0, 1) := by decide +kernel
theorem dX0_partnersOf_1 : decode cX0_partnersOf 1 = .ok (.istore_n 2, 1) := by decide +kernel
theorem dX0_partnersOf_2 : decode cX0_partnersOf 2 = .ok (.iconst 0, 1) := by decide +kernel
theorem dX0_partnersOf_3 : decode cX0_partnersOf 3 = .ok (.istore_n 3, 1) := by decide +kernel
theorem dX0_partnersOf_4 : decode cX0_partnersOf 4 = .ok (.iload_n 3, 1) := by decide +kernel
theorem dX0_partnersOf_5 : decode cX0_partnersOf 5 = .ok (.bipush 12, 2) := by decide +kernel
theorem dX0_partnersOf_7 : decode cX0_partnersOf 7 = .ok (.if_icmp .ge 26, 3) := by decide +kernel
theorem dX0_partnersOf_10 : decode cX0_partnersOf 10 = .ok (.iload_n 1, 1) := by decide +kernel
theorem dX0_partnersOf_11 : decode cX0_partnersOf 11 = .ok (.iload_n 3, 1) := by decide +kernel
theorem dX0_partnersOf_12 : decode cX0_partnersOf 12 = .ok (.ishr, 1) := by decide +kernel
theorem dX0_partnersOf_13 : decode cX0_partnersOf 13 = .ok (.iconst 1, 1) := by decide +kernel
theorem dX0_partnersOf_14 : decode cX0_partnersOf 14 = .ok (.iand, 1) := by decide +kernel
theorem dX0_partnersOf_15 : decode cX0_partnersOf 15 = .ok (.ifCond .eq 12, 3) := by decide +kernel
theorem dX0_partnersOf_18 : decode cX0_partnersOf 18 = .ok (.iload_n 2, 1) := by decide +kernel
theorem dX0_partnersOf_19 : decode cX0_partnersOf 19 = .ok (.aload_n 0, 1) := by decide +kernel
theorem dX0_partnersOf_20 : decode cX0_partnersOf 20 = .ok (.getfield 31, 3) := by decide +kernel
theorem dX0_partnersOf_23 : decode cX0_partnersOf 23 = .ok (.iload_n 3, 1) := by decide +kernel
theorem dX0_partnersOf_24 : decode cX0_partnersOf 24 = .ok (.iaload, 1) := by decide +kernel
theorem dX0_partnersOf_25 : decode cX0_partnersOf 25 = .ok (.ior, 1) := by decide +kernel
theorem dX0_partnersOf_26 : decode cX0_partnersOf 26 = .ok (.istore_n 2, 1) := by decide +kernel
theorem dX0_partnersOf_27 : decode cX0_partnersOf 27 = .ok (.iinc 3 1, 3) := by decide +kernel
theorem dX0_partnersOf_30 : decode cX0_partnersOf 30 = .ok (.goto (-26), 3) := by decide +kernel
theorem dX0_partnersOf_33 : decode cX0_partnersOf 33 = .ok (.iload_n 2, 1) := by decide +kernel
theorem dX0_partnersOf_34 : decode cX0_partnersOf 34 = .ok (.ireturn, 1) := by decide +kernel
theorem dX0_wearsLeftIn_0 : decode cX0_wearsLeftIn 0 = .ok (.iconst 0, 1) := by decide +kernel
theorem dX0_wearsLeftIn_1 : decode cX0_wearsLeftIn 1 = .ok (.istore_n 2, 1) := by decide +kernel
theorem dX0_wearsLeftIn_2 : decode cX0_wearsLeftIn 2 = .ok (.iconst 0, 1) := by decide +kernel
theorem dX0_wearsLeftIn_3 : decode cX0_wearsLeftIn 3 = .ok (.istore_n 3, 1) := by decide +kernel
theorem dX0_wearsLeftIn_4 : decode cX0_wearsLeftIn 4 = .ok (.iload_n 3, 1) := by decide +kernel
theorem dX0_wearsLeftIn_5 : decode cX0_wearsLeftIn 5 = .ok (.bipush 12, 2) := by decide +kernel
theorem dX0_wearsLeftIn_7 : decode cX0_wearsLeftIn 7 = .ok (.if_icmp .ge 26, 3) := by decide +kernel
theorem dX0_wearsLeftIn_10 : decode cX0_wearsLeftIn 10 = .ok (.iload_n 1, 1) := by decide +kernel
theorem dX0_wearsLeftIn_11 : decode cX0_wearsLeftIn 11 = .ok (.iload_n 3, 1) := by decide +kernel
theorem dX0_wearsLeftIn_12 : decode cX0_wearsLeftIn 12 = .ok (.ishr, 1) := by decide +kernel
theorem dX0_wearsLeftIn_13 : decode cX0_wearsLeftIn 13 = .ok (.iconst 1, 1) := by decide +kernel
theorem dX0_wearsLeftIn_14 : decode cX0_wearsLeftIn 14 = .ok (.iand, 1) := by decide +kernel
theorem dX0_wearsLeftIn_15 : decode cX0_wearsLeftIn 15 = .ok (.ifCond .eq 12, 3) := by decide +kernel
theorem dX0_wearsLeftIn_18 : decode cX0_wearsLeftIn 18 = .ok (.iload_n 2, 1) := by decide +kernel
theorem dX0_wearsLeftIn_19 : decode cX0_wearsLeftIn 19 = .ok (.aload_n 0, 1) := by decide +kernel
theorem dX0_wearsLeftIn_20 : decode cX0_wearsLeftIn 20 = .ok (.getfield 25, 3) := by decide +kernel
theorem dX0_wearsLeftIn_23 : decode cX0_wearsLeftIn 23 = .ok (.iload_n 3, 1) := by decide +kernel
theorem dX0_wearsLeftIn_24 : decode cX0_wearsLeftIn 24 = .ok (.iaload, 1) := by decide +kernel
theorem dX0_wearsLeftIn_25 : decode cX0_wearsLeftIn 25 = .ok (.iadd, 1) := by decide +kernel
theorem dX0_wearsLeftIn_26 : decode cX0_wearsLeftIn 26 = .ok (.istore_n 2, 1) := by decide +kernel
theorem dX0_wearsLeftIn_27 : decode cX0_wearsLeftIn 27 = .ok (.iinc 3 1, 3) := by decide +kernel
theorem dX0_wearsLeftIn_30 : decode cX0_wearsLeftIn 30 = .ok (.goto (-26), 3) := by decide +kernel
theorem dX0_wearsLeftIn_33 : decode cX0_wearsLeftIn 33 = .ok (.iload_n 2, 1) := by decide +kernel
theorem dX0_wearsLeftIn_34 : decode cX0_wearsLeftIn 34 = .ok (.ireturn, 1) := by decide +kernel
theorem dX0_nextPart_0 : decode cX0_nextPart 0 = .ok (.iload_n 0, 1) := by decide +kernel
theorem dX0_nextPart_1 : decode cX0_nextPart 1 = .ok (.iload_n 1, 1) := by decide +kernel
theorem dX0_nextPart_2 : decode cX0_nextPart 2 = .ok (.isub, 1) := by decide +kernel
theorem dX0_nextPart_3 : decode cX0_nextPart 3 = .ok (.iload_n 1, 1) := by decide +kernel
theorem dX0_nextPart_4 : decode cX0_nextPart 4 = .ok (.iand, 1) := by decide +kernel
theorem dX0_nextPart_5 : decode cX0_nextPart 5 = .ok (.ireturn, 1) := by decide +kernel
set_option maxRecDepth 20000 in
theorem ggX0_lasts_J6_bitCount_0f7a4 : GoodIn wsX0_lasts wsJ6_bitCount_0f7a4 := goodIn_r _ [4, 5, 6, 7] (by decide +kernel) (by decide +kernel)
set_option maxRecDepth 20000 in
theorem gX0_lasts_J6_bitCount_0f7a4 : GoodIn wsX0_lasts (va_wsS RX0 72 yJ6_bitCount_0f7a4 wsJ6_bitCount_0f7a4) := goodIn_app (goodIn_of _ (by decide +kernel)) ggX0_lasts_J6_bitCount_0f7a4
set_option maxRecDepth 20000 in
theorem ggX0_lasts_X0_wearsLeftIn : GoodIn wsX0_lasts wsX0_wearsLeftIn := goodIn_r _ [12, 13, 22, 23, 24, 25, 26, 27, 28, 29, 30, 31, 32, 33] (by decide +kernel) (by decide +kernel)
set_option maxRecDepth 20000 in
theorem gX0_lasts_X0_wearsLeftIn : GoodIn wsX0_lasts (wsV RX0 212 RX0 yX0_wearsLeftIn wsX0_wearsLeftIn) := goodIn_app (goodIn_of _ (by decide +kernel)) ggX0_lasts_X0_wearsLeftIn
set_option maxRecDepth 20000 in
theorem ggX0_lasts_X0_partnersOf : GoodIn wsX0_lasts wsX0_partnersOf := goodIn_r _ [17, 18, 22, 23, 24, 25, 26, 27, 28, 29, 30, 31, 32, 33] (by decide +kernel) (by decide +kernel)
set_option maxRecDepth 20000 in
theorem gX0_lasts_X0_partnersOf : GoodIn wsX0_lasts (wsV RX0 215 RX0 yX0_partnersOf wsX0_partnersOf) := goodIn_app (goodIn_of _ (by decide +kernel)) ggX0_lasts_X0_partnersOf
set_option maxRecDepth 20000 in
theorem ggX0_lasts_X0_nextPart : GoodIn wsX0_lasts wsX0_nextPart := goodIn_r _ [21] (by decide +kernel) (by decide +kernel)
set_option maxRecDepth 20000 in
theorem gX0_lasts_X0_nextPart : GoodIn wsX0_lasts (va_wsS RX0 187 yX0_nextPart wsX0_nextPart) := goodIn_app (goodIn_of _ (by decide +kernel)) ggX0_lasts_X0_nextPart
theorem dX0_lasts_0 : decode cX0_lasts 0 = .ok (.iload_n 1, 1) := by decide +kernel
theorem dX0_lasts_1 : decode cX0_lasts 1 = .ok (.invokestatic 72, 3) := by decide +kernel
theorem dX0_lasts_4 : decode cX0_lasts 4 = .ok (.iload_n 2, 1) := by decide +kernel
theorem dX0_lasts_5 : decode cX0_lasts 5 = .ok (.invokestatic 72, 3) := by decide +kernel
theorem dX0_lasts_8 : decode cX0_lasts 8 = .ok (.if_icmp .ge 7, 3) := by decide +kernel
theorem dX0_lasts_11 : decode cX0_lasts 11 = .ok (.iconst 1, 1) := by decide +kernel
theorem dX0_lasts_12 : decode cX0_lasts 12 = .ok (.goto 4, 3) := by decide +kernel
theorem dX0_lasts_15 : decode cX0_lasts 15 = .ok (.iconst 0, 1) := by decide +kernel
theorem dX0_lasts_16 : decode cX0_lasts 16 = .ok (.istore 4, 2) := by decide +kernel
theorem dX0_lasts_18 : decode cX0_lasts 18 = .ok (.iload 4, 2) := by decide +kernel
theorem dX0_lasts_20 : decode cX0_lasts 20 = .ok (.ifCond .eq 7, 3) := by decide +kernel
theorem dX0_lasts_23 : decode cX0_lasts 23 = .ok (.iload_n 1, 1) := by decide +kernel
theorem dX0_lasts_24 : decode cX0_lasts 24 = .ok (.goto 4, 3) := by decide +kernel
theorem dX0_lasts_27 : decode cX0_lasts 27 = .ok (.iload_n 2, 1) := by decide +kernel
theorem dX0_lasts_28 : decode cX0_lasts 28 = .ok (.istore 5, 2) := by decide +kernel
theorem dX0_lasts_30 : decode cX0_lasts 30 = .ok (.iload 4, 2) := by decide +kernel
theorem dX0_lasts_32 : decode cX0_lasts 32 = .ok (.ifCond .eq 7, 3) := by decide +kernel
theorem dX0_lasts_35 : decode cX0_lasts 35 = .ok (.iload_n 2, 1) := by decide +kernel
theorem dX0_lasts_36 : decode cX0_lasts 36 = .ok (.goto 4, 3) := by decide +kernel
theorem dX0_lasts_39 : decode cX0_lasts 39 = .ok (.iload_n 1, 1) := by decide +kernel
theorem dX0_lasts_40 : decode cX0_lasts 40 = .ok (.istore 6, 2) := by decide +kernel
theorem dX0_lasts_42 : decode cX0_lasts 42 = .ok (.iconst 0, 1) := by decide +kernel
theorem dX0_lasts_43 : decode cX0_lasts 43 = .ok (.istore 7, 2) := by decide +kernel
theorem dX0_lasts_45 : decode cX0_lasts 45 = .ok (.iconst 1, 1) := by decide +kernel
theorem dX0_lasts_46 : decode cX0_lasts 46 = .ok (.iload 5, 2) := by decide +kernel
theorem dX0_lasts_48 : decode cX0_lasts 48 = .ok (.invokestatic 72, 3) := by decide +kernel
theorem dX0_lasts_51 : decode cX0_lasts 51 = .ok (.ishl, 1) := by decide +kernel
theorem dX0_lasts_52 : decode cX0_lasts 52 = .ok (.istore 8, 2) := by decide +kernel
theorem dX0_lasts_54 : decode cX0_lasts 54 = .ok (.iload 8, 2) := by decide +kernel
theorem dX0_lasts_56 : decode cX0_lasts 56 = .ok (.ifCond .le 49, 3) := by decide +kernel
theorem dX0_lasts_59 : decode cX0_lasts 59 = .ok (.aload_n 0, 1) := by decide +kernel
theorem dX0_lasts_60 : decode cX0_lasts 60 = .ok (.iload 5, 2) := by decide +kernel
theorem dX0_lasts_62 : decode cX0_lasts 62 = .ok (.iload 7, 2) := by decide +kernel
theorem dX0_lasts_64 : decode cX0_lasts 64 = .ok (.iconst (-1), 1) := by decide +kernel
theorem dX0_lasts_65 : decode cX0_lasts 65 = .ok (.ixor, 1) := by decide +kernel
theorem dX0_lasts_66 : decode cX0_lasts 66 = .ok (.iand, 1) := by decide +kernel
theorem dX0_lasts_67 : decode cX0_lasts 67 = .ok (.invokevirtual 212, 3) := by decide +kernel
theorem dX0_lasts_70 : decode cX0_lasts 70 = .ok (.aload_n 0, 1) := by decide +kernel
theorem dX0_lasts_71 : decode cX0_lasts 71 = .ok (.iload 6, 2) := by decide +kernel
theorem dX0_lasts_73 : decode cX0_lasts 73 = .ok (.aload_n 0, 1) := by decide +kernel
theorem dX0_lasts_74 : decode cX0_lasts 74 = .ok (.iload 7, 2) := by decide +kernel
theorem dX0_lasts_76 : decode cX0_lasts 76 = .ok (.invokevirtual 215, 3) := by decide +kernel
theorem dX0_lasts_79 : decode cX0_lasts 79 = .ok (.iand, 1) := by decide +kernel
theorem dX0_lasts_80 : decode cX0_lasts 80 = .ok (.invokevirtual 212, 3) := by decide +kernel
theorem dX0_lasts_83 : decode cX0_lasts 83 = .ok (.iadd, 1) := by decide +kernel
theorem dX0_lasts_84 : decode cX0_lasts 84 = .ok (.iload_n 3, 1) := by decide +kernel
theorem dX0_lasts_85 : decode cX0_lasts 85 = .ok (.if_icmp .ge 5, 3) := by decide +kernel
theorem dX0_lasts_88 : decode cX0_lasts 88 = .ok (.iconst 0, 1) := by decide +kernel
theorem dX0_lasts_89 : decode cX0_lasts 89 = .ok (.ireturn, 1) := by decide +kernel
theorem dX0_lasts_90 : decode cX0_lasts 90 = .ok (.iload 7, 2) := by decide +kernel
theorem dX0_lasts_92 : decode cX0_lasts 92 = .ok (.iload 5, 2) := by decide +kernel
theorem dX0_lasts_94 : decode cX0_lasts 94 = .ok (.invokestatic 187, 3) := by decide +kernel
theorem dX0_lasts_97 : decode cX0_lasts 97 = .ok (.istore 7, 2) := by decide +kernel
theorem dX0_lasts_99 : decode cX0_lasts 99 = .ok (.iinc 8 (-1), 3) := by decide +kernel
theorem dX0_lasts_102 : decode cX0_lasts 102 = .ok (.goto (-48), 3) := by decide +kernel
theorem dX0_lasts_105 : decode cX0_lasts 105 = .ok (.iconst 1, 1) := by decide +kernel
theorem dX0_lasts_106 : decode cX0_lasts 106 = .ok (.ireturn, 1) := by decide +kernel
theorem dJ6_bitCount_0f7a4_0 : decode cJ6_bitCount_0f7a4 0 = .ok (.iload_n 0, 1) := by decide +kernel
theorem dJ6_bitCount_0f7a4_1 : decode cJ6_bitCount_0f7a4 1 = .ok (.iload_n 0, 1) := by decide +kernel
theorem dJ6_bitCount_0f7a4_2 : decode cJ6_bitCount_0f7a4 2 = .ok (.iconst 1, 1) := by decide +kernel
theorem dJ6_bitCount_0f7a4_3 : decode cJ6_bitCount_0f7a4 3 = .ok (.iushr, 1) := by decide +kernel
theorem dJ6_bitCount_0f7a4_4 : decode cJ6_bitCount_0f7a4 4 = .ok (.ldc_w 265, 3) := by decide +kernel
theorem dJ6_bitCount_0f7a4_7 : decode cJ6_bitCount_0f7a4 7 = .ok (.iand, 1) := by decide +kernel
theorem dJ6_bitCount_0f7a4_8 : decode cJ6_bitCount_0f7a4 8 = .ok (.isub, 1) := by decide +kernel
theorem dJ6_bitCount_0f7a4_9 : decode cJ6_bitCount_0f7a4 9 = .ok (.istore_n 0, 1) := by decide +kernel
theorem dJ6_bitCount_0f7a4_10 : decode cJ6_bitCount_0f7a4 10 = .ok (.iload_n 0, 1) := by decide +kernel
theorem dJ6_bitCount_0f7a4_11 : decode cJ6_bitCount_0f7a4 11 = .ok (.ldc_w 266, 3) := by decide +kernel
theorem dJ6_bitCount_0f7a4_14 : decode cJ6_bitCount_0f7a4 14 = .ok (.iand, 1) := by decide +kernel
theorem dJ6_bitCount_0f7a4_15 : decode cJ6_bitCount_0f7a4 15 = .ok (.iload_n 0, 1) := by decide +kernel
theorem dJ6_bitCount_0f7a4_16 : decode cJ6_bitCount_0f7a4 16 = .ok (.iconst 2, 1) := by decide +kernel
theorem dJ6_bitCount_0f7a4_17 : decode cJ6_bitCount_0f7a4 17 = .ok (.iushr, 1) := by decide +kernel
theorem dJ6_bitCount_0f7a4_18 : decode cJ6_bitCount_0f7a4 18 = .ok (.ldc_w 266, 3) := by decide +kernel
theorem dJ6_bitCount_0f7a4_21 : decode cJ6_bitCount_0f7a4 21 = .ok (.iand, 1) := by decide +kernel
theorem dJ6_bitCount_0f7a4_22 : decode cJ6_bitCount_0f7a4 22 = .ok (.iadd, 1) := by decide +kernel
theorem dJ6_bitCount_0f7a4_23 : decode cJ6_bitCount_0f7a4 23 = .ok (.istore_n 0, 1) := by decide +kernel
theorem dJ6_bitCount_0f7a4_24 : decode cJ6_bitCount_0f7a4 24 = .ok (.iload_n 0, 1) := by decide +kernel
theorem dJ6_bitCount_0f7a4_25 : decode cJ6_bitCount_0f7a4 25 = .ok (.iload_n 0, 1) := by decide +kernel
theorem dJ6_bitCount_0f7a4_26 : decode cJ6_bitCount_0f7a4 26 = .ok (.iconst 4, 1) := by decide +kernel
theorem dJ6_bitCount_0f7a4_27 : decode cJ6_bitCount_0f7a4 27 = .ok (.iushr, 1) := by decide +kernel
theorem dJ6_bitCount_0f7a4_28 : decode cJ6_bitCount_0f7a4 28 = .ok (.iadd, 1) := by decide +kernel
theorem dJ6_bitCount_0f7a4_29 : decode cJ6_bitCount_0f7a4 29 = .ok (.ldc_w 267, 3) := by decide +kernel
theorem dJ6_bitCount_0f7a4_32 : decode cJ6_bitCount_0f7a4 32 = .ok (.iand, 1) := by decide +kernel
theorem dJ6_bitCount_0f7a4_33 : decode cJ6_bitCount_0f7a4 33 = .ok (.istore_n 0, 1) := by decide +kernel
theorem dJ6_bitCount_0f7a4_34 : decode cJ6_bitCount_0f7a4 34 = .ok (.iload_n 0, 1) := by decide +kernel
theorem dJ6_bitCount_0f7a4_35 : decode cJ6_bitCount_0f7a4 35 = .ok (.iload_n 0, 1) := by decide +kernel
theorem dJ6_bitCount_0f7a4_36 : decode cJ6_bitCount_0f7a4 36 = .ok (.bipush 8, 2) := by decide +kernel
theorem dJ6_bitCount_0f7a4_38 : decode cJ6_bitCount_0f7a4 38 = .ok (.iushr, 1) := by decide +kernel
theorem dJ6_bitCount_0f7a4_39 : decode cJ6_bitCount_0f7a4 39 = .ok (.iadd, 1) := by decide +kernel
theorem dJ6_bitCount_0f7a4_40 : decode cJ6_bitCount_0f7a4 40 = .ok (.istore_n 0, 1) := by decide +kernel
theorem dJ6_bitCount_0f7a4_41 : decode cJ6_bitCount_0f7a4 41 = .ok (.iload_n 0, 1) := by decide +kernel
theorem dJ6_bitCount_0f7a4_42 : decode cJ6_bitCount_0f7a4 42 = .ok (.iload_n 0, 1) := by decide +kernel
theorem dJ6_bitCount_0f7a4_43 : decode cJ6_bitCount_0f7a4 43 = .ok (.bipush 16, 2) := by decide +kernel
theorem dJ6_bitCount_0f7a4_45 : decode cJ6_bitCount_0f7a4 45 = .ok (.iushr, 1) := by decide +kernel
theorem dJ6_bitCount_0f7a4_46 : decode cJ6_bitCount_0f7a4 46 = .ok (.iadd, 1) := by decide +kernel
theorem dJ6_bitCount_0f7a4_47 : decode cJ6_bitCount_0f7a4 47 = .ok (.istore_n 0, 1) := by decide +kernel
theorem dJ6_bitCount_0f7a4_48 : decode cJ6_bitCount_0f7a4 48 = .ok (.iload_n 0, 1) := by decide +kernel
theorem dJ6_bitCount_0f7a4_49 : decode cJ6_bitCount_0f7a4 49 = .ok (.bipush 63, 2) := by decide +kernel
theorem dJ6_bitCount_0f7a4_51 : decode cJ6_bitCount_0f7a4 51 = .ok (.iand, 1) := by decide +kernel
theorem dJ6_bitCount_0f7a4_52 : decode cJ6_bitCount_0f7a4 52 = .ok (.ireturn, 1) := by decide +kernel
