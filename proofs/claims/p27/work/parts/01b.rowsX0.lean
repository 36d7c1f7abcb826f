set_option maxRecDepth 20000 in
theorem ggX0_init_X4_init : GoodIn wsX0_init wsX4_init := goodIn_r _ [19, 20, 2, 3, 21, 22, 41, 42, 43] (by decide +kernel) (by decide +kernel)
set_option maxRecDepth 20000 in
theorem gX0_init_X4_init : GoodIn wsX0_init (wsX4_init) := ggX0_init_X4_init
set_option maxRecDepth 20000 in
theorem ggX0_init_X3_init : GoodIn wsX0_init wsX3_init := goodIn_r _ [24, 25, 2, 3, 7, 26, 51, 52, 53] (by decide +kernel) (by decide +kernel)
set_option maxRecDepth 20000 in
theorem gX0_init_X3_init_n34 : GoodIn wsX0_init (wsX3_init) := ggX0_init_X3_init
set_option maxRecDepth 20000 in
theorem ggX0_init_X4_addRow : GoodIn wsX0_init wsX4_addRow := goodIn_r _ [30, 31, 41, 42, 43] (by decide +kernel) (by decide +kernel)
set_option maxRecDepth 20000 in
theorem gX0_init_X4_addRow : GoodIn wsX0_init (wsV RX0 39 RX4 yX4_addRow wsX4_addRow) := goodIn_app (goodIn_of _ (by decide +kernel)) ggX0_init_X4_addRow
set_option maxRecDepth 20000 in
theorem ggX0_init_X4_put : GoodIn wsX0_init wsX4_put := goodIn_r _ [35, 22, 21, 41, 42, 43] (by decide +kernel) (by decide +kernel)
set_option maxRecDepth 20000 in
theorem gX0_init_X4_put : GoodIn wsX0_init (wsV RX0 43 RX4 yX4_put wsX4_put) := goodIn_app (goodIn_of _ (by decide +kernel)) ggX0_init_X4_put
set_option maxRecDepth 20000 in
theorem ggX0_init_X0_addSetting : GoodIn wsX0_init wsX0_addSetting := goodIn_r _ [40, 12, 27, 28, 29, 6, 30, 31, 32, 33, 34, 35, 22, 21, 44, 45, 46, 47, 48, 49, 50, 41, 42, 43] (by decide +kernel) (by decide +kernel)
set_option maxRecDepth 20000 in
theorem gX0_init_X0_addSetting : GoodIn wsX0_init (wsV RX0 47 RX0 yX0_addSetting wsX0_addSetting) := goodIn_app (goodIn_of _ (by decide +kernel)) ggX0_init_X0_addSetting
theorem dX0_init_0 : decode cX0_init 0 = .ok (.aload_n 0, 1) := by decide +kernel
theorem dX0_init_1 : decode cX0_init 1 = .ok (.invokespecial 3, 3) := by decide +kernel
theorem dX0_init_4 : decode cX0_init 4 = .ok (.aload_n 0, 1) := by decide +kernel
theorem dX0_init_5 : decode cX0_init 5 = .ok (.new 9, 3) := by decide +kernel
theorem dX0_init_8 : decode cX0_init 8 = .ok (.dup, 1) := by decide +kernel
theorem dX0_init_9 : decode cX0_init 9 = .ok (.bipush 16, 2) := by decide +kernel
theorem dX0_init_11 : decode cX0_init 11 = .ok (.newarray .int, 2) := by decide +kernel
theorem dX0_init_13 : decode cX0_init 13 = .ok (.iconst 2, 1) := by decide +kernel
theorem dX0_init_14 : decode cX0_init 14 = .ok (.invokespecial 13, 3) := by decide +kernel
theorem dX0_init_17 : decode cX0_init 17 = .ok (.putfield 16, 3) := by decide +kernel
theorem dX0_init_20 : decode cX0_init 20 = .ok (.aload_n 0, 1) := by decide +kernel
theorem dX0_init_21 : decode cX0_init 21 = .ok (.new 9, 3) := by decide +kernel
theorem dX0_init_24 : decode cX0_init 24 = .ok (.dup, 1) := by decide +kernel
theorem dX0_init_25 : decode cX0_init 25 = .ok (.bipush 80, 2) := by decide +kernel
theorem dX0_init_27 : decode cX0_init 27 = .ok (.newarray .int, 2) := by decide +kernel
theorem dX0_init_29 : decode cX0_init 29 = .ok (.iconst 4, 1) := by decide +kernel
theorem dX0_init_30 : decode cX0_init 30 = .ok (.invokespecial 13, 3) := by decide +kernel
theorem dX0_init_33 : decode cX0_init 33 = .ok (.putfield 20, 3) := by decide +kernel
theorem dX0_init_36 : decode cX0_init 36 = .ok (.aload_n 0, 1) := by decide +kernel
theorem dX0_init_37 : decode cX0_init 37 = .ok (.new 9, 3) := by decide +kernel
theorem dX0_init_40 : decode cX0_init 40 = .ok (.dup, 1) := by decide +kernel
theorem dX0_init_41 : decode cX0_init 41 = .ok (.sipush 320, 3) := by decide +kernel
theorem dX0_init_44 : decode cX0_init 44 = .ok (.newarray .int, 2) := by decide +kernel
theorem dX0_init_46 : decode cX0_init 46 = .ok (.bipush 8, 2) := by decide +kernel
theorem dX0_init_48 : decode cX0_init 48 = .ok (.invokespecial 13, 3) := by decide +kernel
theorem dX0_init_51 : decode cX0_init 51 = .ok (.putfield 23, 3) := by decide +kernel
theorem dX0_init_54 : decode cX0_init 54 = .ok (.aload_n 0, 1) := by decide +kernel
theorem dX0_init_55 : decode cX0_init 55 = .ok (.new 9, 3) := by decide +kernel
theorem dX0_init_58 : decode cX0_init 58 = .ok (.dup, 1) := by decide +kernel
theorem dX0_init_59 : decode cX0_init 59 = .ok (.iconst 4, 1) := by decide +kernel
theorem dX0_init_60 : decode cX0_init 60 = .ok (.newarray .int, 2) := by decide +kernel
theorem dX0_init_62 : decode cX0_init 62 = .ok (.iconst 2, 1) := by decide +kernel
theorem dX0_init_63 : decode cX0_init 63 = .ok (.invokespecial 13, 3) := by decide +kernel
theorem dX0_init_66 : decode cX0_init 66 = .ok (.putfield 26, 3) := by decide +kernel
theorem dX0_init_69 : decode cX0_init 69 = .ok (.aload_n 0, 1) := by decide +kernel
theorem dX0_init_70 : decode cX0_init 70 = .ok (.new 9, 3) := by decide +kernel
theorem dX0_init_73 : decode cX0_init 73 = .ok (.dup, 1) := by decide +kernel
theorem dX0_init_74 : decode cX0_init 74 = .ok (.bipush 12, 2) := by decide +kernel
theorem dX0_init_76 : decode cX0_init 76 = .ok (.newarray .int, 2) := by decide +kernel
theorem dX0_init_78 : decode cX0_init 78 = .ok (.iconst 3, 1) := by decide +kernel
theorem dX0_init_79 : decode cX0_init 79 = .ok (.invokespecial 13, 3) := by decide +kernel
theorem dX0_init_82 : decode cX0_init 82 = .ok (.putfield 29, 3) := by decide +kernel
theorem dX0_init_85 : decode cX0_init 85 = .ok (.aload_n 0, 1) := by decide +kernel
theorem dX0_init_86 : decode cX0_init 86 = .ok (.new 32, 3) := by decide +kernel
theorem dX0_init_89 : decode cX0_init 89 = .ok (.dup, 1) := by decide +kernel
theorem dX0_init_90 : decode cX0_init 90 = .ok (.invokespecial 34, 3) := by decide +kernel
theorem dX0_init_93 : decode cX0_init 93 = .ok (.putfield 35, 3) := by decide +kernel
theorem dX0_init_96 : decode cX0_init 96 = .ok (.iconst 0, 1) := by decide +kernel
theorem dX0_init_97 : decode cX0_init 97 = .ok (.istore_n 1, 1) := by decide +kernel
theorem dX0_init_98 : decode cX0_init 98 = .ok (.iload_n 1, 1) := by decide +kernel
theorem dX0_init_99 : decode cX0_init 99 = .ok (.bipush 8, 2) := by decide +kernel
theorem dX0_init_101 : decode cX0_init 101 = .ok (.if_icmp .ge 26, 3) := by decide +kernel
theorem dX0_init_104 : decode cX0_init 104 = .ok (.aload_n 0, 1) := by decide +kernel
theorem dX0_init_105 : decode cX0_init 105 = .ok (.getfield 16, 3) := by decide +kernel
theorem dX0_init_108 : decode cX0_init 108 = .ok (.aload_n 0, 1) := by decide +kernel
theorem dX0_init_109 : decode cX0_init 109 = .ok (.getfield 16, 3) := by decide +kernel
theorem dX0_init_112 : decode cX0_init 112 = .ok (.invokevirtual 39, 3) := by decide +kernel
theorem dX0_init_115 : decode cX0_init 115 = .ok (.iconst 0, 1) := by decide +kernel
theorem dX0_init_116 : decode cX0_init 116 = .ok (.bipush 100, 2) := by decide +kernel
theorem dX0_init_118 : decode cX0_init 118 = .ok (.invokevirtual 43, 3) := by decide +kernel
theorem dX0_init_121 : decode cX0_init 121 = .ok (.iinc 1 1, 3) := by decide +kernel
theorem dX0_init_124 : decode cX0_init 124 = .ok (.goto (-26), 3) := by decide +kernel
theorem dX0_init_127 : decode cX0_init 127 = .ok (.iconst 0, 1) := by decide +kernel
theorem dX0_init_128 : decode cX0_init 128 = .ok (.istore_n 1, 1) := by decide +kernel
theorem dX0_init_129 : decode cX0_init 129 = .ok (.iload_n 1, 1) := by decide +kernel
theorem dX0_init_130 : decode cX0_init 130 = .ok (.iconst 2, 1) := by decide +kernel
theorem dX0_init_131 : decode cX0_init 131 = .ok (.if_icmp .ge 17, 3) := by decide +kernel
theorem dX0_init_134 : decode cX0_init 134 = .ok (.aload_n 0, 1) := by decide +kernel
theorem dX0_init_135 : decode cX0_init 135 = .ok (.getfield 26, 3) := by decide +kernel
theorem dX0_init_138 : decode cX0_init 138 = .ok (.invokevirtual 39, 3) := by decide +kernel
theorem dX0_init_141 : decode cX0_init 141 = .ok (.pop, 1) := by decide +kernel
theorem dX0_init_142 : decode cX0_init 142 = .ok (.iinc 1 1, 3) := by decide +kernel
theorem dX0_init_145 : decode cX0_init 145 = .ok (.goto (-16), 3) := by decide +kernel
theorem dX0_init_148 : decode cX0_init 148 = .ok (.aload_n 0, 1) := by decide +kernel
theorem dX0_init_149 : decode cX0_init 149 = .ok (.iconst 2, 1) := by decide +kernel
theorem dX0_init_150 : decode cX0_init 150 = .ok (.iconst 0, 1) := by decide +kernel
theorem dX0_init_151 : decode cX0_init 151 = .ok (.bipush 9, 2) := by decide +kernel
theorem dX0_init_153 : decode cX0_init 153 = .ok (.invokevirtual 47, 3) := by decide +kernel
theorem dX0_init_156 : decode cX0_init 156 = .ok (.aload_n 0, 1) := by decide +kernel
theorem dX0_init_157 : decode cX0_init 157 = .ok (.iconst 4, 1) := by decide +kernel
theorem dX0_init_158 : decode cX0_init 158 = .ok (.iconst 0, 1) := by decide +kernel
theorem dX0_init_159 : decode cX0_init 159 = .ok (.bipush 9, 2) := by decide +kernel
theorem dX0_init_161 : decode cX0_init 161 = .ok (.invokevirtual 47, 3) := by decide +kernel
theorem dX0_init_164 : decode cX0_init 164 = .ok (.aload_n 0, 1) := by decide +kernel
theorem dX0_init_165 : decode cX0_init 165 = .ok (.iconst 3, 1) := by decide +kernel
theorem dX0_init_166 : decode cX0_init 166 = .ok (.iconst 1, 1) := by decide +kernel
theorem dX0_init_167 : decode cX0_init 167 = .ok (.bipush 9, 2) := by decide +kernel
theorem dX0_init_169 : decode cX0_init 169 = .ok (.invokevirtual 47, 3) := by decide +kernel
theorem dX0_init_172 : decode cX0_init 172 = .ok (.aload_n 0, 1) := by decide +kernel
theorem dX0_init_173 : decode cX0_init 173 = .ok (.bipush 50, 2) := by decide +kernel
theorem dX0_init_175 : decode cX0_init 175 = .ok (.iconst 0, 1) := by decide +kernel
theorem dX0_init_176 : decode cX0_init 176 = .ok (.sipush 500, 3) := by decide +kernel
theorem dX0_init_179 : decode cX0_init 179 = .ok (.invokevirtual 47, 3) := by decide +kernel
theorem dX0_init_182 : decode cX0_init 182 = .ok (.return_, 1) := by decide +kernel
set_option maxRecDepth 20000 in
theorem ggX0_addSetting_X4_addRow : GoodIn wsX0_addSetting wsX4_addRow := goodIn_r _ [6, 7, 21, 22, 23] (by decide +kernel) (by decide +kernel)
set_option maxRecDepth 20000 in
theorem gX0_addSetting_X4_addRow : GoodIn wsX0_addSetting (wsV RX0 39 RX4 yX4_addRow wsX4_addRow) := goodIn_app (goodIn_of _ (by decide +kernel)) ggX0_addSetting_X4_addRow
set_option maxRecDepth 20000 in
theorem ggX0_addSetting_X4_put : GoodIn wsX0_addSetting wsX4_put := goodIn_r _ [11, 12, 13, 21, 22, 23] (by decide +kernel) (by decide +kernel)
set_option maxRecDepth 20000 in
theorem gX0_addSetting_X4_put : GoodIn wsX0_addSetting (wsV RX0 43 RX4 yX4_put wsX4_put) := goodIn_app (goodIn_of _ (by decide +kernel)) ggX0_addSetting_X4_put
theorem dX0_addSetting_0 : decode cX0_addSetting 0 = .ok (.aload_n 0, 1) := by decide +kernel
theorem dX0_addSetting_1 : decode cX0_addSetting 1 = .ok (.getfield 29, 3) := by decide +kernel
theorem dX0_addSetting_4 : decode cX0_addSetting 4 = .ok (.invokevirtual 39, 3) := by decide +kernel
theorem dX0_addSetting_7 : decode cX0_addSetting 7 = .ok (.istore 4, 2) := by decide +kernel
theorem dX0_addSetting_9 : decode cX0_addSetting 9 = .ok (.aload_n 0, 1) := by decide +kernel
theorem dX0_addSetting_10 : decode cX0_addSetting 10 = .ok (.getfield 29, 3) := by decide +kernel
theorem dX0_addSetting_13 : decode cX0_addSetting 13 = .ok (.iload 4, 2) := by decide +kernel
theorem dX0_addSetting_15 : decode cX0_addSetting 15 = .ok (.iconst 0, 1) := by decide +kernel
theorem dX0_addSetting_16 : decode cX0_addSetting 16 = .ok (.iload_n 1, 1) := by decide +kernel
theorem dX0_addSetting_17 : decode cX0_addSetting 17 = .ok (.invokevirtual 43, 3) := by decide +kernel
theorem dX0_addSetting_20 : decode cX0_addSetting 20 = .ok (.aload_n 0, 1) := by decide +kernel
theorem dX0_addSetting_21 : decode cX0_addSetting 21 = .ok (.getfield 29, 3) := by decide +kernel
theorem dX0_addSetting_24 : decode cX0_addSetting 24 = .ok (.iload 4, 2) := by decide +kernel
theorem dX0_addSetting_26 : decode cX0_addSetting 26 = .ok (.iconst 1, 1) := by decide +kernel
theorem dX0_addSetting_27 : decode cX0_addSetting 27 = .ok (.iload_n 2, 1) := by decide +kernel
theorem dX0_addSetting_28 : decode cX0_addSetting 28 = .ok (.invokevirtual 43, 3) := by decide +kernel
theorem dX0_addSetting_31 : decode cX0_addSetting 31 = .ok (.aload_n 0, 1) := by decide +kernel
theorem dX0_addSetting_32 : decode cX0_addSetting 32 = .ok (.getfield 29, 3) := by decide +kernel
theorem dX0_addSetting_35 : decode cX0_addSetting 35 = .ok (.iload 4, 2) := by decide +kernel
theorem dX0_addSetting_37 : decode cX0_addSetting 37 = .ok (.iconst 2, 1) := by decide +kernel
theorem dX0_addSetting_38 : decode cX0_addSetting 38 = .ok (.iload_n 3, 1) := by decide +kernel
theorem dX0_addSetting_39 : decode cX0_addSetting 39 = .ok (.invokevirtual 43, 3) := by decide +kernel
theorem dX0_addSetting_42 : decode cX0_addSetting 42 = .ok (.return_, 1) := by decide +kernel
set_option maxRecDepth 20000 in
theorem ggX0_copyFrom_X4_copyFrom : GoodIn wsX0_copyFrom wsX4_copyFrom := goodIn_r _ [12, 13, 14, 15, 16, 17, 18, 19, 20, 21, 22, 40, 41, 42] (by decide +kernel) (by decide +kernel)
set_option maxRecDepth 20000 in
theorem gX0_copyFrom_X4_copyFrom : GoodIn wsX0_copyFrom (wsV RX0 50 RX4 yX4_copyFrom wsX4_copyFrom) := goodIn_app (goodIn_of _ (by decide +kernel)) ggX0_copyFrom_X4_copyFrom
set_option maxRecDepth 20000 in
theorem ggX0_copyFrom_X3_copyFrom : GoodIn wsX0_copyFrom wsX3_copyFrom := goodIn_r _ [27, 28, 29, 30, 31, 16, 17, 18, 32, 20, 21, 22, 43, 44, 45] (by decide +kernel) (by decide +kernel)
set_option maxRecDepth 20000 in
theorem gX0_copyFrom_X3_copyFrom : GoodIn wsX0_copyFrom (wsV RX0 54 RX3 yX3_copyFrom wsX3_copyFrom) := goodIn_app (goodIn_of _ (by decide +kernel)) ggX0_copyFrom_X3_copyFrom
theorem dX0_copyFrom_0 : decode cX0_copyFrom 0 = .ok (.aload_n 0, 1) := by decide +kernel
theorem dX0_copyFrom_1 : decode cX0_copyFrom 1 = .ok (.getfield 16, 3) := by decide +kernel
theorem dX0_copyFrom_4 : decode cX0_copyFrom 4 = .ok (.aload_n 1, 1) := by decide +kernel
theorem dX0_copyFrom_5 : decode cX0_copyFrom 5 = .ok (.getfield 16, 3) := by decide +kernel
theorem dX0_copyFrom_8 : decode cX0_copyFrom 8 = .ok (.invokevirtual 50, 3) := by decide +kernel
theorem dX0_copyFrom_11 : decode cX0_copyFrom 11 = .ok (.aload_n 0, 1) := by decide +kernel
theorem dX0_copyFrom_12 : decode cX0_copyFrom 12 = .ok (.getfield 20, 3) := by decide +kernel
theorem dX0_copyFrom_15 : decode cX0_copyFrom 15 = .ok (.aload_n 1, 1) := by decide +kernel
theorem dX0_copyFrom_16 : decode cX0_copyFrom 16 = .ok (.getfield 20, 3) := by decide +kernel
theorem dX0_copyFrom_19 : decode cX0_copyFrom 19 = .ok (.invokevirtual 50, 3) := by decide +kernel
theorem dX0_copyFrom_22 : decode cX0_copyFrom 22 = .ok (.aload_n 0, 1) := by decide +kernel
theorem dX0_copyFrom_23 : decode cX0_copyFrom 23 = .ok (.getfield 23, 3) := by decide +kernel
theorem dX0_copyFrom_26 : decode cX0_copyFrom 26 = .ok (.aload_n 1, 1) := by decide +kernel
theorem dX0_copyFrom_27 : decode cX0_copyFrom 27 = .ok (.getfield 23, 3) := by decide +kernel
theorem dX0_copyFrom_30 : decode cX0_copyFrom 30 = .ok (.invokevirtual 50, 3) := by decide +kernel
theorem dX0_copyFrom_33 : decode cX0_copyFrom 33 = .ok (.aload_n 0, 1) := by decide +kernel
theorem dX0_copyFrom_34 : decode cX0_copyFrom 34 = .ok (.getfield 26, 3) := by decide +kernel
theorem dX0_copyFrom_37 : decode cX0_copyFrom 37 = .ok (.aload_n 1, 1) := by decide +kernel
theorem dX0_copyFrom_38 : decode cX0_copyFrom 38 = .ok (.getfield 26, 3) := by decide +kernel
theorem dX0_copyFrom_41 : decode cX0_copyFrom 41 = .ok (.invokevirtual 50, 3) := by decide +kernel
theorem dX0_copyFrom_44 : decode cX0_copyFrom 44 = .ok (.aload_n 0, 1) := by decide +kernel
theorem dX0_copyFrom_45 : decode cX0_copyFrom 45 = .ok (.getfield 29, 3) := by decide +kernel
theorem dX0_copyFrom_48 : decode cX0_copyFrom 48 = .ok (.aload_n 1, 1) := by decide +kernel
theorem dX0_copyFrom_49 : decode cX0_copyFrom 49 = .ok (.getfield 29, 3) := by decide +kernel
theorem dX0_copyFrom_52 : decode cX0_copyFrom 52 = .ok (.invokevirtual 50, 3) := by decide +kernel
theorem dX0_copyFrom_55 : decode cX0_copyFrom 55 = .ok (.aload_n 0, 1) := by decide +kernel
theorem dX0_copyFrom_56 : decode cX0_copyFrom 56 = .ok (.getfield 35, 3) := by decide +kernel
theorem dX0_copyFrom_59 : decode cX0_copyFrom 59 = .ok (.aload_n 1, 1) := by decide +kernel
theorem dX0_copyFrom_60 : decode cX0_copyFrom 60 = .ok (.getfield 35, 3) := by decide +kernel
theorem dX0_copyFrom_63 : decode cX0_copyFrom 63 = .ok (.invokevirtual 54, 3) := by decide +kernel
theorem dX0_copyFrom_66 : decode cX0_copyFrom 66 = .ok (.aload_n 0, 1) := by decide +kernel
theorem dX0_copyFrom_67 : decode cX0_copyFrom 67 = .ok (.aload_n 1, 1) := by decide +kernel
theorem dX0_copyFrom_68 : decode cX0_copyFrom 68 = .ok (.getfield 57, 3) := by decide +kernel
theorem dX0_copyFrom_71 : decode cX0_copyFrom 71 = .ok (.putfield 57, 3) := by decide +kernel
theorem dX0_copyFrom_74 : decode cX0_copyFrom 74 = .ok (.return_, 1) := by decide +kernel
set_option maxRecDepth 20000 in
theorem ggX0_addRiddle_X4_has : GoodIn wsX0_addRiddle wsX4_has := goodIn_r _ [7, 8, 30, 31, 32] (by decide +kernel) (by decide +kernel)
set_option maxRecDepth 20000 in
theorem gX0_addRiddle_X4_has : GoodIn wsX0_addRiddle (wsV RX0 61 RX4 yX4_has wsX4_has) := goodIn_app (goodIn_of _ (by decide +kernel)) ggX0_addRiddle_X4_has
set_option maxRecDepth 20000 in
theorem ggX0_addRiddle_X4_rows : GoodIn wsX0_addRiddle wsX4_rows := goodIn_r _ [12, 8, 30, 31, 32] (by decide +kernel) (by decide +kernel)
set_option maxRecDepth 20000 in
theorem gX0_addRiddle_X4_rows : GoodIn wsX0_addRiddle (wsV RX0 65 RX4 yX4_rows wsX4_rows) := goodIn_app (goodIn_of _ (by decide +kernel)) ggX0_addRiddle_X4_rows
set_option maxRecDepth 20000 in
theorem ggX0_addRiddle_X4_addRow : GoodIn wsX0_addRiddle wsX4_addRow := goodIn_r _ [16, 8, 30, 31, 32] (by decide +kernel) (by decide +kernel)
set_option maxRecDepth 20000 in
theorem gX0_addRiddle_X4_addRow : GoodIn wsX0_addRiddle (wsV RX0 39 RX4 yX4_addRow wsX4_addRow) := goodIn_app (goodIn_of _ (by decide +kernel)) ggX0_addRiddle_X4_addRow
set_option maxRecDepth 20000 in
theorem ggX0_addRiddle_X4_put : GoodIn wsX0_addRiddle wsX4_put := goodIn_r _ [20, 21, 22, 30, 31, 32] (by decide +kernel) (by decide +kernel)
set_option maxRecDepth 20000 in
theorem gX0_addRiddle_X4_put : GoodIn wsX0_addRiddle (wsV RX0 43 RX4 yX4_put wsX4_put) := goodIn_app (goodIn_of _ (by decide +kernel)) ggX0_addRiddle_X4_put
theorem dX0_addRiddle_0 : decode cX0_addRiddle 0 = .ok (.aload_n 0, 1) := by decide +kernel
theorem dX0_addRiddle_1 : decode cX0_addRiddle 1 = .ok (.getfield 16, 3) := by decide +kernel
theorem dX0_addRiddle_4 : decode cX0_addRiddle 4 = .ok (.iload_n 1, 1) := by decide +kernel
theorem dX0_addRiddle_5 : decode cX0_addRiddle 5 = .ok (.invokevirtual 61, 3) := by decide +kernel
theorem dX0_addRiddle_8 : decode cX0_addRiddle 8 = .ok (.ifCond .ne 5, 3) := by decide +kernel
theorem dX0_addRiddle_11 : decode cX0_addRiddle 11 = .ok (.iconst (-1), 1) := by decide +kernel
theorem dX0_addRiddle_12 : decode cX0_addRiddle 12 = .ok (.ireturn, 1) := by decide +kernel
theorem dX0_addRiddle_13 : decode cX0_addRiddle 13 = .ok (.iload_n 2, 1) := by decide +kernel
theorem dX0_addRiddle_14 : decode cX0_addRiddle 14 = .ok (.iconst 1, 1) := by decide +kernel
theorem dX0_addRiddle_15 : decode cX0_addRiddle 15 = .ok (.if_icmp .lt 19, 3) := by decide +kernel
theorem dX0_addRiddle_18 : decode cX0_addRiddle 18 = .ok (.iload_n 2, 1) := by decide +kernel
theorem dX0_addRiddle_19 : decode cX0_addRiddle 19 = .ok (.bipush 50, 2) := by decide +kernel
theorem dX0_addRiddle_21 : decode cX0_addRiddle 21 = .ok (.if_icmp .gt 13, 3) := by decide +kernel
theorem dX0_addRiddle_24 : decode cX0_addRiddle 24 = .ok (.iload_n 3, 1) := by decide +kernel
theorem dX0_addRiddle_25 : decode cX0_addRiddle 25 = .ok (.ifCond .lt 9, 3) := by decide +kernel
theorem dX0_addRiddle_28 : decode cX0_addRiddle 28 = .ok (.iload_n 3, 1) := by decide +kernel
theorem dX0_addRiddle_29 : decode cX0_addRiddle 29 = .ok (.bipush 99, 2) := by decide +kernel
theorem dX0_addRiddle_31 : decode cX0_addRiddle 31 = .ok (.if_icmp .le 6, 3) := by decide +kernel
theorem dX0_addRiddle_34 : decode cX0_addRiddle 34 = .ok (.bipush (-2), 2) := by decide +kernel
theorem dX0_addRiddle_36 : decode cX0_addRiddle 36 = .ok (.ireturn, 1) := by decide +kernel
theorem dX0_addRiddle_37 : decode cX0_addRiddle 37 = .ok (.aload_n 0, 1) := by decide +kernel
theorem dX0_addRiddle_38 : decode cX0_addRiddle 38 = .ok (.getfield 20, 3) := by decide +kernel
theorem dX0_addRiddle_41 : decode cX0_addRiddle 41 = .ok (.invokevirtual 65, 3) := by decide +kernel
theorem dX0_addRiddle_44 : decode cX0_addRiddle 44 = .ok (.bipush 20, 2) := by decide +kernel
theorem dX0_addRiddle_46 : decode cX0_addRiddle 46 = .ok (.if_icmp .lt 6, 3) := by decide +kernel
theorem dX0_addRiddle_49 : decode cX0_addRiddle 49 = .ok (.bipush (-3), 2) := by decide +kernel
theorem dX0_addRiddle_51 : decode cX0_addRiddle 51 = .ok (.ireturn, 1) := by decide +kernel
theorem dX0_addRiddle_52 : decode cX0_addRiddle 52 = .ok (.aload_n 0, 1) := by decide +kernel
theorem dX0_addRiddle_53 : decode cX0_addRiddle 53 = .ok (.getfield 20, 3) := by decide +kernel
theorem dX0_addRiddle_56 : decode cX0_addRiddle 56 = .ok (.invokevirtual 39, 3) := by decide +kernel
theorem dX0_addRiddle_59 : decode cX0_addRiddle 59 = .ok (.istore 4, 2) := by decide +kernel
theorem dX0_addRiddle_61 : decode cX0_addRiddle 61 = .ok (.aload_n 0, 1) := by decide +kernel
theorem dX0_addRiddle_62 : decode cX0_addRiddle 62 = .ok (.getfield 20, 3) := by decide +kernel
theorem dX0_addRiddle_65 : decode cX0_addRiddle 65 = .ok (.iload 4, 2) := by decide +kernel
theorem dX0_addRiddle_67 : decode cX0_addRiddle 67 = .ok (.iconst 0, 1) := by decide +kernel
theorem dX0_addRiddle_68 : decode cX0_addRiddle 68 = .ok (.iload_n 1, 1) := by decide +kernel
theorem dX0_addRiddle_69 : decode cX0_addRiddle 69 = .ok (.invokevirtual 43, 3) := by decide +kernel
theorem dX0_addRiddle_72 : decode cX0_addRiddle 72 = .ok (.aload_n 0, 1) := by decide +kernel
theorem dX0_addRiddle_73 : decode cX0_addRiddle 73 = .ok (.getfield 20, 3) := by decide +kernel
theorem dX0_addRiddle_76 : decode cX0_addRiddle 76 = .ok (.iload 4, 2) := by decide +kernel
theorem dX0_addRiddle_78 : decode cX0_addRiddle 78 = .ok (.iconst 1, 1) := by decide +kernel
theorem dX0_addRiddle_79 : decode cX0_addRiddle 79 = .ok (.iload_n 2, 1) := by decide +kernel
theorem dX0_addRiddle_80 : decode cX0_addRiddle 80 = .ok (.invokevirtual 43, 3) := by decide +kernel
theorem dX0_addRiddle_83 : decode cX0_addRiddle 83 = .ok (.aload_n 0, 1) := by decide +kernel
theorem dX0_addRiddle_84 : decode cX0_addRiddle 84 = .ok (.getfield 20, 3) := by decide +kernel
theorem dX0_addRiddle_87 : decode cX0_addRiddle 87 = .ok (.iload 4, 2) := by decide +kernel
theorem dX0_addRiddle_89 : decode cX0_addRiddle 89 = .ok (.iconst 2, 1) := by decide +kernel
theorem dX0_addRiddle_90 : decode cX0_addRiddle 90 = .ok (.iload_n 3, 1) := by decide +kernel
theorem dX0_addRiddle_91 : decode cX0_addRiddle 91 = .ok (.invokevirtual 43, 3) := by decide +kernel
theorem dX0_addRiddle_94 : decode cX0_addRiddle 94 = .ok (.aload_n 0, 1) := by decide +kernel
theorem dX0_addRiddle_95 : decode cX0_addRiddle 95 = .ok (.getfield 20, 3) := by decide +kernel
theorem dX0_addRiddle_98 : decode cX0_addRiddle 98 = .ok (.iload 4, 2) := by decide +kernel
theorem dX0_addRiddle_100 : decode cX0_addRiddle 100 = .ok (.iconst 3, 1) := by decide +kernel
theorem dX0_addRiddle_101 : decode cX0_addRiddle 101 = .ok (.iconst 0, 1) := by decide +kernel
theorem dX0_addRiddle_102 : decode cX0_addRiddle 102 = .ok (.invokevirtual 43, 3) := by decide +kernel
theorem dX0_addRiddle_105 : decode cX0_addRiddle 105 = .ok (.iload 4, 2) := by decide +kernel
theorem dX0_addRiddle_107 : decode cX0_addRiddle 107 = .ok (.ireturn, 1) := by decide +kernel
set_option maxRecDepth 20000 in
theorem ggX0_closeRiddle_X4_has : GoodIn wsX0_closeRiddle wsX4_has := goodIn_r _ [7, 8, 31, 32, 33] (by decide +kernel) (by decide +kernel)
set_option maxRecDepth 20000 in
theorem gX0_closeRiddle_X4_has : GoodIn wsX0_closeRiddle (wsV RX0 61 RX4 yX4_has wsX4_has) := goodIn_app (goodIn_of _ (by decide +kernel)) ggX0_closeRiddle_X4_has
set_option maxRecDepth 20000 in
theorem ggX0_closeRiddle_X4_get : GoodIn wsX0_closeRiddle wsX4_get := goodIn_r _ [12, 13, 14, 31, 32, 33] (by decide +kernel) (by decide +kernel)
set_option maxRecDepth 20000 in
theorem gX0_closeRiddle_X4_get : GoodIn wsX0_closeRiddle (wsV RX0 68 RX4 yX4_get wsX4_get) := goodIn_app (goodIn_of _ (by decide +kernel)) ggX0_closeRiddle_X4_get
set_option maxRecDepth 20000 in
theorem ggX0_closeRiddle_X4_put : GoodIn wsX0_closeRiddle wsX4_put := goodIn_r _ [18, 13, 14, 31, 32, 33] (by decide +kernel) (by decide +kernel)
set_option maxRecDepth 20000 in
theorem gX0_closeRiddle_X4_put : GoodIn wsX0_closeRiddle (wsV RX0 43 RX4 yX4_put wsX4_put) := goodIn_app (goodIn_of _ (by decide +kernel)) ggX0_closeRiddle_X4_put
set_option maxRecDepth 20000 in
theorem ggX0_closeRiddle_X4_countOfBoth : GoodIn wsX0_closeRiddle wsX4_countOfBoth := goodIn_r _ [22, 8, 23, 10, 11, 6, 12, 13, 14, 31, 32, 33] (by decide +kernel) (by decide +kernel)
set_option maxRecDepth 20000 in
theorem gX0_closeRiddle_X4_countOfBoth : GoodIn wsX0_closeRiddle (wsV RX0 72 RX4 yX4_countOfBoth wsX4_countOfBoth) := goodIn_app (goodIn_of _ (by decide +kernel)) ggX0_closeRiddle_X4_countOfBoth
theorem dX0_closeRiddle_0 : decode cX0_closeRiddle 0 = .ok (.aload_n 0, 1) := by decide +kernel
theorem dX0_closeRiddle_1 : decode cX0_closeRiddle 1 = .ok (.getfield 20, 3) := by decide +kernel
theorem dX0_closeRiddle_4 : decode cX0_closeRiddle 4 = .ok (.iload_n 1, 1) := by decide +kernel
theorem dX0_closeRiddle_5 : decode cX0_closeRiddle 5 = .ok (.invokevirtual 61, 3) := by decide +kernel
theorem dX0_closeRiddle_8 : decode cX0_closeRiddle 8 = .ok (.ifCond .ne 5, 3) := by decide +kernel
theorem dX0_closeRiddle_11 : decode cX0_closeRiddle 11 = .ok (.iconst (-1), 1) := by decide +kernel
theorem dX0_closeRiddle_12 : decode cX0_closeRiddle 12 = .ok (.ireturn, 1) := by decide +kernel
theorem dX0_closeRiddle_13 : decode cX0_closeRiddle 13 = .ok (.aload_n 0, 1) := by decide +kernel
theorem dX0_closeRiddle_14 : decode cX0_closeRiddle 14 = .ok (.getfield 20, 3) := by decide +kernel
theorem dX0_closeRiddle_17 : decode cX0_closeRiddle 17 = .ok (.iload_n 1, 1) := by decide +kernel
theorem dX0_closeRiddle_18 : decode cX0_closeRiddle 18 = .ok (.iconst 3, 1) := by decide +kernel
theorem dX0_closeRiddle_19 : decode cX0_closeRiddle 19 = .ok (.invokevirtual 68, 3) := by decide +kernel
theorem dX0_closeRiddle_22 : decode cX0_closeRiddle 22 = .ok (.ifCond .eq 6, 3) := by decide +kernel
theorem dX0_closeRiddle_25 : decode cX0_closeRiddle 25 = .ok (.bipush (-4), 2) := by decide +kernel
theorem dX0_closeRiddle_27 : decode cX0_closeRiddle 27 = .ok (.ireturn, 1) := by decide +kernel
theorem dX0_closeRiddle_28 : decode cX0_closeRiddle 28 = .ok (.aload_n 0, 1) := by decide +kernel
theorem dX0_closeRiddle_29 : decode cX0_closeRiddle 29 = .ok (.getfield 20, 3) := by decide +kernel
theorem dX0_closeRiddle_32 : decode cX0_closeRiddle 32 = .ok (.iload_n 1, 1) := by decide +kernel
theorem dX0_closeRiddle_33 : decode cX0_closeRiddle 33 = .ok (.iconst 3, 1) := by decide +kernel
theorem dX0_closeRiddle_34 : decode cX0_closeRiddle 34 = .ok (.iconst 2, 1) := by decide +kernel
theorem dX0_closeRiddle_35 : decode cX0_closeRiddle 35 = .ok (.invokevirtual 43, 3) := by decide +kernel
theorem dX0_closeRiddle_38 : decode cX0_closeRiddle 38 = .ok (.aload_n 0, 1) := by decide +kernel
theorem dX0_closeRiddle_39 : decode cX0_closeRiddle 39 = .ok (.getfield 23, 3) := by decide +kernel
theorem dX0_closeRiddle_42 : decode cX0_closeRiddle 42 = .ok (.iconst 1, 1) := by decide +kernel
theorem dX0_closeRiddle_43 : decode cX0_closeRiddle 43 = .ok (.iload_n 1, 1) := by decide +kernel
theorem dX0_closeRiddle_44 : decode cX0_closeRiddle 44 = .ok (.iconst 4, 1) := by decide +kernel
theorem dX0_closeRiddle_45 : decode cX0_closeRiddle 45 = .ok (.iconst 0, 1) := by decide +kernel
theorem dX0_closeRiddle_46 : decode cX0_closeRiddle 46 = .ok (.invokevirtual 72, 3) := by decide +kernel
theorem dX0_closeRiddle_49 : decode cX0_closeRiddle 49 = .ok (.ireturn, 1) := by decide +kernel
set_option maxRecDepth 20000 in
theorem ggX0_addAnswer_X4_has : GoodIn wsX0_addAnswer wsX4_has := goodIn_r _ [9, 10, 44, 45, 46] (by decide +kernel) (by decide +kernel)
set_option maxRecDepth 20000 in
theorem gX0_addAnswer_X4_has : GoodIn wsX0_addAnswer (wsV RX0 61 RX4 yX4_has wsX4_has) := goodIn_app (goodIn_of _ (by decide +kernel)) ggX0_addAnswer_X4_has
set_option maxRecDepth 20000 in
theorem ggX0_addAnswer_X4_get : GoodIn wsX0_addAnswer wsX4_get := goodIn_r _ [14, 15, 16, 44, 45, 46] (by decide +kernel) (by decide +kernel)
set_option maxRecDepth 20000 in
theorem gX0_addAnswer_X4_get : GoodIn wsX0_addAnswer (wsV RX0 68 RX4 yX4_get wsX4_get) := goodIn_app (goodIn_of _ (by decide +kernel)) ggX0_addAnswer_X4_get
set_option maxRecDepth 20000 in
theorem ggX0_addAnswer_X4_rows : GoodIn wsX0_addAnswer wsX4_rows := goodIn_r _ [20, 10, 44, 45, 46] (by decide +kernel) (by decide +kernel)
set_option maxRecDepth 20000 in
theorem gX0_addAnswer_X4_rows : GoodIn wsX0_addAnswer (wsV RX0 65 RX4 yX4_rows wsX4_rows) := goodIn_app (goodIn_of _ (by decide +kernel)) ggX0_addAnswer_X4_rows
set_option maxRecDepth 20000 in
theorem ggX0_addAnswer_X4_addRow : GoodIn wsX0_addAnswer wsX4_addRow := goodIn_r _ [24, 10, 44, 45, 46] (by decide +kernel) (by decide +kernel)
set_option maxRecDepth 20000 in
theorem gX0_addAnswer_X4_addRow : GoodIn wsX0_addAnswer (wsV RX0 39 RX4 yX4_addRow wsX4_addRow) := goodIn_app (goodIn_of _ (by decide +kernel)) ggX0_addAnswer_X4_addRow
set_option maxRecDepth 20000 in
theorem ggX0_addAnswer_X4_put : GoodIn wsX0_addAnswer wsX4_put := goodIn_r _ [28, 15, 16, 44, 45, 46] (by decide +kernel) (by decide +kernel)
set_option maxRecDepth 20000 in
theorem gX0_addAnswer_X4_put : GoodIn wsX0_addAnswer (wsV RX0 43 RX4 yX4_put wsX4_put) := goodIn_app (goodIn_of _ (by decide +kernel)) ggX0_addAnswer_X4_put
set_option maxRecDepth 20000 in
theorem ggX0_addAnswer_X3_addLast : GoodIn wsX0_addAnswer wsX3_addLast := goodIn_r _ [33, 34, 35, 36, 47, 48, 49] (by decide +kernel) (by decide +kernel)
set_option maxRecDepth 20000 in
theorem gX0_addAnswer_X3_addLast : GoodIn wsX0_addAnswer (wsV RX0 76 RX3 yX3_addLast wsX3_addLast) := goodIn_app (goodIn_of _ (by decide +kernel)) ggX0_addAnswer_X3_addLast
theorem dX0_addAnswer_0 : decode cX0_addAnswer 0 = .ok (.aload_n 0, 1) := by decide +kernel
theorem dX0_addAnswer_1 : decode cX0_addAnswer 1 = .ok (.getfield 16, 3) := by decide +kernel
theorem dX0_addAnswer_4 : decode cX0_addAnswer 4 = .ok (.iload_n 1, 1) := by decide +kernel
theorem dX0_addAnswer_5 : decode cX0_addAnswer 5 = .ok (.invokevirtual 61, 3) := by decide +kernel
theorem dX0_addAnswer_8 : decode cX0_addAnswer 8 = .ok (.ifCond .eq 14, 3) := by decide +kernel
theorem dX0_addAnswer_11 : decode cX0_addAnswer 11 = .ok (.aload_n 0, 1) := by decide +kernel
theorem dX0_addAnswer_12 : decode cX0_addAnswer 12 = .ok (.getfield 20, 3) := by decide +kernel
theorem dX0_addAnswer_15 : decode cX0_addAnswer 15 = .ok (.iload_n 2, 1) := by decide +kernel
theorem dX0_addAnswer_16 : decode cX0_addAnswer 16 = .ok (.invokevirtual 61, 3) := by decide +kernel
theorem dX0_addAnswer_19 : decode cX0_addAnswer 19 = .ok (.ifCond .ne 5, 3) := by decide +kernel
theorem dX0_addAnswer_22 : decode cX0_addAnswer 22 = .ok (.iconst (-1), 1) := by decide +kernel
theorem dX0_addAnswer_23 : decode cX0_addAnswer 23 = .ok (.ireturn, 1) := by decide +kernel
theorem dX0_addAnswer_24 : decode cX0_addAnswer 24 = .ok (.iload_n 3, 1) := by decide +kernel
theorem dX0_addAnswer_25 : decode cX0_addAnswer 25 = .ok (.ifCond .lt 22, 3) := by decide +kernel
theorem dX0_addAnswer_28 : decode cX0_addAnswer 28 = .ok (.iload_n 3, 1) := by decide +kernel
theorem dX0_addAnswer_29 : decode cX0_addAnswer 29 = .ok (.bipush 99, 2) := by decide +kernel
theorem dX0_addAnswer_31 : decode cX0_addAnswer 31 = .ok (.if_icmp .gt 16, 3) := by decide +kernel
theorem dX0_addAnswer_34 : decode cX0_addAnswer 34 = .ok (.iload 4, 2) := by decide +kernel
theorem dX0_addAnswer_36 : decode cX0_addAnswer 36 = .ok (.iconst 1, 1) := by decide +kernel
theorem dX0_addAnswer_37 : decode cX0_addAnswer 37 = .ok (.if_icmp .lt 10, 3) := by decide +kernel
theorem dX0_addAnswer_40 : decode cX0_addAnswer 40 = .ok (.iload 4, 2) := by decide +kernel
theorem dX0_addAnswer_42 : decode cX0_addAnswer 42 = .ok (.bipush 99, 2) := by decide +kernel
theorem dX0_addAnswer_44 : decode cX0_addAnswer 44 = .ok (.if_icmp .le 6, 3) := by decide +kernel
theorem dX0_addAnswer_47 : decode cX0_addAnswer 47 = .ok (.bipush (-2), 2) := by decide +kernel
theorem dX0_addAnswer_49 : decode cX0_addAnswer 49 = .ok (.ireturn, 1) := by decide +kernel
theorem dX0_addAnswer_50 : decode cX0_addAnswer 50 = .ok (.aload_n 0, 1) := by decide +kernel
theorem dX0_addAnswer_51 : decode cX0_addAnswer 51 = .ok (.getfield 20, 3) := by decide +kernel
theorem dX0_addAnswer_54 : decode cX0_addAnswer 54 = .ok (.iload_n 2, 1) := by decide +kernel
theorem dX0_addAnswer_55 : decode cX0_addAnswer 55 = .ok (.iconst 3, 1) := by decide +kernel
theorem dX0_addAnswer_56 : decode cX0_addAnswer 56 = .ok (.invokevirtual 68, 3) := by decide +kernel
theorem dX0_addAnswer_59 : decode cX0_addAnswer 59 = .ok (.ifCond .ne 16, 3) := by decide +kernel
theorem dX0_addAnswer_62 : decode cX0_addAnswer 62 = .ok (.aload_n 0, 1) := by decide +kernel
theorem dX0_addAnswer_63 : decode cX0_addAnswer 63 = .ok (.getfield 20, 3) := by decide +kernel
theorem dX0_addAnswer_66 : decode cX0_addAnswer 66 = .ok (.iload_n 2, 1) := by decide +kernel
theorem dX0_addAnswer_67 : decode cX0_addAnswer 67 = .ok (.iconst 0, 1) := by decide +kernel
theorem dX0_addAnswer_68 : decode cX0_addAnswer 68 = .ok (.invokevirtual 68, 3) := by decide +kernel
theorem dX0_addAnswer_71 : decode cX0_addAnswer 71 = .ok (.iload_n 1, 1) := by decide +kernel
theorem dX0_addAnswer_72 : decode cX0_addAnswer 72 = .ok (.if_icmp .ne 6, 3) := by decide +kernel
theorem dX0_addAnswer_75 : decode cX0_addAnswer 75 = .ok (.bipush (-4), 2) := by decide +kernel
theorem dX0_addAnswer_77 : decode cX0_addAnswer 77 = .ok (.ireturn, 1) := by decide +kernel
theorem dX0_addAnswer_78 : decode cX0_addAnswer 78 = .ok (.aload_n 0, 1) := by decide +kernel
theorem dX0_addAnswer_79 : decode cX0_addAnswer 79 = .ok (.getfield 23, 3) := by decide +kernel
theorem dX0_addAnswer_82 : decode cX0_addAnswer 82 = .ok (.invokevirtual 65, 3) := by decide +kernel
theorem dX0_addAnswer_85 : decode cX0_addAnswer 85 = .ok (.bipush 40, 2) := by decide +kernel
theorem dX0_addAnswer_87 : decode cX0_addAnswer 87 = .ok (.if_icmp .lt 6, 3) := by decide +kernel
theorem dX0_addAnswer_90 : decode cX0_addAnswer 90 = .ok (.bipush (-3), 2) := by decide +kernel
theorem dX0_addAnswer_92 : decode cX0_addAnswer 92 = .ok (.ireturn, 1) := by decide +kernel
theorem dX0_addAnswer_93 : decode cX0_addAnswer 93 = .ok (.aload_n 0, 1) := by decide +kernel
theorem dX0_addAnswer_94 : decode cX0_addAnswer 94 = .ok (.getfield 23, 3) := by decide +kernel
theorem dX0_addAnswer_97 : decode cX0_addAnswer 97 = .ok (.invokevirtual 39, 3) := by decide +kernel
theorem dX0_addAnswer_100 : decode cX0_addAnswer 100 = .ok (.istore 5, 2) := by decide +kernel
theorem dX0_addAnswer_102 : decode cX0_addAnswer 102 = .ok (.aload_n 0, 1) := by decide +kernel
theorem dX0_addAnswer_103 : decode cX0_addAnswer 103 = .ok (.getfield 23, 3) := by decide +kernel
theorem dX0_addAnswer_106 : decode cX0_addAnswer 106 = .ok (.iload 5, 2) := by decide +kernel
theorem dX0_addAnswer_108 : decode cX0_addAnswer 108 = .ok (.iconst 0, 1) := by decide +kernel
theorem dX0_addAnswer_109 : decode cX0_addAnswer 109 = .ok (.iload_n 1, 1) := by decide +kernel
theorem dX0_addAnswer_110 : decode cX0_addAnswer 110 = .ok (.invokevirtual 43, 3) := by decide +kernel
theorem dX0_addAnswer_113 : decode cX0_addAnswer 113 = .ok (.aload_n 0, 1) := by decide +kernel
theorem dX0_addAnswer_114 : decode cX0_addAnswer 114 = .ok (.getfield 23, 3) := by decide +kernel
theorem dX0_addAnswer_117 : decode cX0_addAnswer 117 = .ok (.iload 5, 2) := by decide +kernel
theorem dX0_addAnswer_119 : decode cX0_addAnswer 119 = .ok (.iconst 1, 1) := by decide +kernel
theorem dX0_addAnswer_120 : decode cX0_addAnswer 120 = .ok (.iload_n 2, 1) := by decide +kernel
theorem dX0_addAnswer_121 : decode cX0_addAnswer 121 = .ok (.invokevirtual 43, 3) := by decide +kernel
theorem dX0_addAnswer_124 : decode cX0_addAnswer 124 = .ok (.aload_n 0, 1) := by decide +kernel
theorem dX0_addAnswer_125 : decode cX0_addAnswer 125 = .ok (.getfield 23, 3) := by decide +kernel
theorem dX0_addAnswer_128 : decode cX0_addAnswer 128 = .ok (.iload 5, 2) := by decide +kernel
theorem dX0_addAnswer_130 : decode cX0_addAnswer 130 = .ok (.iconst 2, 1) := by decide +kernel
theorem dX0_addAnswer_131 : decode cX0_addAnswer 131 = .ok (.iload_n 3, 1) := by decide +kernel
theorem dX0_addAnswer_132 : decode cX0_addAnswer 132 = .ok (.invokevirtual 43, 3) := by decide +kernel
theorem dX0_addAnswer_135 : decode cX0_addAnswer 135 = .ok (.aload_n 0, 1) := by decide +kernel
theorem dX0_addAnswer_136 : decode cX0_addAnswer 136 = .ok (.getfield 23, 3) := by decide +kernel
theorem dX0_addAnswer_139 : decode cX0_addAnswer 139 = .ok (.iload 5, 2) := by decide +kernel
theorem dX0_addAnswer_141 : decode cX0_addAnswer 141 = .ok (.iconst 3, 1) := by decide +kernel
theorem dX0_addAnswer_142 : decode cX0_addAnswer 142 = .ok (.iload 4, 2) := by decide +kernel
theorem dX0_addAnswer_144 : decode cX0_addAnswer 144 = .ok (.invokevirtual 43, 3) := by decide +kernel
theorem dX0_addAnswer_147 : decode cX0_addAnswer 147 = .ok (.aload_n 0, 1) := by decide +kernel
theorem dX0_addAnswer_148 : decode cX0_addAnswer 148 = .ok (.getfield 23, 3) := by decide +kernel
theorem dX0_addAnswer_151 : decode cX0_addAnswer 151 = .ok (.iload 5, 2) := by decide +kernel
theorem dX0_addAnswer_153 : decode cX0_addAnswer 153 = .ok (.iconst 4, 1) := by decide +kernel
theorem dX0_addAnswer_154 : decode cX0_addAnswer 154 = .ok (.iconst 0, 1) := by decide +kernel
theorem dX0_addAnswer_155 : decode cX0_addAnswer 155 = .ok (.invokevirtual 43, 3) := by decide +kernel
theorem dX0_addAnswer_158 : decode cX0_addAnswer 158 = .ok (.aload_n 0, 1) := by decide +kernel
theorem dX0_addAnswer_159 : decode cX0_addAnswer 159 = .ok (.getfield 23, 3) := by decide +kernel
theorem dX0_addAnswer_162 : decode cX0_addAnswer 162 = .ok (.iload 5, 2) := by decide +kernel
theorem dX0_addAnswer_164 : decode cX0_addAnswer 164 = .ok (.iconst 5, 1) := by decide +kernel
theorem dX0_addAnswer_165 : decode cX0_addAnswer 165 = .ok (.iconst 0, 1) := by decide +kernel
theorem dX0_addAnswer_166 : decode cX0_addAnswer 166 = .ok (.invokevirtual 43, 3) := by decide +kernel
theorem dX0_addAnswer_169 : decode cX0_addAnswer 169 = .ok (.aload_n 0, 1) := by decide +kernel
theorem dX0_addAnswer_170 : decode cX0_addAnswer 170 = .ok (.getfield 23, 3) := by decide +kernel
theorem dX0_addAnswer_173 : decode cX0_addAnswer 173 = .ok (.iload 5, 2) := by decide +kernel
theorem dX0_addAnswer_175 : decode cX0_addAnswer 175 = .ok (.bipush 6, 2) := by decide +kernel
theorem dX0_addAnswer_177 : decode cX0_addAnswer 177 = .ok (.iconst 0, 1) := by decide +kernel
theorem dX0_addAnswer_178 : decode cX0_addAnswer 178 = .ok (.invokevirtual 43, 3) := by decide +kernel
theorem dX0_addAnswer_181 : decode cX0_addAnswer 181 = .ok (.aload_n 0, 1) := by decide +kernel
theorem dX0_addAnswer_182 : decode cX0_addAnswer 182 = .ok (.getfield 23, 3) := by decide +kernel
theorem dX0_addAnswer_185 : decode cX0_addAnswer 185 = .ok (.iload 5, 2) := by decide +kernel
theorem dX0_addAnswer_187 : decode cX0_addAnswer 187 = .ok (.bipush 7, 2) := by decide +kernel
theorem dX0_addAnswer_189 : decode cX0_addAnswer 189 = .ok (.iconst 0, 1) := by decide +kernel
theorem dX0_addAnswer_190 : decode cX0_addAnswer 190 = .ok (.invokevirtual 43, 3) := by decide +kernel
theorem dX0_addAnswer_193 : decode cX0_addAnswer 193 = .ok (.aload_n 0, 1) := by decide +kernel
theorem dX0_addAnswer_194 : decode cX0_addAnswer 194 = .ok (.getfield 35, 3) := by decide +kernel
theorem dX0_addAnswer_197 : decode cX0_addAnswer 197 = .ok (.iload 5, 2) := by decide +kernel
theorem dX0_addAnswer_199 : decode cX0_addAnswer 199 = .ok (.invokevirtual 76, 3) := by decide +kernel
theorem dX0_addAnswer_202 : decode cX0_addAnswer 202 = .ok (.iload 5, 2) := by decide +kernel
theorem dX0_addAnswer_204 : decode cX0_addAnswer 204 = .ok (.ireturn, 1) := by decide +kernel
set_option maxRecDepth 20000 in
theorem ggX0_setScalesRight_X4_get : GoodIn wsX0_setScalesRight wsX4_get := goodIn_r _ [10, 11, 12, 24, 25, 26] (by decide +kernel) (by decide +kernel)
set_option maxRecDepth 20000 in
theorem gX0_setScalesRight_X4_get : GoodIn wsX0_setScalesRight (wsV RX0 68 RX4 yX4_get wsX4_get) := goodIn_app (goodIn_of _ (by decide +kernel)) ggX0_setScalesRight_X4_get
set_option maxRecDepth 20000 in
theorem ggX0_setScalesRight_X4_put : GoodIn wsX0_setScalesRight wsX4_put := goodIn_r _ [16, 11, 12, 24, 25, 26] (by decide +kernel) (by decide +kernel)
set_option maxRecDepth 20000 in
theorem gX0_setScalesRight_X4_put : GoodIn wsX0_setScalesRight (wsV RX0 43 RX4 yX4_put wsX4_put) := goodIn_app (goodIn_of _ (by decide +kernel)) ggX0_setScalesRight_X4_put
theorem dX0_setScalesRight_0 : decode cX0_setScalesRight 0 = .ok (.iconst 0, 1) := by decide +kernel
theorem dX0_setScalesRight_1 : decode cX0_setScalesRight 1 = .ok (.istore_n 1, 1) := by decide +kernel
theorem dX0_setScalesRight_2 : decode cX0_setScalesRight 2 = .ok (.iconst 0, 1) := by decide +kernel
theorem dX0_setScalesRight_3 : decode cX0_setScalesRight 3 = .ok (.istore_n 2, 1) := by decide +kernel
theorem dX0_setScalesRight_4 : decode cX0_setScalesRight 4 = .ok (.iload_n 2, 1) := by decide +kernel
theorem dX0_setScalesRight_5 : decode cX0_setScalesRight 5 = .ok (.iconst 2, 1) := by decide +kernel
theorem dX0_setScalesRight_6 : decode cX0_setScalesRight 6 = .ok (.if_icmp .ge 34, 3) := by decide +kernel
theorem dX0_setScalesRight_9 : decode cX0_setScalesRight 9 = .ok (.iload_n 1, 1) := by decide +kernel
theorem dX0_setScalesRight_10 : decode cX0_setScalesRight 10 = .ok (.aload_n 0, 1) := by decide +kernel
theorem dX0_setScalesRight_11 : decode cX0_setScalesRight 11 = .ok (.getfield 26, 3) := by decide +kernel
theorem dX0_setScalesRight_14 : decode cX0_setScalesRight 14 = .ok (.iload_n 2, 1) := by decide +kernel
theorem dX0_setScalesRight_15 : decode cX0_setScalesRight 15 = .ok (.iconst 0, 1) := by decide +kernel
theorem dX0_setScalesRight_16 : decode cX0_setScalesRight 16 = .ok (.invokevirtual 68, 3) := by decide +kernel
theorem dX0_setScalesRight_19 : decode cX0_setScalesRight 19 = .ok (.invokestatic 80, 3) := by decide +kernel
theorem dX0_setScalesRight_22 : decode cX0_setScalesRight 22 = .ok (.iadd, 1) := by decide +kernel
theorem dX0_setScalesRight_23 : decode cX0_setScalesRight 23 = .ok (.istore_n 1, 1) := by decide +kernel
theorem dX0_setScalesRight_24 : decode cX0_setScalesRight 24 = .ok (.aload_n 0, 1) := by decide +kernel
theorem dX0_setScalesRight_25 : decode cX0_setScalesRight 25 = .ok (.getfield 26, 3) := by decide +kernel
theorem dX0_setScalesRight_28 : decode cX0_setScalesRight 28 = .ok (.iload_n 2, 1) := by decide +kernel
theorem dX0_setScalesRight_29 : decode cX0_setScalesRight 29 = .ok (.iconst 0, 1) := by decide +kernel
theorem dX0_setScalesRight_30 : decode cX0_setScalesRight 30 = .ok (.iconst 0, 1) := by decide +kernel
theorem dX0_setScalesRight_31 : decode cX0_setScalesRight 31 = .ok (.invokevirtual 43, 3) := by decide +kernel
theorem dX0_setScalesRight_34 : decode cX0_setScalesRight 34 = .ok (.iinc 2 1, 3) := by decide +kernel
theorem dX0_setScalesRight_37 : decode cX0_setScalesRight 37 = .ok (.goto (-33), 3) := by decide +kernel
theorem dX0_setScalesRight_40 : decode cX0_setScalesRight 40 = .ok (.iload_n 1, 1) := by decide +kernel
theorem dX0_setScalesRight_41 : decode cX0_setScalesRight 41 = .ok (.ifCond .ne 8, 3) := by decide +kernel
theorem dX0_setScalesRight_44 : decode cX0_setScalesRight 44 = .ok (.bipush (-5), 2) := by decide +kernel
theorem dX0_setScalesRight_46 : decode cX0_setScalesRight 46 = .ok (.goto 4, 3) := by decide +kernel
theorem dX0_setScalesRight_49 : decode cX0_setScalesRight 49 = .ok (.iload_n 1, 1) := by decide +kernel
theorem dX0_setScalesRight_50 : decode cX0_setScalesRight 50 = .ok (.ireturn, 1) := by decide +kernel
set_option maxRecDepth 20000 in
theorem ggX0_changeSetting_X4_has : GoodIn wsX0_changeSetting wsX4_has := goodIn_r _ [6, 7, 25, 26, 27] (by decide +kernel) (by decide +kernel)
set_option maxRecDepth 20000 in
theorem gX0_changeSetting_X4_has : GoodIn wsX0_changeSetting (wsV RX0 61 RX4 yX4_has wsX4_has) := goodIn_app (goodIn_of _ (by decide +kernel)) ggX0_changeSetting_X4_has
set_option maxRecDepth 20000 in
theorem ggX0_changeSetting_X4_get : GoodIn wsX0_changeSetting wsX4_get := goodIn_r _ [11, 12, 13, 25, 26, 27] (by decide +kernel) (by decide +kernel)
set_option maxRecDepth 20000 in
theorem gX0_changeSetting_X4_get : GoodIn wsX0_changeSetting (wsV RX0 68 RX4 yX4_get wsX4_get) := goodIn_app (goodIn_of _ (by decide +kernel)) ggX0_changeSetting_X4_get
set_option maxRecDepth 20000 in
theorem ggX0_changeSetting_X4_put : GoodIn wsX0_changeSetting wsX4_put := goodIn_r _ [17, 12, 13, 25, 26, 27] (by decide +kernel) (by decide +kernel)
set_option maxRecDepth 20000 in
theorem gX0_changeSetting_X4_put : GoodIn wsX0_changeSetting (wsV RX0 43 RX4 yX4_put wsX4_put) := goodIn_app (goodIn_of _ (by decide +kernel)) ggX0_changeSetting_X4_put
theorem dX0_changeSetting_0 : decode cX0_changeSetting 0 = .ok (.aload_n 0, 1) := by decide +kernel
theorem dX0_changeSetting_1 : decode cX0_changeSetting 1 = .ok (.getfield 29, 3) := by decide +kernel
theorem dX0_changeSetting_4 : decode cX0_changeSetting 4 = .ok (.iload_n 1, 1) := by decide +kernel
theorem dX0_changeSetting_5 : decode cX0_changeSetting 5 = .ok (.invokevirtual 61, 3) := by decide +kernel
theorem dX0_changeSetting_8 : decode cX0_changeSetting 8 = .ok (.ifCond .ne 5, 3) := by decide +kernel
theorem dX0_changeSetting_11 : decode cX0_changeSetting 11 = .ok (.iconst (-1), 1) := by decide +kernel
theorem dX0_changeSetting_12 : decode cX0_changeSetting 12 = .ok (.ireturn, 1) := by decide +kernel
theorem dX0_changeSetting_13 : decode cX0_changeSetting 13 = .ok (.iload_n 2, 1) := by decide +kernel
theorem dX0_changeSetting_14 : decode cX0_changeSetting 14 = .ok (.aload_n 0, 1) := by decide +kernel
theorem dX0_changeSetting_15 : decode cX0_changeSetting 15 = .ok (.getfield 29, 3) := by decide +kernel
theorem dX0_changeSetting_18 : decode cX0_changeSetting 18 = .ok (.iload_n 1, 1) := by decide +kernel
theorem dX0_changeSetting_19 : decode cX0_changeSetting 19 = .ok (.iconst 1, 1) := by decide +kernel
theorem dX0_changeSetting_20 : decode cX0_changeSetting 20 = .ok (.invokevirtual 68, 3) := by decide +kernel
theorem dX0_changeSetting_23 : decode cX0_changeSetting 23 = .ok (.if_icmp .lt 16, 3) := by decide +kernel
theorem dX0_changeSetting_26 : decode cX0_changeSetting 26 = .ok (.iload_n 2, 1) := by decide +kernel
theorem dX0_changeSetting_27 : decode cX0_changeSetting 27 = .ok (.aload_n 0, 1) := by decide +kernel
theorem dX0_changeSetting_28 : decode cX0_changeSetting 28 = .ok (.getfield 29, 3) := by decide +kernel
theorem dX0_changeSetting_31 : decode cX0_changeSetting 31 = .ok (.iload_n 1, 1) := by decide +kernel
theorem dX0_changeSetting_32 : decode cX0_changeSetting 32 = .ok (.iconst 2, 1) := by decide +kernel
theorem dX0_changeSetting_33 : decode cX0_changeSetting 33 = .ok (.invokevirtual 68, 3) := by decide +kernel
theorem dX0_changeSetting_36 : decode cX0_changeSetting 36 = .ok (.if_icmp .le 6, 3) := by decide +kernel
theorem dX0_changeSetting_39 : decode cX0_changeSetting 39 = .ok (.bipush (-2), 2) := by decide +kernel
theorem dX0_changeSetting_41 : decode cX0_changeSetting 41 = .ok (.ireturn, 1) := by decide +kernel
theorem dX0_changeSetting_42 : decode cX0_changeSetting 42 = .ok (.aload_n 0, 1) := by decide +kernel
theorem dX0_changeSetting_43 : decode cX0_changeSetting 43 = .ok (.getfield 29, 3) := by decide +kernel
theorem dX0_changeSetting_46 : decode cX0_changeSetting 46 = .ok (.iload_n 1, 1) := by decide +kernel
theorem dX0_changeSetting_47 : decode cX0_changeSetting 47 = .ok (.iconst 0, 1) := by decide +kernel
theorem dX0_changeSetting_48 : decode cX0_changeSetting 48 = .ok (.invokevirtual 68, 3) := by decide +kernel
theorem dX0_changeSetting_51 : decode cX0_changeSetting 51 = .ok (.istore_n 3, 1) := by decide +kernel
theorem dX0_changeSetting_52 : decode cX0_changeSetting 52 = .ok (.iload_n 3, 1) := by decide +kernel
theorem dX0_changeSetting_53 : decode cX0_changeSetting 53 = .ok (.iload_n 2, 1) := by decide +kernel
theorem dX0_changeSetting_54 : decode cX0_changeSetting 54 = .ok (.if_icmp .ne 6, 3) := by decide +kernel
theorem dX0_changeSetting_57 : decode cX0_changeSetting 57 = .ok (.bipush (-5), 2) := by decide +kernel
theorem dX0_changeSetting_59 : decode cX0_changeSetting 59 = .ok (.ireturn, 1) := by decide +kernel
theorem dX0_changeSetting_60 : decode cX0_changeSetting 60 = .ok (.aload_n 0, 1) := by decide +kernel
theorem dX0_changeSetting_61 : decode cX0_changeSetting 61 = .ok (.getfield 29, 3) := by decide +kernel
theorem dX0_changeSetting_64 : decode cX0_changeSetting 64 = .ok (.iload_n 1, 1) := by decide +kernel
theorem dX0_changeSetting_65 : decode cX0_changeSetting 65 = .ok (.iconst 0, 1) := by decide +kernel
theorem dX0_changeSetting_66 : decode cX0_changeSetting 66 = .ok (.iload_n 2, 1) := by decide +kernel
theorem dX0_changeSetting_67 : decode cX0_changeSetting 67 = .ok (.invokevirtual 43, 3) := by decide +kernel
theorem dX0_changeSetting_70 : decode cX0_changeSetting 70 = .ok (.iload_n 3, 1) := by decide +kernel
theorem dX0_changeSetting_71 : decode cX0_changeSetting 71 = .ok (.ireturn, 1) := by decide +kernel
set_option maxRecDepth 20000 in
theorem ggX0_playRounds_X0_playRound : GoodIn wsX0_playRounds wsX0_playRound := goodIn_r _ [6, 7, 8, 9, 10, 11, 12, 1, 13, 14, 15, 16, 17, 18, 19, 20, 21, 22, 23, 24, 25, 26, 27, 28, 29, 30, 31, 32, 33, 34, 35, 36, 37, 38, 5, 39, 40, 41, 42, 43, 44, 45, 46, 47, 48, 49, 50, 51, 52, 53, 54, 55, 56, 57, 58, 59, 60, 61, 62, 63, 64, 65, 66, 67, 68, 69, 70, 71, 72, 73, 74, 75, 76, 77, 78, 79, 80, 81, 82, 83, 84, 85, 86, 87, 88, 89, 90, 91, 92, 93, 94, 95, 96, 97, 98, 99, 100, 101, 102, 103, 104, 105, 106] (by decide +kernel) (by decide +kernel)
set_option maxRecDepth 20000 in
theorem gX0_playRounds_X0_playRound : GoodIn wsX0_playRounds (wsV RX0 86 RX0 yX0_playRound wsX0_playRound) := goodIn_app (goodIn_of _ (by decide +kernel)) ggX0_playRounds_X0_playRound
theorem dX0_playRounds_0 : decode cX0_playRounds 0 = .ok (.iload_n 1, 1) := by decide +kernel
theorem dX0_playRounds_1 : decode cX0_playRounds 1 = .ok (.iconst 1, 1) := by decide +kernel
theorem dX0_playRounds_2 : decode cX0_playRounds 2 = .ok (.if_icmp .lt 9, 3) := by decide +kernel
theorem dX0_playRounds_5 : decode cX0_playRounds 5 = .ok (.iload_n 1, 1) := by decide +kernel
theorem dX0_playRounds_6 : decode cX0_playRounds 6 = .ok (.bipush 99, 2) := by decide +kernel
theorem dX0_playRounds_8 : decode cX0_playRounds 8 = .ok (.if_icmp .le 6, 3) := by decide +kernel
theorem dX0_playRounds_11 : decode cX0_playRounds 11 = .ok (.bipush (-2), 2) := by decide +kernel
theorem dX0_playRounds_13 : decode cX0_playRounds 13 = .ok (.ireturn, 1) := by decide +kernel
theorem dX0_playRounds_14 : decode cX0_playRounds 14 = .ok (.aload_n 0, 1) := by decide +kernel
theorem dX0_playRounds_15 : decode cX0_playRounds 15 = .ok (.getfield 57, 3) := by decide +kernel
theorem dX0_playRounds_18 : decode cX0_playRounds 18 = .ok (.iload_n 1, 1) := by decide +kernel
theorem dX0_playRounds_19 : decode cX0_playRounds 19 = .ok (.iadd, 1) := by decide +kernel
theorem dX0_playRounds_20 : decode cX0_playRounds 20 = .ok (.sipush 9999, 3) := by decide +kernel
theorem dX0_playRounds_23 : decode cX0_playRounds 23 = .ok (.if_icmp .le 6, 3) := by decide +kernel
theorem dX0_playRounds_26 : decode cX0_playRounds 26 = .ok (.bipush (-3), 2) := by decide +kernel
theorem dX0_playRounds_28 : decode cX0_playRounds 28 = .ok (.ireturn, 1) := by decide +kernel
theorem dX0_playRounds_29 : decode cX0_playRounds 29 = .ok (.iconst 0, 1) := by decide +kernel
theorem dX0_playRounds_30 : decode cX0_playRounds 30 = .ok (.istore_n 2, 1) := by decide +kernel
theorem dX0_playRounds_31 : decode cX0_playRounds 31 = .ok (.iconst 0, 1) := by decide +kernel
theorem dX0_playRounds_32 : decode cX0_playRounds 32 = .ok (.istore_n 3, 1) := by decide +kernel
theorem dX0_playRounds_33 : decode cX0_playRounds 33 = .ok (.iload_n 3, 1) := by decide +kernel
theorem dX0_playRounds_34 : decode cX0_playRounds 34 = .ok (.iload_n 1, 1) := by decide +kernel
theorem dX0_playRounds_35 : decode cX0_playRounds 35 = .ok (.if_icmp .ge 16, 3) := by decide +kernel
theorem dX0_playRounds_38 : decode cX0_playRounds 38 = .ok (.iload_n 2, 1) := by decide +kernel
theorem dX0_playRounds_39 : decode cX0_playRounds 39 = .ok (.aload_n 0, 1) := by decide +kernel
theorem dX0_playRounds_40 : decode cX0_playRounds 40 = .ok (.invokevirtual 86, 3) := by decide +kernel
theorem dX0_playRounds_43 : decode cX0_playRounds 43 = .ok (.iadd, 1) := by decide +kernel
theorem dX0_playRounds_44 : decode cX0_playRounds 44 = .ok (.istore_n 2, 1) := by decide +kernel
theorem dX0_playRounds_45 : decode cX0_playRounds 45 = .ok (.iinc 3 1, 3) := by decide +kernel
theorem dX0_playRounds_48 : decode cX0_playRounds 48 = .ok (.goto (-15), 3) := by decide +kernel
theorem dX0_playRounds_51 : decode cX0_playRounds 51 = .ok (.iload_n 2, 1) := by decide +kernel
theorem dX0_playRounds_52 : decode cX0_playRounds 52 = .ok (.ireturn, 1) := by decide +kernel
set_option maxRecDepth 20000 in
theorem ggX0_playRound_X4_get : GoodIn wsX0_playRound wsX4_get := goodIn_r _ [12, 13, 14, 97, 98, 99] (by decide +kernel) (by decide +kernel)
set_option maxRecDepth 20000 in
theorem gX0_playRound_X4_get : GoodIn wsX0_playRound (wsV RX0 68 RX4 yX4_get wsX4_get) := goodIn_app (goodIn_of _ (by decide +kernel)) ggX0_playRound_X4_get
set_option maxRecDepth 20000 in
theorem ggX0_playRound_X3_length : GoodIn wsX0_playRound wsX3_length := goodIn_r _ [19, 20, 100, 101, 102] (by decide +kernel) (by decide +kernel)
set_option maxRecDepth 20000 in
theorem gX0_playRound_X3_length : GoodIn wsX0_playRound (wsV RX0 89 RX3 yX3_length wsX3_length) := goodIn_app (goodIn_of _ (by decide +kernel)) ggX0_playRound_X3_length
set_option maxRecDepth 20000 in
theorem ggX0_playRound_X3_takeFirst : GoodIn wsX0_playRound wsX3_takeFirst := goodIn_r _ [24, 20, 25, 26, 27, 28, 18, 29, 30, 100, 101, 102] (by decide +kernel) (by decide +kernel)
set_option maxRecDepth 20000 in
theorem gX0_playRound_X3_takeFirst : GoodIn wsX0_playRound (wsV RX0 95 RX3 yX3_takeFirst wsX3_takeFirst) := goodIn_app (goodIn_of _ (by decide +kernel)) ggX0_playRound_X3_takeFirst
set_option maxRecDepth 20000 in
theorem ggX0_playRound_X0_takeOne : GoodIn wsX0_playRound wsX0_takeOne := goodIn_r _ [35, 2, 36, 37, 38, 34, 39, 40, 41, 8, 9, 10, 11, 12, 13, 14, 42, 43, 44, 45, 46, 47, 48, 5, 49, 50, 51, 52, 53, 54, 55, 56, 1, 57, 58, 59, 60, 61, 62, 63, 64, 65, 66, 67, 68, 69, 70, 71, 72, 73, 74, 75, 76, 77, 78, 79, 80, 18, 81, 25, 20, 30, 82, 83, 84, 85, 90, 91, 92, 93, 94, 95, 96, 97, 98, 99, 100, 101, 102] (by decide +kernel) (by decide +kernel)
set_option maxRecDepth 20000 in
theorem gX0_playRound_X0_takeOne : GoodIn wsX0_playRound (wsV RX0 98 RX0 yX0_takeOne wsX0_takeOne) := goodIn_app (goodIn_of _ (by decide +kernel)) ggX0_playRound_X0_takeOne
set_option maxRecDepth 20000 in
theorem ggX0_playRound_X0_chargeFees : GoodIn wsX0_playRound wsX0_chargeFees := goodIn_r _ [89, 57, 3, 4, 5, 6, 8, 9, 10, 11, 12, 13, 14, 70, 71, 72, 73, 90, 91, 92, 93, 94, 95, 96, 97, 98, 99] (by decide +kernel) (by decide +kernel)
set_option maxRecDepth 20000 in
theorem gX0_playRound_X0_chargeFees : GoodIn wsX0_playRound (wsV RX0 101 RX0 yX0_chargeFees wsX0_chargeFees) := goodIn_app (goodIn_of _ (by decide +kernel)) ggX0_playRound_X0_chargeFees
theorem dX0_playRound_0 : decode cX0_playRound 0 = .ok (.aload_n 0, 1) := by decide +kernel
theorem dX0_playRound_1 : decode cX0_playRound 1 = .ok (.getfield 29, 3) := by decide +kernel
theorem dX0_playRound_4 : decode cX0_playRound 4 = .ok (.iconst 2, 1) := by decide +kernel
theorem dX0_playRound_5 : decode cX0_playRound 5 = .ok (.iconst 0, 1) := by decide +kernel
theorem dX0_playRound_6 : decode cX0_playRound 6 = .ok (.invokevirtual 68, 3) := by decide +kernel
theorem dX0_playRound_9 : decode cX0_playRound 9 = .ok (.aload_n 0, 1) := by decide +kernel
theorem dX0_playRound_10 : decode cX0_playRound 10 = .ok (.getfield 35, 3) := by decide +kernel
theorem dX0_playRound_13 : decode cX0_playRound 13 = .ok (.invokevirtual 89, 3) := by decide +kernel
theorem dX0_playRound_16 : decode cX0_playRound 16 = .ok (.invokestatic 92, 3) := by decide +kernel
theorem dX0_playRound_19 : decode cX0_playRound 19 = .ok (.istore_n 1, 1) := by decide +kernel
theorem dX0_playRound_20 : decode cX0_playRound 20 = .ok (.iconst 0, 1) := by decide +kernel
theorem dX0_playRound_21 : decode cX0_playRound 21 = .ok (.istore_n 2, 1) := by decide +kernel
theorem dX0_playRound_22 : decode cX0_playRound 22 = .ok (.iconst 0, 1) := by decide +kernel
theorem dX0_playRound_23 : decode cX0_playRound 23 = .ok (.istore_n 3, 1) := by decide +kernel
theorem dX0_playRound_24 : decode cX0_playRound 24 = .ok (.iload_n 3, 1) := by decide +kernel
theorem dX0_playRound_25 : decode cX0_playRound 25 = .ok (.iload_n 1, 1) := by decide +kernel
theorem dX0_playRound_26 : decode cX0_playRound 26 = .ok (.if_icmp .ge 26, 3) := by decide +kernel
theorem dX0_playRound_29 : decode cX0_playRound 29 = .ok (.aload_n 0, 1) := by decide +kernel
theorem dX0_playRound_30 : decode cX0_playRound 30 = .ok (.aload_n 0, 1) := by decide +kernel
theorem dX0_playRound_31 : decode cX0_playRound 31 = .ok (.getfield 35, 3) := by decide +kernel
theorem dX0_playRound_34 : decode cX0_playRound 34 = .ok (.invokevirtual 95, 3) := by decide +kernel
theorem dX0_playRound_37 : decode cX0_playRound 37 = .ok (.invokevirtual 98, 3) := by decide +kernel
theorem dX0_playRound_40 : decode cX0_playRound 40 = .ok (.ifCond .eq 6, 3) := by decide +kernel
theorem dX0_playRound_43 : decode cX0_playRound 43 = .ok (.iinc 2 1, 3) := by decide +kernel
theorem dX0_playRound_46 : decode cX0_playRound 46 = .ok (.iinc 3 1, 3) := by decide +kernel
theorem dX0_playRound_49 : decode cX0_playRound 49 = .ok (.goto (-25), 3) := by decide +kernel
theorem dX0_playRound_52 : decode cX0_playRound 52 = .ok (.aload_n 0, 1) := by decide +kernel
theorem dX0_playRound_53 : decode cX0_playRound 53 = .ok (.invokevirtual 101, 3) := by decide +kernel
theorem dX0_playRound_56 : decode cX0_playRound 56 = .ok (.aload_n 0, 1) := by decide +kernel
theorem dX0_playRound_57 : decode cX0_playRound 57 = .ok (.dup, 1) := by decide +kernel
theorem dX0_playRound_58 : decode cX0_playRound 58 = .ok (.getfield 57, 3) := by decide +kernel
theorem dX0_playRound_61 : decode cX0_playRound 61 = .ok (.iconst 1, 1) := by decide +kernel
theorem dX0_playRound_62 : decode cX0_playRound 62 = .ok (.iadd, 1) := by decide +kernel
theorem dX0_playRound_63 : decode cX0_playRound 63 = .ok (.putfield 57, 3) := by decide +kernel
theorem dX0_playRound_66 : decode cX0_playRound 66 = .ok (.iload_n 2, 1) := by decide +kernel
theorem dX0_playRound_67 : decode cX0_playRound 67 = .ok (.ireturn, 1) := by decide +kernel
set_option maxRecDepth 20000 in
theorem ggX0_takeOne_X0_paymentFor : GoodIn wsX0_takeOne wsX0_paymentFor := goodIn_r _ [6, 7, 8, 9, 10, 11, 12, 13, 14, 15, 16, 17, 18, 5, 19, 20, 21, 22, 23, 24, 66, 67, 68, 69, 70, 71, 72, 73, 74, 75] (by decide +kernel) (by decide +kernel)
set_option maxRecDepth 20000 in
theorem gX0_takeOne_X0_paymentFor : GoodIn wsX0_takeOne (wsV RX0 104 RX0 yX0_paymentFor wsX0_paymentFor) := goodIn_app (goodIn_of _ (by decide +kernel)) ggX0_takeOne_X0_paymentFor
set_option maxRecDepth 20000 in
theorem ggX0_takeOne_X0_hindrance : GoodIn wsX0_takeOne wsX0_hindrance := goodIn_r _ [28, 7, 8, 29, 30, 23, 31, 32, 33, 9, 10, 11, 12, 13, 14, 15, 16, 17, 18, 5, 19, 20, 21, 22, 24, 66, 67, 68, 69, 70, 71, 72, 73, 74, 75] (by decide +kernel) (by decide +kernel)
set_option maxRecDepth 20000 in
theorem gX0_takeOne_X0_hindrance : GoodIn wsX0_takeOne (wsV RX0 107 RX0 yX0_hindrance wsX0_hindrance) := goodIn_app (goodIn_of _ (by decide +kernel)) ggX0_takeOne_X0_hindrance
set_option maxRecDepth 20000 in
theorem ggX0_takeOne_X0_refuse : GoodIn wsX0_takeOne wsX0_refuse := goodIn_r _ [37, 7, 38, 39, 40, 12, 41, 14, 15, 66, 67, 68, 69, 70, 71, 72, 73, 74, 75] (by decide +kernel) (by decide +kernel)
set_option maxRecDepth 20000 in
theorem gX0_takeOne_X0_refuse : GoodIn wsX0_takeOne (wsV RX0 110 RX0 yX0_refuse wsX0_refuse) := goodIn_app (goodIn_of _ (by decide +kernel)) ggX0_takeOne_X0_refuse
set_option maxRecDepth 20000 in
theorem ggX0_takeOne_X0_driftOn : GoodIn wsX0_takeOne wsX0_driftOn := goodIn_r _ [45, 20, 32, 29, 30, 23, 31, 9, 10, 11, 12, 13, 14, 15, 38, 39, 40, 41, 46, 47, 48, 49, 66, 67, 68, 69, 70, 71, 72, 73, 74, 75] (by decide +kernel) (by decide +kernel)
set_option maxRecDepth 20000 in
theorem gX0_takeOne_X0_driftOn : GoodIn wsX0_takeOne (wsV RX0 114 RX0 yX0_driftOn wsX0_driftOn) := goodIn_app (goodIn_of _ (by decide +kernel)) ggX0_takeOne_X0_driftOn
set_option maxRecDepth 20000 in
theorem ggX0_takeOne_X0_doubt : GoodIn wsX0_takeOne wsX0_doubt := goodIn_r _ [53, 7, 1, 46, 47, 48, 12, 49, 14, 15, 9, 10, 11, 13, 34, 35, 36, 5, 37, 38, 39, 40, 41, 54, 55, 56, 57, 58, 59, 60, 61, 66, 67, 68, 69, 70, 71, 72, 73, 74, 75, 76, 77, 78] (by decide +kernel) (by decide +kernel)
set_option maxRecDepth 20000 in
theorem gX0_takeOne_X0_doubt : GoodIn wsX0_takeOne (wsV RX0 117 RX0 yX0_doubt wsX0_doubt) := goodIn_app (goodIn_of _ (by decide +kernel)) ggX0_takeOne_X0_doubt
set_option maxRecDepth 20000 in
theorem ggX0_takeOne_X3_addLast : GoodIn wsX0_takeOne wsX3_addLast := goodIn_r _ [58, 59, 60, 61, 76, 77, 78] (by decide +kernel) (by decide +kernel)
set_option maxRecDepth 20000 in
theorem gX0_takeOne_X3_addLast : GoodIn wsX0_takeOne (wsV RX0 76 RX3 yX3_addLast wsX3_addLast) := goodIn_app (goodIn_of _ (by decide +kernel)) ggX0_takeOne_X3_addLast
set_option maxRecDepth 20000 in
theorem ggX0_takeOne_X0_pay : GoodIn wsX0_takeOne wsX0_pay := goodIn_r _ [65, 7, 33, 8, 9, 10, 11, 12, 13, 14, 15, 46, 47, 48, 49, 38, 39, 40, 41, 66, 67, 68, 69, 70, 71, 72, 73, 74, 75] (by decide +kernel) (by decide +kernel)
set_option maxRecDepth 20000 in
theorem gX0_takeOne_X0_pay : GoodIn wsX0_takeOne (wsV RX0 120 RX0 yX0_pay wsX0_pay) := goodIn_app (goodIn_of _ (by decide +kernel)) ggX0_takeOne_X0_pay
theorem dX0_takeOne_0 : decode cX0_takeOne 0 = .ok (.aload_n 0, 1) := by decide +kernel
theorem dX0_takeOne_1 : decode cX0_takeOne 1 = .ok (.iload_n 1, 1) := by decide +kernel
theorem dX0_takeOne_2 : decode cX0_takeOne 2 = .ok (.invokevirtual 104, 3) := by decide +kernel
theorem dX0_takeOne_5 : decode cX0_takeOne 5 = .ok (.istore_n 2, 1) := by decide +kernel
theorem dX0_takeOne_6 : decode cX0_takeOne 6 = .ok (.aload_n 0, 1) := by decide +kernel
theorem dX0_takeOne_7 : decode cX0_takeOne 7 = .ok (.iload_n 1, 1) := by decide +kernel
theorem dX0_takeOne_8 : decode cX0_takeOne 8 = .ok (.iload_n 2, 1) := by decide +kernel
theorem dX0_takeOne_9 : decode cX0_takeOne 9 = .ok (.invokevirtual 107, 3) := by decide +kernel
theorem dX0_takeOne_12 : decode cX0_takeOne 12 = .ok (.istore_n 3, 1) := by decide +kernel
theorem dX0_takeOne_13 : decode cX0_takeOne 13 = .ok (.iload_n 3, 1) := by decide +kernel
theorem dX0_takeOne_14 : decode cX0_takeOne 14 = .ok (.iconst 1, 1) := by decide +kernel
theorem dX0_takeOne_15 : decode cX0_takeOne 15 = .ok (.if_icmp .eq 8, 3) := by decide +kernel
theorem dX0_takeOne_18 : decode cX0_takeOne 18 = .ok (.iload_n 3, 1) := by decide +kernel
theorem dX0_takeOne_19 : decode cX0_takeOne 19 = .ok (.iconst 2, 1) := by decide +kernel
theorem dX0_takeOne_20 : decode cX0_takeOne 20 = .ok (.if_icmp .ne 11, 3) := by decide +kernel
theorem dX0_takeOne_23 : decode cX0_takeOne 23 = .ok (.aload_n 0, 1) := by decide +kernel
theorem dX0_takeOne_24 : decode cX0_takeOne 24 = .ok (.iload_n 1, 1) := by decide +kernel
theorem dX0_takeOne_25 : decode cX0_takeOne 25 = .ok (.iload_n 3, 1) := by decide +kernel
theorem dX0_takeOne_26 : decode cX0_takeOne 26 = .ok (.invokevirtual 110, 3) := by decide +kernel
theorem dX0_takeOne_29 : decode cX0_takeOne 29 = .ok (.iconst 0, 1) := by decide +kernel
theorem dX0_takeOne_30 : decode cX0_takeOne 30 = .ok (.ireturn, 1) := by decide +kernel
theorem dX0_takeOne_31 : decode cX0_takeOne 31 = .ok (.aload_n 0, 1) := by decide +kernel
theorem dX0_takeOne_32 : decode cX0_takeOne 32 = .ok (.iconst 0, 1) := by decide +kernel
theorem dX0_takeOne_33 : decode cX0_takeOne 33 = .ok (.iconst 1, 1) := by decide +kernel
theorem dX0_takeOne_34 : decode cX0_takeOne 34 = .ok (.invokevirtual 114, 3) := by decide +kernel
theorem dX0_takeOne_37 : decode cX0_takeOne 37 = .ok (.aload_n 0, 1) := by decide +kernel
theorem dX0_takeOne_38 : decode cX0_takeOne 38 = .ok (.iconst 1, 1) := by decide +kernel
theorem dX0_takeOne_39 : decode cX0_takeOne 39 = .ok (.iconst (-1), 1) := by decide +kernel
theorem dX0_takeOne_40 : decode cX0_takeOne 40 = .ok (.invokevirtual 114, 3) := by decide +kernel
theorem dX0_takeOne_43 : decode cX0_takeOne 43 = .ok (.iload_n 3, 1) := by decide +kernel
theorem dX0_takeOne_44 : decode cX0_takeOne 44 = .ok (.lookupswitch 45 #[(3, 28), (4, 35)], 28) := by decide +kernel
theorem dX0_takeOne_72 : decode cX0_takeOne 72 = .ok (.aload_n 0, 1) := by decide +kernel
theorem dX0_takeOne_73 : decode cX0_takeOne 73 = .ok (.iload_n 1, 1) := by decide +kernel
theorem dX0_takeOne_74 : decode cX0_takeOne 74 = .ok (.invokevirtual 117, 3) := by decide +kernel
theorem dX0_takeOne_77 : decode cX0_takeOne 77 = .ok (.iconst 0, 1) := by decide +kernel
theorem dX0_takeOne_78 : decode cX0_takeOne 78 = .ok (.ireturn, 1) := by decide +kernel
theorem dX0_takeOne_79 : decode cX0_takeOne 79 = .ok (.aload_n 0, 1) := by decide +kernel
theorem dX0_takeOne_80 : decode cX0_takeOne 80 = .ok (.getfield 35, 3) := by decide +kernel
theorem dX0_takeOne_83 : decode cX0_takeOne 83 = .ok (.iload_n 1, 1) := by decide +kernel
theorem dX0_takeOne_84 : decode cX0_takeOne 84 = .ok (.invokevirtual 76, 3) := by decide +kernel
theorem dX0_takeOne_87 : decode cX0_takeOne 87 = .ok (.iconst 0, 1) := by decide +kernel
theorem dX0_takeOne_88 : decode cX0_takeOne 88 = .ok (.ireturn, 1) := by decide +kernel
theorem dX0_takeOne_89 : decode cX0_takeOne 89 = .ok (.aload_n 0, 1) := by decide +kernel
theorem dX0_takeOne_90 : decode cX0_takeOne 90 = .ok (.iload_n 1, 1) := by decide +kernel
theorem dX0_takeOne_91 : decode cX0_takeOne 91 = .ok (.iload_n 2, 1) := by decide +kernel
theorem dX0_takeOne_92 : decode cX0_takeOne 92 = .ok (.invokevirtual 120, 3) := by decide +kernel
theorem dX0_takeOne_95 : decode cX0_takeOne 95 = .ok (.iconst 1, 1) := by decide +kernel
theorem dX0_takeOne_96 : decode cX0_takeOne 96 = .ok (.ireturn, 1) := by decide +kernel
set_option maxRecDepth 20000 in
theorem ggX0_refuse_X4_put : GoodIn wsX0_refuse wsX4_put := goodIn_r _ [6, 7, 8, 16, 17, 18] (by decide +kernel) (by decide +kernel)
set_option maxRecDepth 20000 in
theorem gX0_refuse_X4_put : GoodIn wsX0_refuse (wsV RX0 43 RX4 yX4_put wsX4_put) := goodIn_app (goodIn_of _ (by decide +kernel)) ggX0_refuse_X4_put
theorem dX0_refuse_0 : decode cX0_refuse 0 = .ok (.aload_n 0, 1) := by decide +kernel
theorem dX0_refuse_1 : decode cX0_refuse 1 = .ok (.getfield 23, 3) := by decide +kernel
theorem dX0_refuse_4 : decode cX0_refuse 4 = .ok (.iload_n 1, 1) := by decide +kernel
theorem dX0_refuse_5 : decode cX0_refuse 5 = .ok (.iconst 4, 1) := by decide +kernel
theorem dX0_refuse_6 : decode cX0_refuse 6 = .ok (.iconst 2, 1) := by decide +kernel
theorem dX0_refuse_7 : decode cX0_refuse 7 = .ok (.invokevirtual 43, 3) := by decide +kernel
theorem dX0_refuse_10 : decode cX0_refuse 10 = .ok (.aload_n 0, 1) := by decide +kernel
theorem dX0_refuse_11 : decode cX0_refuse 11 = .ok (.getfield 23, 3) := by decide +kernel
theorem dX0_refuse_14 : decode cX0_refuse 14 = .ok (.iload_n 1, 1) := by decide +kernel
theorem dX0_refuse_15 : decode cX0_refuse 15 = .ok (.iconst 5, 1) := by decide +kernel
theorem dX0_refuse_16 : decode cX0_refuse 16 = .ok (.iload_n 2, 1) := by decide +kernel
theorem dX0_refuse_17 : decode cX0_refuse 17 = .ok (.invokevirtual 43, 3) := by decide +kernel
theorem dX0_refuse_20 : decode cX0_refuse 20 = .ok (.return_, 1) := by decide +kernel
set_option maxRecDepth 20000 in
theorem ggX0_doubt_X4_increase : GoodIn wsX0_doubt wsX4_increase := goodIn_r _ [7, 8, 9, 38, 39, 40] (by decide +kernel) (by decide +kernel)
set_option maxRecDepth 20000 in
theorem gX0_doubt_X4_increase : GoodIn wsX0_doubt (wsV RX0 123 RX4 yX4_increase wsX4_increase) := goodIn_app (goodIn_of _ (by decide +kernel)) ggX0_doubt_X4_increase
set_option maxRecDepth 20000 in
theorem ggX0_doubt_X4_get : GoodIn wsX0_doubt wsX4_get := goodIn_r _ [13, 8, 9, 38, 39, 40] (by decide +kernel) (by decide +kernel)
set_option maxRecDepth 20000 in
theorem gX0_doubt_X4_get : GoodIn wsX0_doubt (wsV RX0 68 RX4 yX4_get wsX4_get) := goodIn_app (goodIn_of _ (by decide +kernel)) ggX0_doubt_X4_get
set_option maxRecDepth 20000 in
theorem ggX0_doubt_X0_refuse : GoodIn wsX0_doubt wsX0_refuse := goodIn_r _ [18, 1, 19, 20, 21, 6, 22, 8, 9, 31, 32, 33, 34, 35, 36, 37, 38, 39, 40] (by decide +kernel) (by decide +kernel)
set_option maxRecDepth 20000 in
theorem gX0_doubt_X0_refuse : GoodIn wsX0_doubt (wsV RX0 110 RX0 yX0_refuse wsX0_refuse) := goodIn_app (goodIn_of _ (by decide +kernel)) ggX0_doubt_X0_refuse
set_option maxRecDepth 20000 in
theorem ggX0_doubt_X3_addLast : GoodIn wsX0_doubt wsX3_addLast := goodIn_r _ [27, 28, 29, 30, 41, 42, 43] (by decide +kernel) (by decide +kernel)
set_option maxRecDepth 20000 in
theorem gX0_doubt_X3_addLast : GoodIn wsX0_doubt (wsV RX0 76 RX3 yX3_addLast wsX3_addLast) := goodIn_app (goodIn_of _ (by decide +kernel)) ggX0_doubt_X3_addLast
theorem dX0_doubt_0 : decode cX0_doubt 0 = .ok (.aload_n 0, 1) := by decide +kernel
theorem dX0_doubt_1 : decode cX0_doubt 1 = .ok (.getfield 23, 3) := by decide +kernel
theorem dX0_doubt_4 : decode cX0_doubt 4 = .ok (.iload_n 1, 1) := by decide +kernel
theorem dX0_doubt_5 : decode cX0_doubt 5 = .ok (.bipush 6, 2) := by decide +kernel
theorem dX0_doubt_7 : decode cX0_doubt 7 = .ok (.iconst 1, 1) := by decide +kernel
theorem dX0_doubt_8 : decode cX0_doubt 8 = .ok (.invokevirtual 123, 3) := by decide +kernel
theorem dX0_doubt_11 : decode cX0_doubt 11 = .ok (.aload_n 0, 1) := by decide +kernel
theorem dX0_doubt_12 : decode cX0_doubt 12 = .ok (.getfield 23, 3) := by decide +kernel
theorem dX0_doubt_15 : decode cX0_doubt 15 = .ok (.iload_n 1, 1) := by decide +kernel
theorem dX0_doubt_16 : decode cX0_doubt 16 = .ok (.bipush 6, 2) := by decide +kernel
theorem dX0_doubt_18 : decode cX0_doubt 18 = .ok (.invokevirtual 68, 3) := by decide +kernel
theorem dX0_doubt_21 : decode cX0_doubt 21 = .ok (.iconst 3, 1) := by decide +kernel
theorem dX0_doubt_22 : decode cX0_doubt 22 = .ok (.if_icmp .lt 12, 3) := by decide +kernel
theorem dX0_doubt_25 : decode cX0_doubt 25 = .ok (.aload_n 0, 1) := by decide +kernel
theorem dX0_doubt_26 : decode cX0_doubt 26 = .ok (.iload_n 1, 1) := by decide +kernel
theorem dX0_doubt_27 : decode cX0_doubt 27 = .ok (.iconst 3, 1) := by decide +kernel
theorem dX0_doubt_28 : decode cX0_doubt 28 = .ok (.invokevirtual 110, 3) := by decide +kernel
theorem dX0_doubt_31 : decode cX0_doubt 31 = .ok (.goto 11, 3) := by decide +kernel
theorem dX0_doubt_34 : decode cX0_doubt 34 = .ok (.aload_n 0, 1) := by decide +kernel
theorem dX0_doubt_35 : decode cX0_doubt 35 = .ok (.getfield 35, 3) := by decide +kernel
theorem dX0_doubt_38 : decode cX0_doubt 38 = .ok (.iload_n 1, 1) := by decide +kernel
theorem dX0_doubt_39 : decode cX0_doubt 39 = .ok (.invokevirtual 76, 3) := by decide +kernel
theorem dX0_doubt_42 : decode cX0_doubt 42 = .ok (.return_, 1) := by decide +kernel
set_option maxRecDepth 20000 in
theorem ggX0_pay_X4_get : GoodIn wsX0_pay wsX4_get := goodIn_r _ [8, 9, 10, 26, 27, 28] (by decide +kernel) (by decide +kernel)
set_option maxRecDepth 20000 in
theorem gX0_pay_X4_get : GoodIn wsX0_pay (wsV RX0 68 RX4 yX4_get wsX4_get) := goodIn_app (goodIn_of _ (by decide +kernel)) ggX0_pay_X4_get
set_option maxRecDepth 20000 in
theorem ggX0_pay_X4_increase : GoodIn wsX0_pay wsX4_increase := goodIn_r _ [14, 9, 10, 26, 27, 28] (by decide +kernel) (by decide +kernel)
set_option maxRecDepth 20000 in
theorem gX0_pay_X4_increase : GoodIn wsX0_pay (wsV RX0 123 RX4 yX4_increase wsX4_increase) := goodIn_app (goodIn_of _ (by decide +kernel)) ggX0_pay_X4_increase
set_option maxRecDepth 20000 in
theorem ggX0_pay_X4_put : GoodIn wsX0_pay wsX4_put := goodIn_r _ [18, 9, 10, 26, 27, 28] (by decide +kernel) (by decide +kernel)
set_option maxRecDepth 20000 in
theorem gX0_pay_X4_put : GoodIn wsX0_pay (wsV RX0 43 RX4 yX4_put wsX4_put) := goodIn_app (goodIn_of _ (by decide +kernel)) ggX0_pay_X4_put
theorem dX0_pay_0 : decode cX0_pay 0 = .ok (.aload_n 0, 1) := by decide +kernel
theorem dX0_pay_1 : decode cX0_pay 1 = .ok (.getfield 23, 3) := by decide +kernel
theorem dX0_pay_4 : decode cX0_pay 4 = .ok (.iload_n 1, 1) := by decide +kernel
theorem dX0_pay_5 : decode cX0_pay 5 = .ok (.iconst 1, 1) := by decide +kernel
theorem dX0_pay_6 : decode cX0_pay 6 = .ok (.invokevirtual 68, 3) := by decide +kernel
theorem dX0_pay_9 : decode cX0_pay 9 = .ok (.istore_n 3, 1) := by decide +kernel
theorem dX0_pay_10 : decode cX0_pay 10 = .ok (.aload_n 0, 1) := by decide +kernel
theorem dX0_pay_11 : decode cX0_pay 11 = .ok (.getfield 16, 3) := by decide +kernel
theorem dX0_pay_14 : decode cX0_pay 14 = .ok (.aload_n 0, 1) := by decide +kernel
theorem dX0_pay_15 : decode cX0_pay 15 = .ok (.getfield 20, 3) := by decide +kernel
theorem dX0_pay_18 : decode cX0_pay 18 = .ok (.iload_n 3, 1) := by decide +kernel
theorem dX0_pay_19 : decode cX0_pay 19 = .ok (.iconst 0, 1) := by decide +kernel
theorem dX0_pay_20 : decode cX0_pay 20 = .ok (.invokevirtual 68, 3) := by decide +kernel
theorem dX0_pay_23 : decode cX0_pay 23 = .ok (.iconst 0, 1) := by decide +kernel
theorem dX0_pay_24 : decode cX0_pay 24 = .ok (.iload_n 2, 1) := by decide +kernel
theorem dX0_pay_25 : decode cX0_pay 25 = .ok (.ineg, 1) := by decide +kernel
theorem dX0_pay_26 : decode cX0_pay 26 = .ok (.invokevirtual 123, 3) := by decide +kernel
theorem dX0_pay_29 : decode cX0_pay 29 = .ok (.aload_n 0, 1) := by decide +kernel
theorem dX0_pay_30 : decode cX0_pay 30 = .ok (.getfield 16, 3) := by decide +kernel
theorem dX0_pay_33 : decode cX0_pay 33 = .ok (.aload_n 0, 1) := by decide +kernel
theorem dX0_pay_34 : decode cX0_pay 34 = .ok (.getfield 23, 3) := by decide +kernel
theorem dX0_pay_37 : decode cX0_pay 37 = .ok (.iload_n 1, 1) := by decide +kernel
theorem dX0_pay_38 : decode cX0_pay 38 = .ok (.iconst 0, 1) := by decide +kernel
theorem dX0_pay_39 : decode cX0_pay 39 = .ok (.invokevirtual 68, 3) := by decide +kernel
theorem dX0_pay_42 : decode cX0_pay 42 = .ok (.iconst 0, 1) := by decide +kernel
theorem dX0_pay_43 : decode cX0_pay 43 = .ok (.iload_n 2, 1) := by decide +kernel
theorem dX0_pay_44 : decode cX0_pay 44 = .ok (.invokevirtual 123, 3) := by decide +kernel
theorem dX0_pay_47 : decode cX0_pay 47 = .ok (.aload_n 0, 1) := by decide +kernel
theorem dX0_pay_48 : decode cX0_pay 48 = .ok (.getfield 23, 3) := by decide +kernel
theorem dX0_pay_51 : decode cX0_pay 51 = .ok (.iload_n 1, 1) := by decide +kernel
theorem dX0_pay_52 : decode cX0_pay 52 = .ok (.iconst 4, 1) := by decide +kernel
theorem dX0_pay_53 : decode cX0_pay 53 = .ok (.iconst 1, 1) := by decide +kernel
theorem dX0_pay_54 : decode cX0_pay 54 = .ok (.invokevirtual 43, 3) := by decide +kernel
theorem dX0_pay_57 : decode cX0_pay 57 = .ok (.aload_n 0, 1) := by decide +kernel
theorem dX0_pay_58 : decode cX0_pay 58 = .ok (.getfield 23, 3) := by decide +kernel
theorem dX0_pay_61 : decode cX0_pay 61 = .ok (.iload_n 1, 1) := by decide +kernel
theorem dX0_pay_62 : decode cX0_pay 62 = .ok (.bipush 7, 2) := by decide +kernel
theorem dX0_pay_64 : decode cX0_pay 64 = .ok (.iload_n 2, 1) := by decide +kernel
theorem dX0_pay_65 : decode cX0_pay 65 = .ok (.invokevirtual 43, 3) := by decide +kernel
theorem dX0_pay_68 : decode cX0_pay 68 = .ok (.aload_n 0, 1) := by decide +kernel
theorem dX0_pay_69 : decode cX0_pay 69 = .ok (.getfield 20, 3) := by decide +kernel
theorem dX0_pay_72 : decode cX0_pay 72 = .ok (.iload_n 3, 1) := by decide +kernel
theorem dX0_pay_73 : decode cX0_pay 73 = .ok (.iconst 3, 1) := by decide +kernel
theorem dX0_pay_74 : decode cX0_pay 74 = .ok (.iconst 1, 1) := by decide +kernel
theorem dX0_pay_75 : decode cX0_pay 75 = .ok (.invokevirtual 43, 3) := by decide +kernel
theorem dX0_pay_78 : decode cX0_pay 78 = .ok (.return_, 1) := by decide +kernel
set_option maxRecDepth 20000 in
theorem ggX0_driftOn_X4_get : GoodIn wsX0_driftOn wsX4_get := goodIn_r _ [11, 12, 13, 29, 30, 31] (by decide +kernel) (by decide +kernel)
set_option maxRecDepth 20000 in
theorem gX0_driftOn_X4_get : GoodIn wsX0_driftOn (wsV RX0 68 RX4 yX4_get wsX4_get) := goodIn_app (goodIn_of _ (by decide +kernel)) ggX0_driftOn_X4_get
set_option maxRecDepth 20000 in
theorem ggX0_driftOn_X4_put : GoodIn wsX0_driftOn wsX4_put := goodIn_r _ [17, 12, 13, 29, 30, 31] (by decide +kernel) (by decide +kernel)
set_option maxRecDepth 20000 in
theorem gX0_driftOn_X4_put : GoodIn wsX0_driftOn (wsV RX0 43 RX4 yX4_put wsX4_put) := goodIn_app (goodIn_of _ (by decide +kernel)) ggX0_driftOn_X4_put
set_option maxRecDepth 20000 in
theorem ggX0_driftOn_X4_increase : GoodIn wsX0_driftOn wsX4_increase := goodIn_r _ [21, 12, 13, 29, 30, 31] (by decide +kernel) (by decide +kernel)
set_option maxRecDepth 20000 in
theorem gX0_driftOn_X4_increase : GoodIn wsX0_driftOn (wsV RX0 123 RX4 yX4_increase wsX4_increase) := goodIn_app (goodIn_of _ (by decide +kernel)) ggX0_driftOn_X4_increase
theorem dX0_driftOn_0 : decode cX0_driftOn 0 = .ok (.aload_n 0, 1) := by decide +kernel
theorem dX0_driftOn_1 : decode cX0_driftOn 1 = .ok (.getfield 26, 3) := by decide +kernel
theorem dX0_driftOn_4 : decode cX0_driftOn 4 = .ok (.iload_n 1, 1) := by decide +kernel
theorem dX0_driftOn_5 : decode cX0_driftOn 5 = .ok (.iconst 0, 1) := by decide +kernel
theorem dX0_driftOn_6 : decode cX0_driftOn 6 = .ok (.invokevirtual 68, 3) := by decide +kernel
theorem dX0_driftOn_9 : decode cX0_driftOn 9 = .ok (.iload_n 2, 1) := by decide +kernel
theorem dX0_driftOn_10 : decode cX0_driftOn 10 = .ok (.iadd, 1) := by decide +kernel
theorem dX0_driftOn_11 : decode cX0_driftOn 11 = .ok (.istore_n 3, 1) := by decide +kernel
theorem dX0_driftOn_12 : decode cX0_driftOn 12 = .ok (.aload_n 0, 1) := by decide +kernel
theorem dX0_driftOn_13 : decode cX0_driftOn 13 = .ok (.getfield 29, 3) := by decide +kernel
theorem dX0_driftOn_16 : decode cX0_driftOn 16 = .ok (.iconst 1, 1) := by decide +kernel
theorem dX0_driftOn_17 : decode cX0_driftOn 17 = .ok (.iconst 0, 1) := by decide +kernel
theorem dX0_driftOn_18 : decode cX0_driftOn 18 = .ok (.invokevirtual 68, 3) := by decide +kernel
theorem dX0_driftOn_21 : decode cX0_driftOn 21 = .ok (.istore 4, 2) := by decide +kernel
theorem dX0_driftOn_23 : decode cX0_driftOn 23 = .ok (.iload_n 3, 1) := by decide +kernel
theorem dX0_driftOn_24 : decode cX0_driftOn 24 = .ok (.invokestatic 80, 3) := by decide +kernel
theorem dX0_driftOn_27 : decode cX0_driftOn 27 = .ok (.iload 4, 2) := by decide +kernel
theorem dX0_driftOn_29 : decode cX0_driftOn 29 = .ok (.if_icmp .le 16, 3) := by decide +kernel
theorem dX0_driftOn_32 : decode cX0_driftOn 32 = .ok (.iload_n 3, 1) := by decide +kernel
theorem dX0_driftOn_33 : decode cX0_driftOn 33 = .ok (.ifCond .le 9, 3) := by decide +kernel
theorem dX0_driftOn_36 : decode cX0_driftOn 36 = .ok (.iload 4, 2) := by decide +kernel
theorem dX0_driftOn_38 : decode cX0_driftOn 38 = .ok (.ineg, 1) := by decide +kernel
theorem dX0_driftOn_39 : decode cX0_driftOn 39 = .ok (.goto 5, 3) := by decide +kernel
theorem dX0_driftOn_42 : decode cX0_driftOn 42 = .ok (.iload 4, 2) := by decide +kernel
theorem dX0_driftOn_44 : decode cX0_driftOn 44 = .ok (.istore_n 3, 1) := by decide +kernel
theorem dX0_driftOn_45 : decode cX0_driftOn 45 = .ok (.aload_n 0, 1) := by decide +kernel
theorem dX0_driftOn_46 : decode cX0_driftOn 46 = .ok (.getfield 26, 3) := by decide +kernel
theorem dX0_driftOn_49 : decode cX0_driftOn 49 = .ok (.iload_n 1, 1) := by decide +kernel
theorem dX0_driftOn_50 : decode cX0_driftOn 50 = .ok (.iconst 0, 1) := by decide +kernel
theorem dX0_driftOn_51 : decode cX0_driftOn 51 = .ok (.iload_n 3, 1) := by decide +kernel
theorem dX0_driftOn_52 : decode cX0_driftOn 52 = .ok (.invokevirtual 43, 3) := by decide +kernel
theorem dX0_driftOn_55 : decode cX0_driftOn 55 = .ok (.aload_n 0, 1) := by decide +kernel
theorem dX0_driftOn_56 : decode cX0_driftOn 56 = .ok (.getfield 26, 3) := by decide +kernel
theorem dX0_driftOn_59 : decode cX0_driftOn 59 = .ok (.iload_n 1, 1) := by decide +kernel
theorem dX0_driftOn_60 : decode cX0_driftOn 60 = .ok (.iconst 1, 1) := by decide +kernel
theorem dX0_driftOn_61 : decode cX0_driftOn 61 = .ok (.iconst 1, 1) := by decide +kernel
theorem dX0_driftOn_62 : decode cX0_driftOn 62 = .ok (.invokevirtual 123, 3) := by decide +kernel
theorem dX0_driftOn_65 : decode cX0_driftOn 65 = .ok (.return_, 1) := by decide +kernel
set_option maxRecDepth 20000 in
theorem ggX0_chargeFees_X4_get : GoodIn wsX0_chargeFees wsX4_get := goodIn_r _ [10, 11, 12, 24, 25, 26] (by decide +kernel) (by decide +kernel)
set_option maxRecDepth 20000 in
theorem gX0_chargeFees_X4_get : GoodIn wsX0_chargeFees (wsV RX0 68 RX4 yX4_get wsX4_get) := goodIn_app (goodIn_of _ (by decide +kernel)) ggX0_chargeFees_X4_get
set_option maxRecDepth 20000 in
theorem ggX0_chargeFees_X4_increase : GoodIn wsX0_chargeFees wsX4_increase := goodIn_r _ [16, 11, 12, 24, 25, 26] (by decide +kernel) (by decide +kernel)
set_option maxRecDepth 20000 in
theorem gX0_chargeFees_X4_increase : GoodIn wsX0_chargeFees (wsV RX0 123 RX4 yX4_increase wsX4_increase) := goodIn_app (goodIn_of _ (by decide +kernel)) ggX0_chargeFees_X4_increase
theorem dX0_chargeFees_0 : decode cX0_chargeFees 0 = .ok (.iconst 0, 1) := by decide +kernel
theorem dX0_chargeFees_1 : decode cX0_chargeFees 1 = .ok (.istore_n 1, 1) := by decide +kernel
theorem dX0_chargeFees_2 : decode cX0_chargeFees 2 = .ok (.iload_n 1, 1) := by decide +kernel
theorem dX0_chargeFees_3 : decode cX0_chargeFees 3 = .ok (.bipush 8, 2) := by decide +kernel
theorem dX0_chargeFees_5 : decode cX0_chargeFees 5 = .ok (.if_icmp .ge 54, 3) := by decide +kernel
theorem dX0_chargeFees_8 : decode cX0_chargeFees 8 = .ok (.aload_n 0, 1) := by decide +kernel
theorem dX0_chargeFees_9 : decode cX0_chargeFees 9 = .ok (.getfield 16, 3) := by decide +kernel
theorem dX0_chargeFees_12 : decode cX0_chargeFees 12 = .ok (.iload_n 1, 1) := by decide +kernel
theorem dX0_chargeFees_13 : decode cX0_chargeFees 13 = .ok (.iconst 0, 1) := by decide +kernel
theorem dX0_chargeFees_14 : decode cX0_chargeFees 14 = .ok (.invokevirtual 68, 3) := by decide +kernel
theorem dX0_chargeFees_17 : decode cX0_chargeFees 17 = .ok (.ineg, 1) := by decide +kernel
theorem dX0_chargeFees_18 : decode cX0_chargeFees 18 = .ok (.istore_n 2, 1) := by decide +kernel
theorem dX0_chargeFees_19 : decode cX0_chargeFees 19 = .ok (.iload_n 2, 1) := by decide +kernel
theorem dX0_chargeFees_20 : decode cX0_chargeFees 20 = .ok (.ifCond .le 33, 3) := by decide +kernel
theorem dX0_chargeFees_23 : decode cX0_chargeFees 23 = .ok (.iload_n 2, 1) := by decide +kernel
theorem dX0_chargeFees_24 : decode cX0_chargeFees 24 = .ok (.bipush 20, 2) := by decide +kernel
theorem dX0_chargeFees_26 : decode cX0_chargeFees 26 = .ok (.idiv, 1) := by decide +kernel
theorem dX0_chargeFees_27 : decode cX0_chargeFees 27 = .ok (.iconst 5, 1) := by decide +kernel
theorem dX0_chargeFees_28 : decode cX0_chargeFees 28 = .ok (.invokestatic 92, 3) := by decide +kernel
theorem dX0_chargeFees_31 : decode cX0_chargeFees 31 = .ok (.istore_n 3, 1) := by decide +kernel
theorem dX0_chargeFees_32 : decode cX0_chargeFees 32 = .ok (.aload_n 0, 1) := by decide +kernel
theorem dX0_chargeFees_33 : decode cX0_chargeFees 33 = .ok (.getfield 16, 3) := by decide +kernel
theorem dX0_chargeFees_36 : decode cX0_chargeFees 36 = .ok (.iload_n 1, 1) := by decide +kernel
theorem dX0_chargeFees_37 : decode cX0_chargeFees 37 = .ok (.iconst 0, 1) := by decide +kernel
theorem dX0_chargeFees_38 : decode cX0_chargeFees 38 = .ok (.iload_n 3, 1) := by decide +kernel
theorem dX0_chargeFees_39 : decode cX0_chargeFees 39 = .ok (.ineg, 1) := by decide +kernel
theorem dX0_chargeFees_40 : decode cX0_chargeFees 40 = .ok (.invokevirtual 123, 3) := by decide +kernel
theorem dX0_chargeFees_43 : decode cX0_chargeFees 43 = .ok (.aload_n 0, 1) := by decide +kernel
theorem dX0_chargeFees_44 : decode cX0_chargeFees 44 = .ok (.getfield 16, 3) := by decide +kernel
theorem dX0_chargeFees_47 : decode cX0_chargeFees 47 = .ok (.iload_n 1, 1) := by decide +kernel
theorem dX0_chargeFees_48 : decode cX0_chargeFees 48 = .ok (.iconst 1, 1) := by decide +kernel
theorem dX0_chargeFees_49 : decode cX0_chargeFees 49 = .ok (.iload_n 3, 1) := by decide +kernel
theorem dX0_chargeFees_50 : decode cX0_chargeFees 50 = .ok (.invokevirtual 123, 3) := by decide +kernel
theorem dX0_chargeFees_53 : decode cX0_chargeFees 53 = .ok (.iinc 1 1, 3) := by decide +kernel
theorem dX0_chargeFees_56 : decode cX0_chargeFees 56 = .ok (.goto (-54), 3) := by decide +kernel
theorem dX0_chargeFees_59 : decode cX0_chargeFees 59 = .ok (.return_, 1) := by decide +kernel
set_option maxRecDepth 20000 in
theorem ggX0_told_X4_get : GoodIn wsX0_told wsX4_get := goodIn_r _ [10, 11, 12, 20, 21, 22] (by decide +kernel) (by decide +kernel)
set_option maxRecDepth 20000 in
theorem gX0_told_X4_get : GoodIn wsX0_told (wsV RX0 68 RX4 yX4_get wsX4_get) := goodIn_app (goodIn_of _ (by decide +kernel)) ggX0_told_X4_get
theorem dX0_told_0 : decode cX0_told 0 = .ok (.iconst 0, 1) := by decide +kernel
theorem dX0_told_1 : decode cX0_told 1 = .ok (.iload_n 2, 1) := by decide +kernel
theorem dX0_told_2 : decode cX0_told 2 = .ok (.aload_n 0, 1) := by decide +kernel
theorem dX0_told_3 : decode cX0_told 3 = .ok (.getfield 26, 3) := by decide +kernel
theorem dX0_told_6 : decode cX0_told 6 = .ok (.iload_n 1, 1) := by decide +kernel
theorem dX0_told_7 : decode cX0_told 7 = .ok (.iconst 0, 1) := by decide +kernel
theorem dX0_told_8 : decode cX0_told 8 = .ok (.invokevirtual 68, 3) := by decide +kernel
theorem dX0_told_11 : decode cX0_told 11 = .ok (.iadd, 1) := by decide +kernel
theorem dX0_told_12 : decode cX0_told 12 = .ok (.invokestatic 126, 3) := by decide +kernel
theorem dX0_told_15 : decode cX0_told 15 = .ok (.ireturn, 1) := by decide +kernel
set_option maxRecDepth 20000 in
theorem ggX0_paymentFor_X4_get : GoodIn wsX0_paymentFor wsX4_get := goodIn_r _ [7, 8, 9, 27, 28, 29] (by decide +kernel) (by decide +kernel)
set_option maxRecDepth 20000 in
theorem gX0_paymentFor_X4_get : GoodIn wsX0_paymentFor (wsV RX0 68 RX4 yX4_get wsX4_get) := goodIn_app (goodIn_of _ (by decide +kernel)) ggX0_paymentFor_X4_get
set_option maxRecDepth 20000 in
theorem ggX0_paymentFor_X0_told : GoodIn wsX0_paymentFor wsX0_told := goodIn_r _ [14, 15, 16, 17, 18, 19, 3, 4, 5, 6, 7, 8, 9, 20, 21, 22, 23, 24, 25, 26, 27, 28, 29] (by decide +kernel) (by decide +kernel)
set_option maxRecDepth 20000 in
theorem gX0_paymentFor_X0_told : GoodIn wsX0_paymentFor (wsV RX0 129 RX0 yX0_told wsX0_told) := goodIn_app (goodIn_of _ (by decide +kernel)) ggX0_paymentFor_X0_told
theorem dX0_paymentFor_0 : decode cX0_paymentFor 0 = .ok (.aload_n 0, 1) := by decide +kernel
theorem dX0_paymentFor_1 : decode cX0_paymentFor 1 = .ok (.getfield 23, 3) := by decide +kernel
theorem dX0_paymentFor_4 : decode cX0_paymentFor 4 = .ok (.iload_n 1, 1) := by decide +kernel
theorem dX0_paymentFor_5 : decode cX0_paymentFor 5 = .ok (.iconst 3, 1) := by decide +kernel
theorem dX0_paymentFor_6 : decode cX0_paymentFor 6 = .ok (.invokevirtual 68, 3) := by decide +kernel
theorem dX0_paymentFor_9 : decode cX0_paymentFor 9 = .ok (.istore_n 2, 1) := by decide +kernel
theorem dX0_paymentFor_10 : decode cX0_paymentFor 10 = .ok (.aload_n 0, 1) := by decide +kernel
theorem dX0_paymentFor_11 : decode cX0_paymentFor 11 = .ok (.getfield 20, 3) := by decide +kernel
theorem dX0_paymentFor_14 : decode cX0_paymentFor 14 = .ok (.aload_n 0, 1) := by decide +kernel
theorem dX0_paymentFor_15 : decode cX0_paymentFor 15 = .ok (.getfield 23, 3) := by decide +kernel
theorem dX0_paymentFor_18 : decode cX0_paymentFor 18 = .ok (.iload_n 1, 1) := by decide +kernel
theorem dX0_paymentFor_19 : decode cX0_paymentFor 19 = .ok (.iconst 1, 1) := by decide +kernel
theorem dX0_paymentFor_20 : decode cX0_paymentFor 20 = .ok (.invokevirtual 68, 3) := by decide +kernel
theorem dX0_paymentFor_23 : decode cX0_paymentFor 23 = .ok (.iconst 1, 1) := by decide +kernel
theorem dX0_paymentFor_24 : decode cX0_paymentFor 24 = .ok (.invokevirtual 68, 3) := by decide +kernel
theorem dX0_paymentFor_27 : decode cX0_paymentFor 27 = .ok (.istore_n 3, 1) := by decide +kernel
theorem dX0_paymentFor_28 : decode cX0_paymentFor 28 = .ok (.iload_n 3, 1) := by decide +kernel
theorem dX0_paymentFor_29 : decode cX0_paymentFor 29 = .ok (.aload_n 0, 1) := by decide +kernel
theorem dX0_paymentFor_30 : decode cX0_paymentFor 30 = .ok (.iconst 0, 1) := by decide +kernel
theorem dX0_paymentFor_31 : decode cX0_paymentFor 31 = .ok (.iload_n 2, 1) := by decide +kernel
theorem dX0_paymentFor_32 : decode cX0_paymentFor 32 = .ok (.invokevirtual 129, 3) := by decide +kernel
theorem dX0_paymentFor_35 : decode cX0_paymentFor 35 = .ok (.aload_n 0, 1) := by decide +kernel
theorem dX0_paymentFor_36 : decode cX0_paymentFor 36 = .ok (.iconst 1, 1) := by decide +kernel
theorem dX0_paymentFor_37 : decode cX0_paymentFor 37 = .ok (.iload_n 2, 1) := by decide +kernel
theorem dX0_paymentFor_38 : decode cX0_paymentFor 38 = .ok (.invokevirtual 129, 3) := by decide +kernel
theorem dX0_paymentFor_41 : decode cX0_paymentFor 41 = .ok (.iadd, 1) := by decide +kernel
theorem dX0_paymentFor_42 : decode cX0_paymentFor 42 = .ok (.bipush 10, 2) := by decide +kernel
theorem dX0_paymentFor_44 : decode cX0_paymentFor 44 = .ok (.idiv, 1) := by decide +kernel
theorem dX0_paymentFor_45 : decode cX0_paymentFor 45 = .ok (.iadd, 1) := by decide +kernel
theorem dX0_paymentFor_46 : decode cX0_paymentFor 46 = .ok (.ireturn, 1) := by decide +kernel
set_option maxRecDepth 20000 in
theorem ggX0_hindrance_X4_get : GoodIn wsX0_hindrance wsX4_get := goodIn_r _ [13, 14, 15, 32, 33, 34] (by decide +kernel) (by decide +kernel)
set_option maxRecDepth 20000 in
theorem gX0_hindrance_X4_get : GoodIn wsX0_hindrance (wsV RX0 68 RX4 yX4_get wsX4_get) := goodIn_app (goodIn_of _ (by decide +kernel)) ggX0_hindrance_X4_get
set_option maxRecDepth 20000 in
theorem ggX0_hindrance_X0_told : GoodIn wsX0_hindrance wsX0_told := goodIn_r _ [20, 21, 22, 23, 5, 24, 9, 10, 11, 12, 13, 14, 15, 25, 26, 27, 28, 29, 30, 31, 32, 33, 34] (by decide +kernel) (by decide +kernel)
set_option maxRecDepth 20000 in
theorem gX0_hindrance_X0_told : GoodIn wsX0_hindrance (wsV RX0 129 RX0 yX0_told wsX0_told) := goodIn_app (goodIn_of _ (by decide +kernel)) ggX0_hindrance_X0_told
theorem dX0_hindrance_0 : decode cX0_hindrance 0 = .ok (.aload_n 0, 1) := by decide +kernel
theorem dX0_hindrance_1 : decode cX0_hindrance 1 = .ok (.getfield 23, 3) := by decide +kernel
theorem dX0_hindrance_4 : decode cX0_hindrance 4 = .ok (.iload_n 1, 1) := by decide +kernel
theorem dX0_hindrance_5 : decode cX0_hindrance 5 = .ok (.iconst 1, 1) := by decide +kernel
theorem dX0_hindrance_6 : decode cX0_hindrance 6 = .ok (.invokevirtual 68, 3) := by decide +kernel
theorem dX0_hindrance_9 : decode cX0_hindrance 9 = .ok (.istore_n 3, 1) := by decide +kernel
theorem dX0_hindrance_10 : decode cX0_hindrance 10 = .ok (.aload_n 0, 1) := by decide +kernel
theorem dX0_hindrance_11 : decode cX0_hindrance 11 = .ok (.getfield 20, 3) := by decide +kernel
theorem dX0_hindrance_14 : decode cX0_hindrance 14 = .ok (.iload_n 3, 1) := by decide +kernel
theorem dX0_hindrance_15 : decode cX0_hindrance 15 = .ok (.iconst 3, 1) := by decide +kernel
theorem dX0_hindrance_16 : decode cX0_hindrance 16 = .ok (.invokevirtual 68, 3) := by decide +kernel
theorem dX0_hindrance_19 : decode cX0_hindrance 19 = .ok (.ifCond .eq 5, 3) := by decide +kernel
theorem dX0_hindrance_22 : decode cX0_hindrance 22 = .ok (.iconst 1, 1) := by decide +kernel
theorem dX0_hindrance_23 : decode cX0_hindrance 23 = .ok (.ireturn, 1) := by decide +kernel
theorem dX0_hindrance_24 : decode cX0_hindrance 24 = .ok (.aload_n 0, 1) := by decide +kernel
theorem dX0_hindrance_25 : decode cX0_hindrance 25 = .ok (.getfield 20, 3) := by decide +kernel
theorem dX0_hindrance_28 : decode cX0_hindrance 28 = .ok (.iload_n 3, 1) := by decide +kernel
theorem dX0_hindrance_29 : decode cX0_hindrance 29 = .ok (.iconst 2, 1) := by decide +kernel
theorem dX0_hindrance_30 : decode cX0_hindrance 30 = .ok (.invokevirtual 68, 3) := by decide +kernel
theorem dX0_hindrance_33 : decode cX0_hindrance 33 = .ok (.aload_n 0, 1) := by decide +kernel
theorem dX0_hindrance_34 : decode cX0_hindrance 34 = .ok (.getfield 23, 3) := by decide +kernel
theorem dX0_hindrance_37 : decode cX0_hindrance 37 = .ok (.iload_n 1, 1) := by decide +kernel
theorem dX0_hindrance_38 : decode cX0_hindrance 38 = .ok (.iconst 2, 1) := by decide +kernel
theorem dX0_hindrance_39 : decode cX0_hindrance 39 = .ok (.invokevirtual 68, 3) := by decide +kernel
theorem dX0_hindrance_42 : decode cX0_hindrance 42 = .ok (.if_icmp .eq 5, 3) := by decide +kernel
theorem dX0_hindrance_45 : decode cX0_hindrance 45 = .ok (.iconst 2, 1) := by decide +kernel
theorem dX0_hindrance_46 : decode cX0_hindrance 46 = .ok (.ireturn, 1) := by decide +kernel
theorem dX0_hindrance_47 : decode cX0_hindrance 47 = .ok (.aload_n 0, 1) := by decide +kernel
theorem dX0_hindrance_48 : decode cX0_hindrance 48 = .ok (.getfield 23, 3) := by decide +kernel
theorem dX0_hindrance_51 : decode cX0_hindrance 51 = .ok (.iload_n 1, 1) := by decide +kernel
theorem dX0_hindrance_52 : decode cX0_hindrance 52 = .ok (.iconst 3, 1) := by decide +kernel
theorem dX0_hindrance_53 : decode cX0_hindrance 53 = .ok (.invokevirtual 68, 3) := by decide +kernel
theorem dX0_hindrance_56 : decode cX0_hindrance 56 = .ok (.istore 4, 2) := by decide +kernel
theorem dX0_hindrance_58 : decode cX0_hindrance 58 = .ok (.aload_n 0, 1) := by decide +kernel
theorem dX0_hindrance_59 : decode cX0_hindrance 59 = .ok (.iconst 0, 1) := by decide +kernel
theorem dX0_hindrance_60 : decode cX0_hindrance 60 = .ok (.iload 4, 2) := by decide +kernel
theorem dX0_hindrance_62 : decode cX0_hindrance 62 = .ok (.invokevirtual 129, 3) := by decide +kernel
theorem dX0_hindrance_65 : decode cX0_hindrance 65 = .ok (.aload_n 0, 1) := by decide +kernel
theorem dX0_hindrance_66 : decode cX0_hindrance 66 = .ok (.iconst 1, 1) := by decide +kernel
theorem dX0_hindrance_67 : decode cX0_hindrance 67 = .ok (.iload 4, 2) := by decide +kernel
theorem dX0_hindrance_69 : decode cX0_hindrance 69 = .ok (.invokevirtual 129, 3) := by decide +kernel
theorem dX0_hindrance_72 : decode cX0_hindrance 72 = .ok (.isub, 1) := by decide +kernel
theorem dX0_hindrance_73 : decode cX0_hindrance 73 = .ok (.invokestatic 80, 3) := by decide +kernel
theorem dX0_hindrance_76 : decode cX0_hindrance 76 = .ok (.aload_n 0, 1) := by decide +kernel
theorem dX0_hindrance_77 : decode cX0_hindrance 77 = .ok (.getfield 29, 3) := by decide +kernel
theorem dX0_hindrance_80 : decode cX0_hindrance 80 = .ok (.iconst 0, 1) := by decide +kernel
theorem dX0_hindrance_81 : decode cX0_hindrance 81 = .ok (.iconst 0, 1) := by decide +kernel
theorem dX0_hindrance_82 : decode cX0_hindrance 82 = .ok (.invokevirtual 68, 3) := by decide +kernel
theorem dX0_hindrance_85 : decode cX0_hindrance 85 = .ok (.if_icmp .le 5, 3) := by decide +kernel
theorem dX0_hindrance_88 : decode cX0_hindrance 88 = .ok (.iconst 3, 1) := by decide +kernel
theorem dX0_hindrance_89 : decode cX0_hindrance 89 = .ok (.ireturn, 1) := by decide +kernel
theorem dX0_hindrance_90 : decode cX0_hindrance 90 = .ok (.aload_n 0, 1) := by decide +kernel
theorem dX0_hindrance_91 : decode cX0_hindrance 91 = .ok (.getfield 16, 3) := by decide +kernel
theorem dX0_hindrance_94 : decode cX0_hindrance 94 = .ok (.aload_n 0, 1) := by decide +kernel
theorem dX0_hindrance_95 : decode cX0_hindrance 95 = .ok (.getfield 20, 3) := by decide +kernel
theorem dX0_hindrance_98 : decode cX0_hindrance 98 = .ok (.iload_n 3, 1) := by decide +kernel
theorem dX0_hindrance_99 : decode cX0_hindrance 99 = .ok (.iconst 0, 1) := by decide +kernel
theorem dX0_hindrance_100 : decode cX0_hindrance 100 = .ok (.invokevirtual 68, 3) := by decide +kernel
theorem dX0_hindrance_103 : decode cX0_hindrance 103 = .ok (.iconst 0, 1) := by decide +kernel
theorem dX0_hindrance_104 : decode cX0_hindrance 104 = .ok (.invokevirtual 68, 3) := by decide +kernel
theorem dX0_hindrance_107 : decode cX0_hindrance 107 = .ok (.istore 5, 2) := by decide +kernel
theorem dX0_hindrance_109 : decode cX0_hindrance 109 = .ok (.iload 5, 2) := by decide +kernel
theorem dX0_hindrance_111 : decode cX0_hindrance 111 = .ok (.iload_n 2, 1) := by decide +kernel
theorem dX0_hindrance_112 : decode cX0_hindrance 112 = .ok (.isub, 1) := by decide +kernel
theorem dX0_hindrance_113 : decode cX0_hindrance 113 = .ok (.aload_n 0, 1) := by decide +kernel
theorem dX0_hindrance_114 : decode cX0_hindrance 114 = .ok (.getfield 29, 3) := by decide +kernel
theorem dX0_hindrance_117 : decode cX0_hindrance 117 = .ok (.iconst 3, 1) := by decide +kernel
theorem dX0_hindrance_118 : decode cX0_hindrance 118 = .ok (.iconst 0, 1) := by decide +kernel
theorem dX0_hindrance_119 : decode cX0_hindrance 119 = .ok (.invokevirtual 68, 3) := by decide +kernel
theorem dX0_hindrance_122 : decode cX0_hindrance 122 = .ok (.ineg, 1) := by decide +kernel
theorem dX0_hindrance_123 : decode cX0_hindrance 123 = .ok (.if_icmp .ge 7, 3) := by decide +kernel
theorem dX0_hindrance_126 : decode cX0_hindrance 126 = .ok (.iconst 4, 1) := by decide +kernel
theorem dX0_hindrance_127 : decode cX0_hindrance 127 = .ok (.goto 4, 3) := by decide +kernel
theorem dX0_hindrance_130 : decode cX0_hindrance 130 = .ok (.iconst 0, 1) := by decide +kernel
theorem dX0_hindrance_131 : decode cX0_hindrance 131 = .ok (.ireturn, 1) := by decide +kernel
set_option maxRecDepth 20000 in
theorem ggX0_errorIfNotWaiting_X4_has : GoodIn wsX0_errorIfNotWaiting wsX4_has := goodIn_r _ [6, 7, 21, 22, 23] (by decide +kernel) (by decide +kernel)
set_option maxRecDepth 20000 in
theorem gX0_errorIfNotWaiting_X4_has : GoodIn wsX0_errorIfNotWaiting (wsV RX0 61 RX4 yX4_has wsX4_has) := goodIn_app (goodIn_of _ (by decide +kernel)) ggX0_errorIfNotWaiting_X4_has
set_option maxRecDepth 20000 in
theorem ggX0_errorIfNotWaiting_X4_get : GoodIn wsX0_errorIfNotWaiting wsX4_get := goodIn_r _ [11, 12, 13, 21, 22, 23] (by decide +kernel) (by decide +kernel)
set_option maxRecDepth 20000 in
theorem gX0_errorIfNotWaiting_X4_get : GoodIn wsX0_errorIfNotWaiting (wsV RX0 68 RX4 yX4_get wsX4_get) := goodIn_app (goodIn_of _ (by decide +kernel)) ggX0_errorIfNotWaiting_X4_get
theorem dX0_errorIfNotWaiting_0 : decode cX0_errorIfNotWaiting 0 = .ok (.aload_n 0, 1) := by decide +kernel
theorem dX0_errorIfNotWaiting_1 : decode cX0_errorIfNotWaiting 1 = .ok (.getfield 23, 3) := by decide +kernel
theorem dX0_errorIfNotWaiting_4 : decode cX0_errorIfNotWaiting 4 = .ok (.iload_n 1, 1) := by decide +kernel
theorem dX0_errorIfNotWaiting_5 : decode cX0_errorIfNotWaiting 5 = .ok (.invokevirtual 61, 3) := by decide +kernel
theorem dX0_errorIfNotWaiting_8 : decode cX0_errorIfNotWaiting 8 = .ok (.ifCond .ne 5, 3) := by decide +kernel
theorem dX0_errorIfNotWaiting_11 : decode cX0_errorIfNotWaiting 11 = .ok (.iconst (-1), 1) := by decide +kernel
theorem dX0_errorIfNotWaiting_12 : decode cX0_errorIfNotWaiting 12 = .ok (.ireturn, 1) := by decide +kernel
theorem dX0_errorIfNotWaiting_13 : decode cX0_errorIfNotWaiting 13 = .ok (.aload_n 0, 1) := by decide +kernel
theorem dX0_errorIfNotWaiting_14 : decode cX0_errorIfNotWaiting 14 = .ok (.getfield 23, 3) := by decide +kernel
theorem dX0_errorIfNotWaiting_17 : decode cX0_errorIfNotWaiting 17 = .ok (.iload_n 1, 1) := by decide +kernel
theorem dX0_errorIfNotWaiting_18 : decode cX0_errorIfNotWaiting 18 = .ok (.iconst 4, 1) := by decide +kernel
theorem dX0_errorIfNotWaiting_19 : decode cX0_errorIfNotWaiting 19 = .ok (.invokevirtual 68, 3) := by decide +kernel
theorem dX0_errorIfNotWaiting_22 : decode cX0_errorIfNotWaiting 22 = .ok (.ifCond .ne 7, 3) := by decide +kernel
theorem dX0_errorIfNotWaiting_25 : decode cX0_errorIfNotWaiting 25 = .ok (.iconst 0, 1) := by decide +kernel
theorem dX0_errorIfNotWaiting_26 : decode cX0_errorIfNotWaiting 26 = .ok (.goto 5, 3) := by decide +kernel
theorem dX0_errorIfNotWaiting_29 : decode cX0_errorIfNotWaiting 29 = .ok (.bipush (-4), 2) := by decide +kernel
theorem dX0_errorIfNotWaiting_31 : decode cX0_errorIfNotWaiting 31 = .ok (.ireturn, 1) := by decide +kernel
set_option maxRecDepth 20000 in
theorem ggX0_waiting_X3_length : GoodIn wsX0_waiting wsX3_length := goodIn_r _ [6, 7, 15, 16, 17] (by decide +kernel) (by decide +kernel)
set_option maxRecDepth 20000 in
theorem gX0_waiting_X3_length : GoodIn wsX0_waiting (wsV RX0 89 RX3 yX3_length wsX3_length) := goodIn_app (goodIn_of _ (by decide +kernel)) ggX0_waiting_X3_length
theorem dX0_waiting_0 : decode cX0_waiting 0 = .ok (.aload_n 0, 1) := by decide +kernel
theorem dX0_waiting_1 : decode cX0_waiting 1 = .ok (.getfield 35, 3) := by decide +kernel
theorem dX0_waiting_4 : decode cX0_waiting 4 = .ok (.invokevirtual 89, 3) := by decide +kernel
theorem dX0_waiting_7 : decode cX0_waiting 7 = .ok (.ireturn, 1) := by decide +kernel
set_option maxRecDepth 20000 in
theorem ggX0_waitingAt_X3_at : GoodIn wsX0_waitingAt wsX3_at := goodIn_r _ [6, 7, 8, 9, 17, 18, 19] (by decide +kernel) (by decide +kernel)
set_option maxRecDepth 20000 in
theorem gX0_waitingAt_X3_at : GoodIn wsX0_waitingAt (wsV RX0 132 RX3 yX3_at wsX3_at) := goodIn_app (goodIn_of _ (by decide +kernel)) ggX0_waitingAt_X3_at
theorem dX0_waitingAt_0 : decode cX0_waitingAt 0 = .ok (.aload_n 0, 1) := by decide +kernel
theorem dX0_waitingAt_1 : decode cX0_waitingAt 1 = .ok (.getfield 35, 3) := by decide +kernel
theorem dX0_waitingAt_4 : decode cX0_waitingAt 4 = .ok (.iload_n 1, 1) := by decide +kernel
theorem dX0_waitingAt_5 : decode cX0_waitingAt 5 = .ok (.invokevirtual 132, 3) := by decide +kernel
theorem dX0_waitingAt_8 : decode cX0_waitingAt 8 = .ok (.ireturn, 1) := by decide +kernel
set_option maxRecDepth 20000 in
theorem ggX0_tellTrader_X4_has : GoodIn wsX0_tellTrader wsX4_has := goodIn_r _ [12, 13, 36, 37, 38] (by decide +kernel) (by decide +kernel)
set_option maxRecDepth 20000 in
theorem gX0_tellTrader_X4_has : GoodIn wsX0_tellTrader (wsV RX0 61 RX4 yX4_has wsX4_has) := goodIn_app (goodIn_of _ (by decide +kernel)) ggX0_tellTrader_X4_has
set_option maxRecDepth 20000 in
theorem ggX0_tellTrader_X4_get : GoodIn wsX0_tellTrader wsX4_get := goodIn_r _ [17, 18, 19, 36, 37, 38] (by decide +kernel) (by decide +kernel)
set_option maxRecDepth 20000 in
theorem gX0_tellTrader_X4_get : GoodIn wsX0_tellTrader (wsV RX0 68 RX4 yX4_get wsX4_get) := goodIn_app (goodIn_of _ (by decide +kernel)) ggX0_tellTrader_X4_get
set_option maxRecDepth 20000 in
theorem ggX0_tellTrader_X4_countOf : GoodIn wsX0_tellTrader wsX4_countOf := goodIn_r _ [23, 13, 24, 15, 16, 11, 17, 18, 19, 36, 37, 38] (by decide +kernel) (by decide +kernel)
set_option maxRecDepth 20000 in
theorem gX0_tellTrader_X4_countOf : GoodIn wsX0_tellTrader (wsV RX0 135 RX4 yX4_countOf wsX4_countOf) := goodIn_app (goodIn_of _ (by decide +kernel)) ggX0_tellTrader_X4_countOf
set_option maxRecDepth 20000 in
theorem ggX0_tellTrader_X4_countOfBoth : GoodIn wsX0_tellTrader wsX4_countOfBoth := goodIn_r _ [28, 13, 24, 15, 16, 11, 17, 18, 19, 36, 37, 38] (by decide +kernel) (by decide +kernel)
set_option maxRecDepth 20000 in
theorem gX0_tellTrader_X4_countOfBoth : GoodIn wsX0_tellTrader (wsV RX0 72 RX4 yX4_countOfBoth wsX4_countOfBoth) := goodIn_app (goodIn_of _ (by decide +kernel)) ggX0_tellTrader_X4_countOfBoth
theorem dX0_tellTrader_0 : decode cX0_tellTrader 0 = .ok (.aload_n 0, 1) := by decide +kernel
theorem dX0_tellTrader_1 : decode cX0_tellTrader 1 = .ok (.getfield 16, 3) := by decide +kernel
theorem dX0_tellTrader_4 : decode cX0_tellTrader 4 = .ok (.iload_n 1, 1) := by decide +kernel
theorem dX0_tellTrader_5 : decode cX0_tellTrader 5 = .ok (.invokevirtual 61, 3) := by decide +kernel
theorem dX0_tellTrader_8 : decode cX0_tellTrader 8 = .ok (.ifCond .ne 5, 3) := by decide +kernel
theorem dX0_tellTrader_11 : decode cX0_tellTrader 11 = .ok (.iconst (-1), 1) := by decide +kernel
theorem dX0_tellTrader_12 : decode cX0_tellTrader 12 = .ok (.ireturn, 1) := by decide +kernel
theorem dX0_tellTrader_13 : decode cX0_tellTrader 13 = .ok (.iload_n 2, 1) := by decide +kernel
theorem dX0_tellTrader_14 : decode cX0_tellTrader 14 = .ok (.tableswitch 141 0 7 #[46, 61, 75, 85, 97, 107, 119, 131], 46) := by decide +kernel
theorem dX0_tellTrader_60 : decode cX0_tellTrader 60 = .ok (.iconst 0, 1) := by decide +kernel
theorem dX0_tellTrader_61 : decode cX0_tellTrader 61 = .ok (.aload_n 0, 1) := by decide +kernel
theorem dX0_tellTrader_62 : decode cX0_tellTrader 62 = .ok (.getfield 16, 3) := by decide +kernel
theorem dX0_tellTrader_65 : decode cX0_tellTrader 65 = .ok (.iload_n 1, 1) := by decide +kernel
theorem dX0_tellTrader_66 : decode cX0_tellTrader 66 = .ok (.iconst 0, 1) := by decide +kernel
theorem dX0_tellTrader_67 : decode cX0_tellTrader 67 = .ok (.invokevirtual 68, 3) := by decide +kernel
theorem dX0_tellTrader_70 : decode cX0_tellTrader 70 = .ok (.ineg, 1) := by decide +kernel
theorem dX0_tellTrader_71 : decode cX0_tellTrader 71 = .ok (.invokestatic 126, 3) := by decide +kernel
theorem dX0_tellTrader_74 : decode cX0_tellTrader 74 = .ok (.ireturn, 1) := by decide +kernel
theorem dX0_tellTrader_75 : decode cX0_tellTrader 75 = .ok (.iconst 0, 1) := by decide +kernel
theorem dX0_tellTrader_76 : decode cX0_tellTrader 76 = .ok (.aload_n 0, 1) := by decide +kernel
theorem dX0_tellTrader_77 : decode cX0_tellTrader 77 = .ok (.getfield 16, 3) := by decide +kernel
theorem dX0_tellTrader_80 : decode cX0_tellTrader 80 = .ok (.iload_n 1, 1) := by decide +kernel
theorem dX0_tellTrader_81 : decode cX0_tellTrader 81 = .ok (.iconst 0, 1) := by decide +kernel
theorem dX0_tellTrader_82 : decode cX0_tellTrader 82 = .ok (.invokevirtual 68, 3) := by decide +kernel
theorem dX0_tellTrader_85 : decode cX0_tellTrader 85 = .ok (.invokestatic 126, 3) := by decide +kernel
theorem dX0_tellTrader_88 : decode cX0_tellTrader 88 = .ok (.ireturn, 1) := by decide +kernel
theorem dX0_tellTrader_89 : decode cX0_tellTrader 89 = .ok (.aload_n 0, 1) := by decide +kernel
theorem dX0_tellTrader_90 : decode cX0_tellTrader 90 = .ok (.getfield 20, 3) := by decide +kernel
theorem dX0_tellTrader_93 : decode cX0_tellTrader 93 = .ok (.iconst 0, 1) := by decide +kernel
theorem dX0_tellTrader_94 : decode cX0_tellTrader 94 = .ok (.iload_n 1, 1) := by decide +kernel
theorem dX0_tellTrader_95 : decode cX0_tellTrader 95 = .ok (.invokevirtual 135, 3) := by decide +kernel
theorem dX0_tellTrader_98 : decode cX0_tellTrader 98 = .ok (.ireturn, 1) := by decide +kernel
theorem dX0_tellTrader_99 : decode cX0_tellTrader 99 = .ok (.aload_n 0, 1) := by decide +kernel
theorem dX0_tellTrader_100 : decode cX0_tellTrader 100 = .ok (.getfield 20, 3) := by decide +kernel
theorem dX0_tellTrader_103 : decode cX0_tellTrader 103 = .ok (.iconst 0, 1) := by decide +kernel
theorem dX0_tellTrader_104 : decode cX0_tellTrader 104 = .ok (.iload_n 1, 1) := by decide +kernel
theorem dX0_tellTrader_105 : decode cX0_tellTrader 105 = .ok (.iconst 3, 1) := by decide +kernel
theorem dX0_tellTrader_106 : decode cX0_tellTrader 106 = .ok (.iconst 1, 1) := by decide +kernel
theorem dX0_tellTrader_107 : decode cX0_tellTrader 107 = .ok (.invokevirtual 72, 3) := by decide +kernel
theorem dX0_tellTrader_110 : decode cX0_tellTrader 110 = .ok (.ireturn, 1) := by decide +kernel
theorem dX0_tellTrader_111 : decode cX0_tellTrader 111 = .ok (.aload_n 0, 1) := by decide +kernel
theorem dX0_tellTrader_112 : decode cX0_tellTrader 112 = .ok (.getfield 23, 3) := by decide +kernel
theorem dX0_tellTrader_115 : decode cX0_tellTrader 115 = .ok (.iconst 0, 1) := by decide +kernel
theorem dX0_tellTrader_116 : decode cX0_tellTrader 116 = .ok (.iload_n 1, 1) := by decide +kernel
theorem dX0_tellTrader_117 : decode cX0_tellTrader 117 = .ok (.invokevirtual 135, 3) := by decide +kernel
theorem dX0_tellTrader_120 : decode cX0_tellTrader 120 = .ok (.ireturn, 1) := by decide +kernel
theorem dX0_tellTrader_121 : decode cX0_tellTrader 121 = .ok (.aload_n 0, 1) := by decide +kernel
theorem dX0_tellTrader_122 : decode cX0_tellTrader 122 = .ok (.getfield 23, 3) := by decide +kernel
theorem dX0_tellTrader_125 : decode cX0_tellTrader 125 = .ok (.iconst 0, 1) := by decide +kernel
theorem dX0_tellTrader_126 : decode cX0_tellTrader 126 = .ok (.iload_n 1, 1) := by decide +kernel
theorem dX0_tellTrader_127 : decode cX0_tellTrader 127 = .ok (.iconst 4, 1) := by decide +kernel
theorem dX0_tellTrader_128 : decode cX0_tellTrader 128 = .ok (.iconst 1, 1) := by decide +kernel
theorem dX0_tellTrader_129 : decode cX0_tellTrader 129 = .ok (.invokevirtual 72, 3) := by decide +kernel
theorem dX0_tellTrader_132 : decode cX0_tellTrader 132 = .ok (.ireturn, 1) := by decide +kernel
theorem dX0_tellTrader_133 : decode cX0_tellTrader 133 = .ok (.aload_n 0, 1) := by decide +kernel
theorem dX0_tellTrader_134 : decode cX0_tellTrader 134 = .ok (.getfield 23, 3) := by decide +kernel
theorem dX0_tellTrader_137 : decode cX0_tellTrader 137 = .ok (.iconst 0, 1) := by decide +kernel
theorem dX0_tellTrader_138 : decode cX0_tellTrader 138 = .ok (.iload_n 1, 1) := by decide +kernel
theorem dX0_tellTrader_139 : decode cX0_tellTrader 139 = .ok (.iconst 4, 1) := by decide +kernel
theorem dX0_tellTrader_140 : decode cX0_tellTrader 140 = .ok (.iconst 2, 1) := by decide +kernel
theorem dX0_tellTrader_141 : decode cX0_tellTrader 141 = .ok (.invokevirtual 72, 3) := by decide +kernel
theorem dX0_tellTrader_144 : decode cX0_tellTrader 144 = .ok (.ireturn, 1) := by decide +kernel
theorem dX0_tellTrader_145 : decode cX0_tellTrader 145 = .ok (.aload_n 0, 1) := by decide +kernel
theorem dX0_tellTrader_146 : decode cX0_tellTrader 146 = .ok (.getfield 16, 3) := by decide +kernel
theorem dX0_tellTrader_149 : decode cX0_tellTrader 149 = .ok (.iload_n 1, 1) := by decide +kernel
theorem dX0_tellTrader_150 : decode cX0_tellTrader 150 = .ok (.iconst 1, 1) := by decide +kernel
theorem dX0_tellTrader_151 : decode cX0_tellTrader 151 = .ok (.invokevirtual 68, 3) := by decide +kernel
theorem dX0_tellTrader_154 : decode cX0_tellTrader 154 = .ok (.ireturn, 1) := by decide +kernel
theorem dX0_tellTrader_155 : decode cX0_tellTrader 155 = .ok (.bipush (-2), 2) := by decide +kernel
theorem dX0_tellTrader_157 : decode cX0_tellTrader 157 = .ok (.ireturn, 1) := by decide +kernel
set_option maxRecDepth 20000 in
theorem ggX0_tellRiddle_X4_has : GoodIn wsX0_tellRiddle wsX4_has := goodIn_r _ [7, 8, 35, 36, 37] (by decide +kernel) (by decide +kernel)
set_option maxRecDepth 20000 in
theorem gX0_tellRiddle_X4_has : GoodIn wsX0_tellRiddle (wsV RX0 61 RX4 yX4_has wsX4_has) := goodIn_app (goodIn_of _ (by decide +kernel)) ggX0_tellRiddle_X4_has
set_option maxRecDepth 20000 in
theorem ggX0_tellRiddle_X4_get : GoodIn wsX0_tellRiddle wsX4_get := goodIn_r _ [12, 13, 14, 35, 36, 37] (by decide +kernel) (by decide +kernel)
set_option maxRecDepth 20000 in
theorem gX0_tellRiddle_X4_get : GoodIn wsX0_tellRiddle (wsV RX0 68 RX4 yX4_get wsX4_get) := goodIn_app (goodIn_of _ (by decide +kernel)) ggX0_tellRiddle_X4_get
set_option maxRecDepth 20000 in
theorem ggX0_tellRiddle_X4_countOf : GoodIn wsX0_tellRiddle wsX4_countOf := goodIn_r _ [18, 8, 19, 10, 11, 6, 12, 13, 14, 35, 36, 37] (by decide +kernel) (by decide +kernel)
set_option maxRecDepth 20000 in
theorem gX0_tellRiddle_X4_countOf : GoodIn wsX0_tellRiddle (wsV RX0 135 RX4 yX4_countOf wsX4_countOf) := goodIn_app (goodIn_of _ (by decide +kernel)) ggX0_tellRiddle_X4_countOf
set_option maxRecDepth 20000 in
theorem ggX0_tellRiddle_X4_countOfBoth : GoodIn wsX0_tellRiddle wsX4_countOfBoth := goodIn_r _ [23, 8, 19, 10, 11, 6, 12, 13, 14, 35, 36, 37] (by decide +kernel) (by decide +kernel)
set_option maxRecDepth 20000 in
theorem gX0_tellRiddle_X4_countOfBoth : GoodIn wsX0_tellRiddle (wsV RX0 72 RX4 yX4_countOfBoth wsX4_countOfBoth) := goodIn_app (goodIn_of _ (by decide +kernel)) ggX0_tellRiddle_X4_countOfBoth
set_option maxRecDepth 20000 in
theorem ggX0_tellRiddle_X4_rowOfBoth : GoodIn wsX0_tellRiddle wsX4_rowOfBoth := goodIn_r _ [27, 8, 19, 10, 11, 6, 12, 13, 14, 35, 36, 37] (by decide +kernel) (by decide +kernel)
set_option maxRecDepth 20000 in
theorem gX0_tellRiddle_X4_rowOfBoth : GoodIn wsX0_tellRiddle (wsV RX0 138 RX4 yX4_rowOfBoth wsX4_rowOfBoth) := goodIn_app (goodIn_of _ (by decide +kernel)) ggX0_tellRiddle_X4_rowOfBoth
theorem dX0_tellRiddle_0 : decode cX0_tellRiddle 0 = .ok (.aload_n 0, 1) := by decide +kernel
theorem dX0_tellRiddle_1 : decode cX0_tellRiddle 1 = .ok (.getfield 20, 3) := by decide +kernel
theorem dX0_tellRiddle_4 : decode cX0_tellRiddle 4 = .ok (.iload_n 1, 1) := by decide +kernel
theorem dX0_tellRiddle_5 : decode cX0_tellRiddle 5 = .ok (.invokevirtual 61, 3) := by decide +kernel
theorem dX0_tellRiddle_8 : decode cX0_tellRiddle 8 = .ok (.ifCond .ne 5, 3) := by decide +kernel
theorem dX0_tellRiddle_11 : decode cX0_tellRiddle 11 = .ok (.iconst (-1), 1) := by decide +kernel
theorem dX0_tellRiddle_12 : decode cX0_tellRiddle 12 = .ok (.ireturn, 1) := by decide +kernel
theorem dX0_tellRiddle_13 : decode cX0_tellRiddle 13 = .ok (.iload_n 2, 1) := by decide +kernel
theorem dX0_tellRiddle_14 : decode cX0_tellRiddle 14 = .ok (.tableswitch 86 0 6 #[42, 42, 42, 42, 52, 62, 74], 42) := by decide +kernel
theorem dX0_tellRiddle_56 : decode cX0_tellRiddle 56 = .ok (.aload_n 0, 1) := by decide +kernel
theorem dX0_tellRiddle_57 : decode cX0_tellRiddle 57 = .ok (.getfield 20, 3) := by decide +kernel
theorem dX0_tellRiddle_60 : decode cX0_tellRiddle 60 = .ok (.iload_n 1, 1) := by decide +kernel
theorem dX0_tellRiddle_61 : decode cX0_tellRiddle 61 = .ok (.iload_n 2, 1) := by decide +kernel
theorem dX0_tellRiddle_62 : decode cX0_tellRiddle 62 = .ok (.invokevirtual 68, 3) := by decide +kernel
theorem dX0_tellRiddle_65 : decode cX0_tellRiddle 65 = .ok (.ireturn, 1) := by decide +kernel
theorem dX0_tellRiddle_66 : decode cX0_tellRiddle 66 = .ok (.aload_n 0, 1) := by decide +kernel
theorem dX0_tellRiddle_67 : decode cX0_tellRiddle 67 = .ok (.getfield 23, 3) := by decide +kernel
theorem dX0_tellRiddle_70 : decode cX0_tellRiddle 70 = .ok (.iconst 1, 1) := by decide +kernel
theorem dX0_tellRiddle_71 : decode cX0_tellRiddle 71 = .ok (.iload_n 1, 1) := by decide +kernel
theorem dX0_tellRiddle_72 : decode cX0_tellRiddle 72 = .ok (.invokevirtual 135, 3) := by decide +kernel
theorem dX0_tellRiddle_75 : decode cX0_tellRiddle 75 = .ok (.ireturn, 1) := by decide +kernel
theorem dX0_tellRiddle_76 : decode cX0_tellRiddle 76 = .ok (.aload_n 0, 1) := by decide +kernel
theorem dX0_tellRiddle_77 : decode cX0_tellRiddle 77 = .ok (.getfield 23, 3) := by decide +kernel
theorem dX0_tellRiddle_80 : decode cX0_tellRiddle 80 = .ok (.iconst 1, 1) := by decide +kernel
theorem dX0_tellRiddle_81 : decode cX0_tellRiddle 81 = .ok (.iload_n 1, 1) := by decide +kernel
theorem dX0_tellRiddle_82 : decode cX0_tellRiddle 82 = .ok (.iconst 4, 1) := by decide +kernel
theorem dX0_tellRiddle_83 : decode cX0_tellRiddle 83 = .ok (.iconst 0, 1) := by decide +kernel
theorem dX0_tellRiddle_84 : decode cX0_tellRiddle 84 = .ok (.invokevirtual 72, 3) := by decide +kernel
theorem dX0_tellRiddle_87 : decode cX0_tellRiddle 87 = .ok (.ireturn, 1) := by decide +kernel
theorem dX0_tellRiddle_88 : decode cX0_tellRiddle 88 = .ok (.aload_n 0, 1) := by decide +kernel
theorem dX0_tellRiddle_89 : decode cX0_tellRiddle 89 = .ok (.getfield 23, 3) := by decide +kernel
theorem dX0_tellRiddle_92 : decode cX0_tellRiddle 92 = .ok (.iconst 1, 1) := by decide +kernel
theorem dX0_tellRiddle_93 : decode cX0_tellRiddle 93 = .ok (.iload_n 1, 1) := by decide +kernel
theorem dX0_tellRiddle_94 : decode cX0_tellRiddle 94 = .ok (.iconst 4, 1) := by decide +kernel
theorem dX0_tellRiddle_95 : decode cX0_tellRiddle 95 = .ok (.iconst 1, 1) := by decide +kernel
theorem dX0_tellRiddle_96 : decode cX0_tellRiddle 96 = .ok (.invokevirtual 138, 3) := by decide +kernel
theorem dX0_tellRiddle_99 : decode cX0_tellRiddle 99 = .ok (.ireturn, 1) := by decide +kernel
theorem dX0_tellRiddle_100 : decode cX0_tellRiddle 100 = .ok (.bipush (-2), 2) := by decide +kernel
theorem dX0_tellRiddle_102 : decode cX0_tellRiddle 102 = .ok (.ireturn, 1) := by decide +kernel
set_option maxRecDepth 20000 in
theorem ggX0_tellAnswer_X4_has : GoodIn wsX0_tellAnswer wsX4_has := goodIn_r _ [7, 8, 34, 35, 36] (by decide +kernel) (by decide +kernel)
set_option maxRecDepth 20000 in
theorem gX0_tellAnswer_X4_has : GoodIn wsX0_tellAnswer (wsV RX0 61 RX4 yX4_has wsX4_has) := goodIn_app (goodIn_of _ (by decide +kernel)) ggX0_tellAnswer_X4_has
set_option maxRecDepth 20000 in
theorem ggX0_tellAnswer_X3_placeOf : GoodIn wsX0_tellAnswer wsX3_placeOf := goodIn_r _ [13, 14, 15, 16, 17, 12, 18, 19, 20, 37, 38, 39] (by decide +kernel) (by decide +kernel)
set_option maxRecDepth 20000 in
theorem gX0_tellAnswer_X3_placeOf : GoodIn wsX0_tellAnswer (wsV RX0 141 RX3 yX3_placeOf wsX3_placeOf) := goodIn_app (goodIn_of _ (by decide +kernel)) ggX0_tellAnswer_X3_placeOf
set_option maxRecDepth 20000 in
theorem ggX0_tellAnswer_X4_get : GoodIn wsX0_tellAnswer wsX4_get := goodIn_r _ [24, 25, 26, 34, 35, 36] (by decide +kernel) (by decide +kernel)
set_option maxRecDepth 20000 in
theorem gX0_tellAnswer_X4_get : GoodIn wsX0_tellAnswer (wsV RX0 68 RX4 yX4_get wsX4_get) := goodIn_app (goodIn_of _ (by decide +kernel)) ggX0_tellAnswer_X4_get
theorem dX0_tellAnswer_0 : decode cX0_tellAnswer 0 = .ok (.aload_n 0, 1) := by decide +kernel
theorem dX0_tellAnswer_1 : decode cX0_tellAnswer 1 = .ok (.getfield 23, 3) := by decide +kernel
theorem dX0_tellAnswer_4 : decode cX0_tellAnswer 4 = .ok (.iload_n 1, 1) := by decide +kernel
theorem dX0_tellAnswer_5 : decode cX0_tellAnswer 5 = .ok (.invokevirtual 61, 3) := by decide +kernel
theorem dX0_tellAnswer_8 : decode cX0_tellAnswer 8 = .ok (.ifCond .ne 5, 3) := by decide +kernel
theorem dX0_tellAnswer_11 : decode cX0_tellAnswer 11 = .ok (.iconst (-1), 1) := by decide +kernel
theorem dX0_tellAnswer_12 : decode cX0_tellAnswer 12 = .ok (.ireturn, 1) := by decide +kernel
theorem dX0_tellAnswer_13 : decode cX0_tellAnswer 13 = .ok (.iload_n 2, 1) := by decide +kernel
theorem dX0_tellAnswer_14 : decode cX0_tellAnswer 14 = .ok (.bipush 8, 2) := by decide +kernel
theorem dX0_tellAnswer_16 : decode cX0_tellAnswer 16 = .ok (.if_icmp .ne 12, 3) := by decide +kernel
theorem dX0_tellAnswer_19 : decode cX0_tellAnswer 19 = .ok (.aload_n 0, 1) := by decide +kernel
theorem dX0_tellAnswer_20 : decode cX0_tellAnswer 20 = .ok (.getfield 35, 3) := by decide +kernel
theorem dX0_tellAnswer_23 : decode cX0_tellAnswer 23 = .ok (.iload_n 1, 1) := by decide +kernel
theorem dX0_tellAnswer_24 : decode cX0_tellAnswer 24 = .ok (.invokevirtual 141, 3) := by decide +kernel
theorem dX0_tellAnswer_27 : decode cX0_tellAnswer 27 = .ok (.ireturn, 1) := by decide +kernel
theorem dX0_tellAnswer_28 : decode cX0_tellAnswer 28 = .ok (.iload_n 2, 1) := by decide +kernel
theorem dX0_tellAnswer_29 : decode cX0_tellAnswer 29 = .ok (.ifCond .lt 9, 3) := by decide +kernel
theorem dX0_tellAnswer_32 : decode cX0_tellAnswer 32 = .ok (.iload_n 2, 1) := by decide +kernel
theorem dX0_tellAnswer_33 : decode cX0_tellAnswer 33 = .ok (.bipush 8, 2) := by decide +kernel
theorem dX0_tellAnswer_35 : decode cX0_tellAnswer 35 = .ok (.if_icmp .le 8, 3) := by decide +kernel
theorem dX0_tellAnswer_38 : decode cX0_tellAnswer 38 = .ok (.bipush (-2), 2) := by decide +kernel
theorem dX0_tellAnswer_40 : decode cX0_tellAnswer 40 = .ok (.goto 12, 3) := by decide +kernel
theorem dX0_tellAnswer_43 : decode cX0_tellAnswer 43 = .ok (.aload_n 0, 1) := by decide +kernel
theorem dX0_tellAnswer_44 : decode cX0_tellAnswer 44 = .ok (.getfield 23, 3) := by decide +kernel
theorem dX0_tellAnswer_47 : decode cX0_tellAnswer 47 = .ok (.iload_n 1, 1) := by decide +kernel
theorem dX0_tellAnswer_48 : decode cX0_tellAnswer 48 = .ok (.iload_n 2, 1) := by decide +kernel
theorem dX0_tellAnswer_49 : decode cX0_tellAnswer 49 = .ok (.invokevirtual 68, 3) := by decide +kernel
theorem dX0_tellAnswer_52 : decode cX0_tellAnswer 52 = .ok (.ireturn, 1) := by decide +kernel
set_option maxRecDepth 20000 in
theorem ggX0_richestTrader_X4_get : GoodIn wsX0_richestTrader wsX4_get := goodIn_r _ [6, 7, 8, 16, 17, 18] (by decide +kernel) (by decide +kernel)
set_option maxRecDepth 20000 in
theorem gX0_richestTrader_X4_get : GoodIn wsX0_richestTrader (wsV RX0 68 RX4 yX4_get wsX4_get) := goodIn_app (goodIn_of _ (by decide +kernel)) ggX0_richestTrader_X4_get
theorem dX0_richestTrader_0 : decode cX0_richestTrader 0 = .ok (.iconst 0, 1) := by decide +kernel
theorem dX0_richestTrader_1 : decode cX0_richestTrader 1 = .ok (.istore_n 1, 1) := by decide +kernel
theorem dX0_richestTrader_2 : decode cX0_richestTrader 2 = .ok (.iconst 1, 1) := by decide +kernel
theorem dX0_richestTrader_3 : decode cX0_richestTrader 3 = .ok (.istore_n 2, 1) := by decide +kernel
theorem dX0_richestTrader_4 : decode cX0_richestTrader 4 = .ok (.iload_n 2, 1) := by decide +kernel
theorem dX0_richestTrader_5 : decode cX0_richestTrader 5 = .ok (.bipush 8, 2) := by decide +kernel
theorem dX0_richestTrader_7 : decode cX0_richestTrader 7 = .ok (.if_icmp .ge 32, 3) := by decide +kernel
theorem dX0_richestTrader_10 : decode cX0_richestTrader 10 = .ok (.aload_n 0, 1) := by decide +kernel
theorem dX0_richestTrader_11 : decode cX0_richestTrader 11 = .ok (.getfield 16, 3) := by decide +kernel
theorem dX0_richestTrader_14 : decode cX0_richestTrader 14 = .ok (.iload_n 2, 1) := by decide +kernel
theorem dX0_richestTrader_15 : decode cX0_richestTrader 15 = .ok (.iconst 0, 1) := by decide +kernel
theorem dX0_richestTrader_16 : decode cX0_richestTrader 16 = .ok (.invokevirtual 68, 3) := by decide +kernel
theorem dX0_richestTrader_19 : decode cX0_richestTrader 19 = .ok (.aload_n 0, 1) := by decide +kernel
theorem dX0_richestTrader_20 : decode cX0_richestTrader 20 = .ok (.getfield 16, 3) := by decide +kernel
theorem dX0_richestTrader_23 : decode cX0_richestTrader 23 = .ok (.iload_n 1, 1) := by decide +kernel
theorem dX0_richestTrader_24 : decode cX0_richestTrader 24 = .ok (.iconst 0, 1) := by decide +kernel
theorem dX0_richestTrader_25 : decode cX0_richestTrader 25 = .ok (.invokevirtual 68, 3) := by decide +kernel
theorem dX0_richestTrader_28 : decode cX0_richestTrader 28 = .ok (.if_icmp .le 5, 3) := by decide +kernel
theorem dX0_richestTrader_31 : decode cX0_richestTrader 31 = .ok (.iload_n 2, 1) := by decide +kernel
theorem dX0_richestTrader_32 : decode cX0_richestTrader 32 = .ok (.istore_n 1, 1) := by decide +kernel
theorem dX0_richestTrader_33 : decode cX0_richestTrader 33 = .ok (.iinc 2 1, 3) := by decide +kernel
theorem dX0_richestTrader_36 : decode cX0_richestTrader 36 = .ok (.goto (-32), 3) := by decide +kernel
theorem dX0_richestTrader_39 : decode cX0_richestTrader 39 = .ok (.iload_n 1, 1) := by decide +kernel
theorem dX0_richestTrader_40 : decode cX0_richestTrader 40 = .ok (.ireturn, 1) := by decide +kernel
set_option maxRecDepth 20000 in
theorem ggX0_tellAccount_X4_has : GoodIn wsX0_tellAccount wsX4_has := goodIn_r _ [9, 10, 28, 29, 30] (by decide +kernel) (by decide +kernel)
set_option maxRecDepth 20000 in
theorem gX0_tellAccount_X4_has : GoodIn wsX0_tellAccount (wsV RX0 61 RX4 yX4_has wsX4_has) := goodIn_app (goodIn_of _ (by decide +kernel)) ggX0_tellAccount_X4_has
set_option maxRecDepth 20000 in
theorem ggX0_tellAccount_X4_get : GoodIn wsX0_tellAccount wsX4_get := goodIn_r _ [14, 15, 16, 28, 29, 30] (by decide +kernel) (by decide +kernel)
set_option maxRecDepth 20000 in
theorem gX0_tellAccount_X4_get : GoodIn wsX0_tellAccount (wsV RX0 68 RX4 yX4_get wsX4_get) := goodIn_app (goodIn_of _ (by decide +kernel)) ggX0_tellAccount_X4_get
set_option maxRecDepth 20000 in
theorem ggX0_tellAccount_X4_rows : GoodIn wsX0_tellAccount wsX4_rows := goodIn_r _ [20, 10, 28, 29, 30] (by decide +kernel) (by decide +kernel)
set_option maxRecDepth 20000 in
theorem gX0_tellAccount_X4_rows : GoodIn wsX0_tellAccount (wsV RX0 65 RX4 yX4_rows wsX4_rows) := goodIn_app (goodIn_of _ (by decide +kernel)) ggX0_tellAccount_X4_rows
theorem dX0_tellAccount_0 : decode cX0_tellAccount 0 = .ok (.aload_n 0, 1) := by decide +kernel
theorem dX0_tellAccount_1 : decode cX0_tellAccount 1 = .ok (.getfield 16, 3) := by decide +kernel
theorem dX0_tellAccount_4 : decode cX0_tellAccount 4 = .ok (.iload_n 1, 1) := by decide +kernel
theorem dX0_tellAccount_5 : decode cX0_tellAccount 5 = .ok (.invokevirtual 61, 3) := by decide +kernel
theorem dX0_tellAccount_8 : decode cX0_tellAccount 8 = .ok (.ifCond .ne 5, 3) := by decide +kernel
theorem dX0_tellAccount_11 : decode cX0_tellAccount 11 = .ok (.iconst (-1), 1) := by decide +kernel
theorem dX0_tellAccount_12 : decode cX0_tellAccount 12 = .ok (.ireturn, 1) := by decide +kernel
theorem dX0_tellAccount_13 : decode cX0_tellAccount 13 = .ok (.bipush 100, 2) := by decide +kernel
theorem dX0_tellAccount_15 : decode cX0_tellAccount 15 = .ok (.aload_n 0, 1) := by decide +kernel
theorem dX0_tellAccount_16 : decode cX0_tellAccount 16 = .ok (.getfield 16, 3) := by decide +kernel
theorem dX0_tellAccount_19 : decode cX0_tellAccount 19 = .ok (.iload_n 1, 1) := by decide +kernel
theorem dX0_tellAccount_20 : decode cX0_tellAccount 20 = .ok (.iconst 1, 1) := by decide +kernel
theorem dX0_tellAccount_21 : decode cX0_tellAccount 21 = .ok (.invokevirtual 68, 3) := by decide +kernel
theorem dX0_tellAccount_24 : decode cX0_tellAccount 24 = .ok (.isub, 1) := by decide +kernel
theorem dX0_tellAccount_25 : decode cX0_tellAccount 25 = .ok (.istore_n 2, 1) := by decide +kernel
theorem dX0_tellAccount_26 : decode cX0_tellAccount 26 = .ok (.iconst 0, 1) := by decide +kernel
theorem dX0_tellAccount_27 : decode cX0_tellAccount 27 = .ok (.istore_n 3, 1) := by decide +kernel
theorem dX0_tellAccount_28 : decode cX0_tellAccount 28 = .ok (.iload_n 3, 1) := by decide +kernel
theorem dX0_tellAccount_29 : decode cX0_tellAccount 29 = .ok (.aload_n 0, 1) := by decide +kernel
theorem dX0_tellAccount_30 : decode cX0_tellAccount 30 = .ok (.getfield 23, 3) := by decide +kernel
theorem dX0_tellAccount_33 : decode cX0_tellAccount 33 = .ok (.invokevirtual 65, 3) := by decide +kernel
theorem dX0_tellAccount_36 : decode cX0_tellAccount 36 = .ok (.if_icmp .ge 65, 3) := by decide +kernel
theorem dX0_tellAccount_39 : decode cX0_tellAccount 39 = .ok (.aload_n 0, 1) := by decide +kernel
theorem dX0_tellAccount_40 : decode cX0_tellAccount 40 = .ok (.getfield 23, 3) := by decide +kernel
theorem dX0_tellAccount_43 : decode cX0_tellAccount 43 = .ok (.iload_n 3, 1) := by decide +kernel
theorem dX0_tellAccount_44 : decode cX0_tellAccount 44 = .ok (.bipush 7, 2) := by decide +kernel
theorem dX0_tellAccount_46 : decode cX0_tellAccount 46 = .ok (.invokevirtual 68, 3) := by decide +kernel
theorem dX0_tellAccount_49 : decode cX0_tellAccount 49 = .ok (.istore 4, 2) := by decide +kernel
theorem dX0_tellAccount_51 : decode cX0_tellAccount 51 = .ok (.aload_n 0, 1) := by decide +kernel
theorem dX0_tellAccount_52 : decode cX0_tellAccount 52 = .ok (.getfield 23, 3) := by decide +kernel
theorem dX0_tellAccount_55 : decode cX0_tellAccount 55 = .ok (.iload_n 3, 1) := by decide +kernel
theorem dX0_tellAccount_56 : decode cX0_tellAccount 56 = .ok (.iconst 0, 1) := by decide +kernel
theorem dX0_tellAccount_57 : decode cX0_tellAccount 57 = .ok (.invokevirtual 68, 3) := by decide +kernel
theorem dX0_tellAccount_60 : decode cX0_tellAccount 60 = .ok (.iload_n 1, 1) := by decide +kernel
theorem dX0_tellAccount_61 : decode cX0_tellAccount 61 = .ok (.if_icmp .ne 8, 3) := by decide +kernel
theorem dX0_tellAccount_64 : decode cX0_tellAccount 64 = .ok (.iload_n 2, 1) := by decide +kernel
theorem dX0_tellAccount_65 : decode cX0_tellAccount 65 = .ok (.iload 4, 2) := by decide +kernel
theorem dX0_tellAccount_67 : decode cX0_tellAccount 67 = .ok (.iadd, 1) := by decide +kernel
theorem dX0_tellAccount_68 : decode cX0_tellAccount 68 = .ok (.istore_n 2, 1) := by decide +kernel
theorem dX0_tellAccount_69 : decode cX0_tellAccount 69 = .ok (.aload_n 0, 1) := by decide +kernel
theorem dX0_tellAccount_70 : decode cX0_tellAccount 70 = .ok (.getfield 20, 3) := by decide +kernel
theorem dX0_tellAccount_73 : decode cX0_tellAccount 73 = .ok (.aload_n 0, 1) := by decide +kernel
theorem dX0_tellAccount_74 : decode cX0_tellAccount 74 = .ok (.getfield 23, 3) := by decide +kernel
theorem dX0_tellAccount_77 : decode cX0_tellAccount 77 = .ok (.iload_n 3, 1) := by decide +kernel
theorem dX0_tellAccount_78 : decode cX0_tellAccount 78 = .ok (.iconst 1, 1) := by decide +kernel
theorem dX0_tellAccount_79 : decode cX0_tellAccount 79 = .ok (.invokevirtual 68, 3) := by decide +kernel
theorem dX0_tellAccount_82 : decode cX0_tellAccount 82 = .ok (.iconst 0, 1) := by decide +kernel
theorem dX0_tellAccount_83 : decode cX0_tellAccount 83 = .ok (.invokevirtual 68, 3) := by decide +kernel
theorem dX0_tellAccount_86 : decode cX0_tellAccount 86 = .ok (.iload_n 1, 1) := by decide +kernel
theorem dX0_tellAccount_87 : decode cX0_tellAccount 87 = .ok (.if_icmp .ne 8, 3) := by decide +kernel
theorem dX0_tellAccount_90 : decode cX0_tellAccount 90 = .ok (.iload_n 2, 1) := by decide +kernel
theorem dX0_tellAccount_91 : decode cX0_tellAccount 91 = .ok (.iload 4, 2) := by decide +kernel
theorem dX0_tellAccount_93 : decode cX0_tellAccount 93 = .ok (.isub, 1) := by decide +kernel
theorem dX0_tellAccount_94 : decode cX0_tellAccount 94 = .ok (.istore_n 2, 1) := by decide +kernel
theorem dX0_tellAccount_95 : decode cX0_tellAccount 95 = .ok (.iinc 3 1, 3) := by decide +kernel
theorem dX0_tellAccount_98 : decode cX0_tellAccount 98 = .ok (.goto (-70), 3) := by decide +kernel
theorem dX0_tellAccount_101 : decode cX0_tellAccount 101 = .ok (.iload_n 2, 1) := by decide +kernel
theorem dX0_tellAccount_102 : decode cX0_tellAccount 102 = .ok (.ldc 144, 2) := by decide +kernel
theorem dX0_tellAccount_104 : decode cX0_tellAccount 104 = .ok (.iadd, 1) := by decide +kernel
theorem dX0_tellAccount_105 : decode cX0_tellAccount 105 = .ok (.ireturn, 1) := by decide +kernel
set_option maxRecDepth 20000 in
theorem ggX0_tellCount_X4_rows : GoodIn wsX0_tellCount wsX4_rows := goodIn_r _ [12, 13, 47, 48, 49] (by decide +kernel) (by decide +kernel)
set_option maxRecDepth 20000 in
theorem gX0_tellCount_X4_rows : GoodIn wsX0_tellCount (wsV RX0 65 RX4 yX4_rows wsX4_rows) := goodIn_app (goodIn_of _ (by decide +kernel)) ggX0_tellCount_X4_rows
set_option maxRecDepth 20000 in
theorem ggX0_tellCount_X4_countOf : GoodIn wsX0_tellCount wsX4_countOf := goodIn_r _ [17, 13, 18, 19, 20, 11, 21, 22, 23, 47, 48, 49] (by decide +kernel) (by decide +kernel)
set_option maxRecDepth 20000 in
theorem gX0_tellCount_X4_countOf : GoodIn wsX0_tellCount (wsV RX0 135 RX4 yX4_countOf wsX4_countOf) := goodIn_app (goodIn_of _ (by decide +kernel)) ggX0_tellCount_X4_countOf
set_option maxRecDepth 20000 in
theorem ggX0_tellCount_X3_length : GoodIn wsX0_tellCount wsX3_length := goodIn_r _ [28, 29, 50, 51, 52] (by decide +kernel) (by decide +kernel)
set_option maxRecDepth 20000 in
theorem gX0_tellCount_X3_length : GoodIn wsX0_tellCount (wsV RX0 89 RX3 yX3_length wsX3_length) := goodIn_app (goodIn_of _ (by decide +kernel)) ggX0_tellCount_X3_length
set_option maxRecDepth 20000 in
theorem ggX0_tellCount_X4_sumOf : GoodIn wsX0_tellCount wsX4_sumOf := goodIn_r _ [33, 13, 18, 19, 20, 11, 21, 22, 23, 47, 48, 49] (by decide +kernel) (by decide +kernel)
set_option maxRecDepth 20000 in
theorem gX0_tellCount_X4_sumOf : GoodIn wsX0_tellCount (wsV RX0 145 RX4 yX4_sumOf wsX4_sumOf) := goodIn_app (goodIn_of _ (by decide +kernel)) ggX0_tellCount_X4_sumOf
set_option maxRecDepth 20000 in
theorem ggX0_tellCount_X0_tradersInDebt : GoodIn wsX0_tellCount wsX0_tradersInDebt := goodIn_r _ [38, 6, 39, 19, 20, 11, 21, 22, 23, 40, 41, 42, 43, 44, 45, 46, 47, 48, 49] (by decide +kernel) (by decide +kernel)
set_option maxRecDepth 20000 in
theorem gX0_tellCount_X0_tradersInDebt : GoodIn wsX0_tellCount (wsV RX0 148 RX0 yX0_tradersInDebt wsX0_tradersInDebt) := goodIn_app (goodIn_of _ (by decide +kernel)) ggX0_tellCount_X0_tradersInDebt
set_option maxRecDepth 20000 in
theorem ggX0_tellCount_X4_get : GoodIn wsX0_tellCount wsX4_get := goodIn_r _ [21, 22, 23, 47, 48, 49] (by decide +kernel) (by decide +kernel)
set_option maxRecDepth 20000 in
theorem gX0_tellCount_X4_get : GoodIn wsX0_tellCount (wsV RX0 68 RX4 yX4_get wsX4_get) := goodIn_app (goodIn_of _ (by decide +kernel)) ggX0_tellCount_X4_get
theorem dX0_tellCount_0 : decode cX0_tellCount 0 = .ok (.iload_n 1, 1) := by decide +kernel
theorem dX0_tellCount_1 : decode cX0_tellCount 1 = .ok (.tableswitch 218 0 17 #[87, 92, 100, 110, 118, 126, 136, 146, 156, 165, 174, 179, 189, 189, 205, 205, 205, 205], 87) := by decide +kernel
theorem dX0_tellCount_88 : decode cX0_tellCount 88 = .ok (.aload_n 0, 1) := by decide +kernel
theorem dX0_tellCount_89 : decode cX0_tellCount 89 = .ok (.getfield 57, 3) := by decide +kernel
theorem dX0_tellCount_92 : decode cX0_tellCount 92 = .ok (.ireturn, 1) := by decide +kernel
theorem dX0_tellCount_93 : decode cX0_tellCount 93 = .ok (.aload_n 0, 1) := by decide +kernel
theorem dX0_tellCount_94 : decode cX0_tellCount 94 = .ok (.getfield 20, 3) := by decide +kernel
theorem dX0_tellCount_97 : decode cX0_tellCount 97 = .ok (.invokevirtual 65, 3) := by decide +kernel
theorem dX0_tellCount_100 : decode cX0_tellCount 100 = .ok (.ireturn, 1) := by decide +kernel
theorem dX0_tellCount_101 : decode cX0_tellCount 101 = .ok (.aload_n 0, 1) := by decide +kernel
theorem dX0_tellCount_102 : decode cX0_tellCount 102 = .ok (.getfield 20, 3) := by decide +kernel
theorem dX0_tellCount_105 : decode cX0_tellCount 105 = .ok (.iconst 3, 1) := by decide +kernel
theorem dX0_tellCount_106 : decode cX0_tellCount 106 = .ok (.iconst 0, 1) := by decide +kernel
theorem dX0_tellCount_107 : decode cX0_tellCount 107 = .ok (.invokevirtual 135, 3) := by decide +kernel
theorem dX0_tellCount_110 : decode cX0_tellCount 110 = .ok (.ireturn, 1) := by decide +kernel
theorem dX0_tellCount_111 : decode cX0_tellCount 111 = .ok (.aload_n 0, 1) := by decide +kernel
theorem dX0_tellCount_112 : decode cX0_tellCount 112 = .ok (.getfield 23, 3) := by decide +kernel
theorem dX0_tellCount_115 : decode cX0_tellCount 115 = .ok (.invokevirtual 65, 3) := by decide +kernel
theorem dX0_tellCount_118 : decode cX0_tellCount 118 = .ok (.ireturn, 1) := by decide +kernel
theorem dX0_tellCount_119 : decode cX0_tellCount 119 = .ok (.aload_n 0, 1) := by decide +kernel
theorem dX0_tellCount_120 : decode cX0_tellCount 120 = .ok (.getfield 35, 3) := by decide +kernel
theorem dX0_tellCount_123 : decode cX0_tellCount 123 = .ok (.invokevirtual 89, 3) := by decide +kernel
theorem dX0_tellCount_126 : decode cX0_tellCount 126 = .ok (.ireturn, 1) := by decide +kernel
theorem dX0_tellCount_127 : decode cX0_tellCount 127 = .ok (.aload_n 0, 1) := by decide +kernel
theorem dX0_tellCount_128 : decode cX0_tellCount 128 = .ok (.getfield 23, 3) := by decide +kernel
theorem dX0_tellCount_131 : decode cX0_tellCount 131 = .ok (.iconst 4, 1) := by decide +kernel
theorem dX0_tellCount_132 : decode cX0_tellCount 132 = .ok (.iconst 1, 1) := by decide +kernel
theorem dX0_tellCount_133 : decode cX0_tellCount 133 = .ok (.invokevirtual 135, 3) := by decide +kernel
theorem dX0_tellCount_136 : decode cX0_tellCount 136 = .ok (.ireturn, 1) := by decide +kernel
theorem dX0_tellCount_137 : decode cX0_tellCount 137 = .ok (.aload_n 0, 1) := by decide +kernel
theorem dX0_tellCount_138 : decode cX0_tellCount 138 = .ok (.getfield 23, 3) := by decide +kernel
theorem dX0_tellCount_141 : decode cX0_tellCount 141 = .ok (.iconst 4, 1) := by decide +kernel
theorem dX0_tellCount_142 : decode cX0_tellCount 142 = .ok (.iconst 2, 1) := by decide +kernel
theorem dX0_tellCount_143 : decode cX0_tellCount 143 = .ok (.invokevirtual 135, 3) := by decide +kernel
theorem dX0_tellCount_146 : decode cX0_tellCount 146 = .ok (.ireturn, 1) := by decide +kernel
theorem dX0_tellCount_147 : decode cX0_tellCount 147 = .ok (.aload_n 0, 1) := by decide +kernel
theorem dX0_tellCount_148 : decode cX0_tellCount 148 = .ok (.getfield 23, 3) := by decide +kernel
theorem dX0_tellCount_151 : decode cX0_tellCount 151 = .ok (.bipush 6, 2) := by decide +kernel
theorem dX0_tellCount_153 : decode cX0_tellCount 153 = .ok (.invokevirtual 145, 3) := by decide +kernel
theorem dX0_tellCount_156 : decode cX0_tellCount 156 = .ok (.ireturn, 1) := by decide +kernel
theorem dX0_tellCount_157 : decode cX0_tellCount 157 = .ok (.aload_n 0, 1) := by decide +kernel
theorem dX0_tellCount_158 : decode cX0_tellCount 158 = .ok (.getfield 26, 3) := by decide +kernel
theorem dX0_tellCount_161 : decode cX0_tellCount 161 = .ok (.iconst 1, 1) := by decide +kernel
theorem dX0_tellCount_162 : decode cX0_tellCount 162 = .ok (.invokevirtual 145, 3) := by decide +kernel
theorem dX0_tellCount_165 : decode cX0_tellCount 165 = .ok (.ireturn, 1) := by decide +kernel
theorem dX0_tellCount_166 : decode cX0_tellCount 166 = .ok (.aload_n 0, 1) := by decide +kernel
theorem dX0_tellCount_167 : decode cX0_tellCount 167 = .ok (.getfield 16, 3) := by decide +kernel
theorem dX0_tellCount_170 : decode cX0_tellCount 170 = .ok (.iconst 1, 1) := by decide +kernel
theorem dX0_tellCount_171 : decode cX0_tellCount 171 = .ok (.invokevirtual 145, 3) := by decide +kernel
theorem dX0_tellCount_174 : decode cX0_tellCount 174 = .ok (.ireturn, 1) := by decide +kernel
theorem dX0_tellCount_175 : decode cX0_tellCount 175 = .ok (.aload_n 0, 1) := by decide +kernel
theorem dX0_tellCount_176 : decode cX0_tellCount 176 = .ok (.invokevirtual 148, 3) := by decide +kernel
theorem dX0_tellCount_179 : decode cX0_tellCount 179 = .ok (.ireturn, 1) := by decide +kernel
theorem dX0_tellCount_180 : decode cX0_tellCount 180 = .ok (.aload_n 0, 1) := by decide +kernel
theorem dX0_tellCount_181 : decode cX0_tellCount 181 = .ok (.getfield 23, 3) := by decide +kernel
theorem dX0_tellCount_184 : decode cX0_tellCount 184 = .ok (.bipush 7, 2) := by decide +kernel
theorem dX0_tellCount_186 : decode cX0_tellCount 186 = .ok (.invokevirtual 145, 3) := by decide +kernel
theorem dX0_tellCount_189 : decode cX0_tellCount 189 = .ok (.ireturn, 1) := by decide +kernel
theorem dX0_tellCount_190 : decode cX0_tellCount 190 = .ok (.aload_n 0, 1) := by decide +kernel
theorem dX0_tellCount_191 : decode cX0_tellCount 191 = .ok (.getfield 26, 3) := by decide +kernel
theorem dX0_tellCount_194 : decode cX0_tellCount 194 = .ok (.iload_n 1, 1) := by decide +kernel
theorem dX0_tellCount_195 : decode cX0_tellCount 195 = .ok (.bipush 12, 2) := by decide +kernel
theorem dX0_tellCount_197 : decode cX0_tellCount 197 = .ok (.isub, 1) := by decide +kernel
theorem dX0_tellCount_198 : decode cX0_tellCount 198 = .ok (.iconst 0, 1) := by decide +kernel
theorem dX0_tellCount_199 : decode cX0_tellCount 199 = .ok (.invokevirtual 68, 3) := by decide +kernel
theorem dX0_tellCount_202 : decode cX0_tellCount 202 = .ok (.bipush 9, 2) := by decide +kernel
theorem dX0_tellCount_204 : decode cX0_tellCount 204 = .ok (.iadd, 1) := by decide +kernel
theorem dX0_tellCount_205 : decode cX0_tellCount 205 = .ok (.ireturn, 1) := by decide +kernel
theorem dX0_tellCount_206 : decode cX0_tellCount 206 = .ok (.aload_n 0, 1) := by decide +kernel
theorem dX0_tellCount_207 : decode cX0_tellCount 207 = .ok (.getfield 29, 3) := by decide +kernel
theorem dX0_tellCount_210 : decode cX0_tellCount 210 = .ok (.iload_n 1, 1) := by decide +kernel
theorem dX0_tellCount_211 : decode cX0_tellCount 211 = .ok (.bipush 14, 2) := by decide +kernel
theorem dX0_tellCount_213 : decode cX0_tellCount 213 = .ok (.isub, 1) := by decide +kernel
theorem dX0_tellCount_214 : decode cX0_tellCount 214 = .ok (.iconst 0, 1) := by decide +kernel
theorem dX0_tellCount_215 : decode cX0_tellCount 215 = .ok (.invokevirtual 68, 3) := by decide +kernel
theorem dX0_tellCount_218 : decode cX0_tellCount 218 = .ok (.ireturn, 1) := by decide +kernel
theorem dX0_tellCount_219 : decode cX0_tellCount 219 = .ok (.bipush (-2), 2) := by decide +kernel
theorem dX0_tellCount_221 : decode cX0_tellCount 221 = .ok (.ireturn, 1) := by decide +kernel
set_option maxRecDepth 20000 in
theorem ggX0_tradersInDebt_X4_get : GoodIn wsX0_tradersInDebt wsX4_get := goodIn_r _ [6, 7, 8, 16, 17, 18] (by decide +kernel) (by decide +kernel)
set_option maxRecDepth 20000 in
theorem gX0_tradersInDebt_X4_get : GoodIn wsX0_tradersInDebt (wsV RX0 68 RX4 yX4_get wsX4_get) := goodIn_app (goodIn_of _ (by decide +kernel)) ggX0_tradersInDebt_X4_get
theorem dX0_tradersInDebt_0 : decode cX0_tradersInDebt 0 = .ok (.iconst 0, 1) := by decide +kernel
theorem dX0_tradersInDebt_1 : decode cX0_tradersInDebt 1 = .ok (.istore_n 1, 1) := by decide +kernel
theorem dX0_tradersInDebt_2 : decode cX0_tradersInDebt 2 = .ok (.iconst 0, 1) := by decide +kernel
theorem dX0_tradersInDebt_3 : decode cX0_tradersInDebt 3 = .ok (.istore_n 2, 1) := by decide +kernel
theorem dX0_tradersInDebt_4 : decode cX0_tradersInDebt 4 = .ok (.iload_n 2, 1) := by decide +kernel
theorem dX0_tradersInDebt_5 : decode cX0_tradersInDebt 5 = .ok (.bipush 8, 2) := by decide +kernel
theorem dX0_tradersInDebt_7 : decode cX0_tradersInDebt 7 = .ok (.if_icmp .ge 24, 3) := by decide +kernel
theorem dX0_tradersInDebt_10 : decode cX0_tradersInDebt 10 = .ok (.aload_n 0, 1) := by decide +kernel
theorem dX0_tradersInDebt_11 : decode cX0_tradersInDebt 11 = .ok (.getfield 16, 3) := by decide +kernel
theorem dX0_tradersInDebt_14 : decode cX0_tradersInDebt 14 = .ok (.iload_n 2, 1) := by decide +kernel
theorem dX0_tradersInDebt_15 : decode cX0_tradersInDebt 15 = .ok (.iconst 0, 1) := by decide +kernel
theorem dX0_tradersInDebt_16 : decode cX0_tradersInDebt 16 = .ok (.invokevirtual 68, 3) := by decide +kernel
theorem dX0_tradersInDebt_19 : decode cX0_tradersInDebt 19 = .ok (.ifCond .ge 6, 3) := by decide +kernel
theorem dX0_tradersInDebt_22 : decode cX0_tradersInDebt 22 = .ok (.iinc 1 1, 3) := by decide +kernel
theorem dX0_tradersInDebt_25 : decode cX0_tradersInDebt 25 = .ok (.iinc 2 1, 3) := by decide +kernel
theorem dX0_tradersInDebt_28 : decode cX0_tradersInDebt 28 = .ok (.goto (-24), 3) := by decide +kernel
theorem dX0_tradersInDebt_31 : decode cX0_tradersInDebt 31 = .ok (.iload_n 1, 1) := by decide +kernel
theorem dX0_tradersInDebt_32 : decode cX0_tradersInDebt 32 = .ok (.ireturn, 1) := by decide +kernel
