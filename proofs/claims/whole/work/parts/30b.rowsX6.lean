set_option maxRecDepth 20000 in
theorem ggX6_thing_X6_next : GoodIn wsX6_thing wsX6_next := goodIn_r _ [13, 3, 4, 14, 26, 27, 28, 29, 30, 31, 32, 33, 34, 35, 36, 37, 38, 39, 40, 41, 42, 43] (by decide +kernel) (by decide +kernel)
set_option maxRecDepth 20000 in
theorem gX6_thing_X6_next : GoodIn wsX6_thing (wsV RX6 118 RX6 yX6_next wsX6_next) := goodIn_app (goodIn_of _ (by decide +kernel)) ggX6_thing_X6_next
set_option maxRecDepth 20000 in
theorem ggX6_thing_X6_number : GoodIn wsX6_thing wsX6_number := goodIn_r _ [18, 3, 4, 1, 9, 10, 11, 12, 13, 14, 19, 20, 21, 26, 27, 28, 29, 30, 31, 32, 33, 34, 35, 36, 37, 38, 39, 40, 41, 42, 43] (by decide +kernel) (by decide +kernel)
set_option maxRecDepth 20000 in
theorem gX6_thing_X6_number : GoodIn wsX6_thing (wsV RX6 125 RX6 yX6_number wsX6_number) := goodIn_app (goodIn_of _ (by decide +kernel)) ggX6_thing_X6_number
set_option maxRecDepth 20000 in
theorem ggX6_thing_X6_sign : GoodIn wsX6_thing wsX6_sign := goodIn_r _ [25, 1, 3, 4, 9, 10, 11, 12, 13, 14, 26, 27, 28, 29, 30, 31, 32, 33, 34, 35, 36, 37, 38, 39, 40, 41, 42, 43] (by decide +kernel) (by decide +kernel)
set_option maxRecDepth 20000 in
theorem gX6_thing_X6_sign : GoodIn wsX6_thing (wsV RX6 131 RX6 yX6_sign wsX6_sign) := goodIn_app (goodIn_of _ (by decide +kernel)) ggX6_thing_X6_sign
theorem dX6_thing_0 : decode cX6_thing 0 = .ok (.aload_n 0, 1) := by decide +kernel
theorem dX6_thing_1 : decode cX6_thing 1 = .ok (.aload_n 0, 1) := by decide +kernel
theorem dX6_thing_2 : decode cX6_thing 2 = .ok (.getfield 114, 3) := by decide +kernel
theorem dX6_thing_5 : decode cX6_thing 5 = .ok (.ifCond .eq 7, 3) := by decide +kernel
theorem dX6_thing_8 : decode cX6_thing 8 = .ok (.iconst 0, 1) := by decide +kernel
theorem dX6_thing_9 : decode cX6_thing 9 = .ok (.goto 7, 3) := by decide +kernel
theorem dX6_thing_12 : decode cX6_thing 12 = .ok (.aload_n 0, 1) := by decide +kernel
theorem dX6_thing_13 : decode cX6_thing 13 = .ok (.invokevirtual 118, 3) := by decide +kernel
theorem dX6_thing_16 : decode cX6_thing 16 = .ok (.putfield 122, 3) := by decide +kernel
theorem dX6_thing_19 : decode cX6_thing 19 = .ok (.aload_n 0, 1) := by decide +kernel
theorem dX6_thing_20 : decode cX6_thing 20 = .ok (.aload_n 0, 1) := by decide +kernel
theorem dX6_thing_21 : decode cX6_thing 21 = .ok (.getfield 114, 3) := by decide +kernel
theorem dX6_thing_24 : decode cX6_thing 24 = .ok (.ifCond .ne 41, 3) := by decide +kernel
theorem dX6_thing_27 : decode cX6_thing 27 = .ok (.aload_n 0, 1) := by decide +kernel
theorem dX6_thing_28 : decode cX6_thing 28 = .ok (.getfield 111, 3) := by decide +kernel
theorem dX6_thing_31 : decode cX6_thing 31 = .ok (.aload_n 0, 1) := by decide +kernel
theorem dX6_thing_32 : decode cX6_thing 32 = .ok (.getfield 108, 3) := by decide +kernel
theorem dX6_thing_35 : decode cX6_thing 35 = .ok (.if_icmp .eq 30, 3) := by decide +kernel
theorem dX6_thing_38 : decode cX6_thing 38 = .ok (.aload_n 0, 1) := by decide +kernel
theorem dX6_thing_39 : decode cX6_thing 39 = .ok (.getfield 122, 3) := by decide +kernel
theorem dX6_thing_42 : decode cX6_thing 42 = .ok (.bipush 114, 2) := by decide +kernel
theorem dX6_thing_44 : decode cX6_thing 44 = .ok (.if_icmp .eq 25, 3) := by decide +kernel
theorem dX6_thing_47 : decode cX6_thing 47 = .ok (.aload_n 0, 1) := by decide +kernel
theorem dX6_thing_48 : decode cX6_thing 48 = .ok (.getfield 122, 3) := by decide +kernel
theorem dX6_thing_51 : decode cX6_thing 51 = .ok (.bipush 97, 2) := by decide +kernel
theorem dX6_thing_53 : decode cX6_thing 53 = .ok (.if_icmp .eq 16, 3) := by decide +kernel
theorem dX6_thing_56 : decode cX6_thing 56 = .ok (.aload_n 0, 1) := by decide +kernel
theorem dX6_thing_57 : decode cX6_thing 57 = .ok (.getfield 122, 3) := by decide +kernel
theorem dX6_thing_60 : decode cX6_thing 60 = .ok (.bipush 46, 2) := by decide +kernel
theorem dX6_thing_62 : decode cX6_thing 62 = .ok (.if_icmp .eq 7, 3) := by decide +kernel
theorem dX6_thing_65 : decode cX6_thing 65 = .ok (.iconst 1, 1) := by decide +kernel
theorem dX6_thing_66 : decode cX6_thing 66 = .ok (.goto 4, 3) := by decide +kernel
theorem dX6_thing_69 : decode cX6_thing 69 = .ok (.iconst 0, 1) := by decide +kernel
theorem dX6_thing_70 : decode cX6_thing 70 = .ok (.putfield 114, 3) := by decide +kernel
theorem dX6_thing_73 : decode cX6_thing 73 = .ok (.aload_n 0, 1) := by decide +kernel
theorem dX6_thing_74 : decode cX6_thing 74 = .ok (.dup, 1) := by decide +kernel
theorem dX6_thing_75 : decode cX6_thing 75 = .ok (.getfield 111, 3) := by decide +kernel
theorem dX6_thing_78 : decode cX6_thing 78 = .ok (.aload_n 0, 1) := by decide +kernel
theorem dX6_thing_79 : decode cX6_thing 79 = .ok (.getfield 114, 3) := by decide +kernel
theorem dX6_thing_82 : decode cX6_thing 82 = .ok (.ifCond .eq 7, 3) := by decide +kernel
theorem dX6_thing_85 : decode cX6_thing 85 = .ok (.iconst 0, 1) := by decide +kernel
theorem dX6_thing_86 : decode cX6_thing 86 = .ok (.goto 4, 3) := by decide +kernel
theorem dX6_thing_89 : decode cX6_thing 89 = .ok (.iconst 1, 1) := by decide +kernel
theorem dX6_thing_90 : decode cX6_thing 90 = .ok (.iadd, 1) := by decide +kernel
theorem dX6_thing_91 : decode cX6_thing 91 = .ok (.putfield 111, 3) := by decide +kernel
theorem dX6_thing_94 : decode cX6_thing 94 = .ok (.aload_n 0, 1) := by decide +kernel
theorem dX6_thing_95 : decode cX6_thing 95 = .ok (.getfield 122, 3) := by decide +kernel
theorem dX6_thing_98 : decode cX6_thing 98 = .ok (.bipush 46, 2) := by decide +kernel
theorem dX6_thing_100 : decode cX6_thing 100 = .ok (.if_icmp .ne 15, 3) := by decide +kernel
theorem dX6_thing_103 : decode cX6_thing 103 = .ok (.aload_n 0, 1) := by decide +kernel
theorem dX6_thing_104 : decode cX6_thing 104 = .ok (.aload_n 0, 1) := by decide +kernel
theorem dX6_thing_105 : decode cX6_thing 105 = .ok (.iconst 1, 1) := by decide +kernel
theorem dX6_thing_106 : decode cX6_thing 106 = .ok (.bipush 99, 2) := by decide +kernel
theorem dX6_thing_108 : decode cX6_thing 108 = .ok (.invokevirtual 125, 3) := by decide +kernel
theorem dX6_thing_111 : decode cX6_thing 111 = .ok (.putfield 128, 3) := by decide +kernel
theorem dX6_thing_114 : decode cX6_thing 114 = .ok (.return_, 1) := by decide +kernel
theorem dX6_thing_115 : decode cX6_thing 115 = .ok (.aload_n 0, 1) := by decide +kernel
theorem dX6_thing_116 : decode cX6_thing 116 = .ok (.aload_n 0, 1) := by decide +kernel
theorem dX6_thing_117 : decode cX6_thing 117 = .ok (.iconst 0, 1) := by decide +kernel
theorem dX6_thing_118 : decode cX6_thing 118 = .ok (.bipush 7, 2) := by decide +kernel
theorem dX6_thing_120 : decode cX6_thing 120 = .ok (.invokevirtual 125, 3) := by decide +kernel
theorem dX6_thing_123 : decode cX6_thing 123 = .ok (.putfield 128, 3) := by decide +kernel
theorem dX6_thing_126 : decode cX6_thing 126 = .ok (.aload_n 0, 1) := by decide +kernel
theorem dX6_thing_127 : decode cX6_thing 127 = .ok (.bipush 58, 2) := by decide +kernel
theorem dX6_thing_129 : decode cX6_thing 129 = .ok (.invokevirtual 131, 3) := by decide +kernel
theorem dX6_thing_132 : decode cX6_thing 132 = .ok (.aload_n 0, 1) := by decide +kernel
theorem dX6_thing_133 : decode cX6_thing 133 = .ok (.aload_n 0, 1) := by decide +kernel
theorem dX6_thing_134 : decode cX6_thing 134 = .ok (.getfield 122, 3) := by decide +kernel
theorem dX6_thing_137 : decode cX6_thing 137 = .ok (.bipush 114, 2) := by decide +kernel
theorem dX6_thing_139 : decode cX6_thing 139 = .ok (.if_icmp .ne 13, 3) := by decide +kernel
theorem dX6_thing_142 : decode cX6_thing 142 = .ok (.aload_n 0, 1) := by decide +kernel
theorem dX6_thing_143 : decode cX6_thing 143 = .ok (.iconst 1, 1) := by decide +kernel
theorem dX6_thing_144 : decode cX6_thing 144 = .ok (.bipush 50, 2) := by decide +kernel
theorem dX6_thing_146 : decode cX6_thing 146 = .ok (.invokevirtual 125, 3) := by decide +kernel
theorem dX6_thing_149 : decode cX6_thing 149 = .ok (.goto 10, 3) := by decide +kernel
theorem dX6_thing_152 : decode cX6_thing 152 = .ok (.aload_n 0, 1) := by decide +kernel
theorem dX6_thing_153 : decode cX6_thing 153 = .ok (.iconst 0, 1) := by decide +kernel
theorem dX6_thing_154 : decode cX6_thing 154 = .ok (.bipush 19, 2) := by decide +kernel
theorem dX6_thing_156 : decode cX6_thing 156 = .ok (.invokevirtual 125, 3) := by decide +kernel
theorem dX6_thing_159 : decode cX6_thing 159 = .ok (.putfield 134, 3) := by decide +kernel
theorem dX6_thing_162 : decode cX6_thing 162 = .ok (.aload_n 0, 1) := by decide +kernel
theorem dX6_thing_163 : decode cX6_thing 163 = .ok (.bipush 61, 2) := by decide +kernel
theorem dX6_thing_165 : decode cX6_thing 165 = .ok (.invokevirtual 131, 3) := by decide +kernel
theorem dX6_thing_168 : decode cX6_thing 168 = .ok (.aload_n 0, 1) := by decide +kernel
theorem dX6_thing_169 : decode cX6_thing 169 = .ok (.aload_n 0, 1) := by decide +kernel
theorem dX6_thing_170 : decode cX6_thing 170 = .ok (.iconst 0, 1) := by decide +kernel
theorem dX6_thing_171 : decode cX6_thing 171 = .ok (.bipush 99, 2) := by decide +kernel
theorem dX6_thing_173 : decode cX6_thing 173 = .ok (.invokevirtual 125, 3) := by decide +kernel
theorem dX6_thing_176 : decode cX6_thing 176 = .ok (.putfield 137, 3) := by decide +kernel
theorem dX6_thing_179 : decode cX6_thing 179 = .ok (.aload_n 0, 1) := by decide +kernel
theorem dX6_thing_180 : decode cX6_thing 180 = .ok (.getfield 122, 3) := by decide +kernel
theorem dX6_thing_183 : decode cX6_thing 183 = .ok (.bipush 97, 2) := by decide +kernel
theorem dX6_thing_185 : decode cX6_thing 185 = .ok (.if_icmp .ne 20, 3) := by decide +kernel
theorem dX6_thing_188 : decode cX6_thing 188 = .ok (.aload_n 0, 1) := by decide +kernel
theorem dX6_thing_189 : decode cX6_thing 189 = .ok (.bipush 42, 2) := by decide +kernel
theorem dX6_thing_191 : decode cX6_thing 191 = .ok (.invokevirtual 131, 3) := by decide +kernel
theorem dX6_thing_194 : decode cX6_thing 194 = .ok (.aload_n 0, 1) := by decide +kernel
theorem dX6_thing_195 : decode cX6_thing 195 = .ok (.aload_n 0, 1) := by decide +kernel
theorem dX6_thing_196 : decode cX6_thing 196 = .ok (.iconst 1, 1) := by decide +kernel
theorem dX6_thing_197 : decode cX6_thing 197 = .ok (.bipush 99, 2) := by decide +kernel
theorem dX6_thing_199 : decode cX6_thing 199 = .ok (.invokevirtual 125, 3) := by decide +kernel
theorem dX6_thing_202 : decode cX6_thing 202 = .ok (.putfield 140, 3) := by decide +kernel
theorem dX6_thing_205 : decode cX6_thing 205 = .ok (.return_, 1) := by decide +kernel
set_option maxRecDepth 20000 in
theorem ggX6_things_X6_thing : GoodIn wsX6_things wsX6_thing := goodIn_r _ [8, 2, 9, 1, 3, 10, 11, 12, 13, 14, 15, 16, 7, 17, 18, 19, 20, 21, 22, 23, 24, 25, 26, 27, 28, 29, 30, 31, 32, 33, 34, 35, 36, 37, 38, 39, 40, 41, 42, 43, 44, 45, 46, 47] (by decide +kernel) (by decide +kernel)
set_option maxRecDepth 20000 in
theorem gX6_things_X6_thing : GoodIn wsX6_things (wsV RX6 143 RX6 yX6_thing wsX6_thing) := goodIn_app (goodIn_of _ (by decide +kernel)) ggX6_things_X6_thing
set_option maxRecDepth 20000 in
theorem ggX6_things_X6_sign : GoodIn wsX6_things wsX6_sign := goodIn_r _ [29, 2, 1, 3, 14, 15, 16, 7, 17, 18, 30, 31, 32, 33, 34, 35, 36, 37, 38, 39, 40, 41, 42, 43, 44, 45, 46, 47] (by decide +kernel) (by decide +kernel)
set_option maxRecDepth 20000 in
theorem gX6_things_X6_sign : GoodIn wsX6_things (wsV RX6 131 RX6 yX6_sign wsX6_sign) := goodIn_app (goodIn_of _ (by decide +kernel)) ggX6_things_X6_sign
theorem dX6_things_0 : decode cX6_things 0 = .ok (.aload_n 0, 1) := by decide +kernel
theorem dX6_things_1 : decode cX6_things 1 = .ok (.iconst 0, 1) := by decide +kernel
theorem dX6_things_2 : decode cX6_things 2 = .ok (.putfield 111, 3) := by decide +kernel
theorem dX6_things_5 : decode cX6_things 5 = .ok (.aload_n 0, 1) := by decide +kernel
theorem dX6_things_6 : decode cX6_things 6 = .ok (.iconst 0, 1) := by decide +kernel
theorem dX6_things_7 : decode cX6_things 7 = .ok (.putfield 114, 3) := by decide +kernel
theorem dX6_things_10 : decode cX6_things 10 = .ok (.iconst 0, 1) := by decide +kernel
theorem dX6_things_11 : decode cX6_things 11 = .ok (.istore_n 1, 1) := by decide +kernel
theorem dX6_things_12 : decode cX6_things 12 = .ok (.iconst 1, 1) := by decide +kernel
theorem dX6_things_13 : decode cX6_things 13 = .ok (.istore_n 2, 1) := by decide +kernel
theorem dX6_things_14 : decode cX6_things 14 = .ok (.iload_n 2, 1) := by decide +kernel
theorem dX6_things_15 : decode cX6_things 15 = .ok (.ifCond .eq 60, 3) := by decide +kernel
theorem dX6_things_18 : decode cX6_things 18 = .ok (.aload_n 0, 1) := by decide +kernel
theorem dX6_things_19 : decode cX6_things 19 = .ok (.invokevirtual 143, 3) := by decide +kernel
theorem dX6_things_22 : decode cX6_things 22 = .ok (.iinc 1 1, 3) := by decide +kernel
theorem dX6_things_25 : decode cX6_things 25 = .ok (.aload_n 0, 1) := by decide +kernel
theorem dX6_things_26 : decode cX6_things 26 = .ok (.getfield 114, 3) := by decide +kernel
theorem dX6_things_29 : decode cX6_things 29 = .ok (.ifCond .ne 18, 3) := by decide +kernel
theorem dX6_things_32 : decode cX6_things 32 = .ok (.aload_n 0, 1) := by decide +kernel
theorem dX6_things_33 : decode cX6_things 33 = .ok (.getfield 111, 3) := by decide +kernel
theorem dX6_things_36 : decode cX6_things 36 = .ok (.aload_n 0, 1) := by decide +kernel
theorem dX6_things_37 : decode cX6_things 37 = .ok (.getfield 108, 3) := by decide +kernel
theorem dX6_things_40 : decode cX6_things 40 = .ok (.if_icmp .ge 7, 3) := by decide +kernel
theorem dX6_things_43 : decode cX6_things 43 = .ok (.iconst 1, 1) := by decide +kernel
theorem dX6_things_44 : decode cX6_things 44 = .ok (.goto 4, 3) := by decide +kernel
theorem dX6_things_47 : decode cX6_things 47 = .ok (.iconst 0, 1) := by decide +kernel
theorem dX6_things_48 : decode cX6_things 48 = .ok (.istore_n 2, 1) := by decide +kernel
theorem dX6_things_49 : decode cX6_things 49 = .ok (.iload_n 2, 1) := by decide +kernel
theorem dX6_things_50 : decode cX6_things 50 = .ok (.ifCond .eq (-36), 3) := by decide +kernel
theorem dX6_things_53 : decode cX6_things 53 = .ok (.aload_n 0, 1) := by decide +kernel
theorem dX6_things_54 : decode cX6_things 54 = .ok (.bipush 59, 2) := by decide +kernel
theorem dX6_things_56 : decode cX6_things 56 = .ok (.invokevirtual 131, 3) := by decide +kernel
theorem dX6_things_59 : decode cX6_things 59 = .ok (.aload_n 0, 1) := by decide +kernel
theorem dX6_things_60 : decode cX6_things 60 = .ok (.getfield 114, 3) := by decide +kernel
theorem dX6_things_63 : decode cX6_things 63 = .ok (.ifCond .ne 7, 3) := by decide +kernel
theorem dX6_things_66 : decode cX6_things 66 = .ok (.iconst 1, 1) := by decide +kernel
theorem dX6_things_67 : decode cX6_things 67 = .ok (.goto 4, 3) := by decide +kernel
theorem dX6_things_70 : decode cX6_things 70 = .ok (.iconst 0, 1) := by decide +kernel
theorem dX6_things_71 : decode cX6_things 71 = .ok (.istore_n 2, 1) := by decide +kernel
theorem dX6_things_72 : decode cX6_things 72 = .ok (.goto (-58), 3) := by decide +kernel
theorem dX6_things_75 : decode cX6_things 75 = .ok (.aload_n 0, 1) := by decide +kernel
theorem dX6_things_76 : decode cX6_things 76 = .ok (.getfield 114, 3) := by decide +kernel
theorem dX6_things_79 : decode cX6_things 79 = .ok (.ifCond .eq 8, 3) := by decide +kernel
theorem dX6_things_82 : decode cX6_things 82 = .ok (.bipush (-5), 2) := by decide +kernel
theorem dX6_things_84 : decode cX6_things 84 = .ok (.goto 4, 3) := by decide +kernel
theorem dX6_things_87 : decode cX6_things 87 = .ok (.iload_n 1, 1) := by decide +kernel
theorem dX6_things_88 : decode cX6_things 88 = .ok (.ireturn, 1) := by decide +kernel
set_option maxRecDepth 20000 in
theorem ggX6_does_X6_barAsk : GoodIn wsX6_does wsX6_barAsk := goodIn_r _ [10, 11, 12, 13, 9, 14, 15, 16, 17, 87, 88, 89, 90, 91, 92, 93, 94, 95, 96, 97, 98, 99, 100, 101, 102, 103, 104] (by decide +kernel) (by decide +kernel)
set_option maxRecDepth 20000 in
theorem gX6_does_X6_barAsk : GoodIn wsX6_does (wsV RX6 42 RX6 yX6_barAsk wsX6_barAsk) := goodIn_app (goodIn_of _ (by decide +kernel)) ggX6_does_X6_barAsk
set_option maxRecDepth 20000 in
theorem ggX6_does_X6_barDeliver : GoodIn wsX6_does wsX6_barDeliver := goodIn_r _ [21, 11, 12, 13, 9, 14, 15, 16, 17, 22, 23, 24, 25, 26, 27, 28, 87, 88, 89, 90, 91, 92, 93, 94, 95, 96, 97, 98, 99, 100, 101, 102, 103, 104] (by decide +kernel) (by decide +kernel)
set_option maxRecDepth 20000 in
theorem gX6_does_X6_barDeliver : GoodIn wsX6_does (wsV RX6 66 RX6 yX6_barDeliver wsX6_barDeliver) := goodIn_app (goodIn_of _ (by decide +kernel)) ggX6_does_X6_barDeliver
set_option maxRecDepth 20000 in
theorem ggX6_does_X6_barPass : GoodIn wsX6_does wsX6_barPass := goodIn_r _ [32, 11, 15, 16, 9, 17, 87, 88, 89, 90, 91, 92, 93, 94, 95, 96, 97, 98, 99, 100, 101, 102, 103, 104] (by decide +kernel) (by decide +kernel)
set_option maxRecDepth 20000 in
theorem gX6_does_X6_barPass : GoodIn wsX6_does (wsV RX6 102 RX6 yX6_barPass wsX6_barPass) := goodIn_app (goodIn_of _ (by decide +kernel)) ggX6_does_X6_barPass
set_option maxRecDepth 20000 in
theorem ggX6_does_X6_asks : GoodIn wsX6_does wsX6_asks := goodIn_r _ [36, 11, 26, 27, 9, 28, 87, 88, 89, 90, 91, 92, 93, 94, 95, 96, 97, 98, 99, 100, 101, 102, 103, 104] (by decide +kernel) (by decide +kernel)
set_option maxRecDepth 20000 in
theorem gX6_does_X6_asks : GoodIn wsX6_does (wsV RX6 49 RX6 yX6_asks wsX6_asks) := goodIn_app (goodIn_of _ (by decide +kernel)) ggX6_does_X6_asks
set_option maxRecDepth 20000 in
theorem ggX6_does_X6_delivers : GoodIn wsX6_does wsX6_delivers := goodIn_r _ [40, 11, 41, 42, 9, 43, 44, 45, 46, 47, 87, 88, 89, 90, 91, 92, 93, 94, 95, 96, 97, 98, 99, 100, 101, 102, 103, 104] (by decide +kernel) (by decide +kernel)
set_option maxRecDepth 20000 in
theorem gX6_does_X6_delivers : GoodIn wsX6_does (wsV RX6 70 RX6 yX6_delivers wsX6_delivers) := goodIn_app (goodIn_of _ (by decide +kernel)) ggX6_does_X6_delivers
set_option maxRecDepth 20000 in
theorem ggX6_does_X6_passes : GoodIn wsX6_does wsX6_passes := goodIn_r _ [51, 52, 53, 54, 9, 55, 11, 41, 42, 43, 56, 57, 58, 59, 60, 61, 62, 63, 26, 27, 28, 64, 65, 66, 67, 68, 69, 70, 71, 72, 73, 74, 75, 76, 77, 78, 44, 45, 46, 47, 79, 80, 81, 82, 83, 84, 85, 86, 87, 88, 89, 90, 91, 92, 93, 94, 95, 96, 97, 98, 99, 100, 101, 102, 103, 104] (by decide +kernel) (by decide +kernel)
set_option maxRecDepth 20000 in
theorem gX6_does_X6_passes : GoodIn wsX6_does (wsV RX6 105 RX6 yX6_passes wsX6_passes) := goodIn_app (goodIn_of _ (by decide +kernel)) ggX6_does_X6_passes
theorem dX6_does_0 : decode cX6_does 0 = .ok (.aload_n 0, 1) := by decide +kernel
theorem dX6_does_1 : decode cX6_does 1 = .ok (.getfield 122, 3) := by decide +kernel
theorem dX6_does_4 : decode cX6_does 4 = .ok (.bipush 114, 2) := by decide +kernel
theorem dX6_does_6 : decode cX6_does 6 = .ok (.if_icmp .ne 22, 3) := by decide +kernel
theorem dX6_does_9 : decode cX6_does 9 = .ok (.aload_n 0, 1) := by decide +kernel
theorem dX6_does_10 : decode cX6_does 10 = .ok (.aload_n 0, 1) := by decide +kernel
theorem dX6_does_11 : decode cX6_does 11 = .ok (.getfield 128, 3) := by decide +kernel
theorem dX6_does_14 : decode cX6_does 14 = .ok (.aload_n 0, 1) := by decide +kernel
theorem dX6_does_15 : decode cX6_does 15 = .ok (.getfield 134, 3) := by decide +kernel
theorem dX6_does_18 : decode cX6_does 18 = .ok (.aload_n 0, 1) := by decide +kernel
theorem dX6_does_19 : decode cX6_does 19 = .ok (.getfield 137, 3) := by decide +kernel
theorem dX6_does_22 : decode cX6_does 22 = .ok (.invokevirtual 42, 3) := by decide +kernel
theorem dX6_does_25 : decode cX6_does 25 = .ok (.goto 43, 3) := by decide +kernel
theorem dX6_does_28 : decode cX6_does 28 = .ok (.aload_n 0, 1) := by decide +kernel
theorem dX6_does_29 : decode cX6_does 29 = .ok (.getfield 122, 3) := by decide +kernel
theorem dX6_does_32 : decode cX6_does 32 = .ok (.bipush 97, 2) := by decide +kernel
theorem dX6_does_34 : decode cX6_does 34 = .ok (.if_icmp .ne 26, 3) := by decide +kernel
theorem dX6_does_37 : decode cX6_does 37 = .ok (.aload_n 0, 1) := by decide +kernel
theorem dX6_does_38 : decode cX6_does 38 = .ok (.aload_n 0, 1) := by decide +kernel
theorem dX6_does_39 : decode cX6_does 39 = .ok (.getfield 128, 3) := by decide +kernel
theorem dX6_does_42 : decode cX6_does 42 = .ok (.aload_n 0, 1) := by decide +kernel
theorem dX6_does_43 : decode cX6_does 43 = .ok (.getfield 134, 3) := by decide +kernel
theorem dX6_does_46 : decode cX6_does 46 = .ok (.aload_n 0, 1) := by decide +kernel
theorem dX6_does_47 : decode cX6_does 47 = .ok (.getfield 137, 3) := by decide +kernel
theorem dX6_does_50 : decode cX6_does 50 = .ok (.aload_n 0, 1) := by decide +kernel
theorem dX6_does_51 : decode cX6_does 51 = .ok (.getfield 140, 3) := by decide +kernel
theorem dX6_does_54 : decode cX6_does 54 = .ok (.invokevirtual 66, 3) := by decide +kernel
theorem dX6_does_57 : decode cX6_does 57 = .ok (.goto 11, 3) := by decide +kernel
theorem dX6_does_60 : decode cX6_does 60 = .ok (.aload_n 0, 1) := by decide +kernel
theorem dX6_does_61 : decode cX6_does 61 = .ok (.aload_n 0, 1) := by decide +kernel
theorem dX6_does_62 : decode cX6_does 62 = .ok (.getfield 128, 3) := by decide +kernel
theorem dX6_does_65 : decode cX6_does 65 = .ok (.invokevirtual 102, 3) := by decide +kernel
theorem dX6_does_68 : decode cX6_does 68 = .ok (.istore_n 1, 1) := by decide +kernel
theorem dX6_does_69 : decode cX6_does 69 = .ok (.iload_n 1, 1) := by decide +kernel
theorem dX6_does_70 : decode cX6_does 70 = .ok (.ifCond .ne 72, 3) := by decide +kernel
theorem dX6_does_73 : decode cX6_does 73 = .ok (.aload_n 0, 1) := by decide +kernel
theorem dX6_does_74 : decode cX6_does 74 = .ok (.getfield 122, 3) := by decide +kernel
theorem dX6_does_77 : decode cX6_does 77 = .ok (.bipush 114, 2) := by decide +kernel
theorem dX6_does_79 : decode cX6_does 79 = .ok (.if_icmp .ne 22, 3) := by decide +kernel
theorem dX6_does_82 : decode cX6_does 82 = .ok (.aload_n 0, 1) := by decide +kernel
theorem dX6_does_83 : decode cX6_does 83 = .ok (.aload_n 0, 1) := by decide +kernel
theorem dX6_does_84 : decode cX6_does 84 = .ok (.getfield 128, 3) := by decide +kernel
theorem dX6_does_87 : decode cX6_does 87 = .ok (.aload_n 0, 1) := by decide +kernel
theorem dX6_does_88 : decode cX6_does 88 = .ok (.getfield 134, 3) := by decide +kernel
theorem dX6_does_91 : decode cX6_does 91 = .ok (.aload_n 0, 1) := by decide +kernel
theorem dX6_does_92 : decode cX6_does 92 = .ok (.getfield 137, 3) := by decide +kernel
theorem dX6_does_95 : decode cX6_does 95 = .ok (.invokevirtual 49, 3) := by decide +kernel
theorem dX6_does_98 : decode cX6_does 98 = .ok (.goto 43, 3) := by decide +kernel
theorem dX6_does_101 : decode cX6_does 101 = .ok (.aload_n 0, 1) := by decide +kernel
theorem dX6_does_102 : decode cX6_does 102 = .ok (.getfield 122, 3) := by decide +kernel
theorem dX6_does_105 : decode cX6_does 105 = .ok (.bipush 97, 2) := by decide +kernel
theorem dX6_does_107 : decode cX6_does 107 = .ok (.if_icmp .ne 26, 3) := by decide +kernel
theorem dX6_does_110 : decode cX6_does 110 = .ok (.aload_n 0, 1) := by decide +kernel
theorem dX6_does_111 : decode cX6_does 111 = .ok (.aload_n 0, 1) := by decide +kernel
theorem dX6_does_112 : decode cX6_does 112 = .ok (.getfield 128, 3) := by decide +kernel
theorem dX6_does_115 : decode cX6_does 115 = .ok (.aload_n 0, 1) := by decide +kernel
theorem dX6_does_116 : decode cX6_does 116 = .ok (.getfield 134, 3) := by decide +kernel
theorem dX6_does_119 : decode cX6_does 119 = .ok (.aload_n 0, 1) := by decide +kernel
theorem dX6_does_120 : decode cX6_does 120 = .ok (.getfield 137, 3) := by decide +kernel
theorem dX6_does_123 : decode cX6_does 123 = .ok (.aload_n 0, 1) := by decide +kernel
theorem dX6_does_124 : decode cX6_does 124 = .ok (.getfield 140, 3) := by decide +kernel
theorem dX6_does_127 : decode cX6_does 127 = .ok (.invokevirtual 70, 3) := by decide +kernel
theorem dX6_does_130 : decode cX6_does 130 = .ok (.goto 11, 3) := by decide +kernel
theorem dX6_does_133 : decode cX6_does 133 = .ok (.aload_n 0, 1) := by decide +kernel
theorem dX6_does_134 : decode cX6_does 134 = .ok (.aload_n 0, 1) := by decide +kernel
theorem dX6_does_135 : decode cX6_does 135 = .ok (.getfield 128, 3) := by decide +kernel
theorem dX6_does_138 : decode cX6_does 138 = .ok (.invokevirtual 105, 3) := by decide +kernel
theorem dX6_does_141 : decode cX6_does 141 = .ok (.istore_n 2, 1) := by decide +kernel
theorem dX6_does_142 : decode cX6_does 142 = .ok (.iload_n 1, 1) := by decide +kernel
theorem dX6_does_143 : decode cX6_does 143 = .ok (.ireturn, 1) := by decide +kernel
set_option maxRecDepth 20000 in
theorem ggX6_perform_X6_things : GoodIn wsX6_perform wsX6_things := goodIn_r _ [11, 1, 12, 13, 14, 15, 16, 10, 17, 18, 19, 20, 21, 22, 23, 24, 25, 26, 27, 28, 29, 30, 31, 32, 33, 34, 35, 36, 37, 38, 133, 134, 135, 136, 137, 138, 139, 140, 141, 142, 143, 144, 145, 146, 147, 148, 149, 150] (by decide +kernel) (by decide +kernel)
set_option maxRecDepth 20000 in
theorem gX6_perform_X6_things : GoodIn wsX6_perform (wsV RX6 146 RX6 yX6_things wsX6_things) := goodIn_app (goodIn_of _ (by decide +kernel)) ggX6_perform_X6_things
set_option maxRecDepth 20000 in
theorem ggX6_perform_X6_putAside : GoodIn wsX6_perform wsX6_putAside := goodIn_r _ [42, 6, 5, 133, 134, 135, 136, 137, 138, 139, 140, 141, 142, 143, 144, 145, 146, 147, 148, 149, 150] (by decide +kernel) (by decide +kernel)
set_option maxRecDepth 20000 in
theorem gX6_perform_X6_putAside : GoodIn wsX6_perform (wsV RX6 149 RX6 yX6_putAside wsX6_putAside) := goodIn_app (goodIn_of _ (by decide +kernel)) ggX6_perform_X6_putAside
set_option maxRecDepth 20000 in
theorem ggX6_perform_X6_thing : GoodIn wsX6_perform wsX6_thing := goodIn_r _ [17, 12, 18, 1, 13, 19, 20, 21, 22, 23, 24, 25, 10, 26, 27, 28, 29, 30, 31, 32, 33, 34, 35, 36, 37, 38, 133, 134, 135, 136, 137, 138, 139, 140, 141, 142, 143, 144, 145, 146, 147, 148, 149, 150] (by decide +kernel) (by decide +kernel)
set_option maxRecDepth 20000 in
theorem gX6_perform_X6_thing : GoodIn wsX6_perform (wsV RX6 143 RX6 yX6_thing wsX6_thing) := goodIn_app (goodIn_of _ (by decide +kernel)) ggX6_perform_X6_thing
set_option maxRecDepth 20000 in
theorem ggX6_perform_X6_does : GoodIn wsX6_perform wsX6_does := goodIn_r _ [46, 18, 19, 20, 21, 22, 47, 48, 49, 10, 50, 5, 51, 52, 53, 32, 33, 34, 54, 55, 56, 57, 58, 59, 60, 61, 62, 63, 64, 65, 66, 67, 68, 69, 70, 71, 72, 73, 74, 75, 76, 77, 78, 79, 80, 81, 82, 83, 84, 85, 86, 87, 88, 89, 90, 91, 92, 93, 94, 95, 96, 97, 98, 99, 100, 101, 102, 103, 104, 105, 106, 107, 108, 109, 110, 111, 112, 113, 114, 115, 116, 117, 118, 119, 120, 121, 122, 133, 134, 135, 136, 137, 138, 139, 140, 141, 142, 143, 144, 145, 146, 147, 148, 149, 150] (by decide +kernel) (by decide +kernel)
set_option maxRecDepth 20000 in
theorem gX6_perform_X6_does : GoodIn wsX6_perform (wsV RX6 152 RX6 yX6_does wsX6_does) := goodIn_app (goodIn_of _ (by decide +kernel)) ggX6_perform_X6_does
set_option maxRecDepth 20000 in
theorem ggX6_perform_X6_putBack : GoodIn wsX6_perform wsX6_putBack := goodIn_r _ [126, 5, 6, 133, 134, 135, 136, 137, 138, 139, 140, 141, 142, 143, 144, 145, 146, 147, 148, 149, 150] (by decide +kernel) (by decide +kernel)
set_option maxRecDepth 20000 in
theorem gX6_perform_X6_putBack : GoodIn wsX6_perform (wsV RX6 155 RX6 yX6_putBack wsX6_putBack) := goodIn_app (goodIn_of _ (by decide +kernel)) ggX6_perform_X6_putBack
set_option maxRecDepth 20000 in
theorem ggX6_perform_X6_records : GoodIn wsX6_perform wsX6_records := goodIn_r _ [130, 131, 132, 5, 133, 134, 135, 136, 137, 138, 139, 140, 141, 142, 143, 144, 145, 146, 147, 148, 149, 150] (by decide +kernel) (by decide +kernel)
set_option maxRecDepth 20000 in
theorem gX6_perform_X6_records : GoodIn wsX6_perform (wsV RX6 46 RX6 yX6_records wsX6_records) := goodIn_app (goodIn_of _ (by decide +kernel)) ggX6_perform_X6_records
theorem dX6_perform_0 : decode cX6_perform 0 = .ok (.aload_n 0, 1) := by decide +kernel
theorem dX6_perform_1 : decode cX6_perform 1 = .ok (.invokevirtual 146, 3) := by decide +kernel
theorem dX6_perform_4 : decode cX6_perform 4 = .ok (.istore_n 1, 1) := by decide +kernel
theorem dX6_perform_5 : decode cX6_perform 5 = .ok (.iload_n 1, 1) := by decide +kernel
theorem dX6_perform_6 : decode cX6_perform 6 = .ok (.ifCond .ge 11, 3) := by decide +kernel
theorem dX6_perform_9 : decode cX6_perform 9 = .ok (.bipush (-100), 2) := by decide +kernel
theorem dX6_perform_11 : decode cX6_perform 11 = .ok (.aload_n 0, 1) := by decide +kernel
theorem dX6_perform_12 : decode cX6_perform 12 = .ok (.getfield 111, 3) := by decide +kernel
theorem dX6_perform_15 : decode cX6_perform 15 = .ok (.isub, 1) := by decide +kernel
theorem dX6_perform_16 : decode cX6_perform 16 = .ok (.ireturn, 1) := by decide +kernel
theorem dX6_perform_17 : decode cX6_perform 17 = .ok (.aload_n 0, 1) := by decide +kernel
theorem dX6_perform_18 : decode cX6_perform 18 = .ok (.invokevirtual 149, 3) := by decide +kernel
theorem dX6_perform_21 : decode cX6_perform 21 = .ok (.aload_n 0, 1) := by decide +kernel
theorem dX6_perform_22 : decode cX6_perform 22 = .ok (.iconst 0, 1) := by decide +kernel
theorem dX6_perform_23 : decode cX6_perform 23 = .ok (.putfield 111, 3) := by decide +kernel
theorem dX6_perform_26 : decode cX6_perform 26 = .ok (.iconst 0, 1) := by decide +kernel
theorem dX6_perform_27 : decode cX6_perform 27 = .ok (.istore_n 2, 1) := by decide +kernel
theorem dX6_perform_28 : decode cX6_perform 28 = .ok (.iconst 0, 1) := by decide +kernel
theorem dX6_perform_29 : decode cX6_perform 29 = .ok (.istore_n 3, 1) := by decide +kernel
theorem dX6_perform_30 : decode cX6_perform 30 = .ok (.iload_n 2, 1) := by decide +kernel
theorem dX6_perform_31 : decode cX6_perform 31 = .ok (.ifCond .ne 42, 3) := by decide +kernel
theorem dX6_perform_34 : decode cX6_perform 34 = .ok (.iload_n 3, 1) := by decide +kernel
theorem dX6_perform_35 : decode cX6_perform 35 = .ok (.iload_n 1, 1) := by decide +kernel
theorem dX6_perform_36 : decode cX6_perform 36 = .ok (.if_icmp .ge 37, 3) := by decide +kernel
theorem dX6_perform_39 : decode cX6_perform 39 = .ok (.aload_n 0, 1) := by decide +kernel
theorem dX6_perform_40 : decode cX6_perform 40 = .ok (.invokevirtual 143, 3) := by decide +kernel
theorem dX6_perform_43 : decode cX6_perform 43 = .ok (.aload_n 0, 1) := by decide +kernel
theorem dX6_perform_44 : decode cX6_perform 44 = .ok (.dup, 1) := by decide +kernel
theorem dX6_perform_45 : decode cX6_perform 45 = .ok (.getfield 111, 3) := by decide +kernel
theorem dX6_perform_48 : decode cX6_perform 48 = .ok (.iconst 1, 1) := by decide +kernel
theorem dX6_perform_49 : decode cX6_perform 49 = .ok (.iadd, 1) := by decide +kernel
theorem dX6_perform_50 : decode cX6_perform 50 = .ok (.putfield 111, 3) := by decide +kernel
theorem dX6_perform_53 : decode cX6_perform 53 = .ok (.aload_n 0, 1) := by decide +kernel
theorem dX6_perform_54 : decode cX6_perform 54 = .ok (.invokevirtual 152, 3) := by decide +kernel
theorem dX6_perform_57 : decode cX6_perform 57 = .ok (.istore_n 2, 1) := by decide +kernel
theorem dX6_perform_58 : decode cX6_perform 58 = .ok (.iload_n 3, 1) := by decide +kernel
theorem dX6_perform_59 : decode cX6_perform 59 = .ok (.iload_n 2, 1) := by decide +kernel
theorem dX6_perform_60 : decode cX6_perform 60 = .ok (.ifCond .ne 7, 3) := by decide +kernel
theorem dX6_perform_63 : decode cX6_perform 63 = .ok (.iconst 1, 1) := by decide +kernel
theorem dX6_perform_64 : decode cX6_perform 64 = .ok (.goto 4, 3) := by decide +kernel
theorem dX6_perform_67 : decode cX6_perform 67 = .ok (.iconst 0, 1) := by decide +kernel
theorem dX6_perform_68 : decode cX6_perform 68 = .ok (.iadd, 1) := by decide +kernel
theorem dX6_perform_69 : decode cX6_perform 69 = .ok (.istore_n 3, 1) := by decide +kernel
theorem dX6_perform_70 : decode cX6_perform 70 = .ok (.goto (-40), 3) := by decide +kernel
theorem dX6_perform_73 : decode cX6_perform 73 = .ok (.iload_n 2, 1) := by decide +kernel
theorem dX6_perform_74 : decode cX6_perform 74 = .ok (.ifCond .ge 25, 3) := by decide +kernel
theorem dX6_perform_77 : decode cX6_perform 77 = .ok (.aload_n 0, 1) := by decide +kernel
theorem dX6_perform_78 : decode cX6_perform 78 = .ok (.invokevirtual 155, 3) := by decide +kernel
theorem dX6_perform_81 : decode cX6_perform 81 = .ok (.aload_n 0, 1) := by decide +kernel
theorem dX6_perform_82 : decode cX6_perform 82 = .ok (.iconst 1, 1) := by decide +kernel
theorem dX6_perform_83 : decode cX6_perform 83 = .ok (.putfield 158, 3) := by decide +kernel
theorem dX6_perform_86 : decode cX6_perform 86 = .ok (.aload_n 0, 1) := by decide +kernel
theorem dX6_perform_87 : decode cX6_perform 87 = .ok (.iload_n 3, 1) := by decide +kernel
theorem dX6_perform_88 : decode cX6_perform 88 = .ok (.putfield 161, 3) := by decide +kernel
theorem dX6_perform_91 : decode cX6_perform 91 = .ok (.aload_n 0, 1) := by decide +kernel
theorem dX6_perform_92 : decode cX6_perform 92 = .ok (.iload_n 2, 1) := by decide +kernel
theorem dX6_perform_93 : decode cX6_perform 93 = .ok (.putfield 164, 3) := by decide +kernel
theorem dX6_perform_96 : decode cX6_perform 96 = .ok (.bipush (-4), 2) := by decide +kernel
theorem dX6_perform_98 : decode cX6_perform 98 = .ok (.ireturn, 1) := by decide +kernel
theorem dX6_perform_99 : decode cX6_perform 99 = .ok (.iconst 0, 1) := by decide +kernel
theorem dX6_perform_100 : decode cX6_perform 100 = .ok (.istore 4, 2) := by decide +kernel
theorem dX6_perform_102 : decode cX6_perform 102 = .ok (.iload 4, 2) := by decide +kernel
theorem dX6_perform_104 : decode cX6_perform 104 = .ok (.sipush 490, 3) := by decide +kernel
theorem dX6_perform_107 : decode cX6_perform 107 = .ok (.if_icmp .ge 41, 3) := by decide +kernel
theorem dX6_perform_110 : decode cX6_perform 110 = .ok (.aload_n 0, 1) := by decide +kernel
theorem dX6_perform_111 : decode cX6_perform 111 = .ok (.getfield 7, 3) := by decide +kernel
theorem dX6_perform_114 : decode cX6_perform 114 = .ok (.iload 4, 2) := by decide +kernel
theorem dX6_perform_116 : decode cX6_perform 116 = .ok (.iaload, 1) := by decide +kernel
theorem dX6_perform_117 : decode cX6_perform 117 = .ok (.istore 5, 2) := by decide +kernel
theorem dX6_perform_119 : decode cX6_perform 119 = .ok (.aload_n 0, 1) := by decide +kernel
theorem dX6_perform_120 : decode cX6_perform 120 = .ok (.getfield 7, 3) := by decide +kernel
theorem dX6_perform_123 : decode cX6_perform 123 = .ok (.iload 4, 2) := by decide +kernel
theorem dX6_perform_125 : decode cX6_perform 125 = .ok (.aload_n 0, 1) := by decide +kernel
theorem dX6_perform_126 : decode cX6_perform 126 = .ok (.getfield 13, 3) := by decide +kernel
theorem dX6_perform_129 : decode cX6_perform 129 = .ok (.iload 4, 2) := by decide +kernel
theorem dX6_perform_131 : decode cX6_perform 131 = .ok (.iaload, 1) := by decide +kernel
theorem dX6_perform_132 : decode cX6_perform 132 = .ok (.iastore, 1) := by decide +kernel
theorem dX6_perform_133 : decode cX6_perform 133 = .ok (.aload_n 0, 1) := by decide +kernel
theorem dX6_perform_134 : decode cX6_perform 134 = .ok (.getfield 13, 3) := by decide +kernel
theorem dX6_perform_137 : decode cX6_perform 137 = .ok (.iload 4, 2) := by decide +kernel
theorem dX6_perform_139 : decode cX6_perform 139 = .ok (.iload 5, 2) := by decide +kernel
theorem dX6_perform_141 : decode cX6_perform 141 = .ok (.iastore, 1) := by decide +kernel
theorem dX6_perform_142 : decode cX6_perform 142 = .ok (.iinc 4 1, 3) := by decide +kernel
theorem dX6_perform_145 : decode cX6_perform 145 = .ok (.goto (-43), 3) := by decide +kernel
theorem dX6_perform_148 : decode cX6_perform 148 = .ok (.aload_n 0, 1) := by decide +kernel
theorem dX6_perform_149 : decode cX6_perform 149 = .ok (.invokevirtual 46, 3) := by decide +kernel
theorem dX6_perform_152 : decode cX6_perform 152 = .ok (.aload_n 0, 1) := by decide +kernel
theorem dX6_perform_153 : decode cX6_perform 153 = .ok (.invokevirtual 155, 3) := by decide +kernel
theorem dX6_perform_156 : decode cX6_perform 156 = .ok (.iload_n 1, 1) := by decide +kernel
theorem dX6_perform_157 : decode cX6_perform 157 = .ok (.ireturn, 1) := by decide +kernel
set_option maxRecDepth 20000 in
theorem ggX6_stopped_X6_in : GoodIn wsX6_stopped wsX6_in := goodIn_r _ [7] (by decide +kernel) (by decide +kernel)
set_option maxRecDepth 20000 in
theorem gX6_stopped_X6_in : GoodIn wsX6_stopped (va_wsS RX6 26 yX6_in wsX6_in) := goodIn_app (goodIn_of _ (by decide +kernel)) ggX6_stopped_X6_in
theorem dX6_stopped_0 : decode cX6_stopped 0 = .ok (.iload_n 1, 1) := by decide +kernel
theorem dX6_stopped_1 : decode cX6_stopped 1 = .ok (.iconst 0, 1) := by decide +kernel
theorem dX6_stopped_2 : decode cX6_stopped 2 = .ok (.iconst 1, 1) := by decide +kernel
theorem dX6_stopped_3 : decode cX6_stopped 3 = .ok (.invokestatic 26, 3) := by decide +kernel
theorem dX6_stopped_6 : decode cX6_stopped 6 = .ok (.ifCond .ne 6, 3) := by decide +kernel
theorem dX6_stopped_9 : decode cX6_stopped 9 = .ok (.bipush (-2), 2) := by decide +kernel
theorem dX6_stopped_11 : decode cX6_stopped 11 = .ok (.ireturn, 1) := by decide +kernel
theorem dX6_stopped_12 : decode cX6_stopped 12 = .ok (.aload_n 0, 1) := by decide +kernel
theorem dX6_stopped_13 : decode cX6_stopped 13 = .ok (.getfield 158, 3) := by decide +kernel
theorem dX6_stopped_16 : decode cX6_stopped 16 = .ok (.ifCond .ne 8, 3) := by decide +kernel
theorem dX6_stopped_19 : decode cX6_stopped 19 = .ok (.bipush (-5), 2) := by decide +kernel
theorem dX6_stopped_21 : decode cX6_stopped 21 = .ok (.goto 18, 3) := by decide +kernel
theorem dX6_stopped_24 : decode cX6_stopped 24 = .ok (.iload_n 1, 1) := by decide +kernel
theorem dX6_stopped_25 : decode cX6_stopped 25 = .ok (.ifCond .ne 10, 3) := by decide +kernel
theorem dX6_stopped_28 : decode cX6_stopped 28 = .ok (.aload_n 0, 1) := by decide +kernel
theorem dX6_stopped_29 : decode cX6_stopped 29 = .ok (.getfield 161, 3) := by decide +kernel
theorem dX6_stopped_32 : decode cX6_stopped 32 = .ok (.goto 7, 3) := by decide +kernel
theorem dX6_stopped_35 : decode cX6_stopped 35 = .ok (.aload_n 0, 1) := by decide +kernel
theorem dX6_stopped_36 : decode cX6_stopped 36 = .ok (.getfield 164, 3) := by decide +kernel
theorem dX6_stopped_39 : decode cX6_stopped 39 = .ok (.ireturn, 1) := by decide +kernel
theorem dX6_undo_0 : decode cX6_undo 0 = .ok (.aload_n 0, 1) := by decide +kernel
theorem dX6_undo_1 : decode cX6_undo 1 = .ok (.getfield 30, 3) := by decide +kernel
theorem dX6_undo_4 : decode cX6_undo 4 = .ok (.ifCond .ne 6, 3) := by decide +kernel
theorem dX6_undo_7 : decode cX6_undo 7 = .ok (.bipush (-5), 2) := by decide +kernel
theorem dX6_undo_9 : decode cX6_undo 9 = .ok (.ireturn, 1) := by decide +kernel
theorem dX6_undo_10 : decode cX6_undo 10 = .ok (.aload_n 0, 1) := by decide +kernel
theorem dX6_undo_11 : decode cX6_undo 11 = .ok (.dup, 1) := by decide +kernel
theorem dX6_undo_12 : decode cX6_undo 12 = .ok (.getfield 30, 3) := by decide +kernel
theorem dX6_undo_15 : decode cX6_undo 15 = .ok (.iconst 1, 1) := by decide +kernel
theorem dX6_undo_16 : decode cX6_undo 16 = .ok (.isub, 1) := by decide +kernel
theorem dX6_undo_17 : decode cX6_undo 17 = .ok (.putfield 30, 3) := by decide +kernel
theorem dX6_undo_20 : decode cX6_undo 20 = .ok (.iconst 0, 1) := by decide +kernel
theorem dX6_undo_21 : decode cX6_undo 21 = .ok (.istore_n 1, 1) := by decide +kernel
theorem dX6_undo_22 : decode cX6_undo 22 = .ok (.iload_n 1, 1) := by decide +kernel
theorem dX6_undo_23 : decode cX6_undo 23 = .ok (.sipush 490, 3) := by decide +kernel
theorem dX6_undo_26 : decode cX6_undo 26 = .ok (.if_icmp .ge 30, 3) := by decide +kernel
theorem dX6_undo_29 : decode cX6_undo 29 = .ok (.aload_n 0, 1) := by decide +kernel
theorem dX6_undo_30 : decode cX6_undo 30 = .ok (.getfield 7, 3) := by decide +kernel
theorem dX6_undo_33 : decode cX6_undo 33 = .ok (.iload_n 1, 1) := by decide +kernel
theorem dX6_undo_34 : decode cX6_undo 34 = .ok (.aload_n 0, 1) := by decide +kernel
theorem dX6_undo_35 : decode cX6_undo 35 = .ok (.getfield 16, 3) := by decide +kernel
theorem dX6_undo_38 : decode cX6_undo 38 = .ok (.sipush 490, 3) := by decide +kernel
theorem dX6_undo_41 : decode cX6_undo 41 = .ok (.aload_n 0, 1) := by decide +kernel
theorem dX6_undo_42 : decode cX6_undo 42 = .ok (.getfield 30, 3) := by decide +kernel
theorem dX6_undo_45 : decode cX6_undo 45 = .ok (.imul, 1) := by decide +kernel
theorem dX6_undo_46 : decode cX6_undo 46 = .ok (.iload_n 1, 1) := by decide +kernel
theorem dX6_undo_47 : decode cX6_undo 47 = .ok (.iadd, 1) := by decide +kernel
theorem dX6_undo_48 : decode cX6_undo 48 = .ok (.iaload, 1) := by decide +kernel
theorem dX6_undo_49 : decode cX6_undo 49 = .ok (.iastore, 1) := by decide +kernel
theorem dX6_undo_50 : decode cX6_undo 50 = .ok (.iinc 1 1, 3) := by decide +kernel
theorem dX6_undo_53 : decode cX6_undo 53 = .ok (.goto (-31), 3) := by decide +kernel
theorem dX6_undo_56 : decode cX6_undo 56 = .ok (.aload_n 0, 1) := by decide +kernel
theorem dX6_undo_57 : decode cX6_undo 57 = .ok (.getfield 30, 3) := by decide +kernel
theorem dX6_undo_60 : decode cX6_undo 60 = .ok (.ireturn, 1) := by decide +kernel
theorem dX6_keep_0 : decode cX6_keep 0 = .ok (.iconst 0, 1) := by decide +kernel
theorem dX6_keep_1 : decode cX6_keep 1 = .ok (.istore_n 1, 1) := by decide +kernel
theorem dX6_keep_2 : decode cX6_keep 2 = .ok (.iload_n 1, 1) := by decide +kernel
theorem dX6_keep_3 : decode cX6_keep 3 = .ok (.sipush 490, 3) := by decide +kernel
theorem dX6_keep_6 : decode cX6_keep 6 = .ok (.if_icmp .ge 21, 3) := by decide +kernel
theorem dX6_keep_9 : decode cX6_keep 9 = .ok (.aload_n 0, 1) := by decide +kernel
theorem dX6_keep_10 : decode cX6_keep 10 = .ok (.getfield 19, 3) := by decide +kernel
theorem dX6_keep_13 : decode cX6_keep 13 = .ok (.iload_n 1, 1) := by decide +kernel
theorem dX6_keep_14 : decode cX6_keep 14 = .ok (.aload_n 0, 1) := by decide +kernel
theorem dX6_keep_15 : decode cX6_keep 15 = .ok (.getfield 7, 3) := by decide +kernel
theorem dX6_keep_18 : decode cX6_keep 18 = .ok (.iload_n 1, 1) := by decide +kernel
theorem dX6_keep_19 : decode cX6_keep 19 = .ok (.iaload, 1) := by decide +kernel
theorem dX6_keep_20 : decode cX6_keep 20 = .ok (.iastore, 1) := by decide +kernel
theorem dX6_keep_21 : decode cX6_keep 21 = .ok (.iinc 1 1, 3) := by decide +kernel
theorem dX6_keep_24 : decode cX6_keep 24 = .ok (.goto (-22), 3) := by decide +kernel
theorem dX6_keep_27 : decode cX6_keep 27 = .ok (.aload_n 0, 1) := by decide +kernel
theorem dX6_keep_28 : decode cX6_keep 28 = .ok (.iconst 1, 1) := by decide +kernel
theorem dX6_keep_29 : decode cX6_keep 29 = .ok (.putfield 167, 3) := by decide +kernel
theorem dX6_keep_32 : decode cX6_keep 32 = .ok (.aload_n 0, 1) := by decide +kernel
theorem dX6_keep_33 : decode cX6_keep 33 = .ok (.getfield 7, 3) := by decide +kernel
theorem dX6_keep_36 : decode cX6_keep 36 = .ok (.sipush 476, 3) := by decide +kernel
theorem dX6_keep_39 : decode cX6_keep 39 = .ok (.iaload, 1) := by decide +kernel
theorem dX6_keep_40 : decode cX6_keep 40 = .ok (.ireturn, 1) := by decide +kernel
set_option maxRecDepth 20000 in
theorem ggX6_restore_X6_records : GoodIn wsX6_restore wsX6_records := goodIn_r _ [8, 9, 10, 2, 11, 12, 13, 14, 15, 16, 17, 18, 19, 20, 21, 22, 23, 24, 25, 26, 27, 28] (by decide +kernel) (by decide +kernel)
set_option maxRecDepth 20000 in
theorem gX6_restore_X6_records : GoodIn wsX6_restore (wsV RX6 46 RX6 yX6_records wsX6_records) := goodIn_app (goodIn_of _ (by decide +kernel)) ggX6_restore_X6_records
theorem dX6_restore_0 : decode cX6_restore 0 = .ok (.aload_n 0, 1) := by decide +kernel
theorem dX6_restore_1 : decode cX6_restore 1 = .ok (.getfield 167, 3) := by decide +kernel
theorem dX6_restore_4 : decode cX6_restore 4 = .ok (.ifCond .ne 6, 3) := by decide +kernel
theorem dX6_restore_7 : decode cX6_restore 7 = .ok (.bipush (-5), 2) := by decide +kernel
theorem dX6_restore_9 : decode cX6_restore 9 = .ok (.ireturn, 1) := by decide +kernel
theorem dX6_restore_10 : decode cX6_restore 10 = .ok (.aload_n 0, 1) := by decide +kernel
theorem dX6_restore_11 : decode cX6_restore 11 = .ok (.invokevirtual 46, 3) := by decide +kernel
theorem dX6_restore_14 : decode cX6_restore 14 = .ok (.iconst 0, 1) := by decide +kernel
theorem dX6_restore_15 : decode cX6_restore 15 = .ok (.istore_n 1, 1) := by decide +kernel
theorem dX6_restore_16 : decode cX6_restore 16 = .ok (.iload_n 1, 1) := by decide +kernel
theorem dX6_restore_17 : decode cX6_restore 17 = .ok (.sipush 490, 3) := by decide +kernel
theorem dX6_restore_20 : decode cX6_restore 20 = .ok (.if_icmp .ge 21, 3) := by decide +kernel
theorem dX6_restore_23 : decode cX6_restore 23 = .ok (.aload_n 0, 1) := by decide +kernel
theorem dX6_restore_24 : decode cX6_restore 24 = .ok (.getfield 7, 3) := by decide +kernel
theorem dX6_restore_27 : decode cX6_restore 27 = .ok (.iload_n 1, 1) := by decide +kernel
theorem dX6_restore_28 : decode cX6_restore 28 = .ok (.aload_n 0, 1) := by decide +kernel
theorem dX6_restore_29 : decode cX6_restore 29 = .ok (.getfield 19, 3) := by decide +kernel
theorem dX6_restore_32 : decode cX6_restore 32 = .ok (.iload_n 1, 1) := by decide +kernel
theorem dX6_restore_33 : decode cX6_restore 33 = .ok (.iaload, 1) := by decide +kernel
theorem dX6_restore_34 : decode cX6_restore 34 = .ok (.iastore, 1) := by decide +kernel
theorem dX6_restore_35 : decode cX6_restore 35 = .ok (.iinc 1 1, 3) := by decide +kernel
theorem dX6_restore_38 : decode cX6_restore 38 = .ok (.goto (-22), 3) := by decide +kernel
theorem dX6_restore_41 : decode cX6_restore 41 = .ok (.aload_n 0, 1) := by decide +kernel
theorem dX6_restore_42 : decode cX6_restore 42 = .ok (.getfield 7, 3) := by decide +kernel
theorem dX6_restore_45 : decode cX6_restore 45 = .ok (.sipush 476, 3) := by decide +kernel
theorem dX6_restore_48 : decode cX6_restore 48 = .ok (.iaload, 1) := by decide +kernel
theorem dX6_restore_49 : decode cX6_restore 49 = .ok (.ireturn, 1) := by decide +kernel
set_option maxRecDepth 20000 in
theorem ggX6_riddlesOf_X6_ofR : GoodIn wsX6_riddlesOf wsX6_ofR := goodIn_r _ [5] (by decide +kernel) (by decide +kernel)
set_option maxRecDepth 20000 in
theorem gX6_riddlesOf_X6_ofR : GoodIn wsX6_riddlesOf (va_wsS RX6 38 yX6_ofR wsX6_ofR) := goodIn_app (goodIn_of _ (by decide +kernel)) ggX6_riddlesOf_X6_ofR
theorem dX6_riddlesOf_0 : decode cX6_riddlesOf 0 = .ok (.iconst 0, 1) := by decide +kernel
theorem dX6_riddlesOf_1 : decode cX6_riddlesOf 1 = .ok (.istore_n 3, 1) := by decide +kernel
theorem dX6_riddlesOf_2 : decode cX6_riddlesOf 2 = .ok (.iconst 0, 1) := by decide +kernel
theorem dX6_riddlesOf_3 : decode cX6_riddlesOf 3 = .ok (.istore 4, 2) := by decide +kernel
theorem dX6_riddlesOf_5 : decode cX6_riddlesOf 5 = .ok (.iload 4, 2) := by decide +kernel
theorem dX6_riddlesOf_7 : decode cX6_riddlesOf 7 = .ok (.aload_n 0, 1) := by decide +kernel
theorem dX6_riddlesOf_8 : decode cX6_riddlesOf 8 = .ok (.getfield 7, 3) := by decide +kernel
theorem dX6_riddlesOf_11 : decode cX6_riddlesOf 11 = .ok (.sipush 483, 3) := by decide +kernel
theorem dX6_riddlesOf_14 : decode cX6_riddlesOf 14 = .ok (.iaload, 1) := by decide +kernel
theorem dX6_riddlesOf_15 : decode cX6_riddlesOf 15 = .ok (.if_icmp .ge 51, 3) := by decide +kernel
theorem dX6_riddlesOf_18 : decode cX6_riddlesOf 18 = .ok (.iload_n 3, 1) := by decide +kernel
theorem dX6_riddlesOf_19 : decode cX6_riddlesOf 19 = .ok (.aload_n 0, 1) := by decide +kernel
theorem dX6_riddlesOf_20 : decode cX6_riddlesOf 20 = .ok (.getfield 7, 3) := by decide +kernel
theorem dX6_riddlesOf_23 : decode cX6_riddlesOf 23 = .ok (.iload 4, 2) := by decide +kernel
theorem dX6_riddlesOf_25 : decode cX6_riddlesOf 25 = .ok (.iconst 0, 1) := by decide +kernel
theorem dX6_riddlesOf_26 : decode cX6_riddlesOf 26 = .ok (.invokestatic 38, 3) := by decide +kernel
theorem dX6_riddlesOf_29 : decode cX6_riddlesOf 29 = .ok (.iaload, 1) := by decide +kernel
theorem dX6_riddlesOf_30 : decode cX6_riddlesOf 30 = .ok (.iload_n 1, 1) := by decide +kernel
theorem dX6_riddlesOf_31 : decode cX6_riddlesOf 31 = .ok (.if_icmp .ne 26, 3) := by decide +kernel
theorem dX6_riddlesOf_34 : decode cX6_riddlesOf 34 = .ok (.iload_n 2, 1) := by decide +kernel
theorem dX6_riddlesOf_35 : decode cX6_riddlesOf 35 = .ok (.ifCond .lt 18, 3) := by decide +kernel
theorem dX6_riddlesOf_38 : decode cX6_riddlesOf 38 = .ok (.aload_n 0, 1) := by decide +kernel
theorem dX6_riddlesOf_39 : decode cX6_riddlesOf 39 = .ok (.getfield 7, 3) := by decide +kernel
theorem dX6_riddlesOf_42 : decode cX6_riddlesOf 42 = .ok (.iload 4, 2) := by decide +kernel
theorem dX6_riddlesOf_44 : decode cX6_riddlesOf 44 = .ok (.iconst 3, 1) := by decide +kernel
theorem dX6_riddlesOf_45 : decode cX6_riddlesOf 45 = .ok (.invokestatic 38, 3) := by decide +kernel
theorem dX6_riddlesOf_48 : decode cX6_riddlesOf 48 = .ok (.iaload, 1) := by decide +kernel
theorem dX6_riddlesOf_49 : decode cX6_riddlesOf 49 = .ok (.iload_n 2, 1) := by decide +kernel
theorem dX6_riddlesOf_50 : decode cX6_riddlesOf 50 = .ok (.if_icmp .ne 7, 3) := by decide +kernel
theorem dX6_riddlesOf_53 : decode cX6_riddlesOf 53 = .ok (.iconst 1, 1) := by decide +kernel
theorem dX6_riddlesOf_54 : decode cX6_riddlesOf 54 = .ok (.goto 4, 3) := by decide +kernel
theorem dX6_riddlesOf_57 : decode cX6_riddlesOf 57 = .ok (.iconst 0, 1) := by decide +kernel
theorem dX6_riddlesOf_58 : decode cX6_riddlesOf 58 = .ok (.iadd, 1) := by decide +kernel
theorem dX6_riddlesOf_59 : decode cX6_riddlesOf 59 = .ok (.istore_n 3, 1) := by decide +kernel
theorem dX6_riddlesOf_60 : decode cX6_riddlesOf 60 = .ok (.iinc 4 1, 3) := by decide +kernel
theorem dX6_riddlesOf_63 : decode cX6_riddlesOf 63 = .ok (.goto (-58), 3) := by decide +kernel
theorem dX6_riddlesOf_66 : decode cX6_riddlesOf 66 = .ok (.iload_n 3, 1) := by decide +kernel
theorem dX6_riddlesOf_67 : decode cX6_riddlesOf 67 = .ok (.ireturn, 1) := by decide +kernel
set_option maxRecDepth 20000 in
theorem ggX6_answersOf_X6_ofA : GoodIn wsX6_answersOf wsX6_ofA := goodIn_r _ [5] (by decide +kernel) (by decide +kernel)
set_option maxRecDepth 20000 in
theorem gX6_answersOf_X6_ofA : GoodIn wsX6_answersOf (va_wsS RX6 52 yX6_ofA wsX6_ofA) := goodIn_app (goodIn_of _ (by decide +kernel)) ggX6_answersOf_X6_ofA
theorem dX6_answersOf_0 : decode cX6_answersOf 0 = .ok (.iconst 0, 1) := by decide +kernel
theorem dX6_answersOf_1 : decode cX6_answersOf 1 = .ok (.istore_n 3, 1) := by decide +kernel
theorem dX6_answersOf_2 : decode cX6_answersOf 2 = .ok (.iconst 0, 1) := by decide +kernel
theorem dX6_answersOf_3 : decode cX6_answersOf 3 = .ok (.istore 4, 2) := by decide +kernel
theorem dX6_answersOf_5 : decode cX6_answersOf 5 = .ok (.iload 4, 2) := by decide +kernel
theorem dX6_answersOf_7 : decode cX6_answersOf 7 = .ok (.aload_n 0, 1) := by decide +kernel
theorem dX6_answersOf_8 : decode cX6_answersOf 8 = .ok (.getfield 7, 3) := by decide +kernel
theorem dX6_answersOf_11 : decode cX6_answersOf 11 = .ok (.sipush 484, 3) := by decide +kernel
theorem dX6_answersOf_14 : decode cX6_answersOf 14 = .ok (.iaload, 1) := by decide +kernel
theorem dX6_answersOf_15 : decode cX6_answersOf 15 = .ok (.if_icmp .ge 51, 3) := by decide +kernel
theorem dX6_answersOf_18 : decode cX6_answersOf 18 = .ok (.iload_n 3, 1) := by decide +kernel
theorem dX6_answersOf_19 : decode cX6_answersOf 19 = .ok (.aload_n 0, 1) := by decide +kernel
theorem dX6_answersOf_20 : decode cX6_answersOf 20 = .ok (.getfield 7, 3) := by decide +kernel
theorem dX6_answersOf_23 : decode cX6_answersOf 23 = .ok (.iload 4, 2) := by decide +kernel
theorem dX6_answersOf_25 : decode cX6_answersOf 25 = .ok (.iconst 0, 1) := by decide +kernel
theorem dX6_answersOf_26 : decode cX6_answersOf 26 = .ok (.invokestatic 52, 3) := by decide +kernel
theorem dX6_answersOf_29 : decode cX6_answersOf 29 = .ok (.iaload, 1) := by decide +kernel
theorem dX6_answersOf_30 : decode cX6_answersOf 30 = .ok (.iload_n 1, 1) := by decide +kernel
theorem dX6_answersOf_31 : decode cX6_answersOf 31 = .ok (.if_icmp .ne 26, 3) := by decide +kernel
theorem dX6_answersOf_34 : decode cX6_answersOf 34 = .ok (.iload_n 2, 1) := by decide +kernel
theorem dX6_answersOf_35 : decode cX6_answersOf 35 = .ok (.ifCond .lt 18, 3) := by decide +kernel
theorem dX6_answersOf_38 : decode cX6_answersOf 38 = .ok (.aload_n 0, 1) := by decide +kernel
theorem dX6_answersOf_39 : decode cX6_answersOf 39 = .ok (.getfield 7, 3) := by decide +kernel
theorem dX6_answersOf_42 : decode cX6_answersOf 42 = .ok (.iload 4, 2) := by decide +kernel
theorem dX6_answersOf_44 : decode cX6_answersOf 44 = .ok (.iconst 4, 1) := by decide +kernel
theorem dX6_answersOf_45 : decode cX6_answersOf 45 = .ok (.invokestatic 52, 3) := by decide +kernel
theorem dX6_answersOf_48 : decode cX6_answersOf 48 = .ok (.iaload, 1) := by decide +kernel
theorem dX6_answersOf_49 : decode cX6_answersOf 49 = .ok (.iload_n 2, 1) := by decide +kernel
theorem dX6_answersOf_50 : decode cX6_answersOf 50 = .ok (.if_icmp .ne 7, 3) := by decide +kernel
theorem dX6_answersOf_53 : decode cX6_answersOf 53 = .ok (.iconst 1, 1) := by decide +kernel
theorem dX6_answersOf_54 : decode cX6_answersOf 54 = .ok (.goto 4, 3) := by decide +kernel
theorem dX6_answersOf_57 : decode cX6_answersOf 57 = .ok (.iconst 0, 1) := by decide +kernel
theorem dX6_answersOf_58 : decode cX6_answersOf 58 = .ok (.iadd, 1) := by decide +kernel
theorem dX6_answersOf_59 : decode cX6_answersOf 59 = .ok (.istore_n 3, 1) := by decide +kernel
theorem dX6_answersOf_60 : decode cX6_answersOf 60 = .ok (.iinc 4 1, 3) := by decide +kernel
theorem dX6_answersOf_63 : decode cX6_answersOf 63 = .ok (.goto (-58), 3) := by decide +kernel
theorem dX6_answersOf_66 : decode cX6_answersOf 66 = .ok (.iload_n 3, 1) := by decide +kernel
theorem dX6_answersOf_67 : decode cX6_answersOf 67 = .ok (.ireturn, 1) := by decide +kernel
set_option maxRecDepth 20000 in
theorem ggX6_trader_X6_isTrader : GoodIn wsX6_trader wsX6_isTrader := goodIn_r _ [5, 6, 7, 4, 8] (by decide +kernel) (by decide +kernel)
set_option maxRecDepth 20000 in
theorem gX6_trader_X6_isTrader : GoodIn wsX6_trader (va_wsS RX6 34 yX6_isTrader wsX6_isTrader) := goodIn_app (goodIn_of _ (by decide +kernel)) ggX6_trader_X6_isTrader
set_option maxRecDepth 20000 in
theorem ggX6_trader_X6_riddlesOf : GoodIn wsX6_trader wsX6_riddlesOf := goodIn_r _ [12, 1, 13, 14, 4, 15, 23, 24, 25, 26, 27, 28, 29, 30, 31, 32, 33, 34, 35, 36, 37, 38, 39, 40] (by decide +kernel) (by decide +kernel)
set_option maxRecDepth 20000 in
theorem gX6_trader_X6_riddlesOf : GoodIn wsX6_trader (wsV RX6 170 RX6 yX6_riddlesOf wsX6_riddlesOf) := goodIn_app (goodIn_of _ (by decide +kernel)) ggX6_trader_X6_riddlesOf
set_option maxRecDepth 20000 in
theorem ggX6_trader_X6_answersOf : GoodIn wsX6_trader wsX6_answersOf := goodIn_r _ [19, 1, 20, 21, 4, 22, 23, 24, 25, 26, 27, 28, 29, 30, 31, 32, 33, 34, 35, 36, 37, 38, 39, 40] (by decide +kernel) (by decide +kernel)
set_option maxRecDepth 20000 in
theorem gX6_trader_X6_answersOf : GoodIn wsX6_trader (wsV RX6 173 RX6 yX6_answersOf wsX6_answersOf) := goodIn_app (goodIn_of _ (by decide +kernel)) ggX6_trader_X6_answersOf
theorem dX6_trader_0 : decode cX6_trader 0 = .ok (.iload_n 1, 1) := by decide +kernel
theorem dX6_trader_1 : decode cX6_trader 1 = .ok (.invokestatic 34, 3) := by decide +kernel
theorem dX6_trader_4 : decode cX6_trader 4 = .ok (.ifCond .ne 5, 3) := by decide +kernel
theorem dX6_trader_7 : decode cX6_trader 7 = .ok (.iconst (-1), 1) := by decide +kernel
theorem dX6_trader_8 : decode cX6_trader 8 = .ok (.ireturn, 1) := by decide +kernel
theorem dX6_trader_9 : decode cX6_trader 9 = .ok (.aload_n 0, 1) := by decide +kernel
theorem dX6_trader_10 : decode cX6_trader 10 = .ok (.getfield 7, 3) := by decide +kernel
theorem dX6_trader_13 : decode cX6_trader 13 = .ok (.iconst 0, 1) := by decide +kernel
theorem dX6_trader_14 : decode cX6_trader 14 = .ok (.iload_n 1, 1) := by decide +kernel
theorem dX6_trader_15 : decode cX6_trader 15 = .ok (.iadd, 1) := by decide +kernel
theorem dX6_trader_16 : decode cX6_trader 16 = .ok (.iaload, 1) := by decide +kernel
theorem dX6_trader_17 : decode cX6_trader 17 = .ok (.istore_n 3, 1) := by decide +kernel
theorem dX6_trader_18 : decode cX6_trader 18 = .ok (.iload_n 2, 1) := by decide +kernel
theorem dX6_trader_19 : decode cX6_trader 19 = .ok (.tableswitch 111 0 7 #[45, 56, 66, 73, 80, 87, 94, 101], 45) := by decide +kernel
theorem dX6_trader_64 : decode cX6_trader 64 = .ok (.iload_n 3, 1) := by decide +kernel
theorem dX6_trader_65 : decode cX6_trader 65 = .ok (.ifCond .ge 8, 3) := by decide +kernel
theorem dX6_trader_68 : decode cX6_trader 68 = .ok (.iload_n 3, 1) := by decide +kernel
theorem dX6_trader_69 : decode cX6_trader 69 = .ok (.ineg, 1) := by decide +kernel
theorem dX6_trader_70 : decode cX6_trader 70 = .ok (.goto 4, 3) := by decide +kernel
theorem dX6_trader_73 : decode cX6_trader 73 = .ok (.iconst 0, 1) := by decide +kernel
theorem dX6_trader_74 : decode cX6_trader 74 = .ok (.ireturn, 1) := by decide +kernel
theorem dX6_trader_75 : decode cX6_trader 75 = .ok (.iload_n 3, 1) := by decide +kernel
theorem dX6_trader_76 : decode cX6_trader 76 = .ok (.ifCond .ge 7, 3) := by decide +kernel
theorem dX6_trader_79 : decode cX6_trader 79 = .ok (.iconst 0, 1) := by decide +kernel
theorem dX6_trader_80 : decode cX6_trader 80 = .ok (.goto 4, 3) := by decide +kernel
theorem dX6_trader_83 : decode cX6_trader 83 = .ok (.iload_n 3, 1) := by decide +kernel
theorem dX6_trader_84 : decode cX6_trader 84 = .ok (.ireturn, 1) := by decide +kernel
theorem dX6_trader_85 : decode cX6_trader 85 = .ok (.aload_n 0, 1) := by decide +kernel
theorem dX6_trader_86 : decode cX6_trader 86 = .ok (.iload_n 1, 1) := by decide +kernel
theorem dX6_trader_87 : decode cX6_trader 87 = .ok (.iconst (-1), 1) := by decide +kernel
theorem dX6_trader_88 : decode cX6_trader 88 = .ok (.invokevirtual 170, 3) := by decide +kernel
theorem dX6_trader_91 : decode cX6_trader 91 = .ok (.ireturn, 1) := by decide +kernel
theorem dX6_trader_92 : decode cX6_trader 92 = .ok (.aload_n 0, 1) := by decide +kernel
theorem dX6_trader_93 : decode cX6_trader 93 = .ok (.iload_n 1, 1) := by decide +kernel
theorem dX6_trader_94 : decode cX6_trader 94 = .ok (.iconst 1, 1) := by decide +kernel
theorem dX6_trader_95 : decode cX6_trader 95 = .ok (.invokevirtual 170, 3) := by decide +kernel
theorem dX6_trader_98 : decode cX6_trader 98 = .ok (.ireturn, 1) := by decide +kernel
theorem dX6_trader_99 : decode cX6_trader 99 = .ok (.aload_n 0, 1) := by decide +kernel
theorem dX6_trader_100 : decode cX6_trader 100 = .ok (.iload_n 1, 1) := by decide +kernel
theorem dX6_trader_101 : decode cX6_trader 101 = .ok (.iconst (-1), 1) := by decide +kernel
theorem dX6_trader_102 : decode cX6_trader 102 = .ok (.invokevirtual 173, 3) := by decide +kernel
theorem dX6_trader_105 : decode cX6_trader 105 = .ok (.ireturn, 1) := by decide +kernel
theorem dX6_trader_106 : decode cX6_trader 106 = .ok (.aload_n 0, 1) := by decide +kernel
theorem dX6_trader_107 : decode cX6_trader 107 = .ok (.iload_n 1, 1) := by decide +kernel
theorem dX6_trader_108 : decode cX6_trader 108 = .ok (.iconst 1, 1) := by decide +kernel
theorem dX6_trader_109 : decode cX6_trader 109 = .ok (.invokevirtual 173, 3) := by decide +kernel
theorem dX6_trader_112 : decode cX6_trader 112 = .ok (.ireturn, 1) := by decide +kernel
theorem dX6_trader_113 : decode cX6_trader 113 = .ok (.aload_n 0, 1) := by decide +kernel
theorem dX6_trader_114 : decode cX6_trader 114 = .ok (.iload_n 1, 1) := by decide +kernel
theorem dX6_trader_115 : decode cX6_trader 115 = .ok (.iconst 2, 1) := by decide +kernel
theorem dX6_trader_116 : decode cX6_trader 116 = .ok (.invokevirtual 173, 3) := by decide +kernel
theorem dX6_trader_119 : decode cX6_trader 119 = .ok (.ireturn, 1) := by decide +kernel
theorem dX6_trader_120 : decode cX6_trader 120 = .ok (.aload_n 0, 1) := by decide +kernel
theorem dX6_trader_121 : decode cX6_trader 121 = .ok (.getfield 7, 3) := by decide +kernel
theorem dX6_trader_124 : decode cX6_trader 124 = .ok (.bipush 8, 2) := by decide +kernel
theorem dX6_trader_126 : decode cX6_trader 126 = .ok (.iload_n 1, 1) := by decide +kernel
theorem dX6_trader_127 : decode cX6_trader 127 = .ok (.iadd, 1) := by decide +kernel
theorem dX6_trader_128 : decode cX6_trader 128 = .ok (.iaload, 1) := by decide +kernel
theorem dX6_trader_129 : decode cX6_trader 129 = .ok (.ireturn, 1) := by decide +kernel
theorem dX6_trader_130 : decode cX6_trader 130 = .ok (.bipush (-2), 2) := by decide +kernel
theorem dX6_trader_132 : decode cX6_trader 132 = .ok (.ireturn, 1) := by decide +kernel
set_option maxRecDepth 20000 in
theorem ggX6_answersTo_X6_ofA : GoodIn wsX6_answersTo wsX6_ofA := goodIn_r _ [5] (by decide +kernel) (by decide +kernel)
set_option maxRecDepth 20000 in
theorem gX6_answersTo_X6_ofA : GoodIn wsX6_answersTo (va_wsS RX6 52 yX6_ofA wsX6_ofA) := goodIn_app (goodIn_of _ (by decide +kernel)) ggX6_answersTo_X6_ofA
theorem dX6_answersTo_0 : decode cX6_answersTo 0 = .ok (.iconst 0, 1) := by decide +kernel
theorem dX6_answersTo_1 : decode cX6_answersTo 1 = .ok (.istore_n 2, 1) := by decide +kernel
theorem dX6_answersTo_2 : decode cX6_answersTo 2 = .ok (.iconst 0, 1) := by decide +kernel
theorem dX6_answersTo_3 : decode cX6_answersTo 3 = .ok (.istore_n 3, 1) := by decide +kernel
theorem dX6_answersTo_4 : decode cX6_answersTo 4 = .ok (.iload_n 3, 1) := by decide +kernel
theorem dX6_answersTo_5 : decode cX6_answersTo 5 = .ok (.aload_n 0, 1) := by decide +kernel
theorem dX6_answersTo_6 : decode cX6_answersTo 6 = .ok (.getfield 7, 3) := by decide +kernel
theorem dX6_answersTo_9 : decode cX6_answersTo 9 = .ok (.sipush 484, 3) := by decide +kernel
theorem dX6_answersTo_12 : decode cX6_answersTo 12 = .ok (.iaload, 1) := by decide +kernel
theorem dX6_answersTo_13 : decode cX6_answersTo 13 = .ok (.if_icmp .ge 31, 3) := by decide +kernel
theorem dX6_answersTo_16 : decode cX6_answersTo 16 = .ok (.iload_n 2, 1) := by decide +kernel
theorem dX6_answersTo_17 : decode cX6_answersTo 17 = .ok (.aload_n 0, 1) := by decide +kernel
theorem dX6_answersTo_18 : decode cX6_answersTo 18 = .ok (.getfield 7, 3) := by decide +kernel
theorem dX6_answersTo_21 : decode cX6_answersTo 21 = .ok (.iload_n 3, 1) := by decide +kernel
theorem dX6_answersTo_22 : decode cX6_answersTo 22 = .ok (.iconst 1, 1) := by decide +kernel
theorem dX6_answersTo_23 : decode cX6_answersTo 23 = .ok (.invokestatic 52, 3) := by decide +kernel
theorem dX6_answersTo_26 : decode cX6_answersTo 26 = .ok (.iaload, 1) := by decide +kernel
theorem dX6_answersTo_27 : decode cX6_answersTo 27 = .ok (.iload_n 1, 1) := by decide +kernel
theorem dX6_answersTo_28 : decode cX6_answersTo 28 = .ok (.if_icmp .ne 7, 3) := by decide +kernel
theorem dX6_answersTo_31 : decode cX6_answersTo 31 = .ok (.iconst 1, 1) := by decide +kernel
theorem dX6_answersTo_32 : decode cX6_answersTo 32 = .ok (.goto 4, 3) := by decide +kernel
theorem dX6_answersTo_35 : decode cX6_answersTo 35 = .ok (.iconst 0, 1) := by decide +kernel
theorem dX6_answersTo_36 : decode cX6_answersTo 36 = .ok (.iadd, 1) := by decide +kernel
theorem dX6_answersTo_37 : decode cX6_answersTo 37 = .ok (.istore_n 2, 1) := by decide +kernel
theorem dX6_answersTo_38 : decode cX6_answersTo 38 = .ok (.iinc 3 1, 3) := by decide +kernel
theorem dX6_answersTo_41 : decode cX6_answersTo 41 = .ok (.goto (-37), 3) := by decide +kernel
theorem dX6_answersTo_44 : decode cX6_answersTo 44 = .ok (.iload_n 2, 1) := by decide +kernel
theorem dX6_answersTo_45 : decode cX6_answersTo 45 = .ok (.ireturn, 1) := by decide +kernel
set_option maxRecDepth 20000 in
theorem ggX6_riddle_X6_isRiddle : GoodIn wsX6_riddle wsX6_isRiddle := goodIn_r _ [6, 1, 7, 8, 5, 9, 24, 25, 26, 27, 28, 29, 30, 31, 32, 33, 34, 35, 36, 37, 38, 39, 40, 41] (by decide +kernel) (by decide +kernel)
set_option maxRecDepth 20000 in
theorem gX6_riddle_X6_isRiddle : GoodIn wsX6_riddle (wsV RX6 55 RX6 yX6_isRiddle wsX6_isRiddle) := goodIn_app (goodIn_of _ (by decide +kernel)) ggX6_riddle_X6_isRiddle
set_option maxRecDepth 20000 in
theorem ggX6_riddle_X6_ofR : GoodIn wsX6_riddle wsX6_ofR := goodIn_r _ [12] (by decide +kernel) (by decide +kernel)
set_option maxRecDepth 20000 in
theorem gX6_riddle_X6_ofR : GoodIn wsX6_riddle (va_wsS RX6 38 yX6_ofR wsX6_ofR) := goodIn_app (goodIn_of _ (by decide +kernel)) ggX6_riddle_X6_ofR
set_option maxRecDepth 20000 in
theorem ggX6_riddle_X6_answersTo : GoodIn wsX6_riddle wsX6_answersTo := goodIn_r _ [16, 1, 17, 18, 5, 19, 24, 25, 26, 27, 28, 29, 30, 31, 32, 33, 34, 35, 36, 37, 38, 39, 40, 41] (by decide +kernel) (by decide +kernel)
set_option maxRecDepth 20000 in
theorem gX6_riddle_X6_answersTo : GoodIn wsX6_riddle (wsV RX6 176 RX6 yX6_answersTo wsX6_answersTo) := goodIn_app (goodIn_of _ (by decide +kernel)) ggX6_riddle_X6_answersTo
set_option maxRecDepth 20000 in
theorem ggX6_riddle_X6_waiting : GoodIn wsX6_riddle wsX6_waiting := goodIn_r _ [23, 1, 17, 18, 5, 19, 24, 25, 26, 27, 28, 29, 30, 31, 32, 33, 34, 35, 36, 37, 38, 39, 40, 41] (by decide +kernel) (by decide +kernel)
set_option maxRecDepth 20000 in
theorem gX6_riddle_X6_waiting : GoodIn wsX6_riddle (wsV RX6 58 RX6 yX6_waiting wsX6_waiting) := goodIn_app (goodIn_of _ (by decide +kernel)) ggX6_riddle_X6_waiting
theorem dX6_riddle_0 : decode cX6_riddle 0 = .ok (.aload_n 0, 1) := by decide +kernel
theorem dX6_riddle_1 : decode cX6_riddle 1 = .ok (.iload_n 1, 1) := by decide +kernel
theorem dX6_riddle_2 : decode cX6_riddle 2 = .ok (.invokevirtual 55, 3) := by decide +kernel
theorem dX6_riddle_5 : decode cX6_riddle 5 = .ok (.ifCond .ne 5, 3) := by decide +kernel
theorem dX6_riddle_8 : decode cX6_riddle 8 = .ok (.iconst (-1), 1) := by decide +kernel
theorem dX6_riddle_9 : decode cX6_riddle 9 = .ok (.ireturn, 1) := by decide +kernel
theorem dX6_riddle_10 : decode cX6_riddle 10 = .ok (.iload_n 2, 1) := by decide +kernel
theorem dX6_riddle_11 : decode cX6_riddle 11 = .ok (.tableswitch 95 0 6 #[41, 41, 41, 41, 52, 58, 64], 41) := by decide +kernel
theorem dX6_riddle_52 : decode cX6_riddle 52 = .ok (.aload_n 0, 1) := by decide +kernel
theorem dX6_riddle_53 : decode cX6_riddle 53 = .ok (.getfield 7, 3) := by decide +kernel
theorem dX6_riddle_56 : decode cX6_riddle 56 = .ok (.iload_n 1, 1) := by decide +kernel
theorem dX6_riddle_57 : decode cX6_riddle 57 = .ok (.iload_n 2, 1) := by decide +kernel
theorem dX6_riddle_58 : decode cX6_riddle 58 = .ok (.invokestatic 38, 3) := by decide +kernel
theorem dX6_riddle_61 : decode cX6_riddle 61 = .ok (.iaload, 1) := by decide +kernel
theorem dX6_riddle_62 : decode cX6_riddle 62 = .ok (.ireturn, 1) := by decide +kernel
theorem dX6_riddle_63 : decode cX6_riddle 63 = .ok (.aload_n 0, 1) := by decide +kernel
theorem dX6_riddle_64 : decode cX6_riddle 64 = .ok (.iload_n 1, 1) := by decide +kernel
theorem dX6_riddle_65 : decode cX6_riddle 65 = .ok (.invokevirtual 176, 3) := by decide +kernel
theorem dX6_riddle_68 : decode cX6_riddle 68 = .ok (.ireturn, 1) := by decide +kernel
theorem dX6_riddle_69 : decode cX6_riddle 69 = .ok (.aload_n 0, 1) := by decide +kernel
theorem dX6_riddle_70 : decode cX6_riddle 70 = .ok (.iload_n 1, 1) := by decide +kernel
theorem dX6_riddle_71 : decode cX6_riddle 71 = .ok (.invokevirtual 58, 3) := by decide +kernel
theorem dX6_riddle_74 : decode cX6_riddle 74 = .ok (.ireturn, 1) := by decide +kernel
theorem dX6_riddle_75 : decode cX6_riddle 75 = .ok (.aload_n 0, 1) := by decide +kernel
theorem dX6_riddle_76 : decode cX6_riddle 76 = .ok (.getfield 7, 3) := by decide +kernel
theorem dX6_riddle_79 : decode cX6_riddle 79 = .ok (.iload_n 1, 1) := by decide +kernel
theorem dX6_riddle_80 : decode cX6_riddle 80 = .ok (.iconst 4, 1) := by decide +kernel
theorem dX6_riddle_81 : decode cX6_riddle 81 = .ok (.invokestatic 38, 3) := by decide +kernel
theorem dX6_riddle_84 : decode cX6_riddle 84 = .ok (.iaload, 1) := by decide +kernel
theorem dX6_riddle_85 : decode cX6_riddle 85 = .ok (.ifCond .ne 8, 3) := by decide +kernel
theorem dX6_riddle_88 : decode cX6_riddle 88 = .ok (.bipush (-5), 2) := by decide +kernel
theorem dX6_riddle_90 : decode cX6_riddle 90 = .ok (.goto 15, 3) := by decide +kernel
theorem dX6_riddle_93 : decode cX6_riddle 93 = .ok (.aload_n 0, 1) := by decide +kernel
theorem dX6_riddle_94 : decode cX6_riddle 94 = .ok (.getfield 7, 3) := by decide +kernel
theorem dX6_riddle_97 : decode cX6_riddle 97 = .ok (.iload_n 1, 1) := by decide +kernel
theorem dX6_riddle_98 : decode cX6_riddle 98 = .ok (.iconst 4, 1) := by decide +kernel
theorem dX6_riddle_99 : decode cX6_riddle 99 = .ok (.invokestatic 38, 3) := by decide +kernel
theorem dX6_riddle_102 : decode cX6_riddle 102 = .ok (.iaload, 1) := by decide +kernel
theorem dX6_riddle_103 : decode cX6_riddle 103 = .ok (.iconst 1, 1) := by decide +kernel
theorem dX6_riddle_104 : decode cX6_riddle 104 = .ok (.isub, 1) := by decide +kernel
theorem dX6_riddle_105 : decode cX6_riddle 105 = .ok (.ireturn, 1) := by decide +kernel
theorem dX6_riddle_106 : decode cX6_riddle 106 = .ok (.bipush (-2), 2) := by decide +kernel
theorem dX6_riddle_108 : decode cX6_riddle 108 = .ok (.ireturn, 1) := by decide +kernel
theorem dX6_place_0 : decode cX6_place 0 = .ok (.bipush (-5), 2) := by decide +kernel
theorem dX6_place_2 : decode cX6_place 2 = .ok (.istore_n 2, 1) := by decide +kernel
theorem dX6_place_3 : decode cX6_place 3 = .ok (.iconst 0, 1) := by decide +kernel
theorem dX6_place_4 : decode cX6_place 4 = .ok (.istore_n 3, 1) := by decide +kernel
theorem dX6_place_5 : decode cX6_place 5 = .ok (.iload_n 3, 1) := by decide +kernel
theorem dX6_place_6 : decode cX6_place 6 = .ok (.aload_n 0, 1) := by decide +kernel
theorem dX6_place_7 : decode cX6_place 7 = .ok (.getfield 7, 3) := by decide +kernel
theorem dX6_place_10 : decode cX6_place 10 = .ok (.sipush 476, 3) := by decide +kernel
theorem dX6_place_13 : decode cX6_place 13 = .ok (.iaload, 1) := by decide +kernel
theorem dX6_place_14 : decode cX6_place 14 = .ok (.if_icmp .ge 29, 3) := by decide +kernel
theorem dX6_place_17 : decode cX6_place 17 = .ok (.aload_n 0, 1) := by decide +kernel
theorem dX6_place_18 : decode cX6_place 18 = .ok (.getfield 7, 3) := by decide +kernel
theorem dX6_place_21 : decode cX6_place 21 = .ok (.sipush 436, 3) := by decide +kernel
theorem dX6_place_24 : decode cX6_place 24 = .ok (.iload_n 3, 1) := by decide +kernel
theorem dX6_place_25 : decode cX6_place 25 = .ok (.iadd, 1) := by decide +kernel
theorem dX6_place_26 : decode cX6_place 26 = .ok (.iaload, 1) := by decide +kernel
theorem dX6_place_27 : decode cX6_place 27 = .ok (.iload_n 1, 1) := by decide +kernel
theorem dX6_place_28 : decode cX6_place 28 = .ok (.if_icmp .ne 7, 3) := by decide +kernel
theorem dX6_place_31 : decode cX6_place 31 = .ok (.iload_n 3, 1) := by decide +kernel
theorem dX6_place_32 : decode cX6_place 32 = .ok (.goto 4, 3) := by decide +kernel
theorem dX6_place_35 : decode cX6_place 35 = .ok (.iload_n 2, 1) := by decide +kernel
theorem dX6_place_36 : decode cX6_place 36 = .ok (.istore_n 2, 1) := by decide +kernel
theorem dX6_place_37 : decode cX6_place 37 = .ok (.iinc 3 1, 3) := by decide +kernel
theorem dX6_place_40 : decode cX6_place 40 = .ok (.goto (-35), 3) := by decide +kernel
theorem dX6_place_43 : decode cX6_place 43 = .ok (.iload_n 2, 1) := by decide +kernel
theorem dX6_place_44 : decode cX6_place 44 = .ok (.ireturn, 1) := by decide +kernel
set_option maxRecDepth 20000 in
theorem ggX6_answer_X6_isAnswer : GoodIn wsX6_answer wsX6_isAnswer := goodIn_r _ [6, 1, 7, 8, 5, 9, 17, 18, 19, 20, 21, 22, 23, 24, 25, 26, 27, 28, 29, 30, 31, 32, 33, 34] (by decide +kernel) (by decide +kernel)
set_option maxRecDepth 20000 in
theorem gX6_answer_X6_isAnswer : GoodIn wsX6_answer (wsV RX6 179 RX6 yX6_isAnswer wsX6_isAnswer) := goodIn_app (goodIn_of _ (by decide +kernel)) ggX6_answer_X6_isAnswer
set_option maxRecDepth 20000 in
theorem ggX6_answer_X6_in : GoodIn wsX6_answer wsX6_in := goodIn_r _ [9] (by decide +kernel) (by decide +kernel)
set_option maxRecDepth 20000 in
theorem gX6_answer_X6_in : GoodIn wsX6_answer (va_wsS RX6 26 yX6_in wsX6_in) := goodIn_app (goodIn_of _ (by decide +kernel)) ggX6_answer_X6_in
set_option maxRecDepth 20000 in
theorem ggX6_answer_X6_place : GoodIn wsX6_answer wsX6_place := goodIn_r _ [13, 1, 17, 18, 19, 20, 21, 22, 23, 24, 25, 26, 27, 28, 29, 30, 31, 32, 33, 34] (by decide +kernel) (by decide +kernel)
set_option maxRecDepth 20000 in
theorem gX6_answer_X6_place : GoodIn wsX6_answer (wsV RX6 182 RX6 yX6_place wsX6_place) := goodIn_app (goodIn_of _ (by decide +kernel)) ggX6_answer_X6_place
set_option maxRecDepth 20000 in
theorem ggX6_answer_X6_ofA : GoodIn wsX6_answer wsX6_ofA := goodIn_r _ [16] (by decide +kernel) (by decide +kernel)
set_option maxRecDepth 20000 in
theorem gX6_answer_X6_ofA : GoodIn wsX6_answer (va_wsS RX6 52 yX6_ofA wsX6_ofA) := goodIn_app (goodIn_of _ (by decide +kernel)) ggX6_answer_X6_ofA
theorem dX6_answer_0 : decode cX6_answer 0 = .ok (.aload_n 0, 1) := by decide +kernel
theorem dX6_answer_1 : decode cX6_answer 1 = .ok (.iload_n 1, 1) := by decide +kernel
theorem dX6_answer_2 : decode cX6_answer 2 = .ok (.invokevirtual 179, 3) := by decide +kernel
theorem dX6_answer_5 : decode cX6_answer 5 = .ok (.ifCond .ne 5, 3) := by decide +kernel
theorem dX6_answer_8 : decode cX6_answer 8 = .ok (.iconst (-1), 1) := by decide +kernel
theorem dX6_answer_9 : decode cX6_answer 9 = .ok (.ireturn, 1) := by decide +kernel
theorem dX6_answer_10 : decode cX6_answer 10 = .ok (.iload_n 2, 1) := by decide +kernel
theorem dX6_answer_11 : decode cX6_answer 11 = .ok (.iconst 0, 1) := by decide +kernel
theorem dX6_answer_12 : decode cX6_answer 12 = .ok (.bipush 8, 2) := by decide +kernel
theorem dX6_answer_14 : decode cX6_answer 14 = .ok (.invokestatic 26, 3) := by decide +kernel
theorem dX6_answer_17 : decode cX6_answer 17 = .ok (.ifCond .ne 8, 3) := by decide +kernel
theorem dX6_answer_20 : decode cX6_answer 20 = .ok (.bipush (-2), 2) := by decide +kernel
theorem dX6_answer_22 : decode cX6_answer 22 = .ok (.goto 27, 3) := by decide +kernel
theorem dX6_answer_25 : decode cX6_answer 25 = .ok (.iload_n 2, 1) := by decide +kernel
theorem dX6_answer_26 : decode cX6_answer 26 = .ok (.bipush 8, 2) := by decide +kernel
theorem dX6_answer_28 : decode cX6_answer 28 = .ok (.if_icmp .ne 11, 3) := by decide +kernel
theorem dX6_answer_31 : decode cX6_answer 31 = .ok (.aload_n 0, 1) := by decide +kernel
theorem dX6_answer_32 : decode cX6_answer 32 = .ok (.iload_n 1, 1) := by decide +kernel
theorem dX6_answer_33 : decode cX6_answer 33 = .ok (.invokevirtual 182, 3) := by decide +kernel
theorem dX6_answer_36 : decode cX6_answer 36 = .ok (.goto 13, 3) := by decide +kernel
theorem dX6_answer_39 : decode cX6_answer 39 = .ok (.aload_n 0, 1) := by decide +kernel
theorem dX6_answer_40 : decode cX6_answer 40 = .ok (.getfield 7, 3) := by decide +kernel
theorem dX6_answer_43 : decode cX6_answer 43 = .ok (.iload_n 1, 1) := by decide +kernel
theorem dX6_answer_44 : decode cX6_answer 44 = .ok (.iload_n 2, 1) := by decide +kernel
theorem dX6_answer_45 : decode cX6_answer 45 = .ok (.invokestatic 52, 3) := by decide +kernel
theorem dX6_answer_48 : decode cX6_answer 48 = .ok (.iaload, 1) := by decide +kernel
theorem dX6_answer_49 : decode cX6_answer 49 = .ok (.ireturn, 1) := by decide +kernel
theorem dX6_waits_0 : decode cX6_waits 0 = .ok (.iload_n 1, 1) := by decide +kernel
theorem dX6_waits_1 : decode cX6_waits 1 = .ok (.ifCond .ge 8, 3) := by decide +kernel
theorem dX6_waits_4 : decode cX6_waits 4 = .ok (.bipush (-2), 2) := by decide +kernel
theorem dX6_waits_6 : decode cX6_waits 6 = .ok (.goto 30, 3) := by decide +kernel
theorem dX6_waits_9 : decode cX6_waits 9 = .ok (.iload_n 1, 1) := by decide +kernel
theorem dX6_waits_10 : decode cX6_waits 10 = .ok (.aload_n 0, 1) := by decide +kernel
theorem dX6_waits_11 : decode cX6_waits 11 = .ok (.getfield 7, 3) := by decide +kernel
theorem dX6_waits_14 : decode cX6_waits 14 = .ok (.sipush 476, 3) := by decide +kernel
theorem dX6_waits_17 : decode cX6_waits 17 = .ok (.iaload, 1) := by decide +kernel
theorem dX6_waits_18 : decode cX6_waits 18 = .ok (.if_icmp .ge 16, 3) := by decide +kernel
theorem dX6_waits_21 : decode cX6_waits 21 = .ok (.aload_n 0, 1) := by decide +kernel
theorem dX6_waits_22 : decode cX6_waits 22 = .ok (.getfield 7, 3) := by decide +kernel
theorem dX6_waits_25 : decode cX6_waits 25 = .ok (.sipush 436, 3) := by decide +kernel
theorem dX6_waits_28 : decode cX6_waits 28 = .ok (.iload_n 1, 1) := by decide +kernel
theorem dX6_waits_29 : decode cX6_waits 29 = .ok (.iadd, 1) := by decide +kernel
theorem dX6_waits_30 : decode cX6_waits 30 = .ok (.iaload, 1) := by decide +kernel
theorem dX6_waits_31 : decode cX6_waits 31 = .ok (.goto 5, 3) := by decide +kernel
theorem dX6_waits_34 : decode cX6_waits 34 = .ok (.bipush (-5), 2) := by decide +kernel
theorem dX6_waits_36 : decode cX6_waits 36 = .ok (.ireturn, 1) := by decide +kernel
set_option maxRecDepth 20000 in
theorem ggX6_weigh_X6_in : GoodIn wsX6_weigh wsX6_in := goodIn_r _ [4] (by decide +kernel) (by decide +kernel)
set_option maxRecDepth 20000 in
theorem gX6_weigh_X6_in : GoodIn wsX6_weigh (va_wsS RX6 26 yX6_in wsX6_in) := goodIn_app (goodIn_of _ (by decide +kernel)) ggX6_weigh_X6_in
set_option maxRecDepth 20000 in
theorem ggX6_weigh_X6_tells : GoodIn wsX6_weigh wsX6_tells := goodIn_r _ [8, 9, 10, 11, 12, 13, 14, 15, 16, 17, 18, 19, 20, 21, 22, 23, 24, 25, 26, 27] (by decide +kernel) (by decide +kernel)
set_option maxRecDepth 20000 in
theorem gX6_weigh_X6_tells : GoodIn wsX6_weigh (wsV RX6 80 RX6 yX6_tells wsX6_tells) := goodIn_app (goodIn_of _ (by decide +kernel)) ggX6_weigh_X6_tells
theorem dX6_weigh_0 : decode cX6_weigh 0 = .ok (.iload_n 1, 1) := by decide +kernel
theorem dX6_weigh_1 : decode cX6_weigh 1 = .ok (.iconst 0, 1) := by decide +kernel
theorem dX6_weigh_2 : decode cX6_weigh 2 = .ok (.iconst 1, 1) := by decide +kernel
theorem dX6_weigh_3 : decode cX6_weigh 3 = .ok (.invokestatic 26, 3) := by decide +kernel
theorem dX6_weigh_6 : decode cX6_weigh 6 = .ok (.ifCond .ne 7, 3) := by decide +kernel
theorem dX6_weigh_9 : decode cX6_weigh 9 = .ok (.iconst (-1), 1) := by decide +kernel
theorem dX6_weigh_10 : decode cX6_weigh 10 = .ok (.goto 24, 3) := by decide +kernel
theorem dX6_weigh_13 : decode cX6_weigh 13 = .ok (.iload_n 2, 1) := by decide +kernel
theorem dX6_weigh_14 : decode cX6_weigh 14 = .ok (.iconst 1, 1) := by decide +kernel
theorem dX6_weigh_15 : decode cX6_weigh 15 = .ok (.bipush 99, 2) := by decide +kernel
theorem dX6_weigh_17 : decode cX6_weigh 17 = .ok (.invokestatic 26, 3) := by decide +kernel
theorem dX6_weigh_20 : decode cX6_weigh 20 = .ok (.ifCond .ne 8, 3) := by decide +kernel
theorem dX6_weigh_23 : decode cX6_weigh 23 = .ok (.bipush (-2), 2) := by decide +kernel
theorem dX6_weigh_25 : decode cX6_weigh 25 = .ok (.goto 9, 3) := by decide +kernel
theorem dX6_weigh_28 : decode cX6_weigh 28 = .ok (.aload_n 0, 1) := by decide +kernel
theorem dX6_weigh_29 : decode cX6_weigh 29 = .ok (.iload_n 1, 1) := by decide +kernel
theorem dX6_weigh_30 : decode cX6_weigh 30 = .ok (.iload_n 2, 1) := by decide +kernel
theorem dX6_weigh_31 : decode cX6_weigh 31 = .ok (.invokevirtual 80, 3) := by decide +kernel
theorem dX6_weigh_34 : decode cX6_weigh 34 = .ok (.ireturn, 1) := by decide +kernel
set_option maxRecDepth 20000 in
theorem ggX6_reason_X6_isAnswer : GoodIn wsX6_reason wsX6_isAnswer := goodIn_r _ [6, 1, 7, 8, 5, 9, 31, 32, 33, 34, 35, 36, 37, 38, 39, 40, 41, 42, 43, 44, 45, 46, 47, 48] (by decide +kernel) (by decide +kernel)
set_option maxRecDepth 20000 in
theorem gX6_reason_X6_isAnswer : GoodIn wsX6_reason (wsV RX6 179 RX6 yX6_isAnswer wsX6_isAnswer) := goodIn_app (goodIn_of _ (by decide +kernel)) ggX6_reason_X6_isAnswer
set_option maxRecDepth 20000 in
theorem ggX6_reason_X6_ofA : GoodIn wsX6_reason wsX6_ofA := goodIn_r _ [12] (by decide +kernel) (by decide +kernel)
set_option maxRecDepth 20000 in
theorem gX6_reason_X6_ofA : GoodIn wsX6_reason (va_wsS RX6 52 yX6_ofA wsX6_ofA) := goodIn_app (goodIn_of _ (by decide +kernel)) ggX6_reason_X6_ofA
set_option maxRecDepth 20000 in
theorem ggX6_reason_X6_tells : GoodIn wsX6_reason wsX6_tells := goodIn_r _ [16, 1, 31, 32, 33, 34, 35, 36, 37, 38, 39, 40, 41, 42, 43, 44, 45, 46, 47, 48] (by decide +kernel) (by decide +kernel)
set_option maxRecDepth 20000 in
theorem gX6_reason_X6_tells : GoodIn wsX6_reason (wsV RX6 80 RX6 yX6_tells wsX6_tells) := goodIn_app (goodIn_of _ (by decide +kernel)) ggX6_reason_X6_tells
set_option maxRecDepth 20000 in
theorem ggX6_reason_X6_ofR : GoodIn wsX6_reason wsX6_ofR := goodIn_r _ [19] (by decide +kernel) (by decide +kernel)
set_option maxRecDepth 20000 in
theorem gX6_reason_X6_ofR : GoodIn wsX6_reason (va_wsS RX6 38 yX6_ofR wsX6_ofR) := goodIn_app (goodIn_of _ (by decide +kernel)) ggX6_reason_X6_ofR
set_option maxRecDepth 20000 in
theorem ggX6_reason_X6_size : GoodIn wsX6_reason wsX6_size := goodIn_r _ [22] (by decide +kernel) (by decide +kernel)
set_option maxRecDepth 20000 in
theorem gX6_reason_X6_size : GoodIn wsX6_reason (va_wsS RX6 73 yX6_size wsX6_size) := goodIn_app (goodIn_of _ (by decide +kernel)) ggX6_reason_X6_size
set_option maxRecDepth 20000 in
theorem ggX6_reason_X6_payment : GoodIn wsX6_reason wsX6_payment := goodIn_r _ [26, 1, 10, 11, 5, 12, 17, 18, 19, 31, 32, 33, 34, 35, 36, 37, 38, 39, 40, 41, 42, 43, 44, 45, 46, 47, 48] (by decide +kernel) (by decide +kernel)
set_option maxRecDepth 20000 in
theorem gX6_reason_X6_payment : GoodIn wsX6_reason (wsV RX6 86 RX6 yX6_payment wsX6_payment) := goodIn_app (goodIn_of _ (by decide +kernel)) ggX6_reason_X6_payment
set_option maxRecDepth 20000 in
theorem ggX6_reason_X6_canPay : GoodIn wsX6_reason wsX6_canPay := goodIn_r _ [30, 1, 10, 11, 5, 12, 17, 18, 19, 31, 32, 33, 34, 35, 36, 37, 38, 39, 40, 41, 42, 43, 44, 45, 46, 47, 48] (by decide +kernel) (by decide +kernel)
set_option maxRecDepth 20000 in
theorem gX6_reason_X6_canPay : GoodIn wsX6_reason (wsV RX6 89 RX6 yX6_canPay wsX6_canPay) := goodIn_app (goodIn_of _ (by decide +kernel)) ggX6_reason_X6_canPay
theorem dX6_reason_0 : decode cX6_reason 0 = .ok (.aload_n 0, 1) := by decide +kernel
theorem dX6_reason_1 : decode cX6_reason 1 = .ok (.iload_n 1, 1) := by decide +kernel
theorem dX6_reason_2 : decode cX6_reason 2 = .ok (.invokevirtual 179, 3) := by decide +kernel
theorem dX6_reason_5 : decode cX6_reason 5 = .ok (.ifCond .ne 5, 3) := by decide +kernel
theorem dX6_reason_8 : decode cX6_reason 8 = .ok (.iconst (-1), 1) := by decide +kernel
theorem dX6_reason_9 : decode cX6_reason 9 = .ok (.ireturn, 1) := by decide +kernel
theorem dX6_reason_10 : decode cX6_reason 10 = .ok (.aload_n 0, 1) := by decide +kernel
theorem dX6_reason_11 : decode cX6_reason 11 = .ok (.getfield 7, 3) := by decide +kernel
theorem dX6_reason_14 : decode cX6_reason 14 = .ok (.iload_n 1, 1) := by decide +kernel
theorem dX6_reason_15 : decode cX6_reason 15 = .ok (.iconst 4, 1) := by decide +kernel
theorem dX6_reason_16 : decode cX6_reason 16 = .ok (.invokestatic 52, 3) := by decide +kernel
theorem dX6_reason_19 : decode cX6_reason 19 = .ok (.iaload, 1) := by decide +kernel
theorem dX6_reason_20 : decode cX6_reason 20 = .ok (.ifCond .eq 6, 3) := by decide +kernel
theorem dX6_reason_23 : decode cX6_reason 23 = .ok (.bipush (-4), 2) := by decide +kernel
theorem dX6_reason_25 : decode cX6_reason 25 = .ok (.ireturn, 1) := by decide +kernel
theorem dX6_reason_26 : decode cX6_reason 26 = .ok (.aload_n 0, 1) := by decide +kernel
theorem dX6_reason_27 : decode cX6_reason 27 = .ok (.getfield 7, 3) := by decide +kernel
theorem dX6_reason_30 : decode cX6_reason 30 = .ok (.iload_n 1, 1) := by decide +kernel
theorem dX6_reason_31 : decode cX6_reason 31 = .ok (.iconst 1, 1) := by decide +kernel
theorem dX6_reason_32 : decode cX6_reason 32 = .ok (.invokestatic 52, 3) := by decide +kernel
theorem dX6_reason_35 : decode cX6_reason 35 = .ok (.iaload, 1) := by decide +kernel
theorem dX6_reason_36 : decode cX6_reason 36 = .ok (.istore_n 2, 1) := by decide +kernel
theorem dX6_reason_37 : decode cX6_reason 37 = .ok (.aload_n 0, 1) := by decide +kernel
theorem dX6_reason_38 : decode cX6_reason 38 = .ok (.iconst 0, 1) := by decide +kernel
theorem dX6_reason_39 : decode cX6_reason 39 = .ok (.aload_n 0, 1) := by decide +kernel
theorem dX6_reason_40 : decode cX6_reason 40 = .ok (.getfield 7, 3) := by decide +kernel
theorem dX6_reason_43 : decode cX6_reason 43 = .ok (.iload_n 1, 1) := by decide +kernel
theorem dX6_reason_44 : decode cX6_reason 44 = .ok (.iconst 3, 1) := by decide +kernel
theorem dX6_reason_45 : decode cX6_reason 45 = .ok (.invokestatic 52, 3) := by decide +kernel
theorem dX6_reason_48 : decode cX6_reason 48 = .ok (.iaload, 1) := by decide +kernel
theorem dX6_reason_49 : decode cX6_reason 49 = .ok (.invokevirtual 80, 3) := by decide +kernel
theorem dX6_reason_52 : decode cX6_reason 52 = .ok (.istore_n 3, 1) := by decide +kernel
theorem dX6_reason_53 : decode cX6_reason 53 = .ok (.aload_n 0, 1) := by decide +kernel
theorem dX6_reason_54 : decode cX6_reason 54 = .ok (.iconst 1, 1) := by decide +kernel
theorem dX6_reason_55 : decode cX6_reason 55 = .ok (.aload_n 0, 1) := by decide +kernel
theorem dX6_reason_56 : decode cX6_reason 56 = .ok (.getfield 7, 3) := by decide +kernel
theorem dX6_reason_59 : decode cX6_reason 59 = .ok (.iload_n 1, 1) := by decide +kernel
theorem dX6_reason_60 : decode cX6_reason 60 = .ok (.iconst 3, 1) := by decide +kernel
theorem dX6_reason_61 : decode cX6_reason 61 = .ok (.invokestatic 52, 3) := by decide +kernel
theorem dX6_reason_64 : decode cX6_reason 64 = .ok (.iaload, 1) := by decide +kernel
theorem dX6_reason_65 : decode cX6_reason 65 = .ok (.invokevirtual 80, 3) := by decide +kernel
theorem dX6_reason_68 : decode cX6_reason 68 = .ok (.istore 4, 2) := by decide +kernel
theorem dX6_reason_70 : decode cX6_reason 70 = .ok (.aload_n 0, 1) := by decide +kernel
theorem dX6_reason_71 : decode cX6_reason 71 = .ok (.getfield 7, 3) := by decide +kernel
theorem dX6_reason_74 : decode cX6_reason 74 = .ok (.iload_n 2, 1) := by decide +kernel
theorem dX6_reason_75 : decode cX6_reason 75 = .ok (.iconst 3, 1) := by decide +kernel
theorem dX6_reason_76 : decode cX6_reason 76 = .ok (.invokestatic 38, 3) := by decide +kernel
theorem dX6_reason_79 : decode cX6_reason 79 = .ok (.iaload, 1) := by decide +kernel
theorem dX6_reason_80 : decode cX6_reason 80 = .ok (.ifCond .eq 7, 3) := by decide +kernel
theorem dX6_reason_83 : decode cX6_reason 83 = .ok (.iconst 1, 1) := by decide +kernel
theorem dX6_reason_84 : decode cX6_reason 84 = .ok (.goto 73, 3) := by decide +kernel
theorem dX6_reason_87 : decode cX6_reason 87 = .ok (.aload_n 0, 1) := by decide +kernel
theorem dX6_reason_88 : decode cX6_reason 88 = .ok (.getfield 7, 3) := by decide +kernel
theorem dX6_reason_91 : decode cX6_reason 91 = .ok (.iload_n 2, 1) := by decide +kernel
theorem dX6_reason_92 : decode cX6_reason 92 = .ok (.iconst 2, 1) := by decide +kernel
theorem dX6_reason_93 : decode cX6_reason 93 = .ok (.invokestatic 38, 3) := by decide +kernel
theorem dX6_reason_96 : decode cX6_reason 96 = .ok (.iaload, 1) := by decide +kernel
theorem dX6_reason_97 : decode cX6_reason 97 = .ok (.aload_n 0, 1) := by decide +kernel
theorem dX6_reason_98 : decode cX6_reason 98 = .ok (.getfield 7, 3) := by decide +kernel
theorem dX6_reason_101 : decode cX6_reason 101 = .ok (.iload_n 1, 1) := by decide +kernel
theorem dX6_reason_102 : decode cX6_reason 102 = .ok (.iconst 2, 1) := by decide +kernel
theorem dX6_reason_103 : decode cX6_reason 103 = .ok (.invokestatic 52, 3) := by decide +kernel
theorem dX6_reason_106 : decode cX6_reason 106 = .ok (.iaload, 1) := by decide +kernel
theorem dX6_reason_107 : decode cX6_reason 107 = .ok (.if_icmp .eq 7, 3) := by decide +kernel
theorem dX6_reason_110 : decode cX6_reason 110 = .ok (.iconst 2, 1) := by decide +kernel
theorem dX6_reason_111 : decode cX6_reason 111 = .ok (.goto 46, 3) := by decide +kernel
theorem dX6_reason_114 : decode cX6_reason 114 = .ok (.iload_n 3, 1) := by decide +kernel
theorem dX6_reason_115 : decode cX6_reason 115 = .ok (.iload 4, 2) := by decide +kernel
theorem dX6_reason_117 : decode cX6_reason 117 = .ok (.isub, 1) := by decide +kernel
theorem dX6_reason_118 : decode cX6_reason 118 = .ok (.invokestatic 73, 3) := by decide +kernel
theorem dX6_reason_121 : decode cX6_reason 121 = .ok (.aload_n 0, 1) := by decide +kernel
theorem dX6_reason_122 : decode cX6_reason 122 = .ok (.getfield 7, 3) := by decide +kernel
theorem dX6_reason_125 : decode cX6_reason 125 = .ok (.sipush 479, 3) := by decide +kernel
theorem dX6_reason_128 : decode cX6_reason 128 = .ok (.iaload, 1) := by decide +kernel
theorem dX6_reason_129 : decode cX6_reason 129 = .ok (.if_icmp .le 7, 3) := by decide +kernel
theorem dX6_reason_132 : decode cX6_reason 132 = .ok (.iconst 3, 1) := by decide +kernel
theorem dX6_reason_133 : decode cX6_reason 133 = .ok (.goto 24, 3) := by decide +kernel
theorem dX6_reason_136 : decode cX6_reason 136 = .ok (.aload_n 0, 1) := by decide +kernel
theorem dX6_reason_137 : decode cX6_reason 137 = .ok (.iload_n 1, 1) := by decide +kernel
theorem dX6_reason_138 : decode cX6_reason 138 = .ok (.aload_n 0, 1) := by decide +kernel
theorem dX6_reason_139 : decode cX6_reason 139 = .ok (.iload_n 1, 1) := by decide +kernel
theorem dX6_reason_140 : decode cX6_reason 140 = .ok (.iload_n 3, 1) := by decide +kernel
theorem dX6_reason_141 : decode cX6_reason 141 = .ok (.iload 4, 2) := by decide +kernel
theorem dX6_reason_143 : decode cX6_reason 143 = .ok (.invokevirtual 86, 3) := by decide +kernel
theorem dX6_reason_146 : decode cX6_reason 146 = .ok (.invokevirtual 89, 3) := by decide +kernel
theorem dX6_reason_149 : decode cX6_reason 149 = .ok (.ifCond .eq 7, 3) := by decide +kernel
theorem dX6_reason_152 : decode cX6_reason 152 = .ok (.iconst 0, 1) := by decide +kernel
theorem dX6_reason_153 : decode cX6_reason 153 = .ok (.goto 4, 3) := by decide +kernel
theorem dX6_reason_156 : decode cX6_reason 156 = .ok (.iconst 4, 1) := by decide +kernel
theorem dX6_reason_157 : decode cX6_reason 157 = .ok (.ireturn, 1) := by decide +kernel
set_option maxRecDepth 20000 in
theorem ggX6_settledIn_X6_isAnswer : GoodIn wsX6_settledIn wsX6_isAnswer := goodIn_r _ [6, 1, 7, 8, 5, 9, 60, 61, 62, 63, 64, 65, 66, 67, 68, 69, 70, 71, 72, 73, 74, 75, 76, 77] (by decide +kernel) (by decide +kernel)
set_option maxRecDepth 20000 in
theorem gX6_settledIn_X6_isAnswer : GoodIn wsX6_settledIn (wsV RX6 179 RX6 yX6_isAnswer wsX6_isAnswer) := goodIn_app (goodIn_of _ (by decide +kernel)) ggX6_settledIn_X6_isAnswer
set_option maxRecDepth 20000 in
theorem ggX6_settledIn_X6_ofA : GoodIn wsX6_settledIn wsX6_ofA := goodIn_r _ [12] (by decide +kernel) (by decide +kernel)
set_option maxRecDepth 20000 in
theorem gX6_settledIn_X6_ofA : GoodIn wsX6_settledIn (va_wsS RX6 52 yX6_ofA wsX6_ofA) := goodIn_app (goodIn_of _ (by decide +kernel)) ggX6_settledIn_X6_ofA
set_option maxRecDepth 20000 in
theorem ggX6_settledIn_X6_putAside : GoodIn wsX6_settledIn wsX6_putAside := goodIn_r _ [16, 17, 1, 60, 61, 62, 63, 64, 65, 66, 67, 68, 69, 70, 71, 72, 73, 74, 75, 76, 77] (by decide +kernel) (by decide +kernel)
set_option maxRecDepth 20000 in
theorem gX6_settledIn_X6_putAside : GoodIn wsX6_settledIn (wsV RX6 149 RX6 yX6_putAside wsX6_putAside) := goodIn_app (goodIn_of _ (by decide +kernel)) ggX6_settledIn_X6_putAside
set_option maxRecDepth 20000 in
theorem ggX6_settledIn_X6_round : GoodIn wsX6_settledIn wsX6_round := goodIn_r _ [21, 1, 22, 23, 24, 5, 25, 10, 11, 12, 26, 27, 28, 29, 30, 31, 32, 33, 34, 35, 36, 37, 38, 39, 40, 41, 42, 43, 44, 45, 46, 47, 48, 49, 50, 51, 52, 53, 54, 55, 60, 61, 62, 63, 64, 65, 66, 67, 68, 69, 70, 71, 72, 73, 74, 75, 76, 77] (by decide +kernel) (by decide +kernel)
set_option maxRecDepth 20000 in
theorem gX6_settledIn_X6_round : GoodIn wsX6_settledIn (wsV RX6 99 RX6 yX6_round wsX6_round) := goodIn_app (goodIn_of _ (by decide +kernel)) ggX6_settledIn_X6_round
set_option maxRecDepth 20000 in
theorem ggX6_settledIn_X6_putBack : GoodIn wsX6_settledIn wsX6_putBack := goodIn_r _ [59, 1, 17, 60, 61, 62, 63, 64, 65, 66, 67, 68, 69, 70, 71, 72, 73, 74, 75, 76, 77] (by decide +kernel) (by decide +kernel)
set_option maxRecDepth 20000 in
theorem gX6_settledIn_X6_putBack : GoodIn wsX6_settledIn (wsV RX6 155 RX6 yX6_putBack wsX6_putBack) := goodIn_app (goodIn_of _ (by decide +kernel)) ggX6_settledIn_X6_putBack
theorem dX6_settledIn_0 : decode cX6_settledIn 0 = .ok (.aload_n 0, 1) := by decide +kernel
theorem dX6_settledIn_1 : decode cX6_settledIn 1 = .ok (.iload_n 1, 1) := by decide +kernel
theorem dX6_settledIn_2 : decode cX6_settledIn 2 = .ok (.invokevirtual 179, 3) := by decide +kernel
theorem dX6_settledIn_5 : decode cX6_settledIn 5 = .ok (.ifCond .ne 5, 3) := by decide +kernel
theorem dX6_settledIn_8 : decode cX6_settledIn 8 = .ok (.iconst (-1), 1) := by decide +kernel
theorem dX6_settledIn_9 : decode cX6_settledIn 9 = .ok (.ireturn, 1) := by decide +kernel
theorem dX6_settledIn_10 : decode cX6_settledIn 10 = .ok (.aload_n 0, 1) := by decide +kernel
theorem dX6_settledIn_11 : decode cX6_settledIn 11 = .ok (.getfield 7, 3) := by decide +kernel
theorem dX6_settledIn_14 : decode cX6_settledIn 14 = .ok (.iload_n 1, 1) := by decide +kernel
theorem dX6_settledIn_15 : decode cX6_settledIn 15 = .ok (.iconst 4, 1) := by decide +kernel
theorem dX6_settledIn_16 : decode cX6_settledIn 16 = .ok (.invokestatic 52, 3) := by decide +kernel
theorem dX6_settledIn_19 : decode cX6_settledIn 19 = .ok (.iaload, 1) := by decide +kernel
theorem dX6_settledIn_20 : decode cX6_settledIn 20 = .ok (.ifCond .eq 6, 3) := by decide +kernel
theorem dX6_settledIn_23 : decode cX6_settledIn 23 = .ok (.bipush (-4), 2) := by decide +kernel
theorem dX6_settledIn_25 : decode cX6_settledIn 25 = .ok (.ireturn, 1) := by decide +kernel
theorem dX6_settledIn_26 : decode cX6_settledIn 26 = .ok (.aload_n 0, 1) := by decide +kernel
theorem dX6_settledIn_27 : decode cX6_settledIn 27 = .ok (.invokevirtual 149, 3) := by decide +kernel
theorem dX6_settledIn_30 : decode cX6_settledIn 30 = .ok (.iconst 0, 1) := by decide +kernel
theorem dX6_settledIn_31 : decode cX6_settledIn 31 = .ok (.istore_n 2, 1) := by decide +kernel
theorem dX6_settledIn_32 : decode cX6_settledIn 32 = .ok (.aload_n 0, 1) := by decide +kernel
theorem dX6_settledIn_33 : decode cX6_settledIn 33 = .ok (.getfield 7, 3) := by decide +kernel
theorem dX6_settledIn_36 : decode cX6_settledIn 36 = .ok (.iload_n 1, 1) := by decide +kernel
theorem dX6_settledIn_37 : decode cX6_settledIn 37 = .ok (.iconst 4, 1) := by decide +kernel
theorem dX6_settledIn_38 : decode cX6_settledIn 38 = .ok (.invokestatic 52, 3) := by decide +kernel
theorem dX6_settledIn_41 : decode cX6_settledIn 41 = .ok (.iaload, 1) := by decide +kernel
theorem dX6_settledIn_42 : decode cX6_settledIn 42 = .ok (.ifCond .ne 20, 3) := by decide +kernel
theorem dX6_settledIn_45 : decode cX6_settledIn 45 = .ok (.iload_n 2, 1) := by decide +kernel
theorem dX6_settledIn_46 : decode cX6_settledIn 46 = .ok (.sipush 300, 3) := by decide +kernel
theorem dX6_settledIn_49 : decode cX6_settledIn 49 = .ok (.if_icmp .ge 13, 3) := by decide +kernel
theorem dX6_settledIn_52 : decode cX6_settledIn 52 = .ok (.aload_n 0, 1) := by decide +kernel
theorem dX6_settledIn_53 : decode cX6_settledIn 53 = .ok (.invokevirtual 99, 3) := by decide +kernel
theorem dX6_settledIn_56 : decode cX6_settledIn 56 = .ok (.iinc 2 1, 3) := by decide +kernel
theorem dX6_settledIn_59 : decode cX6_settledIn 59 = .ok (.goto (-27), 3) := by decide +kernel
theorem dX6_settledIn_62 : decode cX6_settledIn 62 = .ok (.aload_n 0, 1) := by decide +kernel
theorem dX6_settledIn_63 : decode cX6_settledIn 63 = .ok (.getfield 7, 3) := by decide +kernel
theorem dX6_settledIn_66 : decode cX6_settledIn 66 = .ok (.iload_n 1, 1) := by decide +kernel
theorem dX6_settledIn_67 : decode cX6_settledIn 67 = .ok (.iconst 4, 1) := by decide +kernel
theorem dX6_settledIn_68 : decode cX6_settledIn 68 = .ok (.invokestatic 52, 3) := by decide +kernel
theorem dX6_settledIn_71 : decode cX6_settledIn 71 = .ok (.iaload, 1) := by decide +kernel
theorem dX6_settledIn_72 : decode cX6_settledIn 72 = .ok (.ifCond .ne 8, 3) := by decide +kernel
theorem dX6_settledIn_75 : decode cX6_settledIn 75 = .ok (.bipush (-5), 2) := by decide +kernel
theorem dX6_settledIn_77 : decode cX6_settledIn 77 = .ok (.goto 4, 3) := by decide +kernel
theorem dX6_settledIn_80 : decode cX6_settledIn 80 = .ok (.iload_n 2, 1) := by decide +kernel
theorem dX6_settledIn_81 : decode cX6_settledIn 81 = .ok (.istore_n 3, 1) := by decide +kernel
theorem dX6_settledIn_82 : decode cX6_settledIn 82 = .ok (.aload_n 0, 1) := by decide +kernel
theorem dX6_settledIn_83 : decode cX6_settledIn 83 = .ok (.invokevirtual 155, 3) := by decide +kernel
theorem dX6_settledIn_86 : decode cX6_settledIn 86 = .ok (.iload_n 3, 1) := by decide +kernel
theorem dX6_settledIn_87 : decode cX6_settledIn 87 = .ok (.ireturn, 1) := by decide +kernel
set_option maxRecDepth 20000 in
theorem ggX6_ifRounds_X6_in : GoodIn wsX6_ifRounds wsX6_in := goodIn_r _ [5] (by decide +kernel) (by decide +kernel)
set_option maxRecDepth 20000 in
theorem gX6_ifRounds_X6_in : GoodIn wsX6_ifRounds (va_wsS RX6 26 yX6_in wsX6_in) := goodIn_app (goodIn_of _ (by decide +kernel)) ggX6_ifRounds_X6_in
set_option maxRecDepth 20000 in
theorem ggX6_ifRounds_X6_putAside : GoodIn wsX6_ifRounds wsX6_putAside := goodIn_r _ [9, 10, 1, 64, 65, 66, 67, 68, 69, 70, 71, 72, 73, 74, 75, 76, 77, 78, 79, 80, 81] (by decide +kernel) (by decide +kernel)
set_option maxRecDepth 20000 in
theorem gX6_ifRounds_X6_putAside : GoodIn wsX6_ifRounds (wsV RX6 149 RX6 yX6_putAside wsX6_putAside) := goodIn_app (goodIn_of _ (by decide +kernel)) ggX6_ifRounds_X6_putAside
set_option maxRecDepth 20000 in
theorem ggX6_ifRounds_X6_passes : GoodIn wsX6_ifRounds wsX6_passes := goodIn_r _ [14, 15, 16, 17, 4, 18, 1, 19, 20, 21, 22, 23, 24, 25, 26, 27, 28, 29, 30, 31, 32, 33, 34, 35, 36, 37, 38, 39, 40, 41, 42, 43, 44, 45, 46, 47, 48, 49, 50, 51, 52, 53, 54, 55, 56, 57, 58, 59, 64, 65, 66, 67, 68, 69, 70, 71, 72, 73, 74, 75, 76, 77, 78, 79, 80, 81] (by decide +kernel) (by decide +kernel)
set_option maxRecDepth 20000 in
theorem gX6_ifRounds_X6_passes : GoodIn wsX6_ifRounds (wsV RX6 105 RX6 yX6_passes wsX6_passes) := goodIn_app (goodIn_of _ (by decide +kernel)) ggX6_ifRounds_X6_passes
set_option maxRecDepth 20000 in
theorem ggX6_ifRounds_X6_putBack : GoodIn wsX6_ifRounds wsX6_putBack := goodIn_r _ [63, 1, 10, 64, 65, 66, 67, 68, 69, 70, 71, 72, 73, 74, 75, 76, 77, 78, 79, 80, 81] (by decide +kernel) (by decide +kernel)
set_option maxRecDepth 20000 in
theorem gX6_ifRounds_X6_putBack : GoodIn wsX6_ifRounds (wsV RX6 155 RX6 yX6_putBack wsX6_putBack) := goodIn_app (goodIn_of _ (by decide +kernel)) ggX6_ifRounds_X6_putBack
theorem dX6_ifRounds_0 : decode cX6_ifRounds 0 = .ok (.iload_n 1, 1) := by decide +kernel
theorem dX6_ifRounds_1 : decode cX6_ifRounds 1 = .ok (.iconst 1, 1) := by decide +kernel
theorem dX6_ifRounds_2 : decode cX6_ifRounds 2 = .ok (.bipush 99, 2) := by decide +kernel
theorem dX6_ifRounds_4 : decode cX6_ifRounds 4 = .ok (.invokestatic 26, 3) := by decide +kernel
theorem dX6_ifRounds_7 : decode cX6_ifRounds 7 = .ok (.ifCond .ne 6, 3) := by decide +kernel
theorem dX6_ifRounds_10 : decode cX6_ifRounds 10 = .ok (.bipush (-2), 2) := by decide +kernel
theorem dX6_ifRounds_12 : decode cX6_ifRounds 12 = .ok (.ireturn, 1) := by decide +kernel
theorem dX6_ifRounds_13 : decode cX6_ifRounds 13 = .ok (.aload_n 0, 1) := by decide +kernel
theorem dX6_ifRounds_14 : decode cX6_ifRounds 14 = .ok (.invokevirtual 149, 3) := by decide +kernel
theorem dX6_ifRounds_17 : decode cX6_ifRounds 17 = .ok (.iload_n 2, 1) := by decide +kernel
theorem dX6_ifRounds_18 : decode cX6_ifRounds 18 = .ok (.ifCond .eq 21, 3) := by decide +kernel
theorem dX6_ifRounds_21 : decode cX6_ifRounds 21 = .ok (.aload_n 0, 1) := by decide +kernel
theorem dX6_ifRounds_22 : decode cX6_ifRounds 22 = .ok (.getfield 7, 3) := by decide +kernel
theorem dX6_ifRounds_25 : decode cX6_ifRounds 25 = .ok (.sipush 477, 3) := by decide +kernel
theorem dX6_ifRounds_28 : decode cX6_ifRounds 28 = .ok (.iconst 0, 1) := by decide +kernel
theorem dX6_ifRounds_29 : decode cX6_ifRounds 29 = .ok (.iastore, 1) := by decide +kernel
theorem dX6_ifRounds_30 : decode cX6_ifRounds 30 = .ok (.aload_n 0, 1) := by decide +kernel
theorem dX6_ifRounds_31 : decode cX6_ifRounds 31 = .ok (.getfield 7, 3) := by decide +kernel
theorem dX6_ifRounds_34 : decode cX6_ifRounds 34 = .ok (.sipush 478, 3) := by decide +kernel
theorem dX6_ifRounds_37 : decode cX6_ifRounds 37 = .ok (.iconst 0, 1) := by decide +kernel
theorem dX6_ifRounds_38 : decode cX6_ifRounds 38 = .ok (.iastore, 1) := by decide +kernel
theorem dX6_ifRounds_39 : decode cX6_ifRounds 39 = .ok (.aload_n 0, 1) := by decide +kernel
theorem dX6_ifRounds_40 : decode cX6_ifRounds 40 = .ok (.iload_n 1, 1) := by decide +kernel
theorem dX6_ifRounds_41 : decode cX6_ifRounds 41 = .ok (.invokevirtual 105, 3) := by decide +kernel
theorem dX6_ifRounds_44 : decode cX6_ifRounds 44 = .ok (.istore_n 3, 1) := by decide +kernel
theorem dX6_ifRounds_45 : decode cX6_ifRounds 45 = .ok (.aload_n 0, 1) := by decide +kernel
theorem dX6_ifRounds_46 : decode cX6_ifRounds 46 = .ok (.invokevirtual 155, 3) := by decide +kernel
theorem dX6_ifRounds_49 : decode cX6_ifRounds 49 = .ok (.iload_n 3, 1) := by decide +kernel
theorem dX6_ifRounds_50 : decode cX6_ifRounds 50 = .ok (.ireturn, 1) := by decide +kernel
theorem dX6_richest_0 : decode cX6_richest 0 = .ok (.iconst 0, 1) := by decide +kernel
theorem dX6_richest_1 : decode cX6_richest 1 = .ok (.istore_n 1, 1) := by decide +kernel
theorem dX6_richest_2 : decode cX6_richest 2 = .ok (.iconst 1, 1) := by decide +kernel
theorem dX6_richest_3 : decode cX6_richest 3 = .ok (.istore_n 2, 1) := by decide +kernel
theorem dX6_richest_4 : decode cX6_richest 4 = .ok (.iload_n 2, 1) := by decide +kernel
theorem dX6_richest_5 : decode cX6_richest 5 = .ok (.bipush 8, 2) := by decide +kernel
theorem dX6_richest_7 : decode cX6_richest 7 = .ok (.if_icmp .ge 34, 3) := by decide +kernel
theorem dX6_richest_10 : decode cX6_richest 10 = .ok (.aload_n 0, 1) := by decide +kernel
theorem dX6_richest_11 : decode cX6_richest 11 = .ok (.getfield 7, 3) := by decide +kernel
theorem dX6_richest_14 : decode cX6_richest 14 = .ok (.iconst 0, 1) := by decide +kernel
theorem dX6_richest_15 : decode cX6_richest 15 = .ok (.iload_n 2, 1) := by decide +kernel
theorem dX6_richest_16 : decode cX6_richest 16 = .ok (.iadd, 1) := by decide +kernel
theorem dX6_richest_17 : decode cX6_richest 17 = .ok (.iaload, 1) := by decide +kernel
theorem dX6_richest_18 : decode cX6_richest 18 = .ok (.aload_n 0, 1) := by decide +kernel
theorem dX6_richest_19 : decode cX6_richest 19 = .ok (.getfield 7, 3) := by decide +kernel
theorem dX6_richest_22 : decode cX6_richest 22 = .ok (.iconst 0, 1) := by decide +kernel
theorem dX6_richest_23 : decode cX6_richest 23 = .ok (.iload_n 1, 1) := by decide +kernel
theorem dX6_richest_24 : decode cX6_richest 24 = .ok (.iadd, 1) := by decide +kernel
theorem dX6_richest_25 : decode cX6_richest 25 = .ok (.iaload, 1) := by decide +kernel
theorem dX6_richest_26 : decode cX6_richest 26 = .ok (.if_icmp .le 7, 3) := by decide +kernel
theorem dX6_richest_29 : decode cX6_richest 29 = .ok (.iload_n 2, 1) := by decide +kernel
theorem dX6_richest_30 : decode cX6_richest 30 = .ok (.goto 4, 3) := by decide +kernel
theorem dX6_richest_33 : decode cX6_richest 33 = .ok (.iload_n 1, 1) := by decide +kernel
theorem dX6_richest_34 : decode cX6_richest 34 = .ok (.istore_n 1, 1) := by decide +kernel
theorem dX6_richest_35 : decode cX6_richest 35 = .ok (.iinc 2 1, 3) := by decide +kernel
theorem dX6_richest_38 : decode cX6_richest 38 = .ok (.goto (-34), 3) := by decide +kernel
theorem dX6_richest_41 : decode cX6_richest 41 = .ok (.iload_n 1, 1) := by decide +kernel
theorem dX6_richest_42 : decode cX6_richest 42 = .ok (.ireturn, 1) := by decide +kernel
set_option maxRecDepth 20000 in
theorem ggX6_account_X6_isTrader : GoodIn wsX6_account wsX6_isTrader := goodIn_r _ [6, 7, 8, 5, 9] (by decide +kernel) (by decide +kernel)
set_option maxRecDepth 20000 in
theorem gX6_account_X6_isTrader : GoodIn wsX6_account (va_wsS RX6 34 yX6_isTrader wsX6_isTrader) := goodIn_app (goodIn_of _ (by decide +kernel)) ggX6_account_X6_isTrader
set_option maxRecDepth 20000 in
theorem ggX6_account_X6_ofA : GoodIn wsX6_account wsX6_ofA := goodIn_r _ [12] (by decide +kernel) (by decide +kernel)
set_option maxRecDepth 20000 in
theorem gX6_account_X6_ofA : GoodIn wsX6_account (va_wsS RX6 52 yX6_ofA wsX6_ofA) := goodIn_app (goodIn_of _ (by decide +kernel)) ggX6_account_X6_ofA
set_option maxRecDepth 20000 in
theorem ggX6_account_X6_ofR : GoodIn wsX6_account wsX6_ofR := goodIn_r _ [15] (by decide +kernel) (by decide +kernel)
set_option maxRecDepth 20000 in
theorem gX6_account_X6_ofR : GoodIn wsX6_account (va_wsS RX6 38 yX6_ofR wsX6_ofR) := goodIn_app (goodIn_of _ (by decide +kernel)) ggX6_account_X6_ofR
theorem dX6_account_0 : decode cX6_account 0 = .ok (.iload_n 1, 1) := by decide +kernel
theorem dX6_account_1 : decode cX6_account 1 = .ok (.invokestatic 34, 3) := by decide +kernel
theorem dX6_account_4 : decode cX6_account 4 = .ok (.ifCond .ne 5, 3) := by decide +kernel
theorem dX6_account_7 : decode cX6_account 7 = .ok (.iconst (-1), 1) := by decide +kernel
theorem dX6_account_8 : decode cX6_account 8 = .ok (.ireturn, 1) := by decide +kernel
theorem dX6_account_9 : decode cX6_account 9 = .ok (.ldc 185, 2) := by decide +kernel
theorem dX6_account_11 : decode cX6_account 11 = .ok (.aload_n 0, 1) := by decide +kernel
theorem dX6_account_12 : decode cX6_account 12 = .ok (.getfield 7, 3) := by decide +kernel
theorem dX6_account_15 : decode cX6_account 15 = .ok (.bipush 8, 2) := by decide +kernel
theorem dX6_account_17 : decode cX6_account 17 = .ok (.iload_n 1, 1) := by decide +kernel
theorem dX6_account_18 : decode cX6_account 18 = .ok (.iadd, 1) := by decide +kernel
theorem dX6_account_19 : decode cX6_account 19 = .ok (.iaload, 1) := by decide +kernel
theorem dX6_account_20 : decode cX6_account 20 = .ok (.isub, 1) := by decide +kernel
theorem dX6_account_21 : decode cX6_account 21 = .ok (.istore_n 2, 1) := by decide +kernel
theorem dX6_account_22 : decode cX6_account 22 = .ok (.iconst 0, 1) := by decide +kernel
theorem dX6_account_23 : decode cX6_account 23 = .ok (.istore_n 3, 1) := by decide +kernel
theorem dX6_account_24 : decode cX6_account 24 = .ok (.iload_n 3, 1) := by decide +kernel
theorem dX6_account_25 : decode cX6_account 25 = .ok (.aload_n 0, 1) := by decide +kernel
theorem dX6_account_26 : decode cX6_account 26 = .ok (.getfield 7, 3) := by decide +kernel
theorem dX6_account_29 : decode cX6_account 29 = .ok (.sipush 484, 3) := by decide +kernel
theorem dX6_account_32 : decode cX6_account 32 = .ok (.iaload, 1) := by decide +kernel
theorem dX6_account_33 : decode cX6_account 33 = .ok (.if_icmp .ge 82, 3) := by decide +kernel
theorem dX6_account_36 : decode cX6_account 36 = .ok (.iload_n 2, 1) := by decide +kernel
theorem dX6_account_37 : decode cX6_account 37 = .ok (.aload_n 0, 1) := by decide +kernel
theorem dX6_account_38 : decode cX6_account 38 = .ok (.getfield 7, 3) := by decide +kernel
theorem dX6_account_41 : decode cX6_account 41 = .ok (.iload_n 3, 1) := by decide +kernel
theorem dX6_account_42 : decode cX6_account 42 = .ok (.iconst 0, 1) := by decide +kernel
theorem dX6_account_43 : decode cX6_account 43 = .ok (.invokestatic 52, 3) := by decide +kernel
theorem dX6_account_46 : decode cX6_account 46 = .ok (.iaload, 1) := by decide +kernel
theorem dX6_account_47 : decode cX6_account 47 = .ok (.iload_n 1, 1) := by decide +kernel
theorem dX6_account_48 : decode cX6_account 48 = .ok (.if_icmp .ne 17, 3) := by decide +kernel
theorem dX6_account_51 : decode cX6_account 51 = .ok (.aload_n 0, 1) := by decide +kernel
theorem dX6_account_52 : decode cX6_account 52 = .ok (.getfield 7, 3) := by decide +kernel
theorem dX6_account_55 : decode cX6_account 55 = .ok (.iload_n 3, 1) := by decide +kernel
theorem dX6_account_56 : decode cX6_account 56 = .ok (.bipush 7, 2) := by decide +kernel
theorem dX6_account_58 : decode cX6_account 58 = .ok (.invokestatic 52, 3) := by decide +kernel
theorem dX6_account_61 : decode cX6_account 61 = .ok (.iaload, 1) := by decide +kernel
theorem dX6_account_62 : decode cX6_account 62 = .ok (.goto 4, 3) := by decide +kernel
theorem dX6_account_65 : decode cX6_account 65 = .ok (.iconst 0, 1) := by decide +kernel
theorem dX6_account_66 : decode cX6_account 66 = .ok (.iadd, 1) := by decide +kernel
theorem dX6_account_67 : decode cX6_account 67 = .ok (.istore_n 2, 1) := by decide +kernel
theorem dX6_account_68 : decode cX6_account 68 = .ok (.iload_n 2, 1) := by decide +kernel
theorem dX6_account_69 : decode cX6_account 69 = .ok (.aload_n 0, 1) := by decide +kernel
theorem dX6_account_70 : decode cX6_account 70 = .ok (.getfield 7, 3) := by decide +kernel
theorem dX6_account_73 : decode cX6_account 73 = .ok (.aload_n 0, 1) := by decide +kernel
theorem dX6_account_74 : decode cX6_account 74 = .ok (.getfield 7, 3) := by decide +kernel
theorem dX6_account_77 : decode cX6_account 77 = .ok (.iload_n 3, 1) := by decide +kernel
theorem dX6_account_78 : decode cX6_account 78 = .ok (.iconst 1, 1) := by decide +kernel
theorem dX6_account_79 : decode cX6_account 79 = .ok (.invokestatic 52, 3) := by decide +kernel
theorem dX6_account_82 : decode cX6_account 82 = .ok (.iaload, 1) := by decide +kernel
theorem dX6_account_83 : decode cX6_account 83 = .ok (.iconst 0, 1) := by decide +kernel
theorem dX6_account_84 : decode cX6_account 84 = .ok (.invokestatic 38, 3) := by decide +kernel
theorem dX6_account_87 : decode cX6_account 87 = .ok (.iaload, 1) := by decide +kernel
theorem dX6_account_88 : decode cX6_account 88 = .ok (.iload_n 1, 1) := by decide +kernel
theorem dX6_account_89 : decode cX6_account 89 = .ok (.if_icmp .ne 17, 3) := by decide +kernel
theorem dX6_account_92 : decode cX6_account 92 = .ok (.aload_n 0, 1) := by decide +kernel
theorem dX6_account_93 : decode cX6_account 93 = .ok (.getfield 7, 3) := by decide +kernel
theorem dX6_account_96 : decode cX6_account 96 = .ok (.iload_n 3, 1) := by decide +kernel
theorem dX6_account_97 : decode cX6_account 97 = .ok (.bipush 7, 2) := by decide +kernel
theorem dX6_account_99 : decode cX6_account 99 = .ok (.invokestatic 52, 3) := by decide +kernel
theorem dX6_account_102 : decode cX6_account 102 = .ok (.iaload, 1) := by decide +kernel
theorem dX6_account_103 : decode cX6_account 103 = .ok (.goto 4, 3) := by decide +kernel
theorem dX6_account_106 : decode cX6_account 106 = .ok (.iconst 0, 1) := by decide +kernel
theorem dX6_account_107 : decode cX6_account 107 = .ok (.isub, 1) := by decide +kernel
theorem dX6_account_108 : decode cX6_account 108 = .ok (.istore_n 2, 1) := by decide +kernel
theorem dX6_account_109 : decode cX6_account 109 = .ok (.iinc 3 1, 3) := by decide +kernel
theorem dX6_account_112 : decode cX6_account 112 = .ok (.goto (-88), 3) := by decide +kernel
theorem dX6_account_115 : decode cX6_account 115 = .ok (.iload_n 2, 1) := by decide +kernel
theorem dX6_account_116 : decode cX6_account 116 = .ok (.ireturn, 1) := by decide +kernel
set_option maxRecDepth 20000 in
theorem ggX6_open_X6_ofR : GoodIn wsX6_open wsX6_ofR := goodIn_r _ [5] (by decide +kernel) (by decide +kernel)
set_option maxRecDepth 20000 in
theorem gX6_open_X6_ofR : GoodIn wsX6_open (va_wsS RX6 38 yX6_ofR wsX6_ofR) := goodIn_app (goodIn_of _ (by decide +kernel)) ggX6_open_X6_ofR
theorem dX6_open_0 : decode cX6_open 0 = .ok (.iconst 0, 1) := by decide +kernel
theorem dX6_open_1 : decode cX6_open 1 = .ok (.istore_n 1, 1) := by decide +kernel
theorem dX6_open_2 : decode cX6_open 2 = .ok (.iconst 0, 1) := by decide +kernel
theorem dX6_open_3 : decode cX6_open 3 = .ok (.istore_n 2, 1) := by decide +kernel
theorem dX6_open_4 : decode cX6_open 4 = .ok (.iload_n 2, 1) := by decide +kernel
theorem dX6_open_5 : decode cX6_open 5 = .ok (.aload_n 0, 1) := by decide +kernel
theorem dX6_open_6 : decode cX6_open 6 = .ok (.getfield 7, 3) := by decide +kernel
theorem dX6_open_9 : decode cX6_open 9 = .ok (.sipush 483, 3) := by decide +kernel
theorem dX6_open_12 : decode cX6_open 12 = .ok (.iaload, 1) := by decide +kernel
theorem dX6_open_13 : decode cX6_open 13 = .ok (.if_icmp .ge 30, 3) := by decide +kernel
theorem dX6_open_16 : decode cX6_open 16 = .ok (.iload_n 1, 1) := by decide +kernel
theorem dX6_open_17 : decode cX6_open 17 = .ok (.aload_n 0, 1) := by decide +kernel
theorem dX6_open_18 : decode cX6_open 18 = .ok (.getfield 7, 3) := by decide +kernel
theorem dX6_open_21 : decode cX6_open 21 = .ok (.iload_n 2, 1) := by decide +kernel
theorem dX6_open_22 : decode cX6_open 22 = .ok (.iconst 3, 1) := by decide +kernel
theorem dX6_open_23 : decode cX6_open 23 = .ok (.invokestatic 38, 3) := by decide +kernel
theorem dX6_open_26 : decode cX6_open 26 = .ok (.iaload, 1) := by decide +kernel
theorem dX6_open_27 : decode cX6_open 27 = .ok (.ifCond .ne 7, 3) := by decide +kernel
theorem dX6_open_30 : decode cX6_open 30 = .ok (.iconst 1, 1) := by decide +kernel
theorem dX6_open_31 : decode cX6_open 31 = .ok (.goto 4, 3) := by decide +kernel
theorem dX6_open_34 : decode cX6_open 34 = .ok (.iconst 0, 1) := by decide +kernel
theorem dX6_open_35 : decode cX6_open 35 = .ok (.iadd, 1) := by decide +kernel
theorem dX6_open_36 : decode cX6_open 36 = .ok (.istore_n 1, 1) := by decide +kernel
theorem dX6_open_37 : decode cX6_open 37 = .ok (.iinc 2 1, 3) := by decide +kernel
theorem dX6_open_40 : decode cX6_open 40 = .ok (.goto (-36), 3) := by decide +kernel
theorem dX6_open_43 : decode cX6_open 43 = .ok (.iload_n 1, 1) := by decide +kernel
theorem dX6_open_44 : decode cX6_open 44 = .ok (.ireturn, 1) := by decide +kernel
theorem dX6_debtors_0 : decode cX6_debtors 0 = .ok (.iconst 0, 1) := by decide +kernel
theorem dX6_debtors_1 : decode cX6_debtors 1 = .ok (.istore_n 1, 1) := by decide +kernel
theorem dX6_debtors_2 : decode cX6_debtors 2 = .ok (.iconst 0, 1) := by decide +kernel
theorem dX6_debtors_3 : decode cX6_debtors 3 = .ok (.istore_n 2, 1) := by decide +kernel
theorem dX6_debtors_4 : decode cX6_debtors 4 = .ok (.iload_n 2, 1) := by decide +kernel
theorem dX6_debtors_5 : decode cX6_debtors 5 = .ok (.bipush 8, 2) := by decide +kernel
theorem dX6_debtors_7 : decode cX6_debtors 7 = .ok (.if_icmp .ge 28, 3) := by decide +kernel
theorem dX6_debtors_10 : decode cX6_debtors 10 = .ok (.iload_n 1, 1) := by decide +kernel
theorem dX6_debtors_11 : decode cX6_debtors 11 = .ok (.aload_n 0, 1) := by decide +kernel
theorem dX6_debtors_12 : decode cX6_debtors 12 = .ok (.getfield 7, 3) := by decide +kernel
theorem dX6_debtors_15 : decode cX6_debtors 15 = .ok (.iconst 0, 1) := by decide +kernel
theorem dX6_debtors_16 : decode cX6_debtors 16 = .ok (.iload_n 2, 1) := by decide +kernel
theorem dX6_debtors_17 : decode cX6_debtors 17 = .ok (.iadd, 1) := by decide +kernel
theorem dX6_debtors_18 : decode cX6_debtors 18 = .ok (.iaload, 1) := by decide +kernel
theorem dX6_debtors_19 : decode cX6_debtors 19 = .ok (.ifCond .ge 7, 3) := by decide +kernel
theorem dX6_debtors_22 : decode cX6_debtors 22 = .ok (.iconst 1, 1) := by decide +kernel
theorem dX6_debtors_23 : decode cX6_debtors 23 = .ok (.goto 4, 3) := by decide +kernel
theorem dX6_debtors_26 : decode cX6_debtors 26 = .ok (.iconst 0, 1) := by decide +kernel
theorem dX6_debtors_27 : decode cX6_debtors 27 = .ok (.iadd, 1) := by decide +kernel
theorem dX6_debtors_28 : decode cX6_debtors 28 = .ok (.istore_n 1, 1) := by decide +kernel
theorem dX6_debtors_29 : decode cX6_debtors 29 = .ok (.iinc 2 1, 3) := by decide +kernel
theorem dX6_debtors_32 : decode cX6_debtors 32 = .ok (.goto (-28), 3) := by decide +kernel
theorem dX6_debtors_35 : decode cX6_debtors 35 = .ok (.iload_n 1, 1) := by decide +kernel
theorem dX6_debtors_36 : decode cX6_debtors 36 = .ok (.ireturn, 1) := by decide +kernel
set_option maxRecDepth 20000 in
theorem ggX6_count_X6_open : GoodIn wsX6_count wsX6_open := goodIn_r _ [8, 1, 9, 10, 7, 11, 23, 24, 25, 26, 27, 28, 29, 30, 31, 32, 33, 34, 35, 36, 37, 38, 39, 40] (by decide +kernel) (by decide +kernel)
set_option maxRecDepth 20000 in
theorem gX6_count_X6_open : GoodIn wsX6_count (wsV RX6 186 RX6 yX6_open wsX6_open) := goodIn_app (goodIn_of _ (by decide +kernel)) ggX6_count_X6_open
set_option maxRecDepth 20000 in
theorem ggX6_count_X6_inState : GoodIn wsX6_count wsX6_inState := goodIn_r _ [15, 1, 16, 17, 7, 18, 23, 24, 25, 26, 27, 28, 29, 30, 31, 32, 33, 34, 35, 36, 37, 38, 39, 40] (by decide +kernel) (by decide +kernel)
set_option maxRecDepth 20000 in
theorem gX6_count_X6_inState : GoodIn wsX6_count (wsV RX6 96 RX6 yX6_inState wsX6_inState) := goodIn_app (goodIn_of _ (by decide +kernel)) ggX6_count_X6_inState
set_option maxRecDepth 20000 in
theorem ggX6_count_X6_debtors : GoodIn wsX6_count wsX6_debtors := goodIn_r _ [22, 1, 23, 24, 25, 26, 27, 28, 29, 30, 31, 32, 33, 34, 35, 36, 37, 38, 39, 40] (by decide +kernel) (by decide +kernel)
set_option maxRecDepth 20000 in
theorem gX6_count_X6_debtors : GoodIn wsX6_count (wsV RX6 189 RX6 yX6_debtors wsX6_debtors) := goodIn_app (goodIn_of _ (by decide +kernel)) ggX6_count_X6_debtors
theorem dX6_count_0 : decode cX6_count 0 = .ok (.iload_n 1, 1) := by decide +kernel
theorem dX6_count_1 : decode cX6_count 1 = .ok (.tableswitch 230 0 19 #[95, 104, 113, 118, 127, 136, 142, 148, 157, 166, 175, 180, 189, 189, 206, 206, 206, 206, 220, 225], 95) := by decide +kernel
theorem dX6_count_96 : decode cX6_count 96 = .ok (.aload_n 0, 1) := by decide +kernel
theorem dX6_count_97 : decode cX6_count 97 = .ok (.getfield 7, 3) := by decide +kernel
theorem dX6_count_100 : decode cX6_count 100 = .ok (.sipush 485, 3) := by decide +kernel
theorem dX6_count_103 : decode cX6_count 103 = .ok (.iaload, 1) := by decide +kernel
theorem dX6_count_104 : decode cX6_count 104 = .ok (.ireturn, 1) := by decide +kernel
theorem dX6_count_105 : decode cX6_count 105 = .ok (.aload_n 0, 1) := by decide +kernel
theorem dX6_count_106 : decode cX6_count 106 = .ok (.getfield 7, 3) := by decide +kernel
theorem dX6_count_109 : decode cX6_count 109 = .ok (.sipush 483, 3) := by decide +kernel
theorem dX6_count_112 : decode cX6_count 112 = .ok (.iaload, 1) := by decide +kernel
theorem dX6_count_113 : decode cX6_count 113 = .ok (.ireturn, 1) := by decide +kernel
theorem dX6_count_114 : decode cX6_count 114 = .ok (.aload_n 0, 1) := by decide +kernel
theorem dX6_count_115 : decode cX6_count 115 = .ok (.invokevirtual 186, 3) := by decide +kernel
theorem dX6_count_118 : decode cX6_count 118 = .ok (.ireturn, 1) := by decide +kernel
theorem dX6_count_119 : decode cX6_count 119 = .ok (.aload_n 0, 1) := by decide +kernel
theorem dX6_count_120 : decode cX6_count 120 = .ok (.getfield 7, 3) := by decide +kernel
theorem dX6_count_123 : decode cX6_count 123 = .ok (.sipush 484, 3) := by decide +kernel
theorem dX6_count_126 : decode cX6_count 126 = .ok (.iaload, 1) := by decide +kernel
theorem dX6_count_127 : decode cX6_count 127 = .ok (.ireturn, 1) := by decide +kernel
theorem dX6_count_128 : decode cX6_count 128 = .ok (.aload_n 0, 1) := by decide +kernel
theorem dX6_count_129 : decode cX6_count 129 = .ok (.getfield 7, 3) := by decide +kernel
theorem dX6_count_132 : decode cX6_count 132 = .ok (.sipush 476, 3) := by decide +kernel
theorem dX6_count_135 : decode cX6_count 135 = .ok (.iaload, 1) := by decide +kernel
theorem dX6_count_136 : decode cX6_count 136 = .ok (.ireturn, 1) := by decide +kernel
theorem dX6_count_137 : decode cX6_count 137 = .ok (.aload_n 0, 1) := by decide +kernel
theorem dX6_count_138 : decode cX6_count 138 = .ok (.iconst 1, 1) := by decide +kernel
theorem dX6_count_139 : decode cX6_count 139 = .ok (.invokevirtual 96, 3) := by decide +kernel
theorem dX6_count_142 : decode cX6_count 142 = .ok (.ireturn, 1) := by decide +kernel
theorem dX6_count_143 : decode cX6_count 143 = .ok (.aload_n 0, 1) := by decide +kernel
theorem dX6_count_144 : decode cX6_count 144 = .ok (.iconst 2, 1) := by decide +kernel
theorem dX6_count_145 : decode cX6_count 145 = .ok (.invokevirtual 96, 3) := by decide +kernel
theorem dX6_count_148 : decode cX6_count 148 = .ok (.ireturn, 1) := by decide +kernel
theorem dX6_count_149 : decode cX6_count 149 = .ok (.aload_n 0, 1) := by decide +kernel
theorem dX6_count_150 : decode cX6_count 150 = .ok (.getfield 7, 3) := by decide +kernel
theorem dX6_count_153 : decode cX6_count 153 = .ok (.sipush 487, 3) := by decide +kernel
theorem dX6_count_156 : decode cX6_count 156 = .ok (.iaload, 1) := by decide +kernel
theorem dX6_count_157 : decode cX6_count 157 = .ok (.ireturn, 1) := by decide +kernel
theorem dX6_count_158 : decode cX6_count 158 = .ok (.aload_n 0, 1) := by decide +kernel
theorem dX6_count_159 : decode cX6_count 159 = .ok (.getfield 7, 3) := by decide +kernel
theorem dX6_count_162 : decode cX6_count 162 = .ok (.sipush 488, 3) := by decide +kernel
theorem dX6_count_165 : decode cX6_count 165 = .ok (.iaload, 1) := by decide +kernel
theorem dX6_count_166 : decode cX6_count 166 = .ok (.ireturn, 1) := by decide +kernel
theorem dX6_count_167 : decode cX6_count 167 = .ok (.aload_n 0, 1) := by decide +kernel
theorem dX6_count_168 : decode cX6_count 168 = .ok (.getfield 7, 3) := by decide +kernel
theorem dX6_count_171 : decode cX6_count 171 = .ok (.sipush 486, 3) := by decide +kernel
theorem dX6_count_174 : decode cX6_count 174 = .ok (.iaload, 1) := by decide +kernel
theorem dX6_count_175 : decode cX6_count 175 = .ok (.ireturn, 1) := by decide +kernel
theorem dX6_count_176 : decode cX6_count 176 = .ok (.aload_n 0, 1) := by decide +kernel
theorem dX6_count_177 : decode cX6_count 177 = .ok (.invokevirtual 189, 3) := by decide +kernel
theorem dX6_count_180 : decode cX6_count 180 = .ok (.ireturn, 1) := by decide +kernel
theorem dX6_count_181 : decode cX6_count 181 = .ok (.aload_n 0, 1) := by decide +kernel
theorem dX6_count_182 : decode cX6_count 182 = .ok (.getfield 7, 3) := by decide +kernel
theorem dX6_count_185 : decode cX6_count 185 = .ok (.sipush 489, 3) := by decide +kernel
theorem dX6_count_188 : decode cX6_count 188 = .ok (.iaload, 1) := by decide +kernel
theorem dX6_count_189 : decode cX6_count 189 = .ok (.ireturn, 1) := by decide +kernel
theorem dX6_count_190 : decode cX6_count 190 = .ok (.aload_n 0, 1) := by decide +kernel
theorem dX6_count_191 : decode cX6_count 191 = .ok (.getfield 7, 3) := by decide +kernel
theorem dX6_count_194 : decode cX6_count 194 = .ok (.sipush 477, 3) := by decide +kernel
theorem dX6_count_197 : decode cX6_count 197 = .ok (.iload_n 1, 1) := by decide +kernel
theorem dX6_count_198 : decode cX6_count 198 = .ok (.iadd, 1) := by decide +kernel
theorem dX6_count_199 : decode cX6_count 199 = .ok (.bipush 12, 2) := by decide +kernel
theorem dX6_count_201 : decode cX6_count 201 = .ok (.isub, 1) := by decide +kernel
theorem dX6_count_202 : decode cX6_count 202 = .ok (.iaload, 1) := by decide +kernel
theorem dX6_count_203 : decode cX6_count 203 = .ok (.bipush 9, 2) := by decide +kernel
theorem dX6_count_205 : decode cX6_count 205 = .ok (.iadd, 1) := by decide +kernel
theorem dX6_count_206 : decode cX6_count 206 = .ok (.ireturn, 1) := by decide +kernel
theorem dX6_count_207 : decode cX6_count 207 = .ok (.aload_n 0, 1) := by decide +kernel
theorem dX6_count_208 : decode cX6_count 208 = .ok (.getfield 7, 3) := by decide +kernel
theorem dX6_count_211 : decode cX6_count 211 = .ok (.sipush 479, 3) := by decide +kernel
theorem dX6_count_214 : decode cX6_count 214 = .ok (.iload_n 1, 1) := by decide +kernel
theorem dX6_count_215 : decode cX6_count 215 = .ok (.iadd, 1) := by decide +kernel
theorem dX6_count_216 : decode cX6_count 216 = .ok (.bipush 14, 2) := by decide +kernel
theorem dX6_count_218 : decode cX6_count 218 = .ok (.isub, 1) := by decide +kernel
theorem dX6_count_219 : decode cX6_count 219 = .ok (.iaload, 1) := by decide +kernel
theorem dX6_count_220 : decode cX6_count 220 = .ok (.ireturn, 1) := by decide +kernel
theorem dX6_count_221 : decode cX6_count 221 = .ok (.aload_n 0, 1) := by decide +kernel
theorem dX6_count_222 : decode cX6_count 222 = .ok (.getfield 30, 3) := by decide +kernel
theorem dX6_count_225 : decode cX6_count 225 = .ok (.ireturn, 1) := by decide +kernel
theorem dX6_count_226 : decode cX6_count 226 = .ok (.aload_n 0, 1) := by decide +kernel
theorem dX6_count_227 : decode cX6_count 227 = .ok (.getfield 108, 3) := by decide +kernel
theorem dX6_count_230 : decode cX6_count 230 = .ok (.ireturn, 1) := by decide +kernel
theorem dX6_count_231 : decode cX6_count 231 = .ok (.bipush (-2), 2) := by decide +kernel
theorem dX6_count_233 : decode cX6_count 233 = .ok (.ireturn, 1) := by decide +kernel
theorem dJ9_abs_0f7a4_0 : decode cJ9_abs_0f7a4 0 = .ok (.iload_n 0, 1) := by decide +kernel
theorem dJ9_abs_0f7a4_1 : decode cJ9_abs_0f7a4 1 = .ok (.ifCond .ge 8, 3) := by decide +kernel
theorem dJ9_abs_0f7a4_4 : decode cJ9_abs_0f7a4 4 = .ok (.iload_n 0, 1) := by decide +kernel
theorem dJ9_abs_0f7a4_5 : decode cJ9_abs_0f7a4 5 = .ok (.ineg, 1) := by decide +kernel
theorem dJ9_abs_0f7a4_6 : decode cJ9_abs_0f7a4 6 = .ok (.goto 4, 3) := by decide +kernel
theorem dJ9_abs_0f7a4_9 : decode cJ9_abs_0f7a4 9 = .ok (.iload_n 0, 1) := by decide +kernel
theorem dJ9_abs_0f7a4_10 : decode cJ9_abs_0f7a4 10 = .ok (.ireturn, 1) := by decide +kernel
theorem dJ9_max_7cf53_0 : decode cJ9_max_7cf53 0 = .ok (.iload_n 0, 1) := by decide +kernel
theorem dJ9_max_7cf53_1 : decode cJ9_max_7cf53 1 = .ok (.iload_n 1, 1) := by decide +kernel
theorem dJ9_max_7cf53_2 : decode cJ9_max_7cf53 2 = .ok (.if_icmp .lt 7, 3) := by decide +kernel
theorem dJ9_max_7cf53_5 : decode cJ9_max_7cf53 5 = .ok (.iload_n 0, 1) := by decide +kernel
theorem dJ9_max_7cf53_6 : decode cJ9_max_7cf53 6 = .ok (.goto 4, 3) := by decide +kernel
theorem dJ9_max_7cf53_9 : decode cJ9_max_7cf53 9 = .ok (.iload_n 1, 1) := by decide +kernel
theorem dJ9_max_7cf53_10 : decode cJ9_max_7cf53 10 = .ok (.ireturn, 1) := by decide +kernel
theorem dJ9_min_7cf53_0 : decode cJ9_min_7cf53 0 = .ok (.iload_n 0, 1) := by decide +kernel
theorem dJ9_min_7cf53_1 : decode cJ9_min_7cf53 1 = .ok (.iload_n 1, 1) := by decide +kernel
theorem dJ9_min_7cf53_2 : decode cJ9_min_7cf53 2 = .ok (.if_icmp .gt 7, 3) := by decide +kernel
theorem dJ9_min_7cf53_5 : decode cJ9_min_7cf53 5 = .ok (.iload_n 0, 1) := by decide +kernel
theorem dJ9_min_7cf53_6 : decode cJ9_min_7cf53 6 = .ok (.goto 4, 3) := by decide +kernel
theorem dJ9_min_7cf53_9 : decode cJ9_min_7cf53 9 = .ok (.iload_n 1, 1) := by decide +kernel
theorem dJ9_min_7cf53_10 : decode cJ9_min_7cf53 10 = .ok (.ireturn, 1) := by decide +kernel
