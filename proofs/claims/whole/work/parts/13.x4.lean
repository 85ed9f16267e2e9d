theorem dX4_init_0 : decode cX4_init 0 = .ok (.aload_n 0, 1) := by decide +kernel
theorem dX4_init_1 : decode cX4_init 1 = .ok (.invokespecial 1, 3) := by decide +kernel
theorem dX4_init_4 : decode cX4_init 4 = .ok (.aload_n 0, 1) := by decide +kernel
theorem dX4_init_5 : decode cX4_init 5 = .ok (.bipush 16, 2) := by decide +kernel
theorem dX4_init_7 : decode cX4_init 7 = .ok (.newarray .int, 2) := by decide +kernel
theorem dX4_init_9 : decode cX4_init 9 = .ok (.putfield 7, 3) := by decide +kernel
theorem dX4_init_12 : decode cX4_init 12 = .ok (.aload_n 0, 1) := by decide +kernel
theorem dX4_init_13 : decode cX4_init 13 = .ok (.bipush 16, 2) := by decide +kernel
theorem dX4_init_15 : decode cX4_init 15 = .ok (.newarray .int, 2) := by decide +kernel
theorem dX4_init_17 : decode cX4_init 17 = .ok (.putfield 13, 3) := by decide +kernel
theorem dX4_init_20 : decode cX4_init 20 = .ok (.aload_n 0, 1) := by decide +kernel
theorem dX4_init_21 : decode cX4_init 21 = .ok (.bipush 16, 2) := by decide +kernel
theorem dX4_init_23 : decode cX4_init 23 = .ok (.newarray .int, 2) := by decide +kernel
theorem dX4_init_25 : decode cX4_init 25 = .ok (.putfield 16, 3) := by decide +kernel
theorem dX4_init_28 : decode cX4_init 28 = .ok (.aload_n 0, 1) := by decide +kernel
theorem dX4_init_29 : decode cX4_init 29 = .ok (.bipush 16, 2) := by decide +kernel
theorem dX4_init_31 : decode cX4_init 31 = .ok (.newarray .boolean, 2) := by decide +kernel
theorem dX4_init_33 : decode cX4_init 33 = .ok (.putfield 19, 3) := by decide +kernel
theorem dX4_init_36 : decode cX4_init 36 = .ok (.aload_n 0, 1) := by decide +kernel
theorem dX4_init_37 : decode cX4_init 37 = .ok (.bipush 16, 2) := by decide +kernel
theorem dX4_init_39 : decode cX4_init 39 = .ok (.newarray .boolean, 2) := by decide +kernel
theorem dX4_init_41 : decode cX4_init 41 = .ok (.putfield 23, 3) := by decide +kernel
theorem dX4_init_44 : decode cX4_init 44 = .ok (.aload_n 0, 1) := by decide +kernel
theorem dX4_init_45 : decode cX4_init 45 = .ok (.bipush 16, 2) := by decide +kernel
theorem dX4_init_47 : decode cX4_init 47 = .ok (.newarray .int, 2) := by decide +kernel
theorem dX4_init_49 : decode cX4_init 49 = .ok (.putfield 26, 3) := by decide +kernel
theorem dX4_init_52 : decode cX4_init 52 = .ok (.aload_n 0, 1) := by decide +kernel
theorem dX4_init_53 : decode cX4_init 53 = .ok (.sipush 192, 3) := by decide +kernel
theorem dX4_init_56 : decode cX4_init 56 = .ok (.newarray .int, 2) := by decide +kernel
theorem dX4_init_58 : decode cX4_init 58 = .ok (.putfield 29, 3) := by decide +kernel
theorem dX4_init_61 : decode cX4_init 61 = .ok (.aload_n 0, 1) := by decide +kernel
theorem dX4_init_62 : decode cX4_init 62 = .ok (.sipush 192, 3) := by decide +kernel
theorem dX4_init_65 : decode cX4_init 65 = .ok (.newarray .int, 2) := by decide +kernel
theorem dX4_init_67 : decode cX4_init 67 = .ok (.putfield 32, 3) := by decide +kernel
theorem dX4_init_70 : decode cX4_init 70 = .ok (.aload_n 0, 1) := by decide +kernel
theorem dX4_init_71 : decode cX4_init 71 = .ok (.sipush 192, 3) := by decide +kernel
theorem dX4_init_74 : decode cX4_init 74 = .ok (.newarray .int, 2) := by decide +kernel
theorem dX4_init_76 : decode cX4_init 76 = .ok (.putfield 35, 3) := by decide +kernel
theorem dX4_init_79 : decode cX4_init 79 = .ok (.aload_n 0, 1) := by decide +kernel
theorem dX4_init_80 : decode cX4_init 80 = .ok (.bipush 14, 2) := by decide +kernel
theorem dX4_init_82 : decode cX4_init 82 = .ok (.newarray .int, 2) := by decide +kernel
theorem dX4_init_84 : decode cX4_init 84 = .ok (.putfield 38, 3) := by decide +kernel
theorem dX4_init_87 : decode cX4_init 87 = .ok (.aload_n 0, 1) := by decide +kernel
theorem dX4_init_88 : decode cX4_init 88 = .ok (.bipush 10, 2) := by decide +kernel
theorem dX4_init_90 : decode cX4_init 90 = .ok (.newarray .int, 2) := by decide +kernel
theorem dX4_init_92 : decode cX4_init 92 = .ok (.putfield 41, 3) := by decide +kernel
theorem dX4_init_95 : decode cX4_init 95 = .ok (.aload_n 0, 1) := by decide +kernel
theorem dX4_init_96 : decode cX4_init 96 = .ok (.bipush 10, 2) := by decide +kernel
theorem dX4_init_98 : decode cX4_init 98 = .ok (.newarray .int, 2) := by decide +kernel
theorem dX4_init_100 : decode cX4_init 100 = .ok (.putfield 44, 3) := by decide +kernel
theorem dX4_init_103 : decode cX4_init 103 = .ok (.aload_n 0, 1) := by decide +kernel
theorem dX4_init_104 : decode cX4_init 104 = .ok (.bipush 10, 2) := by decide +kernel
theorem dX4_init_106 : decode cX4_init 106 = .ok (.newarray .int, 2) := by decide +kernel
theorem dX4_init_108 : decode cX4_init 108 = .ok (.putfield 47, 3) := by decide +kernel
theorem dX4_init_111 : decode cX4_init 111 = .ok (.aload_n 0, 1) := by decide +kernel
theorem dX4_init_112 : decode cX4_init 112 = .ok (.bipush 10, 2) := by decide +kernel
theorem dX4_init_114 : decode cX4_init 114 = .ok (.newarray .int, 2) := by decide +kernel
theorem dX4_init_116 : decode cX4_init 116 = .ok (.putfield 50, 3) := by decide +kernel
theorem dX4_init_119 : decode cX4_init 119 = .ok (.aload_n 0, 1) := by decide +kernel
theorem dX4_init_120 : decode cX4_init 120 = .ok (.bipush 10, 2) := by decide +kernel
theorem dX4_init_122 : decode cX4_init 122 = .ok (.newarray .boolean, 2) := by decide +kernel
theorem dX4_init_124 : decode cX4_init 124 = .ok (.putfield 53, 3) := by decide +kernel
theorem dX4_init_127 : decode cX4_init 127 = .ok (.aload_n 0, 1) := by decide +kernel
theorem dX4_init_128 : decode cX4_init 128 = .ok (.bipush 12, 2) := by decide +kernel
theorem dX4_init_130 : decode cX4_init 130 = .ok (.newarray .int, 2) := by decide +kernel
theorem dX4_init_132 : decode cX4_init 132 = .ok (.putfield 56, 3) := by decide +kernel
theorem dX4_init_135 : decode cX4_init 135 = .ok (.aload_n 0, 1) := by decide +kernel
theorem dX4_init_136 : decode cX4_init 136 = .ok (.bipush 12, 2) := by decide +kernel
theorem dX4_init_138 : decode cX4_init 138 = .ok (.newarray .int, 2) := by decide +kernel
theorem dX4_init_140 : decode cX4_init 140 = .ok (.putfield 59, 3) := by decide +kernel
theorem dX4_init_143 : decode cX4_init 143 = .ok (.iconst 0, 1) := by decide +kernel
theorem dX4_init_144 : decode cX4_init 144 = .ok (.istore_n 1, 1) := by decide +kernel
theorem dX4_init_145 : decode cX4_init 145 = .ok (.iload_n 1, 1) := by decide +kernel
theorem dX4_init_146 : decode cX4_init 146 = .ok (.bipush 14, 2) := by decide +kernel
theorem dX4_init_148 : decode cX4_init 148 = .ok (.if_icmp .ge 16, 3) := by decide +kernel
theorem dX4_init_151 : decode cX4_init 151 = .ok (.aload_n 0, 1) := by decide +kernel
theorem dX4_init_152 : decode cX4_init 152 = .ok (.getfield 38, 3) := by decide +kernel
theorem dX4_init_155 : decode cX4_init 155 = .ok (.iload_n 1, 1) := by decide +kernel
theorem dX4_init_156 : decode cX4_init 156 = .ok (.iconst 5, 1) := by decide +kernel
theorem dX4_init_157 : decode cX4_init 157 = .ok (.iastore, 1) := by decide +kernel
theorem dX4_init_158 : decode cX4_init 158 = .ok (.iinc 1 1, 3) := by decide +kernel
theorem dX4_init_161 : decode cX4_init 161 = .ok (.goto (-16), 3) := by decide +kernel
theorem dX4_init_164 : decode cX4_init 164 = .ok (.iconst 0, 1) := by decide +kernel
theorem dX4_init_165 : decode cX4_init 165 = .ok (.istore_n 1, 1) := by decide +kernel
theorem dX4_init_166 : decode cX4_init 166 = .ok (.iload_n 1, 1) := by decide +kernel
theorem dX4_init_167 : decode cX4_init 167 = .ok (.bipush 10, 2) := by decide +kernel
theorem dX4_init_169 : decode cX4_init 169 = .ok (.if_icmp .ge 23, 3) := by decide +kernel
theorem dX4_init_172 : decode cX4_init 172 = .ok (.aload_n 0, 1) := by decide +kernel
theorem dX4_init_173 : decode cX4_init 173 = .ok (.getfield 41, 3) := by decide +kernel
theorem dX4_init_176 : decode cX4_init 176 = .ok (.iload_n 1, 1) := by decide +kernel
theorem dX4_init_177 : decode cX4_init 177 = .ok (.iconst 3, 1) := by decide +kernel
theorem dX4_init_178 : decode cX4_init 178 = .ok (.iastore, 1) := by decide +kernel
theorem dX4_init_179 : decode cX4_init 179 = .ok (.aload_n 0, 1) := by decide +kernel
theorem dX4_init_180 : decode cX4_init 180 = .ok (.getfield 44, 3) := by decide +kernel
theorem dX4_init_183 : decode cX4_init 183 = .ok (.iload_n 1, 1) := by decide +kernel
theorem dX4_init_184 : decode cX4_init 184 = .ok (.iconst (-1), 1) := by decide +kernel
theorem dX4_init_185 : decode cX4_init 185 = .ok (.iastore, 1) := by decide +kernel
theorem dX4_init_186 : decode cX4_init 186 = .ok (.iinc 1 1, 3) := by decide +kernel
theorem dX4_init_189 : decode cX4_init 189 = .ok (.goto (-23), 3) := by decide +kernel
theorem dX4_init_192 : decode cX4_init 192 = .ok (.return_, 1) := by decide +kernel
theorem dX4_thrown_0 : decode cX4_thrown 0 = .ok (.aload_n 0, 1) := by decide +kernel
theorem dX4_thrown_1 : decode cX4_thrown 1 = .ok (.getfield 62, 3) := by decide +kernel
theorem dX4_thrown_4 : decode cX4_thrown 4 = .ok (.ireturn, 1) := by decide +kernel
theorem dX4_in_0 : decode cX4_in 0 = .ok (.iload_n 0, 1) := by decide +kernel
theorem dX4_in_1 : decode cX4_in 1 = .ok (.iload_n 1, 1) := by decide +kernel
theorem dX4_in_2 : decode cX4_in 2 = .ok (.if_icmp .lt 12, 3) := by decide +kernel
theorem dX4_in_5 : decode cX4_in 5 = .ok (.iload_n 0, 1) := by decide +kernel
theorem dX4_in_6 : decode cX4_in 6 = .ok (.iload_n 2, 1) := by decide +kernel
theorem dX4_in_7 : decode cX4_in 7 = .ok (.if_icmp .gt 7, 3) := by decide +kernel
theorem dX4_in_10 : decode cX4_in 10 = .ok (.iconst 1, 1) := by decide +kernel
theorem dX4_in_11 : decode cX4_in 11 = .ok (.goto 4, 3) := by decide +kernel
theorem dX4_in_14 : decode cX4_in 14 = .ok (.iconst 0, 1) := by decide +kernel
theorem dX4_in_15 : decode cX4_in 15 = .ok (.ireturn, 1) := by decide +kernel
theorem dX4_asked_0 : decode cX4_asked 0 = .ok (.aload_n 0, 1) := by decide +kernel
theorem dX4_asked_1 : decode cX4_asked 1 = .ok (.iload_n 1, 1) := by decide +kernel
theorem dX4_asked_2 : decode cX4_asked 2 = .ok (.ifCond .eq 7, 3) := by decide +kernel
theorem dX4_asked_5 : decode cX4_asked 5 = .ok (.iconst 0, 1) := by decide +kernel
theorem dX4_asked_6 : decode cX4_asked 6 = .ok (.goto 4, 3) := by decide +kernel
theorem dX4_asked_9 : decode cX4_asked 9 = .ok (.iconst 1, 1) := by decide +kernel
theorem dX4_asked_10 : decode cX4_asked 10 = .ok (.putfield 62, 3) := by decide +kernel
theorem dX4_asked_13 : decode cX4_asked 13 = .ok (.iload_n 1, 1) := by decide +kernel
theorem dX4_asked_14 : decode cX4_asked 14 = .ok (.ireturn, 1) := by decide +kernel
theorem dX4_asked__0 : decode cX4_asked_ 0 = .ok (.aload_n 0, 1) := by decide +kernel
theorem dX4_asked__1 : decode cX4_asked_ 1 = .ok (.iload_n 1, 1) := by decide +kernel
theorem dX4_asked__2 : decode cX4_asked_ 2 = .ok (.ifCond .ne 7, 3) := by decide +kernel
theorem dX4_asked__5 : decode cX4_asked_ 5 = .ok (.iconst 1, 1) := by decide +kernel
theorem dX4_asked__6 : decode cX4_asked_ 6 = .ok (.goto 12, 3) := by decide +kernel
theorem dX4_asked__9 : decode cX4_asked_ 9 = .ok (.iload_n 2, 1) := by decide +kernel
theorem dX4_asked__10 : decode cX4_asked_ 10 = .ok (.ifCond .eq 7, 3) := by decide +kernel
theorem dX4_asked__13 : decode cX4_asked_ 13 = .ok (.iconst 0, 1) := by decide +kernel
theorem dX4_asked__14 : decode cX4_asked_ 14 = .ok (.goto 4, 3) := by decide +kernel
theorem dX4_asked__17 : decode cX4_asked_ 17 = .ok (.iconst 2, 1) := by decide +kernel
theorem dX4_asked__18 : decode cX4_asked_ 18 = .ok (.putfield 62, 3) := by decide +kernel
theorem dX4_asked__21 : decode cX4_asked_ 21 = .ok (.aload_n 0, 1) := by decide +kernel
theorem dX4_asked__22 : decode cX4_asked_ 22 = .ok (.getfield 62, 3) := by decide +kernel
theorem dX4_asked__25 : decode cX4_asked_ 25 = .ok (.ifCond .ne 7, 3) := by decide +kernel
theorem dX4_asked__28 : decode cX4_asked_ 28 = .ok (.iconst 1, 1) := by decide +kernel
theorem dX4_asked__29 : decode cX4_asked_ 29 = .ok (.goto 4, 3) := by decide +kernel
theorem dX4_asked__32 : decode cX4_asked_ 32 = .ok (.iconst 0, 1) := by decide +kernel
theorem dX4_asked__33 : decode cX4_asked_ 33 = .ok (.ireturn, 1) := by decide +kernel
theorem dX4_asked___0 : decode cX4_asked__ 0 = .ok (.aload_n 0, 1) := by decide +kernel
theorem dX4_asked___1 : decode cX4_asked__ 1 = .ok (.iload_n 1, 1) := by decide +kernel
theorem dX4_asked___2 : decode cX4_asked__ 2 = .ok (.ifCond .ne 7, 3) := by decide +kernel
theorem dX4_asked___5 : decode cX4_asked__ 5 = .ok (.iconst 1, 1) := by decide +kernel
theorem dX4_asked___6 : decode cX4_asked__ 6 = .ok (.goto 20, 3) := by decide +kernel
theorem dX4_asked___9 : decode cX4_asked__ 9 = .ok (.iload_n 2, 1) := by decide +kernel
theorem dX4_asked___10 : decode cX4_asked__ 10 = .ok (.ifCond .ne 7, 3) := by decide +kernel
theorem dX4_asked___13 : decode cX4_asked__ 13 = .ok (.iconst 2, 1) := by decide +kernel
theorem dX4_asked___14 : decode cX4_asked__ 14 = .ok (.goto 12, 3) := by decide +kernel
theorem dX4_asked___17 : decode cX4_asked__ 17 = .ok (.iload_n 3, 1) := by decide +kernel
theorem dX4_asked___18 : decode cX4_asked__ 18 = .ok (.ifCond .eq 7, 3) := by decide +kernel
theorem dX4_asked___21 : decode cX4_asked__ 21 = .ok (.iconst 0, 1) := by decide +kernel
theorem dX4_asked___22 : decode cX4_asked__ 22 = .ok (.goto 4, 3) := by decide +kernel
theorem dX4_asked___25 : decode cX4_asked__ 25 = .ok (.iconst 3, 1) := by decide +kernel
theorem dX4_asked___26 : decode cX4_asked__ 26 = .ok (.putfield 62, 3) := by decide +kernel
theorem dX4_asked___29 : decode cX4_asked__ 29 = .ok (.aload_n 0, 1) := by decide +kernel
theorem dX4_asked___30 : decode cX4_asked__ 30 = .ok (.getfield 62, 3) := by decide +kernel
theorem dX4_asked___33 : decode cX4_asked__ 33 = .ok (.ifCond .ne 7, 3) := by decide +kernel
theorem dX4_asked___36 : decode cX4_asked__ 36 = .ok (.iconst 1, 1) := by decide +kernel
theorem dX4_asked___37 : decode cX4_asked__ 37 = .ok (.goto 4, 3) := by decide +kernel
theorem dX4_asked___40 : decode cX4_asked__ 40 = .ok (.iconst 0, 1) := by decide +kernel
theorem dX4_asked___41 : decode cX4_asked__ 41 = .ok (.ireturn, 1) := by decide +kernel
theorem dX4_told_0 : decode cX4_told 0 = .ok (.aload_n 0, 1) := by decide +kernel
theorem dX4_told_1 : decode cX4_told 1 = .ok (.iconst 0, 1) := by decide +kernel
theorem dX4_told_2 : decode cX4_told 2 = .ok (.putfield 62, 3) := by decide +kernel
theorem dX4_told_5 : decode cX4_told 5 = .ok (.iload_n 1, 1) := by decide +kernel
theorem dX4_told_6 : decode cX4_told 6 = .ok (.ireturn, 1) := by decide +kernel
set_option maxRecDepth 20000 in
theorem ggX4_isBox_X4_in : GoodIn wsX4_isBox wsX4_in := goodIn_r _ [5] (by decide +kernel) (by decide +kernel)
set_option maxRecDepth 20000 in
theorem gX4_isBox_X4_in : GoodIn wsX4_isBox (va_wsS RX4 69 yX4_in wsX4_in) := goodIn_app (goodIn_of _ (by decide +kernel)) ggX4_isBox_X4_in
theorem dX4_isBox_0 : decode cX4_isBox 0 = .ok (.iload_n 1, 1) := by decide +kernel
theorem dX4_isBox_1 : decode cX4_isBox 1 = .ok (.iconst 0, 1) := by decide +kernel
theorem dX4_isBox_2 : decode cX4_isBox 2 = .ok (.aload_n 0, 1) := by decide +kernel
theorem dX4_isBox_3 : decode cX4_isBox 3 = .ok (.getfield 66, 3) := by decide +kernel
theorem dX4_isBox_6 : decode cX4_isBox 6 = .ok (.iconst 1, 1) := by decide +kernel
theorem dX4_isBox_7 : decode cX4_isBox 7 = .ok (.isub, 1) := by decide +kernel
theorem dX4_isBox_8 : decode cX4_isBox 8 = .ok (.invokestatic 69, 3) := by decide +kernel
theorem dX4_isBox_11 : decode cX4_isBox 11 = .ok (.ireturn, 1) := by decide +kernel
set_option maxRecDepth 20000 in
theorem ggX4_isDoor_X4_in : GoodIn wsX4_isDoor wsX4_in := goodIn_r _ [4] (by decide +kernel) (by decide +kernel)
set_option maxRecDepth 20000 in
theorem gX4_isDoor_X4_in : GoodIn wsX4_isDoor (va_wsS RX4 69 yX4_in wsX4_in) := goodIn_app (goodIn_of _ (by decide +kernel)) ggX4_isDoor_X4_in
theorem dX4_isDoor_0 : decode cX4_isDoor 0 = .ok (.iload_n 0, 1) := by decide +kernel
theorem dX4_isDoor_1 : decode cX4_isDoor 1 = .ok (.iconst 0, 1) := by decide +kernel
theorem dX4_isDoor_2 : decode cX4_isDoor 2 = .ok (.bipush 9, 2) := by decide +kernel
theorem dX4_isDoor_4 : decode cX4_isDoor 4 = .ok (.invokestatic 69, 3) := by decide +kernel
theorem dX4_isDoor_7 : decode cX4_isDoor 7 = .ok (.ireturn, 1) := by decide +kernel
set_option maxRecDepth 20000 in
theorem ggX4_isPlace_X4_in : GoodIn wsX4_isPlace wsX4_in := goodIn_r _ [4] (by decide +kernel) (by decide +kernel)
set_option maxRecDepth 20000 in
theorem gX4_isPlace_X4_in : GoodIn wsX4_isPlace (va_wsS RX4 69 yX4_in wsX4_in) := goodIn_app (goodIn_of _ (by decide +kernel)) ggX4_isPlace_X4_in
theorem dX4_isPlace_0 : decode cX4_isPlace 0 = .ok (.iload_n 0, 1) := by decide +kernel
theorem dX4_isPlace_1 : decode cX4_isPlace 1 = .ok (.iconst 0, 1) := by decide +kernel
theorem dX4_isPlace_2 : decode cX4_isPlace 2 = .ok (.iconst 4, 1) := by decide +kernel
theorem dX4_isPlace_3 : decode cX4_isPlace 3 = .ok (.invokestatic 69, 3) := by decide +kernel
theorem dX4_isPlace_6 : decode cX4_isPlace 6 = .ok (.ifCond .ne 20, 3) := by decide +kernel
theorem dX4_isPlace_9 : decode cX4_isPlace 9 = .ok (.iload_n 0, 1) := by decide +kernel
theorem dX4_isPlace_10 : decode cX4_isPlace 10 = .ok (.bipush 10, 2) := by decide +kernel
theorem dX4_isPlace_12 : decode cX4_isPlace 12 = .ok (.bipush 19, 2) := by decide +kernel
theorem dX4_isPlace_14 : decode cX4_isPlace 14 = .ok (.invokestatic 69, 3) := by decide +kernel
theorem dX4_isPlace_17 : decode cX4_isPlace 17 = .ok (.ifCond .ne 9, 3) := by decide +kernel
theorem dX4_isPlace_20 : decode cX4_isPlace 20 = .ok (.iload_n 0, 1) := by decide +kernel
theorem dX4_isPlace_21 : decode cX4_isPlace 21 = .ok (.bipush 30, 2) := by decide +kernel
theorem dX4_isPlace_23 : decode cX4_isPlace 23 = .ok (.if_icmp .ne 7, 3) := by decide +kernel
theorem dX4_isPlace_26 : decode cX4_isPlace 26 = .ok (.iconst 1, 1) := by decide +kernel
theorem dX4_isPlace_27 : decode cX4_isPlace 27 = .ok (.goto 4, 3) := by decide +kernel
theorem dX4_isPlace_30 : decode cX4_isPlace 30 = .ok (.iconst 0, 1) := by decide +kernel
theorem dX4_isPlace_31 : decode cX4_isPlace 31 = .ok (.ireturn, 1) := by decide +kernel
theorem dX4_sort_0 : decode cX4_sort 0 = .ok (.iload_n 0, 1) := by decide +kernel
theorem dX4_sort_1 : decode cX4_sort 1 = .ok (.ifCond .ne 7, 3) := by decide +kernel
theorem dX4_sort_4 : decode cX4_sort 4 = .ok (.iconst 0, 1) := by decide +kernel
theorem dX4_sort_5 : decode cX4_sort 5 = .ok (.goto 24, 3) := by decide +kernel
theorem dX4_sort_8 : decode cX4_sort 8 = .ok (.iload_n 0, 1) := by decide +kernel
theorem dX4_sort_9 : decode cX4_sort 9 = .ok (.bipush 10, 2) := by decide +kernel
theorem dX4_sort_11 : decode cX4_sort 11 = .ok (.if_icmp .ge 7, 3) := by decide +kernel
theorem dX4_sort_14 : decode cX4_sort 14 = .ok (.iconst 1, 1) := by decide +kernel
theorem dX4_sort_15 : decode cX4_sort 15 = .ok (.goto 14, 3) := by decide +kernel
theorem dX4_sort_18 : decode cX4_sort 18 = .ok (.iload_n 0, 1) := by decide +kernel
theorem dX4_sort_19 : decode cX4_sort 19 = .ok (.bipush 30, 2) := by decide +kernel
theorem dX4_sort_21 : decode cX4_sort 21 = .ok (.if_icmp .ge 7, 3) := by decide +kernel
theorem dX4_sort_24 : decode cX4_sort 24 = .ok (.iconst 2, 1) := by decide +kernel
theorem dX4_sort_25 : decode cX4_sort 25 = .ok (.goto 4, 3) := by decide +kernel
theorem dX4_sort_28 : decode cX4_sort 28 = .ok (.iconst 3, 1) := by decide +kernel
theorem dX4_sort_29 : decode cX4_sort 29 = .ok (.ireturn, 1) := by decide +kernel
set_option maxRecDepth 20000 in
theorem ggX4_minutes_X4_sort : GoodIn wsX4_minutes wsX4_sort := goodIn_r _ [5] (by decide +kernel) (by decide +kernel)
set_option maxRecDepth 20000 in
theorem gX4_minutes_X4_sort : GoodIn wsX4_minutes (va_wsS RX4 73 yX4_sort wsX4_sort) := goodIn_app (goodIn_of _ (by decide +kernel)) ggX4_minutes_X4_sort
theorem dX4_minutes_0 : decode cX4_minutes 0 = .ok (.iload_n 0, 1) := by decide +kernel
theorem dX4_minutes_1 : decode cX4_minutes 1 = .ok (.invokestatic 73, 3) := by decide +kernel
theorem dX4_minutes_4 : decode cX4_minutes 4 = .ok (.istore_n 2, 1) := by decide +kernel
theorem dX4_minutes_5 : decode cX4_minutes 5 = .ok (.iload_n 1, 1) := by decide +kernel
theorem dX4_minutes_6 : decode cX4_minutes 6 = .ok (.invokestatic 73, 3) := by decide +kernel
theorem dX4_minutes_9 : decode cX4_minutes 9 = .ok (.istore_n 3, 1) := by decide +kernel
theorem dX4_minutes_10 : decode cX4_minutes 10 = .ok (.iload_n 0, 1) := by decide +kernel
theorem dX4_minutes_11 : decode cX4_minutes 11 = .ok (.iload_n 1, 1) := by decide +kernel
theorem dX4_minutes_12 : decode cX4_minutes 12 = .ok (.if_icmp .ne 5, 3) := by decide +kernel
theorem dX4_minutes_15 : decode cX4_minutes 15 = .ok (.iconst 0, 1) := by decide +kernel
theorem dX4_minutes_16 : decode cX4_minutes 16 = .ok (.ireturn, 1) := by decide +kernel
theorem dX4_minutes_17 : decode cX4_minutes 17 = .ok (.iload_n 2, 1) := by decide +kernel
theorem dX4_minutes_18 : decode cX4_minutes 18 = .ok (.iconst 3, 1) := by decide +kernel
theorem dX4_minutes_19 : decode cX4_minutes 19 = .ok (.if_icmp .ne 6, 3) := by decide +kernel
theorem dX4_minutes_22 : decode cX4_minutes 22 = .ok (.ldc 77, 2) := by decide +kernel
theorem dX4_minutes_24 : decode cX4_minutes 24 = .ok (.ireturn, 1) := by decide +kernel
theorem dX4_minutes_25 : decode cX4_minutes 25 = .ok (.iload_n 3, 1) := by decide +kernel
theorem dX4_minutes_26 : decode cX4_minutes 26 = .ok (.iconst 3, 1) := by decide +kernel
theorem dX4_minutes_27 : decode cX4_minutes 27 = .ok (.if_icmp .ne 23, 3) := by decide +kernel
theorem dX4_minutes_30 : decode cX4_minutes 30 = .ok (.iload_n 2, 1) := by decide +kernel
theorem dX4_minutes_31 : decode cX4_minutes 31 = .ok (.ifCond .ne 8, 3) := by decide +kernel
theorem dX4_minutes_34 : decode cX4_minutes 34 = .ok (.bipush 9, 2) := by decide +kernel
theorem dX4_minutes_36 : decode cX4_minutes 36 = .ok (.goto 13, 3) := by decide +kernel
theorem dX4_minutes_39 : decode cX4_minutes 39 = .ok (.iload_n 2, 1) := by decide +kernel
theorem dX4_minutes_40 : decode cX4_minutes 40 = .ok (.iconst 1, 1) := by decide +kernel
theorem dX4_minutes_41 : decode cX4_minutes 41 = .ok (.if_icmp .ne 7, 3) := by decide +kernel
theorem dX4_minutes_44 : decode cX4_minutes 44 = .ok (.iconst 4, 1) := by decide +kernel
theorem dX4_minutes_45 : decode cX4_minutes 45 = .ok (.goto 4, 3) := by decide +kernel
theorem dX4_minutes_48 : decode cX4_minutes 48 = .ok (.iconst 2, 1) := by decide +kernel
theorem dX4_minutes_49 : decode cX4_minutes 49 = .ok (.ireturn, 1) := by decide +kernel
theorem dX4_minutes_50 : decode cX4_minutes 50 = .ok (.iload_n 2, 1) := by decide +kernel
theorem dX4_minutes_51 : decode cX4_minutes 51 = .ok (.iload_n 3, 1) := by decide +kernel
theorem dX4_minutes_52 : decode cX4_minutes 52 = .ok (.if_icmp .ne 16, 3) := by decide +kernel
theorem dX4_minutes_55 : decode cX4_minutes 55 = .ok (.iload_n 2, 1) := by decide +kernel
theorem dX4_minutes_56 : decode cX4_minutes 56 = .ok (.iconst 1, 1) := by decide +kernel
theorem dX4_minutes_57 : decode cX4_minutes 57 = .ok (.if_icmp .ne 8, 3) := by decide +kernel
theorem dX4_minutes_60 : decode cX4_minutes 60 = .ok (.bipush 10, 2) := by decide +kernel
theorem dX4_minutes_62 : decode cX4_minutes 62 = .ok (.goto 5, 3) := by decide +kernel
theorem dX4_minutes_65 : decode cX4_minutes 65 = .ok (.bipush 6, 2) := by decide +kernel
theorem dX4_minutes_67 : decode cX4_minutes 67 = .ok (.ireturn, 1) := by decide +kernel
theorem dX4_minutes_68 : decode cX4_minutes 68 = .ok (.iload_n 2, 1) := by decide +kernel
theorem dX4_minutes_69 : decode cX4_minutes 69 = .ok (.iload_n 3, 1) := by decide +kernel
theorem dX4_minutes_70 : decode cX4_minutes 70 = .ok (.iadd, 1) := by decide +kernel
theorem dX4_minutes_71 : decode cX4_minutes 71 = .ok (.iconst 1, 1) := by decide +kernel
theorem dX4_minutes_72 : decode cX4_minutes 72 = .ok (.if_icmp .ne 7, 3) := by decide +kernel
theorem dX4_minutes_75 : decode cX4_minutes 75 = .ok (.iconst 5, 1) := by decide +kernel
theorem dX4_minutes_76 : decode cX4_minutes 76 = .ok (.goto 16, 3) := by decide +kernel
theorem dX4_minutes_79 : decode cX4_minutes 79 = .ok (.iload_n 2, 1) := by decide +kernel
theorem dX4_minutes_80 : decode cX4_minutes 80 = .ok (.iload_n 3, 1) := by decide +kernel
theorem dX4_minutes_81 : decode cX4_minutes 81 = .ok (.iadd, 1) := by decide +kernel
theorem dX4_minutes_82 : decode cX4_minutes 82 = .ok (.iconst 3, 1) := by decide +kernel
theorem dX4_minutes_83 : decode cX4_minutes 83 = .ok (.if_icmp .ne 7, 3) := by decide +kernel
theorem dX4_minutes_86 : decode cX4_minutes 86 = .ok (.iconst 3, 1) := by decide +kernel
theorem dX4_minutes_87 : decode cX4_minutes 87 = .ok (.goto 5, 3) := by decide +kernel
theorem dX4_minutes_90 : decode cX4_minutes 90 = .ok (.bipush 8, 2) := by decide +kernel
theorem dX4_minutes_92 : decode cX4_minutes 92 = .ok (.ireturn, 1) := by decide +kernel
theorem dX4_trustOf_0 : decode cX4_trustOf 0 = .ok (.aload_n 0, 1) := by decide +kernel
theorem dX4_trustOf_1 : decode cX4_trustOf 1 = .ok (.getfield 35, 3) := by decide +kernel
theorem dX4_trustOf_4 : decode cX4_trustOf 4 = .ok (.iload_n 1, 1) := by decide +kernel
theorem dX4_trustOf_5 : decode cX4_trustOf 5 = .ok (.iaload, 1) := by decide +kernel
theorem dX4_trustOf_6 : decode cX4_trustOf 6 = .ok (.istore_n 2, 1) := by decide +kernel
theorem dX4_trustOf_7 : decode cX4_trustOf 7 = .ok (.iload_n 2, 1) := by decide +kernel
theorem dX4_trustOf_8 : decode cX4_trustOf 8 = .ok (.iconst (-1), 1) := by decide +kernel
theorem dX4_trustOf_9 : decode cX4_trustOf 9 = .ok (.if_icmp .ne 8, 3) := by decide +kernel
theorem dX4_trustOf_12 : decode cX4_trustOf 12 = .ok (.bipush 50, 2) := by decide +kernel
theorem dX4_trustOf_14 : decode cX4_trustOf 14 = .ok (.goto 29, 3) := by decide +kernel
theorem dX4_trustOf_17 : decode cX4_trustOf 17 = .ok (.iload_n 2, 1) := by decide +kernel
theorem dX4_trustOf_18 : decode cX4_trustOf 18 = .ok (.iconst 3, 1) := by decide +kernel
theorem dX4_trustOf_19 : decode cX4_trustOf 19 = .ok (.if_icmp .le 18, 3) := by decide +kernel
theorem dX4_trustOf_22 : decode cX4_trustOf 22 = .ok (.aload_n 0, 1) := by decide +kernel
theorem dX4_trustOf_23 : decode cX4_trustOf 23 = .ok (.getfield 53, 3) := by decide +kernel
theorem dX4_trustOf_26 : decode cX4_trustOf 26 = .ok (.iload_n 2, 1) := by decide +kernel
theorem dX4_trustOf_27 : decode cX4_trustOf 27 = .ok (.iconst 4, 1) := by decide +kernel
theorem dX4_trustOf_28 : decode cX4_trustOf 28 = .ok (.isub, 1) := by decide +kernel
theorem dX4_trustOf_29 : decode cX4_trustOf 29 = .ok (.baload, 1) := by decide +kernel
theorem dX4_trustOf_30 : decode cX4_trustOf 30 = .ok (.ifCond .eq 7, 3) := by decide +kernel
theorem dX4_trustOf_33 : decode cX4_trustOf 33 = .ok (.iconst 1, 1) := by decide +kernel
theorem dX4_trustOf_34 : decode cX4_trustOf 34 = .ok (.goto 9, 3) := by decide +kernel
theorem dX4_trustOf_37 : decode cX4_trustOf 37 = .ok (.aload_n 0, 1) := by decide +kernel
theorem dX4_trustOf_38 : decode cX4_trustOf 38 = .ok (.getfield 38, 3) := by decide +kernel
theorem dX4_trustOf_41 : decode cX4_trustOf 41 = .ok (.iload_n 2, 1) := by decide +kernel
theorem dX4_trustOf_42 : decode cX4_trustOf 42 = .ok (.iaload, 1) := by decide +kernel
theorem dX4_trustOf_43 : decode cX4_trustOf 43 = .ok (.ireturn, 1) := by decide +kernel
set_option maxRecDepth 20000 in
theorem ggX4_storyOf_X4_minutes : GoodIn wsX4_storyOf wsX4_minutes := goodIn_r _ [9, 10, 11, 12, 8, 13] (by decide +kernel) (by decide +kernel)
set_option maxRecDepth 20000 in
theorem gX4_storyOf_X4_minutes : GoodIn wsX4_storyOf (va_wsS RX4 78 yX4_minutes wsX4_minutes) := goodIn_app (goodIn_of _ (by decide +kernel)) ggX4_storyOf_X4_minutes
set_option maxRecDepth 20000 in
theorem ggX4_storyOf_X4_trustOf : GoodIn wsX4_storyOf wsX4_trustOf := goodIn_r _ [17, 18, 19, 20, 21, 22, 23, 24, 25, 26, 27, 28, 29, 30, 31, 32, 33, 34, 35, 36, 37, 38, 39, 40, 41, 42, 43] (by decide +kernel) (by decide +kernel)
set_option maxRecDepth 20000 in
theorem gX4_storyOf_X4_trustOf : GoodIn wsX4_storyOf (wsV RX4 82 RX4 yX4_trustOf wsX4_trustOf) := goodIn_app (goodIn_of _ (by decide +kernel)) ggX4_storyOf_X4_trustOf
theorem dX4_storyOf_0 : decode cX4_storyOf 0 = .ok (.iconst 0, 1) := by decide +kernel
theorem dX4_storyOf_1 : decode cX4_storyOf 1 = .ok (.istore_n 2, 1) := by decide +kernel
theorem dX4_storyOf_2 : decode cX4_storyOf 2 = .ok (.iconst 0, 1) := by decide +kernel
theorem dX4_storyOf_3 : decode cX4_storyOf 3 = .ok (.istore_n 3, 1) := by decide +kernel
theorem dX4_storyOf_4 : decode cX4_storyOf 4 = .ok (.iconst 0, 1) := by decide +kernel
theorem dX4_storyOf_5 : decode cX4_storyOf 5 = .ok (.istore 4, 2) := by decide +kernel
theorem dX4_storyOf_7 : decode cX4_storyOf 7 = .ok (.iload 4, 2) := by decide +kernel
theorem dX4_storyOf_9 : decode cX4_storyOf 9 = .ok (.aload_n 0, 1) := by decide +kernel
theorem dX4_storyOf_10 : decode cX4_storyOf 10 = .ok (.getfield 16, 3) := by decide +kernel
theorem dX4_storyOf_13 : decode cX4_storyOf 13 = .ok (.iload_n 1, 1) := by decide +kernel
theorem dX4_storyOf_14 : decode cX4_storyOf 14 = .ok (.iaload, 1) := by decide +kernel
theorem dX4_storyOf_15 : decode cX4_storyOf 15 = .ok (.if_icmp .ge 301, 3) := by decide +kernel
theorem dX4_storyOf_18 : decode cX4_storyOf 18 = .ok (.bipush 12, 2) := by decide +kernel
theorem dX4_storyOf_20 : decode cX4_storyOf 20 = .ok (.iload_n 1, 1) := by decide +kernel
theorem dX4_storyOf_21 : decode cX4_storyOf 21 = .ok (.imul, 1) := by decide +kernel
theorem dX4_storyOf_22 : decode cX4_storyOf 22 = .ok (.iload 4, 2) := by decide +kernel
theorem dX4_storyOf_24 : decode cX4_storyOf 24 = .ok (.iadd, 1) := by decide +kernel
theorem dX4_storyOf_25 : decode cX4_storyOf 25 = .ok (.istore 5, 2) := by decide +kernel
theorem dX4_storyOf_27 : decode cX4_storyOf 27 = .ok (.aload_n 0, 1) := by decide +kernel
theorem dX4_storyOf_28 : decode cX4_storyOf 28 = .ok (.getfield 56, 3) := by decide +kernel
theorem dX4_storyOf_31 : decode cX4_storyOf 31 = .ok (.iload 4, 2) := by decide +kernel
theorem dX4_storyOf_33 : decode cX4_storyOf 33 = .ok (.iconst (-1), 1) := by decide +kernel
theorem dX4_storyOf_34 : decode cX4_storyOf 34 = .ok (.iastore, 1) := by decide +kernel
theorem dX4_storyOf_35 : decode cX4_storyOf 35 = .ok (.aload_n 0, 1) := by decide +kernel
theorem dX4_storyOf_36 : decode cX4_storyOf 36 = .ok (.getfield 59, 3) := by decide +kernel
theorem dX4_storyOf_39 : decode cX4_storyOf 39 = .ok (.iload 4, 2) := by decide +kernel
theorem dX4_storyOf_41 : decode cX4_storyOf 41 = .ok (.iconst 0, 1) := by decide +kernel
theorem dX4_storyOf_42 : decode cX4_storyOf 42 = .ok (.iastore, 1) := by decide +kernel
theorem dX4_storyOf_43 : decode cX4_storyOf 43 = .ok (.aload_n 0, 1) := by decide +kernel
theorem dX4_storyOf_44 : decode cX4_storyOf 44 = .ok (.getfield 32, 3) := by decide +kernel
theorem dX4_storyOf_47 : decode cX4_storyOf 47 = .ok (.iload 5, 2) := by decide +kernel
theorem dX4_storyOf_49 : decode cX4_storyOf 49 = .ok (.iaload, 1) := by decide +kernel
theorem dX4_storyOf_50 : decode cX4_storyOf 50 = .ok (.iconst 0, 1) := by decide +kernel
theorem dX4_storyOf_51 : decode cX4_storyOf 51 = .ok (.aload_n 0, 1) := by decide +kernel
theorem dX4_storyOf_52 : decode cX4_storyOf 52 = .ok (.getfield 29, 3) := by decide +kernel
theorem dX4_storyOf_55 : decode cX4_storyOf 55 = .ok (.iload 5, 2) := by decide +kernel
theorem dX4_storyOf_57 : decode cX4_storyOf 57 = .ok (.iaload, 1) := by decide +kernel
theorem dX4_storyOf_58 : decode cX4_storyOf 58 = .ok (.invokestatic 78, 3) := by decide +kernel
theorem dX4_storyOf_61 : decode cX4_storyOf 61 = .ok (.if_icmp .lt 27, 3) := by decide +kernel
theorem dX4_storyOf_64 : decode cX4_storyOf 64 = .ok (.aload_n 0, 1) := by decide +kernel
theorem dX4_storyOf_65 : decode cX4_storyOf 65 = .ok (.getfield 56, 3) := by decide +kernel
theorem dX4_storyOf_68 : decode cX4_storyOf 68 = .ok (.iload 4, 2) := by decide +kernel
theorem dX4_storyOf_70 : decode cX4_storyOf 70 = .ok (.aload_n 0, 1) := by decide +kernel
theorem dX4_storyOf_71 : decode cX4_storyOf 71 = .ok (.iload 5, 2) := by decide +kernel
theorem dX4_storyOf_73 : decode cX4_storyOf 73 = .ok (.invokevirtual 82, 3) := by decide +kernel
theorem dX4_storyOf_76 : decode cX4_storyOf 76 = .ok (.iastore, 1) := by decide +kernel
theorem dX4_storyOf_77 : decode cX4_storyOf 77 = .ok (.aload_n 0, 1) := by decide +kernel
theorem dX4_storyOf_78 : decode cX4_storyOf 78 = .ok (.getfield 59, 3) := by decide +kernel
theorem dX4_storyOf_81 : decode cX4_storyOf 81 = .ok (.iload 4, 2) := by decide +kernel
theorem dX4_storyOf_83 : decode cX4_storyOf 83 = .ok (.iconst 1, 1) := by decide +kernel
theorem dX4_storyOf_84 : decode cX4_storyOf 84 = .ok (.iload 4, 2) := by decide +kernel
theorem dX4_storyOf_86 : decode cX4_storyOf 86 = .ok (.ishl, 1) := by decide +kernel
theorem dX4_storyOf_87 : decode cX4_storyOf 87 = .ok (.iastore, 1) := by decide +kernel
theorem dX4_storyOf_88 : decode cX4_storyOf 88 = .ok (.iconst 0, 1) := by decide +kernel
theorem dX4_storyOf_89 : decode cX4_storyOf 89 = .ok (.istore 6, 2) := by decide +kernel
theorem dX4_storyOf_91 : decode cX4_storyOf 91 = .ok (.iload 6, 2) := by decide +kernel
theorem dX4_storyOf_93 : decode cX4_storyOf 93 = .ok (.iload 4, 2) := by decide +kernel
theorem dX4_storyOf_95 : decode cX4_storyOf 95 = .ok (.if_icmp .ge 166, 3) := by decide +kernel
theorem dX4_storyOf_98 : decode cX4_storyOf 98 = .ok (.bipush 12, 2) := by decide +kernel
theorem dX4_storyOf_100 : decode cX4_storyOf 100 = .ok (.iload_n 1, 1) := by decide +kernel
theorem dX4_storyOf_101 : decode cX4_storyOf 101 = .ok (.imul, 1) := by decide +kernel
theorem dX4_storyOf_102 : decode cX4_storyOf 102 = .ok (.iload 6, 2) := by decide +kernel
theorem dX4_storyOf_104 : decode cX4_storyOf 104 = .ok (.iadd, 1) := by decide +kernel
theorem dX4_storyOf_105 : decode cX4_storyOf 105 = .ok (.istore 7, 2) := by decide +kernel
theorem dX4_storyOf_107 : decode cX4_storyOf 107 = .ok (.aload_n 0, 1) := by decide +kernel
theorem dX4_storyOf_108 : decode cX4_storyOf 108 = .ok (.getfield 56, 3) := by decide +kernel
theorem dX4_storyOf_111 : decode cX4_storyOf 111 = .ok (.iload 6, 2) := by decide +kernel
theorem dX4_storyOf_113 : decode cX4_storyOf 113 = .ok (.iaload, 1) := by decide +kernel
theorem dX4_storyOf_114 : decode cX4_storyOf 114 = .ok (.aload_n 0, 1) := by decide +kernel
theorem dX4_storyOf_115 : decode cX4_storyOf 115 = .ok (.iload 5, 2) := by decide +kernel
theorem dX4_storyOf_117 : decode cX4_storyOf 117 = .ok (.invokevirtual 82, 3) := by decide +kernel
theorem dX4_storyOf_120 : decode cX4_storyOf 120 = .ok (.iadd, 1) := by decide +kernel
theorem dX4_storyOf_121 : decode cX4_storyOf 121 = .ok (.istore 8, 2) := by decide +kernel
theorem dX4_storyOf_123 : decode cX4_storyOf 123 = .ok (.aload_n 0, 1) := by decide +kernel
theorem dX4_storyOf_124 : decode cX4_storyOf 124 = .ok (.getfield 56, 3) := by decide +kernel
theorem dX4_storyOf_127 : decode cX4_storyOf 127 = .ok (.iload 6, 2) := by decide +kernel
theorem dX4_storyOf_129 : decode cX4_storyOf 129 = .ok (.iaload, 1) := by decide +kernel
theorem dX4_storyOf_130 : decode cX4_storyOf 130 = .ok (.iconst (-1), 1) := by decide +kernel
theorem dX4_storyOf_131 : decode cX4_storyOf 131 = .ok (.if_icmp .eq 42, 3) := by decide +kernel
theorem dX4_storyOf_134 : decode cX4_storyOf 134 = .ok (.aload_n 0, 1) := by decide +kernel
theorem dX4_storyOf_135 : decode cX4_storyOf 135 = .ok (.getfield 32, 3) := by decide +kernel
theorem dX4_storyOf_138 : decode cX4_storyOf 138 = .ok (.iload 5, 2) := by decide +kernel
theorem dX4_storyOf_140 : decode cX4_storyOf 140 = .ok (.iaload, 1) := by decide +kernel
theorem dX4_storyOf_141 : decode cX4_storyOf 141 = .ok (.aload_n 0, 1) := by decide +kernel
theorem dX4_storyOf_142 : decode cX4_storyOf 142 = .ok (.getfield 32, 3) := by decide +kernel
theorem dX4_storyOf_145 : decode cX4_storyOf 145 = .ok (.iload 7, 2) := by decide +kernel
theorem dX4_storyOf_147 : decode cX4_storyOf 147 = .ok (.iaload, 1) := by decide +kernel
theorem dX4_storyOf_148 : decode cX4_storyOf 148 = .ok (.isub, 1) := by decide +kernel
theorem dX4_storyOf_149 : decode cX4_storyOf 149 = .ok (.aload_n 0, 1) := by decide +kernel
theorem dX4_storyOf_150 : decode cX4_storyOf 150 = .ok (.getfield 29, 3) := by decide +kernel
theorem dX4_storyOf_153 : decode cX4_storyOf 153 = .ok (.iload 7, 2) := by decide +kernel
theorem dX4_storyOf_155 : decode cX4_storyOf 155 = .ok (.iaload, 1) := by decide +kernel
theorem dX4_storyOf_156 : decode cX4_storyOf 156 = .ok (.aload_n 0, 1) := by decide +kernel
theorem dX4_storyOf_157 : decode cX4_storyOf 157 = .ok (.getfield 29, 3) := by decide +kernel
theorem dX4_storyOf_160 : decode cX4_storyOf 160 = .ok (.iload 5, 2) := by decide +kernel
theorem dX4_storyOf_162 : decode cX4_storyOf 162 = .ok (.iaload, 1) := by decide +kernel
theorem dX4_storyOf_163 : decode cX4_storyOf 163 = .ok (.invokestatic 78, 3) := by decide +kernel
theorem dX4_storyOf_166 : decode cX4_storyOf 166 = .ok (.if_icmp .lt 7, 3) := by decide +kernel
theorem dX4_storyOf_169 : decode cX4_storyOf 169 = .ok (.iconst 1, 1) := by decide +kernel
theorem dX4_storyOf_170 : decode cX4_storyOf 170 = .ok (.goto 4, 3) := by decide +kernel
theorem dX4_storyOf_173 : decode cX4_storyOf 173 = .ok (.iconst 0, 1) := by decide +kernel
theorem dX4_storyOf_174 : decode cX4_storyOf 174 = .ok (.istore 9, 2) := by decide +kernel
theorem dX4_storyOf_176 : decode cX4_storyOf 176 = .ok (.iload 9, 2) := by decide +kernel
theorem dX4_storyOf_178 : decode cX4_storyOf 178 = .ok (.ifCond .eq 77, 3) := by decide +kernel
theorem dX4_storyOf_181 : decode cX4_storyOf 181 = .ok (.iload 8, 2) := by decide +kernel
theorem dX4_storyOf_183 : decode cX4_storyOf 183 = .ok (.aload_n 0, 1) := by decide +kernel
theorem dX4_storyOf_184 : decode cX4_storyOf 184 = .ok (.getfield 56, 3) := by decide +kernel
theorem dX4_storyOf_187 : decode cX4_storyOf 187 = .ok (.iload 4, 2) := by decide +kernel
theorem dX4_storyOf_189 : decode cX4_storyOf 189 = .ok (.iaload, 1) := by decide +kernel
theorem dX4_storyOf_190 : decode cX4_storyOf 190 = .ok (.if_icmp .gt 37, 3) := by decide +kernel
theorem dX4_storyOf_193 : decode cX4_storyOf 193 = .ok (.iload 8, 2) := by decide +kernel
theorem dX4_storyOf_195 : decode cX4_storyOf 195 = .ok (.aload_n 0, 1) := by decide +kernel
theorem dX4_storyOf_196 : decode cX4_storyOf 196 = .ok (.getfield 56, 3) := by decide +kernel
theorem dX4_storyOf_199 : decode cX4_storyOf 199 = .ok (.iload 4, 2) := by decide +kernel
theorem dX4_storyOf_201 : decode cX4_storyOf 201 = .ok (.iaload, 1) := by decide +kernel
theorem dX4_storyOf_202 : decode cX4_storyOf 202 = .ok (.if_icmp .ne 53, 3) := by decide +kernel
theorem dX4_storyOf_205 : decode cX4_storyOf 205 = .ok (.aload_n 0, 1) := by decide +kernel
theorem dX4_storyOf_206 : decode cX4_storyOf 206 = .ok (.getfield 59, 3) := by decide +kernel
theorem dX4_storyOf_209 : decode cX4_storyOf 209 = .ok (.iload 6, 2) := by decide +kernel
theorem dX4_storyOf_211 : decode cX4_storyOf 211 = .ok (.iaload, 1) := by decide +kernel
theorem dX4_storyOf_212 : decode cX4_storyOf 212 = .ok (.iconst 1, 1) := by decide +kernel
theorem dX4_storyOf_213 : decode cX4_storyOf 213 = .ok (.iload 4, 2) := by decide +kernel
theorem dX4_storyOf_215 : decode cX4_storyOf 215 = .ok (.ishl, 1) := by decide +kernel
theorem dX4_storyOf_216 : decode cX4_storyOf 216 = .ok (.ior, 1) := by decide +kernel
theorem dX4_storyOf_217 : decode cX4_storyOf 217 = .ok (.aload_n 0, 1) := by decide +kernel
theorem dX4_storyOf_218 : decode cX4_storyOf 218 = .ok (.getfield 59, 3) := by decide +kernel
theorem dX4_storyOf_221 : decode cX4_storyOf 221 = .ok (.iload 4, 2) := by decide +kernel
theorem dX4_storyOf_223 : decode cX4_storyOf 223 = .ok (.iaload, 1) := by decide +kernel
theorem dX4_storyOf_224 : decode cX4_storyOf 224 = .ok (.if_icmp .le 31, 3) := by decide +kernel
theorem dX4_storyOf_227 : decode cX4_storyOf 227 = .ok (.aload_n 0, 1) := by decide +kernel
theorem dX4_storyOf_228 : decode cX4_storyOf 228 = .ok (.getfield 56, 3) := by decide +kernel
theorem dX4_storyOf_231 : decode cX4_storyOf 231 = .ok (.iload 4, 2) := by decide +kernel
theorem dX4_storyOf_233 : decode cX4_storyOf 233 = .ok (.iload 8, 2) := by decide +kernel
theorem dX4_storyOf_235 : decode cX4_storyOf 235 = .ok (.iastore, 1) := by decide +kernel
theorem dX4_storyOf_236 : decode cX4_storyOf 236 = .ok (.aload_n 0, 1) := by decide +kernel
theorem dX4_storyOf_237 : decode cX4_storyOf 237 = .ok (.getfield 59, 3) := by decide +kernel
theorem dX4_storyOf_240 : decode cX4_storyOf 240 = .ok (.iload 4, 2) := by decide +kernel
theorem dX4_storyOf_242 : decode cX4_storyOf 242 = .ok (.aload_n 0, 1) := by decide +kernel
theorem dX4_storyOf_243 : decode cX4_storyOf 243 = .ok (.getfield 59, 3) := by decide +kernel
theorem dX4_storyOf_246 : decode cX4_storyOf 246 = .ok (.iload 6, 2) := by decide +kernel
theorem dX4_storyOf_248 : decode cX4_storyOf 248 = .ok (.iaload, 1) := by decide +kernel
theorem dX4_storyOf_249 : decode cX4_storyOf 249 = .ok (.iconst 1, 1) := by decide +kernel
theorem dX4_storyOf_250 : decode cX4_storyOf 250 = .ok (.iload 4, 2) := by decide +kernel
theorem dX4_storyOf_252 : decode cX4_storyOf 252 = .ok (.ishl, 1) := by decide +kernel
theorem dX4_storyOf_253 : decode cX4_storyOf 253 = .ok (.ior, 1) := by decide +kernel
theorem dX4_storyOf_254 : decode cX4_storyOf 254 = .ok (.iastore, 1) := by decide +kernel
theorem dX4_storyOf_255 : decode cX4_storyOf 255 = .ok (.iinc 6 1, 3) := by decide +kernel
theorem dX4_storyOf_258 : decode cX4_storyOf 258 = .ok (.goto (-167), 3) := by decide +kernel
theorem dX4_storyOf_261 : decode cX4_storyOf 261 = .ok (.aload_n 0, 1) := by decide +kernel
theorem dX4_storyOf_262 : decode cX4_storyOf 262 = .ok (.getfield 56, 3) := by decide +kernel
theorem dX4_storyOf_265 : decode cX4_storyOf 265 = .ok (.iload 4, 2) := by decide +kernel
theorem dX4_storyOf_267 : decode cX4_storyOf 267 = .ok (.iaload, 1) := by decide +kernel
theorem dX4_storyOf_268 : decode cX4_storyOf 268 = .ok (.iload_n 3, 1) := by decide +kernel
theorem dX4_storyOf_269 : decode cX4_storyOf 269 = .ok (.if_icmp .gt 25, 3) := by decide +kernel
theorem dX4_storyOf_272 : decode cX4_storyOf 272 = .ok (.aload_n 0, 1) := by decide +kernel
theorem dX4_storyOf_273 : decode cX4_storyOf 273 = .ok (.getfield 56, 3) := by decide +kernel
theorem dX4_storyOf_276 : decode cX4_storyOf 276 = .ok (.iload 4, 2) := by decide +kernel
theorem dX4_storyOf_278 : decode cX4_storyOf 278 = .ok (.iaload, 1) := by decide +kernel
theorem dX4_storyOf_279 : decode cX4_storyOf 279 = .ok (.iload_n 3, 1) := by decide +kernel
theorem dX4_storyOf_280 : decode cX4_storyOf 280 = .ok (.if_icmp .ne 30, 3) := by decide +kernel
theorem dX4_storyOf_283 : decode cX4_storyOf 283 = .ok (.aload_n 0, 1) := by decide +kernel
theorem dX4_storyOf_284 : decode cX4_storyOf 284 = .ok (.getfield 59, 3) := by decide +kernel
theorem dX4_storyOf_287 : decode cX4_storyOf 287 = .ok (.iload 4, 2) := by decide +kernel
theorem dX4_storyOf_289 : decode cX4_storyOf 289 = .ok (.iaload, 1) := by decide +kernel
theorem dX4_storyOf_290 : decode cX4_storyOf 290 = .ok (.iload_n 2, 1) := by decide +kernel
theorem dX4_storyOf_291 : decode cX4_storyOf 291 = .ok (.if_icmp .le 19, 3) := by decide +kernel
theorem dX4_storyOf_294 : decode cX4_storyOf 294 = .ok (.aload_n 0, 1) := by decide +kernel
theorem dX4_storyOf_295 : decode cX4_storyOf 295 = .ok (.getfield 56, 3) := by decide +kernel
theorem dX4_storyOf_298 : decode cX4_storyOf 298 = .ok (.iload 4, 2) := by decide +kernel
theorem dX4_storyOf_300 : decode cX4_storyOf 300 = .ok (.iaload, 1) := by decide +kernel
theorem dX4_storyOf_301 : decode cX4_storyOf 301 = .ok (.istore_n 3, 1) := by decide +kernel
theorem dX4_storyOf_302 : decode cX4_storyOf 302 = .ok (.aload_n 0, 1) := by decide +kernel
theorem dX4_storyOf_303 : decode cX4_storyOf 303 = .ok (.getfield 59, 3) := by decide +kernel
theorem dX4_storyOf_306 : decode cX4_storyOf 306 = .ok (.iload 4, 2) := by decide +kernel
theorem dX4_storyOf_308 : decode cX4_storyOf 308 = .ok (.iaload, 1) := by decide +kernel
theorem dX4_storyOf_309 : decode cX4_storyOf 309 = .ok (.istore_n 2, 1) := by decide +kernel
theorem dX4_storyOf_310 : decode cX4_storyOf 310 = .ok (.iinc 4 1, 3) := by decide +kernel
theorem dX4_storyOf_313 : decode cX4_storyOf 313 = .ok (.goto (-306), 3) := by decide +kernel
theorem dX4_storyOf_316 : decode cX4_storyOf 316 = .ok (.iload_n 2, 1) := by decide +kernel
theorem dX4_storyOf_317 : decode cX4_storyOf 317 = .ok (.ireturn, 1) := by decide +kernel
theorem dX4_placeBy_0 : decode cX4_placeBy 0 = .ok (.iconst 0, 1) := by decide +kernel
theorem dX4_placeBy_1 : decode cX4_placeBy 1 = .ok (.istore_n 3, 1) := by decide +kernel
theorem dX4_placeBy_2 : decode cX4_placeBy 2 = .ok (.iconst 0, 1) := by decide +kernel
theorem dX4_placeBy_3 : decode cX4_placeBy 3 = .ok (.istore 4, 2) := by decide +kernel
theorem dX4_placeBy_5 : decode cX4_placeBy 5 = .ok (.iload 4, 2) := by decide +kernel
theorem dX4_placeBy_7 : decode cX4_placeBy 7 = .ok (.aload_n 0, 1) := by decide +kernel
theorem dX4_placeBy_8 : decode cX4_placeBy 8 = .ok (.getfield 16, 3) := by decide +kernel
theorem dX4_placeBy_11 : decode cX4_placeBy 11 = .ok (.iload_n 1, 1) := by decide +kernel
theorem dX4_placeBy_12 : decode cX4_placeBy 12 = .ok (.iaload, 1) := by decide +kernel
theorem dX4_placeBy_13 : decode cX4_placeBy 13 = .ok (.if_icmp .ge 36, 3) := by decide +kernel
theorem dX4_placeBy_16 : decode cX4_placeBy 16 = .ok (.iload_n 2, 1) := by decide +kernel
theorem dX4_placeBy_17 : decode cX4_placeBy 17 = .ok (.iload 4, 2) := by decide +kernel
theorem dX4_placeBy_19 : decode cX4_placeBy 19 = .ok (.ishr, 1) := by decide +kernel
theorem dX4_placeBy_20 : decode cX4_placeBy 20 = .ok (.iconst 1, 1) := by decide +kernel
theorem dX4_placeBy_21 : decode cX4_placeBy 21 = .ok (.iand, 1) := by decide +kernel
theorem dX4_placeBy_22 : decode cX4_placeBy 22 = .ok (.iconst 1, 1) := by decide +kernel
theorem dX4_placeBy_23 : decode cX4_placeBy 23 = .ok (.if_icmp .ne 18, 3) := by decide +kernel
theorem dX4_placeBy_26 : decode cX4_placeBy 26 = .ok (.aload_n 0, 1) := by decide +kernel
theorem dX4_placeBy_27 : decode cX4_placeBy 27 = .ok (.getfield 29, 3) := by decide +kernel
theorem dX4_placeBy_30 : decode cX4_placeBy 30 = .ok (.bipush 12, 2) := by decide +kernel
theorem dX4_placeBy_32 : decode cX4_placeBy 32 = .ok (.iload_n 1, 1) := by decide +kernel
theorem dX4_placeBy_33 : decode cX4_placeBy 33 = .ok (.imul, 1) := by decide +kernel
theorem dX4_placeBy_34 : decode cX4_placeBy 34 = .ok (.iload 4, 2) := by decide +kernel
theorem dX4_placeBy_36 : decode cX4_placeBy 36 = .ok (.iadd, 1) := by decide +kernel
theorem dX4_placeBy_37 : decode cX4_placeBy 37 = .ok (.iaload, 1) := by decide +kernel
theorem dX4_placeBy_38 : decode cX4_placeBy 38 = .ok (.goto 4, 3) := by decide +kernel
theorem dX4_placeBy_41 : decode cX4_placeBy 41 = .ok (.iload_n 3, 1) := by decide +kernel
theorem dX4_placeBy_42 : decode cX4_placeBy 42 = .ok (.istore_n 3, 1) := by decide +kernel
theorem dX4_placeBy_43 : decode cX4_placeBy 43 = .ok (.iinc 4 1, 3) := by decide +kernel
theorem dX4_placeBy_46 : decode cX4_placeBy 46 = .ok (.goto (-41), 3) := by decide +kernel
theorem dX4_placeBy_49 : decode cX4_placeBy 49 = .ok (.iload_n 3, 1) := by decide +kernel
theorem dX4_placeBy_50 : decode cX4_placeBy 50 = .ok (.ireturn, 1) := by decide +kernel
set_option maxRecDepth 20000 in
theorem ggX4_courierBy_X4_in : GoodIn wsX4_courierBy wsX4_in := goodIn_r _ [6] (by decide +kernel) (by decide +kernel)
set_option maxRecDepth 20000 in
theorem gX4_courierBy_X4_in : GoodIn wsX4_courierBy (va_wsS RX4 69 yX4_in wsX4_in) := goodIn_app (goodIn_of _ (by decide +kernel)) ggX4_courierBy_X4_in
theorem dX4_courierBy_0 : decode cX4_courierBy 0 = .ok (.iconst (-1), 1) := by decide +kernel
theorem dX4_courierBy_1 : decode cX4_courierBy 1 = .ok (.istore_n 3, 1) := by decide +kernel
theorem dX4_courierBy_2 : decode cX4_courierBy 2 = .ok (.iconst 0, 1) := by decide +kernel
theorem dX4_courierBy_3 : decode cX4_courierBy 3 = .ok (.istore 4, 2) := by decide +kernel
theorem dX4_courierBy_5 : decode cX4_courierBy 5 = .ok (.iload 4, 2) := by decide +kernel
theorem dX4_courierBy_7 : decode cX4_courierBy 7 = .ok (.aload_n 0, 1) := by decide +kernel
theorem dX4_courierBy_8 : decode cX4_courierBy 8 = .ok (.getfield 16, 3) := by decide +kernel
theorem dX4_courierBy_11 : decode cX4_courierBy 11 = .ok (.iload_n 1, 1) := by decide +kernel
theorem dX4_courierBy_12 : decode cX4_courierBy 12 = .ok (.iaload, 1) := by decide +kernel
theorem dX4_courierBy_13 : decode cX4_courierBy 13 = .ok (.if_icmp .ge 52, 3) := by decide +kernel
theorem dX4_courierBy_16 : decode cX4_courierBy 16 = .ok (.aload_n 0, 1) := by decide +kernel
theorem dX4_courierBy_17 : decode cX4_courierBy 17 = .ok (.getfield 29, 3) := by decide +kernel
theorem dX4_courierBy_20 : decode cX4_courierBy 20 = .ok (.bipush 12, 2) := by decide +kernel
theorem dX4_courierBy_22 : decode cX4_courierBy 22 = .ok (.iload_n 1, 1) := by decide +kernel
theorem dX4_courierBy_23 : decode cX4_courierBy 23 = .ok (.imul, 1) := by decide +kernel
theorem dX4_courierBy_24 : decode cX4_courierBy 24 = .ok (.iload 4, 2) := by decide +kernel
theorem dX4_courierBy_26 : decode cX4_courierBy 26 = .ok (.iadd, 1) := by decide +kernel
theorem dX4_courierBy_27 : decode cX4_courierBy 27 = .ok (.iaload, 1) := by decide +kernel
theorem dX4_courierBy_28 : decode cX4_courierBy 28 = .ok (.istore 5, 2) := by decide +kernel
theorem dX4_courierBy_30 : decode cX4_courierBy 30 = .ok (.iload_n 2, 1) := by decide +kernel
theorem dX4_courierBy_31 : decode cX4_courierBy 31 = .ok (.iload 4, 2) := by decide +kernel
theorem dX4_courierBy_33 : decode cX4_courierBy 33 = .ok (.ishr, 1) := by decide +kernel
theorem dX4_courierBy_34 : decode cX4_courierBy 34 = .ok (.iconst 1, 1) := by decide +kernel
theorem dX4_courierBy_35 : decode cX4_courierBy 35 = .ok (.iand, 1) := by decide +kernel
theorem dX4_courierBy_36 : decode cX4_courierBy 36 = .ok (.iconst 1, 1) := by decide +kernel
theorem dX4_courierBy_37 : decode cX4_courierBy 37 = .ok (.if_icmp .ne 20, 3) := by decide +kernel
theorem dX4_courierBy_40 : decode cX4_courierBy 40 = .ok (.iload 5, 2) := by decide +kernel
theorem dX4_courierBy_42 : decode cX4_courierBy 42 = .ok (.iconst 1, 1) := by decide +kernel
theorem dX4_courierBy_43 : decode cX4_courierBy 43 = .ok (.iconst 4, 1) := by decide +kernel
theorem dX4_courierBy_44 : decode cX4_courierBy 44 = .ok (.invokestatic 69, 3) := by decide +kernel
theorem dX4_courierBy_47 : decode cX4_courierBy 47 = .ok (.ifCond .eq 10, 3) := by decide +kernel
theorem dX4_courierBy_50 : decode cX4_courierBy 50 = .ok (.iload 5, 2) := by decide +kernel
theorem dX4_courierBy_52 : decode cX4_courierBy 52 = .ok (.iconst 1, 1) := by decide +kernel
theorem dX4_courierBy_53 : decode cX4_courierBy 53 = .ok (.isub, 1) := by decide +kernel
theorem dX4_courierBy_54 : decode cX4_courierBy 54 = .ok (.goto 4, 3) := by decide +kernel
theorem dX4_courierBy_57 : decode cX4_courierBy 57 = .ok (.iload_n 3, 1) := by decide +kernel
theorem dX4_courierBy_58 : decode cX4_courierBy 58 = .ok (.istore_n 3, 1) := by decide +kernel
theorem dX4_courierBy_59 : decode cX4_courierBy 59 = .ok (.iinc 4 1, 3) := by decide +kernel
theorem dX4_courierBy_62 : decode cX4_courierBy 62 = .ok (.goto (-57), 3) := by decide +kernel
theorem dX4_courierBy_65 : decode cX4_courierBy 65 = .ok (.iload_n 3, 1) := by decide +kernel
theorem dX4_courierBy_66 : decode cX4_courierBy 66 = .ok (.ireturn, 1) := by decide +kernel
set_option maxRecDepth 20000 in
theorem ggX4_settles_X4_storyOf : GoodIn wsX4_settles wsX4_storyOf := goodIn_r _ [12, 13, 14, 15, 16, 17, 18, 19, 11, 20, 21, 22, 23, 24, 25, 26, 27, 28, 29, 30, 31, 43, 44, 45, 46, 47, 48, 49, 50, 51, 52, 53, 54, 55, 56, 57, 58, 59, 60, 61, 62, 63, 64, 65] (by decide +kernel) (by decide +kernel)
set_option maxRecDepth 20000 in
theorem gX4_settles_X4_storyOf : GoodIn wsX4_settles (wsV RX4 85 RX4 yX4_storyOf wsX4_storyOf) := goodIn_app (goodIn_of _ (by decide +kernel)) ggX4_settles_X4_storyOf
set_option maxRecDepth 20000 in
theorem ggX4_settles_X4_placeBy : GoodIn wsX4_settles wsX4_placeBy := goodIn_r _ [35, 13, 17, 43, 44, 45, 46, 47, 48, 49, 50, 51, 52, 53, 54, 55, 56, 57, 58, 59, 60, 61, 62, 63, 64, 65] (by decide +kernel) (by decide +kernel)
set_option maxRecDepth 20000 in
theorem gX4_settles_X4_placeBy : GoodIn wsX4_settles (wsV RX4 88 RX4 yX4_placeBy wsX4_placeBy) := goodIn_app (goodIn_of _ (by decide +kernel)) ggX4_settles_X4_placeBy
set_option maxRecDepth 20000 in
theorem ggX4_settles_X4_courierBy : GoodIn wsX4_settles wsX4_courierBy := goodIn_r _ [39, 13, 17, 40, 41, 11, 42, 43, 44, 45, 46, 47, 48, 49, 50, 51, 52, 53, 54, 55, 56, 57, 58, 59, 60, 61, 62, 63, 64, 65] (by decide +kernel) (by decide +kernel)
set_option maxRecDepth 20000 in
theorem gX4_settles_X4_courierBy : GoodIn wsX4_settles (wsV RX4 97 RX4 yX4_courierBy wsX4_courierBy) := goodIn_app (goodIn_of _ (by decide +kernel)) ggX4_settles_X4_courierBy
theorem dX4_settles_0 : decode cX4_settles 0 = .ok (.iconst 0, 1) := by decide +kernel
theorem dX4_settles_1 : decode cX4_settles 1 = .ok (.istore_n 1, 1) := by decide +kernel
theorem dX4_settles_2 : decode cX4_settles 2 = .ok (.iload_n 1, 1) := by decide +kernel
theorem dX4_settles_3 : decode cX4_settles 3 = .ok (.aload_n 0, 1) := by decide +kernel
theorem dX4_settles_4 : decode cX4_settles 4 = .ok (.getfield 66, 3) := by decide +kernel
theorem dX4_settles_7 : decode cX4_settles 7 = .ok (.if_icmp .ge 116, 3) := by decide +kernel
theorem dX4_settles_10 : decode cX4_settles 10 = .ok (.aload_n 0, 1) := by decide +kernel
theorem dX4_settles_11 : decode cX4_settles 11 = .ok (.iload_n 1, 1) := by decide +kernel
theorem dX4_settles_12 : decode cX4_settles 12 = .ok (.invokevirtual 85, 3) := by decide +kernel
theorem dX4_settles_15 : decode cX4_settles 15 = .ok (.istore_n 2, 1) := by decide +kernel
theorem dX4_settles_16 : decode cX4_settles 16 = .ok (.aload_n 0, 1) := by decide +kernel
theorem dX4_settles_17 : decode cX4_settles 17 = .ok (.iload_n 1, 1) := by decide +kernel
theorem dX4_settles_18 : decode cX4_settles 18 = .ok (.iload_n 2, 1) := by decide +kernel
theorem dX4_settles_19 : decode cX4_settles 19 = .ok (.invokevirtual 88, 3) := by decide +kernel
theorem dX4_settles_22 : decode cX4_settles 22 = .ok (.bipush 30, 2) := by decide +kernel
theorem dX4_settles_24 : decode cX4_settles 24 = .ok (.if_icmp .ne 7, 3) := by decide +kernel
theorem dX4_settles_27 : decode cX4_settles 27 = .ok (.iconst 1, 1) := by decide +kernel
theorem dX4_settles_28 : decode cX4_settles 28 = .ok (.goto 4, 3) := by decide +kernel
theorem dX4_settles_31 : decode cX4_settles 31 = .ok (.iconst 0, 1) := by decide +kernel
theorem dX4_settles_32 : decode cX4_settles 32 = .ok (.istore_n 3, 1) := by decide +kernel
theorem dX4_settles_33 : decode cX4_settles 33 = .ok (.iload_n 3, 1) := by decide +kernel
theorem dX4_settles_34 : decode cX4_settles 34 = .ok (.ifCond .eq 44, 3) := by decide +kernel
theorem dX4_settles_37 : decode cX4_settles 37 = .ok (.aload_n 0, 1) := by decide +kernel
theorem dX4_settles_38 : decode cX4_settles 38 = .ok (.getfield 19, 3) := by decide +kernel
theorem dX4_settles_41 : decode cX4_settles 41 = .ok (.iload_n 1, 1) := by decide +kernel
theorem dX4_settles_42 : decode cX4_settles 42 = .ok (.baload, 1) := by decide +kernel
theorem dX4_settles_43 : decode cX4_settles 43 = .ok (.ifCond .eq 35, 3) := by decide +kernel
theorem dX4_settles_46 : decode cX4_settles 46 = .ok (.aload_n 0, 1) := by decide +kernel
theorem dX4_settles_47 : decode cX4_settles 47 = .ok (.getfield 19, 3) := by decide +kernel
theorem dX4_settles_50 : decode cX4_settles 50 = .ok (.iload_n 1, 1) := by decide +kernel
theorem dX4_settles_51 : decode cX4_settles 51 = .ok (.iconst 0, 1) := by decide +kernel
theorem dX4_settles_52 : decode cX4_settles 52 = .ok (.bastore, 1) := by decide +kernel
theorem dX4_settles_53 : decode cX4_settles 53 = .ok (.aload_n 0, 1) := by decide +kernel
theorem dX4_settles_54 : decode cX4_settles 54 = .ok (.dup, 1) := by decide +kernel
theorem dX4_settles_55 : decode cX4_settles 55 = .ok (.getfield 91, 3) := by decide +kernel
theorem dX4_settles_58 : decode cX4_settles 58 = .ok (.aload_n 0, 1) := by decide +kernel
theorem dX4_settles_59 : decode cX4_settles 59 = .ok (.getfield 13, 3) := by decide +kernel
theorem dX4_settles_62 : decode cX4_settles 62 = .ok (.iload_n 1, 1) := by decide +kernel
theorem dX4_settles_63 : decode cX4_settles 63 = .ok (.iaload, 1) := by decide +kernel
theorem dX4_settles_64 : decode cX4_settles 64 = .ok (.isub, 1) := by decide +kernel
theorem dX4_settles_65 : decode cX4_settles 65 = .ok (.putfield 91, 3) := by decide +kernel
theorem dX4_settles_68 : decode cX4_settles 68 = .ok (.aload_n 0, 1) := by decide +kernel
theorem dX4_settles_69 : decode cX4_settles 69 = .ok (.dup, 1) := by decide +kernel
theorem dX4_settles_70 : decode cX4_settles 70 = .ok (.getfield 94, 3) := by decide +kernel
theorem dX4_settles_73 : decode cX4_settles 73 = .ok (.iconst 1, 1) := by decide +kernel
theorem dX4_settles_74 : decode cX4_settles 74 = .ok (.iadd, 1) := by decide +kernel
theorem dX4_settles_75 : decode cX4_settles 75 = .ok (.putfield 94, 3) := by decide +kernel
theorem dX4_settles_78 : decode cX4_settles 78 = .ok (.iload_n 3, 1) := by decide +kernel
theorem dX4_settles_79 : decode cX4_settles 79 = .ok (.aload_n 0, 1) := by decide +kernel
theorem dX4_settles_80 : decode cX4_settles 80 = .ok (.getfield 23, 3) := by decide +kernel
theorem dX4_settles_83 : decode cX4_settles 83 = .ok (.iload_n 1, 1) := by decide +kernel
theorem dX4_settles_84 : decode cX4_settles 84 = .ok (.baload, 1) := by decide +kernel
theorem dX4_settles_85 : decode cX4_settles 85 = .ok (.if_icmp .eq 32, 3) := by decide +kernel
theorem dX4_settles_88 : decode cX4_settles 88 = .ok (.aload_n 0, 1) := by decide +kernel
theorem dX4_settles_89 : decode cX4_settles 89 = .ok (.getfield 23, 3) := by decide +kernel
theorem dX4_settles_92 : decode cX4_settles 92 = .ok (.iload_n 1, 1) := by decide +kernel
theorem dX4_settles_93 : decode cX4_settles 93 = .ok (.iload_n 3, 1) := by decide +kernel
theorem dX4_settles_94 : decode cX4_settles 94 = .ok (.bastore, 1) := by decide +kernel
theorem dX4_settles_95 : decode cX4_settles 95 = .ok (.aload_n 0, 1) := by decide +kernel
theorem dX4_settles_96 : decode cX4_settles 96 = .ok (.getfield 26, 3) := by decide +kernel
theorem dX4_settles_99 : decode cX4_settles 99 = .ok (.iload_n 1, 1) := by decide +kernel
theorem dX4_settles_100 : decode cX4_settles 100 = .ok (.aload_n 0, 1) := by decide +kernel
theorem dX4_settles_101 : decode cX4_settles 101 = .ok (.iload_n 1, 1) := by decide +kernel
theorem dX4_settles_102 : decode cX4_settles 102 = .ok (.iload_n 2, 1) := by decide +kernel
theorem dX4_settles_103 : decode cX4_settles 103 = .ok (.invokevirtual 97, 3) := by decide +kernel
theorem dX4_settles_106 : decode cX4_settles 106 = .ok (.iastore, 1) := by decide +kernel
theorem dX4_settles_107 : decode cX4_settles 107 = .ok (.aload_n 0, 1) := by decide +kernel
theorem dX4_settles_108 : decode cX4_settles 108 = .ok (.dup, 1) := by decide +kernel
theorem dX4_settles_109 : decode cX4_settles 109 = .ok (.getfield 94, 3) := by decide +kernel
theorem dX4_settles_112 : decode cX4_settles 112 = .ok (.iconst 1, 1) := by decide +kernel
theorem dX4_settles_113 : decode cX4_settles 113 = .ok (.iadd, 1) := by decide +kernel
theorem dX4_settles_114 : decode cX4_settles 114 = .ok (.putfield 94, 3) := by decide +kernel
theorem dX4_settles_117 : decode cX4_settles 117 = .ok (.iinc 1 1, 3) := by decide +kernel
theorem dX4_settles_120 : decode cX4_settles 120 = .ok (.goto (-118), 3) := by decide +kernel
theorem dX4_settles_123 : decode cX4_settles 123 = .ok (.return_, 1) := by decide +kernel
set_option maxRecDepth 20000 in
theorem ggX4_box_X4_in : GoodIn wsX4_box wsX4_in := goodIn_r _ [7] (by decide +kernel) (by decide +kernel)
set_option maxRecDepth 20000 in
theorem gX4_box_X4_in : GoodIn wsX4_box (va_wsS RX4 69 yX4_in wsX4_in) := goodIn_app (goodIn_of _ (by decide +kernel)) ggX4_box_X4_in
set_option maxRecDepth 20000 in
theorem ggX4_box_X4_asked_ : GoodIn wsX4_box wsX4_asked_ := goodIn_r _ [11, 12, 13, 14, 15, 16, 17, 18, 19, 20, 21, 22, 23, 24, 25, 26, 27, 28, 29, 30, 31, 32, 33, 34, 35] (by decide +kernel) (by decide +kernel)
set_option maxRecDepth 20000 in
theorem gX4_box_X4_asked_ : GoodIn wsX4_box (wsV RX4 100 RX4 yX4_asked_ wsX4_asked_) := goodIn_app (goodIn_of _ (by decide +kernel)) ggX4_box_X4_asked_
theorem dX4_box_0 : decode cX4_box 0 = .ok (.aload_n 0, 1) := by decide +kernel
theorem dX4_box_1 : decode cX4_box 1 = .ok (.iload_n 1, 1) := by decide +kernel
theorem dX4_box_2 : decode cX4_box 2 = .ok (.iconst 1, 1) := by decide +kernel
theorem dX4_box_3 : decode cX4_box 3 = .ok (.iconst 3, 1) := by decide +kernel
theorem dX4_box_4 : decode cX4_box 4 = .ok (.invokestatic 69, 3) := by decide +kernel
theorem dX4_box_7 : decode cX4_box 7 = .ok (.ifCond .eq 18, 3) := by decide +kernel
theorem dX4_box_10 : decode cX4_box 10 = .ok (.iload_n 2, 1) := by decide +kernel
theorem dX4_box_11 : decode cX4_box 11 = .ok (.iconst 1, 1) := by decide +kernel
theorem dX4_box_12 : decode cX4_box 12 = .ok (.sipush 9999, 3) := by decide +kernel
theorem dX4_box_15 : decode cX4_box 15 = .ok (.invokestatic 69, 3) := by decide +kernel
theorem dX4_box_18 : decode cX4_box 18 = .ok (.ifCond .eq 7, 3) := by decide +kernel
theorem dX4_box_21 : decode cX4_box 21 = .ok (.iconst 1, 1) := by decide +kernel
theorem dX4_box_22 : decode cX4_box 22 = .ok (.goto 4, 3) := by decide +kernel
theorem dX4_box_25 : decode cX4_box 25 = .ok (.iconst 0, 1) := by decide +kernel
theorem dX4_box_26 : decode cX4_box 26 = .ok (.aload_n 0, 1) := by decide +kernel
theorem dX4_box_27 : decode cX4_box 27 = .ok (.getfield 66, 3) := by decide +kernel
theorem dX4_box_30 : decode cX4_box 30 = .ok (.bipush 16, 2) := by decide +kernel
theorem dX4_box_32 : decode cX4_box 32 = .ok (.if_icmp .ge 7, 3) := by decide +kernel
theorem dX4_box_35 : decode cX4_box 35 = .ok (.iconst 1, 1) := by decide +kernel
theorem dX4_box_36 : decode cX4_box 36 = .ok (.goto 4, 3) := by decide +kernel
theorem dX4_box_39 : decode cX4_box 39 = .ok (.iconst 0, 1) := by decide +kernel
theorem dX4_box_40 : decode cX4_box 40 = .ok (.invokevirtual 100, 3) := by decide +kernel
theorem dX4_box_43 : decode cX4_box 43 = .ok (.ifCond .ne 5, 3) := by decide +kernel
theorem dX4_box_46 : decode cX4_box 46 = .ok (.iconst 0, 1) := by decide +kernel
theorem dX4_box_47 : decode cX4_box 47 = .ok (.ireturn, 1) := by decide +kernel
theorem dX4_box_48 : decode cX4_box 48 = .ok (.aload_n 0, 1) := by decide +kernel
theorem dX4_box_49 : decode cX4_box 49 = .ok (.getfield 7, 3) := by decide +kernel
theorem dX4_box_52 : decode cX4_box 52 = .ok (.aload_n 0, 1) := by decide +kernel
theorem dX4_box_53 : decode cX4_box 53 = .ok (.getfield 66, 3) := by decide +kernel
theorem dX4_box_56 : decode cX4_box 56 = .ok (.iload_n 1, 1) := by decide +kernel
theorem dX4_box_57 : decode cX4_box 57 = .ok (.iastore, 1) := by decide +kernel
theorem dX4_box_58 : decode cX4_box 58 = .ok (.aload_n 0, 1) := by decide +kernel
theorem dX4_box_59 : decode cX4_box 59 = .ok (.getfield 13, 3) := by decide +kernel
theorem dX4_box_62 : decode cX4_box 62 = .ok (.aload_n 0, 1) := by decide +kernel
theorem dX4_box_63 : decode cX4_box 63 = .ok (.getfield 66, 3) := by decide +kernel
theorem dX4_box_66 : decode cX4_box 66 = .ok (.iload_n 2, 1) := by decide +kernel
theorem dX4_box_67 : decode cX4_box 67 = .ok (.iastore, 1) := by decide +kernel
theorem dX4_box_68 : decode cX4_box 68 = .ok (.aload_n 0, 1) := by decide +kernel
theorem dX4_box_69 : decode cX4_box 69 = .ok (.dup, 1) := by decide +kernel
theorem dX4_box_70 : decode cX4_box 70 = .ok (.getfield 66, 3) := by decide +kernel
theorem dX4_box_73 : decode cX4_box 73 = .ok (.iconst 1, 1) := by decide +kernel
theorem dX4_box_74 : decode cX4_box 74 = .ok (.iadd, 1) := by decide +kernel
theorem dX4_box_75 : decode cX4_box 75 = .ok (.putfield 66, 3) := by decide +kernel
theorem dX4_box_78 : decode cX4_box 78 = .ok (.aload_n 0, 1) := by decide +kernel
theorem dX4_box_79 : decode cX4_box 79 = .ok (.getfield 66, 3) := by decide +kernel
theorem dX4_box_82 : decode cX4_box 82 = .ok (.iconst 1, 1) := by decide +kernel
theorem dX4_box_83 : decode cX4_box 83 = .ok (.isub, 1) := by decide +kernel
theorem dX4_box_84 : decode cX4_box 84 = .ok (.ireturn, 1) := by decide +kernel
set_option maxRecDepth 20000 in
theorem ggX4_setTrust_X4_in : GoodIn wsX4_setTrust wsX4_in := goodIn_r _ [5] (by decide +kernel) (by decide +kernel)
set_option maxRecDepth 20000 in
theorem gX4_setTrust_X4_in : GoodIn wsX4_setTrust (va_wsS RX4 69 yX4_in wsX4_in) := goodIn_app (goodIn_of _ (by decide +kernel)) ggX4_setTrust_X4_in
set_option maxRecDepth 20000 in
theorem ggX4_setTrust_X4_asked_ : GoodIn wsX4_setTrust wsX4_asked_ := goodIn_r _ [9, 10, 52, 53, 54, 55, 56, 57, 58, 59, 60, 61, 62, 63, 64, 65, 66, 67, 68, 69, 70, 71, 72, 73, 74] (by decide +kernel) (by decide +kernel)
set_option maxRecDepth 20000 in
theorem gX4_setTrust_X4_asked_ : GoodIn wsX4_setTrust (wsV RX4 100 RX4 yX4_asked_ wsX4_asked_) := goodIn_app (goodIn_of _ (by decide +kernel)) ggX4_setTrust_X4_asked_
set_option maxRecDepth 20000 in
theorem ggX4_setTrust_X4_settles : GoodIn wsX4_setTrust wsX4_settles := goodIn_r _ [14, 15, 16, 17, 18, 19, 20, 21, 22, 23, 24, 4, 25, 26, 27, 28, 29, 30, 31, 32, 33, 34, 35, 36, 37, 38, 39, 40, 41, 42, 43, 1, 44, 45, 46, 47, 48, 49, 50, 51, 2, 3, 5, 52, 53, 54, 55, 56, 57, 58, 59, 60, 61, 62, 63, 64, 65, 66, 67, 68, 69, 70, 71, 72, 73, 74] (by decide +kernel) (by decide +kernel)
set_option maxRecDepth 20000 in
theorem gX4_setTrust_X4_settles : GoodIn wsX4_setTrust (wsV RX4 104 RX4 yX4_settles wsX4_settles) := goodIn_app (goodIn_of _ (by decide +kernel)) ggX4_setTrust_X4_settles
theorem dX4_setTrust_0 : decode cX4_setTrust 0 = .ok (.aload_n 0, 1) := by decide +kernel
theorem dX4_setTrust_1 : decode cX4_setTrust 1 = .ok (.iload_n 1, 1) := by decide +kernel
theorem dX4_setTrust_2 : decode cX4_setTrust 2 = .ok (.iconst 0, 1) := by decide +kernel
theorem dX4_setTrust_3 : decode cX4_setTrust 3 = .ok (.bipush 13, 2) := by decide +kernel
theorem dX4_setTrust_5 : decode cX4_setTrust 5 = .ok (.invokestatic 69, 3) := by decide +kernel
theorem dX4_setTrust_8 : decode cX4_setTrust 8 = .ok (.iload_n 2, 1) := by decide +kernel
theorem dX4_setTrust_9 : decode cX4_setTrust 9 = .ok (.iconst 1, 1) := by decide +kernel
theorem dX4_setTrust_10 : decode cX4_setTrust 10 = .ok (.bipush 9, 2) := by decide +kernel
theorem dX4_setTrust_12 : decode cX4_setTrust 12 = .ok (.invokestatic 69, 3) := by decide +kernel
theorem dX4_setTrust_15 : decode cX4_setTrust 15 = .ok (.invokevirtual 100, 3) := by decide +kernel
theorem dX4_setTrust_18 : decode cX4_setTrust 18 = .ok (.ifCond .ne 5, 3) := by decide +kernel
theorem dX4_setTrust_21 : decode cX4_setTrust 21 = .ok (.iconst 0, 1) := by decide +kernel
theorem dX4_setTrust_22 : decode cX4_setTrust 22 = .ok (.ireturn, 1) := by decide +kernel
theorem dX4_setTrust_23 : decode cX4_setTrust 23 = .ok (.aload_n 0, 1) := by decide +kernel
theorem dX4_setTrust_24 : decode cX4_setTrust 24 = .ok (.getfield 38, 3) := by decide +kernel
theorem dX4_setTrust_27 : decode cX4_setTrust 27 = .ok (.iload_n 1, 1) := by decide +kernel
theorem dX4_setTrust_28 : decode cX4_setTrust 28 = .ok (.iaload, 1) := by decide +kernel
theorem dX4_setTrust_29 : decode cX4_setTrust 29 = .ok (.istore_n 3, 1) := by decide +kernel
theorem dX4_setTrust_30 : decode cX4_setTrust 30 = .ok (.aload_n 0, 1) := by decide +kernel
theorem dX4_setTrust_31 : decode cX4_setTrust 31 = .ok (.getfield 38, 3) := by decide +kernel
theorem dX4_setTrust_34 : decode cX4_setTrust 34 = .ok (.iload_n 1, 1) := by decide +kernel
theorem dX4_setTrust_35 : decode cX4_setTrust 35 = .ok (.iload_n 2, 1) := by decide +kernel
theorem dX4_setTrust_36 : decode cX4_setTrust 36 = .ok (.iastore, 1) := by decide +kernel
theorem dX4_setTrust_37 : decode cX4_setTrust 37 = .ok (.aload_n 0, 1) := by decide +kernel
theorem dX4_setTrust_38 : decode cX4_setTrust 38 = .ok (.invokevirtual 104, 3) := by decide +kernel
theorem dX4_setTrust_41 : decode cX4_setTrust 41 = .ok (.iload_n 3, 1) := by decide +kernel
theorem dX4_setTrust_42 : decode cX4_setTrust 42 = .ok (.ireturn, 1) := by decide +kernel
set_option maxRecDepth 20000 in
theorem ggX4_pass_X4_in : GoodIn wsX4_pass wsX4_in := goodIn_r _ [6] (by decide +kernel) (by decide +kernel)
set_option maxRecDepth 20000 in
theorem gX4_pass_X4_in : GoodIn wsX4_pass (va_wsS RX4 69 yX4_in wsX4_in) := goodIn_app (goodIn_of _ (by decide +kernel)) ggX4_pass_X4_in
set_option maxRecDepth 20000 in
theorem ggX4_pass_X4_asked_ : GoodIn wsX4_pass wsX4_asked_ := goodIn_r _ [10, 11, 12, 13, 14, 15, 16, 17, 18, 19, 20, 21, 22, 23, 24, 25, 26, 27, 28, 29, 30, 31, 32, 33, 34] (by decide +kernel) (by decide +kernel)
set_option maxRecDepth 20000 in
theorem gX4_pass_X4_asked_ : GoodIn wsX4_pass (wsV RX4 100 RX4 yX4_asked_ wsX4_asked_) := goodIn_app (goodIn_of _ (by decide +kernel)) ggX4_pass_X4_asked_
theorem dX4_pass_0 : decode cX4_pass 0 = .ok (.iload_n 1, 1) := by decide +kernel
theorem dX4_pass_1 : decode cX4_pass 1 = .ok (.iconst 1, 1) := by decide +kernel
theorem dX4_pass_2 : decode cX4_pass 2 = .ok (.sipush 2000, 3) := by decide +kernel
theorem dX4_pass_5 : decode cX4_pass 5 = .ok (.invokestatic 69, 3) := by decide +kernel
theorem dX4_pass_8 : decode cX4_pass 8 = .ok (.istore_n 2, 1) := by decide +kernel
theorem dX4_pass_9 : decode cX4_pass 9 = .ok (.aload_n 0, 1) := by decide +kernel
theorem dX4_pass_10 : decode cX4_pass 10 = .ok (.iload_n 2, 1) := by decide +kernel
theorem dX4_pass_11 : decode cX4_pass 11 = .ok (.iload_n 2, 1) := by decide +kernel
theorem dX4_pass_12 : decode cX4_pass 12 = .ok (.ifCond .eq 18, 3) := by decide +kernel
theorem dX4_pass_15 : decode cX4_pass 15 = .ok (.aload_n 0, 1) := by decide +kernel
theorem dX4_pass_16 : decode cX4_pass 16 = .ok (.getfield 107, 3) := by decide +kernel
theorem dX4_pass_19 : decode cX4_pass 19 = .ok (.iload_n 1, 1) := by decide +kernel
theorem dX4_pass_20 : decode cX4_pass 20 = .ok (.iadd, 1) := by decide +kernel
theorem dX4_pass_21 : decode cX4_pass 21 = .ok (.ldc 110, 2) := by decide +kernel
theorem dX4_pass_23 : decode cX4_pass 23 = .ok (.if_icmp .gt 7, 3) := by decide +kernel
theorem dX4_pass_26 : decode cX4_pass 26 = .ok (.iconst 1, 1) := by decide +kernel
theorem dX4_pass_27 : decode cX4_pass 27 = .ok (.goto 4, 3) := by decide +kernel
theorem dX4_pass_30 : decode cX4_pass 30 = .ok (.iconst 0, 1) := by decide +kernel
theorem dX4_pass_31 : decode cX4_pass 31 = .ok (.invokevirtual 100, 3) := by decide +kernel
theorem dX4_pass_34 : decode cX4_pass 34 = .ok (.ifCond .ne 5, 3) := by decide +kernel
theorem dX4_pass_37 : decode cX4_pass 37 = .ok (.iconst 0, 1) := by decide +kernel
theorem dX4_pass_38 : decode cX4_pass 38 = .ok (.ireturn, 1) := by decide +kernel
theorem dX4_pass_39 : decode cX4_pass 39 = .ok (.aload_n 0, 1) := by decide +kernel
theorem dX4_pass_40 : decode cX4_pass 40 = .ok (.dup, 1) := by decide +kernel
theorem dX4_pass_41 : decode cX4_pass 41 = .ok (.getfield 107, 3) := by decide +kernel
theorem dX4_pass_44 : decode cX4_pass 44 = .ok (.iload_n 1, 1) := by decide +kernel
theorem dX4_pass_45 : decode cX4_pass 45 = .ok (.iadd, 1) := by decide +kernel
theorem dX4_pass_46 : decode cX4_pass 46 = .ok (.putfield 107, 3) := by decide +kernel
theorem dX4_pass_49 : decode cX4_pass 49 = .ok (.aload_n 0, 1) := by decide +kernel
theorem dX4_pass_50 : decode cX4_pass 50 = .ok (.getfield 107, 3) := by decide +kernel
theorem dX4_pass_53 : decode cX4_pass 53 = .ok (.ireturn, 1) := by decide +kernel
set_option maxRecDepth 20000 in
theorem ggX4_adds_X4_settles : GoodIn wsX4_adds wsX4_settles := goodIn_r _ [10, 11, 12, 13, 14, 15, 16, 17, 18, 19, 20, 9, 21, 1, 22, 23, 3, 2, 24, 25, 26, 27, 28, 29, 30, 31, 32, 33, 34, 5, 35, 36, 37, 38, 39, 40, 41, 42, 43, 44, 45, 46, 47, 48, 49, 50, 51, 52, 53, 54, 55, 56, 57, 58, 59, 60, 61, 62, 63, 64, 65, 66, 67, 68, 69, 70] (by decide +kernel) (by decide +kernel)
set_option maxRecDepth 20000 in
theorem gX4_adds_X4_settles : GoodIn wsX4_adds (wsV RX4 104 RX4 yX4_settles wsX4_settles) := goodIn_app (goodIn_of _ (by decide +kernel)) ggX4_adds_X4_settles
theorem dX4_adds_0 : decode cX4_adds 0 = .ok (.bipush 12, 2) := by decide +kernel
theorem dX4_adds_2 : decode cX4_adds 2 = .ok (.iload_n 1, 1) := by decide +kernel
theorem dX4_adds_3 : decode cX4_adds 3 = .ok (.imul, 1) := by decide +kernel
theorem dX4_adds_4 : decode cX4_adds 4 = .ok (.aload_n 0, 1) := by decide +kernel
theorem dX4_adds_5 : decode cX4_adds 5 = .ok (.getfield 16, 3) := by decide +kernel
theorem dX4_adds_8 : decode cX4_adds 8 = .ok (.iload_n 1, 1) := by decide +kernel
theorem dX4_adds_9 : decode cX4_adds 9 = .ok (.iaload, 1) := by decide +kernel
theorem dX4_adds_10 : decode cX4_adds 10 = .ok (.iadd, 1) := by decide +kernel
theorem dX4_adds_11 : decode cX4_adds 11 = .ok (.istore 4, 2) := by decide +kernel
theorem dX4_adds_13 : decode cX4_adds 13 = .ok (.aload_n 0, 1) := by decide +kernel
theorem dX4_adds_14 : decode cX4_adds 14 = .ok (.getfield 29, 3) := by decide +kernel
theorem dX4_adds_17 : decode cX4_adds 17 = .ok (.iload 4, 2) := by decide +kernel
theorem dX4_adds_19 : decode cX4_adds 19 = .ok (.iload_n 2, 1) := by decide +kernel
theorem dX4_adds_20 : decode cX4_adds 20 = .ok (.iastore, 1) := by decide +kernel
theorem dX4_adds_21 : decode cX4_adds 21 = .ok (.aload_n 0, 1) := by decide +kernel
theorem dX4_adds_22 : decode cX4_adds 22 = .ok (.getfield 32, 3) := by decide +kernel
theorem dX4_adds_25 : decode cX4_adds 25 = .ok (.iload 4, 2) := by decide +kernel
theorem dX4_adds_27 : decode cX4_adds 27 = .ok (.aload_n 0, 1) := by decide +kernel
theorem dX4_adds_28 : decode cX4_adds 28 = .ok (.getfield 107, 3) := by decide +kernel
theorem dX4_adds_31 : decode cX4_adds 31 = .ok (.iastore, 1) := by decide +kernel
theorem dX4_adds_32 : decode cX4_adds 32 = .ok (.aload_n 0, 1) := by decide +kernel
theorem dX4_adds_33 : decode cX4_adds 33 = .ok (.getfield 35, 3) := by decide +kernel
theorem dX4_adds_36 : decode cX4_adds 36 = .ok (.iload 4, 2) := by decide +kernel
theorem dX4_adds_38 : decode cX4_adds 38 = .ok (.iload_n 3, 1) := by decide +kernel
theorem dX4_adds_39 : decode cX4_adds 39 = .ok (.iastore, 1) := by decide +kernel
theorem dX4_adds_40 : decode cX4_adds 40 = .ok (.aload_n 0, 1) := by decide +kernel
theorem dX4_adds_41 : decode cX4_adds 41 = .ok (.getfield 16, 3) := by decide +kernel
theorem dX4_adds_44 : decode cX4_adds 44 = .ok (.iload_n 1, 1) := by decide +kernel
theorem dX4_adds_45 : decode cX4_adds 45 = .ok (.dup2, 1) := by decide +kernel
theorem dX4_adds_46 : decode cX4_adds 46 = .ok (.iaload, 1) := by decide +kernel
theorem dX4_adds_47 : decode cX4_adds 47 = .ok (.iconst 1, 1) := by decide +kernel
theorem dX4_adds_48 : decode cX4_adds 48 = .ok (.iadd, 1) := by decide +kernel
theorem dX4_adds_49 : decode cX4_adds 49 = .ok (.iastore, 1) := by decide +kernel
theorem dX4_adds_50 : decode cX4_adds 50 = .ok (.aload_n 0, 1) := by decide +kernel
theorem dX4_adds_51 : decode cX4_adds 51 = .ok (.invokevirtual 104, 3) := by decide +kernel
theorem dX4_adds_54 : decode cX4_adds 54 = .ok (.aload_n 0, 1) := by decide +kernel
theorem dX4_adds_55 : decode cX4_adds 55 = .ok (.getfield 16, 3) := by decide +kernel
theorem dX4_adds_58 : decode cX4_adds 58 = .ok (.iload_n 1, 1) := by decide +kernel
theorem dX4_adds_59 : decode cX4_adds 59 = .ok (.iaload, 1) := by decide +kernel
theorem dX4_adds_60 : decode cX4_adds 60 = .ok (.iconst 1, 1) := by decide +kernel
theorem dX4_adds_61 : decode cX4_adds 61 = .ok (.isub, 1) := by decide +kernel
theorem dX4_adds_62 : decode cX4_adds 62 = .ok (.ireturn, 1) := by decide +kernel
set_option maxRecDepth 20000 in
theorem ggX4_scan_X4_isBox : GoodIn wsX4_scan wsX4_isBox := goodIn_r _ [6, 7, 8, 9, 5, 10, 61, 62, 63, 64, 65, 66, 67, 68, 69, 70, 71, 72, 73, 74, 75, 76, 77, 78, 79, 80, 81, 82, 83] (by decide +kernel) (by decide +kernel)
set_option maxRecDepth 20000 in
theorem gX4_scan_X4_isBox : GoodIn wsX4_scan (wsV RX4 111 RX4 yX4_isBox wsX4_isBox) := goodIn_app (goodIn_of _ (by decide +kernel)) ggX4_scan_X4_isBox
set_option maxRecDepth 20000 in
theorem ggX4_scan_X4_in : GoodIn wsX4_scan wsX4_in := goodIn_r _ [10] (by decide +kernel) (by decide +kernel)
set_option maxRecDepth 20000 in
theorem gX4_scan_X4_in : GoodIn wsX4_scan (va_wsS RX4 69 yX4_in wsX4_in) := goodIn_app (goodIn_of _ (by decide +kernel)) ggX4_scan_X4_in
set_option maxRecDepth 20000 in
theorem ggX4_scan_X4_asked__ : GoodIn wsX4_scan wsX4_asked__ := goodIn_r _ [14, 15, 61, 62, 63, 64, 65, 66, 67, 68, 69, 70, 71, 72, 73, 74, 75, 76, 77, 78, 79, 80, 81, 82, 83] (by decide +kernel) (by decide +kernel)
set_option maxRecDepth 20000 in
theorem gX4_scan_X4_asked__ : GoodIn wsX4_scan (wsV RX4 115 RX4 yX4_asked__ wsX4_asked__) := goodIn_app (goodIn_of _ (by decide +kernel)) ggX4_scan_X4_asked__
set_option maxRecDepth 20000 in
theorem ggX4_scan_X4_adds : GoodIn wsX4_scan wsX4_adds := goodIn_r _ [19, 1, 20, 21, 22, 23, 24, 25, 26, 5, 27, 7, 28, 29, 30, 31, 32, 33, 34, 35, 36, 37, 38, 39, 40, 41, 42, 43, 44, 45, 46, 47, 48, 49, 50, 51, 52, 53, 54, 55, 56, 57, 58, 59, 60, 8, 9, 10, 61, 62, 63, 64, 65, 66, 67, 68, 69, 70, 71, 72, 73, 74, 75, 76, 77, 78, 79, 80, 81, 82, 83] (by decide +kernel) (by decide +kernel)
set_option maxRecDepth 20000 in
theorem gX4_scan_X4_adds : GoodIn wsX4_scan (wsV RX4 118 RX4 yX4_adds wsX4_adds) := goodIn_app (goodIn_of _ (by decide +kernel)) ggX4_scan_X4_adds
theorem dX4_scan_0 : decode cX4_scan 0 = .ok (.aload_n 0, 1) := by decide +kernel
theorem dX4_scan_1 : decode cX4_scan 1 = .ok (.iload_n 1, 1) := by decide +kernel
theorem dX4_scan_2 : decode cX4_scan 2 = .ok (.invokevirtual 111, 3) := by decide +kernel
theorem dX4_scan_5 : decode cX4_scan 5 = .ok (.ifCond .eq 16, 3) := by decide +kernel
theorem dX4_scan_8 : decode cX4_scan 8 = .ok (.iload_n 2, 1) := by decide +kernel
theorem dX4_scan_9 : decode cX4_scan 9 = .ok (.iconst 0, 1) := by decide +kernel
theorem dX4_scan_10 : decode cX4_scan 10 = .ok (.iconst 3, 1) := by decide +kernel
theorem dX4_scan_11 : decode cX4_scan 11 = .ok (.invokestatic 69, 3) := by decide +kernel
theorem dX4_scan_14 : decode cX4_scan 14 = .ok (.ifCond .eq 7, 3) := by decide +kernel
theorem dX4_scan_17 : decode cX4_scan 17 = .ok (.iconst 1, 1) := by decide +kernel
theorem dX4_scan_18 : decode cX4_scan 18 = .ok (.goto 4, 3) := by decide +kernel
theorem dX4_scan_21 : decode cX4_scan 21 = .ok (.iconst 0, 1) := by decide +kernel
theorem dX4_scan_22 : decode cX4_scan 22 = .ok (.istore 4, 2) := by decide +kernel
theorem dX4_scan_24 : decode cX4_scan 24 = .ok (.iload_n 3, 1) := by decide +kernel
theorem dX4_scan_25 : decode cX4_scan 25 = .ok (.iconst 0, 1) := by decide +kernel
theorem dX4_scan_26 : decode cX4_scan 26 = .ok (.iconst 2, 1) := by decide +kernel
theorem dX4_scan_27 : decode cX4_scan 27 = .ok (.invokestatic 69, 3) := by decide +kernel
theorem dX4_scan_30 : decode cX4_scan 30 = .ok (.istore 5, 2) := by decide +kernel
theorem dX4_scan_32 : decode cX4_scan 32 = .ok (.aload_n 0, 1) := by decide +kernel
theorem dX4_scan_33 : decode cX4_scan 33 = .ok (.iload 4, 2) := by decide +kernel
theorem dX4_scan_35 : decode cX4_scan 35 = .ok (.iload 5, 2) := by decide +kernel
theorem dX4_scan_37 : decode cX4_scan 37 = .ok (.iload 4, 2) := by decide +kernel
theorem dX4_scan_39 : decode cX4_scan 39 = .ok (.ifCond .eq 18, 3) := by decide +kernel
theorem dX4_scan_42 : decode cX4_scan 42 = .ok (.aload_n 0, 1) := by decide +kernel
theorem dX4_scan_43 : decode cX4_scan 43 = .ok (.getfield 16, 3) := by decide +kernel
theorem dX4_scan_46 : decode cX4_scan 46 = .ok (.iload_n 1, 1) := by decide +kernel
theorem dX4_scan_47 : decode cX4_scan 47 = .ok (.iaload, 1) := by decide +kernel
theorem dX4_scan_48 : decode cX4_scan 48 = .ok (.bipush 12, 2) := by decide +kernel
theorem dX4_scan_50 : decode cX4_scan 50 = .ok (.if_icmp .ge 7, 3) := by decide +kernel
theorem dX4_scan_53 : decode cX4_scan 53 = .ok (.iconst 1, 1) := by decide +kernel
theorem dX4_scan_54 : decode cX4_scan 54 = .ok (.goto 4, 3) := by decide +kernel
theorem dX4_scan_57 : decode cX4_scan 57 = .ok (.iconst 0, 1) := by decide +kernel
theorem dX4_scan_58 : decode cX4_scan 58 = .ok (.invokevirtual 115, 3) := by decide +kernel
theorem dX4_scan_61 : decode cX4_scan 61 = .ok (.ifCond .ne 5, 3) := by decide +kernel
theorem dX4_scan_64 : decode cX4_scan 64 = .ok (.iconst 0, 1) := by decide +kernel
theorem dX4_scan_65 : decode cX4_scan 65 = .ok (.ireturn, 1) := by decide +kernel
theorem dX4_scan_66 : decode cX4_scan 66 = .ok (.aload_n 0, 1) := by decide +kernel
theorem dX4_scan_67 : decode cX4_scan 67 = .ok (.iload_n 1, 1) := by decide +kernel
theorem dX4_scan_68 : decode cX4_scan 68 = .ok (.iload_n 3, 1) := by decide +kernel
theorem dX4_scan_69 : decode cX4_scan 69 = .ok (.ifCond .ne 9, 3) := by decide +kernel
theorem dX4_scan_72 : decode cX4_scan 72 = .ok (.iload_n 2, 1) := by decide +kernel
theorem dX4_scan_73 : decode cX4_scan 73 = .ok (.iconst 1, 1) := by decide +kernel
theorem dX4_scan_74 : decode cX4_scan 74 = .ok (.iadd, 1) := by decide +kernel
theorem dX4_scan_75 : decode cX4_scan 75 = .ok (.goto 14, 3) := by decide +kernel
theorem dX4_scan_78 : decode cX4_scan 78 = .ok (.iload_n 3, 1) := by decide +kernel
theorem dX4_scan_79 : decode cX4_scan 79 = .ok (.iconst 1, 1) := by decide +kernel
theorem dX4_scan_80 : decode cX4_scan 80 = .ok (.if_icmp .ne 7, 3) := by decide +kernel
theorem dX4_scan_83 : decode cX4_scan 83 = .ok (.iconst 0, 1) := by decide +kernel
theorem dX4_scan_84 : decode cX4_scan 84 = .ok (.goto 5, 3) := by decide +kernel
theorem dX4_scan_87 : decode cX4_scan 87 = .ok (.bipush 30, 2) := by decide +kernel
theorem dX4_scan_89 : decode cX4_scan 89 = .ok (.iload_n 2, 1) := by decide +kernel
theorem dX4_scan_90 : decode cX4_scan 90 = .ok (.invokevirtual 118, 3) := by decide +kernel
theorem dX4_scan_93 : decode cX4_scan 93 = .ok (.ireturn, 1) := by decide +kernel
set_option maxRecDepth 20000 in
theorem ggX4_lay_X4_isBox : GoodIn wsX4_lay wsX4_isBox := goodIn_r _ [8, 9, 10, 11, 7, 12, 66, 67, 68, 69, 70, 71, 72, 73, 74, 75, 76, 77, 78, 79, 80, 81, 82, 83, 84, 85, 86, 87, 88] (by decide +kernel) (by decide +kernel)
set_option maxRecDepth 20000 in
theorem gX4_lay_X4_isBox : GoodIn wsX4_lay (wsV RX4 111 RX4 yX4_isBox wsX4_isBox) := goodIn_app (goodIn_of _ (by decide +kernel)) ggX4_lay_X4_isBox
set_option maxRecDepth 20000 in
theorem ggX4_lay_X4_isDoor : GoodIn wsX4_lay wsX4_isDoor := goodIn_r _ [15, 10, 11, 7, 12] (by decide +kernel) (by decide +kernel)
set_option maxRecDepth 20000 in
theorem gX4_lay_X4_isDoor : GoodIn wsX4_lay (va_wsS RX4 122 yX4_isDoor wsX4_isDoor) := goodIn_app (goodIn_of _ (by decide +kernel)) ggX4_lay_X4_isDoor
set_option maxRecDepth 20000 in
theorem ggX4_lay_X4_asked_ : GoodIn wsX4_lay wsX4_asked_ := goodIn_r _ [19, 20, 66, 67, 68, 69, 70, 71, 72, 73, 74, 75, 76, 77, 78, 79, 80, 81, 82, 83, 84, 85, 86, 87, 88] (by decide +kernel) (by decide +kernel)
set_option maxRecDepth 20000 in
theorem gX4_lay_X4_asked_ : GoodIn wsX4_lay (wsV RX4 100 RX4 yX4_asked_ wsX4_asked_) := goodIn_app (goodIn_of _ (by decide +kernel)) ggX4_lay_X4_asked_
set_option maxRecDepth 20000 in
theorem ggX4_lay_X4_adds : GoodIn wsX4_lay wsX4_adds := goodIn_r _ [24, 1, 25, 26, 27, 28, 29, 30, 31, 7, 32, 9, 33, 34, 35, 36, 37, 38, 39, 40, 41, 42, 43, 44, 45, 46, 47, 48, 49, 50, 51, 52, 53, 54, 55, 56, 57, 58, 59, 60, 61, 62, 63, 64, 65, 10, 11, 12, 66, 67, 68, 69, 70, 71, 72, 73, 74, 75, 76, 77, 78, 79, 80, 81, 82, 83, 84, 85, 86, 87, 88] (by decide +kernel) (by decide +kernel)
set_option maxRecDepth 20000 in
theorem gX4_lay_X4_adds : GoodIn wsX4_lay (wsV RX4 118 RX4 yX4_adds wsX4_adds) := goodIn_app (goodIn_of _ (by decide +kernel)) ggX4_lay_X4_adds
theorem dX4_lay_0 : decode cX4_lay 0 = .ok (.aload_n 0, 1) := by decide +kernel
theorem dX4_lay_1 : decode cX4_lay 1 = .ok (.iload_n 1, 1) := by decide +kernel
theorem dX4_lay_2 : decode cX4_lay 2 = .ok (.invokevirtual 111, 3) := by decide +kernel
theorem dX4_lay_5 : decode cX4_lay 5 = .ok (.ifCond .eq 14, 3) := by decide +kernel
theorem dX4_lay_8 : decode cX4_lay 8 = .ok (.iload_n 2, 1) := by decide +kernel
theorem dX4_lay_9 : decode cX4_lay 9 = .ok (.invokestatic 122, 3) := by decide +kernel
theorem dX4_lay_12 : decode cX4_lay 12 = .ok (.ifCond .eq 7, 3) := by decide +kernel
theorem dX4_lay_15 : decode cX4_lay 15 = .ok (.iconst 1, 1) := by decide +kernel
theorem dX4_lay_16 : decode cX4_lay 16 = .ok (.goto 4, 3) := by decide +kernel
theorem dX4_lay_19 : decode cX4_lay 19 = .ok (.iconst 0, 1) := by decide +kernel
theorem dX4_lay_20 : decode cX4_lay 20 = .ok (.istore_n 3, 1) := by decide +kernel
theorem dX4_lay_21 : decode cX4_lay 21 = .ok (.aload_n 0, 1) := by decide +kernel
theorem dX4_lay_22 : decode cX4_lay 22 = .ok (.iload_n 3, 1) := by decide +kernel
theorem dX4_lay_23 : decode cX4_lay 23 = .ok (.iload_n 3, 1) := by decide +kernel
theorem dX4_lay_24 : decode cX4_lay 24 = .ok (.ifCond .eq 33, 3) := by decide +kernel
theorem dX4_lay_27 : decode cX4_lay 27 = .ok (.aload_n 0, 1) := by decide +kernel
theorem dX4_lay_28 : decode cX4_lay 28 = .ok (.getfield 16, 3) := by decide +kernel
theorem dX4_lay_31 : decode cX4_lay 31 = .ok (.iload_n 1, 1) := by decide +kernel
theorem dX4_lay_32 : decode cX4_lay 32 = .ok (.iaload, 1) := by decide +kernel
theorem dX4_lay_33 : decode cX4_lay 33 = .ok (.bipush 12, 2) := by decide +kernel
theorem dX4_lay_35 : decode cX4_lay 35 = .ok (.if_icmp .ge 22, 3) := by decide +kernel
theorem dX4_lay_38 : decode cX4_lay 38 = .ok (.aload_n 0, 1) := by decide +kernel
theorem dX4_lay_39 : decode cX4_lay 39 = .ok (.getfield 7, 3) := by decide +kernel
theorem dX4_lay_42 : decode cX4_lay 42 = .ok (.iload_n 1, 1) := by decide +kernel
theorem dX4_lay_43 : decode cX4_lay 43 = .ok (.iaload, 1) := by decide +kernel
theorem dX4_lay_44 : decode cX4_lay 44 = .ok (.aload_n 0, 1) := by decide +kernel
theorem dX4_lay_45 : decode cX4_lay 45 = .ok (.getfield 41, 3) := by decide +kernel
theorem dX4_lay_48 : decode cX4_lay 48 = .ok (.iload_n 2, 1) := by decide +kernel
theorem dX4_lay_49 : decode cX4_lay 49 = .ok (.iaload, 1) := by decide +kernel
theorem dX4_lay_50 : decode cX4_lay 50 = .ok (.if_icmp .gt 7, 3) := by decide +kernel
theorem dX4_lay_53 : decode cX4_lay 53 = .ok (.iconst 1, 1) := by decide +kernel
theorem dX4_lay_54 : decode cX4_lay 54 = .ok (.goto 4, 3) := by decide +kernel
theorem dX4_lay_57 : decode cX4_lay 57 = .ok (.iconst 0, 1) := by decide +kernel
theorem dX4_lay_58 : decode cX4_lay 58 = .ok (.invokevirtual 100, 3) := by decide +kernel
theorem dX4_lay_61 : decode cX4_lay 61 = .ok (.ifCond .ne 5, 3) := by decide +kernel
theorem dX4_lay_64 : decode cX4_lay 64 = .ok (.iconst 0, 1) := by decide +kernel
theorem dX4_lay_65 : decode cX4_lay 65 = .ok (.ireturn, 1) := by decide +kernel
theorem dX4_lay_66 : decode cX4_lay 66 = .ok (.aload_n 0, 1) := by decide +kernel
theorem dX4_lay_67 : decode cX4_lay 67 = .ok (.iload_n 1, 1) := by decide +kernel
theorem dX4_lay_68 : decode cX4_lay 68 = .ok (.bipush 10, 2) := by decide +kernel
theorem dX4_lay_70 : decode cX4_lay 70 = .ok (.iload_n 2, 1) := by decide +kernel
theorem dX4_lay_71 : decode cX4_lay 71 = .ok (.iadd, 1) := by decide +kernel
theorem dX4_lay_72 : decode cX4_lay 72 = .ok (.iconst 4, 1) := by decide +kernel
theorem dX4_lay_73 : decode cX4_lay 73 = .ok (.iload_n 2, 1) := by decide +kernel
theorem dX4_lay_74 : decode cX4_lay 74 = .ok (.iadd, 1) := by decide +kernel
theorem dX4_lay_75 : decode cX4_lay 75 = .ok (.invokevirtual 118, 3) := by decide +kernel
theorem dX4_lay_78 : decode cX4_lay 78 = .ok (.ireturn, 1) := by decide +kernel
set_option maxRecDepth 20000 in
theorem ggX4_find_X4_isBox : GoodIn wsX4_find wsX4_isBox := goodIn_r _ [6, 7, 8, 9, 5, 10, 64, 65, 66, 67, 68, 69, 70, 71, 72, 73, 74, 75, 76, 77, 78, 79, 80, 81, 82, 83, 84, 85, 86] (by decide +kernel) (by decide +kernel)
set_option maxRecDepth 20000 in
theorem gX4_find_X4_isBox : GoodIn wsX4_find (wsV RX4 111 RX4 yX4_isBox wsX4_isBox) := goodIn_app (goodIn_of _ (by decide +kernel)) ggX4_find_X4_isBox
set_option maxRecDepth 20000 in
theorem ggX4_find_X4_isPlace : GoodIn wsX4_find wsX4_isPlace := goodIn_r _ [13, 8, 9, 5, 10] (by decide +kernel) (by decide +kernel)
set_option maxRecDepth 20000 in
theorem gX4_find_X4_isPlace : GoodIn wsX4_find (va_wsS RX4 125 yX4_isPlace wsX4_isPlace) := goodIn_app (goodIn_of _ (by decide +kernel)) ggX4_find_X4_isPlace
set_option maxRecDepth 20000 in
theorem ggX4_find_X4_asked_ : GoodIn wsX4_find wsX4_asked_ := goodIn_r _ [17, 18, 64, 65, 66, 67, 68, 69, 70, 71, 72, 73, 74, 75, 76, 77, 78, 79, 80, 81, 82, 83, 84, 85, 86] (by decide +kernel) (by decide +kernel)
set_option maxRecDepth 20000 in
theorem gX4_find_X4_asked_ : GoodIn wsX4_find (wsV RX4 100 RX4 yX4_asked_ wsX4_asked_) := goodIn_app (goodIn_of _ (by decide +kernel)) ggX4_find_X4_asked_
set_option maxRecDepth 20000 in
theorem ggX4_find_X4_adds : GoodIn wsX4_find wsX4_adds := goodIn_r _ [22, 1, 23, 24, 25, 26, 27, 28, 29, 5, 30, 7, 31, 32, 33, 34, 35, 36, 37, 38, 39, 40, 41, 42, 43, 44, 45, 46, 47, 48, 49, 50, 51, 52, 53, 54, 55, 56, 57, 58, 59, 60, 61, 62, 63, 8, 9, 10, 64, 65, 66, 67, 68, 69, 70, 71, 72, 73, 74, 75, 76, 77, 78, 79, 80, 81, 82, 83, 84, 85, 86] (by decide +kernel) (by decide +kernel)
set_option maxRecDepth 20000 in
theorem gX4_find_X4_adds : GoodIn wsX4_find (wsV RX4 118 RX4 yX4_adds wsX4_adds) := goodIn_app (goodIn_of _ (by decide +kernel)) ggX4_find_X4_adds
theorem dX4_find_0 : decode cX4_find 0 = .ok (.aload_n 0, 1) := by decide +kernel
theorem dX4_find_1 : decode cX4_find 1 = .ok (.iload_n 1, 1) := by decide +kernel
theorem dX4_find_2 : decode cX4_find 2 = .ok (.invokevirtual 111, 3) := by decide +kernel
theorem dX4_find_5 : decode cX4_find 5 = .ok (.ifCond .eq 14, 3) := by decide +kernel
theorem dX4_find_8 : decode cX4_find 8 = .ok (.iload_n 2, 1) := by decide +kernel
theorem dX4_find_9 : decode cX4_find 9 = .ok (.invokestatic 125, 3) := by decide +kernel
theorem dX4_find_12 : decode cX4_find 12 = .ok (.ifCond .eq 7, 3) := by decide +kernel
theorem dX4_find_15 : decode cX4_find 15 = .ok (.iconst 1, 1) := by decide +kernel
theorem dX4_find_16 : decode cX4_find 16 = .ok (.goto 4, 3) := by decide +kernel
theorem dX4_find_19 : decode cX4_find 19 = .ok (.iconst 0, 1) := by decide +kernel
theorem dX4_find_20 : decode cX4_find 20 = .ok (.istore_n 3, 1) := by decide +kernel
theorem dX4_find_21 : decode cX4_find 21 = .ok (.aload_n 0, 1) := by decide +kernel
theorem dX4_find_22 : decode cX4_find 22 = .ok (.iload_n 3, 1) := by decide +kernel
theorem dX4_find_23 : decode cX4_find 23 = .ok (.iload_n 3, 1) := by decide +kernel
theorem dX4_find_24 : decode cX4_find 24 = .ok (.ifCond .eq 18, 3) := by decide +kernel
theorem dX4_find_27 : decode cX4_find 27 = .ok (.aload_n 0, 1) := by decide +kernel
theorem dX4_find_28 : decode cX4_find 28 = .ok (.getfield 16, 3) := by decide +kernel
theorem dX4_find_31 : decode cX4_find 31 = .ok (.iload_n 1, 1) := by decide +kernel
theorem dX4_find_32 : decode cX4_find 32 = .ok (.iaload, 1) := by decide +kernel
theorem dX4_find_33 : decode cX4_find 33 = .ok (.bipush 12, 2) := by decide +kernel
theorem dX4_find_35 : decode cX4_find 35 = .ok (.if_icmp .ge 7, 3) := by decide +kernel
theorem dX4_find_38 : decode cX4_find 38 = .ok (.iconst 1, 1) := by decide +kernel
theorem dX4_find_39 : decode cX4_find 39 = .ok (.goto 4, 3) := by decide +kernel
theorem dX4_find_42 : decode cX4_find 42 = .ok (.iconst 0, 1) := by decide +kernel
theorem dX4_find_43 : decode cX4_find 43 = .ok (.invokevirtual 100, 3) := by decide +kernel
theorem dX4_find_46 : decode cX4_find 46 = .ok (.ifCond .ne 5, 3) := by decide +kernel
theorem dX4_find_49 : decode cX4_find 49 = .ok (.iconst 0, 1) := by decide +kernel
theorem dX4_find_50 : decode cX4_find 50 = .ok (.ireturn, 1) := by decide +kernel
theorem dX4_find_51 : decode cX4_find 51 = .ok (.aload_n 0, 1) := by decide +kernel
theorem dX4_find_52 : decode cX4_find 52 = .ok (.iload_n 1, 1) := by decide +kernel
theorem dX4_find_53 : decode cX4_find 53 = .ok (.iload_n 2, 1) := by decide +kernel
theorem dX4_find_54 : decode cX4_find 54 = .ok (.iconst (-1), 1) := by decide +kernel
theorem dX4_find_55 : decode cX4_find 55 = .ok (.invokevirtual 118, 3) := by decide +kernel
theorem dX4_find_58 : decode cX4_find 58 = .ok (.ireturn, 1) := by decide +kernel
set_option maxRecDepth 20000 in
theorem ggX4_setDoor_X4_isDoor : GoodIn wsX4_setDoor wsX4_isDoor := goodIn_r _ [6, 7, 8, 5, 9] (by decide +kernel) (by decide +kernel)
set_option maxRecDepth 20000 in
theorem gX4_setDoor_X4_isDoor : GoodIn wsX4_setDoor (va_wsS RX4 122 yX4_isDoor wsX4_isDoor) := goodIn_app (goodIn_of _ (by decide +kernel)) ggX4_setDoor_X4_isDoor
set_option maxRecDepth 20000 in
theorem ggX4_setDoor_X4_in : GoodIn wsX4_setDoor wsX4_in := goodIn_r _ [9] (by decide +kernel) (by decide +kernel)
set_option maxRecDepth 20000 in
theorem gX4_setDoor_X4_in : GoodIn wsX4_setDoor (va_wsS RX4 69 yX4_in wsX4_in) := goodIn_app (goodIn_of _ (by decide +kernel)) ggX4_setDoor_X4_in
set_option maxRecDepth 20000 in
theorem ggX4_setDoor_X4_asked__ : GoodIn wsX4_setDoor wsX4_asked__ := goodIn_r _ [13, 14, 15, 16, 17, 18, 19, 20, 21, 22, 23, 24, 25, 26, 27, 28, 29, 30, 31, 32, 33, 34, 35, 36, 37] (by decide +kernel) (by decide +kernel)
set_option maxRecDepth 20000 in
theorem gX4_setDoor_X4_asked__ : GoodIn wsX4_setDoor (wsV RX4 115 RX4 yX4_asked__ wsX4_asked__) := goodIn_app (goodIn_of _ (by decide +kernel)) ggX4_setDoor_X4_asked__
theorem dX4_setDoor_0 : decode cX4_setDoor 0 = .ok (.iload_n 1, 1) := by decide +kernel
theorem dX4_setDoor_1 : decode cX4_setDoor 1 = .ok (.invokestatic 122, 3) := by decide +kernel
theorem dX4_setDoor_4 : decode cX4_setDoor 4 = .ok (.istore_n 3, 1) := by decide +kernel
theorem dX4_setDoor_5 : decode cX4_setDoor 5 = .ok (.aload_n 0, 1) := by decide +kernel
theorem dX4_setDoor_6 : decode cX4_setDoor 6 = .ok (.iload_n 3, 1) := by decide +kernel
theorem dX4_setDoor_7 : decode cX4_setDoor 7 = .ok (.iload_n 2, 1) := by decide +kernel
theorem dX4_setDoor_8 : decode cX4_setDoor 8 = .ok (.iconst 1, 1) := by decide +kernel
theorem dX4_setDoor_9 : decode cX4_setDoor 9 = .ok (.iconst 3, 1) := by decide +kernel
theorem dX4_setDoor_10 : decode cX4_setDoor 10 = .ok (.invokestatic 69, 3) := by decide +kernel
theorem dX4_setDoor_13 : decode cX4_setDoor 13 = .ok (.iload_n 3, 1) := by decide +kernel
theorem dX4_setDoor_14 : decode cX4_setDoor 14 = .ok (.ifCond .eq 17, 3) := by decide +kernel
theorem dX4_setDoor_17 : decode cX4_setDoor 17 = .ok (.aload_n 0, 1) := by decide +kernel
theorem dX4_setDoor_18 : decode cX4_setDoor 18 = .ok (.getfield 44, 3) := by decide +kernel
theorem dX4_setDoor_21 : decode cX4_setDoor 21 = .ok (.iload_n 1, 1) := by decide +kernel
theorem dX4_setDoor_22 : decode cX4_setDoor 22 = .ok (.iaload, 1) := by decide +kernel
theorem dX4_setDoor_23 : decode cX4_setDoor 23 = .ok (.iconst (-1), 1) := by decide +kernel
theorem dX4_setDoor_24 : decode cX4_setDoor 24 = .ok (.if_icmp .ne 7, 3) := by decide +kernel
theorem dX4_setDoor_27 : decode cX4_setDoor 27 = .ok (.iconst 1, 1) := by decide +kernel
theorem dX4_setDoor_28 : decode cX4_setDoor 28 = .ok (.goto 4, 3) := by decide +kernel
theorem dX4_setDoor_31 : decode cX4_setDoor 31 = .ok (.iconst 0, 1) := by decide +kernel
theorem dX4_setDoor_32 : decode cX4_setDoor 32 = .ok (.invokevirtual 115, 3) := by decide +kernel
theorem dX4_setDoor_35 : decode cX4_setDoor 35 = .ok (.ifCond .ne 5, 3) := by decide +kernel
theorem dX4_setDoor_38 : decode cX4_setDoor 38 = .ok (.iconst 0, 1) := by decide +kernel
theorem dX4_setDoor_39 : decode cX4_setDoor 39 = .ok (.ireturn, 1) := by decide +kernel
theorem dX4_setDoor_40 : decode cX4_setDoor 40 = .ok (.aload_n 0, 1) := by decide +kernel
theorem dX4_setDoor_41 : decode cX4_setDoor 41 = .ok (.getfield 41, 3) := by decide +kernel
theorem dX4_setDoor_44 : decode cX4_setDoor 44 = .ok (.iload_n 1, 1) := by decide +kernel
theorem dX4_setDoor_45 : decode cX4_setDoor 45 = .ok (.iaload, 1) := by decide +kernel
theorem dX4_setDoor_46 : decode cX4_setDoor 46 = .ok (.istore 4, 2) := by decide +kernel
theorem dX4_setDoor_48 : decode cX4_setDoor 48 = .ok (.aload_n 0, 1) := by decide +kernel
theorem dX4_setDoor_49 : decode cX4_setDoor 49 = .ok (.getfield 41, 3) := by decide +kernel
theorem dX4_setDoor_52 : decode cX4_setDoor 52 = .ok (.iload_n 1, 1) := by decide +kernel
theorem dX4_setDoor_53 : decode cX4_setDoor 53 = .ok (.iload_n 2, 1) := by decide +kernel
theorem dX4_setDoor_54 : decode cX4_setDoor 54 = .ok (.iastore, 1) := by decide +kernel
theorem dX4_setDoor_55 : decode cX4_setDoor 55 = .ok (.iload 4, 2) := by decide +kernel
theorem dX4_setDoor_57 : decode cX4_setDoor 57 = .ok (.ireturn, 1) := by decide +kernel
set_option maxRecDepth 20000 in
theorem ggX4_keep_X4_isDoor : GoodIn wsX4_keep wsX4_isDoor := goodIn_r _ [11, 12, 13, 10, 14] (by decide +kernel) (by decide +kernel)
set_option maxRecDepth 20000 in
theorem gX4_keep_X4_isDoor : GoodIn wsX4_keep (va_wsS RX4 122 yX4_isDoor wsX4_isDoor) := goodIn_app (goodIn_of _ (by decide +kernel)) ggX4_keep_X4_isDoor
set_option maxRecDepth 20000 in
theorem ggX4_keep_X4_isBox : GoodIn wsX4_keep wsX4_isBox := goodIn_r _ [18, 19, 12, 13, 10, 14, 25, 26, 27, 28, 29, 30, 31, 32, 33, 34, 35, 36, 37, 38, 39, 40, 41, 42, 43, 44, 45, 46, 47] (by decide +kernel) (by decide +kernel)
set_option maxRecDepth 20000 in
theorem gX4_keep_X4_isBox : GoodIn wsX4_keep (wsV RX4 111 RX4 yX4_isBox wsX4_isBox) := goodIn_app (goodIn_of _ (by decide +kernel)) ggX4_keep_X4_isBox
set_option maxRecDepth 20000 in
theorem ggX4_keep_X4_asked_ : GoodIn wsX4_keep wsX4_asked_ := goodIn_r _ [23, 24, 25, 26, 27, 28, 29, 30, 31, 32, 33, 34, 35, 36, 37, 38, 39, 40, 41, 42, 43, 44, 45, 46, 47] (by decide +kernel) (by decide +kernel)
set_option maxRecDepth 20000 in
theorem gX4_keep_X4_asked_ : GoodIn wsX4_keep (wsV RX4 100 RX4 yX4_asked_ wsX4_asked_) := goodIn_app (goodIn_of _ (by decide +kernel)) ggX4_keep_X4_asked_
theorem dX4_keep_0 : decode cX4_keep 0 = .ok (.iload_n 1, 1) := by decide +kernel
theorem dX4_keep_1 : decode cX4_keep 1 = .ok (.invokestatic 122, 3) := by decide +kernel
theorem dX4_keep_4 : decode cX4_keep 4 = .ok (.ifCond .eq 15, 3) := by decide +kernel
theorem dX4_keep_7 : decode cX4_keep 7 = .ok (.aload_n 0, 1) := by decide +kernel
theorem dX4_keep_8 : decode cX4_keep 8 = .ok (.iload_n 2, 1) := by decide +kernel
theorem dX4_keep_9 : decode cX4_keep 9 = .ok (.invokevirtual 111, 3) := by decide +kernel
theorem dX4_keep_12 : decode cX4_keep 12 = .ok (.ifCond .eq 7, 3) := by decide +kernel
theorem dX4_keep_15 : decode cX4_keep 15 = .ok (.iconst 1, 1) := by decide +kernel
theorem dX4_keep_16 : decode cX4_keep 16 = .ok (.goto 4, 3) := by decide +kernel
theorem dX4_keep_19 : decode cX4_keep 19 = .ok (.iconst 0, 1) := by decide +kernel
theorem dX4_keep_20 : decode cX4_keep 20 = .ok (.istore_n 3, 1) := by decide +kernel
theorem dX4_keep_21 : decode cX4_keep 21 = .ok (.aload_n 0, 1) := by decide +kernel
theorem dX4_keep_22 : decode cX4_keep 22 = .ok (.iload_n 3, 1) := by decide +kernel
theorem dX4_keep_23 : decode cX4_keep 23 = .ok (.iload_n 3, 1) := by decide +kernel
theorem dX4_keep_24 : decode cX4_keep 24 = .ok (.ifCond .eq 41, 3) := by decide +kernel
theorem dX4_keep_27 : decode cX4_keep 27 = .ok (.aload_n 0, 1) := by decide +kernel
theorem dX4_keep_28 : decode cX4_keep 28 = .ok (.getfield 44, 3) := by decide +kernel
theorem dX4_keep_31 : decode cX4_keep 31 = .ok (.iload_n 1, 1) := by decide +kernel
theorem dX4_keep_32 : decode cX4_keep 32 = .ok (.iaload, 1) := by decide +kernel
theorem dX4_keep_33 : decode cX4_keep 33 = .ok (.iconst (-1), 1) := by decide +kernel
theorem dX4_keep_34 : decode cX4_keep 34 = .ok (.if_icmp .ne 31, 3) := by decide +kernel
theorem dX4_keep_37 : decode cX4_keep 37 = .ok (.aload_n 0, 1) := by decide +kernel
theorem dX4_keep_38 : decode cX4_keep 38 = .ok (.getfield 53, 3) := by decide +kernel
theorem dX4_keep_41 : decode cX4_keep 41 = .ok (.iload_n 1, 1) := by decide +kernel
theorem dX4_keep_42 : decode cX4_keep 42 = .ok (.baload, 1) := by decide +kernel
theorem dX4_keep_43 : decode cX4_keep 43 = .ok (.ifCond .ne 22, 3) := by decide +kernel
theorem dX4_keep_46 : decode cX4_keep 46 = .ok (.aload_n 0, 1) := by decide +kernel
theorem dX4_keep_47 : decode cX4_keep 47 = .ok (.getfield 41, 3) := by decide +kernel
theorem dX4_keep_50 : decode cX4_keep 50 = .ok (.iload_n 1, 1) := by decide +kernel
theorem dX4_keep_51 : decode cX4_keep 51 = .ok (.iaload, 1) := by decide +kernel
theorem dX4_keep_52 : decode cX4_keep 52 = .ok (.aload_n 0, 1) := by decide +kernel
theorem dX4_keep_53 : decode cX4_keep 53 = .ok (.getfield 7, 3) := by decide +kernel
theorem dX4_keep_56 : decode cX4_keep 56 = .ok (.iload_n 2, 1) := by decide +kernel
theorem dX4_keep_57 : decode cX4_keep 57 = .ok (.iaload, 1) := by decide +kernel
theorem dX4_keep_58 : decode cX4_keep 58 = .ok (.if_icmp .lt 7, 3) := by decide +kernel
theorem dX4_keep_61 : decode cX4_keep 61 = .ok (.iconst 1, 1) := by decide +kernel
theorem dX4_keep_62 : decode cX4_keep 62 = .ok (.goto 4, 3) := by decide +kernel
theorem dX4_keep_65 : decode cX4_keep 65 = .ok (.iconst 0, 1) := by decide +kernel
theorem dX4_keep_66 : decode cX4_keep 66 = .ok (.invokevirtual 100, 3) := by decide +kernel
theorem dX4_keep_69 : decode cX4_keep 69 = .ok (.ifCond .ne 5, 3) := by decide +kernel
theorem dX4_keep_72 : decode cX4_keep 72 = .ok (.iconst 0, 1) := by decide +kernel
theorem dX4_keep_73 : decode cX4_keep 73 = .ok (.ireturn, 1) := by decide +kernel
theorem dX4_keep_74 : decode cX4_keep 74 = .ok (.aload_n 0, 1) := by decide +kernel
theorem dX4_keep_75 : decode cX4_keep 75 = .ok (.getfield 44, 3) := by decide +kernel
theorem dX4_keep_78 : decode cX4_keep 78 = .ok (.iload_n 1, 1) := by decide +kernel
theorem dX4_keep_79 : decode cX4_keep 79 = .ok (.iload_n 2, 1) := by decide +kernel
theorem dX4_keep_80 : decode cX4_keep 80 = .ok (.iastore, 1) := by decide +kernel
theorem dX4_keep_81 : decode cX4_keep 81 = .ok (.aload_n 0, 1) := by decide +kernel
theorem dX4_keep_82 : decode cX4_keep 82 = .ok (.getfield 47, 3) := by decide +kernel
theorem dX4_keep_85 : decode cX4_keep 85 = .ok (.iload_n 1, 1) := by decide +kernel
theorem dX4_keep_86 : decode cX4_keep 86 = .ok (.bipush 37, 2) := by decide +kernel
theorem dX4_keep_88 : decode cX4_keep 88 = .ok (.iload_n 2, 1) := by decide +kernel
theorem dX4_keep_89 : decode cX4_keep 89 = .ok (.imul, 1) := by decide +kernel
theorem dX4_keep_90 : decode cX4_keep 90 = .ok (.bipush 11, 2) := by decide +kernel
theorem dX4_keep_92 : decode cX4_keep 92 = .ok (.iload_n 1, 1) := by decide +kernel
theorem dX4_keep_93 : decode cX4_keep 93 = .ok (.imul, 1) := by decide +kernel
theorem dX4_keep_94 : decode cX4_keep 94 = .ok (.iadd, 1) := by decide +kernel
theorem dX4_keep_95 : decode cX4_keep 95 = .ok (.bipush 101, 2) := by decide +kernel
theorem dX4_keep_97 : decode cX4_keep 97 = .ok (.aload_n 0, 1) := by decide +kernel
theorem dX4_keep_98 : decode cX4_keep 98 = .ok (.getfield 128, 3) := by decide +kernel
theorem dX4_keep_101 : decode cX4_keep 101 = .ok (.imul, 1) := by decide +kernel
theorem dX4_keep_102 : decode cX4_keep 102 = .ok (.iadd, 1) := by decide +kernel
theorem dX4_keep_103 : decode cX4_keep 103 = .ok (.sipush 1000, 3) := by decide +kernel
theorem dX4_keep_106 : decode cX4_keep 106 = .ok (.irem, 1) := by decide +kernel
theorem dX4_keep_107 : decode cX4_keep 107 = .ok (.iastore, 1) := by decide +kernel
theorem dX4_keep_108 : decode cX4_keep 108 = .ok (.aload_n 0, 1) := by decide +kernel
theorem dX4_keep_109 : decode cX4_keep 109 = .ok (.getfield 50, 3) := by decide +kernel
theorem dX4_keep_112 : decode cX4_keep 112 = .ok (.iload_n 1, 1) := by decide +kernel
theorem dX4_keep_113 : decode cX4_keep 113 = .ok (.iconst 0, 1) := by decide +kernel
theorem dX4_keep_114 : decode cX4_keep 114 = .ok (.iastore, 1) := by decide +kernel
theorem dX4_keep_115 : decode cX4_keep 115 = .ok (.aload_n 0, 1) := by decide +kernel
theorem dX4_keep_116 : decode cX4_keep 116 = .ok (.dup, 1) := by decide +kernel
theorem dX4_keep_117 : decode cX4_keep 117 = .ok (.getfield 128, 3) := by decide +kernel
theorem dX4_keep_120 : decode cX4_keep 120 = .ok (.iconst 1, 1) := by decide +kernel
theorem dX4_keep_121 : decode cX4_keep 121 = .ok (.iadd, 1) := by decide +kernel
theorem dX4_keep_122 : decode cX4_keep 122 = .ok (.putfield 128, 3) := by decide +kernel
theorem dX4_keep_125 : decode cX4_keep 125 = .ok (.aload_n 0, 1) := by decide +kernel
theorem dX4_keep_126 : decode cX4_keep 126 = .ok (.getfield 47, 3) := by decide +kernel
theorem dX4_keep_129 : decode cX4_keep 129 = .ok (.iload_n 1, 1) := by decide +kernel
theorem dX4_keep_130 : decode cX4_keep 130 = .ok (.iaload, 1) := by decide +kernel
theorem dX4_keep_131 : decode cX4_keep 131 = .ok (.ireturn, 1) := by decide +kernel
set_option maxRecDepth 20000 in
theorem ggX4_open_X4_isDoor : GoodIn wsX4_open wsX4_isDoor := goodIn_r _ [9, 10, 11, 8, 12] (by decide +kernel) (by decide +kernel)
set_option maxRecDepth 20000 in
theorem gX4_open_X4_isDoor : GoodIn wsX4_open (va_wsS RX4 122 yX4_isDoor wsX4_isDoor) := goodIn_app (goodIn_of _ (by decide +kernel)) ggX4_open_X4_isDoor
set_option maxRecDepth 20000 in
theorem ggX4_open_X4_in : GoodIn wsX4_open wsX4_in := goodIn_r _ [12] (by decide +kernel) (by decide +kernel)
set_option maxRecDepth 20000 in
theorem gX4_open_X4_in : GoodIn wsX4_open (va_wsS RX4 69 yX4_in wsX4_in) := goodIn_app (goodIn_of _ (by decide +kernel)) ggX4_open_X4_in
set_option maxRecDepth 20000 in
theorem ggX4_open_X4_asked__ : GoodIn wsX4_open wsX4_asked__ := goodIn_r _ [16, 17, 63, 64, 65, 66, 67, 68, 69, 70, 71, 72, 73, 74, 75, 76, 77, 78, 79, 80, 81, 82, 83, 84, 85] (by decide +kernel) (by decide +kernel)
set_option maxRecDepth 20000 in
theorem gX4_open_X4_asked__ : GoodIn wsX4_open (wsV RX4 115 RX4 yX4_asked__ wsX4_asked__) := goodIn_app (goodIn_of _ (by decide +kernel)) ggX4_open_X4_asked__
set_option maxRecDepth 20000 in
theorem ggX4_open_X4_settles : GoodIn wsX4_open wsX4_settles := goodIn_r _ [21, 22, 23, 24, 25, 26, 27, 28, 29, 30, 31, 8, 32, 5, 33, 34, 35, 36, 37, 38, 39, 40, 41, 42, 43, 44, 45, 46, 47, 48, 2, 49, 50, 51, 52, 53, 54, 55, 56, 57, 10, 11, 12, 63, 64, 65, 66, 67, 68, 69, 70, 71, 72, 73, 74, 75, 76, 77, 78, 79, 80, 81, 82, 83, 84, 85] (by decide +kernel) (by decide +kernel)
set_option maxRecDepth 20000 in
theorem gX4_open_X4_settles : GoodIn wsX4_open (wsV RX4 104 RX4 yX4_settles wsX4_settles) := goodIn_app (goodIn_of _ (by decide +kernel)) ggX4_open_X4_settles
set_option maxRecDepth 20000 in
theorem ggX4_open_X4_adds : GoodIn wsX4_open wsX4_adds := goodIn_r _ [61, 5, 36, 35, 62, 48, 18, 19, 20, 8, 21, 22, 23, 24, 25, 26, 27, 28, 29, 30, 31, 32, 33, 34, 37, 38, 39, 40, 41, 42, 43, 44, 45, 46, 47, 2, 49, 50, 51, 52, 53, 54, 55, 56, 57, 10, 11, 12, 63, 64, 65, 66, 67, 68, 69, 70, 71, 72, 73, 74, 75, 76, 77, 78, 79, 80, 81, 82, 83, 84, 85] (by decide +kernel) (by decide +kernel)
set_option maxRecDepth 20000 in
theorem gX4_open_X4_adds : GoodIn wsX4_open (wsV RX4 118 RX4 yX4_adds wsX4_adds) := goodIn_app (goodIn_of _ (by decide +kernel)) ggX4_open_X4_adds
theorem dX4_open_0 : decode cX4_open 0 = .ok (.iload_n 1, 1) := by decide +kernel
theorem dX4_open_1 : decode cX4_open 1 = .ok (.invokestatic 122, 3) := by decide +kernel
theorem dX4_open_4 : decode cX4_open 4 = .ok (.istore_n 3, 1) := by decide +kernel
theorem dX4_open_5 : decode cX4_open 5 = .ok (.aload_n 0, 1) := by decide +kernel
theorem dX4_open_6 : decode cX4_open 6 = .ok (.iload_n 3, 1) := by decide +kernel
theorem dX4_open_7 : decode cX4_open 7 = .ok (.iload_n 2, 1) := by decide +kernel
theorem dX4_open_8 : decode cX4_open 8 = .ok (.iconst 0, 1) := by decide +kernel
theorem dX4_open_9 : decode cX4_open 9 = .ok (.sipush 999, 3) := by decide +kernel
theorem dX4_open_12 : decode cX4_open 12 = .ok (.invokestatic 69, 3) := by decide +kernel
theorem dX4_open_15 : decode cX4_open 15 = .ok (.iload_n 3, 1) := by decide +kernel
theorem dX4_open_16 : decode cX4_open 16 = .ok (.ifCond .eq 26, 3) := by decide +kernel
theorem dX4_open_19 : decode cX4_open 19 = .ok (.aload_n 0, 1) := by decide +kernel
theorem dX4_open_20 : decode cX4_open 20 = .ok (.getfield 44, 3) := by decide +kernel
theorem dX4_open_23 : decode cX4_open 23 = .ok (.iload_n 1, 1) := by decide +kernel
theorem dX4_open_24 : decode cX4_open 24 = .ok (.iaload, 1) := by decide +kernel
theorem dX4_open_25 : decode cX4_open 25 = .ok (.iconst (-1), 1) := by decide +kernel
theorem dX4_open_26 : decode cX4_open 26 = .ok (.if_icmp .eq 16, 3) := by decide +kernel
theorem dX4_open_29 : decode cX4_open 29 = .ok (.aload_n 0, 1) := by decide +kernel
theorem dX4_open_30 : decode cX4_open 30 = .ok (.getfield 53, 3) := by decide +kernel
theorem dX4_open_33 : decode cX4_open 33 = .ok (.iload_n 1, 1) := by decide +kernel
theorem dX4_open_34 : decode cX4_open 34 = .ok (.baload, 1) := by decide +kernel
theorem dX4_open_35 : decode cX4_open 35 = .ok (.ifCond .ne 7, 3) := by decide +kernel
theorem dX4_open_38 : decode cX4_open 38 = .ok (.iconst 1, 1) := by decide +kernel
theorem dX4_open_39 : decode cX4_open 39 = .ok (.goto 4, 3) := by decide +kernel
theorem dX4_open_42 : decode cX4_open 42 = .ok (.iconst 0, 1) := by decide +kernel
theorem dX4_open_43 : decode cX4_open 43 = .ok (.invokevirtual 115, 3) := by decide +kernel
theorem dX4_open_46 : decode cX4_open 46 = .ok (.ifCond .ne 5, 3) := by decide +kernel
theorem dX4_open_49 : decode cX4_open 49 = .ok (.iconst 0, 1) := by decide +kernel
theorem dX4_open_50 : decode cX4_open 50 = .ok (.ireturn, 1) := by decide +kernel
theorem dX4_open_51 : decode cX4_open 51 = .ok (.iload_n 2, 1) := by decide +kernel
theorem dX4_open_52 : decode cX4_open 52 = .ok (.aload_n 0, 1) := by decide +kernel
theorem dX4_open_53 : decode cX4_open 53 = .ok (.getfield 47, 3) := by decide +kernel
theorem dX4_open_56 : decode cX4_open 56 = .ok (.iload_n 1, 1) := by decide +kernel
theorem dX4_open_57 : decode cX4_open 57 = .ok (.iaload, 1) := by decide +kernel
theorem dX4_open_58 : decode cX4_open 58 = .ok (.if_icmp .eq 40, 3) := by decide +kernel
theorem dX4_open_61 : decode cX4_open 61 = .ok (.aload_n 0, 1) := by decide +kernel
theorem dX4_open_62 : decode cX4_open 62 = .ok (.getfield 50, 3) := by decide +kernel
theorem dX4_open_65 : decode cX4_open 65 = .ok (.iload_n 1, 1) := by decide +kernel
theorem dX4_open_66 : decode cX4_open 66 = .ok (.dup2, 1) := by decide +kernel
theorem dX4_open_67 : decode cX4_open 67 = .ok (.iaload, 1) := by decide +kernel
theorem dX4_open_68 : decode cX4_open 68 = .ok (.iconst 1, 1) := by decide +kernel
theorem dX4_open_69 : decode cX4_open 69 = .ok (.iadd, 1) := by decide +kernel
theorem dX4_open_70 : decode cX4_open 70 = .ok (.iastore, 1) := by decide +kernel
theorem dX4_open_71 : decode cX4_open 71 = .ok (.aload_n 0, 1) := by decide +kernel
theorem dX4_open_72 : decode cX4_open 72 = .ok (.getfield 53, 3) := by decide +kernel
theorem dX4_open_75 : decode cX4_open 75 = .ok (.iload_n 1, 1) := by decide +kernel
theorem dX4_open_76 : decode cX4_open 76 = .ok (.aload_n 0, 1) := by decide +kernel
theorem dX4_open_77 : decode cX4_open 77 = .ok (.getfield 50, 3) := by decide +kernel
theorem dX4_open_80 : decode cX4_open 80 = .ok (.iload_n 1, 1) := by decide +kernel
theorem dX4_open_81 : decode cX4_open 81 = .ok (.iaload, 1) := by decide +kernel
theorem dX4_open_82 : decode cX4_open 82 = .ok (.iconst 3, 1) := by decide +kernel
theorem dX4_open_83 : decode cX4_open 83 = .ok (.if_icmp .ne 7, 3) := by decide +kernel
theorem dX4_open_86 : decode cX4_open 86 = .ok (.iconst 1, 1) := by decide +kernel
theorem dX4_open_87 : decode cX4_open 87 = .ok (.goto 4, 3) := by decide +kernel
theorem dX4_open_90 : decode cX4_open 90 = .ok (.iconst 0, 1) := by decide +kernel
theorem dX4_open_91 : decode cX4_open 91 = .ok (.bastore, 1) := by decide +kernel
theorem dX4_open_92 : decode cX4_open 92 = .ok (.aload_n 0, 1) := by decide +kernel
theorem dX4_open_93 : decode cX4_open 93 = .ok (.invokevirtual 104, 3) := by decide +kernel
theorem dX4_open_96 : decode cX4_open 96 = .ok (.iconst (-1), 1) := by decide +kernel
theorem dX4_open_97 : decode cX4_open 97 = .ok (.ireturn, 1) := by decide +kernel
theorem dX4_open_98 : decode cX4_open 98 = .ok (.aload_n 0, 1) := by decide +kernel
theorem dX4_open_99 : decode cX4_open 99 = .ok (.getfield 44, 3) := by decide +kernel
theorem dX4_open_102 : decode cX4_open 102 = .ok (.iload_n 1, 1) := by decide +kernel
theorem dX4_open_103 : decode cX4_open 103 = .ok (.iaload, 1) := by decide +kernel
theorem dX4_open_104 : decode cX4_open 104 = .ok (.istore 4, 2) := by decide +kernel
theorem dX4_open_106 : decode cX4_open 106 = .ok (.aload_n 0, 1) := by decide +kernel
theorem dX4_open_107 : decode cX4_open 107 = .ok (.getfield 44, 3) := by decide +kernel
theorem dX4_open_110 : decode cX4_open 110 = .ok (.iload_n 1, 1) := by decide +kernel
theorem dX4_open_111 : decode cX4_open 111 = .ok (.iconst (-1), 1) := by decide +kernel
theorem dX4_open_112 : decode cX4_open 112 = .ok (.iastore, 1) := by decide +kernel
theorem dX4_open_113 : decode cX4_open 113 = .ok (.aload_n 0, 1) := by decide +kernel
theorem dX4_open_114 : decode cX4_open 114 = .ok (.getfield 16, 3) := by decide +kernel
theorem dX4_open_117 : decode cX4_open 117 = .ok (.iload 4, 2) := by decide +kernel
theorem dX4_open_119 : decode cX4_open 119 = .ok (.iaload, 1) := by decide +kernel
theorem dX4_open_120 : decode cX4_open 120 = .ok (.bipush 12, 2) := by decide +kernel
theorem dX4_open_122 : decode cX4_open 122 = .ok (.if_icmp .ge 15, 3) := by decide +kernel
theorem dX4_open_125 : decode cX4_open 125 = .ok (.aload_n 0, 1) := by decide +kernel
theorem dX4_open_126 : decode cX4_open 126 = .ok (.iload 4, 2) := by decide +kernel
theorem dX4_open_128 : decode cX4_open 128 = .ok (.bipush 30, 2) := by decide +kernel
theorem dX4_open_130 : decode cX4_open 130 = .ok (.iconst 4, 1) := by decide +kernel
theorem dX4_open_131 : decode cX4_open 131 = .ok (.iload_n 1, 1) := by decide +kernel
theorem dX4_open_132 : decode cX4_open 132 = .ok (.iadd, 1) := by decide +kernel
theorem dX4_open_133 : decode cX4_open 133 = .ok (.invokevirtual 118, 3) := by decide +kernel
theorem dX4_open_136 : decode cX4_open 136 = .ok (.pop, 1) := by decide +kernel
theorem dX4_open_137 : decode cX4_open 137 = .ok (.iload 4, 2) := by decide +kernel
theorem dX4_open_139 : decode cX4_open 139 = .ok (.ireturn, 1) := by decide +kernel
set_option maxRecDepth 20000 in
theorem ggX4_jam_X4_isDoor : GoodIn wsX4_jam wsX4_isDoor := goodIn_r _ [6, 7, 8, 5, 9] (by decide +kernel) (by decide +kernel)
set_option maxRecDepth 20000 in
theorem gX4_jam_X4_isDoor : GoodIn wsX4_jam (va_wsS RX4 122 yX4_isDoor wsX4_isDoor) := goodIn_app (goodIn_of _ (by decide +kernel)) ggX4_jam_X4_isDoor
set_option maxRecDepth 20000 in
theorem ggX4_jam_X4_asked : GoodIn wsX4_jam wsX4_asked := goodIn_r _ [13, 14, 56, 57, 58, 59, 60, 61, 62, 63, 64, 65, 66, 67, 68, 69, 70, 71, 72, 73, 74, 75, 76, 77, 78] (by decide +kernel) (by decide +kernel)
set_option maxRecDepth 20000 in
theorem gX4_jam_X4_asked : GoodIn wsX4_jam (wsV RX4 131 RX4 yX4_asked wsX4_asked) := goodIn_app (goodIn_of _ (by decide +kernel)) ggX4_jam_X4_asked
set_option maxRecDepth 20000 in
theorem ggX4_jam_X4_settles : GoodIn wsX4_jam wsX4_settles := goodIn_r _ [18, 19, 20, 21, 22, 23, 24, 25, 26, 27, 28, 5, 29, 30, 31, 32, 33, 34, 35, 36, 37, 38, 39, 40, 41, 42, 43, 44, 45, 46, 1, 47, 48, 49, 50, 51, 52, 53, 54, 55, 7, 8, 9, 56, 57, 58, 59, 60, 61, 62, 63, 64, 65, 66, 67, 68, 69, 70, 71, 72, 73, 74, 75, 76, 77, 78] (by decide +kernel) (by decide +kernel)
set_option maxRecDepth 20000 in
theorem gX4_jam_X4_settles : GoodIn wsX4_jam (wsV RX4 104 RX4 yX4_settles wsX4_settles) := goodIn_app (goodIn_of _ (by decide +kernel)) ggX4_jam_X4_settles
theorem dX4_jam_0 : decode cX4_jam 0 = .ok (.aload_n 0, 1) := by decide +kernel
theorem dX4_jam_1 : decode cX4_jam 1 = .ok (.iload_n 1, 1) := by decide +kernel
theorem dX4_jam_2 : decode cX4_jam 2 = .ok (.invokestatic 122, 3) := by decide +kernel
theorem dX4_jam_5 : decode cX4_jam 5 = .ok (.invokevirtual 131, 3) := by decide +kernel
theorem dX4_jam_8 : decode cX4_jam 8 = .ok (.ifCond .ne 5, 3) := by decide +kernel
theorem dX4_jam_11 : decode cX4_jam 11 = .ok (.iconst 0, 1) := by decide +kernel
theorem dX4_jam_12 : decode cX4_jam 12 = .ok (.ireturn, 1) := by decide +kernel
theorem dX4_jam_13 : decode cX4_jam 13 = .ok (.aload_n 0, 1) := by decide +kernel
theorem dX4_jam_14 : decode cX4_jam 14 = .ok (.getfield 53, 3) := by decide +kernel
theorem dX4_jam_17 : decode cX4_jam 17 = .ok (.iload_n 1, 1) := by decide +kernel
theorem dX4_jam_18 : decode cX4_jam 18 = .ok (.baload, 1) := by decide +kernel
theorem dX4_jam_19 : decode cX4_jam 19 = .ok (.istore_n 3, 1) := by decide +kernel
theorem dX4_jam_20 : decode cX4_jam 20 = .ok (.aload_n 0, 1) := by decide +kernel
theorem dX4_jam_21 : decode cX4_jam 21 = .ok (.getfield 53, 3) := by decide +kernel
theorem dX4_jam_24 : decode cX4_jam 24 = .ok (.iload_n 1, 1) := by decide +kernel
theorem dX4_jam_25 : decode cX4_jam 25 = .ok (.iload_n 2, 1) := by decide +kernel
theorem dX4_jam_26 : decode cX4_jam 26 = .ok (.bastore, 1) := by decide +kernel
theorem dX4_jam_27 : decode cX4_jam 27 = .ok (.aload_n 0, 1) := by decide +kernel
theorem dX4_jam_28 : decode cX4_jam 28 = .ok (.getfield 50, 3) := by decide +kernel
theorem dX4_jam_31 : decode cX4_jam 31 = .ok (.iload_n 1, 1) := by decide +kernel
theorem dX4_jam_32 : decode cX4_jam 32 = .ok (.iload_n 2, 1) := by decide +kernel
theorem dX4_jam_33 : decode cX4_jam 33 = .ok (.ifCond .eq 12, 3) := by decide +kernel
theorem dX4_jam_36 : decode cX4_jam 36 = .ok (.aload_n 0, 1) := by decide +kernel
theorem dX4_jam_37 : decode cX4_jam 37 = .ok (.getfield 50, 3) := by decide +kernel
theorem dX4_jam_40 : decode cX4_jam 40 = .ok (.iload_n 1, 1) := by decide +kernel
theorem dX4_jam_41 : decode cX4_jam 41 = .ok (.iaload, 1) := by decide +kernel
theorem dX4_jam_42 : decode cX4_jam 42 = .ok (.goto 4, 3) := by decide +kernel
theorem dX4_jam_45 : decode cX4_jam 45 = .ok (.iconst 0, 1) := by decide +kernel
theorem dX4_jam_46 : decode cX4_jam 46 = .ok (.iastore, 1) := by decide +kernel
theorem dX4_jam_47 : decode cX4_jam 47 = .ok (.aload_n 0, 1) := by decide +kernel
theorem dX4_jam_48 : decode cX4_jam 48 = .ok (.invokevirtual 104, 3) := by decide +kernel
theorem dX4_jam_51 : decode cX4_jam 51 = .ok (.iload_n 3, 1) := by decide +kernel
theorem dX4_jam_52 : decode cX4_jam 52 = .ok (.ireturn, 1) := by decide +kernel
set_option maxRecDepth 20000 in
theorem ggX4_claim_X4_isBox : GoodIn wsX4_claim wsX4_isBox := goodIn_r _ [12, 13, 14, 15, 11, 16, 47, 48, 49, 50, 51, 52, 53, 54, 55, 56, 57, 58, 59, 60, 61, 62, 63, 64, 65, 66, 67, 68, 69] (by decide +kernel) (by decide +kernel)
set_option maxRecDepth 20000 in
theorem gX4_claim_X4_isBox : GoodIn wsX4_claim (wsV RX4 111 RX4 yX4_isBox wsX4_isBox) := goodIn_app (goodIn_of _ (by decide +kernel)) ggX4_claim_X4_isBox
set_option maxRecDepth 20000 in
theorem ggX4_claim_X4_storyOf : GoodIn wsX4_claim wsX4_storyOf := goodIn_r _ [20, 2, 21, 22, 4, 23, 24, 25, 11, 26, 27, 28, 29, 30, 31, 32, 33, 34, 35, 36, 37, 47, 48, 49, 50, 51, 52, 53, 54, 55, 56, 57, 58, 59, 60, 61, 62, 63, 64, 65, 66, 67, 68, 69] (by decide +kernel) (by decide +kernel)
set_option maxRecDepth 20000 in
theorem gX4_claim_X4_storyOf : GoodIn wsX4_claim (wsV RX4 85 RX4 yX4_storyOf wsX4_storyOf) := goodIn_app (goodIn_of _ (by decide +kernel)) ggX4_claim_X4_storyOf
set_option maxRecDepth 20000 in
theorem ggX4_claim_X4_placeBy : GoodIn wsX4_claim wsX4_placeBy := goodIn_r _ [41, 2, 23, 47, 48, 49, 50, 51, 52, 53, 54, 55, 56, 57, 58, 59, 60, 61, 62, 63, 64, 65, 66, 67, 68, 69] (by decide +kernel) (by decide +kernel)
set_option maxRecDepth 20000 in
theorem gX4_claim_X4_placeBy : GoodIn wsX4_claim (wsV RX4 88 RX4 yX4_placeBy wsX4_placeBy) := goodIn_app (goodIn_of _ (by decide +kernel)) ggX4_claim_X4_placeBy
set_option maxRecDepth 20000 in
theorem ggX4_claim_X4_asked_ : GoodIn wsX4_claim wsX4_asked_ := goodIn_r _ [45, 46, 47, 48, 49, 50, 51, 52, 53, 54, 55, 56, 57, 58, 59, 60, 61, 62, 63, 64, 65, 66, 67, 68, 69] (by decide +kernel) (by decide +kernel)
set_option maxRecDepth 20000 in
theorem gX4_claim_X4_asked_ : GoodIn wsX4_claim (wsV RX4 100 RX4 yX4_asked_ wsX4_asked_) := goodIn_app (goodIn_of _ (by decide +kernel)) ggX4_claim_X4_asked_
theorem dX4_claim_0 : decode cX4_claim 0 = .ok (.aload_n 0, 1) := by decide +kernel
theorem dX4_claim_1 : decode cX4_claim 1 = .ok (.iload_n 1, 1) := by decide +kernel
theorem dX4_claim_2 : decode cX4_claim 2 = .ok (.invokevirtual 111, 3) := by decide +kernel
theorem dX4_claim_5 : decode cX4_claim 5 = .ok (.istore_n 2, 1) := by decide +kernel
theorem dX4_claim_6 : decode cX4_claim 6 = .ok (.iload_n 2, 1) := by decide +kernel
theorem dX4_claim_7 : decode cX4_claim 7 = .ok (.ifCond .eq 69, 3) := by decide +kernel
theorem dX4_claim_10 : decode cX4_claim 10 = .ok (.aload_n 0, 1) := by decide +kernel
theorem dX4_claim_11 : decode cX4_claim 11 = .ok (.getfield 19, 3) := by decide +kernel
theorem dX4_claim_14 : decode cX4_claim 14 = .ok (.iload_n 1, 1) := by decide +kernel
theorem dX4_claim_15 : decode cX4_claim 15 = .ok (.baload, 1) := by decide +kernel
theorem dX4_claim_16 : decode cX4_claim 16 = .ok (.ifCond .ne 60, 3) := by decide +kernel
theorem dX4_claim_19 : decode cX4_claim 19 = .ok (.aload_n 0, 1) := by decide +kernel
theorem dX4_claim_20 : decode cX4_claim 20 = .ok (.iload_n 1, 1) := by decide +kernel
theorem dX4_claim_21 : decode cX4_claim 21 = .ok (.aload_n 0, 1) := by decide +kernel
theorem dX4_claim_22 : decode cX4_claim 22 = .ok (.iload_n 1, 1) := by decide +kernel
theorem dX4_claim_23 : decode cX4_claim 23 = .ok (.invokevirtual 85, 3) := by decide +kernel
theorem dX4_claim_26 : decode cX4_claim 26 = .ok (.invokevirtual 88, 3) := by decide +kernel
theorem dX4_claim_29 : decode cX4_claim 29 = .ok (.bipush 30, 2) := by decide +kernel
theorem dX4_claim_31 : decode cX4_claim 31 = .ok (.if_icmp .eq 45, 3) := by decide +kernel
theorem dX4_claim_34 : decode cX4_claim 34 = .ok (.aload_n 0, 1) := by decide +kernel
theorem dX4_claim_35 : decode cX4_claim 35 = .ok (.getfield 16, 3) := by decide +kernel
theorem dX4_claim_38 : decode cX4_claim 38 = .ok (.iload_n 1, 1) := by decide +kernel
theorem dX4_claim_39 : decode cX4_claim 39 = .ok (.iaload, 1) := by decide +kernel
theorem dX4_claim_40 : decode cX4_claim 40 = .ok (.ifCond .eq 32, 3) := by decide +kernel
theorem dX4_claim_43 : decode cX4_claim 43 = .ok (.aload_n 0, 1) := by decide +kernel
theorem dX4_claim_44 : decode cX4_claim 44 = .ok (.getfield 107, 3) := by decide +kernel
theorem dX4_claim_47 : decode cX4_claim 47 = .ok (.aload_n 0, 1) := by decide +kernel
theorem dX4_claim_48 : decode cX4_claim 48 = .ok (.getfield 32, 3) := by decide +kernel
theorem dX4_claim_51 : decode cX4_claim 51 = .ok (.bipush 12, 2) := by decide +kernel
theorem dX4_claim_53 : decode cX4_claim 53 = .ok (.iload_n 1, 1) := by decide +kernel
theorem dX4_claim_54 : decode cX4_claim 54 = .ok (.imul, 1) := by decide +kernel
theorem dX4_claim_55 : decode cX4_claim 55 = .ok (.aload_n 0, 1) := by decide +kernel
theorem dX4_claim_56 : decode cX4_claim 56 = .ok (.getfield 16, 3) := by decide +kernel
theorem dX4_claim_59 : decode cX4_claim 59 = .ok (.iload_n 1, 1) := by decide +kernel
theorem dX4_claim_60 : decode cX4_claim 60 = .ok (.iaload, 1) := by decide +kernel
theorem dX4_claim_61 : decode cX4_claim 61 = .ok (.iadd, 1) := by decide +kernel
theorem dX4_claim_62 : decode cX4_claim 62 = .ok (.iconst 1, 1) := by decide +kernel
theorem dX4_claim_63 : decode cX4_claim 63 = .ok (.isub, 1) := by decide +kernel
theorem dX4_claim_64 : decode cX4_claim 64 = .ok (.iaload, 1) := by decide +kernel
theorem dX4_claim_65 : decode cX4_claim 65 = .ok (.isub, 1) := by decide +kernel
theorem dX4_claim_66 : decode cX4_claim 66 = .ok (.sipush 1000, 3) := by decide +kernel
theorem dX4_claim_69 : decode cX4_claim 69 = .ok (.if_icmp .lt 7, 3) := by decide +kernel
theorem dX4_claim_72 : decode cX4_claim 72 = .ok (.iconst 1, 1) := by decide +kernel
theorem dX4_claim_73 : decode cX4_claim 73 = .ok (.goto 4, 3) := by decide +kernel
theorem dX4_claim_76 : decode cX4_claim 76 = .ok (.iconst 0, 1) := by decide +kernel
theorem dX4_claim_77 : decode cX4_claim 77 = .ok (.istore_n 3, 1) := by decide +kernel
theorem dX4_claim_78 : decode cX4_claim 78 = .ok (.aload_n 0, 1) := by decide +kernel
theorem dX4_claim_79 : decode cX4_claim 79 = .ok (.iload_n 2, 1) := by decide +kernel
theorem dX4_claim_80 : decode cX4_claim 80 = .ok (.iload_n 3, 1) := by decide +kernel
theorem dX4_claim_81 : decode cX4_claim 81 = .ok (.invokevirtual 100, 3) := by decide +kernel
theorem dX4_claim_84 : decode cX4_claim 84 = .ok (.ifCond .ne 5, 3) := by decide +kernel
theorem dX4_claim_87 : decode cX4_claim 87 = .ok (.iconst 0, 1) := by decide +kernel
theorem dX4_claim_88 : decode cX4_claim 88 = .ok (.ireturn, 1) := by decide +kernel
theorem dX4_claim_89 : decode cX4_claim 89 = .ok (.aload_n 0, 1) := by decide +kernel
theorem dX4_claim_90 : decode cX4_claim 90 = .ok (.getfield 19, 3) := by decide +kernel
theorem dX4_claim_93 : decode cX4_claim 93 = .ok (.iload_n 1, 1) := by decide +kernel
theorem dX4_claim_94 : decode cX4_claim 94 = .ok (.iconst 1, 1) := by decide +kernel
theorem dX4_claim_95 : decode cX4_claim 95 = .ok (.bastore, 1) := by decide +kernel
theorem dX4_claim_96 : decode cX4_claim 96 = .ok (.aload_n 0, 1) := by decide +kernel
theorem dX4_claim_97 : decode cX4_claim 97 = .ok (.dup, 1) := by decide +kernel
theorem dX4_claim_98 : decode cX4_claim 98 = .ok (.getfield 91, 3) := by decide +kernel
theorem dX4_claim_101 : decode cX4_claim 101 = .ok (.aload_n 0, 1) := by decide +kernel
theorem dX4_claim_102 : decode cX4_claim 102 = .ok (.getfield 13, 3) := by decide +kernel
theorem dX4_claim_105 : decode cX4_claim 105 = .ok (.iload_n 1, 1) := by decide +kernel
theorem dX4_claim_106 : decode cX4_claim 106 = .ok (.iaload, 1) := by decide +kernel
theorem dX4_claim_107 : decode cX4_claim 107 = .ok (.iadd, 1) := by decide +kernel
theorem dX4_claim_108 : decode cX4_claim 108 = .ok (.putfield 91, 3) := by decide +kernel
theorem dX4_claim_111 : decode cX4_claim 111 = .ok (.aload_n 0, 1) := by decide +kernel
theorem dX4_claim_112 : decode cX4_claim 112 = .ok (.dup, 1) := by decide +kernel
theorem dX4_claim_113 : decode cX4_claim 113 = .ok (.getfield 94, 3) := by decide +kernel
theorem dX4_claim_116 : decode cX4_claim 116 = .ok (.iconst 1, 1) := by decide +kernel
theorem dX4_claim_117 : decode cX4_claim 117 = .ok (.iadd, 1) := by decide +kernel
theorem dX4_claim_118 : decode cX4_claim 118 = .ok (.putfield 94, 3) := by decide +kernel
theorem dX4_claim_121 : decode cX4_claim 121 = .ok (.aload_n 0, 1) := by decide +kernel
theorem dX4_claim_122 : decode cX4_claim 122 = .ok (.getfield 13, 3) := by decide +kernel
theorem dX4_claim_125 : decode cX4_claim 125 = .ok (.iload_n 1, 1) := by decide +kernel
theorem dX4_claim_126 : decode cX4_claim 126 = .ok (.iaload, 1) := by decide +kernel
theorem dX4_claim_127 : decode cX4_claim 127 = .ok (.ireturn, 1) := by decide +kernel
set_option maxRecDepth 20000 in
theorem ggX4_time_X4_told : GoodIn wsX4_time wsX4_told := goodIn_r _ [6, 7, 8, 9, 10, 11, 12, 13, 14, 15, 16, 17, 18, 19, 20, 21, 22, 23, 24, 25, 26, 27, 28, 29, 30] (by decide +kernel) (by decide +kernel)
set_option maxRecDepth 20000 in
theorem gX4_time_X4_told : GoodIn wsX4_time (wsV RX4 134 RX4 yX4_told wsX4_told) := goodIn_app (goodIn_of _ (by decide +kernel)) ggX4_time_X4_told
theorem dX4_time_0 : decode cX4_time 0 = .ok (.aload_n 0, 1) := by decide +kernel
theorem dX4_time_1 : decode cX4_time 1 = .ok (.aload_n 0, 1) := by decide +kernel
theorem dX4_time_2 : decode cX4_time 2 = .ok (.getfield 107, 3) := by decide +kernel
theorem dX4_time_5 : decode cX4_time 5 = .ok (.invokevirtual 134, 3) := by decide +kernel
theorem dX4_time_8 : decode cX4_time 8 = .ok (.ireturn, 1) := by decide +kernel
set_option maxRecDepth 20000 in
theorem ggX4_boxes_X4_told : GoodIn wsX4_boxes wsX4_told := goodIn_r _ [6, 7, 8, 9, 10, 11, 12, 13, 14, 15, 16, 17, 18, 19, 20, 21, 22, 23, 24, 25, 26, 27, 28, 29, 30] (by decide +kernel) (by decide +kernel)
set_option maxRecDepth 20000 in
theorem gX4_boxes_X4_told : GoodIn wsX4_boxes (wsV RX4 134 RX4 yX4_told wsX4_told) := goodIn_app (goodIn_of _ (by decide +kernel)) ggX4_boxes_X4_told
theorem dX4_boxes_0 : decode cX4_boxes 0 = .ok (.aload_n 0, 1) := by decide +kernel
theorem dX4_boxes_1 : decode cX4_boxes 1 = .ok (.aload_n 0, 1) := by decide +kernel
theorem dX4_boxes_2 : decode cX4_boxes 2 = .ok (.getfield 66, 3) := by decide +kernel
theorem dX4_boxes_5 : decode cX4_boxes 5 = .ok (.invokevirtual 134, 3) := by decide +kernel
theorem dX4_boxes_8 : decode cX4_boxes 8 = .ok (.ireturn, 1) := by decide +kernel
set_option maxRecDepth 20000 in
theorem ggX4_scans_X4_isBox : GoodIn wsX4_scans wsX4_isBox := goodIn_r _ [6, 7, 8, 9, 5, 10, 16, 17, 18, 19, 20, 21, 22, 23, 24, 25, 26, 27, 28, 29, 30, 31, 32, 33, 34, 35, 36, 37, 38] (by decide +kernel) (by decide +kernel)
set_option maxRecDepth 20000 in
theorem gX4_scans_X4_isBox : GoodIn wsX4_scans (wsV RX4 111 RX4 yX4_isBox wsX4_isBox) := goodIn_app (goodIn_of _ (by decide +kernel)) ggX4_scans_X4_isBox
set_option maxRecDepth 20000 in
theorem ggX4_scans_X4_asked : GoodIn wsX4_scans wsX4_asked := goodIn_r _ [14, 15, 16, 17, 18, 19, 20, 21, 22, 23, 24, 25, 26, 27, 28, 29, 30, 31, 32, 33, 34, 35, 36, 37, 38] (by decide +kernel) (by decide +kernel)
set_option maxRecDepth 20000 in
theorem gX4_scans_X4_asked : GoodIn wsX4_scans (wsV RX4 131 RX4 yX4_asked wsX4_asked) := goodIn_app (goodIn_of _ (by decide +kernel)) ggX4_scans_X4_asked
theorem dX4_scans_0 : decode cX4_scans 0 = .ok (.aload_n 0, 1) := by decide +kernel
theorem dX4_scans_1 : decode cX4_scans 1 = .ok (.aload_n 0, 1) := by decide +kernel
theorem dX4_scans_2 : decode cX4_scans 2 = .ok (.iload_n 1, 1) := by decide +kernel
theorem dX4_scans_3 : decode cX4_scans 3 = .ok (.invokevirtual 111, 3) := by decide +kernel
theorem dX4_scans_6 : decode cX4_scans 6 = .ok (.invokevirtual 131, 3) := by decide +kernel
theorem dX4_scans_9 : decode cX4_scans 9 = .ok (.ifCond .eq 12, 3) := by decide +kernel
theorem dX4_scans_12 : decode cX4_scans 12 = .ok (.aload_n 0, 1) := by decide +kernel
theorem dX4_scans_13 : decode cX4_scans 13 = .ok (.getfield 16, 3) := by decide +kernel
theorem dX4_scans_16 : decode cX4_scans 16 = .ok (.iload_n 1, 1) := by decide +kernel
theorem dX4_scans_17 : decode cX4_scans 17 = .ok (.iaload, 1) := by decide +kernel
theorem dX4_scans_18 : decode cX4_scans 18 = .ok (.goto 4, 3) := by decide +kernel
theorem dX4_scans_21 : decode cX4_scans 21 = .ok (.iconst 0, 1) := by decide +kernel
theorem dX4_scans_22 : decode cX4_scans 22 = .ok (.ireturn, 1) := by decide +kernel
set_option maxRecDepth 20000 in
theorem ggX4_story_X4_isBox : GoodIn wsX4_story wsX4_isBox := goodIn_r _ [5, 6, 7, 8, 4, 9, 38, 39, 40, 41, 42, 43, 44, 45, 46, 47, 48, 49, 50, 51, 52, 53, 54, 55, 56, 57, 58, 59, 60] (by decide +kernel) (by decide +kernel)
set_option maxRecDepth 20000 in
theorem gX4_story_X4_isBox : GoodIn wsX4_story (wsV RX4 111 RX4 yX4_isBox wsX4_isBox) := goodIn_app (goodIn_of _ (by decide +kernel)) ggX4_story_X4_isBox
set_option maxRecDepth 20000 in
theorem ggX4_story_X4_asked : GoodIn wsX4_story wsX4_asked := goodIn_r _ [13, 14, 38, 39, 40, 41, 42, 43, 44, 45, 46, 47, 48, 49, 50, 51, 52, 53, 54, 55, 56, 57, 58, 59, 60] (by decide +kernel) (by decide +kernel)
set_option maxRecDepth 20000 in
theorem gX4_story_X4_asked : GoodIn wsX4_story (wsV RX4 131 RX4 yX4_asked wsX4_asked) := goodIn_app (goodIn_of _ (by decide +kernel)) ggX4_story_X4_asked
set_option maxRecDepth 20000 in
theorem ggX4_story_X4_storyOf : GoodIn wsX4_story wsX4_storyOf := goodIn_r _ [18, 19, 20, 21, 22, 23, 24, 25, 4, 26, 27, 28, 29, 30, 31, 32, 33, 34, 35, 36, 37, 38, 39, 40, 41, 42, 43, 44, 45, 46, 47, 48, 49, 50, 51, 52, 53, 54, 55, 56, 57, 58, 59, 60] (by decide +kernel) (by decide +kernel)
set_option maxRecDepth 20000 in
theorem gX4_story_X4_storyOf : GoodIn wsX4_story (wsV RX4 85 RX4 yX4_storyOf wsX4_storyOf) := goodIn_app (goodIn_of _ (by decide +kernel)) ggX4_story_X4_storyOf
theorem dX4_story_0 : decode cX4_story 0 = .ok (.aload_n 0, 1) := by decide +kernel
theorem dX4_story_1 : decode cX4_story 1 = .ok (.aload_n 0, 1) := by decide +kernel
theorem dX4_story_2 : decode cX4_story 2 = .ok (.iload_n 1, 1) := by decide +kernel
theorem dX4_story_3 : decode cX4_story 3 = .ok (.invokevirtual 111, 3) := by decide +kernel
theorem dX4_story_6 : decode cX4_story 6 = .ok (.invokevirtual 131, 3) := by decide +kernel
theorem dX4_story_9 : decode cX4_story 9 = .ok (.ifCond .eq 11, 3) := by decide +kernel
theorem dX4_story_12 : decode cX4_story 12 = .ok (.aload_n 0, 1) := by decide +kernel
theorem dX4_story_13 : decode cX4_story 13 = .ok (.iload_n 1, 1) := by decide +kernel
theorem dX4_story_14 : decode cX4_story 14 = .ok (.invokevirtual 85, 3) := by decide +kernel
theorem dX4_story_17 : decode cX4_story 17 = .ok (.goto 4, 3) := by decide +kernel
theorem dX4_story_20 : decode cX4_story 20 = .ok (.iconst 0, 1) := by decide +kernel
theorem dX4_story_21 : decode cX4_story 21 = .ok (.ireturn, 1) := by decide +kernel
set_option maxRecDepth 20000 in
theorem ggX4_storyOfAll_X4_story : GoodIn wsX4_storyOfAll wsX4_story := goodIn_r _ [5, 6, 7, 8, 4, 9, 10, 11, 12, 13, 14, 15, 16, 17, 18, 19, 20, 21, 22, 23, 24, 25, 26, 27, 28, 29, 30, 31, 32, 33, 34, 35, 36, 37, 38, 39, 40, 41, 42, 43, 44, 45, 46, 47, 48, 49, 50, 51, 52, 53, 54, 55, 56, 57, 58, 59, 60, 61, 62, 63, 64] (by decide +kernel) (by decide +kernel)
set_option maxRecDepth 20000 in
theorem gX4_storyOfAll_X4_story : GoodIn wsX4_storyOfAll (wsV RX4 137 RX4 yX4_story wsX4_story) := goodIn_app (goodIn_of _ (by decide +kernel)) ggX4_storyOfAll_X4_story
theorem dX4_storyOfAll_0 : decode cX4_storyOfAll 0 = .ok (.aload_n 0, 1) := by decide +kernel
theorem dX4_storyOfAll_1 : decode cX4_storyOfAll 1 = .ok (.iload_n 1, 1) := by decide +kernel
theorem dX4_storyOfAll_2 : decode cX4_storyOfAll 2 = .ok (.invokevirtual 137, 3) := by decide +kernel
theorem dX4_storyOfAll_5 : decode cX4_storyOfAll 5 = .ok (.ireturn, 1) := by decide +kernel
set_option maxRecDepth 20000 in
theorem ggX4_placeOf_X4_isBox : GoodIn wsX4_placeOf wsX4_isBox := goodIn_r _ [5, 6, 7, 8, 4, 9, 42, 43, 44, 45, 46, 47, 48, 49, 50, 51, 52, 53, 54, 55, 56, 57, 58, 59, 60, 61, 62, 63, 64] (by decide +kernel) (by decide +kernel)
set_option maxRecDepth 20000 in
theorem gX4_placeOf_X4_isBox : GoodIn wsX4_placeOf (wsV RX4 111 RX4 yX4_isBox wsX4_isBox) := goodIn_app (goodIn_of _ (by decide +kernel)) ggX4_placeOf_X4_isBox
set_option maxRecDepth 20000 in
theorem ggX4_placeOf_X4_asked : GoodIn wsX4_placeOf wsX4_asked := goodIn_r _ [13, 14, 42, 43, 44, 45, 46, 47, 48, 49, 50, 51, 52, 53, 54, 55, 56, 57, 58, 59, 60, 61, 62, 63, 64] (by decide +kernel) (by decide +kernel)
set_option maxRecDepth 20000 in
theorem gX4_placeOf_X4_asked : GoodIn wsX4_placeOf (wsV RX4 131 RX4 yX4_asked wsX4_asked) := goodIn_app (goodIn_of _ (by decide +kernel)) ggX4_placeOf_X4_asked
set_option maxRecDepth 20000 in
theorem ggX4_placeOf_X4_storyOf : GoodIn wsX4_placeOf wsX4_storyOf := goodIn_r _ [18, 19, 20, 21, 22, 23, 24, 25, 4, 26, 27, 28, 29, 30, 31, 32, 33, 34, 35, 36, 37, 42, 43, 44, 45, 46, 47, 48, 49, 50, 51, 52, 53, 54, 55, 56, 57, 58, 59, 60, 61, 62, 63, 64] (by decide +kernel) (by decide +kernel)
set_option maxRecDepth 20000 in
theorem gX4_placeOf_X4_storyOf : GoodIn wsX4_placeOf (wsV RX4 85 RX4 yX4_storyOf wsX4_storyOf) := goodIn_app (goodIn_of _ (by decide +kernel)) ggX4_placeOf_X4_storyOf
set_option maxRecDepth 20000 in
theorem ggX4_placeOf_X4_placeBy : GoodIn wsX4_placeOf wsX4_placeBy := goodIn_r _ [41, 19, 23, 42, 43, 44, 45, 46, 47, 48, 49, 50, 51, 52, 53, 54, 55, 56, 57, 58, 59, 60, 61, 62, 63, 64] (by decide +kernel) (by decide +kernel)
set_option maxRecDepth 20000 in
theorem gX4_placeOf_X4_placeBy : GoodIn wsX4_placeOf (wsV RX4 88 RX4 yX4_placeBy wsX4_placeBy) := goodIn_app (goodIn_of _ (by decide +kernel)) ggX4_placeOf_X4_placeBy
theorem dX4_placeOf_0 : decode cX4_placeOf 0 = .ok (.aload_n 0, 1) := by decide +kernel
theorem dX4_placeOf_1 : decode cX4_placeOf 1 = .ok (.aload_n 0, 1) := by decide +kernel
theorem dX4_placeOf_2 : decode cX4_placeOf 2 = .ok (.iload_n 1, 1) := by decide +kernel
theorem dX4_placeOf_3 : decode cX4_placeOf 3 = .ok (.invokevirtual 111, 3) := by decide +kernel
theorem dX4_placeOf_6 : decode cX4_placeOf 6 = .ok (.invokevirtual 131, 3) := by decide +kernel
theorem dX4_placeOf_9 : decode cX4_placeOf 9 = .ok (.ifCond .eq 16, 3) := by decide +kernel
theorem dX4_placeOf_12 : decode cX4_placeOf 12 = .ok (.aload_n 0, 1) := by decide +kernel
theorem dX4_placeOf_13 : decode cX4_placeOf 13 = .ok (.iload_n 1, 1) := by decide +kernel
theorem dX4_placeOf_14 : decode cX4_placeOf 14 = .ok (.aload_n 0, 1) := by decide +kernel
theorem dX4_placeOf_15 : decode cX4_placeOf 15 = .ok (.iload_n 1, 1) := by decide +kernel
theorem dX4_placeOf_16 : decode cX4_placeOf 16 = .ok (.invokevirtual 85, 3) := by decide +kernel
theorem dX4_placeOf_19 : decode cX4_placeOf 19 = .ok (.invokevirtual 88, 3) := by decide +kernel
theorem dX4_placeOf_22 : decode cX4_placeOf 22 = .ok (.goto 4, 3) := by decide +kernel
theorem dX4_placeOf_25 : decode cX4_placeOf 25 = .ok (.iconst 0, 1) := by decide +kernel
theorem dX4_placeOf_26 : decode cX4_placeOf 26 = .ok (.ireturn, 1) := by decide +kernel
set_option maxRecDepth 20000 in
theorem ggX4_lies_X4_in : GoodIn wsX4_lies wsX4_in := goodIn_r _ [7] (by decide +kernel) (by decide +kernel)
set_option maxRecDepth 20000 in
theorem gX4_lies_X4_in : GoodIn wsX4_lies (va_wsS RX4 69 yX4_in wsX4_in) := goodIn_app (goodIn_of _ (by decide +kernel)) ggX4_lies_X4_in
set_option maxRecDepth 20000 in
theorem ggX4_lies_X4_asked : GoodIn wsX4_lies wsX4_asked := goodIn_r _ [11, 12, 34, 35, 36, 37, 38, 39, 40, 41, 42, 43, 44, 45, 46, 47, 48, 49, 50, 51, 52, 53, 54, 55, 56] (by decide +kernel) (by decide +kernel)
set_option maxRecDepth 20000 in
theorem gX4_lies_X4_asked : GoodIn wsX4_lies (wsV RX4 131 RX4 yX4_asked wsX4_asked) := goodIn_app (goodIn_of _ (by decide +kernel)) ggX4_lies_X4_asked
set_option maxRecDepth 20000 in
theorem ggX4_lies_X4_storyOf : GoodIn wsX4_lies wsX4_storyOf := goodIn_r _ [16, 2, 17, 18, 19, 20, 21, 22, 6, 23, 24, 25, 26, 27, 28, 29, 30, 31, 3, 32, 33, 34, 35, 36, 37, 38, 39, 40, 41, 42, 43, 44, 45, 46, 47, 48, 49, 50, 51, 52, 53, 54, 55, 56] (by decide +kernel) (by decide +kernel)
set_option maxRecDepth 20000 in
theorem gX4_lies_X4_storyOf : GoodIn wsX4_lies (wsV RX4 85 RX4 yX4_storyOf wsX4_storyOf) := goodIn_app (goodIn_of _ (by decide +kernel)) ggX4_lies_X4_storyOf
theorem dX4_lies_0 : decode cX4_lies 0 = .ok (.iconst 0, 1) := by decide +kernel
theorem dX4_lies_1 : decode cX4_lies 1 = .ok (.istore_n 2, 1) := by decide +kernel
theorem dX4_lies_2 : decode cX4_lies 2 = .ok (.aload_n 0, 1) := by decide +kernel
theorem dX4_lies_3 : decode cX4_lies 3 = .ok (.iload_n 1, 1) := by decide +kernel
theorem dX4_lies_4 : decode cX4_lies 4 = .ok (.iconst 0, 1) := by decide +kernel
theorem dX4_lies_5 : decode cX4_lies 5 = .ok (.bipush 13, 2) := by decide +kernel
theorem dX4_lies_7 : decode cX4_lies 7 = .ok (.invokestatic 69, 3) := by decide +kernel
theorem dX4_lies_10 : decode cX4_lies 10 = .ok (.invokevirtual 131, 3) := by decide +kernel
theorem dX4_lies_13 : decode cX4_lies 13 = .ok (.istore_n 3, 1) := by decide +kernel
theorem dX4_lies_14 : decode cX4_lies 14 = .ok (.iconst 0, 1) := by decide +kernel
theorem dX4_lies_15 : decode cX4_lies 15 = .ok (.istore 4, 2) := by decide +kernel
theorem dX4_lies_17 : decode cX4_lies 17 = .ok (.iload_n 3, 1) := by decide +kernel
theorem dX4_lies_18 : decode cX4_lies 18 = .ok (.ifCond .eq 82, 3) := by decide +kernel
theorem dX4_lies_21 : decode cX4_lies 21 = .ok (.iload 4, 2) := by decide +kernel
theorem dX4_lies_23 : decode cX4_lies 23 = .ok (.aload_n 0, 1) := by decide +kernel
theorem dX4_lies_24 : decode cX4_lies 24 = .ok (.getfield 66, 3) := by decide +kernel
theorem dX4_lies_27 : decode cX4_lies 27 = .ok (.if_icmp .ge 73, 3) := by decide +kernel
theorem dX4_lies_30 : decode cX4_lies 30 = .ok (.aload_n 0, 1) := by decide +kernel
theorem dX4_lies_31 : decode cX4_lies 31 = .ok (.iload 4, 2) := by decide +kernel
theorem dX4_lies_33 : decode cX4_lies 33 = .ok (.invokevirtual 85, 3) := by decide +kernel
theorem dX4_lies_36 : decode cX4_lies 36 = .ok (.istore 5, 2) := by decide +kernel
theorem dX4_lies_38 : decode cX4_lies 38 = .ok (.iconst 0, 1) := by decide +kernel
theorem dX4_lies_39 : decode cX4_lies 39 = .ok (.istore 6, 2) := by decide +kernel
theorem dX4_lies_41 : decode cX4_lies 41 = .ok (.iload 6, 2) := by decide +kernel
theorem dX4_lies_43 : decode cX4_lies 43 = .ok (.aload_n 0, 1) := by decide +kernel
theorem dX4_lies_44 : decode cX4_lies 44 = .ok (.getfield 16, 3) := by decide +kernel
theorem dX4_lies_47 : decode cX4_lies 47 = .ok (.iload 4, 2) := by decide +kernel
theorem dX4_lies_49 : decode cX4_lies 49 = .ok (.iaload, 1) := by decide +kernel
theorem dX4_lies_50 : decode cX4_lies 50 = .ok (.if_icmp .ge 44, 3) := by decide +kernel
theorem dX4_lies_53 : decode cX4_lies 53 = .ok (.iload_n 2, 1) := by decide +kernel
theorem dX4_lies_54 : decode cX4_lies 54 = .ok (.aload_n 0, 1) := by decide +kernel
theorem dX4_lies_55 : decode cX4_lies 55 = .ok (.getfield 35, 3) := by decide +kernel
theorem dX4_lies_58 : decode cX4_lies 58 = .ok (.bipush 12, 2) := by decide +kernel
theorem dX4_lies_60 : decode cX4_lies 60 = .ok (.iload 4, 2) := by decide +kernel
theorem dX4_lies_62 : decode cX4_lies 62 = .ok (.imul, 1) := by decide +kernel
theorem dX4_lies_63 : decode cX4_lies 63 = .ok (.iload 6, 2) := by decide +kernel
theorem dX4_lies_65 : decode cX4_lies 65 = .ok (.iadd, 1) := by decide +kernel
theorem dX4_lies_66 : decode cX4_lies 66 = .ok (.iaload, 1) := by decide +kernel
theorem dX4_lies_67 : decode cX4_lies 67 = .ok (.iload_n 1, 1) := by decide +kernel
theorem dX4_lies_68 : decode cX4_lies 68 = .ok (.if_icmp .ne 17, 3) := by decide +kernel
theorem dX4_lies_71 : decode cX4_lies 71 = .ok (.iload 5, 2) := by decide +kernel
theorem dX4_lies_73 : decode cX4_lies 73 = .ok (.iload 6, 2) := by decide +kernel
theorem dX4_lies_75 : decode cX4_lies 75 = .ok (.ishr, 1) := by decide +kernel
theorem dX4_lies_76 : decode cX4_lies 76 = .ok (.iconst 1, 1) := by decide +kernel
theorem dX4_lies_77 : decode cX4_lies 77 = .ok (.iand, 1) := by decide +kernel
theorem dX4_lies_78 : decode cX4_lies 78 = .ok (.ifCond .ne 7, 3) := by decide +kernel
theorem dX4_lies_81 : decode cX4_lies 81 = .ok (.iconst 1, 1) := by decide +kernel
theorem dX4_lies_82 : decode cX4_lies 82 = .ok (.goto 4, 3) := by decide +kernel
theorem dX4_lies_85 : decode cX4_lies 85 = .ok (.iconst 0, 1) := by decide +kernel
theorem dX4_lies_86 : decode cX4_lies 86 = .ok (.iadd, 1) := by decide +kernel
theorem dX4_lies_87 : decode cX4_lies 87 = .ok (.istore_n 2, 1) := by decide +kernel
theorem dX4_lies_88 : decode cX4_lies 88 = .ok (.iinc 6 1, 3) := by decide +kernel
theorem dX4_lies_91 : decode cX4_lies 91 = .ok (.goto (-50), 3) := by decide +kernel
theorem dX4_lies_94 : decode cX4_lies 94 = .ok (.iinc 4 1, 3) := by decide +kernel
theorem dX4_lies_97 : decode cX4_lies 97 = .ok (.goto (-80), 3) := by decide +kernel
theorem dX4_lies_100 : decode cX4_lies 100 = .ok (.iload_n 2, 1) := by decide +kernel
theorem dX4_lies_101 : decode cX4_lies 101 = .ok (.ireturn, 1) := by decide +kernel
set_option maxRecDepth 20000 in
theorem ggX4_hasFee_X4_isBox : GoodIn wsX4_hasFee wsX4_isBox := goodIn_r _ [6, 7, 8, 9, 5, 10, 16, 17, 18, 19, 20, 21, 22, 23, 24, 25, 26, 27, 28, 29, 30, 31, 32, 33, 34, 35, 36, 37, 38] (by decide +kernel) (by decide +kernel)
set_option maxRecDepth 20000 in
theorem gX4_hasFee_X4_isBox : GoodIn wsX4_hasFee (wsV RX4 111 RX4 yX4_isBox wsX4_isBox) := goodIn_app (goodIn_of _ (by decide +kernel)) ggX4_hasFee_X4_isBox
set_option maxRecDepth 20000 in
theorem ggX4_hasFee_X4_asked : GoodIn wsX4_hasFee wsX4_asked := goodIn_r _ [14, 15, 16, 17, 18, 19, 20, 21, 22, 23, 24, 25, 26, 27, 28, 29, 30, 31, 32, 33, 34, 35, 36, 37, 38] (by decide +kernel) (by decide +kernel)
set_option maxRecDepth 20000 in
theorem gX4_hasFee_X4_asked : GoodIn wsX4_hasFee (wsV RX4 131 RX4 yX4_asked wsX4_asked) := goodIn_app (goodIn_of _ (by decide +kernel)) ggX4_hasFee_X4_asked
theorem dX4_hasFee_0 : decode cX4_hasFee 0 = .ok (.aload_n 0, 1) := by decide +kernel
theorem dX4_hasFee_1 : decode cX4_hasFee 1 = .ok (.aload_n 0, 1) := by decide +kernel
theorem dX4_hasFee_2 : decode cX4_hasFee 2 = .ok (.iload_n 1, 1) := by decide +kernel
theorem dX4_hasFee_3 : decode cX4_hasFee 3 = .ok (.invokevirtual 111, 3) := by decide +kernel
theorem dX4_hasFee_6 : decode cX4_hasFee 6 = .ok (.invokevirtual 131, 3) := by decide +kernel
theorem dX4_hasFee_9 : decode cX4_hasFee 9 = .ok (.ifCond .eq 16, 3) := by decide +kernel
theorem dX4_hasFee_12 : decode cX4_hasFee 12 = .ok (.aload_n 0, 1) := by decide +kernel
theorem dX4_hasFee_13 : decode cX4_hasFee 13 = .ok (.getfield 23, 3) := by decide +kernel
theorem dX4_hasFee_16 : decode cX4_hasFee 16 = .ok (.iload_n 1, 1) := by decide +kernel
theorem dX4_hasFee_17 : decode cX4_hasFee 17 = .ok (.baload, 1) := by decide +kernel
theorem dX4_hasFee_18 : decode cX4_hasFee 18 = .ok (.ifCond .eq 7, 3) := by decide +kernel
theorem dX4_hasFee_21 : decode cX4_hasFee 21 = .ok (.iconst 1, 1) := by decide +kernel
theorem dX4_hasFee_22 : decode cX4_hasFee 22 = .ok (.goto 4, 3) := by decide +kernel
theorem dX4_hasFee_25 : decode cX4_hasFee 25 = .ok (.iconst 0, 1) := by decide +kernel
theorem dX4_hasFee_26 : decode cX4_hasFee 26 = .ok (.ireturn, 1) := by decide +kernel
set_option maxRecDepth 20000 in
theorem ggX4_isInsured_X4_isBox : GoodIn wsX4_isInsured wsX4_isBox := goodIn_r _ [6, 7, 8, 9, 5, 10, 16, 17, 18, 19, 20, 21, 22, 23, 24, 25, 26, 27, 28, 29, 30, 31, 32, 33, 34, 35, 36, 37, 38] (by decide +kernel) (by decide +kernel)
set_option maxRecDepth 20000 in
theorem gX4_isInsured_X4_isBox : GoodIn wsX4_isInsured (wsV RX4 111 RX4 yX4_isBox wsX4_isBox) := goodIn_app (goodIn_of _ (by decide +kernel)) ggX4_isInsured_X4_isBox
set_option maxRecDepth 20000 in
theorem ggX4_isInsured_X4_asked : GoodIn wsX4_isInsured wsX4_asked := goodIn_r _ [14, 15, 16, 17, 18, 19, 20, 21, 22, 23, 24, 25, 26, 27, 28, 29, 30, 31, 32, 33, 34, 35, 36, 37, 38] (by decide +kernel) (by decide +kernel)
set_option maxRecDepth 20000 in
theorem gX4_isInsured_X4_asked : GoodIn wsX4_isInsured (wsV RX4 131 RX4 yX4_asked wsX4_asked) := goodIn_app (goodIn_of _ (by decide +kernel)) ggX4_isInsured_X4_asked
theorem dX4_isInsured_0 : decode cX4_isInsured 0 = .ok (.aload_n 0, 1) := by decide +kernel
theorem dX4_isInsured_1 : decode cX4_isInsured 1 = .ok (.aload_n 0, 1) := by decide +kernel
theorem dX4_isInsured_2 : decode cX4_isInsured 2 = .ok (.iload_n 1, 1) := by decide +kernel
theorem dX4_isInsured_3 : decode cX4_isInsured 3 = .ok (.invokevirtual 111, 3) := by decide +kernel
theorem dX4_isInsured_6 : decode cX4_isInsured 6 = .ok (.invokevirtual 131, 3) := by decide +kernel
theorem dX4_isInsured_9 : decode cX4_isInsured 9 = .ok (.ifCond .eq 16, 3) := by decide +kernel
theorem dX4_isInsured_12 : decode cX4_isInsured 12 = .ok (.aload_n 0, 1) := by decide +kernel
theorem dX4_isInsured_13 : decode cX4_isInsured 13 = .ok (.getfield 19, 3) := by decide +kernel
theorem dX4_isInsured_16 : decode cX4_isInsured 16 = .ok (.iload_n 1, 1) := by decide +kernel
theorem dX4_isInsured_17 : decode cX4_isInsured 17 = .ok (.baload, 1) := by decide +kernel
theorem dX4_isInsured_18 : decode cX4_isInsured 18 = .ok (.ifCond .eq 7, 3) := by decide +kernel
theorem dX4_isInsured_21 : decode cX4_isInsured 21 = .ok (.iconst 1, 1) := by decide +kernel
theorem dX4_isInsured_22 : decode cX4_isInsured 22 = .ok (.goto 4, 3) := by decide +kernel
theorem dX4_isInsured_25 : decode cX4_isInsured 25 = .ok (.iconst 0, 1) := by decide +kernel
theorem dX4_isInsured_26 : decode cX4_isInsured 26 = .ok (.ireturn, 1) := by decide +kernel
set_option maxRecDepth 20000 in
theorem ggX4_fees_X4_in : GoodIn wsX4_fees wsX4_in := goodIn_r _ [8] (by decide +kernel) (by decide +kernel)
set_option maxRecDepth 20000 in
theorem gX4_fees_X4_in : GoodIn wsX4_fees (va_wsS RX4 69 yX4_in wsX4_in) := goodIn_app (goodIn_of _ (by decide +kernel)) ggX4_fees_X4_in
set_option maxRecDepth 20000 in
theorem ggX4_fees_X4_asked : GoodIn wsX4_fees wsX4_asked := goodIn_r _ [12, 13, 14, 15, 16, 17, 18, 19, 20, 21, 22, 23, 24, 25, 26, 27, 28, 29, 30, 31, 32, 33, 34, 35, 36] (by decide +kernel) (by decide +kernel)
set_option maxRecDepth 20000 in
theorem gX4_fees_X4_asked : GoodIn wsX4_fees (wsV RX4 131 RX4 yX4_asked wsX4_asked) := goodIn_app (goodIn_of _ (by decide +kernel)) ggX4_fees_X4_asked
theorem dX4_fees_0 : decode cX4_fees 0 = .ok (.iconst 0, 1) := by decide +kernel
theorem dX4_fees_1 : decode cX4_fees 1 = .ok (.istore_n 2, 1) := by decide +kernel
theorem dX4_fees_2 : decode cX4_fees 2 = .ok (.aload_n 0, 1) := by decide +kernel
theorem dX4_fees_3 : decode cX4_fees 3 = .ok (.iload_n 1, 1) := by decide +kernel
theorem dX4_fees_4 : decode cX4_fees 4 = .ok (.iconst 0, 1) := by decide +kernel
theorem dX4_fees_5 : decode cX4_fees 5 = .ok (.iconst 3, 1) := by decide +kernel
theorem dX4_fees_6 : decode cX4_fees 6 = .ok (.invokestatic 69, 3) := by decide +kernel
theorem dX4_fees_9 : decode cX4_fees 9 = .ok (.invokevirtual 131, 3) := by decide +kernel
theorem dX4_fees_12 : decode cX4_fees 12 = .ok (.istore_n 3, 1) := by decide +kernel
theorem dX4_fees_13 : decode cX4_fees 13 = .ok (.iconst 0, 1) := by decide +kernel
theorem dX4_fees_14 : decode cX4_fees 14 = .ok (.istore 4, 2) := by decide +kernel
theorem dX4_fees_16 : decode cX4_fees 16 = .ok (.iload_n 3, 1) := by decide +kernel
theorem dX4_fees_17 : decode cX4_fees 17 = .ok (.ifCond .eq 56, 3) := by decide +kernel
theorem dX4_fees_20 : decode cX4_fees 20 = .ok (.iload 4, 2) := by decide +kernel
theorem dX4_fees_22 : decode cX4_fees 22 = .ok (.aload_n 0, 1) := by decide +kernel
theorem dX4_fees_23 : decode cX4_fees 23 = .ok (.getfield 66, 3) := by decide +kernel
theorem dX4_fees_26 : decode cX4_fees 26 = .ok (.if_icmp .ge 47, 3) := by decide +kernel
theorem dX4_fees_29 : decode cX4_fees 29 = .ok (.iload_n 2, 1) := by decide +kernel
theorem dX4_fees_30 : decode cX4_fees 30 = .ok (.aload_n 0, 1) := by decide +kernel
theorem dX4_fees_31 : decode cX4_fees 31 = .ok (.getfield 23, 3) := by decide +kernel
theorem dX4_fees_34 : decode cX4_fees 34 = .ok (.iload 4, 2) := by decide +kernel
theorem dX4_fees_36 : decode cX4_fees 36 = .ok (.baload, 1) := by decide +kernel
theorem dX4_fees_37 : decode cX4_fees 37 = .ok (.ifCond .eq 27, 3) := by decide +kernel
theorem dX4_fees_40 : decode cX4_fees 40 = .ok (.aload_n 0, 1) := by decide +kernel
theorem dX4_fees_41 : decode cX4_fees 41 = .ok (.getfield 26, 3) := by decide +kernel
theorem dX4_fees_44 : decode cX4_fees 44 = .ok (.iload 4, 2) := by decide +kernel
theorem dX4_fees_46 : decode cX4_fees 46 = .ok (.iaload, 1) := by decide +kernel
theorem dX4_fees_47 : decode cX4_fees 47 = .ok (.iload_n 1, 1) := by decide +kernel
theorem dX4_fees_48 : decode cX4_fees 48 = .ok (.if_icmp .ne 16, 3) := by decide +kernel
theorem dX4_fees_51 : decode cX4_fees 51 = .ok (.bipush 10, 2) := by decide +kernel
theorem dX4_fees_53 : decode cX4_fees 53 = .ok (.aload_n 0, 1) := by decide +kernel
theorem dX4_fees_54 : decode cX4_fees 54 = .ok (.getfield 7, 3) := by decide +kernel
theorem dX4_fees_57 : decode cX4_fees 57 = .ok (.iload 4, 2) := by decide +kernel
theorem dX4_fees_59 : decode cX4_fees 59 = .ok (.iaload, 1) := by decide +kernel
theorem dX4_fees_60 : decode cX4_fees 60 = .ok (.imul, 1) := by decide +kernel
theorem dX4_fees_61 : decode cX4_fees 61 = .ok (.goto 4, 3) := by decide +kernel
theorem dX4_fees_64 : decode cX4_fees 64 = .ok (.iconst 0, 1) := by decide +kernel
theorem dX4_fees_65 : decode cX4_fees 65 = .ok (.iadd, 1) := by decide +kernel
theorem dX4_fees_66 : decode cX4_fees 66 = .ok (.istore_n 2, 1) := by decide +kernel
theorem dX4_fees_67 : decode cX4_fees 67 = .ok (.iinc 4 1, 3) := by decide +kernel
theorem dX4_fees_70 : decode cX4_fees 70 = .ok (.goto (-54), 3) := by decide +kernel
theorem dX4_fees_73 : decode cX4_fees 73 = .ok (.iload_n 2, 1) := by decide +kernel
theorem dX4_fees_74 : decode cX4_fees 74 = .ok (.ireturn, 1) := by decide +kernel
set_option maxRecDepth 20000 in
theorem ggX4_insurers_X4_told : GoodIn wsX4_insurers wsX4_told := goodIn_r _ [6, 7, 8, 9, 10, 11, 12, 13, 14, 15, 16, 17, 18, 19, 20, 21, 22, 23, 24, 25, 26, 27, 28, 29, 30] (by decide +kernel) (by decide +kernel)
set_option maxRecDepth 20000 in
theorem gX4_insurers_X4_told : GoodIn wsX4_insurers (wsV RX4 134 RX4 yX4_told wsX4_told) := goodIn_app (goodIn_of _ (by decide +kernel)) ggX4_insurers_X4_told
theorem dX4_insurers_0 : decode cX4_insurers 0 = .ok (.aload_n 0, 1) := by decide +kernel
theorem dX4_insurers_1 : decode cX4_insurers 1 = .ok (.aload_n 0, 1) := by decide +kernel
theorem dX4_insurers_2 : decode cX4_insurers 2 = .ok (.getfield 91, 3) := by decide +kernel
theorem dX4_insurers_5 : decode cX4_insurers 5 = .ok (.invokevirtual 134, 3) := by decide +kernel
theorem dX4_insurers_8 : decode cX4_insurers 8 = .ok (.ireturn, 1) := by decide +kernel
set_option maxRecDepth 20000 in
theorem ggX4_entries_X4_told : GoodIn wsX4_entries wsX4_told := goodIn_r _ [6, 7, 8, 9, 10, 11, 12, 13, 14, 15, 16, 17, 18, 19, 20, 21, 22, 23, 24, 25, 26, 27, 28, 29, 30] (by decide +kernel) (by decide +kernel)
set_option maxRecDepth 20000 in
theorem gX4_entries_X4_told : GoodIn wsX4_entries (wsV RX4 134 RX4 yX4_told wsX4_told) := goodIn_app (goodIn_of _ (by decide +kernel)) ggX4_entries_X4_told
theorem dX4_entries_0 : decode cX4_entries 0 = .ok (.aload_n 0, 1) := by decide +kernel
theorem dX4_entries_1 : decode cX4_entries 1 = .ok (.aload_n 0, 1) := by decide +kernel
theorem dX4_entries_2 : decode cX4_entries 2 = .ok (.getfield 94, 3) := by decide +kernel
theorem dX4_entries_5 : decode cX4_entries 5 = .ok (.invokevirtual 134, 3) := by decide +kernel
theorem dX4_entries_8 : decode cX4_entries 8 = .ok (.ireturn, 1) := by decide +kernel
set_option maxRecDepth 20000 in
theorem ggX4_fine_X4_isBox : GoodIn wsX4_fine wsX4_isBox := goodIn_r _ [9, 10, 11, 12, 8, 13, 43, 44, 45, 46, 47, 48, 49, 50, 51, 52, 53, 54, 55, 56, 57, 58, 59, 60, 61, 62, 63, 64, 65] (by decide +kernel) (by decide +kernel)
set_option maxRecDepth 20000 in
theorem gX4_fine_X4_isBox : GoodIn wsX4_fine (wsV RX4 111 RX4 yX4_isBox wsX4_isBox) := goodIn_app (goodIn_of _ (by decide +kernel)) ggX4_fine_X4_isBox
set_option maxRecDepth 20000 in
theorem ggX4_fine_X4_asked : GoodIn wsX4_fine wsX4_asked := goodIn_r _ [17, 18, 43, 44, 45, 46, 47, 48, 49, 50, 51, 52, 53, 54, 55, 56, 57, 58, 59, 60, 61, 62, 63, 64, 65] (by decide +kernel) (by decide +kernel)
set_option maxRecDepth 20000 in
theorem gX4_fine_X4_asked : GoodIn wsX4_fine (wsV RX4 131 RX4 yX4_asked wsX4_asked) := goodIn_app (goodIn_of _ (by decide +kernel)) ggX4_fine_X4_asked
set_option maxRecDepth 20000 in
theorem ggX4_fine_X4_storyOf : GoodIn wsX4_fine wsX4_storyOf := goodIn_r _ [22, 2, 23, 24, 4, 3, 25, 26, 8, 27, 28, 29, 30, 31, 32, 33, 34, 35, 36, 37, 38, 43, 44, 45, 46, 47, 48, 49, 50, 51, 52, 53, 54, 55, 56, 57, 58, 59, 60, 61, 62, 63, 64, 65] (by decide +kernel) (by decide +kernel)
set_option maxRecDepth 20000 in
theorem gX4_fine_X4_storyOf : GoodIn wsX4_fine (wsV RX4 85 RX4 yX4_storyOf wsX4_storyOf) := goodIn_app (goodIn_of _ (by decide +kernel)) ggX4_fine_X4_storyOf
set_option maxRecDepth 20000 in
theorem ggX4_fine_X4_placeBy : GoodIn wsX4_fine wsX4_placeBy := goodIn_r _ [42, 2, 3, 43, 44, 45, 46, 47, 48, 49, 50, 51, 52, 53, 54, 55, 56, 57, 58, 59, 60, 61, 62, 63, 64, 65] (by decide +kernel) (by decide +kernel)
set_option maxRecDepth 20000 in
theorem gX4_fine_X4_placeBy : GoodIn wsX4_fine (wsV RX4 88 RX4 yX4_placeBy wsX4_placeBy) := goodIn_app (goodIn_of _ (by decide +kernel)) ggX4_fine_X4_placeBy
set_option maxRecDepth 20000 in
theorem ggX4_fine_X4_sort : GoodIn wsX4_fine wsX4_sort := goodIn_r _ [31] (by decide +kernel) (by decide +kernel)
set_option maxRecDepth 20000 in
theorem gX4_fine_X4_sort : GoodIn wsX4_fine (va_wsS RX4 73 yX4_sort wsX4_sort) := goodIn_app (goodIn_of _ (by decide +kernel)) ggX4_fine_X4_sort
theorem dX4_fine_0 : decode cX4_fine 0 = .ok (.aload_n 0, 1) := by decide +kernel
theorem dX4_fine_1 : decode cX4_fine 1 = .ok (.aload_n 0, 1) := by decide +kernel
theorem dX4_fine_2 : decode cX4_fine 2 = .ok (.iload_n 1, 1) := by decide +kernel
theorem dX4_fine_3 : decode cX4_fine 3 = .ok (.invokevirtual 111, 3) := by decide +kernel
theorem dX4_fine_6 : decode cX4_fine 6 = .ok (.invokevirtual 131, 3) := by decide +kernel
theorem dX4_fine_9 : decode cX4_fine 9 = .ok (.ifCond .ne 5, 3) := by decide +kernel
theorem dX4_fine_12 : decode cX4_fine 12 = .ok (.iconst 0, 1) := by decide +kernel
theorem dX4_fine_13 : decode cX4_fine 13 = .ok (.ireturn, 1) := by decide +kernel
theorem dX4_fine_14 : decode cX4_fine 14 = .ok (.aload_n 0, 1) := by decide +kernel
theorem dX4_fine_15 : decode cX4_fine 15 = .ok (.iload_n 1, 1) := by decide +kernel
theorem dX4_fine_16 : decode cX4_fine 16 = .ok (.invokevirtual 85, 3) := by decide +kernel
theorem dX4_fine_19 : decode cX4_fine 19 = .ok (.istore_n 2, 1) := by decide +kernel
theorem dX4_fine_20 : decode cX4_fine 20 = .ok (.aload_n 0, 1) := by decide +kernel
theorem dX4_fine_21 : decode cX4_fine 21 = .ok (.iload_n 1, 1) := by decide +kernel
theorem dX4_fine_22 : decode cX4_fine 22 = .ok (.iload_n 2, 1) := by decide +kernel
theorem dX4_fine_23 : decode cX4_fine 23 = .ok (.invokevirtual 88, 3) := by decide +kernel
theorem dX4_fine_26 : decode cX4_fine 26 = .ok (.istore_n 3, 1) := by decide +kernel
theorem dX4_fine_27 : decode cX4_fine 27 = .ok (.iload_n 3, 1) := by decide +kernel
theorem dX4_fine_28 : decode cX4_fine 28 = .ok (.invokestatic 73, 3) := by decide +kernel
theorem dX4_fine_31 : decode cX4_fine 31 = .ok (.iconst 2, 1) := by decide +kernel
theorem dX4_fine_32 : decode cX4_fine 32 = .ok (.if_icmp .eq 5, 3) := by decide +kernel
theorem dX4_fine_35 : decode cX4_fine 35 = .ok (.iconst 0, 1) := by decide +kernel
theorem dX4_fine_36 : decode cX4_fine 36 = .ok (.ireturn, 1) := by decide +kernel
theorem dX4_fine_37 : decode cX4_fine 37 = .ok (.aload_n 0, 1) := by decide +kernel
theorem dX4_fine_38 : decode cX4_fine 38 = .ok (.getfield 107, 3) := by decide +kernel
theorem dX4_fine_41 : decode cX4_fine 41 = .ok (.istore 4, 2) := by decide +kernel
theorem dX4_fine_43 : decode cX4_fine 43 = .ok (.iconst 1, 1) := by decide +kernel
theorem dX4_fine_44 : decode cX4_fine 44 = .ok (.istore 5, 2) := by decide +kernel
theorem dX4_fine_46 : decode cX4_fine 46 = .ok (.aload_n 0, 1) := by decide +kernel
theorem dX4_fine_47 : decode cX4_fine 47 = .ok (.getfield 16, 3) := by decide +kernel
theorem dX4_fine_50 : decode cX4_fine 50 = .ok (.iload_n 1, 1) := by decide +kernel
theorem dX4_fine_51 : decode cX4_fine 51 = .ok (.iaload, 1) := by decide +kernel
theorem dX4_fine_52 : decode cX4_fine 52 = .ok (.iconst 1, 1) := by decide +kernel
theorem dX4_fine_53 : decode cX4_fine 53 = .ok (.isub, 1) := by decide +kernel
theorem dX4_fine_54 : decode cX4_fine 54 = .ok (.istore 6, 2) := by decide +kernel
theorem dX4_fine_56 : decode cX4_fine 56 = .ok (.iload 6, 2) := by decide +kernel
theorem dX4_fine_58 : decode cX4_fine 58 = .ok (.ifCond .lt 71, 3) := by decide +kernel
theorem dX4_fine_61 : decode cX4_fine 61 = .ok (.iload_n 2, 1) := by decide +kernel
theorem dX4_fine_62 : decode cX4_fine 62 = .ok (.iload 6, 2) := by decide +kernel
theorem dX4_fine_64 : decode cX4_fine 64 = .ok (.ishr, 1) := by decide +kernel
theorem dX4_fine_65 : decode cX4_fine 65 = .ok (.iconst 1, 1) := by decide +kernel
theorem dX4_fine_66 : decode cX4_fine 66 = .ok (.iand, 1) := by decide +kernel
theorem dX4_fine_67 : decode cX4_fine 67 = .ok (.iconst 1, 1) := by decide +kernel
theorem dX4_fine_68 : decode cX4_fine 68 = .ok (.if_icmp .ne 55, 3) := by decide +kernel
theorem dX4_fine_71 : decode cX4_fine 71 = .ok (.iload 5, 2) := by decide +kernel
theorem dX4_fine_73 : decode cX4_fine 73 = .ok (.ifCond .eq 23, 3) := by decide +kernel
theorem dX4_fine_76 : decode cX4_fine 76 = .ok (.aload_n 0, 1) := by decide +kernel
theorem dX4_fine_77 : decode cX4_fine 77 = .ok (.getfield 29, 3) := by decide +kernel
theorem dX4_fine_80 : decode cX4_fine 80 = .ok (.bipush 12, 2) := by decide +kernel
theorem dX4_fine_82 : decode cX4_fine 82 = .ok (.iload_n 1, 1) := by decide +kernel
theorem dX4_fine_83 : decode cX4_fine 83 = .ok (.imul, 1) := by decide +kernel
theorem dX4_fine_84 : decode cX4_fine 84 = .ok (.iload 6, 2) := by decide +kernel
theorem dX4_fine_86 : decode cX4_fine 86 = .ok (.iadd, 1) := by decide +kernel
theorem dX4_fine_87 : decode cX4_fine 87 = .ok (.iaload, 1) := by decide +kernel
theorem dX4_fine_88 : decode cX4_fine 88 = .ok (.iload_n 3, 1) := by decide +kernel
theorem dX4_fine_89 : decode cX4_fine 89 = .ok (.if_icmp .ne 7, 3) := by decide +kernel
theorem dX4_fine_92 : decode cX4_fine 92 = .ok (.iconst 1, 1) := by decide +kernel
theorem dX4_fine_93 : decode cX4_fine 93 = .ok (.goto 4, 3) := by decide +kernel
theorem dX4_fine_96 : decode cX4_fine 96 = .ok (.iconst 0, 1) := by decide +kernel
theorem dX4_fine_97 : decode cX4_fine 97 = .ok (.istore 5, 2) := by decide +kernel
theorem dX4_fine_99 : decode cX4_fine 99 = .ok (.iload 5, 2) := by decide +kernel
theorem dX4_fine_101 : decode cX4_fine 101 = .ok (.ifCond .eq 18, 3) := by decide +kernel
theorem dX4_fine_104 : decode cX4_fine 104 = .ok (.aload_n 0, 1) := by decide +kernel
theorem dX4_fine_105 : decode cX4_fine 105 = .ok (.getfield 32, 3) := by decide +kernel
theorem dX4_fine_108 : decode cX4_fine 108 = .ok (.bipush 12, 2) := by decide +kernel
theorem dX4_fine_110 : decode cX4_fine 110 = .ok (.iload_n 1, 1) := by decide +kernel
theorem dX4_fine_111 : decode cX4_fine 111 = .ok (.imul, 1) := by decide +kernel
theorem dX4_fine_112 : decode cX4_fine 112 = .ok (.iload 6, 2) := by decide +kernel
theorem dX4_fine_114 : decode cX4_fine 114 = .ok (.iadd, 1) := by decide +kernel
theorem dX4_fine_115 : decode cX4_fine 115 = .ok (.iaload, 1) := by decide +kernel
theorem dX4_fine_116 : decode cX4_fine 116 = .ok (.goto 5, 3) := by decide +kernel
theorem dX4_fine_119 : decode cX4_fine 119 = .ok (.iload 4, 2) := by decide +kernel
theorem dX4_fine_121 : decode cX4_fine 121 = .ok (.istore 4, 2) := by decide +kernel
theorem dX4_fine_123 : decode cX4_fine 123 = .ok (.iinc 6 (-1), 3) := by decide +kernel
theorem dX4_fine_126 : decode cX4_fine 126 = .ok (.goto (-70), 3) := by decide +kernel
theorem dX4_fine_129 : decode cX4_fine 129 = .ok (.aload_n 0, 1) := by decide +kernel
theorem dX4_fine_130 : decode cX4_fine 130 = .ok (.getfield 107, 3) := by decide +kernel
theorem dX4_fine_133 : decode cX4_fine 133 = .ok (.iload 4, 2) := by decide +kernel
theorem dX4_fine_135 : decode cX4_fine 135 = .ok (.isub, 1) := by decide +kernel
theorem dX4_fine_136 : decode cX4_fine 136 = .ok (.bipush 60, 2) := by decide +kernel
theorem dX4_fine_138 : decode cX4_fine 138 = .ok (.idiv, 1) := by decide +kernel
theorem dX4_fine_139 : decode cX4_fine 139 = .ok (.bipush 24, 2) := by decide +kernel
theorem dX4_fine_141 : decode cX4_fine 141 = .ok (.isub, 1) := by decide +kernel
theorem dX4_fine_142 : decode cX4_fine 142 = .ok (.istore 6, 2) := by decide +kernel
theorem dX4_fine_144 : decode cX4_fine 144 = .ok (.iload 6, 2) := by decide +kernel
theorem dX4_fine_146 : decode cX4_fine 146 = .ok (.ifCond .le 10, 3) := by decide +kernel
theorem dX4_fine_149 : decode cX4_fine 149 = .ok (.iconst 2, 1) := by decide +kernel
theorem dX4_fine_150 : decode cX4_fine 150 = .ok (.iload 6, 2) := by decide +kernel
theorem dX4_fine_152 : decode cX4_fine 152 = .ok (.imul, 1) := by decide +kernel
theorem dX4_fine_153 : decode cX4_fine 153 = .ok (.goto 4, 3) := by decide +kernel
theorem dX4_fine_156 : decode cX4_fine 156 = .ok (.iconst 0, 1) := by decide +kernel
theorem dX4_fine_157 : decode cX4_fine 157 = .ok (.ireturn, 1) := by decide +kernel
set_option maxRecDepth 20000 in
theorem ggX4_isJammed_X4_isDoor : GoodIn wsX4_isJammed wsX4_isDoor := goodIn_r _ [5, 6, 7, 4, 8] (by decide +kernel) (by decide +kernel)
set_option maxRecDepth 20000 in
theorem gX4_isJammed_X4_isDoor : GoodIn wsX4_isJammed (va_wsS RX4 122 yX4_isDoor wsX4_isDoor) := goodIn_app (goodIn_of _ (by decide +kernel)) ggX4_isJammed_X4_isDoor
set_option maxRecDepth 20000 in
theorem ggX4_isJammed_X4_asked : GoodIn wsX4_isJammed wsX4_asked := goodIn_r _ [12, 13, 14, 15, 16, 17, 18, 19, 20, 21, 22, 23, 24, 25, 26, 27, 28, 29, 30, 31, 32, 33, 34, 35, 36] (by decide +kernel) (by decide +kernel)
set_option maxRecDepth 20000 in
theorem gX4_isJammed_X4_asked : GoodIn wsX4_isJammed (wsV RX4 131 RX4 yX4_asked wsX4_asked) := goodIn_app (goodIn_of _ (by decide +kernel)) ggX4_isJammed_X4_asked
theorem dX4_isJammed_0 : decode cX4_isJammed 0 = .ok (.aload_n 0, 1) := by decide +kernel
theorem dX4_isJammed_1 : decode cX4_isJammed 1 = .ok (.iload_n 1, 1) := by decide +kernel
theorem dX4_isJammed_2 : decode cX4_isJammed 2 = .ok (.invokestatic 122, 3) := by decide +kernel
theorem dX4_isJammed_5 : decode cX4_isJammed 5 = .ok (.invokevirtual 131, 3) := by decide +kernel
theorem dX4_isJammed_8 : decode cX4_isJammed 8 = .ok (.ifCond .eq 16, 3) := by decide +kernel
theorem dX4_isJammed_11 : decode cX4_isJammed 11 = .ok (.aload_n 0, 1) := by decide +kernel
theorem dX4_isJammed_12 : decode cX4_isJammed 12 = .ok (.getfield 53, 3) := by decide +kernel
theorem dX4_isJammed_15 : decode cX4_isJammed 15 = .ok (.iload_n 1, 1) := by decide +kernel
theorem dX4_isJammed_16 : decode cX4_isJammed 16 = .ok (.baload, 1) := by decide +kernel
theorem dX4_isJammed_17 : decode cX4_isJammed 17 = .ok (.ifCond .eq 7, 3) := by decide +kernel
theorem dX4_isJammed_20 : decode cX4_isJammed 20 = .ok (.iconst 1, 1) := by decide +kernel
theorem dX4_isJammed_21 : decode cX4_isJammed 21 = .ok (.goto 4, 3) := by decide +kernel
theorem dX4_isJammed_24 : decode cX4_isJammed 24 = .ok (.iconst 0, 1) := by decide +kernel
theorem dX4_isJammed_25 : decode cX4_isJammed 25 = .ok (.ireturn, 1) := by decide +kernel
set_option maxRecDepth 20000 in
theorem ggX4_keptFor_X4_isDoor : GoodIn wsX4_keptFor wsX4_isDoor := goodIn_r _ [5, 6, 7, 4, 8] (by decide +kernel) (by decide +kernel)
set_option maxRecDepth 20000 in
theorem gX4_keptFor_X4_isDoor : GoodIn wsX4_keptFor (va_wsS RX4 122 yX4_isDoor wsX4_isDoor) := goodIn_app (goodIn_of _ (by decide +kernel)) ggX4_keptFor_X4_isDoor
set_option maxRecDepth 20000 in
theorem ggX4_keptFor_X4_asked : GoodIn wsX4_keptFor wsX4_asked := goodIn_r _ [12, 13, 14, 15, 16, 17, 18, 19, 20, 21, 22, 23, 24, 25, 26, 27, 28, 29, 30, 31, 32, 33, 34, 35, 36] (by decide +kernel) (by decide +kernel)
set_option maxRecDepth 20000 in
theorem gX4_keptFor_X4_asked : GoodIn wsX4_keptFor (wsV RX4 131 RX4 yX4_asked wsX4_asked) := goodIn_app (goodIn_of _ (by decide +kernel)) ggX4_keptFor_X4_asked
theorem dX4_keptFor_0 : decode cX4_keptFor 0 = .ok (.aload_n 0, 1) := by decide +kernel
theorem dX4_keptFor_1 : decode cX4_keptFor 1 = .ok (.iload_n 1, 1) := by decide +kernel
theorem dX4_keptFor_2 : decode cX4_keptFor 2 = .ok (.invokestatic 122, 3) := by decide +kernel
theorem dX4_keptFor_5 : decode cX4_keptFor 5 = .ok (.invokevirtual 131, 3) := by decide +kernel
theorem dX4_keptFor_8 : decode cX4_keptFor 8 = .ok (.ifCond .eq 12, 3) := by decide +kernel
theorem dX4_keptFor_11 : decode cX4_keptFor 11 = .ok (.aload_n 0, 1) := by decide +kernel
theorem dX4_keptFor_12 : decode cX4_keptFor 12 = .ok (.getfield 44, 3) := by decide +kernel
theorem dX4_keptFor_15 : decode cX4_keptFor 15 = .ok (.iload_n 1, 1) := by decide +kernel
theorem dX4_keptFor_16 : decode cX4_keptFor 16 = .ok (.iaload, 1) := by decide +kernel
theorem dX4_keptFor_17 : decode cX4_keptFor 17 = .ok (.goto 4, 3) := by decide +kernel
theorem dX4_keptFor_20 : decode cX4_keptFor 20 = .ok (.iconst 0, 1) := by decide +kernel
theorem dX4_keptFor_21 : decode cX4_keptFor 21 = .ok (.ireturn, 1) := by decide +kernel
