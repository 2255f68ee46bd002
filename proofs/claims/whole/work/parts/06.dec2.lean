theorem dX11_mark_24 : decode cX11_mark 24 = .ok (.iload_n 1, 1) := by decide +kernel
theorem dX11_mark_25 : decode cX11_mark 25 = .ok (.iconst 1, 1) := by decide +kernel
theorem dX11_mark_26 : decode cX11_mark 26 = .ok (.bastore, 1) := by decide +kernel
theorem dX11_mark_27 : decode cX11_mark 27 = .ok (.aload_n 0, 1) := by decide +kernel
theorem dX11_mark_28 : decode cX11_mark 28 = .ok (.getfield 42, 3) := by decide +kernel
theorem dX11_mark_31 : decode cX11_mark 31 = .ok (.iload_n 1, 1) := by decide +kernel
theorem dX11_mark_32 : decode cX11_mark 32 = .ok (.iload_n 2, 1) := by decide +kernel
theorem dX11_mark_33 : decode cX11_mark 33 = .ok (.iastore, 1) := by decide +kernel
theorem dX11_mark_34 : decode cX11_mark 34 = .ok (.aload_n 0, 1) := by decide +kernel
theorem dX11_mark_35 : decode cX11_mark 35 = .ok (.iload_n 2, 1) := by decide +kernel
theorem dX11_mark_36 : decode cX11_mark 36 = .ok (.invokevirtual 215, 3) := by decide +kernel
theorem dX11_mark_39 : decode cX11_mark 39 = .ok (.ireturn, 1) := by decide +kernel
set_option maxRecDepth 20000 in
theorem ggX11_lost_X11_noBin : GoodIn wsX11_lost wsX11_noBin := goodIn_r _ [7, 8, 13, 14, 15, 16, 17, 18, 19, 20, 21, 22, 23, 24, 25, 26, 27, 28, 29, 30, 31, 32, 33, 34, 35, 36, 37, 38, 39, 40, 41, 42, 43, 44, 45, 46, 47, 48, 49, 50, 51, 52, 53, 54, 55, 56, 57, 58, 59, 60] (by decide +kernel) (by decide +kernel)
set_option maxRecDepth 20000 in
theorem gX11_lost_X11_noBin : GoodIn wsX11_lost (wsV RX11 212 RX11 yX11_noBin wsX11_noBin) := goodIn_app (goodIn_of _ (by decide +kernel)) ggX11_lost_X11_noBin
set_option maxRecDepth 20000 in
theorem ggX11_lost_X11_throwsIf : GoodIn wsX11_lost wsX11_throwsIf := goodIn_r _ [12, 1, 13, 14, 15, 16, 17, 18, 19, 20, 21, 22, 23, 24, 25, 26, 27, 28, 29, 30, 31, 32, 33, 34, 35, 36, 37, 38, 39, 40, 41, 42, 43, 44, 45, 46, 47, 48, 49, 50, 51, 52, 53, 54, 55, 56, 57, 58, 59, 60] (by decide +kernel) (by decide +kernel)
set_option maxRecDepth 20000 in
theorem gX11_lost_X11_throwsIf : GoodIn wsX11_lost (wsV RX11 186 RX11 yX11_throwsIf wsX11_throwsIf) := goodIn_app (goodIn_of _ (by decide +kernel)) ggX11_lost_X11_throwsIf
theorem dX11_lost_0 : decode cX11_lost 0 = .ok (.aload_n 0, 1) := by decide +kernel
theorem dX11_lost_1 : decode cX11_lost 1 = .ok (.iconst 0, 1) := by decide +kernel
theorem dX11_lost_2 : decode cX11_lost 2 = .ok (.putfield 129, 3) := by decide +kernel
theorem dX11_lost_5 : decode cX11_lost 5 = .ok (.aload_n 0, 1) := by decide +kernel
theorem dX11_lost_6 : decode cX11_lost 6 = .ok (.aload_n 0, 1) := by decide +kernel
theorem dX11_lost_7 : decode cX11_lost 7 = .ok (.iload_n 1, 1) := by decide +kernel
theorem dX11_lost_8 : decode cX11_lost 8 = .ok (.invokevirtual 212, 3) := by decide +kernel
theorem dX11_lost_11 : decode cX11_lost 11 = .ok (.iconst 1, 1) := by decide +kernel
theorem dX11_lost_12 : decode cX11_lost 12 = .ok (.invokevirtual 186, 3) := by decide +kernel
theorem dX11_lost_15 : decode cX11_lost 15 = .ok (.ifCond .eq 5, 3) := by decide +kernel
theorem dX11_lost_18 : decode cX11_lost 18 = .ok (.iconst 0, 1) := by decide +kernel
theorem dX11_lost_19 : decode cX11_lost 19 = .ok (.ireturn, 1) := by decide +kernel
theorem dX11_lost_20 : decode cX11_lost 20 = .ok (.aload_n 0, 1) := by decide +kernel
theorem dX11_lost_21 : decode cX11_lost 21 = .ok (.getfield 39, 3) := by decide +kernel
theorem dX11_lost_24 : decode cX11_lost 24 = .ok (.iload_n 1, 1) := by decide +kernel
theorem dX11_lost_25 : decode cX11_lost 25 = .ok (.baload, 1) := by decide +kernel
theorem dX11_lost_26 : decode cX11_lost 26 = .ok (.istore_n 2, 1) := by decide +kernel
theorem dX11_lost_27 : decode cX11_lost 27 = .ok (.aload_n 0, 1) := by decide +kernel
theorem dX11_lost_28 : decode cX11_lost 28 = .ok (.getfield 39, 3) := by decide +kernel
theorem dX11_lost_31 : decode cX11_lost 31 = .ok (.iload_n 1, 1) := by decide +kernel
theorem dX11_lost_32 : decode cX11_lost 32 = .ok (.iconst 0, 1) := by decide +kernel
theorem dX11_lost_33 : decode cX11_lost 33 = .ok (.bastore, 1) := by decide +kernel
theorem dX11_lost_34 : decode cX11_lost 34 = .ok (.iload_n 2, 1) := by decide +kernel
theorem dX11_lost_35 : decode cX11_lost 35 = .ok (.ireturn, 1) := by decide +kernel
set_option maxRecDepth 20000 in
theorem ggX11_move_X11_noBin : GoodIn wsX11_move wsX11_noBin := goodIn_r _ [11, 12, 25, 26, 27, 28, 29, 30, 31, 32, 33, 34, 35, 36, 37, 38, 39, 40, 41, 42, 43, 44, 45, 46, 47, 48, 49, 50, 51, 52, 53, 54, 55, 56, 57, 58, 59, 60, 61, 62, 63, 64, 65, 66, 67, 68, 69, 70, 71, 72] (by decide +kernel) (by decide +kernel)
set_option maxRecDepth 20000 in
theorem gX11_move_X11_noBin : GoodIn wsX11_move (wsV RX11 212 RX11 yX11_noBin wsX11_noBin) := goodIn_app (goodIn_of _ (by decide +kernel)) ggX11_move_X11_noBin
set_option maxRecDepth 20000 in
theorem ggX11_move_X11_noHouse : GoodIn wsX11_move wsX11_noHouse := goodIn_r _ [16, 17, 25, 26, 27, 28, 29, 30, 31, 32, 33, 34, 35, 36, 37, 38, 39, 40, 41, 42, 43, 44, 45, 46, 47, 48, 49, 50, 51, 52, 53, 54, 55, 56, 57, 58, 59, 60, 61, 62, 63, 64, 65, 66, 67, 68, 69, 70, 71, 72] (by decide +kernel) (by decide +kernel)
set_option maxRecDepth 20000 in
theorem gX11_move_X11_noHouse : GoodIn wsX11_move (wsV RX11 209 RX11 yX11_noHouse wsX11_noHouse) := goodIn_app (goodIn_of _ (by decide +kernel)) ggX11_move_X11_noHouse
set_option maxRecDepth 20000 in
theorem ggX11_move_X11_throwsIf : GoodIn wsX11_move wsX11_throwsIf := goodIn_r _ [21, 1, 25, 26, 27, 28, 29, 30, 31, 32, 33, 34, 35, 36, 37, 38, 39, 40, 41, 42, 43, 44, 45, 46, 47, 48, 49, 50, 51, 52, 53, 54, 55, 56, 57, 58, 59, 60, 61, 62, 63, 64, 65, 66, 67, 68, 69, 70, 71, 72] (by decide +kernel) (by decide +kernel)
set_option maxRecDepth 20000 in
theorem gX11_move_X11_throwsIf : GoodIn wsX11_move (wsV RX11 186 RX11 yX11_throwsIf wsX11_throwsIf) := goodIn_app (goodIn_of _ (by decide +kernel)) ggX11_move_X11_throwsIf
set_option maxRecDepth 20000 in
theorem ggX11_move_X11_in : GoodIn wsX11_move wsX11_in := goodIn_r _ [24] (by decide +kernel) (by decide +kernel)
set_option maxRecDepth 20000 in
theorem gX11_move_X11_in : GoodIn wsX11_move (va_wsS RX11 195 yX11_in wsX11_in) := goodIn_app (goodIn_of _ (by decide +kernel)) ggX11_move_X11_in
theorem dX11_move_0 : decode cX11_move 0 = .ok (.aload_n 0, 1) := by decide +kernel
theorem dX11_move_1 : decode cX11_move 1 = .ok (.iconst 0, 1) := by decide +kernel
theorem dX11_move_2 : decode cX11_move 2 = .ok (.putfield 129, 3) := by decide +kernel
theorem dX11_move_5 : decode cX11_move 5 = .ok (.aload_n 0, 1) := by decide +kernel
theorem dX11_move_6 : decode cX11_move 6 = .ok (.aload_n 0, 1) := by decide +kernel
theorem dX11_move_7 : decode cX11_move 7 = .ok (.iload_n 1, 1) := by decide +kernel
theorem dX11_move_8 : decode cX11_move 8 = .ok (.invokevirtual 212, 3) := by decide +kernel
theorem dX11_move_11 : decode cX11_move 11 = .ok (.ifCond .ne 11, 3) := by decide +kernel
theorem dX11_move_14 : decode cX11_move 14 = .ok (.aload_n 0, 1) := by decide +kernel
theorem dX11_move_15 : decode cX11_move 15 = .ok (.iload_n 2, 1) := by decide +kernel
theorem dX11_move_16 : decode cX11_move 16 = .ok (.invokevirtual 209, 3) := by decide +kernel
theorem dX11_move_19 : decode cX11_move 19 = .ok (.ifCond .eq 7, 3) := by decide +kernel
theorem dX11_move_22 : decode cX11_move 22 = .ok (.iconst 1, 1) := by decide +kernel
theorem dX11_move_23 : decode cX11_move 23 = .ok (.goto 4, 3) := by decide +kernel
theorem dX11_move_26 : decode cX11_move 26 = .ok (.iconst 0, 1) := by decide +kernel
theorem dX11_move_27 : decode cX11_move 27 = .ok (.iconst 1, 1) := by decide +kernel
theorem dX11_move_28 : decode cX11_move 28 = .ok (.invokevirtual 186, 3) := by decide +kernel
theorem dX11_move_31 : decode cX11_move 31 = .ok (.ifCond .eq 5, 3) := by decide +kernel
theorem dX11_move_34 : decode cX11_move 34 = .ok (.iconst 0, 1) := by decide +kernel
theorem dX11_move_35 : decode cX11_move 35 = .ok (.ireturn, 1) := by decide +kernel
theorem dX11_move_36 : decode cX11_move 36 = .ok (.aload_n 0, 1) := by decide +kernel
theorem dX11_move_37 : decode cX11_move 37 = .ok (.getfield 54, 3) := by decide +kernel
theorem dX11_move_40 : decode cX11_move 40 = .ok (.iload_n 1, 1) := by decide +kernel
theorem dX11_move_41 : decode cX11_move 41 = .ok (.iaload, 1) := by decide +kernel
theorem dX11_move_42 : decode cX11_move 42 = .ok (.istore 4, 2) := by decide +kernel
theorem dX11_move_44 : decode cX11_move 44 = .ok (.aload_n 0, 1) := by decide +kernel
theorem dX11_move_45 : decode cX11_move 45 = .ok (.iload_n 3, 1) := by decide +kernel
theorem dX11_move_46 : decode cX11_move 46 = .ok (.i2l, 1) := by decide +kernel
theorem dX11_move_47 : decode cX11_move 47 = .ok (.aload_n 0, 1) := by decide +kernel
theorem dX11_move_48 : decode cX11_move 48 = .ok (.getfield 152, 3) := by decide +kernel
theorem dX11_move_51 : decode cX11_move 51 = .ok (.i2l, 1) := by decide +kernel
theorem dX11_move_52 : decode cX11_move 52 = .ok (.ldc2_w 203, 3) := by decide +kernel
theorem dX11_move_55 : decode cX11_move 55 = .ok (.invokestatic 195, 3) := by decide +kernel
theorem dX11_move_58 : decode cX11_move 58 = .ok (.ifCond .eq 21, 3) := by decide +kernel
theorem dX11_move_61 : decode cX11_move 61 = .ok (.iload_n 3, 1) := by decide +kernel
theorem dX11_move_62 : decode cX11_move 62 = .ok (.aload_n 0, 1) := by decide +kernel
theorem dX11_move_63 : decode cX11_move 63 = .ok (.getfield 51, 3) := by decide +kernel
theorem dX11_move_66 : decode cX11_move 66 = .ok (.bipush 8, 2) := by decide +kernel
theorem dX11_move_68 : decode cX11_move 68 = .ok (.iload_n 1, 1) := by decide +kernel
theorem dX11_move_69 : decode cX11_move 69 = .ok (.imul, 1) := by decide +kernel
theorem dX11_move_70 : decode cX11_move 70 = .ok (.iload 4, 2) := by decide +kernel
theorem dX11_move_72 : decode cX11_move 72 = .ok (.iadd, 1) := by decide +kernel
theorem dX11_move_73 : decode cX11_move 73 = .ok (.iconst 1, 1) := by decide +kernel
theorem dX11_move_74 : decode cX11_move 74 = .ok (.isub, 1) := by decide +kernel
theorem dX11_move_75 : decode cX11_move 75 = .ok (.iaload, 1) := by decide +kernel
theorem dX11_move_76 : decode cX11_move 76 = .ok (.if_icmp .ge 7, 3) := by decide +kernel
theorem dX11_move_79 : decode cX11_move 79 = .ok (.iconst 1, 1) := by decide +kernel
theorem dX11_move_80 : decode cX11_move 80 = .ok (.goto 4, 3) := by decide +kernel
theorem dX11_move_83 : decode cX11_move 83 = .ok (.iconst 0, 1) := by decide +kernel
theorem dX11_move_84 : decode cX11_move 84 = .ok (.iconst 2, 1) := by decide +kernel
theorem dX11_move_85 : decode cX11_move 85 = .ok (.invokevirtual 186, 3) := by decide +kernel
theorem dX11_move_88 : decode cX11_move 88 = .ok (.ifCond .ne 23, 3) := by decide +kernel
theorem dX11_move_91 : decode cX11_move 91 = .ok (.aload_n 0, 1) := by decide +kernel
theorem dX11_move_92 : decode cX11_move 92 = .ok (.iload 4, 2) := by decide +kernel
theorem dX11_move_94 : decode cX11_move 94 = .ok (.bipush 8, 2) := by decide +kernel
theorem dX11_move_96 : decode cX11_move 96 = .ok (.if_icmp .ne 7, 3) := by decide +kernel
theorem dX11_move_99 : decode cX11_move 99 = .ok (.iconst 1, 1) := by decide +kernel
theorem dX11_move_100 : decode cX11_move 100 = .ok (.goto 4, 3) := by decide +kernel
theorem dX11_move_103 : decode cX11_move 103 = .ok (.iconst 0, 1) := by decide +kernel
theorem dX11_move_104 : decode cX11_move 104 = .ok (.iconst 3, 1) := by decide +kernel
theorem dX11_move_105 : decode cX11_move 105 = .ok (.invokevirtual 186, 3) := by decide +kernel
theorem dX11_move_108 : decode cX11_move 108 = .ok (.ifCond .eq 5, 3) := by decide +kernel
theorem dX11_move_111 : decode cX11_move 111 = .ok (.iconst 0, 1) := by decide +kernel
theorem dX11_move_112 : decode cX11_move 112 = .ok (.ireturn, 1) := by decide +kernel
theorem dX11_move_113 : decode cX11_move 113 = .ok (.aload_n 0, 1) := by decide +kernel
theorem dX11_move_114 : decode cX11_move 114 = .ok (.getfield 48, 3) := by decide +kernel
theorem dX11_move_117 : decode cX11_move 117 = .ok (.bipush 8, 2) := by decide +kernel
theorem dX11_move_119 : decode cX11_move 119 = .ok (.iload_n 1, 1) := by decide +kernel
theorem dX11_move_120 : decode cX11_move 120 = .ok (.imul, 1) := by decide +kernel
theorem dX11_move_121 : decode cX11_move 121 = .ok (.iload 4, 2) := by decide +kernel
theorem dX11_move_123 : decode cX11_move 123 = .ok (.iadd, 1) := by decide +kernel
theorem dX11_move_124 : decode cX11_move 124 = .ok (.iload_n 2, 1) := by decide +kernel
theorem dX11_move_125 : decode cX11_move 125 = .ok (.iastore, 1) := by decide +kernel
theorem dX11_move_126 : decode cX11_move 126 = .ok (.aload_n 0, 1) := by decide +kernel
theorem dX11_move_127 : decode cX11_move 127 = .ok (.getfield 51, 3) := by decide +kernel
theorem dX11_move_130 : decode cX11_move 130 = .ok (.bipush 8, 2) := by decide +kernel
theorem dX11_move_132 : decode cX11_move 132 = .ok (.iload_n 1, 1) := by decide +kernel
theorem dX11_move_133 : decode cX11_move 133 = .ok (.imul, 1) := by decide +kernel
theorem dX11_move_134 : decode cX11_move 134 = .ok (.iload 4, 2) := by decide +kernel
theorem dX11_move_136 : decode cX11_move 136 = .ok (.iadd, 1) := by decide +kernel
theorem dX11_move_137 : decode cX11_move 137 = .ok (.iload_n 3, 1) := by decide +kernel
theorem dX11_move_138 : decode cX11_move 138 = .ok (.iastore, 1) := by decide +kernel
theorem dX11_move_139 : decode cX11_move 139 = .ok (.aload_n 0, 1) := by decide +kernel
theorem dX11_move_140 : decode cX11_move 140 = .ok (.getfield 54, 3) := by decide +kernel
theorem dX11_move_143 : decode cX11_move 143 = .ok (.iload_n 1, 1) := by decide +kernel
theorem dX11_move_144 : decode cX11_move 144 = .ok (.dup2, 1) := by decide +kernel
theorem dX11_move_145 : decode cX11_move 145 = .ok (.iaload, 1) := by decide +kernel
theorem dX11_move_146 : decode cX11_move 146 = .ok (.iconst 1, 1) := by decide +kernel
theorem dX11_move_147 : decode cX11_move 147 = .ok (.iadd, 1) := by decide +kernel
theorem dX11_move_148 : decode cX11_move 148 = .ok (.iastore, 1) := by decide +kernel
theorem dX11_move_149 : decode cX11_move 149 = .ok (.aload_n 0, 1) := by decide +kernel
theorem dX11_move_150 : decode cX11_move 150 = .ok (.getfield 54, 3) := by decide +kernel
theorem dX11_move_153 : decode cX11_move 153 = .ok (.iload_n 1, 1) := by decide +kernel
theorem dX11_move_154 : decode cX11_move 154 = .ok (.iaload, 1) := by decide +kernel
theorem dX11_move_155 : decode cX11_move 155 = .ok (.ireturn, 1) := by decide +kernel
set_option maxRecDepth 20000 in
theorem ggX11_part_X11_noBin : GoodIn wsX11_part wsX11_noBin := goodIn_r _ [14, 15, 28, 29, 30, 31, 32, 33, 34, 35, 36, 37, 38, 39, 40, 41, 42, 43, 44, 45, 46, 47, 48, 49, 50, 51, 52, 53, 54, 55, 56, 57, 58, 59, 60, 61, 62, 63, 64, 65, 66, 67, 68, 69, 70, 71, 72, 73, 74, 75] (by decide +kernel) (by decide +kernel)
set_option maxRecDepth 20000 in
theorem gX11_part_X11_noBin : GoodIn wsX11_part (wsV RX11 212 RX11 yX11_noBin wsX11_noBin) := goodIn_app (goodIn_of _ (by decide +kernel)) ggX11_part_X11_noBin
set_option maxRecDepth 20000 in
theorem ggX11_part_X11_noHouse : GoodIn wsX11_part wsX11_noHouse := goodIn_r _ [19, 20, 28, 29, 30, 31, 32, 33, 34, 35, 36, 37, 38, 39, 40, 41, 42, 43, 44, 45, 46, 47, 48, 49, 50, 51, 52, 53, 54, 55, 56, 57, 58, 59, 60, 61, 62, 63, 64, 65, 66, 67, 68, 69, 70, 71, 72, 73, 74, 75] (by decide +kernel) (by decide +kernel)
set_option maxRecDepth 20000 in
theorem gX11_part_X11_noHouse : GoodIn wsX11_part (wsV RX11 209 RX11 yX11_noHouse wsX11_noHouse) := goodIn_app (goodIn_of _ (by decide +kernel)) ggX11_part_X11_noHouse
set_option maxRecDepth 20000 in
theorem ggX11_part_X11_throwsIf : GoodIn wsX11_part wsX11_throwsIf := goodIn_r _ [24, 1, 28, 29, 30, 31, 32, 33, 34, 35, 36, 37, 38, 39, 40, 41, 42, 43, 44, 45, 46, 47, 48, 49, 50, 51, 52, 53, 54, 55, 56, 57, 58, 59, 60, 61, 62, 63, 64, 65, 66, 67, 68, 69, 70, 71, 72, 73, 74, 75] (by decide +kernel) (by decide +kernel)
set_option maxRecDepth 20000 in
theorem gX11_part_X11_throwsIf : GoodIn wsX11_part (wsV RX11 186 RX11 yX11_throwsIf wsX11_throwsIf) := goodIn_app (goodIn_of _ (by decide +kernel)) ggX11_part_X11_throwsIf
set_option maxRecDepth 20000 in
theorem ggX11_part_X11_in : GoodIn wsX11_part wsX11_in := goodIn_r _ [27] (by decide +kernel) (by decide +kernel)
set_option maxRecDepth 20000 in
theorem gX11_part_X11_in : GoodIn wsX11_part (va_wsS RX11 195 yX11_in wsX11_in) := goodIn_app (goodIn_of _ (by decide +kernel)) ggX11_part_X11_in
theorem dX11_part_0 : decode cX11_part 0 = .ok (.aload_n 0, 1) := by decide +kernel
theorem dX11_part_1 : decode cX11_part 1 = .ok (.iconst 0, 1) := by decide +kernel
theorem dX11_part_2 : decode cX11_part 2 = .ok (.putfield 129, 3) := by decide +kernel
theorem dX11_part_5 : decode cX11_part 5 = .ok (.aload_n 0, 1) := by decide +kernel
theorem dX11_part_6 : decode cX11_part 6 = .ok (.aload_n 0, 1) := by decide +kernel
theorem dX11_part_7 : decode cX11_part 7 = .ok (.iload_n 1, 1) := by decide +kernel
theorem dX11_part_8 : decode cX11_part 8 = .ok (.invokevirtual 212, 3) := by decide +kernel
theorem dX11_part_11 : decode cX11_part 11 = .ok (.ifCond .ne 11, 3) := by decide +kernel
theorem dX11_part_14 : decode cX11_part 14 = .ok (.aload_n 0, 1) := by decide +kernel
theorem dX11_part_15 : decode cX11_part 15 = .ok (.iload_n 2, 1) := by decide +kernel
theorem dX11_part_16 : decode cX11_part 16 = .ok (.invokevirtual 209, 3) := by decide +kernel
theorem dX11_part_19 : decode cX11_part 19 = .ok (.ifCond .eq 7, 3) := by decide +kernel
theorem dX11_part_22 : decode cX11_part 22 = .ok (.iconst 1, 1) := by decide +kernel
theorem dX11_part_23 : decode cX11_part 23 = .ok (.goto 4, 3) := by decide +kernel
theorem dX11_part_26 : decode cX11_part 26 = .ok (.iconst 0, 1) := by decide +kernel
theorem dX11_part_27 : decode cX11_part 27 = .ok (.iconst 1, 1) := by decide +kernel
theorem dX11_part_28 : decode cX11_part 28 = .ok (.invokevirtual 186, 3) := by decide +kernel
theorem dX11_part_31 : decode cX11_part 31 = .ok (.ifCond .eq 5, 3) := by decide +kernel
theorem dX11_part_34 : decode cX11_part 34 = .ok (.iconst 0, 1) := by decide +kernel
theorem dX11_part_35 : decode cX11_part 35 = .ok (.ireturn, 1) := by decide +kernel
theorem dX11_part_36 : decode cX11_part 36 = .ok (.aload_n 0, 1) := by decide +kernel
theorem dX11_part_37 : decode cX11_part 37 = .ok (.getfield 66, 3) := by decide +kernel
theorem dX11_part_40 : decode cX11_part 40 = .ok (.iload_n 1, 1) := by decide +kernel
theorem dX11_part_41 : decode cX11_part 41 = .ok (.iaload, 1) := by decide +kernel
theorem dX11_part_42 : decode cX11_part 42 = .ok (.istore 5, 2) := by decide +kernel
theorem dX11_part_44 : decode cX11_part 44 = .ok (.aload_n 0, 1) := by decide +kernel
theorem dX11_part_45 : decode cX11_part 45 = .ok (.getfield 36, 3) := by decide +kernel
theorem dX11_part_48 : decode cX11_part 48 = .ok (.iload_n 1, 1) := by decide +kernel
theorem dX11_part_49 : decode cX11_part 49 = .ok (.iaload, 1) := by decide +kernel
theorem dX11_part_50 : decode cX11_part 50 = .ok (.iconst 3, 1) := by decide +kernel
theorem dX11_part_51 : decode cX11_part 51 = .ok (.if_icmp .ne 60, 3) := by decide +kernel
theorem dX11_part_54 : decode cX11_part 54 = .ok (.iload_n 3, 1) := by decide +kernel
theorem dX11_part_55 : decode cX11_part 55 = .ok (.i2l, 1) := by decide +kernel
theorem dX11_part_56 : decode cX11_part 56 = .ok (.lconst 0, 1) := by decide +kernel
theorem dX11_part_57 : decode cX11_part 57 = .ok (.ldc2_w 159, 3) := by decide +kernel
theorem dX11_part_60 : decode cX11_part 60 = .ok (.invokestatic 195, 3) := by decide +kernel
theorem dX11_part_63 : decode cX11_part 63 = .ok (.ifCond .eq 48, 3) := by decide +kernel
theorem dX11_part_66 : decode cX11_part 66 = .ok (.iload 4, 2) := by decide +kernel
theorem dX11_part_68 : decode cX11_part 68 = .ok (.i2l, 1) := by decide +kernel
theorem dX11_part_69 : decode cX11_part 69 = .ok (.aload_n 0, 1) := by decide +kernel
theorem dX11_part_70 : decode cX11_part 70 = .ok (.getfield 152, 3) := by decide +kernel
theorem dX11_part_73 : decode cX11_part 73 = .ok (.i2l, 1) := by decide +kernel
theorem dX11_part_74 : decode cX11_part 74 = .ok (.ldc2_w 203, 3) := by decide +kernel
theorem dX11_part_77 : decode cX11_part 77 = .ok (.invokestatic 195, 3) := by decide +kernel
theorem dX11_part_80 : decode cX11_part 80 = .ok (.ifCond .eq 31, 3) := by decide +kernel
theorem dX11_part_83 : decode cX11_part 83 = .ok (.iload 5, 2) := by decide +kernel
theorem dX11_part_85 : decode cX11_part 85 = .ok (.ifCond .eq 22, 3) := by decide +kernel
theorem dX11_part_88 : decode cX11_part 88 = .ok (.iload 4, 2) := by decide +kernel
theorem dX11_part_90 : decode cX11_part 90 = .ok (.aload_n 0, 1) := by decide +kernel
theorem dX11_part_91 : decode cX11_part 91 = .ok (.getfield 63, 3) := by decide +kernel
theorem dX11_part_94 : decode cX11_part 94 = .ok (.bipush 20, 2) := by decide +kernel
theorem dX11_part_96 : decode cX11_part 96 = .ok (.iload_n 1, 1) := by decide +kernel
theorem dX11_part_97 : decode cX11_part 97 = .ok (.imul, 1) := by decide +kernel
theorem dX11_part_98 : decode cX11_part 98 = .ok (.iload 5, 2) := by decide +kernel
theorem dX11_part_100 : decode cX11_part 100 = .ok (.iadd, 1) := by decide +kernel
theorem dX11_part_101 : decode cX11_part 101 = .ok (.iconst 1, 1) := by decide +kernel
theorem dX11_part_102 : decode cX11_part 102 = .ok (.isub, 1) := by decide +kernel
theorem dX11_part_103 : decode cX11_part 103 = .ok (.iaload, 1) := by decide +kernel
theorem dX11_part_104 : decode cX11_part 104 = .ok (.if_icmp .lt 7, 3) := by decide +kernel
theorem dX11_part_107 : decode cX11_part 107 = .ok (.iconst 1, 1) := by decide +kernel
theorem dX11_part_108 : decode cX11_part 108 = .ok (.goto 4, 3) := by decide +kernel
theorem dX11_part_111 : decode cX11_part 111 = .ok (.iconst 0, 1) := by decide +kernel
theorem dX11_part_112 : decode cX11_part 112 = .ok (.istore 6, 2) := by decide +kernel
theorem dX11_part_114 : decode cX11_part 114 = .ok (.aload_n 0, 1) := by decide +kernel
theorem dX11_part_115 : decode cX11_part 115 = .ok (.iload 6, 2) := by decide +kernel
theorem dX11_part_117 : decode cX11_part 117 = .ok (.ifCond .ne 7, 3) := by decide +kernel
theorem dX11_part_120 : decode cX11_part 120 = .ok (.iconst 1, 1) := by decide +kernel
theorem dX11_part_121 : decode cX11_part 121 = .ok (.goto 4, 3) := by decide +kernel
theorem dX11_part_124 : decode cX11_part 124 = .ok (.iconst 0, 1) := by decide +kernel
theorem dX11_part_125 : decode cX11_part 125 = .ok (.iconst 2, 1) := by decide +kernel
theorem dX11_part_126 : decode cX11_part 126 = .ok (.invokevirtual 186, 3) := by decide +kernel
theorem dX11_part_129 : decode cX11_part 129 = .ok (.ifCond .ne 23, 3) := by decide +kernel
theorem dX11_part_132 : decode cX11_part 132 = .ok (.aload_n 0, 1) := by decide +kernel
theorem dX11_part_133 : decode cX11_part 133 = .ok (.iload 5, 2) := by decide +kernel
theorem dX11_part_135 : decode cX11_part 135 = .ok (.bipush 20, 2) := by decide +kernel
theorem dX11_part_137 : decode cX11_part 137 = .ok (.if_icmp .ne 7, 3) := by decide +kernel
theorem dX11_part_140 : decode cX11_part 140 = .ok (.iconst 1, 1) := by decide +kernel
theorem dX11_part_141 : decode cX11_part 141 = .ok (.goto 4, 3) := by decide +kernel
theorem dX11_part_144 : decode cX11_part 144 = .ok (.iconst 0, 1) := by decide +kernel
theorem dX11_part_145 : decode cX11_part 145 = .ok (.iconst 3, 1) := by decide +kernel
theorem dX11_part_146 : decode cX11_part 146 = .ok (.invokevirtual 186, 3) := by decide +kernel
theorem dX11_part_149 : decode cX11_part 149 = .ok (.ifCond .eq 5, 3) := by decide +kernel
theorem dX11_part_152 : decode cX11_part 152 = .ok (.iconst 0, 1) := by decide +kernel
theorem dX11_part_153 : decode cX11_part 153 = .ok (.ireturn, 1) := by decide +kernel
theorem dX11_part_154 : decode cX11_part 154 = .ok (.aload_n 0, 1) := by decide +kernel
theorem dX11_part_155 : decode cX11_part 155 = .ok (.getfield 57, 3) := by decide +kernel
theorem dX11_part_158 : decode cX11_part 158 = .ok (.bipush 20, 2) := by decide +kernel
theorem dX11_part_160 : decode cX11_part 160 = .ok (.iload_n 1, 1) := by decide +kernel
theorem dX11_part_161 : decode cX11_part 161 = .ok (.imul, 1) := by decide +kernel
theorem dX11_part_162 : decode cX11_part 162 = .ok (.iload 5, 2) := by decide +kernel
theorem dX11_part_164 : decode cX11_part 164 = .ok (.iadd, 1) := by decide +kernel
theorem dX11_part_165 : decode cX11_part 165 = .ok (.iload_n 2, 1) := by decide +kernel
theorem dX11_part_166 : decode cX11_part 166 = .ok (.iastore, 1) := by decide +kernel
theorem dX11_part_167 : decode cX11_part 167 = .ok (.aload_n 0, 1) := by decide +kernel
theorem dX11_part_168 : decode cX11_part 168 = .ok (.getfield 60, 3) := by decide +kernel
theorem dX11_part_171 : decode cX11_part 171 = .ok (.bipush 20, 2) := by decide +kernel
theorem dX11_part_173 : decode cX11_part 173 = .ok (.iload_n 1, 1) := by decide +kernel
theorem dX11_part_174 : decode cX11_part 174 = .ok (.imul, 1) := by decide +kernel
theorem dX11_part_175 : decode cX11_part 175 = .ok (.iload 5, 2) := by decide +kernel
theorem dX11_part_177 : decode cX11_part 177 = .ok (.iadd, 1) := by decide +kernel
theorem dX11_part_178 : decode cX11_part 178 = .ok (.iload_n 3, 1) := by decide +kernel
theorem dX11_part_179 : decode cX11_part 179 = .ok (.iastore, 1) := by decide +kernel
theorem dX11_part_180 : decode cX11_part 180 = .ok (.aload_n 0, 1) := by decide +kernel
theorem dX11_part_181 : decode cX11_part 181 = .ok (.getfield 63, 3) := by decide +kernel
theorem dX11_part_184 : decode cX11_part 184 = .ok (.bipush 20, 2) := by decide +kernel
theorem dX11_part_186 : decode cX11_part 186 = .ok (.iload_n 1, 1) := by decide +kernel
theorem dX11_part_187 : decode cX11_part 187 = .ok (.imul, 1) := by decide +kernel
theorem dX11_part_188 : decode cX11_part 188 = .ok (.iload 5, 2) := by decide +kernel
theorem dX11_part_190 : decode cX11_part 190 = .ok (.iadd, 1) := by decide +kernel
theorem dX11_part_191 : decode cX11_part 191 = .ok (.iload 4, 2) := by decide +kernel
theorem dX11_part_193 : decode cX11_part 193 = .ok (.iastore, 1) := by decide +kernel
theorem dX11_part_194 : decode cX11_part 194 = .ok (.aload_n 0, 1) := by decide +kernel
theorem dX11_part_195 : decode cX11_part 195 = .ok (.getfield 66, 3) := by decide +kernel
theorem dX11_part_198 : decode cX11_part 198 = .ok (.iload_n 1, 1) := by decide +kernel
theorem dX11_part_199 : decode cX11_part 199 = .ok (.dup2, 1) := by decide +kernel
theorem dX11_part_200 : decode cX11_part 200 = .ok (.iaload, 1) := by decide +kernel
theorem dX11_part_201 : decode cX11_part 201 = .ok (.iconst 1, 1) := by decide +kernel
theorem dX11_part_202 : decode cX11_part 202 = .ok (.iadd, 1) := by decide +kernel
theorem dX11_part_203 : decode cX11_part 203 = .ok (.iastore, 1) := by decide +kernel
theorem dX11_part_204 : decode cX11_part 204 = .ok (.aload_n 0, 1) := by decide +kernel
theorem dX11_part_205 : decode cX11_part 205 = .ok (.getfield 66, 3) := by decide +kernel
theorem dX11_part_208 : decode cX11_part 208 = .ok (.iload_n 1, 1) := by decide +kernel
theorem dX11_part_209 : decode cX11_part 209 = .ok (.iaload, 1) := by decide +kernel
theorem dX11_part_210 : decode cX11_part 210 = .ok (.ireturn, 1) := by decide +kernel
set_option maxRecDepth 20000 in
theorem ggX11_cart_X11_in : GoodIn wsX11_cart wsX11_in := goodIn_r _ [9] (by decide +kernel) (by decide +kernel)
set_option maxRecDepth 20000 in
theorem gX11_cart_X11_in : GoodIn wsX11_cart (va_wsS RX11 195 yX11_in wsX11_in) := goodIn_app (goodIn_of _ (by decide +kernel)) ggX11_cart_X11_in
set_option maxRecDepth 20000 in
theorem ggX11_cart_X11_throwsIf : GoodIn wsX11_cart wsX11_throwsIf := goodIn_r _ [13, 1, 14, 15, 16, 17, 18, 19, 20, 21, 22, 23, 24, 25, 26, 27, 28, 29, 30, 31, 32, 33, 34, 35, 36, 37, 38, 39, 40, 41, 42, 43, 44, 45, 46, 47, 48, 49, 50, 51, 52, 53, 54, 55, 56, 57, 58, 59, 60, 61] (by decide +kernel) (by decide +kernel)
set_option maxRecDepth 20000 in
theorem gX11_cart_X11_throwsIf : GoodIn wsX11_cart (wsV RX11 186 RX11 yX11_throwsIf wsX11_throwsIf) := goodIn_app (goodIn_of _ (by decide +kernel)) ggX11_cart_X11_throwsIf
theorem dX11_cart_0 : decode cX11_cart 0 = .ok (.aload_n 0, 1) := by decide +kernel
theorem dX11_cart_1 : decode cX11_cart 1 = .ok (.iconst 0, 1) := by decide +kernel
theorem dX11_cart_2 : decode cX11_cart 2 = .ok (.putfield 129, 3) := by decide +kernel
theorem dX11_cart_5 : decode cX11_cart 5 = .ok (.aload_n 0, 1) := by decide +kernel
theorem dX11_cart_6 : decode cX11_cart 6 = .ok (.iload_n 1, 1) := by decide +kernel
theorem dX11_cart_7 : decode cX11_cart 7 = .ok (.i2l, 1) := by decide +kernel
theorem dX11_cart_8 : decode cX11_cart 8 = .ok (.lconst 0, 1) := by decide +kernel
theorem dX11_cart_9 : decode cX11_cart 9 = .ok (.ldc2_w 218, 3) := by decide +kernel
theorem dX11_cart_12 : decode cX11_cart 12 = .ok (.invokestatic 195, 3) := by decide +kernel
theorem dX11_cart_15 : decode cX11_cart 15 = .ok (.ifCond .ne 7, 3) := by decide +kernel
theorem dX11_cart_18 : decode cX11_cart 18 = .ok (.iconst 1, 1) := by decide +kernel
theorem dX11_cart_19 : decode cX11_cart 19 = .ok (.goto 4, 3) := by decide +kernel
theorem dX11_cart_22 : decode cX11_cart 22 = .ok (.iconst 0, 1) := by decide +kernel
theorem dX11_cart_23 : decode cX11_cart 23 = .ok (.iconst 1, 1) := by decide +kernel
theorem dX11_cart_24 : decode cX11_cart 24 = .ok (.invokevirtual 186, 3) := by decide +kernel
theorem dX11_cart_27 : decode cX11_cart 27 = .ok (.ifCond .ne 24, 3) := by decide +kernel
theorem dX11_cart_30 : decode cX11_cart 30 = .ok (.aload_n 0, 1) := by decide +kernel
theorem dX11_cart_31 : decode cX11_cart 31 = .ok (.aload_n 0, 1) := by decide +kernel
theorem dX11_cart_32 : decode cX11_cart 32 = .ok (.getfield 142, 3) := by decide +kernel
theorem dX11_cart_35 : decode cX11_cart 35 = .ok (.iconst 5, 1) := by decide +kernel
theorem dX11_cart_36 : decode cX11_cart 36 = .ok (.if_icmp .ne 7, 3) := by decide +kernel
theorem dX11_cart_39 : decode cX11_cart 39 = .ok (.iconst 1, 1) := by decide +kernel
theorem dX11_cart_40 : decode cX11_cart 40 = .ok (.goto 4, 3) := by decide +kernel
theorem dX11_cart_43 : decode cX11_cart 43 = .ok (.iconst 0, 1) := by decide +kernel
theorem dX11_cart_44 : decode cX11_cart 44 = .ok (.iconst 2, 1) := by decide +kernel
theorem dX11_cart_45 : decode cX11_cart 45 = .ok (.invokevirtual 186, 3) := by decide +kernel
theorem dX11_cart_48 : decode cX11_cart 48 = .ok (.ifCond .eq 5, 3) := by decide +kernel
theorem dX11_cart_51 : decode cX11_cart 51 = .ok (.iconst 0, 1) := by decide +kernel
theorem dX11_cart_52 : decode cX11_cart 52 = .ok (.ireturn, 1) := by decide +kernel
theorem dX11_cart_53 : decode cX11_cart 53 = .ok (.aload_n 0, 1) := by decide +kernel
theorem dX11_cart_54 : decode cX11_cart 54 = .ok (.getfield 69, 3) := by decide +kernel
theorem dX11_cart_57 : decode cX11_cart 57 = .ok (.aload_n 0, 1) := by decide +kernel
theorem dX11_cart_58 : decode cX11_cart 58 = .ok (.getfield 142, 3) := by decide +kernel
theorem dX11_cart_61 : decode cX11_cart 61 = .ok (.iload_n 1, 1) := by decide +kernel
theorem dX11_cart_62 : decode cX11_cart 62 = .ok (.iastore, 1) := by decide +kernel
theorem dX11_cart_63 : decode cX11_cart 63 = .ok (.aload_n 0, 1) := by decide +kernel
theorem dX11_cart_64 : decode cX11_cart 64 = .ok (.getfield 75, 3) := by decide +kernel
theorem dX11_cart_67 : decode cX11_cart 67 = .ok (.aload_n 0, 1) := by decide +kernel
theorem dX11_cart_68 : decode cX11_cart 68 = .ok (.getfield 142, 3) := by decide +kernel
theorem dX11_cart_71 : decode cX11_cart 71 = .ok (.iconst (-1), 1) := by decide +kernel
theorem dX11_cart_72 : decode cX11_cart 72 = .ok (.iastore, 1) := by decide +kernel
theorem dX11_cart_73 : decode cX11_cart 73 = .ok (.aload_n 0, 1) := by decide +kernel
theorem dX11_cart_74 : decode cX11_cart 74 = .ok (.dup, 1) := by decide +kernel
theorem dX11_cart_75 : decode cX11_cart 75 = .ok (.getfield 142, 3) := by decide +kernel
theorem dX11_cart_78 : decode cX11_cart 78 = .ok (.iconst 1, 1) := by decide +kernel
theorem dX11_cart_79 : decode cX11_cart 79 = .ok (.iadd, 1) := by decide +kernel
theorem dX11_cart_80 : decode cX11_cart 80 = .ok (.putfield 142, 3) := by decide +kernel
theorem dX11_cart_83 : decode cX11_cart 83 = .ok (.aload_n 0, 1) := by decide +kernel
theorem dX11_cart_84 : decode cX11_cart 84 = .ok (.getfield 142, 3) := by decide +kernel
theorem dX11_cart_87 : decode cX11_cart 87 = .ok (.iconst 1, 1) := by decide +kernel
theorem dX11_cart_88 : decode cX11_cart 88 = .ok (.isub, 1) := by decide +kernel
theorem dX11_cart_89 : decode cX11_cart 89 = .ok (.ireturn, 1) := by decide +kernel
set_option maxRecDepth 20000 in
theorem ggX11_table_X11_in : GoodIn wsX11_table wsX11_in := goodIn_r _ [9] (by decide +kernel) (by decide +kernel)
set_option maxRecDepth 20000 in
theorem gX11_table_X11_in : GoodIn wsX11_table (va_wsS RX11 195 yX11_in wsX11_in) := goodIn_app (goodIn_of _ (by decide +kernel)) ggX11_table_X11_in
set_option maxRecDepth 20000 in
theorem ggX11_table_X11_throwsIf : GoodIn wsX11_table wsX11_throwsIf := goodIn_r _ [13, 1, 14, 15, 16, 17, 18, 19, 20, 21, 22, 23, 24, 25, 26, 27, 28, 29, 30, 31, 32, 33, 34, 35, 36, 37, 38, 39, 40, 41, 42, 43, 44, 45, 46, 47, 48, 49, 50, 51, 52, 53, 54, 55, 56, 57, 58, 59, 60, 61] (by decide +kernel) (by decide +kernel)
set_option maxRecDepth 20000 in
theorem gX11_table_X11_throwsIf : GoodIn wsX11_table (wsV RX11 186 RX11 yX11_throwsIf wsX11_throwsIf) := goodIn_app (goodIn_of _ (by decide +kernel)) ggX11_table_X11_throwsIf
theorem dX11_table_0 : decode cX11_table 0 = .ok (.aload_n 0, 1) := by decide +kernel
theorem dX11_table_1 : decode cX11_table 1 = .ok (.iconst 0, 1) := by decide +kernel
theorem dX11_table_2 : decode cX11_table 2 = .ok (.putfield 129, 3) := by decide +kernel
theorem dX11_table_5 : decode cX11_table 5 = .ok (.aload_n 0, 1) := by decide +kernel
theorem dX11_table_6 : decode cX11_table 6 = .ok (.iload_n 1, 1) := by decide +kernel
theorem dX11_table_7 : decode cX11_table 7 = .ok (.i2l, 1) := by decide +kernel
theorem dX11_table_8 : decode cX11_table 8 = .ok (.lconst 0, 1) := by decide +kernel
theorem dX11_table_9 : decode cX11_table 9 = .ok (.ldc2_w 199, 3) := by decide +kernel
theorem dX11_table_12 : decode cX11_table 12 = .ok (.invokestatic 195, 3) := by decide +kernel
theorem dX11_table_15 : decode cX11_table 15 = .ok (.ifCond .eq 32, 3) := by decide +kernel
theorem dX11_table_18 : decode cX11_table 18 = .ok (.iload_n 1, 1) := by decide +kernel
theorem dX11_table_19 : decode cX11_table 19 = .ok (.iconst 2, 1) := by decide +kernel
theorem dX11_table_20 : decode cX11_table 20 = .ok (.if_icmp .eq 27, 3) := by decide +kernel
theorem dX11_table_23 : decode cX11_table 23 = .ok (.iload_n 2, 1) := by decide +kernel
theorem dX11_table_24 : decode cX11_table 24 = .ok (.i2l, 1) := by decide +kernel
theorem dX11_table_25 : decode cX11_table 25 = .ok (.lconst 0, 1) := by decide +kernel
theorem dX11_table_26 : decode cX11_table 26 = .ok (.ldc2_w 218, 3) := by decide +kernel
theorem dX11_table_29 : decode cX11_table 29 = .ok (.invokestatic 195, 3) := by decide +kernel
theorem dX11_table_32 : decode cX11_table 32 = .ok (.ifCond .eq 15, 3) := by decide +kernel
theorem dX11_table_35 : decode cX11_table 35 = .ok (.iload_n 3, 1) := by decide +kernel
theorem dX11_table_36 : decode cX11_table 36 = .ok (.i2l, 1) := by decide +kernel
theorem dX11_table_37 : decode cX11_table 37 = .ok (.lconst 0, 1) := by decide +kernel
theorem dX11_table_38 : decode cX11_table 38 = .ok (.ldc2_w 218, 3) := by decide +kernel
theorem dX11_table_41 : decode cX11_table 41 = .ok (.invokestatic 195, 3) := by decide +kernel
theorem dX11_table_44 : decode cX11_table 44 = .ok (.ifCond .ne 7, 3) := by decide +kernel
theorem dX11_table_47 : decode cX11_table 47 = .ok (.iconst 1, 1) := by decide +kernel
theorem dX11_table_48 : decode cX11_table 48 = .ok (.goto 4, 3) := by decide +kernel
theorem dX11_table_51 : decode cX11_table 51 = .ok (.iconst 0, 1) := by decide +kernel
theorem dX11_table_52 : decode cX11_table 52 = .ok (.iconst 1, 1) := by decide +kernel
theorem dX11_table_53 : decode cX11_table 53 = .ok (.invokevirtual 186, 3) := by decide +kernel
theorem dX11_table_56 : decode cX11_table 56 = .ok (.ifCond .eq 4, 3) := by decide +kernel
theorem dX11_table_59 : decode cX11_table 59 = .ok (.return_, 1) := by decide +kernel
theorem dX11_table_60 : decode cX11_table 60 = .ok (.aload_n 0, 1) := by decide +kernel
theorem dX11_table_61 : decode cX11_table 61 = .ok (.getfield 78, 3) := by decide +kernel
theorem dX11_table_64 : decode cX11_table 64 = .ok (.iload_n 1, 1) := by decide +kernel
theorem dX11_table_65 : decode cX11_table 65 = .ok (.iload_n 2, 1) := by decide +kernel
theorem dX11_table_66 : decode cX11_table 66 = .ok (.iastore, 1) := by decide +kernel
theorem dX11_table_67 : decode cX11_table 67 = .ok (.aload_n 0, 1) := by decide +kernel
theorem dX11_table_68 : decode cX11_table 68 = .ok (.getfield 81, 3) := by decide +kernel
theorem dX11_table_71 : decode cX11_table 71 = .ok (.iload_n 1, 1) := by decide +kernel
theorem dX11_table_72 : decode cX11_table 72 = .ok (.iload_n 3, 1) := by decide +kernel
theorem dX11_table_73 : decode cX11_table 73 = .ok (.iastore, 1) := by decide +kernel
theorem dX11_table_74 : decode cX11_table 74 = .ok (.return_, 1) := by decide +kernel
set_option maxRecDepth 20000 in
theorem ggX11_terms_X11_in : GoodIn wsX11_terms wsX11_in := goodIn_r _ [9] (by decide +kernel) (by decide +kernel)
set_option maxRecDepth 20000 in
theorem gX11_terms_X11_in : GoodIn wsX11_terms (va_wsS RX11 195 yX11_in wsX11_in) := goodIn_app (goodIn_of _ (by decide +kernel)) ggX11_terms_X11_in
set_option maxRecDepth 20000 in
theorem ggX11_terms_X11_throwsIf : GoodIn wsX11_terms wsX11_throwsIf := goodIn_r _ [13, 1, 14, 15, 16, 17, 18, 19, 20, 21, 22, 23, 24, 25, 26, 27, 28, 29, 30, 31, 32, 33, 34, 35, 36, 37, 38, 39, 40, 41, 42, 43, 44, 45, 46, 47, 48, 49, 50, 51, 52, 53, 54, 55, 56, 57, 58, 59, 60, 61] (by decide +kernel) (by decide +kernel)
set_option maxRecDepth 20000 in
theorem gX11_terms_X11_throwsIf : GoodIn wsX11_terms (wsV RX11 186 RX11 yX11_throwsIf wsX11_throwsIf) := goodIn_app (goodIn_of _ (by decide +kernel)) ggX11_terms_X11_throwsIf
theorem dX11_terms_0 : decode cX11_terms 0 = .ok (.aload_n 0, 1) := by decide +kernel
theorem dX11_terms_1 : decode cX11_terms 1 = .ok (.iconst 0, 1) := by decide +kernel
theorem dX11_terms_2 : decode cX11_terms 2 = .ok (.putfield 129, 3) := by decide +kernel
theorem dX11_terms_5 : decode cX11_terms 5 = .ok (.aload_n 0, 1) := by decide +kernel
theorem dX11_terms_6 : decode cX11_terms 6 = .ok (.iload_n 1, 1) := by decide +kernel
theorem dX11_terms_7 : decode cX11_terms 7 = .ok (.i2l, 1) := by decide +kernel
theorem dX11_terms_8 : decode cX11_terms 8 = .ok (.lconst 0, 1) := by decide +kernel
theorem dX11_terms_9 : decode cX11_terms 9 = .ok (.ldc2_w 218, 3) := by decide +kernel
theorem dX11_terms_12 : decode cX11_terms 12 = .ok (.invokestatic 195, 3) := by decide +kernel
theorem dX11_terms_15 : decode cX11_terms 15 = .ok (.ifCond .eq 15, 3) := by decide +kernel
theorem dX11_terms_18 : decode cX11_terms 18 = .ok (.iload_n 2, 1) := by decide +kernel
theorem dX11_terms_19 : decode cX11_terms 19 = .ok (.i2l, 1) := by decide +kernel
theorem dX11_terms_20 : decode cX11_terms 20 = .ok (.lconst 0, 1) := by decide +kernel
theorem dX11_terms_21 : decode cX11_terms 21 = .ok (.ldc2_w 159, 3) := by decide +kernel
theorem dX11_terms_24 : decode cX11_terms 24 = .ok (.invokestatic 195, 3) := by decide +kernel
theorem dX11_terms_27 : decode cX11_terms 27 = .ok (.ifCond .ne 7, 3) := by decide +kernel
theorem dX11_terms_30 : decode cX11_terms 30 = .ok (.iconst 1, 1) := by decide +kernel
theorem dX11_terms_31 : decode cX11_terms 31 = .ok (.goto 4, 3) := by decide +kernel
theorem dX11_terms_34 : decode cX11_terms 34 = .ok (.iconst 0, 1) := by decide +kernel
theorem dX11_terms_35 : decode cX11_terms 35 = .ok (.iconst 1, 1) := by decide +kernel
theorem dX11_terms_36 : decode cX11_terms 36 = .ok (.invokevirtual 186, 3) := by decide +kernel
theorem dX11_terms_39 : decode cX11_terms 39 = .ok (.ifCond .eq 4, 3) := by decide +kernel
theorem dX11_terms_42 : decode cX11_terms 42 = .ok (.return_, 1) := by decide +kernel
theorem dX11_terms_43 : decode cX11_terms 43 = .ok (.aload_n 0, 1) := by decide +kernel
theorem dX11_terms_44 : decode cX11_terms 44 = .ok (.iload_n 1, 1) := by decide +kernel
theorem dX11_terms_45 : decode cX11_terms 45 = .ok (.putfield 220, 3) := by decide +kernel
theorem dX11_terms_48 : decode cX11_terms 48 = .ok (.aload_n 0, 1) := by decide +kernel
theorem dX11_terms_49 : decode cX11_terms 49 = .ok (.iload_n 2, 1) := by decide +kernel
theorem dX11_terms_50 : decode cX11_terms 50 = .ok (.putfield 161, 3) := by decide +kernel
theorem dX11_terms_53 : decode cX11_terms 53 = .ok (.return_, 1) := by decide +kernel
set_option maxRecDepth 20000 in
theorem ggX11_band_X11_noHouse : GoodIn wsX11_band wsX11_noHouse := goodIn_r _ [10, 11, 19, 20, 21, 22, 23, 24, 25, 26, 27, 28, 29, 30, 31, 32, 33, 34, 35, 36, 37, 38, 39, 40, 41, 42, 43, 44, 45, 46, 47, 48, 49, 50, 51, 52, 53, 54, 55, 56, 57, 58, 59, 60, 61, 62, 63, 64, 65, 66] (by decide +kernel) (by decide +kernel)
set_option maxRecDepth 20000 in
theorem gX11_band_X11_noHouse : GoodIn wsX11_band (wsV RX11 209 RX11 yX11_noHouse wsX11_noHouse) := goodIn_app (goodIn_of _ (by decide +kernel)) ggX11_band_X11_noHouse
set_option maxRecDepth 20000 in
theorem ggX11_band_X11_throwsIf : GoodIn wsX11_band wsX11_throwsIf := goodIn_r _ [15, 1, 19, 20, 21, 22, 23, 24, 25, 26, 27, 28, 29, 30, 31, 32, 33, 34, 35, 36, 37, 38, 39, 40, 41, 42, 43, 44, 45, 46, 47, 48, 49, 50, 51, 52, 53, 54, 55, 56, 57, 58, 59, 60, 61, 62, 63, 64, 65, 66] (by decide +kernel) (by decide +kernel)
set_option maxRecDepth 20000 in
theorem gX11_band_X11_throwsIf : GoodIn wsX11_band (wsV RX11 186 RX11 yX11_throwsIf wsX11_throwsIf) := goodIn_app (goodIn_of _ (by decide +kernel)) ggX11_band_X11_throwsIf
set_option maxRecDepth 20000 in
theorem ggX11_band_X11_in : GoodIn wsX11_band wsX11_in := goodIn_r _ [18] (by decide +kernel) (by decide +kernel)
set_option maxRecDepth 20000 in
theorem gX11_band_X11_in : GoodIn wsX11_band (va_wsS RX11 195 yX11_in wsX11_in) := goodIn_app (goodIn_of _ (by decide +kernel)) ggX11_band_X11_in
theorem dX11_band_0 : decode cX11_band 0 = .ok (.aload_n 0, 1) := by decide +kernel
theorem dX11_band_1 : decode cX11_band 1 = .ok (.iconst 0, 1) := by decide +kernel
theorem dX11_band_2 : decode cX11_band 2 = .ok (.putfield 129, 3) := by decide +kernel
theorem dX11_band_5 : decode cX11_band 5 = .ok (.aload_n 0, 1) := by decide +kernel
theorem dX11_band_6 : decode cX11_band 6 = .ok (.aload_n 0, 1) := by decide +kernel
theorem dX11_band_7 : decode cX11_band 7 = .ok (.iload_n 1, 1) := by decide +kernel
theorem dX11_band_8 : decode cX11_band 8 = .ok (.invokevirtual 209, 3) := by decide +kernel
theorem dX11_band_11 : decode cX11_band 11 = .ok (.iconst 1, 1) := by decide +kernel
theorem dX11_band_12 : decode cX11_band 12 = .ok (.invokevirtual 186, 3) := by decide +kernel
theorem dX11_band_15 : decode cX11_band 15 = .ok (.ifCond .ne 28, 3) := by decide +kernel
theorem dX11_band_18 : decode cX11_band 18 = .ok (.aload_n 0, 1) := by decide +kernel
theorem dX11_band_19 : decode cX11_band 19 = .ok (.iload_n 2, 1) := by decide +kernel
theorem dX11_band_20 : decode cX11_band 20 = .ok (.i2l, 1) := by decide +kernel
theorem dX11_band_21 : decode cX11_band 21 = .ok (.lconst 1, 1) := by decide +kernel
theorem dX11_band_22 : decode cX11_band 22 = .ok (.ldc2_w 159, 3) := by decide +kernel
theorem dX11_band_25 : decode cX11_band 25 = .ok (.invokestatic 195, 3) := by decide +kernel
theorem dX11_band_28 : decode cX11_band 28 = .ok (.ifCond .ne 7, 3) := by decide +kernel
theorem dX11_band_31 : decode cX11_band 31 = .ok (.iconst 1, 1) := by decide +kernel
theorem dX11_band_32 : decode cX11_band 32 = .ok (.goto 4, 3) := by decide +kernel
theorem dX11_band_35 : decode cX11_band 35 = .ok (.iconst 0, 1) := by decide +kernel
theorem dX11_band_36 : decode cX11_band 36 = .ok (.iconst 2, 1) := by decide +kernel
theorem dX11_band_37 : decode cX11_band 37 = .ok (.invokevirtual 186, 3) := by decide +kernel
theorem dX11_band_40 : decode cX11_band 40 = .ok (.ifCond .eq 5, 3) := by decide +kernel
theorem dX11_band_43 : decode cX11_band 43 = .ok (.iconst 0, 1) := by decide +kernel
theorem dX11_band_44 : decode cX11_band 44 = .ok (.ireturn, 1) := by decide +kernel
theorem dX11_band_45 : decode cX11_band 45 = .ok (.aload_n 0, 1) := by decide +kernel
theorem dX11_band_46 : decode cX11_band 46 = .ok (.getfield 23, 3) := by decide +kernel
theorem dX11_band_49 : decode cX11_band 49 = .ok (.iload_n 1, 1) := by decide +kernel
theorem dX11_band_50 : decode cX11_band 50 = .ok (.dup2, 1) := by decide +kernel
theorem dX11_band_51 : decode cX11_band 51 = .ok (.iaload, 1) := by decide +kernel
theorem dX11_band_52 : decode cX11_band 52 = .ok (.iload_n 2, 1) := by decide +kernel
theorem dX11_band_53 : decode cX11_band 53 = .ok (.iadd, 1) := by decide +kernel
theorem dX11_band_54 : decode cX11_band 54 = .ok (.iastore, 1) := by decide +kernel
theorem dX11_band_55 : decode cX11_band 55 = .ok (.aload_n 0, 1) := by decide +kernel
theorem dX11_band_56 : decode cX11_band 56 = .ok (.getfield 26, 3) := by decide +kernel
theorem dX11_band_59 : decode cX11_band 59 = .ok (.iload_n 1, 1) := by decide +kernel
theorem dX11_band_60 : decode cX11_band 60 = .ok (.dup2, 1) := by decide +kernel
theorem dX11_band_61 : decode cX11_band 61 = .ok (.laload, 1) := by decide +kernel
theorem dX11_band_62 : decode cX11_band 62 = .ok (.iload_n 2, 1) := by decide +kernel
theorem dX11_band_63 : decode cX11_band 63 = .ok (.i2l, 1) := by decide +kernel
theorem dX11_band_64 : decode cX11_band 64 = .ok (.aload_n 0, 1) := by decide +kernel
theorem dX11_band_65 : decode cX11_band 65 = .ok (.getfield 220, 3) := by decide +kernel
theorem dX11_band_68 : decode cX11_band 68 = .ok (.i2l, 1) := by decide +kernel
theorem dX11_band_69 : decode cX11_band 69 = .ok (.lmul, 1) := by decide +kernel
theorem dX11_band_70 : decode cX11_band 70 = .ok (.ladd, 1) := by decide +kernel
theorem dX11_band_71 : decode cX11_band 71 = .ok (.lastore, 1) := by decide +kernel
theorem dX11_band_72 : decode cX11_band 72 = .ok (.aload_n 0, 1) := by decide +kernel
theorem dX11_band_73 : decode cX11_band 73 = .ok (.getfield 23, 3) := by decide +kernel
theorem dX11_band_76 : decode cX11_band 76 = .ok (.iload_n 1, 1) := by decide +kernel
theorem dX11_band_77 : decode cX11_band 77 = .ok (.iaload, 1) := by decide +kernel
theorem dX11_band_78 : decode cX11_band 78 = .ok (.ireturn, 1) := by decide +kernel
set_option maxRecDepth 20000 in
theorem ggX11_tip_X11_noCart : GoodIn wsX11_tip wsX11_noCart := goodIn_r _ [22, 23, 40, 41, 42, 43, 44, 45, 46, 47, 48, 49, 50, 51, 52, 53, 54, 55, 56, 57, 58, 59, 60, 61, 62, 63, 64, 65, 66, 67, 68, 69, 70, 71, 72, 73, 74, 75, 76, 77, 78, 79, 80, 81, 82, 83, 84, 85, 86, 87] (by decide +kernel) (by decide +kernel)
set_option maxRecDepth 20000 in
theorem gX11_tip_X11_noCart : GoodIn wsX11_tip (wsV RX11 223 RX11 yX11_noCart wsX11_noCart) := goodIn_app (goodIn_of _ (by decide +kernel)) ggX11_tip_X11_noCart
set_option maxRecDepth 20000 in
theorem ggX11_tip_X11_throwsIf : GoodIn wsX11_tip wsX11_throwsIf := goodIn_r _ [27, 1, 40, 41, 42, 43, 44, 45, 46, 47, 48, 49, 50, 51, 52, 53, 54, 55, 56, 57, 58, 59, 60, 61, 62, 63, 64, 65, 66, 67, 68, 69, 70, 71, 72, 73, 74, 75, 76, 77, 78, 79, 80, 81, 82, 83, 84, 85, 86, 87] (by decide +kernel) (by decide +kernel)
set_option maxRecDepth 20000 in
theorem gX11_tip_X11_throwsIf : GoodIn wsX11_tip (wsV RX11 186 RX11 yX11_throwsIf wsX11_throwsIf) := goodIn_app (goodIn_of _ (by decide +kernel)) ggX11_tip_X11_throwsIf
set_option maxRecDepth 20000 in
theorem ggX11_tip_X11_in : GoodIn wsX11_tip wsX11_in := goodIn_r _ [30] (by decide +kernel) (by decide +kernel)
set_option maxRecDepth 20000 in
theorem gX11_tip_X11_in : GoodIn wsX11_tip (va_wsS RX11 195 yX11_in wsX11_in) := goodIn_app (goodIn_of _ (by decide +kernel)) ggX11_tip_X11_in
set_option maxRecDepth 20000 in
theorem ggX11_tip_X11_bearers : GoodIn wsX11_tip wsX11_bearers := goodIn_r _ [34, 11, 12, 13, 40, 41, 42, 43, 44, 45, 46, 47, 48, 49, 50, 51, 52, 53, 54, 55, 56, 57, 58, 59, 60, 61, 62, 63, 64, 65, 66, 67, 68, 69, 70, 71, 72, 73, 74, 75, 76, 77, 78, 79, 80, 81, 82, 83, 84, 85, 86, 87] (by decide +kernel) (by decide +kernel)
set_option maxRecDepth 20000 in
theorem gX11_tip_X11_bearers : GoodIn wsX11_tip (wsV RX11 215 RX11 yX11_bearers wsX11_bearers) := goodIn_app (goodIn_of _ (by decide +kernel)) ggX11_tip_X11_bearers
set_option maxRecDepth 20000 in
theorem ggX11_tip_X11_middleOf : GoodIn wsX11_tip wsX11_middleOf := goodIn_r _ [38, 4, 10, 15, 39, 16, 40, 41, 42, 43, 44, 45, 46, 47, 48, 49, 50, 51, 52, 53, 54, 55, 56, 57, 58, 59, 60, 61, 62, 63, 64, 65, 66, 67, 68, 69, 70, 71, 72, 73, 74, 75, 76, 77, 78, 79, 80, 81, 82, 83, 84, 85, 86, 87] (by decide +kernel) (by decide +kernel)
set_option maxRecDepth 20000 in
theorem gX11_tip_X11_middleOf : GoodIn wsX11_tip (wsV RX11 230 RX11 yX11_middleOf wsX11_middleOf) := goodIn_app (goodIn_of _ (by decide +kernel)) ggX11_tip_X11_middleOf
theorem dX11_tip_0 : decode cX11_tip 0 = .ok (.aload_n 0, 1) := by decide +kernel
theorem dX11_tip_1 : decode cX11_tip 1 = .ok (.iconst 0, 1) := by decide +kernel
theorem dX11_tip_2 : decode cX11_tip 2 = .ok (.putfield 129, 3) := by decide +kernel
theorem dX11_tip_5 : decode cX11_tip 5 = .ok (.aload_n 0, 1) := by decide +kernel
theorem dX11_tip_6 : decode cX11_tip 6 = .ok (.aload_n 0, 1) := by decide +kernel
theorem dX11_tip_7 : decode cX11_tip 7 = .ok (.iload_n 1, 1) := by decide +kernel
theorem dX11_tip_8 : decode cX11_tip 8 = .ok (.invokevirtual 223, 3) := by decide +kernel
theorem dX11_tip_11 : decode cX11_tip 11 = .ok (.iconst 1, 1) := by decide +kernel
theorem dX11_tip_12 : decode cX11_tip 12 = .ok (.invokevirtual 186, 3) := by decide +kernel
theorem dX11_tip_15 : decode cX11_tip 15 = .ok (.ifCond .ne 53, 3) := by decide +kernel
theorem dX11_tip_18 : decode cX11_tip 18 = .ok (.aload_n 0, 1) := by decide +kernel
theorem dX11_tip_19 : decode cX11_tip 19 = .ok (.iload_n 3, 1) := by decide +kernel
theorem dX11_tip_20 : decode cX11_tip 20 = .ok (.i2l, 1) := by decide +kernel
theorem dX11_tip_21 : decode cX11_tip 21 = .ok (.ldc2_w 226, 3) := by decide +kernel
theorem dX11_tip_24 : decode cX11_tip 24 = .ok (.ldc2_w 228, 3) := by decide +kernel
theorem dX11_tip_27 : decode cX11_tip 27 = .ok (.invokestatic 195, 3) := by decide +kernel
theorem dX11_tip_30 : decode cX11_tip 30 = .ok (.ifCond .ne 7, 3) := by decide +kernel
theorem dX11_tip_33 : decode cX11_tip 33 = .ok (.iconst 1, 1) := by decide +kernel
theorem dX11_tip_34 : decode cX11_tip 34 = .ok (.goto 4, 3) := by decide +kernel
theorem dX11_tip_37 : decode cX11_tip 37 = .ok (.iconst 0, 1) := by decide +kernel
theorem dX11_tip_38 : decode cX11_tip 38 = .ok (.iconst 2, 1) := by decide +kernel
theorem dX11_tip_39 : decode cX11_tip 39 = .ok (.invokevirtual 186, 3) := by decide +kernel
theorem dX11_tip_42 : decode cX11_tip 42 = .ok (.ifCond .ne 26, 3) := by decide +kernel
theorem dX11_tip_45 : decode cX11_tip 45 = .ok (.aload_n 0, 1) := by decide +kernel
theorem dX11_tip_46 : decode cX11_tip 46 = .ok (.aload_n 0, 1) := by decide +kernel
theorem dX11_tip_47 : decode cX11_tip 47 = .ok (.getfield 145, 3) := by decide +kernel
theorem dX11_tip_50 : decode cX11_tip 50 = .ok (.sipush 600, 3) := by decide +kernel
theorem dX11_tip_53 : decode cX11_tip 53 = .ok (.if_icmp .ne 7, 3) := by decide +kernel
theorem dX11_tip_56 : decode cX11_tip 56 = .ok (.iconst 1, 1) := by decide +kernel
theorem dX11_tip_57 : decode cX11_tip 57 = .ok (.goto 4, 3) := by decide +kernel
theorem dX11_tip_60 : decode cX11_tip 60 = .ok (.iconst 0, 1) := by decide +kernel
theorem dX11_tip_61 : decode cX11_tip 61 = .ok (.iconst 3, 1) := by decide +kernel
theorem dX11_tip_62 : decode cX11_tip 62 = .ok (.invokevirtual 186, 3) := by decide +kernel
theorem dX11_tip_65 : decode cX11_tip 65 = .ok (.ifCond .eq 5, 3) := by decide +kernel
theorem dX11_tip_68 : decode cX11_tip 68 = .ok (.iconst 0, 1) := by decide +kernel
theorem dX11_tip_69 : decode cX11_tip 69 = .ok (.ireturn, 1) := by decide +kernel
theorem dX11_tip_70 : decode cX11_tip 70 = .ok (.aload_n 0, 1) := by decide +kernel
theorem dX11_tip_71 : decode cX11_tip 71 = .ok (.getfield 145, 3) := by decide +kernel
theorem dX11_tip_74 : decode cX11_tip 74 = .ok (.istore 4, 2) := by decide +kernel
theorem dX11_tip_76 : decode cX11_tip 76 = .ok (.aload_n 0, 1) := by decide +kernel
theorem dX11_tip_77 : decode cX11_tip 77 = .ok (.iload_n 2, 1) := by decide +kernel
theorem dX11_tip_78 : decode cX11_tip 78 = .ok (.invokevirtual 215, 3) := by decide +kernel
theorem dX11_tip_81 : decode cX11_tip 81 = .ok (.istore 5, 2) := by decide +kernel
theorem dX11_tip_83 : decode cX11_tip 83 = .ok (.aload_n 0, 1) := by decide +kernel
theorem dX11_tip_84 : decode cX11_tip 84 = .ok (.getfield 84, 3) := by decide +kernel
theorem dX11_tip_87 : decode cX11_tip 87 = .ok (.iload 4, 2) := by decide +kernel
theorem dX11_tip_89 : decode cX11_tip 89 = .ok (.aload_n 0, 1) := by decide +kernel
theorem dX11_tip_90 : decode cX11_tip 90 = .ok (.getfield 152, 3) := by decide +kernel
theorem dX11_tip_93 : decode cX11_tip 93 = .ok (.iastore, 1) := by decide +kernel
theorem dX11_tip_94 : decode cX11_tip 94 = .ok (.aload_n 0, 1) := by decide +kernel
theorem dX11_tip_95 : decode cX11_tip 95 = .ok (.getfield 87, 3) := by decide +kernel
theorem dX11_tip_98 : decode cX11_tip 98 = .ok (.iload 4, 2) := by decide +kernel
theorem dX11_tip_100 : decode cX11_tip 100 = .ok (.iload_n 1, 1) := by decide +kernel
theorem dX11_tip_101 : decode cX11_tip 101 = .ok (.iastore, 1) := by decide +kernel
theorem dX11_tip_102 : decode cX11_tip 102 = .ok (.aload_n 0, 1) := by decide +kernel
theorem dX11_tip_103 : decode cX11_tip 103 = .ok (.getfield 90, 3) := by decide +kernel
theorem dX11_tip_106 : decode cX11_tip 106 = .ok (.iload 4, 2) := by decide +kernel
theorem dX11_tip_108 : decode cX11_tip 108 = .ok (.iload_n 2, 1) := by decide +kernel
theorem dX11_tip_109 : decode cX11_tip 109 = .ok (.iastore, 1) := by decide +kernel
theorem dX11_tip_110 : decode cX11_tip 110 = .ok (.aload_n 0, 1) := by decide +kernel
theorem dX11_tip_111 : decode cX11_tip 111 = .ok (.getfield 99, 3) := by decide +kernel
theorem dX11_tip_114 : decode cX11_tip 114 = .ok (.iload 4, 2) := by decide +kernel
theorem dX11_tip_116 : decode cX11_tip 116 = .ok (.iload 5, 2) := by decide +kernel
theorem dX11_tip_118 : decode cX11_tip 118 = .ok (.iconst 1, 1) := by decide +kernel
theorem dX11_tip_119 : decode cX11_tip 119 = .ok (.if_icmp .ne 7, 3) := by decide +kernel
theorem dX11_tip_122 : decode cX11_tip 122 = .ok (.iconst 0, 1) := by decide +kernel
theorem dX11_tip_123 : decode cX11_tip 123 = .ok (.goto 13, 3) := by decide +kernel
theorem dX11_tip_126 : decode cX11_tip 126 = .ok (.iload 5, 2) := by decide +kernel
theorem dX11_tip_128 : decode cX11_tip 128 = .ok (.ifCond .ne 7, 3) := by decide +kernel
theorem dX11_tip_131 : decode cX11_tip 131 = .ok (.iconst 1, 1) := by decide +kernel
theorem dX11_tip_132 : decode cX11_tip 132 = .ok (.goto 4, 3) := by decide +kernel
theorem dX11_tip_135 : decode cX11_tip 135 = .ok (.iconst 2, 1) := by decide +kernel
theorem dX11_tip_136 : decode cX11_tip 136 = .ok (.iastore, 1) := by decide +kernel
theorem dX11_tip_137 : decode cX11_tip 137 = .ok (.aload_n 0, 1) := by decide +kernel
theorem dX11_tip_138 : decode cX11_tip 138 = .ok (.getfield 96, 3) := by decide +kernel
theorem dX11_tip_141 : decode cX11_tip 141 = .ok (.iload 4, 2) := by decide +kernel
theorem dX11_tip_143 : decode cX11_tip 143 = .ok (.iconst (-1), 1) := by decide +kernel
theorem dX11_tip_144 : decode cX11_tip 144 = .ok (.iastore, 1) := by decide +kernel
theorem dX11_tip_145 : decode cX11_tip 145 = .ok (.iconst 0, 1) := by decide +kernel
theorem dX11_tip_146 : decode cX11_tip 146 = .ok (.istore 6, 2) := by decide +kernel
theorem dX11_tip_148 : decode cX11_tip 148 = .ok (.iload 6, 2) := by decide +kernel
theorem dX11_tip_150 : decode cX11_tip 150 = .ok (.aload_n 0, 1) := by decide +kernel
theorem dX11_tip_151 : decode cX11_tip 151 = .ok (.getfield 139, 3) := by decide +kernel
theorem dX11_tip_154 : decode cX11_tip 154 = .ok (.if_icmp .ge 45, 3) := by decide +kernel
theorem dX11_tip_157 : decode cX11_tip 157 = .ok (.iload 5, 2) := by decide +kernel
theorem dX11_tip_159 : decode cX11_tip 159 = .ok (.iconst 1, 1) := by decide +kernel
theorem dX11_tip_160 : decode cX11_tip 160 = .ok (.if_icmp .ne 39, 3) := by decide +kernel
theorem dX11_tip_163 : decode cX11_tip 163 = .ok (.aload_n 0, 1) := by decide +kernel
theorem dX11_tip_164 : decode cX11_tip 164 = .ok (.getfield 39, 3) := by decide +kernel
theorem dX11_tip_167 : decode cX11_tip 167 = .ok (.iload 6, 2) := by decide +kernel
theorem dX11_tip_169 : decode cX11_tip 169 = .ok (.baload, 1) := by decide +kernel
theorem dX11_tip_170 : decode cX11_tip 170 = .ok (.ifCond .eq 23, 3) := by decide +kernel
theorem dX11_tip_173 : decode cX11_tip 173 = .ok (.aload_n 0, 1) := by decide +kernel
theorem dX11_tip_174 : decode cX11_tip 174 = .ok (.getfield 42, 3) := by decide +kernel
theorem dX11_tip_177 : decode cX11_tip 177 = .ok (.iload 6, 2) := by decide +kernel
theorem dX11_tip_179 : decode cX11_tip 179 = .ok (.iaload, 1) := by decide +kernel
theorem dX11_tip_180 : decode cX11_tip 180 = .ok (.iload_n 2, 1) := by decide +kernel
theorem dX11_tip_181 : decode cX11_tip 181 = .ok (.if_icmp .ne 12, 3) := by decide +kernel
theorem dX11_tip_184 : decode cX11_tip 184 = .ok (.aload_n 0, 1) := by decide +kernel
theorem dX11_tip_185 : decode cX11_tip 185 = .ok (.getfield 96, 3) := by decide +kernel
theorem dX11_tip_188 : decode cX11_tip 188 = .ok (.iload 4, 2) := by decide +kernel
theorem dX11_tip_190 : decode cX11_tip 190 = .ok (.iload 6, 2) := by decide +kernel
theorem dX11_tip_192 : decode cX11_tip 192 = .ok (.iastore, 1) := by decide +kernel
theorem dX11_tip_193 : decode cX11_tip 193 = .ok (.iinc 6 1, 3) := by decide +kernel
theorem dX11_tip_196 : decode cX11_tip 196 = .ok (.goto (-48), 3) := by decide +kernel
theorem dX11_tip_199 : decode cX11_tip 199 = .ok (.aload_n 0, 1) := by decide +kernel
theorem dX11_tip_200 : decode cX11_tip 200 = .ok (.getfield 120, 3) := by decide +kernel
theorem dX11_tip_203 : decode cX11_tip 203 = .ok (.iload 4, 2) := by decide +kernel
theorem dX11_tip_205 : decode cX11_tip 205 = .ok (.iconst (-1), 1) := by decide +kernel
theorem dX11_tip_206 : decode cX11_tip 206 = .ok (.iastore, 1) := by decide +kernel
theorem dX11_tip_207 : decode cX11_tip 207 = .ok (.iload_n 3, 1) := by decide +kernel
theorem dX11_tip_208 : decode cX11_tip 208 = .ok (.ifCond .ge 46, 3) := by decide +kernel
theorem dX11_tip_211 : decode cX11_tip 211 = .ok (.aload_n 0, 1) := by decide +kernel
theorem dX11_tip_212 : decode cX11_tip 212 = .ok (.getfield 102, 3) := by decide +kernel
theorem dX11_tip_215 : decode cX11_tip 215 = .ok (.iload 4, 2) := by decide +kernel
theorem dX11_tip_217 : decode cX11_tip 217 = .ok (.iconst 1, 1) := by decide +kernel
theorem dX11_tip_218 : decode cX11_tip 218 = .ok (.iastore, 1) := by decide +kernel
theorem dX11_tip_219 : decode cX11_tip 219 = .ok (.aload_n 0, 1) := by decide +kernel
theorem dX11_tip_220 : decode cX11_tip 220 = .ok (.getfield 93, 3) := by decide +kernel
theorem dX11_tip_223 : decode cX11_tip 223 = .ok (.iload 4, 2) := by decide +kernel
theorem dX11_tip_225 : decode cX11_tip 225 = .ok (.aload_n 0, 1) := by decide +kernel
theorem dX11_tip_226 : decode cX11_tip 226 = .ok (.getfield 96, 3) := by decide +kernel
theorem dX11_tip_229 : decode cX11_tip 229 = .ok (.iload 4, 2) := by decide +kernel
theorem dX11_tip_231 : decode cX11_tip 231 = .ok (.iaload, 1) := by decide +kernel
theorem dX11_tip_232 : decode cX11_tip 232 = .ok (.ifCond .ge 7, 3) := by decide +kernel
theorem dX11_tip_235 : decode cX11_tip 235 = .ok (.iconst 0, 1) := by decide +kernel
theorem dX11_tip_236 : decode cX11_tip 236 = .ok (.goto 14, 3) := by decide +kernel
theorem dX11_tip_239 : decode cX11_tip 239 = .ok (.aload_n 0, 1) := by decide +kernel
theorem dX11_tip_240 : decode cX11_tip 240 = .ok (.aload_n 0, 1) := by decide +kernel
theorem dX11_tip_241 : decode cX11_tip 241 = .ok (.getfield 96, 3) := by decide +kernel
theorem dX11_tip_244 : decode cX11_tip 244 = .ok (.iload 4, 2) := by decide +kernel
theorem dX11_tip_246 : decode cX11_tip 246 = .ok (.iaload, 1) := by decide +kernel
theorem dX11_tip_247 : decode cX11_tip 247 = .ok (.invokevirtual 230, 3) := by decide +kernel
theorem dX11_tip_250 : decode cX11_tip 250 = .ok (.iastore, 1) := by decide +kernel
theorem dX11_tip_251 : decode cX11_tip 251 = .ok (.goto 48, 3) := by decide +kernel
theorem dX11_tip_254 : decode cX11_tip 254 = .ok (.aload_n 0, 1) := by decide +kernel
theorem dX11_tip_255 : decode cX11_tip 255 = .ok (.getfield 102, 3) := by decide +kernel
theorem dX11_tip_258 : decode cX11_tip 258 = .ok (.iload 4, 2) := by decide +kernel
theorem dX11_tip_260 : decode cX11_tip 260 = .ok (.iconst 0, 1) := by decide +kernel
theorem dX11_tip_261 : decode cX11_tip 261 = .ok (.iastore, 1) := by decide +kernel
theorem dX11_tip_262 : decode cX11_tip 262 = .ok (.aload_n 0, 1) := by decide +kernel
theorem dX11_tip_263 : decode cX11_tip 263 = .ok (.getfield 93, 3) := by decide +kernel
theorem dX11_tip_266 : decode cX11_tip 266 = .ok (.iload 4, 2) := by decide +kernel
theorem dX11_tip_268 : decode cX11_tip 268 = .ok (.iload_n 3, 1) := by decide +kernel
theorem dX11_tip_269 : decode cX11_tip 269 = .ok (.aload_n 0, 1) := by decide +kernel
theorem dX11_tip_270 : decode cX11_tip 270 = .ok (.getfield 72, 3) := by decide +kernel
theorem dX11_tip_273 : decode cX11_tip 273 = .ok (.iload_n 1, 1) := by decide +kernel
theorem dX11_tip_274 : decode cX11_tip 274 = .ok (.iaload, 1) := by decide +kernel
theorem dX11_tip_275 : decode cX11_tip 275 = .ok (.iadd, 1) := by decide +kernel
theorem dX11_tip_276 : decode cX11_tip 276 = .ok (.sipush 500, 3) := by decide +kernel
theorem dX11_tip_279 : decode cX11_tip 279 = .ok (.idiv, 1) := by decide +kernel
theorem dX11_tip_280 : decode cX11_tip 280 = .ok (.iastore, 1) := by decide +kernel
theorem dX11_tip_281 : decode cX11_tip 281 = .ok (.aload_n 0, 1) := by decide +kernel
theorem dX11_tip_282 : decode cX11_tip 282 = .ok (.getfield 72, 3) := by decide +kernel
theorem dX11_tip_285 : decode cX11_tip 285 = .ok (.iload_n 1, 1) := by decide +kernel
theorem dX11_tip_286 : decode cX11_tip 286 = .ok (.iload_n 3, 1) := by decide +kernel
theorem dX11_tip_287 : decode cX11_tip 287 = .ok (.aload_n 0, 1) := by decide +kernel
theorem dX11_tip_288 : decode cX11_tip 288 = .ok (.getfield 72, 3) := by decide +kernel
theorem dX11_tip_291 : decode cX11_tip 291 = .ok (.iload_n 1, 1) := by decide +kernel
theorem dX11_tip_292 : decode cX11_tip 292 = .ok (.iaload, 1) := by decide +kernel
theorem dX11_tip_293 : decode cX11_tip 293 = .ok (.iadd, 1) := by decide +kernel
theorem dX11_tip_294 : decode cX11_tip 294 = .ok (.sipush 500, 3) := by decide +kernel
theorem dX11_tip_297 : decode cX11_tip 297 = .ok (.irem, 1) := by decide +kernel
theorem dX11_tip_298 : decode cX11_tip 298 = .ok (.iastore, 1) := by decide +kernel
theorem dX11_tip_299 : decode cX11_tip 299 = .ok (.aload_n 0, 1) := by decide +kernel
theorem dX11_tip_300 : decode cX11_tip 300 = .ok (.dup, 1) := by decide +kernel
theorem dX11_tip_301 : decode cX11_tip 301 = .ok (.getfield 145, 3) := by decide +kernel
theorem dX11_tip_304 : decode cX11_tip 304 = .ok (.iconst 1, 1) := by decide +kernel
theorem dX11_tip_305 : decode cX11_tip 305 = .ok (.iadd, 1) := by decide +kernel
theorem dX11_tip_306 : decode cX11_tip 306 = .ok (.putfield 145, 3) := by decide +kernel
theorem dX11_tip_309 : decode cX11_tip 309 = .ok (.iload 4, 2) := by decide +kernel
theorem dX11_tip_311 : decode cX11_tip 311 = .ok (.ireturn, 1) := by decide +kernel
set_option maxRecDepth 20000 in
theorem ggX11_wrong_X11_noTip : GoodIn wsX11_wrong wsX11_noTip := goodIn_r _ [11, 12, 17, 18, 19, 20, 21, 22, 23, 24, 25, 26, 27, 28, 29, 30, 31, 32, 33, 34, 35, 36, 37, 38, 39, 40, 41, 42, 43, 44, 45, 46, 47, 48, 49, 50, 51, 52, 53, 54, 55, 56, 57, 58, 59, 60, 61, 62, 63, 64] (by decide +kernel) (by decide +kernel)
set_option maxRecDepth 20000 in
theorem gX11_wrong_X11_noTip : GoodIn wsX11_wrong (wsV RX11 233 RX11 yX11_noTip wsX11_noTip) := goodIn_app (goodIn_of _ (by decide +kernel)) ggX11_wrong_X11_noTip
set_option maxRecDepth 20000 in
theorem ggX11_wrong_X11_throwsIf : GoodIn wsX11_wrong wsX11_throwsIf := goodIn_r _ [16, 1, 17, 18, 19, 20, 21, 22, 23, 24, 25, 26, 27, 28, 29, 30, 31, 32, 33, 34, 35, 36, 37, 38, 39, 40, 41, 42, 43, 44, 45, 46, 47, 48, 49, 50, 51, 52, 53, 54, 55, 56, 57, 58, 59, 60, 61, 62, 63, 64] (by decide +kernel) (by decide +kernel)
set_option maxRecDepth 20000 in
theorem gX11_wrong_X11_throwsIf : GoodIn wsX11_wrong (wsV RX11 186 RX11 yX11_throwsIf wsX11_throwsIf) := goodIn_app (goodIn_of _ (by decide +kernel)) ggX11_wrong_X11_throwsIf
theorem dX11_wrong_0 : decode cX11_wrong 0 = .ok (.aload_n 0, 1) := by decide +kernel
theorem dX11_wrong_1 : decode cX11_wrong 1 = .ok (.iconst 0, 1) := by decide +kernel
theorem dX11_wrong_2 : decode cX11_wrong 2 = .ok (.putfield 129, 3) := by decide +kernel
theorem dX11_wrong_5 : decode cX11_wrong 5 = .ok (.aload_n 0, 1) := by decide +kernel
theorem dX11_wrong_6 : decode cX11_wrong 6 = .ok (.aload_n 0, 1) := by decide +kernel
theorem dX11_wrong_7 : decode cX11_wrong 7 = .ok (.iload_n 1, 1) := by decide +kernel
theorem dX11_wrong_8 : decode cX11_wrong 8 = .ok (.invokevirtual 233, 3) := by decide +kernel
theorem dX11_wrong_11 : decode cX11_wrong 11 = .ok (.iconst 1, 1) := by decide +kernel
theorem dX11_wrong_12 : decode cX11_wrong 12 = .ok (.invokevirtual 186, 3) := by decide +kernel
theorem dX11_wrong_15 : decode cX11_wrong 15 = .ok (.ifCond .ne 29, 3) := by decide +kernel
theorem dX11_wrong_18 : decode cX11_wrong 18 = .ok (.aload_n 0, 1) := by decide +kernel
theorem dX11_wrong_19 : decode cX11_wrong 19 = .ok (.aload_n 0, 1) := by decide +kernel
theorem dX11_wrong_20 : decode cX11_wrong 20 = .ok (.getfield 84, 3) := by decide +kernel
theorem dX11_wrong_23 : decode cX11_wrong 23 = .ok (.iload_n 1, 1) := by decide +kernel
theorem dX11_wrong_24 : decode cX11_wrong 24 = .ok (.iaload, 1) := by decide +kernel
theorem dX11_wrong_25 : decode cX11_wrong 25 = .ok (.aload_n 0, 1) := by decide +kernel
theorem dX11_wrong_26 : decode cX11_wrong 26 = .ok (.getfield 152, 3) := by decide +kernel
theorem dX11_wrong_29 : decode cX11_wrong 29 = .ok (.if_icmp .eq 7, 3) := by decide +kernel
theorem dX11_wrong_32 : decode cX11_wrong 32 = .ok (.iconst 1, 1) := by decide +kernel
theorem dX11_wrong_33 : decode cX11_wrong 33 = .ok (.goto 4, 3) := by decide +kernel
theorem dX11_wrong_36 : decode cX11_wrong 36 = .ok (.iconst 0, 1) := by decide +kernel
theorem dX11_wrong_37 : decode cX11_wrong 37 = .ok (.iconst 2, 1) := by decide +kernel
theorem dX11_wrong_38 : decode cX11_wrong 38 = .ok (.invokevirtual 186, 3) := by decide +kernel
theorem dX11_wrong_41 : decode cX11_wrong 41 = .ok (.ifCond .eq 5, 3) := by decide +kernel
theorem dX11_wrong_44 : decode cX11_wrong 44 = .ok (.iconst 0, 1) := by decide +kernel
theorem dX11_wrong_45 : decode cX11_wrong 45 = .ok (.ireturn, 1) := by decide +kernel
theorem dX11_wrong_46 : decode cX11_wrong 46 = .ok (.aload_n 0, 1) := by decide +kernel
theorem dX11_wrong_47 : decode cX11_wrong 47 = .ok (.getfield 96, 3) := by decide +kernel
theorem dX11_wrong_50 : decode cX11_wrong 50 = .ok (.iload_n 1, 1) := by decide +kernel
theorem dX11_wrong_51 : decode cX11_wrong 51 = .ok (.iaload, 1) := by decide +kernel
theorem dX11_wrong_52 : decode cX11_wrong 52 = .ok (.istore_n 2, 1) := by decide +kernel
theorem dX11_wrong_53 : decode cX11_wrong 53 = .ok (.aload_n 0, 1) := by decide +kernel
theorem dX11_wrong_54 : decode cX11_wrong 54 = .ok (.iload_n 2, 1) := by decide +kernel
theorem dX11_wrong_55 : decode cX11_wrong 55 = .ok (.ifCond .lt 23, 3) := by decide +kernel
theorem dX11_wrong_58 : decode cX11_wrong 58 = .ok (.aload_n 0, 1) := by decide +kernel
theorem dX11_wrong_59 : decode cX11_wrong 59 = .ok (.getfield 36, 3) := by decide +kernel
theorem dX11_wrong_62 : decode cX11_wrong 62 = .ok (.iload_n 2, 1) := by decide +kernel
theorem dX11_wrong_63 : decode cX11_wrong 63 = .ok (.iaload, 1) := by decide +kernel
theorem dX11_wrong_64 : decode cX11_wrong 64 = .ok (.iconst 1, 1) := by decide +kernel
theorem dX11_wrong_65 : decode cX11_wrong 65 = .ok (.if_icmp .eq 17, 3) := by decide +kernel
theorem dX11_wrong_68 : decode cX11_wrong 68 = .ok (.aload_n 0, 1) := by decide +kernel
theorem dX11_wrong_69 : decode cX11_wrong 69 = .ok (.getfield 36, 3) := by decide +kernel
theorem dX11_wrong_72 : decode cX11_wrong 72 = .ok (.iload_n 2, 1) := by decide +kernel
theorem dX11_wrong_73 : decode cX11_wrong 73 = .ok (.iaload, 1) := by decide +kernel
theorem dX11_wrong_74 : decode cX11_wrong 74 = .ok (.iconst 2, 1) := by decide +kernel
theorem dX11_wrong_75 : decode cX11_wrong 75 = .ok (.if_icmp .eq 7, 3) := by decide +kernel
theorem dX11_wrong_78 : decode cX11_wrong 78 = .ok (.iconst 1, 1) := by decide +kernel
theorem dX11_wrong_79 : decode cX11_wrong 79 = .ok (.goto 4, 3) := by decide +kernel
theorem dX11_wrong_82 : decode cX11_wrong 82 = .ok (.iconst 0, 1) := by decide +kernel
theorem dX11_wrong_83 : decode cX11_wrong 83 = .ok (.iconst 3, 1) := by decide +kernel
theorem dX11_wrong_84 : decode cX11_wrong 84 = .ok (.invokevirtual 186, 3) := by decide +kernel
theorem dX11_wrong_87 : decode cX11_wrong 87 = .ok (.ifCond .eq 5, 3) := by decide +kernel
theorem dX11_wrong_90 : decode cX11_wrong 90 = .ok (.iconst 0, 1) := by decide +kernel
theorem dX11_wrong_91 : decode cX11_wrong 91 = .ok (.ireturn, 1) := by decide +kernel
theorem dX11_wrong_92 : decode cX11_wrong 92 = .ok (.aload_n 0, 1) := by decide +kernel
theorem dX11_wrong_93 : decode cX11_wrong 93 = .ok (.getfield 111, 3) := by decide +kernel
theorem dX11_wrong_96 : decode cX11_wrong 96 = .ok (.iload_n 1, 1) := by decide +kernel
theorem dX11_wrong_97 : decode cX11_wrong 97 = .ok (.baload, 1) := by decide +kernel
theorem dX11_wrong_98 : decode cX11_wrong 98 = .ok (.istore_n 3, 1) := by decide +kernel
theorem dX11_wrong_99 : decode cX11_wrong 99 = .ok (.aload_n 0, 1) := by decide +kernel
theorem dX11_wrong_100 : decode cX11_wrong 100 = .ok (.getfield 111, 3) := by decide +kernel
theorem dX11_wrong_103 : decode cX11_wrong 103 = .ok (.iload_n 1, 1) := by decide +kernel
theorem dX11_wrong_104 : decode cX11_wrong 104 = .ok (.iconst 1, 1) := by decide +kernel
theorem dX11_wrong_105 : decode cX11_wrong 105 = .ok (.bastore, 1) := by decide +kernel
theorem dX11_wrong_106 : decode cX11_wrong 106 = .ok (.iload_n 3, 1) := by decide +kernel
theorem dX11_wrong_107 : decode cX11_wrong 107 = .ok (.ifCond .ne 7, 3) := by decide +kernel
theorem dX11_wrong_110 : decode cX11_wrong 110 = .ok (.iconst 1, 1) := by decide +kernel
theorem dX11_wrong_111 : decode cX11_wrong 111 = .ok (.goto 4, 3) := by decide +kernel
theorem dX11_wrong_114 : decode cX11_wrong 114 = .ok (.iconst 0, 1) := by decide +kernel
theorem dX11_wrong_115 : decode cX11_wrong 115 = .ok (.ireturn, 1) := by decide +kernel
set_option maxRecDepth 20000 in
theorem ggX11_gate_X11_noCart : GoodIn wsX11_gate wsX11_noCart := goodIn_r _ [8, 9, 17, 18, 19, 20, 21, 22, 23, 24, 25, 26, 27, 28, 29, 30, 31, 32, 33, 34, 35, 36, 37, 38, 39, 40, 41, 42, 43, 44, 45, 46, 47, 48, 49, 50, 51, 52, 53, 54, 55, 56, 57, 58, 59, 60, 61, 62, 63, 64] (by decide +kernel) (by decide +kernel)
set_option maxRecDepth 20000 in
theorem gX11_gate_X11_noCart : GoodIn wsX11_gate (wsV RX11 223 RX11 yX11_noCart wsX11_noCart) := goodIn_app (goodIn_of _ (by decide +kernel)) ggX11_gate_X11_noCart
set_option maxRecDepth 20000 in
theorem ggX11_gate_X11_throwsIf : GoodIn wsX11_gate wsX11_throwsIf := goodIn_r _ [13, 1, 17, 18, 19, 20, 21, 22, 23, 24, 25, 26, 27, 28, 29, 30, 31, 32, 33, 34, 35, 36, 37, 38, 39, 40, 41, 42, 43, 44, 45, 46, 47, 48, 49, 50, 51, 52, 53, 54, 55, 56, 57, 58, 59, 60, 61, 62, 63, 64] (by decide +kernel) (by decide +kernel)
set_option maxRecDepth 20000 in
theorem gX11_gate_X11_throwsIf : GoodIn wsX11_gate (wsV RX11 186 RX11 yX11_throwsIf wsX11_throwsIf) := goodIn_app (goodIn_of _ (by decide +kernel)) ggX11_gate_X11_throwsIf
set_option maxRecDepth 20000 in
theorem ggX11_gate_X11_in : GoodIn wsX11_gate wsX11_in := goodIn_r _ [16] (by decide +kernel) (by decide +kernel)
set_option maxRecDepth 20000 in
theorem gX11_gate_X11_in : GoodIn wsX11_gate (va_wsS RX11 195 yX11_in wsX11_in) := goodIn_app (goodIn_of _ (by decide +kernel)) ggX11_gate_X11_in
theorem dX11_gate_0 : decode cX11_gate 0 = .ok (.aload_n 0, 1) := by decide +kernel
theorem dX11_gate_1 : decode cX11_gate 1 = .ok (.iconst 0, 1) := by decide +kernel
theorem dX11_gate_2 : decode cX11_gate 2 = .ok (.putfield 129, 3) := by decide +kernel
theorem dX11_gate_5 : decode cX11_gate 5 = .ok (.aload_n 0, 1) := by decide +kernel
theorem dX11_gate_6 : decode cX11_gate 6 = .ok (.aload_n 0, 1) := by decide +kernel
theorem dX11_gate_7 : decode cX11_gate 7 = .ok (.iload_n 1, 1) := by decide +kernel
theorem dX11_gate_8 : decode cX11_gate 8 = .ok (.invokevirtual 223, 3) := by decide +kernel
theorem dX11_gate_11 : decode cX11_gate 11 = .ok (.iconst 1, 1) := by decide +kernel
theorem dX11_gate_12 : decode cX11_gate 12 = .ok (.invokevirtual 186, 3) := by decide +kernel
theorem dX11_gate_15 : decode cX11_gate 15 = .ok (.ifCond .ne 28, 3) := by decide +kernel
theorem dX11_gate_18 : decode cX11_gate 18 = .ok (.aload_n 0, 1) := by decide +kernel
theorem dX11_gate_19 : decode cX11_gate 19 = .ok (.iload_n 2, 1) := by decide +kernel
theorem dX11_gate_20 : decode cX11_gate 20 = .ok (.i2l, 1) := by decide +kernel
theorem dX11_gate_21 : decode cX11_gate 21 = .ok (.lconst 0, 1) := by decide +kernel
theorem dX11_gate_22 : decode cX11_gate 22 = .ok (.ldc2_w 236, 3) := by decide +kernel
theorem dX11_gate_25 : decode cX11_gate 25 = .ok (.invokestatic 195, 3) := by decide +kernel
theorem dX11_gate_28 : decode cX11_gate 28 = .ok (.ifCond .ne 7, 3) := by decide +kernel
theorem dX11_gate_31 : decode cX11_gate 31 = .ok (.iconst 1, 1) := by decide +kernel
theorem dX11_gate_32 : decode cX11_gate 32 = .ok (.goto 4, 3) := by decide +kernel
theorem dX11_gate_35 : decode cX11_gate 35 = .ok (.iconst 0, 1) := by decide +kernel
theorem dX11_gate_36 : decode cX11_gate 36 = .ok (.iconst 2, 1) := by decide +kernel
theorem dX11_gate_37 : decode cX11_gate 37 = .ok (.invokevirtual 186, 3) := by decide +kernel
theorem dX11_gate_40 : decode cX11_gate 40 = .ok (.ifCond .eq 4, 3) := by decide +kernel
theorem dX11_gate_43 : decode cX11_gate 43 = .ok (.return_, 1) := by decide +kernel
theorem dX11_gate_44 : decode cX11_gate 44 = .ok (.aload_n 0, 1) := by decide +kernel
theorem dX11_gate_45 : decode cX11_gate 45 = .ok (.getfield 75, 3) := by decide +kernel
theorem dX11_gate_48 : decode cX11_gate 48 = .ok (.iload_n 1, 1) := by decide +kernel
theorem dX11_gate_49 : decode cX11_gate 49 = .ok (.iload_n 2, 1) := by decide +kernel
theorem dX11_gate_50 : decode cX11_gate 50 = .ok (.iastore, 1) := by decide +kernel
theorem dX11_gate_51 : decode cX11_gate 51 = .ok (.return_, 1) := by decide +kernel
set_option maxRecDepth 20000 in
theorem ggX11_close_X11_throwsIf : GoodIn wsX11_close wsX11_throwsIf := goodIn_r _ [17, 1, 48, 49, 50, 51, 52, 53, 54, 55, 56, 57, 58, 59, 60, 61, 62, 63, 64, 65, 66, 67, 68, 69, 70, 71, 72, 73, 74, 75, 76, 77, 78, 79, 80, 81, 82, 83, 84, 85, 86, 87, 88, 89, 90, 91, 92, 93, 94, 95] (by decide +kernel) (by decide +kernel)
set_option maxRecDepth 20000 in
theorem gX11_close_X11_throwsIf : GoodIn wsX11_close (wsV RX11 186 RX11 yX11_throwsIf wsX11_throwsIf) := goodIn_app (goodIn_of _ (by decide +kernel)) ggX11_close_X11_throwsIf
set_option maxRecDepth 20000 in
theorem ggX11_close_X11_agrees : GoodIn wsX11_close wsX11_agrees := goodIn_r _ [21, 5, 22, 23, 24, 25, 26, 16, 27, 6, 7, 2, 8, 10, 48, 49, 50, 51, 52, 53, 54, 55, 56, 57, 58, 59, 60, 61, 62, 63, 64, 65, 66, 67, 68, 69, 70, 71, 72, 73, 74, 75, 76, 77, 78, 79, 80, 81, 82, 83, 84, 85, 86, 87, 88, 89, 90, 91, 92, 93, 94, 95] (by decide +kernel) (by decide +kernel)
set_option maxRecDepth 20000 in
theorem gX11_close_X11_agrees : GoodIn wsX11_close (wsV RX11 238 RX11 yX11_agrees wsX11_agrees) := goodIn_app (goodIn_of _ (by decide +kernel)) ggX11_close_X11_agrees
set_option maxRecDepth 20000 in
theorem ggX11_close_X11_charges : GoodIn wsX11_close wsX11_charges := goodIn_r _ [31, 12, 32, 33, 34, 7, 35, 36, 37, 38, 39, 40, 41, 42, 43, 16, 44, 45, 46, 47, 48, 49, 50, 51, 52, 53, 54, 55, 56, 57, 58, 59, 60, 61, 62, 63, 64, 65, 66, 67, 68, 69, 70, 71, 72, 73, 74, 75, 76, 77, 78, 79, 80, 81, 82, 83, 84, 85, 86, 87, 88, 89, 90, 91, 92, 93, 94, 95] (by decide +kernel) (by decide +kernel)
set_option maxRecDepth 20000 in
theorem gX11_close_X11_charges : GoodIn wsX11_close (wsV RX11 241 RX11 yX11_charges wsX11_charges) := goodIn_app (goodIn_of _ (by decide +kernel)) ggX11_close_X11_charges
theorem dX11_close_0 : decode cX11_close 0 = .ok (.aload_n 0, 1) := by decide +kernel
theorem dX11_close_1 : decode cX11_close 1 = .ok (.iconst 0, 1) := by decide +kernel
theorem dX11_close_2 : decode cX11_close 2 = .ok (.putfield 129, 3) := by decide +kernel
theorem dX11_close_5 : decode cX11_close 5 = .ok (.aload_n 0, 1) := by decide +kernel
theorem dX11_close_6 : decode cX11_close 6 = .ok (.aload_n 0, 1) := by decide +kernel
theorem dX11_close_7 : decode cX11_close 7 = .ok (.getfield 152, 3) := by decide +kernel
theorem dX11_close_10 : decode cX11_close 10 = .ok (.sipush 699, 3) := by decide +kernel
theorem dX11_close_13 : decode cX11_close 13 = .ok (.if_icmp .ne 7, 3) := by decide +kernel
theorem dX11_close_16 : decode cX11_close 16 = .ok (.iconst 1, 1) := by decide +kernel
theorem dX11_close_17 : decode cX11_close 17 = .ok (.goto 4, 3) := by decide +kernel
theorem dX11_close_20 : decode cX11_close 20 = .ok (.iconst 0, 1) := by decide +kernel
theorem dX11_close_21 : decode cX11_close 21 = .ok (.iconst 1, 1) := by decide +kernel
theorem dX11_close_22 : decode cX11_close 22 = .ok (.invokevirtual 186, 3) := by decide +kernel
theorem dX11_close_25 : decode cX11_close 25 = .ok (.ifCond .eq 5, 3) := by decide +kernel
theorem dX11_close_28 : decode cX11_close 28 = .ok (.iconst 0, 1) := by decide +kernel
theorem dX11_close_29 : decode cX11_close 29 = .ok (.ireturn, 1) := by decide +kernel
theorem dX11_close_30 : decode cX11_close 30 = .ok (.iconst 0, 1) := by decide +kernel
theorem dX11_close_31 : decode cX11_close 31 = .ok (.istore_n 1, 1) := by decide +kernel
theorem dX11_close_32 : decode cX11_close 32 = .ok (.iload_n 1, 1) := by decide +kernel
theorem dX11_close_33 : decode cX11_close 33 = .ok (.aload_n 0, 1) := by decide +kernel
theorem dX11_close_34 : decode cX11_close 34 = .ok (.getfield 142, 3) := by decide +kernel
theorem dX11_close_37 : decode cX11_close 37 = .ok (.if_icmp .ge 33, 3) := by decide +kernel
theorem dX11_close_40 : decode cX11_close 40 = .ok (.aload_n 0, 1) := by decide +kernel
theorem dX11_close_41 : decode cX11_close 41 = .ok (.getfield 126, 3) := by decide +kernel
theorem dX11_close_44 : decode cX11_close 44 = .ok (.iload_n 1, 1) := by decide +kernel
theorem dX11_close_45 : decode cX11_close 45 = .ok (.aload_n 0, 1) := by decide +kernel
theorem dX11_close_46 : decode cX11_close 46 = .ok (.iload_n 1, 1) := by decide +kernel
theorem dX11_close_47 : decode cX11_close 47 = .ok (.invokevirtual 238, 3) := by decide +kernel
theorem dX11_close_50 : decode cX11_close 50 = .ok (.ifCond .eq 7, 3) := by decide +kernel
theorem dX11_close_53 : decode cX11_close 53 = .ok (.iconst (-1), 1) := by decide +kernel
theorem dX11_close_54 : decode cX11_close 54 = .ok (.goto 9, 3) := by decide +kernel
theorem dX11_close_57 : decode cX11_close 57 = .ok (.aload_n 0, 1) := by decide +kernel
theorem dX11_close_58 : decode cX11_close 58 = .ok (.getfield 75, 3) := by decide +kernel
theorem dX11_close_61 : decode cX11_close 61 = .ok (.iload_n 1, 1) := by decide +kernel
theorem dX11_close_62 : decode cX11_close 62 = .ok (.iaload, 1) := by decide +kernel
theorem dX11_close_63 : decode cX11_close 63 = .ok (.iastore, 1) := by decide +kernel
theorem dX11_close_64 : decode cX11_close 64 = .ok (.iinc 1 1, 3) := by decide +kernel
theorem dX11_close_67 : decode cX11_close 67 = .ok (.goto (-35), 3) := by decide +kernel
theorem dX11_close_70 : decode cX11_close 70 = .ok (.iconst 0, 1) := by decide +kernel
theorem dX11_close_71 : decode cX11_close 71 = .ok (.istore_n 1, 1) := by decide +kernel
theorem dX11_close_72 : decode cX11_close 72 = .ok (.iconst 0, 1) := by decide +kernel
theorem dX11_close_73 : decode cX11_close 73 = .ok (.istore_n 2, 1) := by decide +kernel
theorem dX11_close_74 : decode cX11_close 74 = .ok (.iload_n 2, 1) := by decide +kernel
theorem dX11_close_75 : decode cX11_close 75 = .ok (.aload_n 0, 1) := by decide +kernel
theorem dX11_close_76 : decode cX11_close 76 = .ok (.getfield 145, 3) := by decide +kernel
theorem dX11_close_79 : decode cX11_close 79 = .ok (.if_icmp .ge 136, 3) := by decide +kernel
theorem dX11_close_82 : decode cX11_close 82 = .ok (.aload_n 0, 1) := by decide +kernel
theorem dX11_close_83 : decode cX11_close 83 = .ok (.getfield 84, 3) := by decide +kernel
theorem dX11_close_86 : decode cX11_close 86 = .ok (.iload_n 2, 1) := by decide +kernel
theorem dX11_close_87 : decode cX11_close 87 = .ok (.iaload, 1) := by decide +kernel
theorem dX11_close_88 : decode cX11_close 88 = .ok (.aload_n 0, 1) := by decide +kernel
theorem dX11_close_89 : decode cX11_close 89 = .ok (.getfield 152, 3) := by decide +kernel
theorem dX11_close_92 : decode cX11_close 92 = .ok (.if_icmp .eq 6, 3) := by decide +kernel
theorem dX11_close_95 : decode cX11_close 95 = .ok (.goto 114, 3) := by decide +kernel
theorem dX11_close_98 : decode cX11_close 98 = .ok (.aload_n 0, 1) := by decide +kernel
theorem dX11_close_99 : decode cX11_close 99 = .ok (.getfield 87, 3) := by decide +kernel
theorem dX11_close_102 : decode cX11_close 102 = .ok (.iload_n 2, 1) := by decide +kernel
theorem dX11_close_103 : decode cX11_close 103 = .ok (.iaload, 1) := by decide +kernel
theorem dX11_close_104 : decode cX11_close 104 = .ok (.istore_n 3, 1) := by decide +kernel
theorem dX11_close_105 : decode cX11_close 105 = .ok (.aload_n 0, 1) := by decide +kernel
theorem dX11_close_106 : decode cX11_close 106 = .ok (.getfield 105, 3) := by decide +kernel
theorem dX11_close_109 : decode cX11_close 109 = .ok (.iload_n 2, 1) := by decide +kernel
theorem dX11_close_110 : decode cX11_close 110 = .ok (.aload_n 0, 1) := by decide +kernel
theorem dX11_close_111 : decode cX11_close 111 = .ok (.getfield 93, 3) := by decide +kernel
theorem dX11_close_114 : decode cX11_close 114 = .ok (.iload_n 2, 1) := by decide +kernel
theorem dX11_close_115 : decode cX11_close 115 = .ok (.iaload, 1) := by decide +kernel
theorem dX11_close_116 : decode cX11_close 116 = .ok (.iastore, 1) := by decide +kernel
theorem dX11_close_117 : decode cX11_close 117 = .ok (.aload_n 0, 1) := by decide +kernel
theorem dX11_close_118 : decode cX11_close 118 = .ok (.getfield 126, 3) := by decide +kernel
theorem dX11_close_121 : decode cX11_close 121 = .ok (.iload_n 3, 1) := by decide +kernel
theorem dX11_close_122 : decode cX11_close 122 = .ok (.iaload, 1) := by decide +kernel
theorem dX11_close_123 : decode cX11_close 123 = .ok (.ifCond .lt 66, 3) := by decide +kernel
theorem dX11_close_126 : decode cX11_close 126 = .ok (.aload_n 0, 1) := by decide +kernel
theorem dX11_close_127 : decode cX11_close 127 = .ok (.getfield 120, 3) := by decide +kernel
theorem dX11_close_130 : decode cX11_close 130 = .ok (.iload_n 2, 1) := by decide +kernel
theorem dX11_close_131 : decode cX11_close 131 = .ok (.aload_n 0, 1) := by decide +kernel
theorem dX11_close_132 : decode cX11_close 132 = .ok (.getfield 75, 3) := by decide +kernel
theorem dX11_close_135 : decode cX11_close 135 = .ok (.iload_n 3, 1) := by decide +kernel
theorem dX11_close_136 : decode cX11_close 136 = .ok (.iaload, 1) := by decide +kernel
theorem dX11_close_137 : decode cX11_close 137 = .ok (.iastore, 1) := by decide +kernel
theorem dX11_close_138 : decode cX11_close 138 = .ok (.aload_n 0, 1) := by decide +kernel
theorem dX11_close_139 : decode cX11_close 139 = .ok (.getfield 105, 3) := by decide +kernel
theorem dX11_close_142 : decode cX11_close 142 = .ok (.iload_n 2, 1) := by decide +kernel
theorem dX11_close_143 : decode cX11_close 143 = .ok (.aload_n 0, 1) := by decide +kernel
theorem dX11_close_144 : decode cX11_close 144 = .ok (.getfield 93, 3) := by decide +kernel
theorem dX11_close_147 : decode cX11_close 147 = .ok (.iload_n 2, 1) := by decide +kernel
theorem dX11_close_148 : decode cX11_close 148 = .ok (.iaload, 1) := by decide +kernel
theorem dX11_close_149 : decode cX11_close 149 = .ok (.aload_n 0, 1) := by decide +kernel
theorem dX11_close_150 : decode cX11_close 150 = .ok (.getfield 126, 3) := by decide +kernel
theorem dX11_close_153 : decode cX11_close 153 = .ok (.iload_n 3, 1) := by decide +kernel
theorem dX11_close_154 : decode cX11_close 154 = .ok (.iaload, 1) := by decide +kernel
theorem dX11_close_155 : decode cX11_close 155 = .ok (.if_icmp .ge 12, 3) := by decide +kernel
theorem dX11_close_158 : decode cX11_close 158 = .ok (.aload_n 0, 1) := by decide +kernel
theorem dX11_close_159 : decode cX11_close 159 = .ok (.getfield 93, 3) := by decide +kernel
theorem dX11_close_162 : decode cX11_close 162 = .ok (.iload_n 2, 1) := by decide +kernel
theorem dX11_close_163 : decode cX11_close 163 = .ok (.iaload, 1) := by decide +kernel
theorem dX11_close_164 : decode cX11_close 164 = .ok (.goto 9, 3) := by decide +kernel
theorem dX11_close_167 : decode cX11_close 167 = .ok (.aload_n 0, 1) := by decide +kernel
theorem dX11_close_168 : decode cX11_close 168 = .ok (.getfield 126, 3) := by decide +kernel
theorem dX11_close_171 : decode cX11_close 171 = .ok (.iload_n 3, 1) := by decide +kernel
theorem dX11_close_172 : decode cX11_close 172 = .ok (.iaload, 1) := by decide +kernel
theorem dX11_close_173 : decode cX11_close 173 = .ok (.iastore, 1) := by decide +kernel
theorem dX11_close_174 : decode cX11_close 174 = .ok (.aload_n 0, 1) := by decide +kernel
theorem dX11_close_175 : decode cX11_close 175 = .ok (.getfield 126, 3) := by decide +kernel
theorem dX11_close_178 : decode cX11_close 178 = .ok (.iload_n 3, 1) := by decide +kernel
theorem dX11_close_179 : decode cX11_close 179 = .ok (.dup2, 1) := by decide +kernel
theorem dX11_close_180 : decode cX11_close 180 = .ok (.iaload, 1) := by decide +kernel
theorem dX11_close_181 : decode cX11_close 181 = .ok (.aload_n 0, 1) := by decide +kernel
theorem dX11_close_182 : decode cX11_close 182 = .ok (.getfield 105, 3) := by decide +kernel
theorem dX11_close_185 : decode cX11_close 185 = .ok (.iload_n 2, 1) := by decide +kernel
theorem dX11_close_186 : decode cX11_close 186 = .ok (.iaload, 1) := by decide +kernel
theorem dX11_close_187 : decode cX11_close 187 = .ok (.isub, 1) := by decide +kernel
theorem dX11_close_188 : decode cX11_close 188 = .ok (.iastore, 1) := by decide +kernel
theorem dX11_close_189 : decode cX11_close 189 = .ok (.aload_n 0, 1) := by decide +kernel
theorem dX11_close_190 : decode cX11_close 190 = .ok (.getfield 96, 3) := by decide +kernel
theorem dX11_close_193 : decode cX11_close 193 = .ok (.iload_n 2, 1) := by decide +kernel
theorem dX11_close_194 : decode cX11_close 194 = .ok (.iaload, 1) := by decide +kernel
theorem dX11_close_195 : decode cX11_close 195 = .ok (.ifCond .ge 6, 3) := by decide +kernel
theorem dX11_close_198 : decode cX11_close 198 = .ok (.goto 11, 3) := by decide +kernel
theorem dX11_close_201 : decode cX11_close 201 = .ok (.aload_n 0, 1) := by decide +kernel
theorem dX11_close_202 : decode cX11_close 202 = .ok (.iload_n 2, 1) := by decide +kernel
theorem dX11_close_203 : decode cX11_close 203 = .ok (.invokevirtual 241, 3) := by decide +kernel
theorem dX11_close_206 : decode cX11_close 206 = .ok (.iinc 1 1, 3) := by decide +kernel
theorem dX11_close_209 : decode cX11_close 209 = .ok (.iinc 2 1, 3) := by decide +kernel
theorem dX11_close_212 : decode cX11_close 212 = .ok (.goto (-138), 3) := by decide +kernel
theorem dX11_close_215 : decode cX11_close 215 = .ok (.iconst 0, 1) := by decide +kernel
theorem dX11_close_216 : decode cX11_close 216 = .ok (.istore_n 2, 1) := by decide +kernel
theorem dX11_close_217 : decode cX11_close 217 = .ok (.iload_n 2, 1) := by decide +kernel
theorem dX11_close_218 : decode cX11_close 218 = .ok (.aload_n 0, 1) := by decide +kernel
theorem dX11_close_219 : decode cX11_close 219 = .ok (.getfield 142, 3) := by decide +kernel
theorem dX11_close_222 : decode cX11_close 222 = .ok (.if_icmp .ge 16, 3) := by decide +kernel
theorem dX11_close_225 : decode cX11_close 225 = .ok (.aload_n 0, 1) := by decide +kernel
theorem dX11_close_226 : decode cX11_close 226 = .ok (.getfield 75, 3) := by decide +kernel
theorem dX11_close_229 : decode cX11_close 229 = .ok (.iload_n 2, 1) := by decide +kernel
theorem dX11_close_230 : decode cX11_close 230 = .ok (.iconst (-1), 1) := by decide +kernel
theorem dX11_close_231 : decode cX11_close 231 = .ok (.iastore, 1) := by decide +kernel
theorem dX11_close_232 : decode cX11_close 232 = .ok (.iinc 2 1, 3) := by decide +kernel
theorem dX11_close_235 : decode cX11_close 235 = .ok (.goto (-18), 3) := by decide +kernel
theorem dX11_close_238 : decode cX11_close 238 = .ok (.aload_n 0, 1) := by decide +kernel
theorem dX11_close_239 : decode cX11_close 239 = .ok (.dup, 1) := by decide +kernel
theorem dX11_close_240 : decode cX11_close 240 = .ok (.getfield 152, 3) := by decide +kernel
theorem dX11_close_243 : decode cX11_close 243 = .ok (.iconst 1, 1) := by decide +kernel
theorem dX11_close_244 : decode cX11_close 244 = .ok (.iadd, 1) := by decide +kernel
theorem dX11_close_245 : decode cX11_close 245 = .ok (.putfield 152, 3) := by decide +kernel
theorem dX11_close_248 : decode cX11_close 248 = .ok (.iload_n 1, 1) := by decide +kernel
theorem dX11_close_249 : decode cX11_close 249 = .ok (.ireturn, 1) := by decide +kernel
set_option maxRecDepth 20000 in
theorem ggX11_claim_X11_noTip : GoodIn wsX11_claim wsX11_noTip := goodIn_r _ [13, 14, 66, 67, 68, 69, 70, 71, 72, 73, 74, 75, 76, 77, 78, 79, 80, 81, 82, 83, 84, 85, 86, 87, 88, 89, 90, 91, 92, 93, 94, 95, 96, 97, 98, 99, 100, 101, 102, 103, 104, 105, 106, 107, 108, 109, 110, 111, 112, 113] (by decide +kernel) (by decide +kernel)
set_option maxRecDepth 20000 in
theorem gX11_claim_X11_noTip : GoodIn wsX11_claim (wsV RX11 233 RX11 yX11_noTip wsX11_noTip) := goodIn_app (goodIn_of _ (by decide +kernel)) ggX11_claim_X11_noTip
set_option maxRecDepth 20000 in
theorem ggX11_claim_X11_noBin : GoodIn wsX11_claim wsX11_noBin := goodIn_r _ [18, 19, 66, 67, 68, 69, 70, 71, 72, 73, 74, 75, 76, 77, 78, 79, 80, 81, 82, 83, 84, 85, 86, 87, 88, 89, 90, 91, 92, 93, 94, 95, 96, 97, 98, 99, 100, 101, 102, 103, 104, 105, 106, 107, 108, 109, 110, 111, 112, 113] (by decide +kernel) (by decide +kernel)
set_option maxRecDepth 20000 in
theorem gX11_claim_X11_noBin : GoodIn wsX11_claim (wsV RX11 212 RX11 yX11_noBin wsX11_noBin) := goodIn_app (goodIn_of _ (by decide +kernel)) ggX11_claim_X11_noBin
set_option maxRecDepth 20000 in
theorem ggX11_claim_X11_throwsIf : GoodIn wsX11_claim wsX11_throwsIf := goodIn_r _ [23, 1, 66, 67, 68, 69, 70, 71, 72, 73, 74, 75, 76, 77, 78, 79, 80, 81, 82, 83, 84, 85, 86, 87, 88, 89, 90, 91, 92, 93, 94, 95, 96, 97, 98, 99, 100, 101, 102, 103, 104, 105, 106, 107, 108, 109, 110, 111, 112, 113] (by decide +kernel) (by decide +kernel)
set_option maxRecDepth 20000 in
theorem gX11_claim_X11_throwsIf : GoodIn wsX11_claim (wsV RX11 186 RX11 yX11_throwsIf wsX11_throwsIf) := goodIn_app (goodIn_of _ (by decide +kernel)) ggX11_claim_X11_throwsIf
set_option maxRecDepth 20000 in
theorem ggX11_claim_X11_charges : GoodIn wsX11_claim wsX11_charges := goodIn_r _ [27, 8, 28, 29, 30, 3, 31, 32, 33, 34, 35, 36, 37, 38, 39, 12, 40, 41, 42, 43, 66, 67, 68, 69, 70, 71, 72, 73, 74, 75, 76, 77, 78, 79, 80, 81, 82, 83, 84, 85, 86, 87, 88, 89, 90, 91, 92, 93, 94, 95, 96, 97, 98, 99, 100, 101, 102, 103, 104, 105, 106, 107, 108, 109, 110, 111, 112, 113] (by decide +kernel) (by decide +kernel)
set_option maxRecDepth 20000 in
theorem gX11_claim_X11_charges : GoodIn wsX11_claim (wsV RX11 241 RX11 yX11_charges wsX11_charges) := goodIn_app (goodIn_of _ (by decide +kernel)) ggX11_claim_X11_charges
set_option maxRecDepth 20000 in
theorem ggX11_claim_X11_chargeOf : GoodIn wsX11_claim wsX11_chargeOf := goodIn_r _ [47, 36, 32, 34, 48, 49, 50, 51, 12, 52, 30, 8, 3, 53, 54, 55, 56, 57, 58, 59, 60, 61, 62, 63, 64, 65, 37, 38, 39, 40, 41, 42, 43, 66, 67, 68, 69, 70, 71, 72, 73, 74, 75, 76, 77, 78, 79, 80, 81, 82, 83, 84, 85, 86, 87, 88, 89, 90, 91, 92, 93, 94, 95, 96, 97, 98, 99, 100, 101, 102, 103, 104, 105, 106, 107, 108, 109, 110, 111, 112, 113] (by decide +kernel) (by decide +kernel)
set_option maxRecDepth 20000 in
theorem gX11_claim_X11_chargeOf : GoodIn wsX11_claim (wsV RX11 178 RX11 yX11_chargeOf wsX11_chargeOf) := goodIn_app (goodIn_of _ (by decide +kernel)) ggX11_claim_X11_chargeOf
theorem dX11_claim_0 : decode cX11_claim 0 = .ok (.aload_n 0, 1) := by decide +kernel
theorem dX11_claim_1 : decode cX11_claim 1 = .ok (.iconst 0, 1) := by decide +kernel
theorem dX11_claim_2 : decode cX11_claim 2 = .ok (.putfield 129, 3) := by decide +kernel
theorem dX11_claim_5 : decode cX11_claim 5 = .ok (.aload_n 0, 1) := by decide +kernel
theorem dX11_claim_6 : decode cX11_claim 6 = .ok (.aload_n 0, 1) := by decide +kernel
theorem dX11_claim_7 : decode cX11_claim 7 = .ok (.iload_n 1, 1) := by decide +kernel
theorem dX11_claim_8 : decode cX11_claim 8 = .ok (.invokevirtual 233, 3) := by decide +kernel
theorem dX11_claim_11 : decode cX11_claim 11 = .ok (.ifCond .ne 11, 3) := by decide +kernel
theorem dX11_claim_14 : decode cX11_claim 14 = .ok (.aload_n 0, 1) := by decide +kernel
theorem dX11_claim_15 : decode cX11_claim 15 = .ok (.iload_n 2, 1) := by decide +kernel
theorem dX11_claim_16 : decode cX11_claim 16 = .ok (.invokevirtual 212, 3) := by decide +kernel
theorem dX11_claim_19 : decode cX11_claim 19 = .ok (.ifCond .eq 7, 3) := by decide +kernel
theorem dX11_claim_22 : decode cX11_claim 22 = .ok (.iconst 1, 1) := by decide +kernel
theorem dX11_claim_23 : decode cX11_claim 23 = .ok (.goto 4, 3) := by decide +kernel
theorem dX11_claim_26 : decode cX11_claim 26 = .ok (.iconst 0, 1) := by decide +kernel
theorem dX11_claim_27 : decode cX11_claim 27 = .ok (.iconst 1, 1) := by decide +kernel
theorem dX11_claim_28 : decode cX11_claim 28 = .ok (.invokevirtual 186, 3) := by decide +kernel
theorem dX11_claim_31 : decode cX11_claim 31 = .ok (.ifCond .ne 76, 3) := by decide +kernel
theorem dX11_claim_34 : decode cX11_claim 34 = .ok (.aload_n 0, 1) := by decide +kernel
theorem dX11_claim_35 : decode cX11_claim 35 = .ok (.aload_n 0, 1) := by decide +kernel
theorem dX11_claim_36 : decode cX11_claim 36 = .ok (.getfield 99, 3) := by decide +kernel
theorem dX11_claim_39 : decode cX11_claim 39 = .ok (.iload_n 1, 1) := by decide +kernel
theorem dX11_claim_40 : decode cX11_claim 40 = .ok (.iaload, 1) := by decide +kernel
theorem dX11_claim_41 : decode cX11_claim 41 = .ok (.iconst 2, 1) := by decide +kernel
theorem dX11_claim_42 : decode cX11_claim 42 = .ok (.if_icmp .ne 16, 3) := by decide +kernel
theorem dX11_claim_45 : decode cX11_claim 45 = .ok (.aload_n 0, 1) := by decide +kernel
theorem dX11_claim_46 : decode cX11_claim 46 = .ok (.getfield 84, 3) := by decide +kernel
theorem dX11_claim_49 : decode cX11_claim 49 = .ok (.iload_n 1, 1) := by decide +kernel
theorem dX11_claim_50 : decode cX11_claim 50 = .ok (.iaload, 1) := by decide +kernel
theorem dX11_claim_51 : decode cX11_claim 51 = .ok (.aload_n 0, 1) := by decide +kernel
theorem dX11_claim_52 : decode cX11_claim 52 = .ok (.getfield 152, 3) := by decide +kernel
theorem dX11_claim_55 : decode cX11_claim 55 = .ok (.if_icmp .ne 7, 3) := by decide +kernel
theorem dX11_claim_58 : decode cX11_claim 58 = .ok (.iconst 1, 1) := by decide +kernel
theorem dX11_claim_59 : decode cX11_claim 59 = .ok (.goto 4, 3) := by decide +kernel
theorem dX11_claim_62 : decode cX11_claim 62 = .ok (.iconst 0, 1) := by decide +kernel
theorem dX11_claim_63 : decode cX11_claim 63 = .ok (.iconst 2, 1) := by decide +kernel
theorem dX11_claim_64 : decode cX11_claim 64 = .ok (.invokevirtual 186, 3) := by decide +kernel
theorem dX11_claim_67 : decode cX11_claim 67 = .ok (.ifCond .ne 40, 3) := by decide +kernel
theorem dX11_claim_70 : decode cX11_claim 70 = .ok (.aload_n 0, 1) := by decide +kernel
theorem dX11_claim_71 : decode cX11_claim 71 = .ok (.aload_n 0, 1) := by decide +kernel
theorem dX11_claim_72 : decode cX11_claim 72 = .ok (.getfield 39, 3) := by decide +kernel
theorem dX11_claim_75 : decode cX11_claim 75 = .ok (.iload_n 2, 1) := by decide +kernel
theorem dX11_claim_76 : decode cX11_claim 76 = .ok (.baload, 1) := by decide +kernel
theorem dX11_claim_77 : decode cX11_claim 77 = .ok (.ifCond .eq 18, 3) := by decide +kernel
theorem dX11_claim_80 : decode cX11_claim 80 = .ok (.aload_n 0, 1) := by decide +kernel
theorem dX11_claim_81 : decode cX11_claim 81 = .ok (.getfield 42, 3) := by decide +kernel
theorem dX11_claim_84 : decode cX11_claim 84 = .ok (.iload_n 2, 1) := by decide +kernel
theorem dX11_claim_85 : decode cX11_claim 85 = .ok (.iaload, 1) := by decide +kernel
theorem dX11_claim_86 : decode cX11_claim 86 = .ok (.aload_n 0, 1) := by decide +kernel
theorem dX11_claim_87 : decode cX11_claim 87 = .ok (.getfield 90, 3) := by decide +kernel
theorem dX11_claim_90 : decode cX11_claim 90 = .ok (.iload_n 1, 1) := by decide +kernel
theorem dX11_claim_91 : decode cX11_claim 91 = .ok (.iaload, 1) := by decide +kernel
theorem dX11_claim_92 : decode cX11_claim 92 = .ok (.if_icmp .eq 7, 3) := by decide +kernel
theorem dX11_claim_95 : decode cX11_claim 95 = .ok (.iconst 1, 1) := by decide +kernel
theorem dX11_claim_96 : decode cX11_claim 96 = .ok (.goto 4, 3) := by decide +kernel
theorem dX11_claim_99 : decode cX11_claim 99 = .ok (.iconst 0, 1) := by decide +kernel
theorem dX11_claim_100 : decode cX11_claim 100 = .ok (.iconst 3, 1) := by decide +kernel
theorem dX11_claim_101 : decode cX11_claim 101 = .ok (.invokevirtual 186, 3) := by decide +kernel
theorem dX11_claim_104 : decode cX11_claim 104 = .ok (.ifCond .eq 5, 3) := by decide +kernel
theorem dX11_claim_107 : decode cX11_claim 107 = .ok (.lconst 0, 1) := by decide +kernel
theorem dX11_claim_108 : decode cX11_claim 108 = .ok (.lreturn, 1) := by decide +kernel
theorem dX11_claim_109 : decode cX11_claim 109 = .ok (.aload_n 0, 1) := by decide +kernel
theorem dX11_claim_110 : decode cX11_claim 110 = .ok (.getfield 99, 3) := by decide +kernel
theorem dX11_claim_113 : decode cX11_claim 113 = .ok (.iload_n 1, 1) := by decide +kernel
theorem dX11_claim_114 : decode cX11_claim 114 = .ok (.iconst 3, 1) := by decide +kernel
theorem dX11_claim_115 : decode cX11_claim 115 = .ok (.iastore, 1) := by decide +kernel
theorem dX11_claim_116 : decode cX11_claim 116 = .ok (.aload_n 0, 1) := by decide +kernel
theorem dX11_claim_117 : decode cX11_claim 117 = .ok (.getfield 96, 3) := by decide +kernel
theorem dX11_claim_120 : decode cX11_claim 120 = .ok (.iload_n 1, 1) := by decide +kernel
theorem dX11_claim_121 : decode cX11_claim 121 = .ok (.iload_n 2, 1) := by decide +kernel
theorem dX11_claim_122 : decode cX11_claim 122 = .ok (.iastore, 1) := by decide +kernel
theorem dX11_claim_123 : decode cX11_claim 123 = .ok (.aload_n 0, 1) := by decide +kernel
theorem dX11_claim_124 : decode cX11_claim 124 = .ok (.iload_n 1, 1) := by decide +kernel
theorem dX11_claim_125 : decode cX11_claim 125 = .ok (.invokevirtual 241, 3) := by decide +kernel
theorem dX11_claim_128 : decode cX11_claim 128 = .ok (.aload_n 0, 1) := by decide +kernel
theorem dX11_claim_129 : decode cX11_claim 129 = .ok (.iload_n 1, 1) := by decide +kernel
theorem dX11_claim_130 : decode cX11_claim 130 = .ok (.invokevirtual 178, 3) := by decide +kernel
theorem dX11_claim_133 : decode cX11_claim 133 = .ok (.lreturn, 1) := by decide +kernel
set_option maxRecDepth 20000 in
theorem ggX11_weigh_X11_noTip : GoodIn wsX11_weigh wsX11_noTip := goodIn_r _ [16, 10, 24, 25, 26, 27, 28, 29, 30, 31, 32, 33, 34, 35, 36, 37, 38, 39, 40, 41, 42, 43, 44, 45, 46, 47, 48, 49, 50, 51, 52, 53, 54, 55, 56, 57, 58, 59, 60, 61, 62, 63, 64, 65, 66, 67, 68, 69, 70, 71] (by decide +kernel) (by decide +kernel)
set_option maxRecDepth 20000 in
theorem gX11_weigh_X11_noTip : GoodIn wsX11_weigh (wsV RX11 233 RX11 yX11_noTip wsX11_noTip) := goodIn_app (goodIn_of _ (by decide +kernel)) ggX11_weigh_X11_noTip
set_option maxRecDepth 20000 in
theorem ggX11_weigh_X11_throwsIf : GoodIn wsX11_weigh wsX11_throwsIf := goodIn_r _ [20, 1, 24, 25, 26, 27, 28, 29, 30, 31, 32, 33, 34, 35, 36, 37, 38, 39, 40, 41, 42, 43, 44, 45, 46, 47, 48, 49, 50, 51, 52, 53, 54, 55, 56, 57, 58, 59, 60, 61, 62, 63, 64, 65, 66, 67, 68, 69, 70, 71] (by decide +kernel) (by decide +kernel)
set_option maxRecDepth 20000 in
theorem gX11_weigh_X11_throwsIf : GoodIn wsX11_weigh (wsV RX11 186 RX11 yX11_throwsIf wsX11_throwsIf) := goodIn_app (goodIn_of _ (by decide +kernel)) ggX11_weigh_X11_throwsIf
set_option maxRecDepth 20000 in
theorem ggX11_weigh_X11_in : GoodIn wsX11_weigh wsX11_in := goodIn_r _ [23] (by decide +kernel) (by decide +kernel)
set_option maxRecDepth 20000 in
theorem gX11_weigh_X11_in : GoodIn wsX11_weigh (va_wsS RX11 195 yX11_in wsX11_in) := goodIn_app (goodIn_of _ (by decide +kernel)) ggX11_weigh_X11_in
theorem dX11_weigh_0 : decode cX11_weigh 0 = .ok (.aload_n 0, 1) := by decide +kernel
theorem dX11_weigh_1 : decode cX11_weigh 1 = .ok (.iconst 0, 1) := by decide +kernel
theorem dX11_weigh_2 : decode cX11_weigh 2 = .ok (.putfield 129, 3) := by decide +kernel
theorem dX11_weigh_5 : decode cX11_weigh 5 = .ok (.aload_n 0, 1) := by decide +kernel
theorem dX11_weigh_6 : decode cX11_weigh 6 = .ok (.aload_n 0, 1) := by decide +kernel
theorem dX11_weigh_7 : decode cX11_weigh 7 = .ok (.iload_n 1, 1) := by decide +kernel
theorem dX11_weigh_8 : decode cX11_weigh 8 = .ok (.invokevirtual 233, 3) := by decide +kernel
theorem dX11_weigh_11 : decode cX11_weigh 11 = .ok (.iconst 1, 1) := by decide +kernel
theorem dX11_weigh_12 : decode cX11_weigh 12 = .ok (.invokevirtual 186, 3) := by decide +kernel
theorem dX11_weigh_15 : decode cX11_weigh 15 = .ok (.ifCond .ne 51, 3) := by decide +kernel
theorem dX11_weigh_18 : decode cX11_weigh 18 = .ok (.aload_n 0, 1) := by decide +kernel
theorem dX11_weigh_19 : decode cX11_weigh 19 = .ok (.aload_n 0, 1) := by decide +kernel
theorem dX11_weigh_20 : decode cX11_weigh 20 = .ok (.getfield 102, 3) := by decide +kernel
theorem dX11_weigh_23 : decode cX11_weigh 23 = .ok (.iload_n 1, 1) := by decide +kernel
theorem dX11_weigh_24 : decode cX11_weigh 24 = .ok (.iaload, 1) := by decide +kernel
theorem dX11_weigh_25 : decode cX11_weigh 25 = .ok (.iconst 1, 1) := by decide +kernel
theorem dX11_weigh_26 : decode cX11_weigh 26 = .ok (.if_icmp .eq 7, 3) := by decide +kernel
theorem dX11_weigh_29 : decode cX11_weigh 29 = .ok (.iconst 1, 1) := by decide +kernel
theorem dX11_weigh_30 : decode cX11_weigh 30 = .ok (.goto 4, 3) := by decide +kernel
theorem dX11_weigh_33 : decode cX11_weigh 33 = .ok (.iconst 0, 1) := by decide +kernel
theorem dX11_weigh_34 : decode cX11_weigh 34 = .ok (.iconst 2, 1) := by decide +kernel
theorem dX11_weigh_35 : decode cX11_weigh 35 = .ok (.invokevirtual 186, 3) := by decide +kernel
theorem dX11_weigh_38 : decode cX11_weigh 38 = .ok (.ifCond .ne 28, 3) := by decide +kernel
theorem dX11_weigh_41 : decode cX11_weigh 41 = .ok (.aload_n 0, 1) := by decide +kernel
theorem dX11_weigh_42 : decode cX11_weigh 42 = .ok (.iload_n 2, 1) := by decide +kernel
theorem dX11_weigh_43 : decode cX11_weigh 43 = .ok (.i2l, 1) := by decide +kernel
theorem dX11_weigh_44 : decode cX11_weigh 44 = .ok (.lconst 0, 1) := by decide +kernel
theorem dX11_weigh_45 : decode cX11_weigh 45 = .ok (.ldc2_w 228, 3) := by decide +kernel
theorem dX11_weigh_48 : decode cX11_weigh 48 = .ok (.invokestatic 195, 3) := by decide +kernel
theorem dX11_weigh_51 : decode cX11_weigh 51 = .ok (.ifCond .ne 7, 3) := by decide +kernel
theorem dX11_weigh_54 : decode cX11_weigh 54 = .ok (.iconst 1, 1) := by decide +kernel
theorem dX11_weigh_55 : decode cX11_weigh 55 = .ok (.goto 4, 3) := by decide +kernel
theorem dX11_weigh_58 : decode cX11_weigh 58 = .ok (.iconst 0, 1) := by decide +kernel
theorem dX11_weigh_59 : decode cX11_weigh 59 = .ok (.iconst 3, 1) := by decide +kernel
theorem dX11_weigh_60 : decode cX11_weigh 60 = .ok (.invokevirtual 186, 3) := by decide +kernel
theorem dX11_weigh_63 : decode cX11_weigh 63 = .ok (.ifCond .eq 5, 3) := by decide +kernel
theorem dX11_weigh_66 : decode cX11_weigh 66 = .ok (.iconst 0, 1) := by decide +kernel
theorem dX11_weigh_67 : decode cX11_weigh 67 = .ok (.ireturn, 1) := by decide +kernel
theorem dX11_weigh_68 : decode cX11_weigh 68 = .ok (.aload_n 0, 1) := by decide +kernel
theorem dX11_weigh_69 : decode cX11_weigh 69 = .ok (.getfield 102, 3) := by decide +kernel
theorem dX11_weigh_72 : decode cX11_weigh 72 = .ok (.iload_n 1, 1) := by decide +kernel
theorem dX11_weigh_73 : decode cX11_weigh 73 = .ok (.iconst 2, 1) := by decide +kernel
theorem dX11_weigh_74 : decode cX11_weigh 74 = .ok (.iastore, 1) := by decide +kernel
theorem dX11_weigh_75 : decode cX11_weigh 75 = .ok (.aload_n 0, 1) := by decide +kernel
theorem dX11_weigh_76 : decode cX11_weigh 76 = .ok (.getfield 93, 3) := by decide +kernel
theorem dX11_weigh_79 : decode cX11_weigh 79 = .ok (.iload_n 1, 1) := by decide +kernel
theorem dX11_weigh_80 : decode cX11_weigh 80 = .ok (.iload_n 2, 1) := by decide +kernel
theorem dX11_weigh_81 : decode cX11_weigh 81 = .ok (.sipush 500, 3) := by decide +kernel
theorem dX11_weigh_84 : decode cX11_weigh 84 = .ok (.idiv, 1) := by decide +kernel
theorem dX11_weigh_85 : decode cX11_weigh 85 = .ok (.iastore, 1) := by decide +kernel
theorem dX11_weigh_86 : decode cX11_weigh 86 = .ok (.aload_n 0, 1) := by decide +kernel
theorem dX11_weigh_87 : decode cX11_weigh 87 = .ok (.getfield 72, 3) := by decide +kernel
theorem dX11_weigh_90 : decode cX11_weigh 90 = .ok (.aload_n 0, 1) := by decide +kernel
theorem dX11_weigh_91 : decode cX11_weigh 91 = .ok (.getfield 87, 3) := by decide +kernel
theorem dX11_weigh_94 : decode cX11_weigh 94 = .ok (.iload_n 1, 1) := by decide +kernel
theorem dX11_weigh_95 : decode cX11_weigh 95 = .ok (.iaload, 1) := by decide +kernel
theorem dX11_weigh_96 : decode cX11_weigh 96 = .ok (.dup2, 1) := by decide +kernel
theorem dX11_weigh_97 : decode cX11_weigh 97 = .ok (.iaload, 1) := by decide +kernel
theorem dX11_weigh_98 : decode cX11_weigh 98 = .ok (.iload_n 2, 1) := by decide +kernel
theorem dX11_weigh_99 : decode cX11_weigh 99 = .ok (.sipush 500, 3) := by decide +kernel
theorem dX11_weigh_102 : decode cX11_weigh 102 = .ok (.irem, 1) := by decide +kernel
theorem dX11_weigh_103 : decode cX11_weigh 103 = .ok (.iadd, 1) := by decide +kernel
theorem dX11_weigh_104 : decode cX11_weigh 104 = .ok (.iastore, 1) := by decide +kernel
theorem dX11_weigh_105 : decode cX11_weigh 105 = .ok (.aload_n 0, 1) := by decide +kernel
theorem dX11_weigh_106 : decode cX11_weigh 106 = .ok (.getfield 84, 3) := by decide +kernel
theorem dX11_weigh_109 : decode cX11_weigh 109 = .ok (.iload_n 1, 1) := by decide +kernel
theorem dX11_weigh_110 : decode cX11_weigh 110 = .ok (.iaload, 1) := by decide +kernel
theorem dX11_weigh_111 : decode cX11_weigh 111 = .ok (.aload_n 0, 1) := by decide +kernel
theorem dX11_weigh_112 : decode cX11_weigh 112 = .ok (.getfield 152, 3) := by decide +kernel
theorem dX11_weigh_115 : decode cX11_weigh 115 = .ok (.if_icmp .ne 10, 3) := by decide +kernel
theorem dX11_weigh_118 : decode cX11_weigh 118 = .ok (.aload_n 0, 1) := by decide +kernel
theorem dX11_weigh_119 : decode cX11_weigh 119 = .ok (.getfield 93, 3) := by decide +kernel
theorem dX11_weigh_122 : decode cX11_weigh 122 = .ok (.iload_n 1, 1) := by decide +kernel
theorem dX11_weigh_123 : decode cX11_weigh 123 = .ok (.iaload, 1) := by decide +kernel
theorem dX11_weigh_124 : decode cX11_weigh 124 = .ok (.ireturn, 1) := by decide +kernel
theorem dX11_weigh_125 : decode cX11_weigh 125 = .ok (.aload_n 0, 1) := by decide +kernel
theorem dX11_weigh_126 : decode cX11_weigh 126 = .ok (.getfield 93, 3) := by decide +kernel
theorem dX11_weigh_129 : decode cX11_weigh 129 = .ok (.iload_n 1, 1) := by decide +kernel
theorem dX11_weigh_130 : decode cX11_weigh 130 = .ok (.iaload, 1) := by decide +kernel
theorem dX11_weigh_131 : decode cX11_weigh 131 = .ok (.istore_n 3, 1) := by decide +kernel
theorem dX11_weigh_132 : decode cX11_weigh 132 = .ok (.aload_n 0, 1) := by decide +kernel
theorem dX11_weigh_133 : decode cX11_weigh 133 = .ok (.getfield 120, 3) := by decide +kernel
theorem dX11_weigh_136 : decode cX11_weigh 136 = .ok (.iload_n 1, 1) := by decide +kernel
theorem dX11_weigh_137 : decode cX11_weigh 137 = .ok (.iaload, 1) := by decide +kernel
theorem dX11_weigh_138 : decode cX11_weigh 138 = .ok (.ifCond .lt 105, 3) := by decide +kernel
theorem dX11_weigh_141 : decode cX11_weigh 141 = .ok (.iconst 0, 1) := by decide +kernel
theorem dX11_weigh_142 : decode cX11_weigh 142 = .ok (.istore 4, 2) := by decide +kernel
theorem dX11_weigh_144 : decode cX11_weigh 144 = .ok (.iconst 0, 1) := by decide +kernel
theorem dX11_weigh_145 : decode cX11_weigh 145 = .ok (.istore 5, 2) := by decide +kernel
theorem dX11_weigh_147 : decode cX11_weigh 147 = .ok (.iload 5, 2) := by decide +kernel
theorem dX11_weigh_149 : decode cX11_weigh 149 = .ok (.aload_n 0, 1) := by decide +kernel
theorem dX11_weigh_150 : decode cX11_weigh 150 = .ok (.getfield 145, 3) := by decide +kernel
theorem dX11_weigh_153 : decode cX11_weigh 153 = .ok (.if_icmp .ge 63, 3) := by decide +kernel
theorem dX11_weigh_156 : decode cX11_weigh 156 = .ok (.iload 4, 2) := by decide +kernel
theorem dX11_weigh_158 : decode cX11_weigh 158 = .ok (.iload 5, 2) := by decide +kernel
theorem dX11_weigh_160 : decode cX11_weigh 160 = .ok (.iload_n 1, 1) := by decide +kernel
theorem dX11_weigh_161 : decode cX11_weigh 161 = .ok (.if_icmp .eq 45, 3) := by decide +kernel
theorem dX11_weigh_164 : decode cX11_weigh 164 = .ok (.aload_n 0, 1) := by decide +kernel
theorem dX11_weigh_165 : decode cX11_weigh 165 = .ok (.getfield 84, 3) := by decide +kernel
theorem dX11_weigh_168 : decode cX11_weigh 168 = .ok (.iload 5, 2) := by decide +kernel
theorem dX11_weigh_170 : decode cX11_weigh 170 = .ok (.iaload, 1) := by decide +kernel
theorem dX11_weigh_171 : decode cX11_weigh 171 = .ok (.aload_n 0, 1) := by decide +kernel
theorem dX11_weigh_172 : decode cX11_weigh 172 = .ok (.getfield 84, 3) := by decide +kernel
theorem dX11_weigh_175 : decode cX11_weigh 175 = .ok (.iload_n 1, 1) := by decide +kernel
theorem dX11_weigh_176 : decode cX11_weigh 176 = .ok (.iaload, 1) := by decide +kernel
theorem dX11_weigh_177 : decode cX11_weigh 177 = .ok (.if_icmp .ne 29, 3) := by decide +kernel
theorem dX11_weigh_180 : decode cX11_weigh 180 = .ok (.aload_n 0, 1) := by decide +kernel
theorem dX11_weigh_181 : decode cX11_weigh 181 = .ok (.getfield 87, 3) := by decide +kernel
theorem dX11_weigh_184 : decode cX11_weigh 184 = .ok (.iload 5, 2) := by decide +kernel
theorem dX11_weigh_186 : decode cX11_weigh 186 = .ok (.iaload, 1) := by decide +kernel
theorem dX11_weigh_187 : decode cX11_weigh 187 = .ok (.aload_n 0, 1) := by decide +kernel
theorem dX11_weigh_188 : decode cX11_weigh 188 = .ok (.getfield 87, 3) := by decide +kernel
theorem dX11_weigh_191 : decode cX11_weigh 191 = .ok (.iload_n 1, 1) := by decide +kernel
theorem dX11_weigh_192 : decode cX11_weigh 192 = .ok (.iaload, 1) := by decide +kernel
theorem dX11_weigh_193 : decode cX11_weigh 193 = .ok (.if_icmp .ne 13, 3) := by decide +kernel
theorem dX11_weigh_196 : decode cX11_weigh 196 = .ok (.aload_n 0, 1) := by decide +kernel
theorem dX11_weigh_197 : decode cX11_weigh 197 = .ok (.getfield 105, 3) := by decide +kernel
theorem dX11_weigh_200 : decode cX11_weigh 200 = .ok (.iload 5, 2) := by decide +kernel
theorem dX11_weigh_202 : decode cX11_weigh 202 = .ok (.iaload, 1) := by decide +kernel
theorem dX11_weigh_203 : decode cX11_weigh 203 = .ok (.goto 4, 3) := by decide +kernel
theorem dX11_weigh_206 : decode cX11_weigh 206 = .ok (.iconst 0, 1) := by decide +kernel
theorem dX11_weigh_207 : decode cX11_weigh 207 = .ok (.iadd, 1) := by decide +kernel
theorem dX11_weigh_208 : decode cX11_weigh 208 = .ok (.istore 4, 2) := by decide +kernel
theorem dX11_weigh_210 : decode cX11_weigh 210 = .ok (.iinc 5 1, 3) := by decide +kernel
theorem dX11_weigh_213 : decode cX11_weigh 213 = .ok (.goto (-66), 3) := by decide +kernel
theorem dX11_weigh_216 : decode cX11_weigh 216 = .ok (.aload_n 0, 1) := by decide +kernel
theorem dX11_weigh_217 : decode cX11_weigh 217 = .ok (.getfield 120, 3) := by decide +kernel
theorem dX11_weigh_220 : decode cX11_weigh 220 = .ok (.iload_n 1, 1) := by decide +kernel
theorem dX11_weigh_221 : decode cX11_weigh 221 = .ok (.iaload, 1) := by decide +kernel
theorem dX11_weigh_222 : decode cX11_weigh 222 = .ok (.iload 4, 2) := by decide +kernel
theorem dX11_weigh_224 : decode cX11_weigh 224 = .ok (.isub, 1) := by decide +kernel
theorem dX11_weigh_225 : decode cX11_weigh 225 = .ok (.iload_n 3, 1) := by decide +kernel
theorem dX11_weigh_226 : decode cX11_weigh 226 = .ok (.if_icmp .ge 15, 3) := by decide +kernel
theorem dX11_weigh_229 : decode cX11_weigh 229 = .ok (.aload_n 0, 1) := by decide +kernel
theorem dX11_weigh_230 : decode cX11_weigh 230 = .ok (.getfield 120, 3) := by decide +kernel
theorem dX11_weigh_233 : decode cX11_weigh 233 = .ok (.iload_n 1, 1) := by decide +kernel
theorem dX11_weigh_234 : decode cX11_weigh 234 = .ok (.iaload, 1) := by decide +kernel
theorem dX11_weigh_235 : decode cX11_weigh 235 = .ok (.iload 4, 2) := by decide +kernel
theorem dX11_weigh_237 : decode cX11_weigh 237 = .ok (.isub, 1) := by decide +kernel
theorem dX11_weigh_238 : decode cX11_weigh 238 = .ok (.goto 4, 3) := by decide +kernel
theorem dX11_weigh_241 : decode cX11_weigh 241 = .ok (.iload_n 3, 1) := by decide +kernel
theorem dX11_weigh_242 : decode cX11_weigh 242 = .ok (.istore_n 3, 1) := by decide +kernel
theorem dX11_weigh_243 : decode cX11_weigh 243 = .ok (.aload_n 0, 1) := by decide +kernel
theorem dX11_weigh_244 : decode cX11_weigh 244 = .ok (.getfield 105, 3) := by decide +kernel
theorem dX11_weigh_247 : decode cX11_weigh 247 = .ok (.iload_n 1, 1) := by decide +kernel
theorem dX11_weigh_248 : decode cX11_weigh 248 = .ok (.iload_n 3, 1) := by decide +kernel
theorem dX11_weigh_249 : decode cX11_weigh 249 = .ok (.iastore, 1) := by decide +kernel
theorem dX11_weigh_250 : decode cX11_weigh 250 = .ok (.aload_n 0, 1) := by decide +kernel
theorem dX11_weigh_251 : decode cX11_weigh 251 = .ok (.getfield 93, 3) := by decide +kernel
theorem dX11_weigh_254 : decode cX11_weigh 254 = .ok (.iload_n 1, 1) := by decide +kernel
theorem dX11_weigh_255 : decode cX11_weigh 255 = .ok (.iaload, 1) := by decide +kernel
theorem dX11_weigh_256 : decode cX11_weigh 256 = .ok (.ireturn, 1) := by decide +kernel
theorem dX11_one_0 : decode cX11_one 0 = .ok (.iload_n 0, 1) := by decide +kernel
theorem dX11_one_1 : decode cX11_one 1 = .ok (.ifCond .eq 7, 3) := by decide +kernel
theorem dX11_one_4 : decode cX11_one 4 = .ok (.iconst 1, 1) := by decide +kernel
theorem dX11_one_5 : decode cX11_one 5 = .ok (.goto 4, 3) := by decide +kernel
theorem dX11_one_8 : decode cX11_one 8 = .ok (.iconst 0, 1) := by decide +kernel
theorem dX11_one_9 : decode cX11_one 9 = .ok (.ireturn, 1) := by decide +kernel
set_option maxRecDepth 20000 in
theorem ggX11_look_X11_noTip : GoodIn wsX11_look wsX11_noTip := goodIn_r _ [16, 17, 25, 26, 27, 28, 29, 30, 31, 32, 33, 34, 35, 36, 37, 38, 39, 40, 41, 42, 43, 44, 45, 46, 47, 48, 49, 50, 51, 52, 53, 54, 55, 56, 57, 58, 59, 60, 61, 62, 63, 64, 65, 66, 67, 68, 69, 70, 71, 72] (by decide +kernel) (by decide +kernel)
set_option maxRecDepth 20000 in
theorem gX11_look_X11_noTip : GoodIn wsX11_look (wsV RX11 233 RX11 yX11_noTip wsX11_noTip) := goodIn_app (goodIn_of _ (by decide +kernel)) ggX11_look_X11_noTip
set_option maxRecDepth 20000 in
theorem ggX11_look_X11_throwsIf : GoodIn wsX11_look wsX11_throwsIf := goodIn_r _ [21, 1, 25, 26, 27, 28, 29, 30, 31, 32, 33, 34, 35, 36, 37, 38, 39, 40, 41, 42, 43, 44, 45, 46, 47, 48, 49, 50, 51, 52, 53, 54, 55, 56, 57, 58, 59, 60, 61, 62, 63, 64, 65, 66, 67, 68, 69, 70, 71, 72] (by decide +kernel) (by decide +kernel)
set_option maxRecDepth 20000 in
theorem gX11_look_X11_throwsIf : GoodIn wsX11_look (wsV RX11 186 RX11 yX11_throwsIf wsX11_throwsIf) := goodIn_app (goodIn_of _ (by decide +kernel)) ggX11_look_X11_throwsIf
set_option maxRecDepth 20000 in
theorem ggX11_look_X11_one : GoodIn wsX11_look wsX11_one := goodIn_r _ [24] (by decide +kernel) (by decide +kernel)
set_option maxRecDepth 20000 in
theorem gX11_look_X11_one : GoodIn wsX11_look (va_wsS RX11 245 yX11_one wsX11_one) := goodIn_app (goodIn_of _ (by decide +kernel)) ggX11_look_X11_one
theorem dX11_look_0 : decode cX11_look 0 = .ok (.aload_n 0, 1) := by decide +kernel
theorem dX11_look_1 : decode cX11_look 1 = .ok (.iconst 0, 1) := by decide +kernel
theorem dX11_look_2 : decode cX11_look 2 = .ok (.putfield 129, 3) := by decide +kernel
theorem dX11_look_5 : decode cX11_look 5 = .ok (.aload_n 0, 1) := by decide +kernel
theorem dX11_look_6 : decode cX11_look 6 = .ok (.aload_n 0, 1) := by decide +kernel
theorem dX11_look_7 : decode cX11_look 7 = .ok (.iload_n 1, 1) := by decide +kernel
theorem dX11_look_8 : decode cX11_look 8 = .ok (.invokevirtual 233, 3) := by decide +kernel
theorem dX11_look_11 : decode cX11_look 11 = .ok (.iconst 1, 1) := by decide +kernel
theorem dX11_look_12 : decode cX11_look 12 = .ok (.invokevirtual 186, 3) := by decide +kernel
theorem dX11_look_15 : decode cX11_look 15 = .ok (.ifCond .eq 5, 3) := by decide +kernel
theorem dX11_look_18 : decode cX11_look 18 = .ok (.iconst 0, 1) := by decide +kernel
theorem dX11_look_19 : decode cX11_look 19 = .ok (.ireturn, 1) := by decide +kernel
theorem dX11_look_20 : decode cX11_look 20 = .ok (.iload_n 2, 1) := by decide +kernel
theorem dX11_look_21 : decode cX11_look 21 = .ok (.tableswitch 131 0 9 #[55, 62, 69, 76, 83, 90, 97, 104, 111, 121], 55) := by decide +kernel
theorem dX11_look_76 : decode cX11_look 76 = .ok (.aload_n 0, 1) := by decide +kernel
theorem dX11_look_77 : decode cX11_look 77 = .ok (.getfield 84, 3) := by decide +kernel
theorem dX11_look_80 : decode cX11_look 80 = .ok (.iload_n 1, 1) := by decide +kernel
theorem dX11_look_81 : decode cX11_look 81 = .ok (.iaload, 1) := by decide +kernel
theorem dX11_look_82 : decode cX11_look 82 = .ok (.ireturn, 1) := by decide +kernel
theorem dX11_look_83 : decode cX11_look 83 = .ok (.aload_n 0, 1) := by decide +kernel
theorem dX11_look_84 : decode cX11_look 84 = .ok (.getfield 87, 3) := by decide +kernel
theorem dX11_look_87 : decode cX11_look 87 = .ok (.iload_n 1, 1) := by decide +kernel
theorem dX11_look_88 : decode cX11_look 88 = .ok (.iaload, 1) := by decide +kernel
theorem dX11_look_89 : decode cX11_look 89 = .ok (.ireturn, 1) := by decide +kernel
theorem dX11_look_90 : decode cX11_look 90 = .ok (.aload_n 0, 1) := by decide +kernel
theorem dX11_look_91 : decode cX11_look 91 = .ok (.getfield 90, 3) := by decide +kernel
theorem dX11_look_94 : decode cX11_look 94 = .ok (.iload_n 1, 1) := by decide +kernel
theorem dX11_look_95 : decode cX11_look 95 = .ok (.iaload, 1) := by decide +kernel
theorem dX11_look_96 : decode cX11_look 96 = .ok (.ireturn, 1) := by decide +kernel
theorem dX11_look_97 : decode cX11_look 97 = .ok (.aload_n 0, 1) := by decide +kernel
theorem dX11_look_98 : decode cX11_look 98 = .ok (.getfield 93, 3) := by decide +kernel
theorem dX11_look_101 : decode cX11_look 101 = .ok (.iload_n 1, 1) := by decide +kernel
theorem dX11_look_102 : decode cX11_look 102 = .ok (.iaload, 1) := by decide +kernel
theorem dX11_look_103 : decode cX11_look 103 = .ok (.ireturn, 1) := by decide +kernel
theorem dX11_look_104 : decode cX11_look 104 = .ok (.aload_n 0, 1) := by decide +kernel
theorem dX11_look_105 : decode cX11_look 105 = .ok (.getfield 96, 3) := by decide +kernel
theorem dX11_look_108 : decode cX11_look 108 = .ok (.iload_n 1, 1) := by decide +kernel
theorem dX11_look_109 : decode cX11_look 109 = .ok (.iaload, 1) := by decide +kernel
theorem dX11_look_110 : decode cX11_look 110 = .ok (.ireturn, 1) := by decide +kernel
theorem dX11_look_111 : decode cX11_look 111 = .ok (.aload_n 0, 1) := by decide +kernel
theorem dX11_look_112 : decode cX11_look 112 = .ok (.getfield 99, 3) := by decide +kernel
theorem dX11_look_115 : decode cX11_look 115 = .ok (.iload_n 1, 1) := by decide +kernel
theorem dX11_look_116 : decode cX11_look 116 = .ok (.iaload, 1) := by decide +kernel
theorem dX11_look_117 : decode cX11_look 117 = .ok (.ireturn, 1) := by decide +kernel
theorem dX11_look_118 : decode cX11_look 118 = .ok (.aload_n 0, 1) := by decide +kernel
theorem dX11_look_119 : decode cX11_look 119 = .ok (.getfield 102, 3) := by decide +kernel
theorem dX11_look_122 : decode cX11_look 122 = .ok (.iload_n 1, 1) := by decide +kernel
theorem dX11_look_123 : decode cX11_look 123 = .ok (.iaload, 1) := by decide +kernel
theorem dX11_look_124 : decode cX11_look 124 = .ok (.ireturn, 1) := by decide +kernel
theorem dX11_look_125 : decode cX11_look 125 = .ok (.aload_n 0, 1) := by decide +kernel
theorem dX11_look_126 : decode cX11_look 126 = .ok (.getfield 105, 3) := by decide +kernel
theorem dX11_look_129 : decode cX11_look 129 = .ok (.iload_n 1, 1) := by decide +kernel
theorem dX11_look_130 : decode cX11_look 130 = .ok (.iaload, 1) := by decide +kernel
theorem dX11_look_131 : decode cX11_look 131 = .ok (.ireturn, 1) := by decide +kernel
theorem dX11_look_132 : decode cX11_look 132 = .ok (.aload_n 0, 1) := by decide +kernel
theorem dX11_look_133 : decode cX11_look 133 = .ok (.getfield 108, 3) := by decide +kernel
theorem dX11_look_136 : decode cX11_look 136 = .ok (.iload_n 1, 1) := by decide +kernel
theorem dX11_look_137 : decode cX11_look 137 = .ok (.baload, 1) := by decide +kernel
theorem dX11_look_138 : decode cX11_look 138 = .ok (.invokestatic 245, 3) := by decide +kernel
theorem dX11_look_141 : decode cX11_look 141 = .ok (.ireturn, 1) := by decide +kernel
theorem dX11_look_142 : decode cX11_look 142 = .ok (.aload_n 0, 1) := by decide +kernel
theorem dX11_look_143 : decode cX11_look 143 = .ok (.getfield 111, 3) := by decide +kernel
theorem dX11_look_146 : decode cX11_look 146 = .ok (.iload_n 1, 1) := by decide +kernel
theorem dX11_look_147 : decode cX11_look 147 = .ok (.baload, 1) := by decide +kernel
theorem dX11_look_148 : decode cX11_look 148 = .ok (.invokestatic 245, 3) := by decide +kernel
theorem dX11_look_151 : decode cX11_look 151 = .ok (.ireturn, 1) := by decide +kernel
theorem dX11_look_152 : decode cX11_look 152 = .ok (.aload_n 0, 1) := by decide +kernel
theorem dX11_look_153 : decode cX11_look 153 = .ok (.iconst 2, 1) := by decide +kernel
theorem dX11_look_154 : decode cX11_look 154 = .ok (.putfield 129, 3) := by decide +kernel
theorem dX11_look_157 : decode cX11_look 157 = .ok (.iconst 0, 1) := by decide +kernel
theorem dX11_look_158 : decode cX11_look 158 = .ok (.ireturn, 1) := by decide +kernel
set_option maxRecDepth 20000 in
theorem ggX11_charge_X11_noTip : GoodIn wsX11_charge wsX11_noTip := goodIn_r _ [6, 7, 47, 48, 49, 50, 51, 52, 53, 54, 55, 56, 57, 58, 59, 60, 61, 62, 63, 64, 65, 66, 67, 68, 69, 70, 71, 72, 73, 74, 75, 76, 77, 78, 79, 80, 81, 82, 83, 84, 85, 86, 87, 88, 89, 90, 91, 92, 93, 94] (by decide +kernel) (by decide +kernel)
set_option maxRecDepth 20000 in
theorem gX11_charge_X11_noTip : GoodIn wsX11_charge (wsV RX11 233 RX11 yX11_noTip wsX11_noTip) := goodIn_app (goodIn_of _ (by decide +kernel)) ggX11_charge_X11_noTip
set_option maxRecDepth 20000 in
theorem ggX11_charge_X11_throwsIf : GoodIn wsX11_charge wsX11_throwsIf := goodIn_r _ [11, 1, 47, 48, 49, 50, 51, 52, 53, 54, 55, 56, 57, 58, 59, 60, 61, 62, 63, 64, 65, 66, 67, 68, 69, 70, 71, 72, 73, 74, 75, 76, 77, 78, 79, 80, 81, 82, 83, 84, 85, 86, 87, 88, 89, 90, 91, 92, 93, 94] (by decide +kernel) (by decide +kernel)
set_option maxRecDepth 20000 in
theorem gX11_charge_X11_throwsIf : GoodIn wsX11_charge (wsV RX11 186 RX11 yX11_throwsIf wsX11_throwsIf) := goodIn_app (goodIn_of _ (by decide +kernel)) ggX11_charge_X11_throwsIf
set_option maxRecDepth 20000 in
theorem ggX11_charge_X11_chargeOf : GoodIn wsX11_charge wsX11_chargeOf := goodIn_r _ [15, 16, 17, 18, 19, 20, 21, 22, 5, 23, 24, 25, 26, 27, 28, 29, 30, 31, 32, 33, 34, 35, 36, 37, 38, 39, 40, 41, 42, 43, 44, 45, 46, 47, 48, 49, 50, 51, 52, 53, 54, 55, 56, 57, 58, 59, 60, 61, 62, 63, 64, 65, 66, 67, 68, 69, 70, 71, 72, 73, 74, 75, 76, 77, 78, 79, 80, 81, 82, 83, 84, 85, 86, 87, 88, 89, 90, 91, 92, 93, 94] (by decide +kernel) (by decide +kernel)
set_option maxRecDepth 20000 in
theorem gX11_charge_X11_chargeOf : GoodIn wsX11_charge (wsV RX11 178 RX11 yX11_chargeOf wsX11_chargeOf) := goodIn_app (goodIn_of _ (by decide +kernel)) ggX11_charge_X11_chargeOf
theorem dX11_charge_0 : decode cX11_charge 0 = .ok (.aload_n 0, 1) := by decide +kernel
theorem dX11_charge_1 : decode cX11_charge 1 = .ok (.iconst 0, 1) := by decide +kernel
theorem dX11_charge_2 : decode cX11_charge 2 = .ok (.putfield 129, 3) := by decide +kernel
theorem dX11_charge_5 : decode cX11_charge 5 = .ok (.aload_n 0, 1) := by decide +kernel
theorem dX11_charge_6 : decode cX11_charge 6 = .ok (.aload_n 0, 1) := by decide +kernel
theorem dX11_charge_7 : decode cX11_charge 7 = .ok (.iload_n 1, 1) := by decide +kernel
theorem dX11_charge_8 : decode cX11_charge 8 = .ok (.invokevirtual 233, 3) := by decide +kernel
theorem dX11_charge_11 : decode cX11_charge 11 = .ok (.iconst 1, 1) := by decide +kernel
theorem dX11_charge_12 : decode cX11_charge 12 = .ok (.invokevirtual 186, 3) := by decide +kernel
theorem dX11_charge_15 : decode cX11_charge 15 = .ok (.ifCond .eq 7, 3) := by decide +kernel
theorem dX11_charge_18 : decode cX11_charge 18 = .ok (.lconst 0, 1) := by decide +kernel
theorem dX11_charge_19 : decode cX11_charge 19 = .ok (.goto 8, 3) := by decide +kernel
theorem dX11_charge_22 : decode cX11_charge 22 = .ok (.aload_n 0, 1) := by decide +kernel
theorem dX11_charge_23 : decode cX11_charge 23 = .ok (.iload_n 1, 1) := by decide +kernel
theorem dX11_charge_24 : decode cX11_charge 24 = .ok (.invokevirtual 178, 3) := by decide +kernel
theorem dX11_charge_27 : decode cX11_charge 27 = .ok (.lreturn, 1) := by decide +kernel
set_option maxRecDepth 20000 in
theorem ggX11_share_X11_noTip : GoodIn wsX11_share wsX11_noTip := goodIn_r _ [6, 7, 55, 56, 57, 58, 59, 60, 61, 62, 63, 64, 65, 66, 67, 68, 69, 70, 71, 72, 73, 74, 75, 76, 77, 78, 79, 80, 81, 82, 83, 84, 85, 86, 87, 88, 89, 90, 91, 92, 93, 94, 95, 96, 97, 98, 99, 100, 101, 102] (by decide +kernel) (by decide +kernel)
set_option maxRecDepth 20000 in
theorem gX11_share_X11_noTip : GoodIn wsX11_share (wsV RX11 233 RX11 yX11_noTip wsX11_noTip) := goodIn_app (goodIn_of _ (by decide +kernel)) ggX11_share_X11_noTip
set_option maxRecDepth 20000 in
theorem ggX11_share_X11_noHouse : GoodIn wsX11_share wsX11_noHouse := goodIn_r _ [11, 12, 55, 56, 57, 58, 59, 60, 61, 62, 63, 64, 65, 66, 67, 68, 69, 70, 71, 72, 73, 74, 75, 76, 77, 78, 79, 80, 81, 82, 83, 84, 85, 86, 87, 88, 89, 90, 91, 92, 93, 94, 95, 96, 97, 98, 99, 100, 101, 102] (by decide +kernel) (by decide +kernel)
set_option maxRecDepth 20000 in
theorem gX11_share_X11_noHouse : GoodIn wsX11_share (wsV RX11 209 RX11 yX11_noHouse wsX11_noHouse) := goodIn_app (goodIn_of _ (by decide +kernel)) ggX11_share_X11_noHouse
set_option maxRecDepth 20000 in
theorem ggX11_share_X11_throwsIf : GoodIn wsX11_share wsX11_throwsIf := goodIn_r _ [16, 1, 55, 56, 57, 58, 59, 60, 61, 62, 63, 64, 65, 66, 67, 68, 69, 70, 71, 72, 73, 74, 75, 76, 77, 78, 79, 80, 81, 82, 83, 84, 85, 86, 87, 88, 89, 90, 91, 92, 93, 94, 95, 96, 97, 98, 99, 100, 101, 102] (by decide +kernel) (by decide +kernel)
set_option maxRecDepth 20000 in
theorem gX11_share_X11_throwsIf : GoodIn wsX11_share (wsV RX11 186 RX11 yX11_throwsIf wsX11_throwsIf) := goodIn_app (goodIn_of _ (by decide +kernel)) ggX11_share_X11_throwsIf
set_option maxRecDepth 20000 in
theorem ggX11_share_X11_shareOf : GoodIn wsX11_share wsX11_shareOf := goodIn_r _ [20, 21, 22, 23, 24, 12, 25, 26, 27, 5, 28, 29, 30, 31, 32, 33, 34, 35, 36, 37, 38, 39, 40, 41, 42, 43, 44, 45, 46, 47, 48, 49, 50, 51, 52, 53, 54, 55, 56, 57, 58, 59, 60, 61, 62, 63, 64, 65, 66, 67, 68, 69, 70, 71, 72, 73, 74, 75, 76, 77, 78, 79, 80, 81, 82, 83, 84, 85, 86, 87, 88, 89, 90, 91, 92, 93, 94, 95, 96, 97, 98, 99, 100, 101, 102] (by decide +kernel) (by decide +kernel)
set_option maxRecDepth 20000 in
theorem gX11_share_X11_shareOf : GoodIn wsX11_share (wsV RX11 182 RX11 yX11_shareOf wsX11_shareOf) := goodIn_app (goodIn_of _ (by decide +kernel)) ggX11_share_X11_shareOf
theorem dX11_share_0 : decode cX11_share 0 = .ok (.aload_n 0, 1) := by decide +kernel
theorem dX11_share_1 : decode cX11_share 1 = .ok (.iconst 0, 1) := by decide +kernel
theorem dX11_share_2 : decode cX11_share 2 = .ok (.putfield 129, 3) := by decide +kernel
theorem dX11_share_5 : decode cX11_share 5 = .ok (.aload_n 0, 1) := by decide +kernel
theorem dX11_share_6 : decode cX11_share 6 = .ok (.aload_n 0, 1) := by decide +kernel
theorem dX11_share_7 : decode cX11_share 7 = .ok (.iload_n 1, 1) := by decide +kernel
theorem dX11_share_8 : decode cX11_share 8 = .ok (.invokevirtual 233, 3) := by decide +kernel
theorem dX11_share_11 : decode cX11_share 11 = .ok (.ifCond .ne 11, 3) := by decide +kernel
theorem dX11_share_14 : decode cX11_share 14 = .ok (.aload_n 0, 1) := by decide +kernel
theorem dX11_share_15 : decode cX11_share 15 = .ok (.iload_n 2, 1) := by decide +kernel
theorem dX11_share_16 : decode cX11_share 16 = .ok (.invokevirtual 209, 3) := by decide +kernel
theorem dX11_share_19 : decode cX11_share 19 = .ok (.ifCond .eq 7, 3) := by decide +kernel
theorem dX11_share_22 : decode cX11_share 22 = .ok (.iconst 1, 1) := by decide +kernel
theorem dX11_share_23 : decode cX11_share 23 = .ok (.goto 4, 3) := by decide +kernel
theorem dX11_share_26 : decode cX11_share 26 = .ok (.iconst 0, 1) := by decide +kernel
theorem dX11_share_27 : decode cX11_share 27 = .ok (.iconst 1, 1) := by decide +kernel
theorem dX11_share_28 : decode cX11_share 28 = .ok (.invokevirtual 186, 3) := by decide +kernel
theorem dX11_share_31 : decode cX11_share 31 = .ok (.ifCond .eq 7, 3) := by decide +kernel
theorem dX11_share_34 : decode cX11_share 34 = .ok (.lconst 0, 1) := by decide +kernel
theorem dX11_share_35 : decode cX11_share 35 = .ok (.goto 9, 3) := by decide +kernel
theorem dX11_share_38 : decode cX11_share 38 = .ok (.aload_n 0, 1) := by decide +kernel
theorem dX11_share_39 : decode cX11_share 39 = .ok (.iload_n 1, 1) := by decide +kernel
theorem dX11_share_40 : decode cX11_share 40 = .ok (.iload_n 2, 1) := by decide +kernel
theorem dX11_share_41 : decode cX11_share 41 = .ok (.invokevirtual 182, 3) := by decide +kernel
theorem dX11_share_44 : decode cX11_share 44 = .ok (.lreturn, 1) := by decide +kernel
set_option maxRecDepth 20000 in
theorem ggX11_charged_X11_noHouse : GoodIn wsX11_charged wsX11_noHouse := goodIn_r _ [6, 7, 56, 57, 58, 59, 60, 61, 62, 63, 64, 65, 66, 67, 68, 69, 70, 71, 72, 73, 74, 75, 76, 77, 78, 79, 80, 81, 82, 83, 84, 85, 86, 87, 88, 89, 90, 91, 92, 93, 94, 95, 96, 97, 98, 99, 100, 101, 102, 103] (by decide +kernel) (by decide +kernel)
set_option maxRecDepth 20000 in
theorem gX11_charged_X11_noHouse : GoodIn wsX11_charged (wsV RX11 209 RX11 yX11_noHouse wsX11_noHouse) := goodIn_app (goodIn_of _ (by decide +kernel)) ggX11_charged_X11_noHouse
set_option maxRecDepth 20000 in
theorem ggX11_charged_X11_throwsIf : GoodIn wsX11_charged wsX11_throwsIf := goodIn_r _ [11, 1, 56, 57, 58, 59, 60, 61, 62, 63, 64, 65, 66, 67, 68, 69, 70, 71, 72, 73, 74, 75, 76, 77, 78, 79, 80, 81, 82, 83, 84, 85, 86, 87, 88, 89, 90, 91, 92, 93, 94, 95, 96, 97, 98, 99, 100, 101, 102, 103] (by decide +kernel) (by decide +kernel)
set_option maxRecDepth 20000 in
theorem gX11_charged_X11_throwsIf : GoodIn wsX11_charged (wsV RX11 186 RX11 yX11_throwsIf wsX11_throwsIf) := goodIn_app (goodIn_of _ (by decide +kernel)) ggX11_charged_X11_throwsIf
set_option maxRecDepth 20000 in
theorem ggX11_charged_X11_chargedTo : GoodIn wsX11_charged wsX11_chargedTo := goodIn_r _ [15, 16, 17, 18, 19, 20, 5, 21, 22, 23, 24, 25, 7, 26, 27, 28, 29, 30, 31, 32, 33, 34, 35, 36, 37, 38, 39, 40, 41, 42, 43, 44, 45, 46, 47, 48, 49, 50, 51, 52, 53, 54, 55, 56, 57, 58, 59, 60, 61, 62, 63, 64, 65, 66, 67, 68, 69, 70, 71, 72, 73, 74, 75, 76, 77, 78, 79, 80, 81, 82, 83, 84, 85, 86, 87, 88, 89, 90, 91, 92, 93, 94, 95, 96, 97, 98, 99, 100, 101, 102, 103] (by decide +kernel) (by decide +kernel)
set_option maxRecDepth 20000 in
theorem gX11_charged_X11_chargedTo : GoodIn wsX11_charged (wsV RX11 249 RX11 yX11_chargedTo wsX11_chargedTo) := goodIn_app (goodIn_of _ (by decide +kernel)) ggX11_charged_X11_chargedTo
theorem dX11_charged_0 : decode cX11_charged 0 = .ok (.aload_n 0, 1) := by decide +kernel
theorem dX11_charged_1 : decode cX11_charged 1 = .ok (.iconst 0, 1) := by decide +kernel
theorem dX11_charged_2 : decode cX11_charged 2 = .ok (.putfield 129, 3) := by decide +kernel
theorem dX11_charged_5 : decode cX11_charged 5 = .ok (.aload_n 0, 1) := by decide +kernel
theorem dX11_charged_6 : decode cX11_charged 6 = .ok (.aload_n 0, 1) := by decide +kernel
theorem dX11_charged_7 : decode cX11_charged 7 = .ok (.iload_n 1, 1) := by decide +kernel
theorem dX11_charged_8 : decode cX11_charged 8 = .ok (.invokevirtual 209, 3) := by decide +kernel
theorem dX11_charged_11 : decode cX11_charged 11 = .ok (.iconst 1, 1) := by decide +kernel
theorem dX11_charged_12 : decode cX11_charged 12 = .ok (.invokevirtual 186, 3) := by decide +kernel
theorem dX11_charged_15 : decode cX11_charged 15 = .ok (.ifCond .eq 7, 3) := by decide +kernel
theorem dX11_charged_18 : decode cX11_charged 18 = .ok (.lconst 0, 1) := by decide +kernel
theorem dX11_charged_19 : decode cX11_charged 19 = .ok (.goto 8, 3) := by decide +kernel
theorem dX11_charged_22 : decode cX11_charged 22 = .ok (.aload_n 0, 1) := by decide +kernel
theorem dX11_charged_23 : decode cX11_charged 23 = .ok (.iload_n 1, 1) := by decide +kernel
theorem dX11_charged_24 : decode cX11_charged 24 = .ok (.invokevirtual 249, 3) := by decide +kernel
theorem dX11_charged_27 : decode cX11_charged 27 = .ok (.lreturn, 1) := by decide +kernel
set_option maxRecDepth 20000 in
theorem ggX11_bill_X11_noHouse : GoodIn wsX11_bill wsX11_noHouse := goodIn_r _ [7, 8, 57, 58, 59, 60, 61, 62, 63, 64, 65, 66, 67, 68, 69, 70, 71, 72, 73, 74, 75, 76, 77, 78, 79, 80, 81, 82, 83, 84, 85, 86, 87, 88, 89, 90, 91, 92, 93, 94, 95, 96, 97, 98, 99, 100, 101, 102, 103, 104] (by decide +kernel) (by decide +kernel)
set_option maxRecDepth 20000 in
theorem gX11_bill_X11_noHouse : GoodIn wsX11_bill (wsV RX11 209 RX11 yX11_noHouse wsX11_noHouse) := goodIn_app (goodIn_of _ (by decide +kernel)) ggX11_bill_X11_noHouse
set_option maxRecDepth 20000 in
theorem ggX11_bill_X11_throwsIf : GoodIn wsX11_bill wsX11_throwsIf := goodIn_r _ [12, 1, 57, 58, 59, 60, 61, 62, 63, 64, 65, 66, 67, 68, 69, 70, 71, 72, 73, 74, 75, 76, 77, 78, 79, 80, 81, 82, 83, 84, 85, 86, 87, 88, 89, 90, 91, 92, 93, 94, 95, 96, 97, 98, 99, 100, 101, 102, 103, 104] (by decide +kernel) (by decide +kernel)
set_option maxRecDepth 20000 in
theorem gX11_bill_X11_throwsIf : GoodIn wsX11_bill (wsV RX11 186 RX11 yX11_throwsIf wsX11_throwsIf) := goodIn_app (goodIn_of _ (by decide +kernel)) ggX11_bill_X11_throwsIf
set_option maxRecDepth 20000 in
theorem ggX11_bill_X11_chargedTo : GoodIn wsX11_bill wsX11_chargedTo := goodIn_r _ [16, 17, 18, 19, 20, 21, 6, 22, 23, 24, 25, 26, 8, 27, 28, 29, 30, 31, 32, 33, 34, 35, 36, 37, 38, 39, 40, 41, 42, 43, 44, 45, 46, 47, 48, 49, 50, 51, 52, 53, 54, 55, 56, 57, 58, 59, 60, 61, 62, 63, 64, 65, 66, 67, 68, 69, 70, 71, 72, 73, 74, 75, 76, 77, 78, 79, 80, 81, 82, 83, 84, 85, 86, 87, 88, 89, 90, 91, 92, 93, 94, 95, 96, 97, 98, 99, 100, 101, 102, 103, 104] (by decide +kernel) (by decide +kernel)
set_option maxRecDepth 20000 in
theorem gX11_bill_X11_chargedTo : GoodIn wsX11_bill (wsV RX11 249 RX11 yX11_chargedTo wsX11_chargedTo) := goodIn_app (goodIn_of _ (by decide +kernel)) ggX11_bill_X11_chargedTo
theorem dX11_bill_0 : decode cX11_bill 0 = .ok (.aload_n 0, 1) := by decide +kernel
theorem dX11_bill_1 : decode cX11_bill 1 = .ok (.iconst 0, 1) := by decide +kernel
theorem dX11_bill_2 : decode cX11_bill 2 = .ok (.putfield 129, 3) := by decide +kernel
theorem dX11_bill_5 : decode cX11_bill 5 = .ok (.aload_n 0, 1) := by decide +kernel
theorem dX11_bill_6 : decode cX11_bill 6 = .ok (.aload_n 0, 1) := by decide +kernel
theorem dX11_bill_7 : decode cX11_bill 7 = .ok (.iload_n 1, 1) := by decide +kernel
theorem dX11_bill_8 : decode cX11_bill 8 = .ok (.invokevirtual 209, 3) := by decide +kernel
theorem dX11_bill_11 : decode cX11_bill 11 = .ok (.iconst 1, 1) := by decide +kernel
theorem dX11_bill_12 : decode cX11_bill 12 = .ok (.invokevirtual 186, 3) := by decide +kernel
theorem dX11_bill_15 : decode cX11_bill 15 = .ok (.ifCond .eq 5, 3) := by decide +kernel
theorem dX11_bill_18 : decode cX11_bill 18 = .ok (.lconst 0, 1) := by decide +kernel
theorem dX11_bill_19 : decode cX11_bill 19 = .ok (.lreturn, 1) := by decide +kernel
theorem dX11_bill_20 : decode cX11_bill 20 = .ok (.aload_n 0, 1) := by decide +kernel
theorem dX11_bill_21 : decode cX11_bill 21 = .ok (.iload_n 1, 1) := by decide +kernel
theorem dX11_bill_22 : decode cX11_bill 22 = .ok (.invokevirtual 249, 3) := by decide +kernel
theorem dX11_bill_25 : decode cX11_bill 25 = .ok (.aload_n 0, 1) := by decide +kernel
theorem dX11_bill_26 : decode cX11_bill 26 = .ok (.getfield 30, 3) := by decide +kernel
theorem dX11_bill_29 : decode cX11_bill 29 = .ok (.iload_n 1, 1) := by decide +kernel
theorem dX11_bill_30 : decode cX11_bill 30 = .ok (.laload, 1) := by decide +kernel
theorem dX11_bill_31 : decode cX11_bill 31 = .ok (.lsub, 1) := by decide +kernel
theorem dX11_bill_32 : decode cX11_bill 32 = .ok (.lstore_n 2, 1) := by decide +kernel
theorem dX11_bill_33 : decode cX11_bill 33 = .ok (.aload_n 0, 1) := by decide +kernel
theorem dX11_bill_34 : decode cX11_bill 34 = .ok (.getfield 30, 3) := by decide +kernel
theorem dX11_bill_37 : decode cX11_bill 37 = .ok (.iload_n 1, 1) := by decide +kernel
theorem dX11_bill_38 : decode cX11_bill 38 = .ok (.dup2, 1) := by decide +kernel
theorem dX11_bill_39 : decode cX11_bill 39 = .ok (.laload, 1) := by decide +kernel
theorem dX11_bill_40 : decode cX11_bill 40 = .ok (.lload_n 2, 1) := by decide +kernel
theorem dX11_bill_41 : decode cX11_bill 41 = .ok (.ladd, 1) := by decide +kernel
theorem dX11_bill_42 : decode cX11_bill 42 = .ok (.lastore, 1) := by decide +kernel
theorem dX11_bill_43 : decode cX11_bill 43 = .ok (.lload_n 2, 1) := by decide +kernel
theorem dX11_bill_44 : decode cX11_bill 44 = .ok (.lreturn, 1) := by decide +kernel
set_option maxRecDepth 20000 in
theorem ggX11_pay_X11_noHouse : GoodIn wsX11_pay wsX11_noHouse := goodIn_r _ [9, 10, 18, 19, 20, 21, 22, 23, 24, 25, 26, 27, 28, 29, 30, 31, 32, 33, 34, 35, 36, 37, 38, 39, 40, 41, 42, 43, 44, 45, 46, 47, 48, 49, 50, 51, 52, 53, 54, 55, 56, 57, 58, 59, 60, 61, 62, 63, 64, 65] (by decide +kernel) (by decide +kernel)
set_option maxRecDepth 20000 in
theorem gX11_pay_X11_noHouse : GoodIn wsX11_pay (wsV RX11 209 RX11 yX11_noHouse wsX11_noHouse) := goodIn_app (goodIn_of _ (by decide +kernel)) ggX11_pay_X11_noHouse
set_option maxRecDepth 20000 in
theorem ggX11_pay_X11_throwsIf : GoodIn wsX11_pay wsX11_throwsIf := goodIn_r _ [14, 1, 18, 19, 20, 21, 22, 23, 24, 25, 26, 27, 28, 29, 30, 31, 32, 33, 34, 35, 36, 37, 38, 39, 40, 41, 42, 43, 44, 45, 46, 47, 48, 49, 50, 51, 52, 53, 54, 55, 56, 57, 58, 59, 60, 61, 62, 63, 64, 65] (by decide +kernel) (by decide +kernel)
set_option maxRecDepth 20000 in
theorem gX11_pay_X11_throwsIf : GoodIn wsX11_pay (wsV RX11 186 RX11 yX11_throwsIf wsX11_throwsIf) := goodIn_app (goodIn_of _ (by decide +kernel)) ggX11_pay_X11_throwsIf
set_option maxRecDepth 20000 in
theorem ggX11_pay_X11_in : GoodIn wsX11_pay wsX11_in := goodIn_r _ [17] (by decide +kernel) (by decide +kernel)
set_option maxRecDepth 20000 in
theorem gX11_pay_X11_in : GoodIn wsX11_pay (va_wsS RX11 195 yX11_in wsX11_in) := goodIn_app (goodIn_of _ (by decide +kernel)) ggX11_pay_X11_in
theorem dX11_pay_0 : decode cX11_pay 0 = .ok (.aload_n 0, 1) := by decide +kernel
theorem dX11_pay_1 : decode cX11_pay 1 = .ok (.iconst 0, 1) := by decide +kernel
theorem dX11_pay_2 : decode cX11_pay 2 = .ok (.putfield 129, 3) := by decide +kernel
theorem dX11_pay_5 : decode cX11_pay 5 = .ok (.aload_n 0, 1) := by decide +kernel
theorem dX11_pay_6 : decode cX11_pay 6 = .ok (.aload_n 0, 1) := by decide +kernel
theorem dX11_pay_7 : decode cX11_pay 7 = .ok (.iload_n 1, 1) := by decide +kernel
theorem dX11_pay_8 : decode cX11_pay 8 = .ok (.invokevirtual 209, 3) := by decide +kernel
theorem dX11_pay_11 : decode cX11_pay 11 = .ok (.iconst 1, 1) := by decide +kernel
theorem dX11_pay_12 : decode cX11_pay 12 = .ok (.invokevirtual 186, 3) := by decide +kernel
theorem dX11_pay_15 : decode cX11_pay 15 = .ok (.ifCond .ne 27, 3) := by decide +kernel
theorem dX11_pay_18 : decode cX11_pay 18 = .ok (.aload_n 0, 1) := by decide +kernel
theorem dX11_pay_19 : decode cX11_pay 19 = .ok (.lload_n 2, 1) := by decide +kernel
theorem dX11_pay_20 : decode cX11_pay 20 = .ok (.lconst 1, 1) := by decide +kernel
theorem dX11_pay_21 : decode cX11_pay 21 = .ok (.ldc2_w 252, 3) := by decide +kernel
theorem dX11_pay_24 : decode cX11_pay 24 = .ok (.invokestatic 195, 3) := by decide +kernel
theorem dX11_pay_27 : decode cX11_pay 27 = .ok (.ifCond .ne 7, 3) := by decide +kernel
theorem dX11_pay_30 : decode cX11_pay 30 = .ok (.iconst 1, 1) := by decide +kernel
theorem dX11_pay_31 : decode cX11_pay 31 = .ok (.goto 4, 3) := by decide +kernel
theorem dX11_pay_34 : decode cX11_pay 34 = .ok (.iconst 0, 1) := by decide +kernel
theorem dX11_pay_35 : decode cX11_pay 35 = .ok (.iconst 2, 1) := by decide +kernel
theorem dX11_pay_36 : decode cX11_pay 36 = .ok (.invokevirtual 186, 3) := by decide +kernel
theorem dX11_pay_39 : decode cX11_pay 39 = .ok (.ifCond .eq 5, 3) := by decide +kernel
theorem dX11_pay_42 : decode cX11_pay 42 = .ok (.lconst 0, 1) := by decide +kernel
theorem dX11_pay_43 : decode cX11_pay 43 = .ok (.lreturn, 1) := by decide +kernel
theorem dX11_pay_44 : decode cX11_pay 44 = .ok (.aload_n 0, 1) := by decide +kernel
theorem dX11_pay_45 : decode cX11_pay 45 = .ok (.getfield 33, 3) := by decide +kernel
theorem dX11_pay_48 : decode cX11_pay 48 = .ok (.iload_n 1, 1) := by decide +kernel
theorem dX11_pay_49 : decode cX11_pay 49 = .ok (.dup2, 1) := by decide +kernel
theorem dX11_pay_50 : decode cX11_pay 50 = .ok (.laload, 1) := by decide +kernel
theorem dX11_pay_51 : decode cX11_pay 51 = .ok (.lload_n 2, 1) := by decide +kernel
theorem dX11_pay_52 : decode cX11_pay 52 = .ok (.ladd, 1) := by decide +kernel
theorem dX11_pay_53 : decode cX11_pay 53 = .ok (.lastore, 1) := by decide +kernel
theorem dX11_pay_54 : decode cX11_pay 54 = .ok (.aload_n 0, 1) := by decide +kernel
theorem dX11_pay_55 : decode cX11_pay 55 = .ok (.getfield 30, 3) := by decide +kernel
theorem dX11_pay_58 : decode cX11_pay 58 = .ok (.iload_n 1, 1) := by decide +kernel
theorem dX11_pay_59 : decode cX11_pay 59 = .ok (.laload, 1) := by decide +kernel
theorem dX11_pay_60 : decode cX11_pay 60 = .ok (.aload_n 0, 1) := by decide +kernel
theorem dX11_pay_61 : decode cX11_pay 61 = .ok (.getfield 33, 3) := by decide +kernel
theorem dX11_pay_64 : decode cX11_pay 64 = .ok (.iload_n 1, 1) := by decide +kernel
theorem dX11_pay_65 : decode cX11_pay 65 = .ok (.laload, 1) := by decide +kernel
theorem dX11_pay_66 : decode cX11_pay 66 = .ok (.lsub, 1) := by decide +kernel
theorem dX11_pay_67 : decode cX11_pay 67 = .ok (.lreturn, 1) := by decide +kernel
set_option maxRecDepth 20000 in
theorem ggX11_middle_X11_noBin : GoodIn wsX11_middle wsX11_noBin := goodIn_r _ [6, 7, 21, 22, 23, 24, 25, 26, 27, 28, 29, 30, 31, 32, 33, 34, 35, 36, 37, 38, 39, 40, 41, 42, 43, 44, 45, 46, 47, 48, 49, 50, 51, 52, 53, 54, 55, 56, 57, 58, 59, 60, 61, 62, 63, 64, 65, 66, 67, 68] (by decide +kernel) (by decide +kernel)
set_option maxRecDepth 20000 in
theorem gX11_middle_X11_noBin : GoodIn wsX11_middle (wsV RX11 212 RX11 yX11_noBin wsX11_noBin) := goodIn_app (goodIn_of _ (by decide +kernel)) ggX11_middle_X11_noBin
set_option maxRecDepth 20000 in
theorem ggX11_middle_X11_throwsIf : GoodIn wsX11_middle wsX11_throwsIf := goodIn_r _ [11, 1, 21, 22, 23, 24, 25, 26, 27, 28, 29, 30, 31, 32, 33, 34, 35, 36, 37, 38, 39, 40, 41, 42, 43, 44, 45, 46, 47, 48, 49, 50, 51, 52, 53, 54, 55, 56, 57, 58, 59, 60, 61, 62, 63, 64, 65, 66, 67, 68] (by decide +kernel) (by decide +kernel)
set_option maxRecDepth 20000 in
theorem gX11_middle_X11_throwsIf : GoodIn wsX11_middle (wsV RX11 186 RX11 yX11_throwsIf wsX11_throwsIf) := goodIn_app (goodIn_of _ (by decide +kernel)) ggX11_middle_X11_throwsIf
set_option maxRecDepth 20000 in
theorem ggX11_middle_X11_middleOf : GoodIn wsX11_middle wsX11_middleOf := goodIn_r _ [15, 16, 17, 18, 19, 20, 21, 22, 23, 24, 25, 26, 27, 28, 29, 30, 31, 32, 33, 34, 35, 36, 37, 38, 39, 40, 41, 42, 43, 44, 45, 46, 47, 48, 49, 50, 51, 52, 53, 54, 55, 56, 57, 58, 59, 60, 61, 62, 63, 64, 65, 66, 67, 68] (by decide +kernel) (by decide +kernel)
set_option maxRecDepth 20000 in
theorem gX11_middle_X11_middleOf : GoodIn wsX11_middle (wsV RX11 230 RX11 yX11_middleOf wsX11_middleOf) := goodIn_app (goodIn_of _ (by decide +kernel)) ggX11_middle_X11_middleOf
theorem dX11_middle_0 : decode cX11_middle 0 = .ok (.aload_n 0, 1) := by decide +kernel
theorem dX11_middle_1 : decode cX11_middle 1 = .ok (.iconst 0, 1) := by decide +kernel
theorem dX11_middle_2 : decode cX11_middle 2 = .ok (.putfield 129, 3) := by decide +kernel
theorem dX11_middle_5 : decode cX11_middle 5 = .ok (.aload_n 0, 1) := by decide +kernel
theorem dX11_middle_6 : decode cX11_middle 6 = .ok (.aload_n 0, 1) := by decide +kernel
theorem dX11_middle_7 : decode cX11_middle 7 = .ok (.iload_n 1, 1) := by decide +kernel
theorem dX11_middle_8 : decode cX11_middle 8 = .ok (.invokevirtual 212, 3) := by decide +kernel
theorem dX11_middle_11 : decode cX11_middle 11 = .ok (.iconst 1, 1) := by decide +kernel
theorem dX11_middle_12 : decode cX11_middle 12 = .ok (.invokevirtual 186, 3) := by decide +kernel
theorem dX11_middle_15 : decode cX11_middle 15 = .ok (.ifCond .eq 7, 3) := by decide +kernel
theorem dX11_middle_18 : decode cX11_middle 18 = .ok (.iconst 0, 1) := by decide +kernel
theorem dX11_middle_19 : decode cX11_middle 19 = .ok (.goto 8, 3) := by decide +kernel
theorem dX11_middle_22 : decode cX11_middle 22 = .ok (.aload_n 0, 1) := by decide +kernel
theorem dX11_middle_23 : decode cX11_middle 23 = .ok (.iload_n 1, 1) := by decide +kernel
theorem dX11_middle_24 : decode cX11_middle 24 = .ok (.invokevirtual 230, 3) := by decide +kernel
theorem dX11_middle_27 : decode cX11_middle 27 = .ok (.ireturn, 1) := by decide +kernel
set_option maxRecDepth 20000 in
theorem ggX11_fill_X11_noCart : GoodIn wsX11_fill wsX11_noCart := goodIn_r _ [13, 14, 52, 53, 54, 55, 56, 57, 58, 59, 60, 61, 62, 63, 64, 65, 66, 67, 68, 69, 70, 71, 72, 73, 74, 75, 76, 77, 78, 79, 80, 81, 82, 83, 84, 85, 86, 87, 88, 89, 90, 91, 92, 93, 94, 95, 96, 97, 98, 99] (by decide +kernel) (by decide +kernel)
set_option maxRecDepth 20000 in
theorem gX11_fill_X11_noCart : GoodIn wsX11_fill (wsV RX11 223 RX11 yX11_noCart wsX11_noCart) := goodIn_app (goodIn_of _ (by decide +kernel)) ggX11_fill_X11_noCart
set_option maxRecDepth 20000 in
theorem ggX11_fill_X11_noStreet : GoodIn wsX11_fill wsX11_noStreet := goodIn_r _ [18, 19, 52, 53, 54, 55, 56, 57, 58, 59, 60, 61, 62, 63, 64, 65, 66, 67, 68, 69, 70, 71, 72, 73, 74, 75, 76, 77, 78, 79, 80, 81, 82, 83, 84, 85, 86, 87, 88, 89, 90, 91, 92, 93, 94, 95, 96, 97, 98, 99] (by decide +kernel) (by decide +kernel)
set_option maxRecDepth 20000 in
theorem gX11_fill_X11_noStreet : GoodIn wsX11_fill (wsV RX11 190 RX11 yX11_noStreet wsX11_noStreet) := goodIn_app (goodIn_of _ (by decide +kernel)) ggX11_fill_X11_noStreet
set_option maxRecDepth 20000 in
theorem ggX11_fill_X11_throwsIf : GoodIn wsX11_fill wsX11_throwsIf := goodIn_r _ [23, 1, 52, 53, 54, 55, 56, 57, 58, 59, 60, 61, 62, 63, 64, 65, 66, 67, 68, 69, 70, 71, 72, 73, 74, 75, 76, 77, 78, 79, 80, 81, 82, 83, 84, 85, 86, 87, 88, 89, 90, 91, 92, 93, 94, 95, 96, 97, 98, 99] (by decide +kernel) (by decide +kernel)
set_option maxRecDepth 20000 in
theorem gX11_fill_X11_throwsIf : GoodIn wsX11_fill (wsV RX11 186 RX11 yX11_throwsIf wsX11_throwsIf) := goodIn_app (goodIn_of _ (by decide +kernel)) ggX11_fill_X11_throwsIf
set_option maxRecDepth 20000 in
theorem ggX11_fill_X11_in : GoodIn wsX11_fill wsX11_in := goodIn_r _ [26] (by decide +kernel) (by decide +kernel)
set_option maxRecDepth 20000 in
theorem gX11_fill_X11_in : GoodIn wsX11_fill (va_wsS RX11 195 yX11_in wsX11_in) := goodIn_app (goodIn_of _ (by decide +kernel)) ggX11_fill_X11_in
set_option maxRecDepth 20000 in
theorem ggX11_fill_X11_halvesToday : GoodIn wsX11_fill wsX11_halvesToday := goodIn_r _ [30, 31, 32, 7, 33, 34, 52, 53, 54, 55, 56, 57, 58, 59, 60, 61, 62, 63, 64, 65, 66, 67, 68, 69, 70, 71, 72, 73, 74, 75, 76, 77, 78, 79, 80, 81, 82, 83, 84, 85, 86, 87, 88, 89, 90, 91, 92, 93, 94, 95, 96, 97, 98, 99] (by decide +kernel) (by decide +kernel)
set_option maxRecDepth 20000 in
theorem gX11_fill_X11_halvesToday : GoodIn wsX11_fill (wsV RX11 155 RX11 yX11_halvesToday wsX11_halvesToday) := goodIn_app (goodIn_of _ (by decide +kernel)) ggX11_fill_X11_halvesToday
set_option maxRecDepth 20000 in
theorem ggX11_fill_X11_group : GoodIn wsX11_fill wsX11_group := goodIn_r _ [37] (by decide +kernel) (by decide +kernel)
set_option maxRecDepth 20000 in
theorem gX11_fill_X11_group : GoodIn wsX11_fill (va_wsS RX11 254 yX11_group wsX11_group) := goodIn_app (goodIn_of _ (by decide +kernel)) ggX11_fill_X11_group
set_option maxRecDepth 20000 in
theorem ggX11_fill_X11_houseOf : GoodIn wsX11_fill wsX11_houseOf := goodIn_r _ [41, 42, 43, 44, 52, 53, 54, 55, 56, 57, 58, 59, 60, 61, 62, 63, 64, 65, 66, 67, 68, 69, 70, 71, 72, 73, 74, 75, 76, 77, 78, 79, 80, 81, 82, 83, 84, 85, 86, 87, 88, 89, 90, 91, 92, 93, 94, 95, 96, 97, 98, 99] (by decide +kernel) (by decide +kernel)
set_option maxRecDepth 20000 in
theorem gX11_fill_X11_houseOf : GoodIn wsX11_fill (wsV RX11 164 RX11 yX11_houseOf wsX11_houseOf) := goodIn_app (goodIn_of _ (by decide +kernel)) ggX11_fill_X11_houseOf
set_option maxRecDepth 20000 in
theorem ggX11_fill_X11_middleOf : GoodIn wsX11_fill wsX11_middleOf := goodIn_r _ [48, 31, 49, 50, 51, 34, 52, 53, 54, 55, 56, 57, 58, 59, 60, 61, 62, 63, 64, 65, 66, 67, 68, 69, 70, 71, 72, 73, 74, 75, 76, 77, 78, 79, 80, 81, 82, 83, 84, 85, 86, 87, 88, 89, 90, 91, 92, 93, 94, 95, 96, 97, 98, 99] (by decide +kernel) (by decide +kernel)
set_option maxRecDepth 20000 in
theorem gX11_fill_X11_middleOf : GoodIn wsX11_fill (wsV RX11 230 RX11 yX11_middleOf wsX11_middleOf) := goodIn_app (goodIn_of _ (by decide +kernel)) ggX11_fill_X11_middleOf
theorem dX11_fill_0 : decode cX11_fill 0 = .ok (.aload_n 0, 1) := by decide +kernel
theorem dX11_fill_1 : decode cX11_fill 1 = .ok (.iconst 0, 1) := by decide +kernel
theorem dX11_fill_2 : decode cX11_fill 2 = .ok (.putfield 129, 3) := by decide +kernel
theorem dX11_fill_5 : decode cX11_fill 5 = .ok (.aload_n 0, 1) := by decide +kernel
theorem dX11_fill_6 : decode cX11_fill 6 = .ok (.aload_n 0, 1) := by decide +kernel
theorem dX11_fill_7 : decode cX11_fill 7 = .ok (.iload_n 1, 1) := by decide +kernel
theorem dX11_fill_8 : decode cX11_fill 8 = .ok (.invokevirtual 223, 3) := by decide +kernel
theorem dX11_fill_11 : decode cX11_fill 11 = .ok (.ifCond .ne 11, 3) := by decide +kernel
theorem dX11_fill_14 : decode cX11_fill 14 = .ok (.aload_n 0, 1) := by decide +kernel
theorem dX11_fill_15 : decode cX11_fill 15 = .ok (.iload_n 2, 1) := by decide +kernel
theorem dX11_fill_16 : decode cX11_fill 16 = .ok (.invokevirtual 190, 3) := by decide +kernel
theorem dX11_fill_19 : decode cX11_fill 19 = .ok (.ifCond .eq 7, 3) := by decide +kernel
theorem dX11_fill_22 : decode cX11_fill 22 = .ok (.iconst 1, 1) := by decide +kernel
theorem dX11_fill_23 : decode cX11_fill 23 = .ok (.goto 4, 3) := by decide +kernel
theorem dX11_fill_26 : decode cX11_fill 26 = .ok (.iconst 0, 1) := by decide +kernel
theorem dX11_fill_27 : decode cX11_fill 27 = .ok (.iconst 1, 1) := by decide +kernel
theorem dX11_fill_28 : decode cX11_fill 28 = .ok (.invokevirtual 186, 3) := by decide +kernel
theorem dX11_fill_31 : decode cX11_fill 31 = .ok (.ifCond .ne 28, 3) := by decide +kernel
theorem dX11_fill_34 : decode cX11_fill 34 = .ok (.aload_n 0, 1) := by decide +kernel
theorem dX11_fill_35 : decode cX11_fill 35 = .ok (.iload_n 3, 1) := by decide +kernel
theorem dX11_fill_36 : decode cX11_fill 36 = .ok (.i2l, 1) := by decide +kernel
theorem dX11_fill_37 : decode cX11_fill 37 = .ok (.lconst 0, 1) := by decide +kernel
theorem dX11_fill_38 : decode cX11_fill 38 = .ok (.ldc2_w 193, 3) := by decide +kernel
theorem dX11_fill_41 : decode cX11_fill 41 = .ok (.invokestatic 195, 3) := by decide +kernel
theorem dX11_fill_44 : decode cX11_fill 44 = .ok (.ifCond .ne 7, 3) := by decide +kernel
theorem dX11_fill_47 : decode cX11_fill 47 = .ok (.iconst 1, 1) := by decide +kernel
theorem dX11_fill_48 : decode cX11_fill 48 = .ok (.goto 4, 3) := by decide +kernel
theorem dX11_fill_51 : decode cX11_fill 51 = .ok (.iconst 0, 1) := by decide +kernel
theorem dX11_fill_52 : decode cX11_fill 52 = .ok (.iconst 2, 1) := by decide +kernel
theorem dX11_fill_53 : decode cX11_fill 53 = .ok (.invokevirtual 186, 3) := by decide +kernel
theorem dX11_fill_56 : decode cX11_fill 56 = .ok (.ifCond .eq 5, 3) := by decide +kernel
theorem dX11_fill_59 : decode cX11_fill 59 = .ok (.iconst 0, 1) := by decide +kernel
theorem dX11_fill_60 : decode cX11_fill 60 = .ok (.ireturn, 1) := by decide +kernel
theorem dX11_fill_61 : decode cX11_fill 61 = .ok (.aload_n 0, 1) := by decide +kernel
theorem dX11_fill_62 : decode cX11_fill 62 = .ok (.iload_n 1, 1) := by decide +kernel
theorem dX11_fill_63 : decode cX11_fill 63 = .ok (.invokevirtual 155, 3) := by decide +kernel
theorem dX11_fill_66 : decode cX11_fill 66 = .ok (.i2l, 1) := by decide +kernel
theorem dX11_fill_67 : decode cX11_fill 67 = .ok (.lstore 4, 2) := by decide +kernel
theorem dX11_fill_69 : decode cX11_fill 69 = .ok (.iconst (-1), 1) := by decide +kernel
theorem dX11_fill_70 : decode cX11_fill 70 = .ok (.istore 6, 2) := by decide +kernel
theorem dX11_fill_72 : decode cX11_fill 72 = .ok (.iconst 0, 1) := by decide +kernel
theorem dX11_fill_73 : decode cX11_fill 73 = .ok (.istore 7, 2) := by decide +kernel
theorem dX11_fill_75 : decode cX11_fill 75 = .ok (.iload 7, 2) := by decide +kernel
theorem dX11_fill_77 : decode cX11_fill 77 = .ok (.aload_n 0, 1) := by decide +kernel
theorem dX11_fill_78 : decode cX11_fill 78 = .ok (.getfield 136, 3) := by decide +kernel
theorem dX11_fill_81 : decode cX11_fill 81 = .ok (.if_icmp .ge 108, 3) := by decide +kernel
theorem dX11_fill_84 : decode cX11_fill 84 = .ok (.iload 6, 2) := by decide +kernel
theorem dX11_fill_86 : decode cX11_fill 86 = .ok (.ifCond .ge 103, 3) := by decide +kernel
theorem dX11_fill_89 : decode cX11_fill 89 = .ok (.aload_n 0, 1) := by decide +kernel
theorem dX11_fill_90 : decode cX11_fill 90 = .ok (.getfield 20, 3) := by decide +kernel
theorem dX11_fill_93 : decode cX11_fill 93 = .ok (.iload 7, 2) := by decide +kernel
theorem dX11_fill_95 : decode cX11_fill 95 = .ok (.iaload, 1) := by decide +kernel
theorem dX11_fill_96 : decode cX11_fill 96 = .ok (.iload_n 2, 1) := by decide +kernel
theorem dX11_fill_97 : decode cX11_fill 97 = .ok (.if_icmp .eq 6, 3) := by decide +kernel
theorem dX11_fill_100 : decode cX11_fill 100 = .ok (.goto 83, 3) := by decide +kernel
theorem dX11_fill_103 : decode cX11_fill 103 = .ok (.iconst 0, 1) := by decide +kernel
theorem dX11_fill_104 : decode cX11_fill 104 = .ok (.istore 8, 2) := by decide +kernel
theorem dX11_fill_106 : decode cX11_fill 106 = .ok (.iload 8, 2) := by decide +kernel
theorem dX11_fill_108 : decode cX11_fill 108 = .ok (.aload_n 0, 1) := by decide +kernel
theorem dX11_fill_109 : decode cX11_fill 109 = .ok (.getfield 139, 3) := by decide +kernel
theorem dX11_fill_112 : decode cX11_fill 112 = .ok (.if_icmp .ge 54, 3) := by decide +kernel
theorem dX11_fill_115 : decode cX11_fill 115 = .ok (.lload 4, 2) := by decide +kernel
theorem dX11_fill_117 : decode cX11_fill 117 = .ok (.aload_n 0, 1) := by decide +kernel
theorem dX11_fill_118 : decode cX11_fill 118 = .ok (.getfield 36, 3) := by decide +kernel
theorem dX11_fill_121 : decode cX11_fill 121 = .ok (.iload 8, 2) := by decide +kernel
theorem dX11_fill_123 : decode cX11_fill 123 = .ok (.iaload, 1) := by decide +kernel
theorem dX11_fill_124 : decode cX11_fill 124 = .ok (.invokestatic 254, 3) := by decide +kernel
theorem dX11_fill_127 : decode cX11_fill 127 = .ok (.iload_n 3, 1) := by decide +kernel
theorem dX11_fill_128 : decode cX11_fill 128 = .ok (.if_icmp .ne 28, 3) := by decide +kernel
theorem dX11_fill_131 : decode cX11_fill 131 = .ok (.aload_n 0, 1) := by decide +kernel
theorem dX11_fill_132 : decode cX11_fill 132 = .ok (.iload 8, 2) := by decide +kernel
theorem dX11_fill_134 : decode cX11_fill 134 = .ok (.aload_n 0, 1) := by decide +kernel
theorem dX11_fill_135 : decode cX11_fill 135 = .ok (.getfield 152, 3) := by decide +kernel
theorem dX11_fill_138 : decode cX11_fill 138 = .ok (.invokevirtual 164, 3) := by decide +kernel
theorem dX11_fill_141 : decode cX11_fill 141 = .ok (.iload 7, 2) := by decide +kernel
theorem dX11_fill_143 : decode cX11_fill 143 = .ok (.if_icmp .ne 13, 3) := by decide +kernel
theorem dX11_fill_146 : decode cX11_fill 146 = .ok (.aload_n 0, 1) := by decide +kernel
theorem dX11_fill_147 : decode cX11_fill 147 = .ok (.iload 8, 2) := by decide +kernel
theorem dX11_fill_149 : decode cX11_fill 149 = .ok (.invokevirtual 230, 3) := by decide +kernel
theorem dX11_fill_152 : decode cX11_fill 152 = .ok (.i2l, 1) := by decide +kernel
theorem dX11_fill_153 : decode cX11_fill 153 = .ok (.goto 4, 3) := by decide +kernel
theorem dX11_fill_156 : decode cX11_fill 156 = .ok (.lconst 0, 1) := by decide +kernel
theorem dX11_fill_157 : decode cX11_fill 157 = .ok (.ladd, 1) := by decide +kernel
theorem dX11_fill_158 : decode cX11_fill 158 = .ok (.lstore 4, 2) := by decide +kernel
theorem dX11_fill_160 : decode cX11_fill 160 = .ok (.iinc 8 1, 3) := by decide +kernel
theorem dX11_fill_163 : decode cX11_fill 163 = .ok (.goto (-57), 3) := by decide +kernel
theorem dX11_fill_166 : decode cX11_fill 166 = .ok (.lload 4, 2) := by decide +kernel
theorem dX11_fill_168 : decode cX11_fill 168 = .ok (.aload_n 0, 1) := by decide +kernel
theorem dX11_fill_169 : decode cX11_fill 169 = .ok (.getfield 69, 3) := by decide +kernel
theorem dX11_fill_172 : decode cX11_fill 172 = .ok (.iload_n 1, 1) := by decide +kernel
theorem dX11_fill_173 : decode cX11_fill 173 = .ok (.iaload, 1) := by decide +kernel
theorem dX11_fill_174 : decode cX11_fill 174 = .ok (.i2l, 1) := by decide +kernel
theorem dX11_fill_175 : decode cX11_fill 175 = .ok (.lcmp, 1) := by decide +kernel
theorem dX11_fill_176 : decode cX11_fill 176 = .ok (.ifCond .le 7, 3) := by decide +kernel
theorem dX11_fill_179 : decode cX11_fill 179 = .ok (.iload 7, 2) := by decide +kernel
theorem dX11_fill_181 : decode cX11_fill 181 = .ok (.istore 6, 2) := by decide +kernel
theorem dX11_fill_183 : decode cX11_fill 183 = .ok (.iinc 7 1, 3) := by decide +kernel
theorem dX11_fill_186 : decode cX11_fill 186 = .ok (.goto (-111), 3) := by decide +kernel
theorem dX11_fill_189 : decode cX11_fill 189 = .ok (.iload 6, 2) := by decide +kernel
theorem dX11_fill_191 : decode cX11_fill 191 = .ok (.ireturn, 1) := by decide +kernel
set_option maxRecDepth 20000 in
theorem ggX11_due_X11_noBin : GoodIn wsX11_due wsX11_noBin := goodIn_r _ [9, 10, 36, 37, 38, 39, 40, 41, 42, 43, 44, 45, 46, 47, 48, 49, 50, 51, 52, 53, 54, 55, 56, 57, 58, 59, 60, 61, 62, 63, 64, 65, 66, 67, 68, 69, 70, 71, 72, 73, 74, 75, 76, 77, 78, 79, 80, 81, 82, 83] (by decide +kernel) (by decide +kernel)
set_option maxRecDepth 20000 in
theorem gX11_due_X11_noBin : GoodIn wsX11_due (wsV RX11 212 RX11 yX11_noBin wsX11_noBin) := goodIn_app (goodIn_of _ (by decide +kernel)) ggX11_due_X11_noBin
set_option maxRecDepth 20000 in
theorem ggX11_due_X11_throwsIf : GoodIn wsX11_due wsX11_throwsIf := goodIn_r _ [14, 1, 36, 37, 38, 39, 40, 41, 42, 43, 44, 45, 46, 47, 48, 49, 50, 51, 52, 53, 54, 55, 56, 57, 58, 59, 60, 61, 62, 63, 64, 65, 66, 67, 68, 69, 70, 71, 72, 73, 74, 75, 76, 77, 78, 79, 80, 81, 82, 83] (by decide +kernel) (by decide +kernel)
set_option maxRecDepth 20000 in
theorem gX11_due_X11_throwsIf : GoodIn wsX11_due (wsV RX11 186 RX11 yX11_throwsIf wsX11_throwsIf) := goodIn_app (goodIn_of _ (by decide +kernel)) ggX11_due_X11_throwsIf
set_option maxRecDepth 20000 in
theorem ggX11_due_X11_houseOf : GoodIn wsX11_due wsX11_houseOf := goodIn_r _ [18, 19, 20, 21, 36, 37, 38, 39, 40, 41, 42, 43, 44, 45, 46, 47, 48, 49, 50, 51, 52, 53, 54, 55, 56, 57, 58, 59, 60, 61, 62, 63, 64, 65, 66, 67, 68, 69, 70, 71, 72, 73, 74, 75, 76, 77, 78, 79, 80, 81, 82, 83] (by decide +kernel) (by decide +kernel)
set_option maxRecDepth 20000 in
theorem gX11_due_X11_houseOf : GoodIn wsX11_due (wsV RX11 164 RX11 yX11_houseOf wsX11_houseOf) := goodIn_app (goodIn_of _ (by decide +kernel)) ggX11_due_X11_houseOf
set_option maxRecDepth 20000 in
theorem ggX11_due_X11_group : GoodIn wsX11_due wsX11_group := goodIn_r _ [24] (by decide +kernel) (by decide +kernel)
set_option maxRecDepth 20000 in
theorem gX11_due_X11_group : GoodIn wsX11_due (va_wsS RX11 254 yX11_group wsX11_group) := goodIn_app (goodIn_of _ (by decide +kernel)) ggX11_due_X11_group
set_option maxRecDepth 20000 in
theorem ggX11_due_X11_dayOf : GoodIn wsX11_due wsX11_dayOf := goodIn_r _ [28, 29, 30, 31, 32, 33, 8, 34, 35, 36, 37, 38, 39, 40, 41, 42, 43, 44, 45, 46, 47, 48, 49, 50, 51, 52, 53, 54, 55, 56, 57, 58, 59, 60, 61, 62, 63, 64, 65, 66, 67, 68, 69, 70, 71, 72, 73, 74, 75, 76, 77, 78, 79, 80, 81, 82, 83] (by decide +kernel) (by decide +kernel)
set_option maxRecDepth 20000 in
theorem gX11_due_X11_dayOf : GoodIn wsX11_due (wsV RX11 207 RX11 yX11_dayOf wsX11_dayOf) := goodIn_app (goodIn_of _ (by decide +kernel)) ggX11_due_X11_dayOf
theorem dX11_due_0 : decode cX11_due 0 = .ok (.aload_n 0, 1) := by decide +kernel
theorem dX11_due_1 : decode cX11_due 1 = .ok (.iconst 0, 1) := by decide +kernel
theorem dX11_due_2 : decode cX11_due 2 = .ok (.putfield 129, 3) := by decide +kernel
theorem dX11_due_5 : decode cX11_due 5 = .ok (.aload_n 0, 1) := by decide +kernel
theorem dX11_due_6 : decode cX11_due 6 = .ok (.aload_n 0, 1) := by decide +kernel
theorem dX11_due_7 : decode cX11_due 7 = .ok (.iload_n 1, 1) := by decide +kernel
theorem dX11_due_8 : decode cX11_due 8 = .ok (.invokevirtual 212, 3) := by decide +kernel
theorem dX11_due_11 : decode cX11_due 11 = .ok (.iconst 1, 1) := by decide +kernel
theorem dX11_due_12 : decode cX11_due 12 = .ok (.invokevirtual 186, 3) := by decide +kernel
theorem dX11_due_15 : decode cX11_due 15 = .ok (.ifCond .eq 5, 3) := by decide +kernel
theorem dX11_due_18 : decode cX11_due 18 = .ok (.iconst 0, 1) := by decide +kernel
theorem dX11_due_19 : decode cX11_due 19 = .ok (.ireturn, 1) := by decide +kernel
theorem dX11_due_20 : decode cX11_due 20 = .ok (.aload_n 0, 1) := by decide +kernel
theorem dX11_due_21 : decode cX11_due 21 = .ok (.getfield 20, 3) := by decide +kernel
theorem dX11_due_24 : decode cX11_due 24 = .ok (.aload_n 0, 1) := by decide +kernel
theorem dX11_due_25 : decode cX11_due 25 = .ok (.iload_n 1, 1) := by decide +kernel
theorem dX11_due_26 : decode cX11_due 26 = .ok (.aload_n 0, 1) := by decide +kernel
theorem dX11_due_27 : decode cX11_due 27 = .ok (.getfield 152, 3) := by decide +kernel
theorem dX11_due_30 : decode cX11_due 30 = .ok (.invokevirtual 164, 3) := by decide +kernel
theorem dX11_due_33 : decode cX11_due 33 = .ok (.iaload, 1) := by decide +kernel
theorem dX11_due_34 : decode cX11_due 34 = .ok (.istore_n 2, 1) := by decide +kernel
theorem dX11_due_35 : decode cX11_due 35 = .ok (.iconst (-1), 1) := by decide +kernel
theorem dX11_due_36 : decode cX11_due 36 = .ok (.istore_n 3, 1) := by decide +kernel
theorem dX11_due_37 : decode cX11_due 37 = .ok (.aload_n 0, 1) := by decide +kernel
theorem dX11_due_38 : decode cX11_due 38 = .ok (.getfield 152, 3) := by decide +kernel
theorem dX11_due_41 : decode cX11_due 41 = .ok (.bipush 7, 2) := by decide +kernel
theorem dX11_due_43 : decode cX11_due 43 = .ok (.idiv, 1) := by decide +kernel
theorem dX11_due_44 : decode cX11_due 44 = .ok (.iconst 3, 1) := by decide +kernel
theorem dX11_due_45 : decode cX11_due 45 = .ok (.iadd, 1) := by decide +kernel
theorem dX11_due_46 : decode cX11_due 46 = .ok (.istore 4, 2) := by decide +kernel
theorem dX11_due_48 : decode cX11_due 48 = .ok (.iload 4, 2) := by decide +kernel
theorem dX11_due_50 : decode cX11_due 50 = .ok (.aload_n 0, 1) := by decide +kernel
theorem dX11_due_51 : decode cX11_due 51 = .ok (.getfield 152, 3) := by decide +kernel
theorem dX11_due_54 : decode cX11_due 54 = .ok (.bipush 7, 2) := by decide +kernel
theorem dX11_due_56 : decode cX11_due 56 = .ok (.idiv, 1) := by decide +kernel
theorem dX11_due_57 : decode cX11_due 57 = .ok (.if_icmp .lt 39, 3) := by decide +kernel
theorem dX11_due_60 : decode cX11_due 60 = .ok (.aload_n 0, 1) := by decide +kernel
theorem dX11_due_61 : decode cX11_due 61 = .ok (.iload_n 2, 1) := by decide +kernel
theorem dX11_due_62 : decode cX11_due 62 = .ok (.aload_n 0, 1) := by decide +kernel
theorem dX11_due_63 : decode cX11_due 63 = .ok (.getfield 36, 3) := by decide +kernel
theorem dX11_due_66 : decode cX11_due 66 = .ok (.iload_n 1, 1) := by decide +kernel
theorem dX11_due_67 : decode cX11_due 67 = .ok (.iaload, 1) := by decide +kernel
theorem dX11_due_68 : decode cX11_due 68 = .ok (.invokestatic 254, 3) := by decide +kernel
theorem dX11_due_71 : decode cX11_due 71 = .ok (.iload 4, 2) := by decide +kernel
theorem dX11_due_73 : decode cX11_due 73 = .ok (.invokevirtual 207, 3) := by decide +kernel
theorem dX11_due_76 : decode cX11_due 76 = .ok (.istore 5, 2) := by decide +kernel
theorem dX11_due_78 : decode cX11_due 78 = .ok (.iload 5, 2) := by decide +kernel
theorem dX11_due_80 : decode cX11_due 80 = .ok (.aload_n 0, 1) := by decide +kernel
theorem dX11_due_81 : decode cX11_due 81 = .ok (.getfield 152, 3) := by decide +kernel
theorem dX11_due_84 : decode cX11_due 84 = .ok (.if_icmp .lt 6, 3) := by decide +kernel
theorem dX11_due_87 : decode cX11_due 87 = .ok (.iload 5, 2) := by decide +kernel
theorem dX11_due_89 : decode cX11_due 89 = .ok (.istore_n 3, 1) := by decide +kernel
theorem dX11_due_90 : decode cX11_due 90 = .ok (.iinc 4 (-1), 3) := by decide +kernel
theorem dX11_due_93 : decode cX11_due 93 = .ok (.goto (-45), 3) := by decide +kernel
theorem dX11_due_96 : decode cX11_due 96 = .ok (.iload_n 3, 1) := by decide +kernel
theorem dX11_due_97 : decode cX11_due 97 = .ok (.ireturn, 1) := by decide +kernel
set_option maxRecDepth 20000 in
theorem ggX11_load_X11_noCart : GoodIn wsX11_load wsX11_noCart := goodIn_r _ [9, 10, 33, 34, 35, 36, 37, 38, 39, 40, 41, 42, 43, 44, 45, 46, 47, 48, 49, 50, 51, 52, 53, 54, 55, 56, 57, 58, 59, 60, 61, 62, 63, 64, 65, 66, 67, 68, 69, 70, 71, 72, 73, 74, 75, 76, 77, 78, 79, 80] (by decide +kernel) (by decide +kernel)
set_option maxRecDepth 20000 in
theorem gX11_load_X11_noCart : GoodIn wsX11_load (wsV RX11 223 RX11 yX11_noCart wsX11_noCart) := goodIn_app (goodIn_of _ (by decide +kernel)) ggX11_load_X11_noCart
set_option maxRecDepth 20000 in
theorem ggX11_load_X11_throwsIf : GoodIn wsX11_load wsX11_throwsIf := goodIn_r _ [14, 1, 33, 34, 35, 36, 37, 38, 39, 40, 41, 42, 43, 44, 45, 46, 47, 48, 49, 50, 51, 52, 53, 54, 55, 56, 57, 58, 59, 60, 61, 62, 63, 64, 65, 66, 67, 68, 69, 70, 71, 72, 73, 74, 75, 76, 77, 78, 79, 80] (by decide +kernel) (by decide +kernel)
set_option maxRecDepth 20000 in
theorem gX11_load_X11_throwsIf : GoodIn wsX11_load (wsV RX11 186 RX11 yX11_throwsIf wsX11_throwsIf) := goodIn_app (goodIn_of _ (by decide +kernel)) ggX11_load_X11_throwsIf
set_option maxRecDepth 20000 in
theorem ggX11_load_X11_halvesToday : GoodIn wsX11_load wsX11_halvesToday := goodIn_r _ [18, 19, 20, 21, 22, 23, 33, 34, 35, 36, 37, 38, 39, 40, 41, 42, 43, 44, 45, 46, 47, 48, 49, 50, 51, 52, 53, 54, 55, 56, 57, 58, 59, 60, 61, 62, 63, 64, 65, 66, 67, 68, 69, 70, 71, 72, 73, 74, 75, 76, 77, 78, 79, 80] (by decide +kernel) (by decide +kernel)
set_option maxRecDepth 20000 in
theorem gX11_load_X11_halvesToday : GoodIn wsX11_load (wsV RX11 155 RX11 yX11_halvesToday wsX11_halvesToday) := goodIn_app (goodIn_of _ (by decide +kernel)) ggX11_load_X11_halvesToday
set_option maxRecDepth 20000 in
theorem ggX11_load_X11_agrees : GoodIn wsX11_load wsX11_agrees := goodIn_r _ [27, 3, 28, 29, 15, 16, 17, 8, 18, 19, 20, 21, 22, 23, 33, 34, 35, 36, 37, 38, 39, 40, 41, 42, 43, 44, 45, 46, 47, 48, 49, 50, 51, 52, 53, 54, 55, 56, 57, 58, 59, 60, 61, 62, 63, 64, 65, 66, 67, 68, 69, 70, 71, 72, 73, 74, 75, 76, 77, 78, 79, 80] (by decide +kernel) (by decide +kernel)
set_option maxRecDepth 20000 in
theorem gX11_load_X11_agrees : GoodIn wsX11_load (wsV RX11 238 RX11 yX11_agrees wsX11_agrees) := goodIn_app (goodIn_of _ (by decide +kernel)) ggX11_load_X11_agrees
set_option maxRecDepth 20000 in
theorem ggX11_load_X11_one : GoodIn wsX11_load wsX11_one := goodIn_r _ [32] (by decide +kernel) (by decide +kernel)
set_option maxRecDepth 20000 in
theorem gX11_load_X11_one : GoodIn wsX11_load (va_wsS RX11 245 yX11_one wsX11_one) := goodIn_app (goodIn_of _ (by decide +kernel)) ggX11_load_X11_one
theorem dX11_load_0 : decode cX11_load 0 = .ok (.aload_n 0, 1) := by decide +kernel
theorem dX11_load_1 : decode cX11_load 1 = .ok (.iconst 0, 1) := by decide +kernel
theorem dX11_load_2 : decode cX11_load 2 = .ok (.putfield 129, 3) := by decide +kernel
theorem dX11_load_5 : decode cX11_load 5 = .ok (.aload_n 0, 1) := by decide +kernel
theorem dX11_load_6 : decode cX11_load 6 = .ok (.aload_n 0, 1) := by decide +kernel
theorem dX11_load_7 : decode cX11_load 7 = .ok (.iload_n 1, 1) := by decide +kernel
theorem dX11_load_8 : decode cX11_load 8 = .ok (.invokevirtual 223, 3) := by decide +kernel
theorem dX11_load_11 : decode cX11_load 11 = .ok (.iconst 1, 1) := by decide +kernel
theorem dX11_load_12 : decode cX11_load 12 = .ok (.invokevirtual 186, 3) := by decide +kernel
theorem dX11_load_15 : decode cX11_load 15 = .ok (.ifCond .eq 5, 3) := by decide +kernel
theorem dX11_load_18 : decode cX11_load 18 = .ok (.iconst 0, 1) := by decide +kernel
theorem dX11_load_19 : decode cX11_load 19 = .ok (.ireturn, 1) := by decide +kernel
theorem dX11_load_20 : decode cX11_load 20 = .ok (.iload_n 2, 1) := by decide +kernel
theorem dX11_load_21 : decode cX11_load 21 = .ok (.tableswitch 71 0 4 #[35, 42, 48, 55, 64], 35) := by decide +kernel
theorem dX11_load_56 : decode cX11_load 56 = .ok (.aload_n 0, 1) := by decide +kernel
theorem dX11_load_57 : decode cX11_load 57 = .ok (.getfield 72, 3) := by decide +kernel
theorem dX11_load_60 : decode cX11_load 60 = .ok (.iload_n 1, 1) := by decide +kernel
theorem dX11_load_61 : decode cX11_load 61 = .ok (.iaload, 1) := by decide +kernel
theorem dX11_load_62 : decode cX11_load 62 = .ok (.ireturn, 1) := by decide +kernel
theorem dX11_load_63 : decode cX11_load 63 = .ok (.aload_n 0, 1) := by decide +kernel
theorem dX11_load_64 : decode cX11_load 64 = .ok (.iload_n 1, 1) := by decide +kernel
theorem dX11_load_65 : decode cX11_load 65 = .ok (.invokevirtual 155, 3) := by decide +kernel
theorem dX11_load_68 : decode cX11_load 68 = .ok (.ireturn, 1) := by decide +kernel
theorem dX11_load_69 : decode cX11_load 69 = .ok (.aload_n 0, 1) := by decide +kernel
theorem dX11_load_70 : decode cX11_load 70 = .ok (.getfield 75, 3) := by decide +kernel
theorem dX11_load_73 : decode cX11_load 73 = .ok (.iload_n 1, 1) := by decide +kernel
theorem dX11_load_74 : decode cX11_load 74 = .ok (.iaload, 1) := by decide +kernel
theorem dX11_load_75 : decode cX11_load 75 = .ok (.ireturn, 1) := by decide +kernel
theorem dX11_load_76 : decode cX11_load 76 = .ok (.aload_n 0, 1) := by decide +kernel
theorem dX11_load_77 : decode cX11_load 77 = .ok (.iload_n 1, 1) := by decide +kernel
theorem dX11_load_78 : decode cX11_load 78 = .ok (.invokevirtual 238, 3) := by decide +kernel
theorem dX11_load_81 : decode cX11_load 81 = .ok (.invokestatic 245, 3) := by decide +kernel
theorem dX11_load_84 : decode cX11_load 84 = .ok (.ireturn, 1) := by decide +kernel
theorem dX11_load_85 : decode cX11_load 85 = .ok (.aload_n 0, 1) := by decide +kernel
theorem dX11_load_86 : decode cX11_load 86 = .ok (.getfield 69, 3) := by decide +kernel
theorem dX11_load_89 : decode cX11_load 89 = .ok (.iload_n 1, 1) := by decide +kernel
theorem dX11_load_90 : decode cX11_load 90 = .ok (.iaload, 1) := by decide +kernel
theorem dX11_load_91 : decode cX11_load 91 = .ok (.ireturn, 1) := by decide +kernel
theorem dX11_load_92 : decode cX11_load 92 = .ok (.aload_n 0, 1) := by decide +kernel
theorem dX11_load_93 : decode cX11_load 93 = .ok (.iconst 2, 1) := by decide +kernel
theorem dX11_load_94 : decode cX11_load 94 = .ok (.putfield 129, 3) := by decide +kernel
theorem dX11_load_97 : decode cX11_load 97 = .ok (.iconst 0, 1) := by decide +kernel
theorem dX11_load_98 : decode cX11_load 98 = .ok (.ireturn, 1) := by decide +kernel
set_option maxRecDepth 20000 in
theorem ggX11_about_X11_noHouse : GoodIn wsX11_about wsX11_noHouse := goodIn_r _ [10, 11, 26, 27, 28, 29, 30, 31, 32, 33, 34, 35, 36, 37, 38, 39, 40, 41, 42, 43, 44, 45, 46, 47, 48, 49, 50, 51, 52, 53, 54, 55, 56, 57, 58, 59, 60, 61, 62, 63, 64, 65, 66, 67, 68, 69, 70, 71, 72, 73] (by decide +kernel) (by decide +kernel)
set_option maxRecDepth 20000 in
theorem gX11_about_X11_noHouse : GoodIn wsX11_about (wsV RX11 209 RX11 yX11_noHouse wsX11_noHouse) := goodIn_app (goodIn_of _ (by decide +kernel)) ggX11_about_X11_noHouse
set_option maxRecDepth 20000 in
theorem ggX11_about_X11_throwsIf : GoodIn wsX11_about wsX11_throwsIf := goodIn_r _ [15, 1, 26, 27, 28, 29, 30, 31, 32, 33, 34, 35, 36, 37, 38, 39, 40, 41, 42, 43, 44, 45, 46, 47, 48, 49, 50, 51, 52, 53, 54, 55, 56, 57, 58, 59, 60, 61, 62, 63, 64, 65, 66, 67, 68, 69, 70, 71, 72, 73] (by decide +kernel) (by decide +kernel)
set_option maxRecDepth 20000 in
theorem gX11_about_X11_throwsIf : GoodIn wsX11_about (wsV RX11 186 RX11 yX11_throwsIf wsX11_throwsIf) := goodIn_app (goodIn_of _ (by decide +kernel)) ggX11_about_X11_throwsIf
set_option maxRecDepth 20000 in
theorem ggX11_about_X11_houseOf : GoodIn wsX11_about wsX11_houseOf := goodIn_r _ [19, 20, 21, 22, 26, 27, 28, 29, 30, 31, 32, 33, 34, 35, 36, 37, 38, 39, 40, 41, 42, 43, 44, 45, 46, 47, 48, 49, 50, 51, 52, 53, 54, 55, 56, 57, 58, 59, 60, 61, 62, 63, 64, 65, 66, 67, 68, 69, 70, 71, 72, 73] (by decide +kernel) (by decide +kernel)
set_option maxRecDepth 20000 in
theorem gX11_about_X11_houseOf : GoodIn wsX11_about (wsV RX11 164 RX11 yX11_houseOf wsX11_houseOf) := goodIn_app (goodIn_of _ (by decide +kernel)) ggX11_about_X11_houseOf
set_option maxRecDepth 20000 in
theorem ggX11_about_X11_one : GoodIn wsX11_about wsX11_one := goodIn_r _ [25] (by decide +kernel) (by decide +kernel)
set_option maxRecDepth 20000 in
theorem gX11_about_X11_one : GoodIn wsX11_about (va_wsS RX11 245 yX11_one wsX11_one) := goodIn_app (goodIn_of _ (by decide +kernel)) ggX11_about_X11_one
theorem dX11_about_0 : decode cX11_about 0 = .ok (.aload_n 0, 1) := by decide +kernel
theorem dX11_about_1 : decode cX11_about 1 = .ok (.iconst 0, 1) := by decide +kernel
theorem dX11_about_2 : decode cX11_about 2 = .ok (.putfield 129, 3) := by decide +kernel
theorem dX11_about_5 : decode cX11_about 5 = .ok (.aload_n 0, 1) := by decide +kernel
theorem dX11_about_6 : decode cX11_about 6 = .ok (.aload_n 0, 1) := by decide +kernel
theorem dX11_about_7 : decode cX11_about 7 = .ok (.iload_n 1, 1) := by decide +kernel
theorem dX11_about_8 : decode cX11_about 8 = .ok (.invokevirtual 209, 3) := by decide +kernel
theorem dX11_about_11 : decode cX11_about 11 = .ok (.iconst 1, 1) := by decide +kernel
theorem dX11_about_12 : decode cX11_about 12 = .ok (.invokevirtual 186, 3) := by decide +kernel
theorem dX11_about_15 : decode cX11_about 15 = .ok (.ifCond .eq 5, 3) := by decide +kernel
theorem dX11_about_18 : decode cX11_about 18 = .ok (.iconst 0, 1) := by decide +kernel
theorem dX11_about_19 : decode cX11_about 19 = .ok (.ireturn, 1) := by decide +kernel
theorem dX11_about_20 : decode cX11_about 20 = .ok (.iload_n 2, 1) := by decide +kernel
theorem dX11_about_21 : decode cX11_about 21 = .ok (.tableswitch 88 0 2 #[27, 34, 41], 27) := by decide +kernel
theorem dX11_about_48 : decode cX11_about 48 = .ok (.aload_n 0, 1) := by decide +kernel
theorem dX11_about_49 : decode cX11_about 49 = .ok (.getfield 20, 3) := by decide +kernel
theorem dX11_about_52 : decode cX11_about 52 = .ok (.iload_n 1, 1) := by decide +kernel
theorem dX11_about_53 : decode cX11_about 53 = .ok (.iaload, 1) := by decide +kernel
theorem dX11_about_54 : decode cX11_about 54 = .ok (.ireturn, 1) := by decide +kernel
theorem dX11_about_55 : decode cX11_about 55 = .ok (.aload_n 0, 1) := by decide +kernel
theorem dX11_about_56 : decode cX11_about 56 = .ok (.getfield 23, 3) := by decide +kernel
theorem dX11_about_59 : decode cX11_about 59 = .ok (.iload_n 1, 1) := by decide +kernel
theorem dX11_about_60 : decode cX11_about 60 = .ok (.iaload, 1) := by decide +kernel
theorem dX11_about_61 : decode cX11_about 61 = .ok (.ireturn, 1) := by decide +kernel
theorem dX11_about_62 : decode cX11_about 62 = .ok (.iconst 0, 1) := by decide +kernel
theorem dX11_about_63 : decode cX11_about 63 = .ok (.istore_n 3, 1) := by decide +kernel
theorem dX11_about_64 : decode cX11_about 64 = .ok (.iconst 0, 1) := by decide +kernel
theorem dX11_about_65 : decode cX11_about 65 = .ok (.istore 4, 2) := by decide +kernel
theorem dX11_about_67 : decode cX11_about 67 = .ok (.iload 4, 2) := by decide +kernel
theorem dX11_about_69 : decode cX11_about 69 = .ok (.aload_n 0, 1) := by decide +kernel
theorem dX11_about_70 : decode cX11_about 70 = .ok (.getfield 139, 3) := by decide +kernel
theorem dX11_about_73 : decode cX11_about 73 = .ok (.if_icmp .ge 34, 3) := by decide +kernel
theorem dX11_about_76 : decode cX11_about 76 = .ok (.iload_n 3, 1) := by decide +kernel
theorem dX11_about_77 : decode cX11_about 77 = .ok (.aload_n 0, 1) := by decide +kernel
theorem dX11_about_78 : decode cX11_about 78 = .ok (.iload 4, 2) := by decide +kernel
theorem dX11_about_80 : decode cX11_about 80 = .ok (.aload_n 0, 1) := by decide +kernel
theorem dX11_about_81 : decode cX11_about 81 = .ok (.getfield 152, 3) := by decide +kernel
theorem dX11_about_84 : decode cX11_about 84 = .ok (.invokevirtual 164, 3) := by decide +kernel
theorem dX11_about_87 : decode cX11_about 87 = .ok (.iload_n 1, 1) := by decide +kernel
theorem dX11_about_88 : decode cX11_about 88 = .ok (.if_icmp .ne 7, 3) := by decide +kernel
theorem dX11_about_91 : decode cX11_about 91 = .ok (.iconst 1, 1) := by decide +kernel
theorem dX11_about_92 : decode cX11_about 92 = .ok (.goto 4, 3) := by decide +kernel
theorem dX11_about_95 : decode cX11_about 95 = .ok (.iconst 0, 1) := by decide +kernel
theorem dX11_about_96 : decode cX11_about 96 = .ok (.invokestatic 245, 3) := by decide +kernel
theorem dX11_about_99 : decode cX11_about 99 = .ok (.iadd, 1) := by decide +kernel
theorem dX11_about_100 : decode cX11_about 100 = .ok (.istore_n 3, 1) := by decide +kernel
theorem dX11_about_101 : decode cX11_about 101 = .ok (.iinc 4 1, 3) := by decide +kernel
theorem dX11_about_104 : decode cX11_about 104 = .ok (.goto (-37), 3) := by decide +kernel
theorem dX11_about_107 : decode cX11_about 107 = .ok (.iload_n 3, 1) := by decide +kernel
theorem dX11_about_108 : decode cX11_about 108 = .ok (.ireturn, 1) := by decide +kernel
theorem dX11_about_109 : decode cX11_about 109 = .ok (.aload_n 0, 1) := by decide +kernel
theorem dX11_about_110 : decode cX11_about 110 = .ok (.iconst 2, 1) := by decide +kernel
theorem dX11_about_111 : decode cX11_about 111 = .ok (.putfield 129, 3) := by decide +kernel
theorem dX11_about_114 : decode cX11_about 114 = .ok (.iconst 0, 1) := by decide +kernel
theorem dX11_about_115 : decode cX11_about 115 = .ok (.ireturn, 1) := by decide +kernel
set_option maxRecDepth 20000 in
theorem ggX11_state_X11_noBin : GoodIn wsX11_state wsX11_noBin := goodIn_r _ [13, 14, 28, 29, 30, 31, 32, 33, 34, 35, 36, 37, 38, 39, 40, 41, 42, 43, 44, 45, 46, 47, 48, 49, 50, 51, 52, 53, 54, 55, 56, 57, 58, 59, 60, 61, 62, 63, 64, 65, 66, 67, 68, 69, 70, 71, 72, 73, 74, 75] (by decide +kernel) (by decide +kernel)
set_option maxRecDepth 20000 in
theorem gX11_state_X11_noBin : GoodIn wsX11_state (wsV RX11 212 RX11 yX11_noBin wsX11_noBin) := goodIn_app (goodIn_of _ (by decide +kernel)) ggX11_state_X11_noBin
set_option maxRecDepth 20000 in
theorem ggX11_state_X11_throwsIf : GoodIn wsX11_state wsX11_throwsIf := goodIn_r _ [18, 1, 28, 29, 30, 31, 32, 33, 34, 35, 36, 37, 38, 39, 40, 41, 42, 43, 44, 45, 46, 47, 48, 49, 50, 51, 52, 53, 54, 55, 56, 57, 58, 59, 60, 61, 62, 63, 64, 65, 66, 67, 68, 69, 70, 71, 72, 73, 74, 75] (by decide +kernel) (by decide +kernel)
set_option maxRecDepth 20000 in
theorem gX11_state_X11_throwsIf : GoodIn wsX11_state (wsV RX11 186 RX11 yX11_throwsIf wsX11_throwsIf) := goodIn_app (goodIn_of _ (by decide +kernel)) ggX11_state_X11_throwsIf
set_option maxRecDepth 20000 in
theorem ggX11_state_X11_one : GoodIn wsX11_state wsX11_one := goodIn_r _ [21] (by decide +kernel) (by decide +kernel)
set_option maxRecDepth 20000 in
theorem gX11_state_X11_one : GoodIn wsX11_state (va_wsS RX11 245 yX11_one wsX11_one) := goodIn_app (goodIn_of _ (by decide +kernel)) ggX11_state_X11_one
set_option maxRecDepth 20000 in
theorem ggX11_state_X11_houseOf : GoodIn wsX11_state wsX11_houseOf := goodIn_r _ [25, 7, 26, 27, 28, 29, 30, 31, 32, 33, 34, 35, 36, 37, 38, 39, 40, 41, 42, 43, 44, 45, 46, 47, 48, 49, 50, 51, 52, 53, 54, 55, 56, 57, 58, 59, 60, 61, 62, 63, 64, 65, 66, 67, 68, 69, 70, 71, 72, 73, 74, 75] (by decide +kernel) (by decide +kernel)
set_option maxRecDepth 20000 in
theorem gX11_state_X11_houseOf : GoodIn wsX11_state (wsV RX11 164 RX11 yX11_houseOf wsX11_houseOf) := goodIn_app (goodIn_of _ (by decide +kernel)) ggX11_state_X11_houseOf
theorem dX11_state_0 : decode cX11_state 0 = .ok (.aload_n 0, 1) := by decide +kernel
theorem dX11_state_1 : decode cX11_state 1 = .ok (.iconst 0, 1) := by decide +kernel
theorem dX11_state_2 : decode cX11_state 2 = .ok (.putfield 129, 3) := by decide +kernel
theorem dX11_state_5 : decode cX11_state 5 = .ok (.aload_n 0, 1) := by decide +kernel
theorem dX11_state_6 : decode cX11_state 6 = .ok (.aload_n 0, 1) := by decide +kernel
theorem dX11_state_7 : decode cX11_state 7 = .ok (.iload_n 1, 1) := by decide +kernel
theorem dX11_state_8 : decode cX11_state 8 = .ok (.invokevirtual 212, 3) := by decide +kernel
theorem dX11_state_11 : decode cX11_state 11 = .ok (.iconst 1, 1) := by decide +kernel
theorem dX11_state_12 : decode cX11_state 12 = .ok (.invokevirtual 186, 3) := by decide +kernel
theorem dX11_state_15 : decode cX11_state 15 = .ok (.ifCond .eq 5, 3) := by decide +kernel
theorem dX11_state_18 : decode cX11_state 18 = .ok (.iconst 0, 1) := by decide +kernel
theorem dX11_state_19 : decode cX11_state 19 = .ok (.ireturn, 1) := by decide +kernel
theorem dX11_state_20 : decode cX11_state 20 = .ok (.iload_n 2, 1) := by decide +kernel
theorem dX11_state_21 : decode cX11_state 21 = .ok (.tableswitch 111 0 6 #[43, 50, 60, 80, 90, 97, 104], 43) := by decide +kernel
theorem dX11_state_64 : decode cX11_state 64 = .ok (.aload_n 0, 1) := by decide +kernel
theorem dX11_state_65 : decode cX11_state 65 = .ok (.getfield 36, 3) := by decide +kernel
theorem dX11_state_68 : decode cX11_state 68 = .ok (.iload_n 1, 1) := by decide +kernel
theorem dX11_state_69 : decode cX11_state 69 = .ok (.iaload, 1) := by decide +kernel
theorem dX11_state_70 : decode cX11_state 70 = .ok (.ireturn, 1) := by decide +kernel
theorem dX11_state_71 : decode cX11_state 71 = .ok (.aload_n 0, 1) := by decide +kernel
theorem dX11_state_72 : decode cX11_state 72 = .ok (.getfield 39, 3) := by decide +kernel
theorem dX11_state_75 : decode cX11_state 75 = .ok (.iload_n 1, 1) := by decide +kernel
theorem dX11_state_76 : decode cX11_state 76 = .ok (.baload, 1) := by decide +kernel
theorem dX11_state_77 : decode cX11_state 77 = .ok (.invokestatic 245, 3) := by decide +kernel
theorem dX11_state_80 : decode cX11_state 80 = .ok (.ireturn, 1) := by decide +kernel
theorem dX11_state_81 : decode cX11_state 81 = .ok (.aload_n 0, 1) := by decide +kernel
theorem dX11_state_82 : decode cX11_state 82 = .ok (.getfield 39, 3) := by decide +kernel
theorem dX11_state_85 : decode cX11_state 85 = .ok (.iload_n 1, 1) := by decide +kernel
theorem dX11_state_86 : decode cX11_state 86 = .ok (.baload, 1) := by decide +kernel
theorem dX11_state_87 : decode cX11_state 87 = .ok (.ifCond .eq 12, 3) := by decide +kernel
theorem dX11_state_90 : decode cX11_state 90 = .ok (.aload_n 0, 1) := by decide +kernel
theorem dX11_state_91 : decode cX11_state 91 = .ok (.getfield 42, 3) := by decide +kernel
theorem dX11_state_94 : decode cX11_state 94 = .ok (.iload_n 1, 1) := by decide +kernel
theorem dX11_state_95 : decode cX11_state 95 = .ok (.iaload, 1) := by decide +kernel
theorem dX11_state_96 : decode cX11_state 96 = .ok (.goto 4, 3) := by decide +kernel
theorem dX11_state_99 : decode cX11_state 99 = .ok (.iconst 0, 1) := by decide +kernel
theorem dX11_state_100 : decode cX11_state 100 = .ok (.ireturn, 1) := by decide +kernel
theorem dX11_state_101 : decode cX11_state 101 = .ok (.aload_n 0, 1) := by decide +kernel
theorem dX11_state_102 : decode cX11_state 102 = .ok (.iload_n 1, 1) := by decide +kernel
theorem dX11_state_103 : decode cX11_state 103 = .ok (.aload_n 0, 1) := by decide +kernel
theorem dX11_state_104 : decode cX11_state 104 = .ok (.getfield 152, 3) := by decide +kernel
theorem dX11_state_107 : decode cX11_state 107 = .ok (.invokevirtual 164, 3) := by decide +kernel
theorem dX11_state_110 : decode cX11_state 110 = .ok (.ireturn, 1) := by decide +kernel
theorem dX11_state_111 : decode cX11_state 111 = .ok (.aload_n 0, 1) := by decide +kernel
theorem dX11_state_112 : decode cX11_state 112 = .ok (.getfield 45, 3) := by decide +kernel
theorem dX11_state_115 : decode cX11_state 115 = .ok (.iload_n 1, 1) := by decide +kernel
theorem dX11_state_116 : decode cX11_state 116 = .ok (.iaload, 1) := by decide +kernel
theorem dX11_state_117 : decode cX11_state 117 = .ok (.ireturn, 1) := by decide +kernel
theorem dX11_state_118 : decode cX11_state 118 = .ok (.aload_n 0, 1) := by decide +kernel
theorem dX11_state_119 : decode cX11_state 119 = .ok (.getfield 54, 3) := by decide +kernel
theorem dX11_state_122 : decode cX11_state 122 = .ok (.iload_n 1, 1) := by decide +kernel
theorem dX11_state_123 : decode cX11_state 123 = .ok (.iaload, 1) := by decide +kernel
theorem dX11_state_124 : decode cX11_state 124 = .ok (.ireturn, 1) := by decide +kernel
theorem dX11_state_125 : decode cX11_state 125 = .ok (.aload_n 0, 1) := by decide +kernel
theorem dX11_state_126 : decode cX11_state 126 = .ok (.getfield 66, 3) := by decide +kernel
theorem dX11_state_129 : decode cX11_state 129 = .ok (.iload_n 1, 1) := by decide +kernel
theorem dX11_state_130 : decode cX11_state 130 = .ok (.iaload, 1) := by decide +kernel
theorem dX11_state_131 : decode cX11_state 131 = .ok (.ireturn, 1) := by decide +kernel
theorem dX11_state_132 : decode cX11_state 132 = .ok (.aload_n 0, 1) := by decide +kernel
theorem dX11_state_133 : decode cX11_state 133 = .ok (.iconst 2, 1) := by decide +kernel
theorem dX11_state_134 : decode cX11_state 134 = .ok (.putfield 129, 3) := by decide +kernel
theorem dX11_state_137 : decode cX11_state 137 = .ok (.iconst 0, 1) := by decide +kernel
theorem dX11_state_138 : decode cX11_state 138 = .ok (.ireturn, 1) := by decide +kernel
set_option maxRecDepth 20000 in
theorem ggX11_count_X11_chargeOf : GoodIn wsX11_count wsX11_chargeOf := goodIn_r _ [15, 16, 17, 18, 19, 20, 21, 22, 14, 23, 24, 25, 26, 27, 28, 29, 30, 4, 31, 32, 33, 34, 35, 36, 37, 38, 39, 40, 41, 42, 43, 44, 45, 54, 55, 56, 57, 58, 59, 60, 61, 62, 63, 64, 65, 66, 67, 68, 69, 70, 71, 72, 73, 74, 75, 76, 77, 78, 79, 80, 81, 82, 83, 84, 85, 86, 87, 88, 89, 90, 91, 92, 93, 94, 95, 96, 97, 98, 99, 100, 101] (by decide +kernel) (by decide +kernel)
set_option maxRecDepth 20000 in
theorem gX11_count_X11_chargeOf : GoodIn wsX11_count (wsV RX11 178 RX11 yX11_chargeOf wsX11_chargeOf) := goodIn_app (goodIn_of _ (by decide +kernel)) ggX11_count_X11_chargeOf
set_option maxRecDepth 20000 in
theorem ggX11_count_X11_chargedTo : GoodIn wsX11_count wsX11_chargedTo := goodIn_r _ [49, 8, 7, 50, 51, 52, 14, 53, 16, 25, 24, 26, 4, 11, 12, 13, 15, 17, 18, 19, 20, 21, 22, 23, 27, 28, 29, 30, 31, 32, 33, 34, 35, 36, 37, 38, 39, 40, 41, 42, 43, 44, 45, 54, 55, 56, 57, 58, 59, 60, 61, 62, 63, 64, 65, 66, 67, 68, 69, 70, 71, 72, 73, 74, 75, 76, 77, 78, 79, 80, 81, 82, 83, 84, 85, 86, 87, 88, 89, 90, 91, 92, 93, 94, 95, 96, 97, 98, 99, 100, 101] (by decide +kernel) (by decide +kernel)
set_option maxRecDepth 20000 in
theorem gX11_count_X11_chargedTo : GoodIn wsX11_count (wsV RX11 249 RX11 yX11_chargedTo wsX11_chargedTo) := goodIn_app (goodIn_of _ (by decide +kernel)) ggX11_count_X11_chargedTo
theorem dX11_count_0 : decode cX11_count 0 = .ok (.aload_n 0, 1) := by decide +kernel
theorem dX11_count_1 : decode cX11_count 1 = .ok (.iconst 0, 1) := by decide +kernel
theorem dX11_count_2 : decode cX11_count 2 = .ok (.putfield 129, 3) := by decide +kernel
theorem dX11_count_5 : decode cX11_count 5 = .ok (.iload_n 1, 1) := by decide +kernel
theorem dX11_count_6 : decode cX11_count 6 = .ok (.tableswitch 216 0 9 #[54, 60, 66, 72, 78, 84, 90, 121, 153, 184], 54) := by decide +kernel
theorem dX11_count_60 : decode cX11_count 60 = .ok (.aload_n 0, 1) := by decide +kernel
theorem dX11_count_61 : decode cX11_count 61 = .ok (.getfield 152, 3) := by decide +kernel
theorem dX11_count_64 : decode cX11_count 64 = .ok (.i2l, 1) := by decide +kernel
theorem dX11_count_65 : decode cX11_count 65 = .ok (.lreturn, 1) := by decide +kernel
theorem dX11_count_66 : decode cX11_count 66 = .ok (.aload_n 0, 1) := by decide +kernel
theorem dX11_count_67 : decode cX11_count 67 = .ok (.getfield 133, 3) := by decide +kernel
theorem dX11_count_70 : decode cX11_count 70 = .ok (.i2l, 1) := by decide +kernel
theorem dX11_count_71 : decode cX11_count 71 = .ok (.lreturn, 1) := by decide +kernel
theorem dX11_count_72 : decode cX11_count 72 = .ok (.aload_n 0, 1) := by decide +kernel
theorem dX11_count_73 : decode cX11_count 73 = .ok (.getfield 136, 3) := by decide +kernel
theorem dX11_count_76 : decode cX11_count 76 = .ok (.i2l, 1) := by decide +kernel
theorem dX11_count_77 : decode cX11_count 77 = .ok (.lreturn, 1) := by decide +kernel
theorem dX11_count_78 : decode cX11_count 78 = .ok (.aload_n 0, 1) := by decide +kernel
theorem dX11_count_79 : decode cX11_count 79 = .ok (.getfield 139, 3) := by decide +kernel
theorem dX11_count_82 : decode cX11_count 82 = .ok (.i2l, 1) := by decide +kernel
theorem dX11_count_83 : decode cX11_count 83 = .ok (.lreturn, 1) := by decide +kernel
theorem dX11_count_84 : decode cX11_count 84 = .ok (.aload_n 0, 1) := by decide +kernel
theorem dX11_count_85 : decode cX11_count 85 = .ok (.getfield 142, 3) := by decide +kernel
theorem dX11_count_88 : decode cX11_count 88 = .ok (.i2l, 1) := by decide +kernel
theorem dX11_count_89 : decode cX11_count 89 = .ok (.lreturn, 1) := by decide +kernel
theorem dX11_count_90 : decode cX11_count 90 = .ok (.aload_n 0, 1) := by decide +kernel
theorem dX11_count_91 : decode cX11_count 91 = .ok (.getfield 145, 3) := by decide +kernel
theorem dX11_count_94 : decode cX11_count 94 = .ok (.i2l, 1) := by decide +kernel
theorem dX11_count_95 : decode cX11_count 95 = .ok (.lreturn, 1) := by decide +kernel
theorem dX11_count_96 : decode cX11_count 96 = .ok (.lconst 0, 1) := by decide +kernel
theorem dX11_count_97 : decode cX11_count 97 = .ok (.lstore_n 2, 1) := by decide +kernel
theorem dX11_count_98 : decode cX11_count 98 = .ok (.iconst 0, 1) := by decide +kernel
theorem dX11_count_99 : decode cX11_count 99 = .ok (.istore 4, 2) := by decide +kernel
theorem dX11_count_101 : decode cX11_count 101 = .ok (.iload 4, 2) := by decide +kernel
theorem dX11_count_103 : decode cX11_count 103 = .ok (.aload_n 0, 1) := by decide +kernel
theorem dX11_count_104 : decode cX11_count 104 = .ok (.getfield 145, 3) := by decide +kernel
theorem dX11_count_107 : decode cX11_count 107 = .ok (.if_icmp .ge 18, 3) := by decide +kernel
theorem dX11_count_110 : decode cX11_count 110 = .ok (.lload_n 2, 1) := by decide +kernel
theorem dX11_count_111 : decode cX11_count 111 = .ok (.aload_n 0, 1) := by decide +kernel
theorem dX11_count_112 : decode cX11_count 112 = .ok (.iload 4, 2) := by decide +kernel
theorem dX11_count_114 : decode cX11_count 114 = .ok (.invokevirtual 178, 3) := by decide +kernel
theorem dX11_count_117 : decode cX11_count 117 = .ok (.ladd, 1) := by decide +kernel
theorem dX11_count_118 : decode cX11_count 118 = .ok (.lstore_n 2, 1) := by decide +kernel
theorem dX11_count_119 : decode cX11_count 119 = .ok (.iinc 4 1, 3) := by decide +kernel
theorem dX11_count_122 : decode cX11_count 122 = .ok (.goto (-21), 3) := by decide +kernel
theorem dX11_count_125 : decode cX11_count 125 = .ok (.lload_n 2, 1) := by decide +kernel
theorem dX11_count_126 : decode cX11_count 126 = .ok (.lreturn, 1) := by decide +kernel
theorem dX11_count_127 : decode cX11_count 127 = .ok (.lconst 0, 1) := by decide +kernel
theorem dX11_count_128 : decode cX11_count 128 = .ok (.lstore_n 2, 1) := by decide +kernel
theorem dX11_count_129 : decode cX11_count 129 = .ok (.iconst 0, 1) := by decide +kernel
theorem dX11_count_130 : decode cX11_count 130 = .ok (.istore 4, 2) := by decide +kernel
theorem dX11_count_132 : decode cX11_count 132 = .ok (.iload 4, 2) := by decide +kernel
theorem dX11_count_134 : decode cX11_count 134 = .ok (.aload_n 0, 1) := by decide +kernel
theorem dX11_count_135 : decode cX11_count 135 = .ok (.getfield 136, 3) := by decide +kernel
theorem dX11_count_138 : decode cX11_count 138 = .ok (.if_icmp .ge 19, 3) := by decide +kernel
theorem dX11_count_141 : decode cX11_count 141 = .ok (.lload_n 2, 1) := by decide +kernel
theorem dX11_count_142 : decode cX11_count 142 = .ok (.aload_n 0, 1) := by decide +kernel
theorem dX11_count_143 : decode cX11_count 143 = .ok (.getfield 26, 3) := by decide +kernel
theorem dX11_count_146 : decode cX11_count 146 = .ok (.iload 4, 2) := by decide +kernel
theorem dX11_count_148 : decode cX11_count 148 = .ok (.laload, 1) := by decide +kernel
theorem dX11_count_149 : decode cX11_count 149 = .ok (.ladd, 1) := by decide +kernel
theorem dX11_count_150 : decode cX11_count 150 = .ok (.lstore_n 2, 1) := by decide +kernel
theorem dX11_count_151 : decode cX11_count 151 = .ok (.iinc 4 1, 3) := by decide +kernel
theorem dX11_count_154 : decode cX11_count 154 = .ok (.goto (-22), 3) := by decide +kernel
theorem dX11_count_157 : decode cX11_count 157 = .ok (.lload_n 2, 1) := by decide +kernel
theorem dX11_count_158 : decode cX11_count 158 = .ok (.lreturn, 1) := by decide +kernel
theorem dX11_count_159 : decode cX11_count 159 = .ok (.lconst 0, 1) := by decide +kernel
theorem dX11_count_160 : decode cX11_count 160 = .ok (.lstore_n 2, 1) := by decide +kernel
theorem dX11_count_161 : decode cX11_count 161 = .ok (.iconst 0, 1) := by decide +kernel
theorem dX11_count_162 : decode cX11_count 162 = .ok (.istore 4, 2) := by decide +kernel
theorem dX11_count_164 : decode cX11_count 164 = .ok (.iload 4, 2) := by decide +kernel
theorem dX11_count_166 : decode cX11_count 166 = .ok (.aload_n 0, 1) := by decide +kernel
theorem dX11_count_167 : decode cX11_count 167 = .ok (.getfield 136, 3) := by decide +kernel
theorem dX11_count_170 : decode cX11_count 170 = .ok (.if_icmp .ge 18, 3) := by decide +kernel
theorem dX11_count_173 : decode cX11_count 173 = .ok (.lload_n 2, 1) := by decide +kernel
theorem dX11_count_174 : decode cX11_count 174 = .ok (.aload_n 0, 1) := by decide +kernel
theorem dX11_count_175 : decode cX11_count 175 = .ok (.iload 4, 2) := by decide +kernel
theorem dX11_count_177 : decode cX11_count 177 = .ok (.invokevirtual 249, 3) := by decide +kernel
theorem dX11_count_180 : decode cX11_count 180 = .ok (.ladd, 1) := by decide +kernel
theorem dX11_count_181 : decode cX11_count 181 = .ok (.lstore_n 2, 1) := by decide +kernel
theorem dX11_count_182 : decode cX11_count 182 = .ok (.iinc 4 1, 3) := by decide +kernel
theorem dX11_count_185 : decode cX11_count 185 = .ok (.goto (-21), 3) := by decide +kernel
theorem dX11_count_188 : decode cX11_count 188 = .ok (.lload_n 2, 1) := by decide +kernel
theorem dX11_count_189 : decode cX11_count 189 = .ok (.lreturn, 1) := by decide +kernel
theorem dX11_count_190 : decode cX11_count 190 = .ok (.lconst 0, 1) := by decide +kernel
theorem dX11_count_191 : decode cX11_count 191 = .ok (.lstore_n 2, 1) := by decide +kernel
theorem dX11_count_192 : decode cX11_count 192 = .ok (.iconst 0, 1) := by decide +kernel
theorem dX11_count_193 : decode cX11_count 193 = .ok (.istore 4, 2) := by decide +kernel
theorem dX11_count_195 : decode cX11_count 195 = .ok (.iload 4, 2) := by decide +kernel
theorem dX11_count_197 : decode cX11_count 197 = .ok (.aload_n 0, 1) := by decide +kernel
theorem dX11_count_198 : decode cX11_count 198 = .ok (.getfield 136, 3) := by decide +kernel
theorem dX11_count_201 : decode cX11_count 201 = .ok (.if_icmp .ge 19, 3) := by decide +kernel
theorem dX11_count_204 : decode cX11_count 204 = .ok (.lload_n 2, 1) := by decide +kernel
theorem dX11_count_205 : decode cX11_count 205 = .ok (.aload_n 0, 1) := by decide +kernel
theorem dX11_count_206 : decode cX11_count 206 = .ok (.getfield 33, 3) := by decide +kernel
theorem dX11_count_209 : decode cX11_count 209 = .ok (.iload 4, 2) := by decide +kernel
theorem dX11_count_211 : decode cX11_count 211 = .ok (.laload, 1) := by decide +kernel
theorem dX11_count_212 : decode cX11_count 212 = .ok (.ladd, 1) := by decide +kernel
theorem dX11_count_213 : decode cX11_count 213 = .ok (.lstore_n 2, 1) := by decide +kernel
theorem dX11_count_214 : decode cX11_count 214 = .ok (.iinc 4 1, 3) := by decide +kernel
theorem dX11_count_217 : decode cX11_count 217 = .ok (.goto (-22), 3) := by decide +kernel
theorem dX11_count_220 : decode cX11_count 220 = .ok (.lload_n 2, 1) := by decide +kernel
theorem dX11_count_221 : decode cX11_count 221 = .ok (.lreturn, 1) := by decide +kernel
theorem dX11_count_222 : decode cX11_count 222 = .ok (.ldc2_w 226, 3) := by decide +kernel
theorem dX11_count_225 : decode cX11_count 225 = .ok (.lreturn, 1) := by decide +kernel
theorem dJ9_abs_067f4_0 : decode cJ9_abs_067f4 0 = .ok (.lload_n 0, 1) := by decide +kernel
theorem dJ9_abs_067f4_1 : decode cJ9_abs_067f4 1 = .ok (.lconst 0, 1) := by decide +kernel
theorem dJ9_abs_067f4_2 : decode cJ9_abs_067f4 2 = .ok (.lcmp, 1) := by decide +kernel
theorem dJ9_abs_067f4_3 : decode cJ9_abs_067f4 3 = .ok (.ifCond .ge 8, 3) := by decide +kernel
theorem dJ9_abs_067f4_6 : decode cJ9_abs_067f4 6 = .ok (.lload_n 0, 1) := by decide +kernel
theorem dJ9_abs_067f4_7 : decode cJ9_abs_067f4 7 = .ok (.lneg, 1) := by decide +kernel
theorem dJ9_abs_067f4_8 : decode cJ9_abs_067f4 8 = .ok (.goto 4, 3) := by decide +kernel
theorem dJ9_abs_067f4_11 : decode cJ9_abs_067f4 11 = .ok (.lload_n 0, 1) := by decide +kernel
theorem dJ9_abs_067f4_12 : decode cJ9_abs_067f4 12 = .ok (.lreturn, 1) := by decide +kernel
theorem dJ9_max_7cf53_0 : decode cJ9_max_7cf53 0 = .ok (.iload_n 0, 1) := by decide +kernel
theorem dJ9_max_7cf53_1 : decode cJ9_max_7cf53 1 = .ok (.iload_n 1, 1) := by decide +kernel
theorem dJ9_max_7cf53_2 : decode cJ9_max_7cf53 2 = .ok (.if_icmp .lt 7, 3) := by decide +kernel
theorem dJ9_max_7cf53_5 : decode cJ9_max_7cf53 5 = .ok (.iload_n 0, 1) := by decide +kernel
theorem dJ9_max_7cf53_6 : decode cJ9_max_7cf53 6 = .ok (.goto 4, 3) := by decide +kernel
theorem dJ9_max_7cf53_9 : decode cJ9_max_7cf53 9 = .ok (.iload_n 1, 1) := by decide +kernel
theorem dJ9_max_7cf53_10 : decode cJ9_max_7cf53 10 = .ok (.ireturn, 1) := by decide +kernel
theorem dJ9_min_7cf53_0 : decode cJ9_min_7cf53 0 = .ok (.iload_n 0, 1) := by decide +kernel
theorem dJ9_min_7cf53_1 : decode cJ9_min_7cf53 1 = .ok (.iload_n 1, 1) := by decide +kernel
theorem dJ9_min_7cf53_2 : decode cJ9_min_7cf53 2 = .ok (.if_icmp .gt 7, 3) := by decide +kernel
theorem dJ9_min_7cf53_5 : decode cJ9_min_7cf53 5 = .ok (.iload_n 0, 1) := by decide +kernel
theorem dJ9_min_7cf53_6 : decode cJ9_min_7cf53 6 = .ok (.goto 4, 3) := by decide +kernel
theorem dJ9_min_7cf53_9 : decode cJ9_min_7cf53 9 = .ok (.iload_n 1, 1) := by decide +kernel
theorem dJ9_min_7cf53_10 : decode cJ9_min_7cf53 10 = .ok (.ireturn, 1) := by decide +kernel
theorem dJxa1e45_init_da8c8_0 : decode cJxa1e45_init_da8c8 0 = .ok (.aload_n 0, 1) := by decide +kernel
theorem dJxa1e45_init_da8c8_1 : decode cJxa1e45_init_da8c8 1 = .ok (.invokespecial 1, 3) := by decide +kernel
theorem dJxa1e45_init_da8c8_4 : decode cJxa1e45_init_da8c8 4 = .ok (.return_, 1) := by decide +kernel
set_option maxRecDepth 20000 in
theorem ggJxc12de_init_da8c8_Jxa1e45_init_da8c8 : GoodIn wsJxc12de_init_da8c8 wsJxa1e45_init_da8c8 := goodIn_r _ [5, 6, 7, 8] (by decide +kernel) (by decide +kernel)
set_option maxRecDepth 20000 in
theorem gJxc12de_init_da8c8_Jxa1e45_init_da8c8 : GoodIn wsJxc12de_init_da8c8 (wsJxa1e45_init_da8c8) := ggJxc12de_init_da8c8_Jxa1e45_init_da8c8
theorem dJxc12de_init_da8c8_0 : decode cJxc12de_init_da8c8 0 = .ok (.aload_n 0, 1) := by decide +kernel
theorem dJxc12de_init_da8c8_1 : decode cJxc12de_init_da8c8 1 = .ok (.invokespecial 1, 3) := by decide +kernel
theorem dJxc12de_init_da8c8_4 : decode cJxc12de_init_da8c8 4 = .ok (.aload_n 0, 1) := by decide +kernel
theorem dJxc12de_init_da8c8_5 : decode cJxc12de_init_da8c8 5 = .ok (.iconst 0, 1) := by decide +kernel
theorem dJxc12de_init_da8c8_6 : decode cJxc12de_init_da8c8 6 = .ok (.putfield 7, 3) := by decide +kernel
theorem dJxc12de_init_da8c8_9 : decode cJxc12de_init_da8c8 9 = .ok (.return_, 1) := by decide +kernel
set_option maxRecDepth 20000 in
theorem ggJx4a65c_init_da8c8_Jxc12de_init_da8c8 : GoodIn wsJx4a65c_init_da8c8 wsJxc12de_init_da8c8 := goodIn_r _ [6, 7, 8, 9, 10, 11, 12, 13, 14, 15, 16, 17] (by decide +kernel) (by decide +kernel)
set_option maxRecDepth 20000 in
theorem gJx4a65c_init_da8c8_Jxc12de_init_da8c8 : GoodIn wsJx4a65c_init_da8c8 (wsJxc12de_init_da8c8) := ggJx4a65c_init_da8c8_Jxc12de_init_da8c8
theorem dJx4a65c_init_da8c8_0 : decode cJx4a65c_init_da8c8 0 = .ok (.aload_n 0, 1) := by decide +kernel
theorem dJx4a65c_init_da8c8_1 : decode cJx4a65c_init_da8c8 1 = .ok (.invokespecial 1, 3) := by decide +kernel
theorem dJx4a65c_init_da8c8_4 : decode cJx4a65c_init_da8c8 4 = .ok (.aload_n 0, 1) := by decide +kernel
theorem dJx4a65c_init_da8c8_5 : decode cJx4a65c_init_da8c8 5 = .ok (.getstatic 39, 3) := by decide +kernel
theorem dJx4a65c_init_da8c8_8 : decode cJx4a65c_init_da8c8 8 = .ok (.putfield 9, 3) := by decide +kernel
theorem dJx4a65c_init_da8c8_11 : decode cJx4a65c_init_da8c8 11 = .ok (.return_, 1) := by decide +kernel
set_option maxRecDepth 20000 in
theorem ggJx4a65c_grow_92f84_J8_newLength_cabcc : GoodIn wsJx4a65c_grow_92f84 wsJ8_newLength_cabcc := goodIn_r _ [11, 12, 4, 5, 6, 13, 14, 15, 10, 16] (by decide +kernel) (by decide +kernel)
set_option maxRecDepth 20000 in
theorem gJx4a65c_grow_92f84_J8_newLength_cabcc : GoodIn wsJx4a65c_grow_92f84 (va_wsS RJx4a65c 73 yJ8_newLength_cabcc wsJ8_newLength_cabcc) := goodIn_app (goodIn_of _ (by decide +kernel)) ggJx4a65c_grow_92f84_J8_newLength_cabcc
set_option maxRecDepth 20000 in
theorem ggJx4a65c_grow_92f84_J7_copyOf_1904c : GoodIn wsJx4a65c_grow_92f84 wsJ7_copyOf_1904c := goodIn_r _ [20, 21, 22, 23, 24, 25, 26, 19, 27, 28, 29, 30, 31, 5, 32, 33, 34, 35, 36] (by decide +kernel) (by decide +kernel)
set_option maxRecDepth 20000 in
theorem gJx4a65c_grow_92f84_J7_copyOf_1904c : GoodIn wsJx4a65c_grow_92f84 (va_wsS RJx4a65c 66 yJ7_copyOf_1904c wsJ7_copyOf_1904c) := goodIn_app (goodIn_of _ (by decide +kernel)) ggJx4a65c_grow_92f84_J7_copyOf_1904c
theorem dJx4a65c_grow_92f84_0 : decode cJx4a65c_grow_92f84 0 = .ok (.aload_n 0, 1) := by decide +kernel
theorem dJx4a65c_grow_92f84_1 : decode cJx4a65c_grow_92f84 1 = .ok (.getfield 9, 3) := by decide +kernel
theorem dJx4a65c_grow_92f84_4 : decode cJx4a65c_grow_92f84 4 = .ok (.arraylength, 1) := by decide +kernel
theorem dJx4a65c_grow_92f84_5 : decode cJx4a65c_grow_92f84 5 = .ok (.istore_n 2, 1) := by decide +kernel
theorem dJx4a65c_grow_92f84_6 : decode cJx4a65c_grow_92f84 6 = .ok (.iload_n 2, 1) := by decide +kernel
theorem dJx4a65c_grow_92f84_7 : decode cJx4a65c_grow_92f84 7 = .ok (.ifCond .gt 13, 3) := by decide +kernel
theorem dJx4a65c_grow_92f84_10 : decode cJx4a65c_grow_92f84 10 = .ok (.aload_n 0, 1) := by decide +kernel
theorem dJx4a65c_grow_92f84_11 : decode cJx4a65c_grow_92f84 11 = .ok (.getfield 9, 3) := by decide +kernel
theorem dJx4a65c_grow_92f84_14 : decode cJx4a65c_grow_92f84 14 = .ok (.getstatic 39, 3) := by decide +kernel
theorem dJx4a65c_grow_92f84_17 : decode cJx4a65c_grow_92f84 17 = .ok (.if_acmp .eq 28, 3) := by decide +kernel
theorem dJx4a65c_grow_92f84_20 : decode cJx4a65c_grow_92f84 20 = .ok (.iload_n 2, 1) := by decide +kernel
theorem dJx4a65c_grow_92f84_21 : decode cJx4a65c_grow_92f84 21 = .ok (.iload_n 1, 1) := by decide +kernel
theorem dJx4a65c_grow_92f84_22 : decode cJx4a65c_grow_92f84 22 = .ok (.iload_n 2, 1) := by decide +kernel
theorem dJx4a65c_grow_92f84_23 : decode cJx4a65c_grow_92f84 23 = .ok (.isub, 1) := by decide +kernel
theorem dJx4a65c_grow_92f84_24 : decode cJx4a65c_grow_92f84 24 = .ok (.iload_n 2, 1) := by decide +kernel
theorem dJx4a65c_grow_92f84_25 : decode cJx4a65c_grow_92f84 25 = .ok (.iconst 1, 1) := by decide +kernel
theorem dJx4a65c_grow_92f84_26 : decode cJx4a65c_grow_92f84 26 = .ok (.ishr, 1) := by decide +kernel
theorem dJx4a65c_grow_92f84_27 : decode cJx4a65c_grow_92f84 27 = .ok (.invokestatic 73, 3) := by decide +kernel
theorem dJx4a65c_grow_92f84_30 : decode cJx4a65c_grow_92f84 30 = .ok (.istore_n 3, 1) := by decide +kernel
theorem dJx4a65c_grow_92f84_31 : decode cJx4a65c_grow_92f84 31 = .ok (.aload_n 0, 1) := by decide +kernel
theorem dJx4a65c_grow_92f84_32 : decode cJx4a65c_grow_92f84 32 = .ok (.aload_n 0, 1) := by decide +kernel
theorem dJx4a65c_grow_92f84_33 : decode cJx4a65c_grow_92f84 33 = .ok (.getfield 9, 3) := by decide +kernel
theorem dJx4a65c_grow_92f84_36 : decode cJx4a65c_grow_92f84 36 = .ok (.iload_n 3, 1) := by decide +kernel
theorem dJx4a65c_grow_92f84_37 : decode cJx4a65c_grow_92f84 37 = .ok (.invokestatic 66, 3) := by decide +kernel
theorem dJx4a65c_grow_92f84_40 : decode cJx4a65c_grow_92f84 40 = .ok (.dup_x1, 1) := by decide +kernel
theorem dJx4a65c_grow_92f84_41 : decode cJx4a65c_grow_92f84 41 = .ok (.putfield 9, 3) := by decide +kernel
theorem dJx4a65c_grow_92f84_44 : decode cJx4a65c_grow_92f84 44 = .ok (.areturn, 1) := by decide +kernel
theorem dJx4a65c_grow_92f84_45 : decode cJx4a65c_grow_92f84 45 = .ok (.aload_n 0, 1) := by decide +kernel
theorem dJx4a65c_grow_92f84_46 : decode cJx4a65c_grow_92f84 46 = .ok (.bipush 10, 2) := by decide +kernel
theorem dJx4a65c_grow_92f84_48 : decode cJx4a65c_grow_92f84 48 = .ok (.iload_n 1, 1) := by decide +kernel
theorem dJx4a65c_grow_92f84_49 : decode cJx4a65c_grow_92f84 49 = .ok (.invokestatic 79, 3) := by decide +kernel
theorem dJx4a65c_grow_92f84_52 : decode cJx4a65c_grow_92f84 52 = .ok (.anewarray 7, 3) := by decide +kernel
theorem dJx4a65c_grow_92f84_55 : decode cJx4a65c_grow_92f84 55 = .ok (.dup_x1, 1) := by decide +kernel
theorem dJx4a65c_grow_92f84_56 : decode cJx4a65c_grow_92f84 56 = .ok (.putfield 9, 3) := by decide +kernel
theorem dJx4a65c_grow_92f84_59 : decode cJx4a65c_grow_92f84 59 = .ok (.areturn, 1) := by decide +kernel
set_option maxRecDepth 20000 in
theorem ggJx4a65c_grow_d5877_Jx4a65c_grow_92f84 : GoodIn wsJx4a65c_grow_d5877 wsJx4a65c_grow_92f84 := goodIn_r _ [6, 7, 8, 9, 10, 11, 12, 13, 14, 15, 16, 17, 18, 19, 20, 21, 22, 23, 24, 25, 26, 27, 28, 29, 30, 31, 32, 33, 34, 35, 36, 37, 38, 39, 40, 41, 42, 43, 44, 45] (by decide +kernel) (by decide +kernel)
set_option maxRecDepth 20000 in
theorem gJx4a65c_grow_d5877_Jx4a65c_grow_92f84 : GoodIn wsJx4a65c_grow_d5877 (wsV RJx4a65c 69 RJx4a65c yJx4a65c_grow_92f84 wsJx4a65c_grow_92f84) := goodIn_app (goodIn_of _ (by decide +kernel)) ggJx4a65c_grow_d5877_Jx4a65c_grow_92f84
theorem dJx4a65c_grow_d5877_0 : decode cJx4a65c_grow_d5877 0 = .ok (.aload_n 0, 1) := by decide +kernel
theorem dJx4a65c_grow_d5877_1 : decode cJx4a65c_grow_d5877 1 = .ok (.aload_n 0, 1) := by decide +kernel
theorem dJx4a65c_grow_d5877_2 : decode cJx4a65c_grow_d5877 2 = .ok (.getfield 48, 3) := by decide +kernel
theorem dJx4a65c_grow_d5877_5 : decode cJx4a65c_grow_d5877 5 = .ok (.iconst 1, 1) := by decide +kernel
theorem dJx4a65c_grow_d5877_6 : decode cJx4a65c_grow_d5877 6 = .ok (.iadd, 1) := by decide +kernel
theorem dJx4a65c_grow_d5877_7 : decode cJx4a65c_grow_d5877 7 = .ok (.invokevirtual 69, 3) := by decide +kernel
theorem dJx4a65c_grow_d5877_10 : decode cJx4a65c_grow_d5877 10 = .ok (.areturn, 1) := by decide +kernel
theorem dJx4a65c_size_8abf5_0 : decode cJx4a65c_size_8abf5 0 = .ok (.aload_n 0, 1) := by decide +kernel
theorem dJx4a65c_size_8abf5_1 : decode cJx4a65c_size_8abf5 1 = .ok (.getfield 48, 3) := by decide +kernel
theorem dJx4a65c_size_8abf5_4 : decode cJx4a65c_size_8abf5 4 = .ok (.ireturn, 1) := by decide +kernel
theorem dJx4a65c_isEmpty_aae02_0 : decode cJx4a65c_isEmpty_aae02 0 = .ok (.aload_n 0, 1) := by decide +kernel
theorem dJx4a65c_isEmpty_aae02_1 : decode cJx4a65c_isEmpty_aae02 1 = .ok (.getfield 48, 3) := by decide +kernel
theorem dJx4a65c_isEmpty_aae02_4 : decode cJx4a65c_isEmpty_aae02 4 = .ok (.ifCond .ne 7, 3) := by decide +kernel
theorem dJx4a65c_isEmpty_aae02_7 : decode cJx4a65c_isEmpty_aae02 7 = .ok (.iconst 1, 1) := by decide +kernel
theorem dJx4a65c_isEmpty_aae02_8 : decode cJx4a65c_isEmpty_aae02 8 = .ok (.goto 4, 3) := by decide +kernel
theorem dJx4a65c_isEmpty_aae02_11 : decode cJx4a65c_isEmpty_aae02 11 = .ok (.iconst 0, 1) := by decide +kernel
theorem dJx4a65c_isEmpty_aae02_12 : decode cJx4a65c_isEmpty_aae02 12 = .ok (.ireturn, 1) := by decide +kernel
theorem dJx4a65c_elementData_915e3_0 : decode cJx4a65c_elementData_915e3 0 = .ok (.aload_n 0, 1) := by decide +kernel
theorem dJx4a65c_elementData_915e3_1 : decode cJx4a65c_elementData_915e3 1 = .ok (.getfield 9, 3) := by decide +kernel
theorem dJx4a65c_elementData_915e3_4 : decode cJx4a65c_elementData_915e3 4 = .ok (.iload_n 1, 1) := by decide +kernel
theorem dJx4a65c_elementData_915e3_5 : decode cJx4a65c_elementData_915e3 5 = .ok (.aaload, 1) := by decide +kernel
theorem dJx4a65c_elementData_915e3_6 : decode cJx4a65c_elementData_915e3 6 = .ok (.areturn, 1) := by decide +kernel
set_option maxRecDepth 20000 in
theorem ggJx4a65c_get_915e3_J15_checkIndex_7cf53 : GoodIn wsJx4a65c_get_915e3 wsJ15_checkIndex_7cf53 := goodIn_r _ [5, 6, 7, 8, 9] (by decide +kernel) (by decide +kernel)
set_option maxRecDepth 20000 in
theorem gJx4a65c_get_915e3_J15_checkIndex_7cf53 : GoodIn wsJx4a65c_get_915e3 (va_wsS RJx4a65c 118 yJ15_checkIndex_7cf53 wsJ15_checkIndex_7cf53) := goodIn_app (goodIn_of _ (by decide +kernel)) ggJx4a65c_get_915e3_J15_checkIndex_7cf53
set_option maxRecDepth 20000 in
theorem ggJx4a65c_get_915e3_Jx4a65c_elementData_915e3 : GoodIn wsJx4a65c_get_915e3 wsJx4a65c_elementData_915e3 := goodIn_r _ [14, 15, 16, 17, 18] (by decide +kernel) (by decide +kernel)
set_option maxRecDepth 20000 in
theorem gJx4a65c_get_915e3_Jx4a65c_elementData_915e3 : GoodIn wsJx4a65c_get_915e3 (wsV RJx4a65c 123 RJx4a65c yJx4a65c_elementData_915e3 wsJx4a65c_elementData_915e3) := goodIn_app (goodIn_of _ (by decide +kernel)) ggJx4a65c_get_915e3_Jx4a65c_elementData_915e3
theorem dJx4a65c_get_915e3_0 : decode cJx4a65c_get_915e3 0 = .ok (.iload_n 1, 1) := by decide +kernel
theorem dJx4a65c_get_915e3_1 : decode cJx4a65c_get_915e3 1 = .ok (.aload_n 0, 1) := by decide +kernel
theorem dJx4a65c_get_915e3_2 : decode cJx4a65c_get_915e3 2 = .ok (.getfield 48, 3) := by decide +kernel
theorem dJx4a65c_get_915e3_5 : decode cJx4a65c_get_915e3 5 = .ok (.invokestatic 118, 3) := by decide +kernel
theorem dJx4a65c_get_915e3_8 : decode cJx4a65c_get_915e3 8 = .ok (.pop, 1) := by decide +kernel
theorem dJx4a65c_get_915e3_9 : decode cJx4a65c_get_915e3 9 = .ok (.aload_n 0, 1) := by decide +kernel
theorem dJx4a65c_get_915e3_10 : decode cJx4a65c_get_915e3 10 = .ok (.iload_n 1, 1) := by decide +kernel
theorem dJx4a65c_get_915e3_11 : decode cJx4a65c_get_915e3 11 = .ok (.invokevirtual 123, 3) := by decide +kernel
theorem dJx4a65c_get_915e3_14 : decode cJx4a65c_get_915e3 14 = .ok (.areturn, 1) := by decide +kernel
set_option maxRecDepth 20000 in
theorem ggJx4a65c_add_72be8_Jx4a65c_grow_d5877 : GoodIn wsJx4a65c_add_72be8 wsJx4a65c_grow_d5877 := goodIn_r _ [6, 1, 7, 8, 9, 5, 10, 11, 12, 13, 14, 15, 16, 17, 18, 19, 20, 21, 22, 23, 24, 25, 26, 27, 28, 29, 30, 31, 32, 33, 34, 35, 36, 37, 38, 39, 40, 41, 42, 43, 44, 45, 46, 47, 48, 49] (by decide +kernel) (by decide +kernel)
set_option maxRecDepth 20000 in
theorem gJx4a65c_add_72be8_Jx4a65c_grow_d5877 : GoodIn wsJx4a65c_add_72be8 (wsV RJx4a65c 129 RJx4a65c yJx4a65c_grow_d5877 wsJx4a65c_grow_d5877) := goodIn_app (goodIn_of _ (by decide +kernel)) ggJx4a65c_add_72be8_Jx4a65c_grow_d5877
theorem dJx4a65c_add_72be8_0 : decode cJx4a65c_add_72be8 0 = .ok (.iload_n 3, 1) := by decide +kernel
theorem dJx4a65c_add_72be8_1 : decode cJx4a65c_add_72be8 1 = .ok (.aload_n 2, 1) := by decide +kernel
theorem dJx4a65c_add_72be8_2 : decode cJx4a65c_add_72be8 2 = .ok (.arraylength, 1) := by decide +kernel
theorem dJx4a65c_add_72be8_3 : decode cJx4a65c_add_72be8 3 = .ok (.if_icmp .ne 8, 3) := by decide +kernel
theorem dJx4a65c_add_72be8_6 : decode cJx4a65c_add_72be8 6 = .ok (.aload_n 0, 1) := by decide +kernel
theorem dJx4a65c_add_72be8_7 : decode cJx4a65c_add_72be8 7 = .ok (.invokevirtual 129, 3) := by decide +kernel
theorem dJx4a65c_add_72be8_10 : decode cJx4a65c_add_72be8 10 = .ok (.astore_n 2, 1) := by decide +kernel
theorem dJx4a65c_add_72be8_11 : decode cJx4a65c_add_72be8 11 = .ok (.aload_n 2, 1) := by decide +kernel
theorem dJx4a65c_add_72be8_12 : decode cJx4a65c_add_72be8 12 = .ok (.iload_n 3, 1) := by decide +kernel
theorem dJx4a65c_add_72be8_13 : decode cJx4a65c_add_72be8 13 = .ok (.aload_n 1, 1) := by decide +kernel
theorem dJx4a65c_add_72be8_14 : decode cJx4a65c_add_72be8 14 = .ok (.aastore, 1) := by decide +kernel
theorem dJx4a65c_add_72be8_15 : decode cJx4a65c_add_72be8 15 = .ok (.aload_n 0, 1) := by decide +kernel
theorem dJx4a65c_add_72be8_16 : decode cJx4a65c_add_72be8 16 = .ok (.iload_n 3, 1) := by decide +kernel
theorem dJx4a65c_add_72be8_17 : decode cJx4a65c_add_72be8 17 = .ok (.iconst 1, 1) := by decide +kernel
theorem dJx4a65c_add_72be8_18 : decode cJx4a65c_add_72be8 18 = .ok (.iadd, 1) := by decide +kernel
theorem dJx4a65c_add_72be8_19 : decode cJx4a65c_add_72be8 19 = .ok (.putfield 48, 3) := by decide +kernel
theorem dJx4a65c_add_72be8_22 : decode cJx4a65c_add_72be8 22 = .ok (.return_, 1) := by decide +kernel
set_option maxRecDepth 20000 in
theorem ggJx4a65c_add_9ea2d_Jx4a65c_add_72be8 : GoodIn wsJx4a65c_add_9ea2d wsJx4a65c_add_72be8 := goodIn_r _ [9, 4, 10, 11, 12, 8, 13, 14, 15, 16, 17, 3, 18, 19, 20, 21, 22, 23, 24, 25, 26, 27, 28, 29, 30, 31, 32, 33, 34, 35, 36, 37, 38, 39, 40, 41, 42, 43, 44, 45, 46, 47, 48, 49, 50, 51, 52, 53, 54, 55] (by decide +kernel) (by decide +kernel)
set_option maxRecDepth 20000 in
theorem gJx4a65c_add_9ea2d_Jx4a65c_add_72be8 : GoodIn wsJx4a65c_add_9ea2d (wsV RJx4a65c 131 RJx4a65c yJx4a65c_add_72be8 wsJx4a65c_add_72be8) := goodIn_app (goodIn_of _ (by decide +kernel)) ggJx4a65c_add_9ea2d_Jx4a65c_add_72be8
theorem dJx4a65c_add_9ea2d_0 : decode cJx4a65c_add_9ea2d 0 = .ok (.aload_n 0, 1) := by decide +kernel
theorem dJx4a65c_add_9ea2d_1 : decode cJx4a65c_add_9ea2d 1 = .ok (.dup, 1) := by decide +kernel
theorem dJx4a65c_add_9ea2d_2 : decode cJx4a65c_add_9ea2d 2 = .ok (.getfield 63, 3) := by decide +kernel
theorem dJx4a65c_add_9ea2d_5 : decode cJx4a65c_add_9ea2d 5 = .ok (.iconst 1, 1) := by decide +kernel
theorem dJx4a65c_add_9ea2d_6 : decode cJx4a65c_add_9ea2d 6 = .ok (.iadd, 1) := by decide +kernel
theorem dJx4a65c_add_9ea2d_7 : decode cJx4a65c_add_9ea2d 7 = .ok (.putfield 63, 3) := by decide +kernel
theorem dJx4a65c_add_9ea2d_10 : decode cJx4a65c_add_9ea2d 10 = .ok (.aload_n 0, 1) := by decide +kernel
theorem dJx4a65c_add_9ea2d_11 : decode cJx4a65c_add_9ea2d 11 = .ok (.aload_n 1, 1) := by decide +kernel
theorem dJx4a65c_add_9ea2d_12 : decode cJx4a65c_add_9ea2d 12 = .ok (.aload_n 0, 1) := by decide +kernel
theorem dJx4a65c_add_9ea2d_13 : decode cJx4a65c_add_9ea2d 13 = .ok (.getfield 9, 3) := by decide +kernel
theorem dJx4a65c_add_9ea2d_16 : decode cJx4a65c_add_9ea2d 16 = .ok (.aload_n 0, 1) := by decide +kernel
theorem dJx4a65c_add_9ea2d_17 : decode cJx4a65c_add_9ea2d 17 = .ok (.getfield 48, 3) := by decide +kernel
theorem dJx4a65c_add_9ea2d_20 : decode cJx4a65c_add_9ea2d 20 = .ok (.invokevirtual 131, 3) := by decide +kernel
theorem dJx4a65c_add_9ea2d_23 : decode cJx4a65c_add_9ea2d 23 = .ok (.iconst 1, 1) := by decide +kernel
theorem dJx4a65c_add_9ea2d_24 : decode cJx4a65c_add_9ea2d 24 = .ok (.ireturn, 1) := by decide +kernel
set_option maxRecDepth 20000 in
theorem ggJ7_copyOf_1904c_J7_copyOf_6403c : GoodIn wsJ7_copyOf_1904c wsJ7_copyOf_6403c := goodIn_r _ [8, 9, 10, 11, 12, 13, 14, 15, 16, 17, 18] (by decide +kernel) (by decide +kernel)
set_option maxRecDepth 20000 in
theorem gJ7_copyOf_1904c_J7_copyOf_6403c : GoodIn wsJ7_copyOf_1904c (va_wsS RJ7 300 yJ7_copyOf_6403c wsJ7_copyOf_6403c) := goodIn_app (goodIn_of _ (by decide +kernel)) ggJ7_copyOf_1904c_J7_copyOf_6403c
theorem dJ7_copyOf_1904c_0 : decode cJ7_copyOf_1904c 0 = .ok (.aload_n 0, 1) := by decide +kernel
theorem dJ7_copyOf_1904c_1 : decode cJ7_copyOf_1904c 1 = .ok (.iload_n 1, 1) := by decide +kernel
theorem dJ7_copyOf_1904c_2 : decode cJ7_copyOf_1904c 2 = .ok (.aload_n 0, 1) := by decide +kernel
theorem dJ7_copyOf_1904c_3 : decode cJ7_copyOf_1904c 3 = .ok (.invokevirtual 86, 3) := by decide +kernel
theorem dJ7_copyOf_1904c_6 : decode cJ7_copyOf_1904c 6 = .ok (.invokestatic 300, 3) := by decide +kernel
theorem dJ7_copyOf_1904c_9 : decode cJ7_copyOf_1904c 9 = .ok (.areturn, 1) := by decide +kernel
theorem dJ7_copyOf_6403c_0 : decode cJ7_copyOf_6403c 0 = .ok (.aload_n 2, 1) := by decide +kernel
theorem dJ7_copyOf_6403c_1 : decode cJ7_copyOf_6403c 1 = .ok (.ldc 110, 2) := by decide +kernel
theorem dJ7_copyOf_6403c_3 : decode cJ7_copyOf_6403c 3 = .ok (.if_acmp .ne 10, 3) := by decide +kernel
theorem dJ7_copyOf_6403c_6 : decode cJ7_copyOf_6403c 6 = .ok (.iload_n 1, 1) := by decide +kernel
theorem dJ7_copyOf_6403c_7 : decode cJ7_copyOf_6403c 7 = .ok (.anewarray 2, 3) := by decide +kernel
theorem dJ7_copyOf_6403c_10 : decode cJ7_copyOf_6403c 10 = .ok (.goto 14, 3) := by decide +kernel
theorem dJ7_copyOf_6403c_13 : decode cJ7_copyOf_6403c 13 = .ok (.aload_n 2, 1) := by decide +kernel
theorem dJ7_copyOf_6403c_14 : decode cJ7_copyOf_6403c 14 = .ok (.invokevirtual 90, 3) := by decide +kernel
theorem dJ7_copyOf_6403c_17 : decode cJ7_copyOf_6403c 17 = .ok (.iload_n 1, 1) := by decide +kernel
theorem dJ7_copyOf_6403c_18 : decode cJ7_copyOf_6403c 18 = .ok (.invokestatic 95, 3) := by decide +kernel
theorem dJ7_copyOf_6403c_21 : decode cJ7_copyOf_6403c 21 = .ok (.checkcast 110, 3) := by decide +kernel
theorem dJ7_copyOf_6403c_24 : decode cJ7_copyOf_6403c 24 = .ok (.astore_n 3, 1) := by decide +kernel
theorem dJ7_copyOf_6403c_25 : decode cJ7_copyOf_6403c 25 = .ok (.aload_n 0, 1) := by decide +kernel
theorem dJ7_copyOf_6403c_26 : decode cJ7_copyOf_6403c 26 = .ok (.iconst 0, 1) := by decide +kernel
theorem dJ7_copyOf_6403c_27 : decode cJ7_copyOf_6403c 27 = .ok (.aload_n 3, 1) := by decide +kernel
theorem dJ7_copyOf_6403c_28 : decode cJ7_copyOf_6403c 28 = .ok (.iconst 0, 1) := by decide +kernel
theorem dJ7_copyOf_6403c_29 : decode cJ7_copyOf_6403c 29 = .ok (.aload_n 0, 1) := by decide +kernel
theorem dJ7_copyOf_6403c_30 : decode cJ7_copyOf_6403c 30 = .ok (.arraylength, 1) := by decide +kernel
theorem dJ7_copyOf_6403c_31 : decode cJ7_copyOf_6403c 31 = .ok (.iload_n 1, 1) := by decide +kernel
theorem dJ7_copyOf_6403c_32 : decode cJ7_copyOf_6403c 32 = .ok (.invokestatic 304, 3) := by decide +kernel
theorem dJ7_copyOf_6403c_35 : decode cJ7_copyOf_6403c 35 = .ok (.invokestatic 150, 3) := by decide +kernel
theorem dJ7_copyOf_6403c_38 : decode cJ7_copyOf_6403c 38 = .ok (.aload_n 3, 1) := by decide +kernel
theorem dJ7_copyOf_6403c_39 : decode cJ7_copyOf_6403c 39 = .ok (.areturn, 1) := by decide +kernel
set_option maxRecDepth 20000 in
theorem ggJ15_checkIndex_7cf53_J3_checkIndex_8e157 : GoodIn wsJ15_checkIndex_7cf53 wsJ3_checkIndex_8e157 := goodIn_r _ [4] (by decide +kernel) (by decide +kernel)
set_option maxRecDepth 20000 in
theorem gJ15_checkIndex_7cf53_J3_checkIndex_8e157 : GoodIn wsJ15_checkIndex_7cf53 (va_wsS RJ15 105 yJ3_checkIndex_8e157 wsJ3_checkIndex_8e157) := goodIn_app (goodIn_of _ (by decide +kernel)) ggJ15_checkIndex_7cf53_J3_checkIndex_8e157
theorem dJ15_checkIndex_7cf53_0 : decode cJ15_checkIndex_7cf53 0 = .ok (.iload_n 0, 1) := by decide +kernel
theorem dJ15_checkIndex_7cf53_1 : decode cJ15_checkIndex_7cf53 1 = .ok (.iload_n 1, 1) := by decide +kernel
theorem dJ15_checkIndex_7cf53_2 : decode cJ15_checkIndex_7cf53 2 = .ok (.aconst_null, 1) := by decide +kernel
theorem dJ15_checkIndex_7cf53_3 : decode cJ15_checkIndex_7cf53 3 = .ok (.invokestatic 105, 3) := by decide +kernel
theorem dJ15_checkIndex_7cf53_6 : decode cJ15_checkIndex_7cf53 6 = .ok (.ireturn, 1) := by decide +kernel
set_option maxRecDepth 20000 in
theorem ggJ8_newLength_cabcc_J8_hugeLength_7cf53 : GoodIn wsJ8_newLength_cabcc wsJ8_hugeLength_7cf53 := goodIn_r _ [9, 5] (by decide +kernel) (by decide +kernel)
set_option maxRecDepth 20000 in
theorem gJ8_newLength_cabcc_J8_hugeLength_7cf53 : GoodIn wsJ8_newLength_cabcc (va_wsS RJ8 201 yJ8_hugeLength_7cf53 wsJ8_hugeLength_7cf53) := goodIn_app (goodIn_of _ (by decide +kernel)) ggJ8_newLength_cabcc_J8_hugeLength_7cf53
theorem dJ8_newLength_cabcc_0 : decode cJ8_newLength_cabcc 0 = .ok (.iload_n 0, 1) := by decide +kernel
theorem dJ8_newLength_cabcc_1 : decode cJ8_newLength_cabcc 1 = .ok (.iload_n 1, 1) := by decide +kernel
theorem dJ8_newLength_cabcc_2 : decode cJ8_newLength_cabcc 2 = .ok (.iload_n 2, 1) := by decide +kernel
theorem dJ8_newLength_cabcc_3 : decode cJ8_newLength_cabcc 3 = .ok (.invokestatic 194, 3) := by decide +kernel
theorem dJ8_newLength_cabcc_6 : decode cJ8_newLength_cabcc 6 = .ok (.iadd, 1) := by decide +kernel
theorem dJ8_newLength_cabcc_7 : decode cJ8_newLength_cabcc 7 = .ok (.istore_n 3, 1) := by decide +kernel
theorem dJ8_newLength_cabcc_8 : decode cJ8_newLength_cabcc 8 = .ok (.iconst 0, 1) := by decide +kernel
theorem dJ8_newLength_cabcc_9 : decode cJ8_newLength_cabcc 9 = .ok (.iload_n 3, 1) := by decide +kernel
theorem dJ8_newLength_cabcc_10 : decode cJ8_newLength_cabcc 10 = .ok (.if_icmp .ge 11, 3) := by decide +kernel
theorem dJ8_newLength_cabcc_13 : decode cJ8_newLength_cabcc 13 = .ok (.iload_n 3, 1) := by decide +kernel
theorem dJ8_newLength_cabcc_14 : decode cJ8_newLength_cabcc 14 = .ok (.ldc 200, 2) := by decide +kernel
theorem dJ8_newLength_cabcc_16 : decode cJ8_newLength_cabcc 16 = .ok (.if_icmp .gt 5, 3) := by decide +kernel
theorem dJ8_newLength_cabcc_19 : decode cJ8_newLength_cabcc 19 = .ok (.iload_n 3, 1) := by decide +kernel
theorem dJ8_newLength_cabcc_20 : decode cJ8_newLength_cabcc 20 = .ok (.ireturn, 1) := by decide +kernel
theorem dJ8_newLength_cabcc_21 : decode cJ8_newLength_cabcc 21 = .ok (.iload_n 0, 1) := by decide +kernel
theorem dJ8_newLength_cabcc_22 : decode cJ8_newLength_cabcc 22 = .ok (.iload_n 1, 1) := by decide +kernel
theorem dJ8_newLength_cabcc_23 : decode cJ8_newLength_cabcc 23 = .ok (.invokestatic 201, 3) := by decide +kernel
theorem dJ8_newLength_cabcc_26 : decode cJ8_newLength_cabcc 26 = .ok (.ireturn, 1) := by decide +kernel
theorem dJ8_hugeLength_7cf53_0 : decode cJ8_hugeLength_7cf53 0 = .ok (.iload_n 0, 1) := by decide +kernel
theorem dJ8_hugeLength_7cf53_1 : decode cJ8_hugeLength_7cf53 1 = .ok (.iload_n 1, 1) := by decide +kernel
theorem dJ8_hugeLength_7cf53_2 : decode cJ8_hugeLength_7cf53 2 = .ok (.iadd, 1) := by decide +kernel
theorem dJ8_hugeLength_7cf53_3 : decode cJ8_hugeLength_7cf53 3 = .ok (.istore_n 2, 1) := by decide +kernel
theorem dJ8_hugeLength_7cf53_4 : decode cJ8_hugeLength_7cf53 4 = .ok (.iload_n 2, 1) := by decide +kernel
theorem dJ8_hugeLength_7cf53_5 : decode cJ8_hugeLength_7cf53 5 = .ok (.ifCond .ge 44, 3) := by decide +kernel
theorem dJ8_hugeLength_7cf53_8 : decode cJ8_hugeLength_7cf53 8 = .ok (.new 204, 3) := by decide +kernel
theorem dJ8_hugeLength_7cf53_11 : decode cJ8_hugeLength_7cf53 11 = .ok (.dup, 1) := by decide +kernel
theorem dJ8_hugeLength_7cf53_12 : decode cJ8_hugeLength_7cf53 12 = .ok (.new 89, 3) := by decide +kernel
theorem dJ8_hugeLength_7cf53_15 : decode cJ8_hugeLength_7cf53 15 = .ok (.dup, 1) := by decide +kernel
theorem dJ8_hugeLength_7cf53_16 : decode cJ8_hugeLength_7cf53 16 = .ok (.invokespecial 91, 3) := by decide +kernel
theorem dJ8_hugeLength_7cf53_19 : decode cJ8_hugeLength_7cf53 19 = .ok (.ldc 206, 2) := by decide +kernel
theorem dJ8_hugeLength_7cf53_21 : decode cJ8_hugeLength_7cf53 21 = .ok (.invokevirtual 94, 3) := by decide +kernel
theorem dJ8_hugeLength_7cf53_24 : decode cJ8_hugeLength_7cf53 24 = .ok (.iload_n 0, 1) := by decide +kernel
theorem dJ8_hugeLength_7cf53_25 : decode cJ8_hugeLength_7cf53 25 = .ok (.invokevirtual 98, 3) := by decide +kernel
theorem dJ8_hugeLength_7cf53_28 : decode cJ8_hugeLength_7cf53 28 = .ok (.ldc 208, 2) := by decide +kernel
theorem dJ8_hugeLength_7cf53_30 : decode cJ8_hugeLength_7cf53 30 = .ok (.invokevirtual 94, 3) := by decide +kernel
theorem dJ8_hugeLength_7cf53_33 : decode cJ8_hugeLength_7cf53 33 = .ok (.iload_n 1, 1) := by decide +kernel
theorem dJ8_hugeLength_7cf53_34 : decode cJ8_hugeLength_7cf53 34 = .ok (.invokevirtual 98, 3) := by decide +kernel
theorem dJ8_hugeLength_7cf53_37 : decode cJ8_hugeLength_7cf53 37 = .ok (.ldc 210, 2) := by decide +kernel
theorem dJ8_hugeLength_7cf53_39 : decode cJ8_hugeLength_7cf53 39 = .ok (.invokevirtual 94, 3) := by decide +kernel
theorem dJ8_hugeLength_7cf53_42 : decode cJ8_hugeLength_7cf53 42 = .ok (.invokevirtual 101, 3) := by decide +kernel
theorem dJ8_hugeLength_7cf53_45 : decode cJ8_hugeLength_7cf53 45 = .ok (.invokespecial 212, 3) := by decide +kernel
theorem dJ8_hugeLength_7cf53_48 : decode cJ8_hugeLength_7cf53 48 = .ok (.athrow, 1) := by decide +kernel
theorem dJ8_hugeLength_7cf53_49 : decode cJ8_hugeLength_7cf53 49 = .ok (.iload_n 2, 1) := by decide +kernel
theorem dJ8_hugeLength_7cf53_50 : decode cJ8_hugeLength_7cf53 50 = .ok (.ldc 200, 2) := by decide +kernel
theorem dJ8_hugeLength_7cf53_52 : decode cJ8_hugeLength_7cf53 52 = .ok (.if_icmp .gt 6, 3) := by decide +kernel
theorem dJ8_hugeLength_7cf53_55 : decode cJ8_hugeLength_7cf53 55 = .ok (.ldc 200, 2) := by decide +kernel
theorem dJ8_hugeLength_7cf53_57 : decode cJ8_hugeLength_7cf53 57 = .ok (.ireturn, 1) := by decide +kernel
theorem dJ8_hugeLength_7cf53_58 : decode cJ8_hugeLength_7cf53 58 = .ok (.iload_n 2, 1) := by decide +kernel
theorem dJ8_hugeLength_7cf53_59 : decode cJ8_hugeLength_7cf53 59 = .ok (.ireturn, 1) := by decide +kernel
theorem dJ3_checkIndex_8e157_0 : decode cJ3_checkIndex_8e157 0 = .ok (.iload_n 0, 1) := by decide +kernel
theorem dJ3_checkIndex_8e157_1 : decode cJ3_checkIndex_8e157 1 = .ok (.ifCond .lt 8, 3) := by decide +kernel
theorem dJ3_checkIndex_8e157_4 : decode cJ3_checkIndex_8e157 4 = .ok (.iload_n 0, 1) := by decide +kernel
theorem dJ3_checkIndex_8e157_5 : decode cJ3_checkIndex_8e157 5 = .ok (.iload_n 1, 1) := by decide +kernel
theorem dJ3_checkIndex_8e157_6 : decode cJ3_checkIndex_8e157 6 = .ok (.if_icmp .lt 10, 3) := by decide +kernel
theorem dJ3_checkIndex_8e157_9 : decode cJ3_checkIndex_8e157 9 = .ok (.aload_n 2, 1) := by decide +kernel
theorem dJ3_checkIndex_8e157_10 : decode cJ3_checkIndex_8e157 10 = .ok (.iload_n 0, 1) := by decide +kernel
theorem dJ3_checkIndex_8e157_11 : decode cJ3_checkIndex_8e157 11 = .ok (.iload_n 1, 1) := by decide +kernel
theorem dJ3_checkIndex_8e157_12 : decode cJ3_checkIndex_8e157 12 = .ok (.invokestatic 95, 3) := by decide +kernel
