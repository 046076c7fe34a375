theorem dX6_behindColumn_51 : decode cX6_behindColumn 51 = .ok (.iconst 1, 1) := by decide +kernel
theorem dX6_behindColumn_52 : decode cX6_behindColumn 52 = .ok (.iadd, 1) := by decide +kernel
theorem dX6_behindColumn_53 : decode cX6_behindColumn 53 = .ok (.ireturn, 1) := by decide +kernel
set_option maxRecDepth 20000 in
theorem ggX6_behindPart_X6_charAt : GoodIn wsX6_behindPart wsX6_charAt := goodIn_r _ [5, 6, 7, 19, 20, 21, 22, 23, 24, 25, 26, 27, 28, 29] (by decide +kernel) (by decide +kernel)
set_option maxRecDepth 20000 in
theorem gX6_behindPart_X6_charAt : GoodIn wsX6_behindPart (wsV RX6 108 RX6 yX6_charAt wsX6_charAt) := goodIn_app (goodIn_of _ (by decide +kernel)) ggX6_behindPart_X6_charAt
set_option maxRecDepth 20000 in
theorem ggX6_behindPart_X6_in : GoodIn wsX6_behindPart wsX6_in := goodIn_r _ [10] (by decide +kernel) (by decide +kernel)
set_option maxRecDepth 20000 in
theorem gX6_behindPart_X6_in : GoodIn wsX6_behindPart (va_wsS RX6 36 yX6_in wsX6_in) := goodIn_app (goodIn_of _ (by decide +kernel)) ggX6_behindPart_X6_in
set_option maxRecDepth 20000 in
theorem ggX6_behindPart_X6_isDigit : GoodIn wsX6_behindPart wsX6_isDigit := goodIn_r _ [14, 1, 2, 3, 4, 5, 6, 7, 8, 9, 10, 19, 20, 21, 22, 23, 24, 25, 26, 27, 28, 29] (by decide +kernel) (by decide +kernel)
set_option maxRecDepth 20000 in
theorem gX6_behindPart_X6_isDigit : GoodIn wsX6_behindPart (wsV RX6 111 RX6 yX6_isDigit wsX6_isDigit) := goodIn_app (goodIn_of _ (by decide +kernel)) ggX6_behindPart_X6_isDigit
set_option maxRecDepth 20000 in
theorem ggX6_behindPart_X6_behindColumn : GoodIn wsX6_behindPart wsX6_behindColumn := goodIn_r _ [18, 1, 2, 3, 4, 5, 6, 7, 11, 12, 13, 14, 8, 9, 10, 19, 20, 21, 22, 23, 24, 25, 26, 27, 28, 29] (by decide +kernel) (by decide +kernel)
set_option maxRecDepth 20000 in
theorem gX6_behindPart_X6_behindColumn : GoodIn wsX6_behindPart (wsV RX6 114 RX6 yX6_behindColumn wsX6_behindColumn) := goodIn_app (goodIn_of _ (by decide +kernel)) ggX6_behindPart_X6_behindColumn
theorem dX6_behindPart_0 : decode cX6_behindPart 0 = .ok (.aload_n 0, 1) := by decide +kernel
theorem dX6_behindPart_1 : decode cX6_behindPart 1 = .ok (.iload_n 1, 1) := by decide +kernel
theorem dX6_behindPart_2 : decode cX6_behindPart 2 = .ok (.invokevirtual 108, 3) := by decide +kernel
theorem dX6_behindPart_5 : decode cX6_behindPart 5 = .ok (.bipush 46, 2) := by decide +kernel
theorem dX6_behindPart_7 : decode cX6_behindPart 7 = .ok (.if_icmp .ne 30, 3) := by decide +kernel
theorem dX6_behindPart_10 : decode cX6_behindPart 10 = .ok (.aload_n 0, 1) := by decide +kernel
theorem dX6_behindPart_11 : decode cX6_behindPart 11 = .ok (.iload_n 1, 1) := by decide +kernel
theorem dX6_behindPart_12 : decode cX6_behindPart 12 = .ok (.iconst 1, 1) := by decide +kernel
theorem dX6_behindPart_13 : decode cX6_behindPart 13 = .ok (.iadd, 1) := by decide +kernel
theorem dX6_behindPart_14 : decode cX6_behindPart 14 = .ok (.invokevirtual 108, 3) := by decide +kernel
theorem dX6_behindPart_17 : decode cX6_behindPart 17 = .ok (.bipush 50, 2) := by decide +kernel
theorem dX6_behindPart_19 : decode cX6_behindPart 19 = .ok (.bipush 57, 2) := by decide +kernel
theorem dX6_behindPart_21 : decode cX6_behindPart 21 = .ok (.invokestatic 36, 3) := by decide +kernel
theorem dX6_behindPart_24 : decode cX6_behindPart 24 = .ok (.ifCond .eq 9, 3) := by decide +kernel
theorem dX6_behindPart_27 : decode cX6_behindPart 27 = .ok (.iload_n 1, 1) := by decide +kernel
theorem dX6_behindPart_28 : decode cX6_behindPart 28 = .ok (.iconst 2, 1) := by decide +kernel
theorem dX6_behindPart_29 : decode cX6_behindPart 29 = .ok (.iadd, 1) := by decide +kernel
theorem dX6_behindPart_30 : decode cX6_behindPart 30 = .ok (.goto 6, 3) := by decide +kernel
theorem dX6_behindPart_33 : decode cX6_behindPart 33 = .ok (.iload_n 1, 1) := by decide +kernel
theorem dX6_behindPart_34 : decode cX6_behindPart 34 = .ok (.iconst 1, 1) := by decide +kernel
theorem dX6_behindPart_35 : decode cX6_behindPart 35 = .ok (.iadd, 1) := by decide +kernel
theorem dX6_behindPart_36 : decode cX6_behindPart 36 = .ok (.ireturn, 1) := by decide +kernel
theorem dX6_behindPart_37 : decode cX6_behindPart 37 = .ok (.aload_n 0, 1) := by decide +kernel
theorem dX6_behindPart_38 : decode cX6_behindPart 38 = .ok (.iload_n 1, 1) := by decide +kernel
theorem dX6_behindPart_39 : decode cX6_behindPart 39 = .ok (.invokevirtual 108, 3) := by decide +kernel
theorem dX6_behindPart_42 : decode cX6_behindPart 42 = .ok (.bipush 116, 2) := by decide +kernel
theorem dX6_behindPart_44 : decode cX6_behindPart 44 = .ok (.if_icmp .ne 63, 3) := by decide +kernel
theorem dX6_behindPart_47 : decode cX6_behindPart 47 = .ok (.aload_n 0, 1) := by decide +kernel
theorem dX6_behindPart_48 : decode cX6_behindPart 48 = .ok (.iload_n 1, 1) := by decide +kernel
theorem dX6_behindPart_49 : decode cX6_behindPart 49 = .ok (.iconst 1, 1) := by decide +kernel
theorem dX6_behindPart_50 : decode cX6_behindPart 50 = .ok (.iadd, 1) := by decide +kernel
theorem dX6_behindPart_51 : decode cX6_behindPart 51 = .ok (.invokevirtual 108, 3) := by decide +kernel
theorem dX6_behindPart_54 : decode cX6_behindPart 54 = .ok (.bipush 48, 2) := by decide +kernel
theorem dX6_behindPart_56 : decode cX6_behindPart 56 = .ok (.bipush 51, 2) := by decide +kernel
theorem dX6_behindPart_58 : decode cX6_behindPart 58 = .ok (.invokestatic 36, 3) := by decide +kernel
theorem dX6_behindPart_61 : decode cX6_behindPart 61 = .ok (.ifCond .ne 7, 3) := by decide +kernel
theorem dX6_behindPart_64 : decode cX6_behindPart 64 = .ok (.iconst 1, 1) := by decide +kernel
theorem dX6_behindPart_65 : decode cX6_behindPart 65 = .ok (.goto 25, 3) := by decide +kernel
theorem dX6_behindPart_68 : decode cX6_behindPart 68 = .ok (.aload_n 0, 1) := by decide +kernel
theorem dX6_behindPart_69 : decode cX6_behindPart 69 = .ok (.iload_n 1, 1) := by decide +kernel
theorem dX6_behindPart_70 : decode cX6_behindPart 70 = .ok (.iconst 2, 1) := by decide +kernel
theorem dX6_behindPart_71 : decode cX6_behindPart 71 = .ok (.iadd, 1) := by decide +kernel
theorem dX6_behindPart_72 : decode cX6_behindPart 72 = .ok (.invokevirtual 108, 3) := by decide +kernel
theorem dX6_behindPart_75 : decode cX6_behindPart 75 = .ok (.bipush 49, 2) := by decide +kernel
theorem dX6_behindPart_77 : decode cX6_behindPart 77 = .ok (.bipush 57, 2) := by decide +kernel
theorem dX6_behindPart_79 : decode cX6_behindPart 79 = .ok (.invokestatic 36, 3) := by decide +kernel
theorem dX6_behindPart_82 : decode cX6_behindPart 82 = .ok (.ifCond .eq 7, 3) := by decide +kernel
theorem dX6_behindPart_85 : decode cX6_behindPart 85 = .ok (.iconst 0, 1) := by decide +kernel
theorem dX6_behindPart_86 : decode cX6_behindPart 86 = .ok (.goto 4, 3) := by decide +kernel
theorem dX6_behindPart_89 : decode cX6_behindPart 89 = .ok (.iconst 2, 1) := by decide +kernel
theorem dX6_behindPart_90 : decode cX6_behindPart 90 = .ok (.istore_n 2, 1) := by decide +kernel
theorem dX6_behindPart_91 : decode cX6_behindPart 91 = .ok (.iload_n 2, 1) := by decide +kernel
theorem dX6_behindPart_92 : decode cX6_behindPart 92 = .ok (.ifCond .le 11, 3) := by decide +kernel
theorem dX6_behindPart_95 : decode cX6_behindPart 95 = .ok (.iconst (-1), 1) := by decide +kernel
theorem dX6_behindPart_96 : decode cX6_behindPart 96 = .ok (.iload_n 1, 1) := by decide +kernel
theorem dX6_behindPart_97 : decode cX6_behindPart 97 = .ok (.isub, 1) := by decide +kernel
theorem dX6_behindPart_98 : decode cX6_behindPart 98 = .ok (.iload_n 2, 1) := by decide +kernel
theorem dX6_behindPart_99 : decode cX6_behindPart 99 = .ok (.isub, 1) := by decide +kernel
theorem dX6_behindPart_100 : decode cX6_behindPart 100 = .ok (.goto 6, 3) := by decide +kernel
theorem dX6_behindPart_103 : decode cX6_behindPart 103 = .ok (.iload_n 1, 1) := by decide +kernel
theorem dX6_behindPart_104 : decode cX6_behindPart 104 = .ok (.iconst 3, 1) := by decide +kernel
theorem dX6_behindPart_105 : decode cX6_behindPart 105 = .ok (.iadd, 1) := by decide +kernel
theorem dX6_behindPart_106 : decode cX6_behindPart 106 = .ok (.ireturn, 1) := by decide +kernel
theorem dX6_behindPart_107 : decode cX6_behindPart 107 = .ok (.aload_n 0, 1) := by decide +kernel
theorem dX6_behindPart_108 : decode cX6_behindPart 108 = .ok (.iload_n 1, 1) := by decide +kernel
theorem dX6_behindPart_109 : decode cX6_behindPart 109 = .ok (.invokevirtual 111, 3) := by decide +kernel
theorem dX6_behindPart_112 : decode cX6_behindPart 112 = .ok (.ifCond .ne 7, 3) := by decide +kernel
theorem dX6_behindPart_115 : decode cX6_behindPart 115 = .ok (.iconst (-1), 1) := by decide +kernel
theorem dX6_behindPart_116 : decode cX6_behindPart 116 = .ok (.iload_n 1, 1) := by decide +kernel
theorem dX6_behindPart_117 : decode cX6_behindPart 117 = .ok (.isub, 1) := by decide +kernel
theorem dX6_behindPart_118 : decode cX6_behindPart 118 = .ok (.ireturn, 1) := by decide +kernel
theorem dX6_behindPart_119 : decode cX6_behindPart 119 = .ok (.aload_n 0, 1) := by decide +kernel
theorem dX6_behindPart_120 : decode cX6_behindPart 120 = .ok (.iload_n 1, 1) := by decide +kernel
theorem dX6_behindPart_121 : decode cX6_behindPart 121 = .ok (.invokevirtual 114, 3) := by decide +kernel
theorem dX6_behindPart_124 : decode cX6_behindPart 124 = .ok (.istore_n 2, 1) := by decide +kernel
theorem dX6_behindPart_125 : decode cX6_behindPart 125 = .ok (.aload_n 0, 1) := by decide +kernel
theorem dX6_behindPart_126 : decode cX6_behindPart 126 = .ok (.iload_n 2, 1) := by decide +kernel
theorem dX6_behindPart_127 : decode cX6_behindPart 127 = .ok (.invokevirtual 108, 3) := by decide +kernel
theorem dX6_behindPart_130 : decode cX6_behindPart 130 = .ok (.bipush 58, 2) := by decide +kernel
theorem dX6_behindPart_132 : decode cX6_behindPart 132 = .ok (.if_icmp .ne 13, 3) := by decide +kernel
theorem dX6_behindPart_135 : decode cX6_behindPart 135 = .ok (.aload_n 0, 1) := by decide +kernel
theorem dX6_behindPart_136 : decode cX6_behindPart 136 = .ok (.iload_n 2, 1) := by decide +kernel
theorem dX6_behindPart_137 : decode cX6_behindPart 137 = .ok (.iconst 1, 1) := by decide +kernel
theorem dX6_behindPart_138 : decode cX6_behindPart 138 = .ok (.iadd, 1) := by decide +kernel
theorem dX6_behindPart_139 : decode cX6_behindPart 139 = .ok (.invokevirtual 111, 3) := by decide +kernel
theorem dX6_behindPart_142 : decode cX6_behindPart 142 = .ok (.ifCond .ne 24, 3) := by decide +kernel
theorem dX6_behindPart_145 : decode cX6_behindPart 145 = .ok (.aload_n 0, 1) := by decide +kernel
theorem dX6_behindPart_146 : decode cX6_behindPart 146 = .ok (.iload_n 2, 1) := by decide +kernel
theorem dX6_behindPart_147 : decode cX6_behindPart 147 = .ok (.invokevirtual 108, 3) := by decide +kernel
theorem dX6_behindPart_150 : decode cX6_behindPart 150 = .ok (.bipush 58, 2) := by decide +kernel
theorem dX6_behindPart_152 : decode cX6_behindPart 152 = .ok (.if_icmp .eq 9, 3) := by decide +kernel
theorem dX6_behindPart_155 : decode cX6_behindPart 155 = .ok (.iconst (-1), 1) := by decide +kernel
theorem dX6_behindPart_156 : decode cX6_behindPart 156 = .ok (.iload_n 2, 1) := by decide +kernel
theorem dX6_behindPart_157 : decode cX6_behindPart 157 = .ok (.isub, 1) := by decide +kernel
theorem dX6_behindPart_158 : decode cX6_behindPart 158 = .ok (.goto 7, 3) := by decide +kernel
theorem dX6_behindPart_161 : decode cX6_behindPart 161 = .ok (.bipush (-2), 2) := by decide +kernel
theorem dX6_behindPart_163 : decode cX6_behindPart 163 = .ok (.iload_n 2, 1) := by decide +kernel
theorem dX6_behindPart_164 : decode cX6_behindPart 164 = .ok (.isub, 1) := by decide +kernel
theorem dX6_behindPart_165 : decode cX6_behindPart 165 = .ok (.ireturn, 1) := by decide +kernel
theorem dX6_behindPart_166 : decode cX6_behindPart 166 = .ok (.iload_n 2, 1) := by decide +kernel
theorem dX6_behindPart_167 : decode cX6_behindPart 167 = .ok (.iconst 1, 1) := by decide +kernel
theorem dX6_behindPart_168 : decode cX6_behindPart 168 = .ok (.iadd, 1) := by decide +kernel
theorem dX6_behindPart_169 : decode cX6_behindPart 169 = .ok (.istore_n 3, 1) := by decide +kernel
theorem dX6_behindPart_170 : decode cX6_behindPart 170 = .ok (.aload_n 0, 1) := by decide +kernel
theorem dX6_behindPart_171 : decode cX6_behindPart 171 = .ok (.iload_n 3, 1) := by decide +kernel
theorem dX6_behindPart_172 : decode cX6_behindPart 172 = .ok (.invokevirtual 111, 3) := by decide +kernel
theorem dX6_behindPart_175 : decode cX6_behindPart 175 = .ok (.ifCond .eq 9, 3) := by decide +kernel
theorem dX6_behindPart_178 : decode cX6_behindPart 178 = .ok (.iinc 3 1, 3) := by decide +kernel
theorem dX6_behindPart_181 : decode cX6_behindPart 181 = .ok (.goto (-11), 3) := by decide +kernel
theorem dX6_behindPart_184 : decode cX6_behindPart 184 = .ok (.iload_n 3, 1) := by decide +kernel
theorem dX6_behindPart_185 : decode cX6_behindPart 185 = .ok (.ireturn, 1) := by decide +kernel
set_option maxRecDepth 20000 in
theorem ggX6_wrong_X6_behindPart : GoodIn wsX6_wrong wsX6_behindPart := goodIn_r _ [7, 8, 9, 10, 6, 11, 1, 2, 12, 13, 14, 15, 16, 17, 18, 19, 20, 21, 22, 23, 24, 25, 26, 27, 28, 29, 30, 31, 32, 33] (by decide +kernel) (by decide +kernel)
set_option maxRecDepth 20000 in
theorem gX6_wrong_X6_behindPart : GoodIn wsX6_wrong (wsV RX6 117 RX6 yX6_behindPart wsX6_behindPart) := goodIn_app (goodIn_of _ (by decide +kernel)) ggX6_wrong_X6_behindPart
theorem dX6_wrong_0 : decode cX6_wrong 0 = .ok (.iconst 0, 1) := by decide +kernel
theorem dX6_wrong_1 : decode cX6_wrong 1 = .ok (.istore_n 1, 1) := by decide +kernel
theorem dX6_wrong_2 : decode cX6_wrong 2 = .ok (.iconst 1, 1) := by decide +kernel
theorem dX6_wrong_3 : decode cX6_wrong 3 = .ok (.istore_n 2, 1) := by decide +kernel
theorem dX6_wrong_4 : decode cX6_wrong 4 = .ok (.iload_n 2, 1) := by decide +kernel
theorem dX6_wrong_5 : decode cX6_wrong 5 = .ok (.ifCond .eq 63, 3) := by decide +kernel
theorem dX6_wrong_8 : decode cX6_wrong 8 = .ok (.aload_n 0, 1) := by decide +kernel
theorem dX6_wrong_9 : decode cX6_wrong 9 = .ok (.iload_n 1, 1) := by decide +kernel
theorem dX6_wrong_10 : decode cX6_wrong 10 = .ok (.invokevirtual 117, 3) := by decide +kernel
theorem dX6_wrong_13 : decode cX6_wrong 13 = .ok (.istore_n 1, 1) := by decide +kernel
theorem dX6_wrong_14 : decode cX6_wrong 14 = .ok (.iload_n 1, 1) := by decide +kernel
theorem dX6_wrong_15 : decode cX6_wrong 15 = .ok (.ifCond .ge 7, 3) := by decide +kernel
theorem dX6_wrong_18 : decode cX6_wrong 18 = .ok (.iconst (-1), 1) := by decide +kernel
theorem dX6_wrong_19 : decode cX6_wrong 19 = .ok (.iload_n 1, 1) := by decide +kernel
theorem dX6_wrong_20 : decode cX6_wrong 20 = .ok (.isub, 1) := by decide +kernel
theorem dX6_wrong_21 : decode cX6_wrong 21 = .ok (.ireturn, 1) := by decide +kernel
theorem dX6_wrong_22 : decode cX6_wrong 22 = .ok (.iload_n 1, 1) := by decide +kernel
theorem dX6_wrong_23 : decode cX6_wrong 23 = .ok (.aload_n 0, 1) := by decide +kernel
theorem dX6_wrong_24 : decode cX6_wrong 24 = .ok (.getfield 105, 3) := by decide +kernel
theorem dX6_wrong_27 : decode cX6_wrong 27 = .ok (.if_icmp .ge 7, 3) := by decide +kernel
theorem dX6_wrong_30 : decode cX6_wrong 30 = .ok (.iconst 1, 1) := by decide +kernel
theorem dX6_wrong_31 : decode cX6_wrong 31 = .ok (.goto 4, 3) := by decide +kernel
theorem dX6_wrong_34 : decode cX6_wrong 34 = .ok (.iconst 0, 1) := by decide +kernel
theorem dX6_wrong_35 : decode cX6_wrong 35 = .ok (.istore_n 2, 1) := by decide +kernel
theorem dX6_wrong_36 : decode cX6_wrong 36 = .ok (.iload_n 2, 1) := by decide +kernel
theorem dX6_wrong_37 : decode cX6_wrong 37 = .ok (.ifCond .eq 16, 3) := by decide +kernel
theorem dX6_wrong_40 : decode cX6_wrong 40 = .ok (.aload_n 0, 1) := by decide +kernel
theorem dX6_wrong_41 : decode cX6_wrong 41 = .ok (.getfield 23, 3) := by decide +kernel
theorem dX6_wrong_44 : decode cX6_wrong 44 = .ok (.iload_n 1, 1) := by decide +kernel
theorem dX6_wrong_45 : decode cX6_wrong 45 = .ok (.iaload, 1) := by decide +kernel
theorem dX6_wrong_46 : decode cX6_wrong 46 = .ok (.bipush 59, 2) := by decide +kernel
theorem dX6_wrong_48 : decode cX6_wrong 48 = .ok (.if_icmp .eq 5, 3) := by decide +kernel
theorem dX6_wrong_51 : decode cX6_wrong 51 = .ok (.iload_n 1, 1) := by decide +kernel
theorem dX6_wrong_52 : decode cX6_wrong 52 = .ok (.ireturn, 1) := by decide +kernel
theorem dX6_wrong_53 : decode cX6_wrong 53 = .ok (.iload_n 1, 1) := by decide +kernel
theorem dX6_wrong_54 : decode cX6_wrong 54 = .ok (.iload_n 2, 1) := by decide +kernel
theorem dX6_wrong_55 : decode cX6_wrong 55 = .ok (.ifCond .eq 7, 3) := by decide +kernel
theorem dX6_wrong_58 : decode cX6_wrong 58 = .ok (.iconst 1, 1) := by decide +kernel
theorem dX6_wrong_59 : decode cX6_wrong 59 = .ok (.goto 4, 3) := by decide +kernel
theorem dX6_wrong_62 : decode cX6_wrong 62 = .ok (.iconst 0, 1) := by decide +kernel
theorem dX6_wrong_63 : decode cX6_wrong 63 = .ok (.iadd, 1) := by decide +kernel
theorem dX6_wrong_64 : decode cX6_wrong 64 = .ok (.istore_n 1, 1) := by decide +kernel
theorem dX6_wrong_65 : decode cX6_wrong 65 = .ok (.goto (-61), 3) := by decide +kernel
theorem dX6_wrong_68 : decode cX6_wrong 68 = .ok (.iconst (-1), 1) := by decide +kernel
theorem dX6_wrong_69 : decode cX6_wrong 69 = .ok (.ireturn, 1) := by decide +kernel
set_option maxRecDepth 20000 in
theorem ggX6_fault_X6_wrong : GoodIn wsX6_fault wsX6_wrong := goodIn_r _ [6, 7, 8, 9, 10, 11, 5, 12, 13, 14, 15, 16, 17, 18, 19, 20, 21, 22, 23, 24, 25, 26, 27, 28, 29, 30, 31, 32, 33, 34, 35, 36, 37, 38] (by decide +kernel) (by decide +kernel)
set_option maxRecDepth 20000 in
theorem gX6_fault_X6_wrong : GoodIn wsX6_fault (wsV RX6 120 RX6 yX6_wrong wsX6_wrong) := goodIn_app (goodIn_of _ (by decide +kernel)) ggX6_fault_X6_wrong
theorem dX6_fault_0 : decode cX6_fault 0 = .ok (.aload_n 0, 1) := by decide +kernel
theorem dX6_fault_1 : decode cX6_fault 1 = .ok (.iconst 0, 1) := by decide +kernel
theorem dX6_fault_2 : decode cX6_fault 2 = .ok (.putfield 32, 3) := by decide +kernel
theorem dX6_fault_5 : decode cX6_fault 5 = .ok (.aload_n 0, 1) := by decide +kernel
theorem dX6_fault_6 : decode cX6_fault 6 = .ok (.invokevirtual 120, 3) := by decide +kernel
theorem dX6_fault_9 : decode cX6_fault 9 = .ok (.ireturn, 1) := by decide +kernel
set_option maxRecDepth 20000 in
theorem ggX6_does_X6_behindPart : GoodIn wsX6_does wsX6_behindPart := goodIn_r _ [6, 7, 8, 9, 5, 10, 11, 12, 13, 14, 15, 16, 17, 18, 19, 20, 21, 22, 23, 46, 47, 48, 49, 50, 51, 52, 53, 54, 55, 56] (by decide +kernel) (by decide +kernel)
set_option maxRecDepth 20000 in
theorem gX6_does_X6_behindPart : GoodIn wsX6_does (wsV RX6 117 RX6 yX6_behindPart wsX6_behindPart) := goodIn_app (goodIn_of _ (by decide +kernel)) ggX6_does_X6_behindPart
set_option maxRecDepth 20000 in
theorem ggX6_does_X6_charAt : GoodIn wsX6_does wsX6_charAt := goodIn_r _ [10, 11, 12, 46, 47, 48, 49, 50, 51, 52, 53, 54, 55, 56] (by decide +kernel) (by decide +kernel)
set_option maxRecDepth 20000 in
theorem gX6_does_X6_charAt : GoodIn wsX6_does (wsV RX6 108 RX6 yX6_charAt wsX6_charAt) := goodIn_app (goodIn_of _ (by decide +kernel)) ggX6_does_X6_charAt
set_option maxRecDepth 20000 in
theorem ggX6_does_X6_cranks : GoodIn wsX6_does wsX6_cranks := goodIn_r _ [27, 28, 29, 30, 5, 31, 1, 32, 33, 34, 35, 36, 37, 38, 39, 40, 41, 42, 43, 44, 45, 46, 47, 48, 49, 50, 51, 52, 53, 54, 55, 56] (by decide +kernel) (by decide +kernel)
set_option maxRecDepth 20000 in
theorem gX6_does_X6_cranks : GoodIn wsX6_does (wsV RX6 94 RX6 yX6_cranks wsX6_cranks) := goodIn_app (goodIn_of _ (by decide +kernel)) ggX6_does_X6_cranks
set_option maxRecDepth 20000 in
theorem ggX6_does_X6_behindColumn : GoodIn wsX6_does wsX6_behindColumn := goodIn_r _ [23, 7, 8, 9, 5, 10, 11, 12, 16, 17, 18, 19, 13, 14, 15, 46, 47, 48, 49, 50, 51, 52, 53, 54, 55, 56] (by decide +kernel) (by decide +kernel)
set_option maxRecDepth 20000 in
theorem gX6_does_X6_behindColumn : GoodIn wsX6_does (wsV RX6 114 RX6 yX6_behindColumn wsX6_behindColumn) := goodIn_app (goodIn_of _ (by decide +kernel)) ggX6_does_X6_behindColumn
theorem dX6_does_0 : decode cX6_does 0 = .ok (.aload_n 0, 1) := by decide +kernel
theorem dX6_does_1 : decode cX6_does 1 = .ok (.iload_n 1, 1) := by decide +kernel
theorem dX6_does_2 : decode cX6_does 2 = .ok (.invokevirtual 117, 3) := by decide +kernel
theorem dX6_does_5 : decode cX6_does 5 = .ok (.istore_n 2, 1) := by decide +kernel
theorem dX6_does_6 : decode cX6_does 6 = .ok (.aload_n 0, 1) := by decide +kernel
theorem dX6_does_7 : decode cX6_does 7 = .ok (.iload_n 1, 1) := by decide +kernel
theorem dX6_does_8 : decode cX6_does 8 = .ok (.invokevirtual 108, 3) := by decide +kernel
theorem dX6_does_11 : decode cX6_does 11 = .ok (.bipush 46, 2) := by decide +kernel
theorem dX6_does_13 : decode cX6_does 13 = .ok (.if_icmp .ne 29, 3) := by decide +kernel
theorem dX6_does_16 : decode cX6_does 16 = .ok (.aload_n 0, 1) := by decide +kernel
theorem dX6_does_17 : decode cX6_does 17 = .ok (.iload_n 2, 1) := by decide +kernel
theorem dX6_does_18 : decode cX6_does 18 = .ok (.iload_n 1, 1) := by decide +kernel
theorem dX6_does_19 : decode cX6_does 19 = .ok (.iconst 2, 1) := by decide +kernel
theorem dX6_does_20 : decode cX6_does 20 = .ok (.iadd, 1) := by decide +kernel
theorem dX6_does_21 : decode cX6_does 21 = .ok (.if_icmp .ne 16, 3) := by decide +kernel
theorem dX6_does_24 : decode cX6_does 24 = .ok (.aload_n 0, 1) := by decide +kernel
theorem dX6_does_25 : decode cX6_does 25 = .ok (.iload_n 1, 1) := by decide +kernel
theorem dX6_does_26 : decode cX6_does 26 = .ok (.iconst 1, 1) := by decide +kernel
theorem dX6_does_27 : decode cX6_does 27 = .ok (.iadd, 1) := by decide +kernel
theorem dX6_does_28 : decode cX6_does 28 = .ok (.invokevirtual 108, 3) := by decide +kernel
theorem dX6_does_31 : decode cX6_does 31 = .ok (.bipush 48, 2) := by decide +kernel
theorem dX6_does_33 : decode cX6_does 33 = .ok (.isub, 1) := by decide +kernel
theorem dX6_does_34 : decode cX6_does 34 = .ok (.goto 4, 3) := by decide +kernel
theorem dX6_does_37 : decode cX6_does 37 = .ok (.iconst 1, 1) := by decide +kernel
theorem dX6_does_38 : decode cX6_does 38 = .ok (.invokevirtual 94, 3) := by decide +kernel
theorem dX6_does_41 : decode cX6_does 41 = .ok (.ireturn, 1) := by decide +kernel
theorem dX6_does_42 : decode cX6_does 42 = .ok (.aload_n 0, 1) := by decide +kernel
theorem dX6_does_43 : decode cX6_does 43 = .ok (.iload_n 1, 1) := by decide +kernel
theorem dX6_does_44 : decode cX6_does 44 = .ok (.invokevirtual 108, 3) := by decide +kernel
theorem dX6_does_47 : decode cX6_does 47 = .ok (.bipush 116, 2) := by decide +kernel
theorem dX6_does_49 : decode cX6_does 49 = .ok (.if_icmp .ne 33, 3) := by decide +kernel
theorem dX6_does_52 : decode cX6_does 52 = .ok (.aload_n 0, 1) := by decide +kernel
theorem dX6_does_53 : decode cX6_does 53 = .ok (.getfield 7, 3) := by decide +kernel
theorem dX6_does_56 : decode cX6_does 56 = .ok (.bipush 32, 2) := by decide +kernel
theorem dX6_does_58 : decode cX6_does 58 = .ok (.aload_n 0, 1) := by decide +kernel
theorem dX6_does_59 : decode cX6_does 59 = .ok (.iload_n 1, 1) := by decide +kernel
theorem dX6_does_60 : decode cX6_does 60 = .ok (.iconst 1, 1) := by decide +kernel
theorem dX6_does_61 : decode cX6_does 61 = .ok (.iadd, 1) := by decide +kernel
theorem dX6_does_62 : decode cX6_does 62 = .ok (.invokevirtual 108, 3) := by decide +kernel
theorem dX6_does_65 : decode cX6_does 65 = .ok (.iadd, 1) := by decide +kernel
theorem dX6_does_66 : decode cX6_does 66 = .ok (.bipush 48, 2) := by decide +kernel
theorem dX6_does_68 : decode cX6_does 68 = .ok (.isub, 1) := by decide +kernel
theorem dX6_does_69 : decode cX6_does 69 = .ok (.aload_n 0, 1) := by decide +kernel
theorem dX6_does_70 : decode cX6_does 70 = .ok (.iload_n 1, 1) := by decide +kernel
theorem dX6_does_71 : decode cX6_does 71 = .ok (.iconst 2, 1) := by decide +kernel
theorem dX6_does_72 : decode cX6_does 72 = .ok (.iadd, 1) := by decide +kernel
theorem dX6_does_73 : decode cX6_does 73 = .ok (.invokevirtual 108, 3) := by decide +kernel
theorem dX6_does_76 : decode cX6_does 76 = .ok (.bipush 48, 2) := by decide +kernel
theorem dX6_does_78 : decode cX6_does 78 = .ok (.isub, 1) := by decide +kernel
theorem dX6_does_79 : decode cX6_does 79 = .ok (.iastore, 1) := by decide +kernel
theorem dX6_does_80 : decode cX6_does 80 = .ok (.iconst 0, 1) := by decide +kernel
theorem dX6_does_81 : decode cX6_does 81 = .ok (.ireturn, 1) := by decide +kernel
theorem dX6_does_82 : decode cX6_does 82 = .ok (.aload_n 0, 1) := by decide +kernel
theorem dX6_does_83 : decode cX6_does 83 = .ok (.iload_n 1, 1) := by decide +kernel
theorem dX6_does_84 : decode cX6_does 84 = .ok (.invokevirtual 114, 3) := by decide +kernel
theorem dX6_does_87 : decode cX6_does 87 = .ok (.istore_n 3, 1) := by decide +kernel
theorem dX6_does_88 : decode cX6_does 88 = .ok (.iload_n 3, 1) := by decide +kernel
theorem dX6_does_89 : decode cX6_does 89 = .ok (.iload_n 1, 1) := by decide +kernel
theorem dX6_does_90 : decode cX6_does 90 = .ok (.iconst 2, 1) := by decide +kernel
theorem dX6_does_91 : decode cX6_does 91 = .ok (.iadd, 1) := by decide +kernel
theorem dX6_does_92 : decode cX6_does 92 = .ok (.if_icmp .ne 28, 3) := by decide +kernel
theorem dX6_does_95 : decode cX6_does 95 = .ok (.bipush 10, 2) := by decide +kernel
theorem dX6_does_97 : decode cX6_does 97 = .ok (.aload_n 0, 1) := by decide +kernel
theorem dX6_does_98 : decode cX6_does 98 = .ok (.iload_n 1, 1) := by decide +kernel
theorem dX6_does_99 : decode cX6_does 99 = .ok (.invokevirtual 108, 3) := by decide +kernel
theorem dX6_does_102 : decode cX6_does 102 = .ok (.bipush 48, 2) := by decide +kernel
theorem dX6_does_104 : decode cX6_does 104 = .ok (.isub, 1) := by decide +kernel
theorem dX6_does_105 : decode cX6_does 105 = .ok (.imul, 1) := by decide +kernel
theorem dX6_does_106 : decode cX6_does 106 = .ok (.aload_n 0, 1) := by decide +kernel
theorem dX6_does_107 : decode cX6_does 107 = .ok (.iload_n 1, 1) := by decide +kernel
theorem dX6_does_108 : decode cX6_does 108 = .ok (.iconst 1, 1) := by decide +kernel
theorem dX6_does_109 : decode cX6_does 109 = .ok (.iadd, 1) := by decide +kernel
theorem dX6_does_110 : decode cX6_does 110 = .ok (.invokevirtual 108, 3) := by decide +kernel
theorem dX6_does_113 : decode cX6_does 113 = .ok (.iadd, 1) := by decide +kernel
theorem dX6_does_114 : decode cX6_does 114 = .ok (.bipush 48, 2) := by decide +kernel
theorem dX6_does_116 : decode cX6_does 116 = .ok (.isub, 1) := by decide +kernel
theorem dX6_does_117 : decode cX6_does 117 = .ok (.goto 11, 3) := by decide +kernel
theorem dX6_does_120 : decode cX6_does 120 = .ok (.aload_n 0, 1) := by decide +kernel
theorem dX6_does_121 : decode cX6_does 121 = .ok (.iload_n 1, 1) := by decide +kernel
theorem dX6_does_122 : decode cX6_does 122 = .ok (.invokevirtual 108, 3) := by decide +kernel
theorem dX6_does_125 : decode cX6_does 125 = .ok (.bipush 48, 2) := by decide +kernel
theorem dX6_does_127 : decode cX6_does 127 = .ok (.isub, 1) := by decide +kernel
theorem dX6_does_128 : decode cX6_does 128 = .ok (.istore 4, 2) := by decide +kernel
theorem dX6_does_130 : decode cX6_does 130 = .ok (.iload_n 3, 1) := by decide +kernel
theorem dX6_does_131 : decode cX6_does 131 = .ok (.iconst 1, 1) := by decide +kernel
theorem dX6_does_132 : decode cX6_does 132 = .ok (.iadd, 1) := by decide +kernel
theorem dX6_does_133 : decode cX6_does 133 = .ok (.istore 5, 2) := by decide +kernel
theorem dX6_does_135 : decode cX6_does 135 = .ok (.iload 5, 2) := by decide +kernel
theorem dX6_does_137 : decode cX6_does 137 = .ok (.iload_n 2, 1) := by decide +kernel
theorem dX6_does_138 : decode cX6_does 138 = .ok (.if_icmp .ge 32, 3) := by decide +kernel
theorem dX6_does_141 : decode cX6_does 141 = .ok (.aload_n 0, 1) := by decide +kernel
theorem dX6_does_142 : decode cX6_does 142 = .ok (.getfield 7, 3) := by decide +kernel
theorem dX6_does_145 : decode cX6_does 145 = .ok (.iconst 0, 1) := by decide +kernel
theorem dX6_does_146 : decode cX6_does 146 = .ok (.iload 4, 2) := by decide +kernel
theorem dX6_does_148 : decode cX6_does 148 = .ok (.iadd, 1) := by decide +kernel
theorem dX6_does_149 : decode cX6_does 149 = .ok (.dup2, 1) := by decide +kernel
theorem dX6_does_150 : decode cX6_does 150 = .ok (.iaload, 1) := by decide +kernel
theorem dX6_does_151 : decode cX6_does 151 = .ok (.iconst 1, 1) := by decide +kernel
theorem dX6_does_152 : decode cX6_does 152 = .ok (.aload_n 0, 1) := by decide +kernel
theorem dX6_does_153 : decode cX6_does 153 = .ok (.iload 5, 2) := by decide +kernel
theorem dX6_does_155 : decode cX6_does 155 = .ok (.invokevirtual 108, 3) := by decide +kernel
theorem dX6_does_158 : decode cX6_does 158 = .ok (.bipush 48, 2) := by decide +kernel
theorem dX6_does_160 : decode cX6_does 160 = .ok (.isub, 1) := by decide +kernel
theorem dX6_does_161 : decode cX6_does 161 = .ok (.ishl, 1) := by decide +kernel
theorem dX6_does_162 : decode cX6_does 162 = .ok (.ixor, 1) := by decide +kernel
theorem dX6_does_163 : decode cX6_does 163 = .ok (.iastore, 1) := by decide +kernel
theorem dX6_does_164 : decode cX6_does 164 = .ok (.iinc 5 1, 3) := by decide +kernel
theorem dX6_does_167 : decode cX6_does 167 = .ok (.goto (-32), 3) := by decide +kernel
theorem dX6_does_170 : decode cX6_does 170 = .ok (.iconst 0, 1) := by decide +kernel
theorem dX6_does_171 : decode cX6_does 171 = .ok (.ireturn, 1) := by decide +kernel
set_option maxRecDepth 20000 in
theorem ggX6_read_X6_wrong : GoodIn wsX6_read wsX6_wrong := goodIn_r _ [6, 1, 7, 8, 9, 10, 5, 11, 12, 13, 14, 15, 16, 17, 18, 19, 20, 21, 22, 23, 24, 25, 26, 65, 66, 67, 68, 69, 70, 71, 72, 73, 74, 75] (by decide +kernel) (by decide +kernel)
set_option maxRecDepth 20000 in
theorem gX6_read_X6_wrong : GoodIn wsX6_read (wsV RX6 120 RX6 yX6_wrong wsX6_wrong) := goodIn_app (goodIn_of _ (by decide +kernel)) ggX6_read_X6_wrong
set_option maxRecDepth 20000 in
theorem ggX6_read_X6_holds : GoodIn wsX6_read wsX6_holds := goodIn_r _ [30, 31, 65, 66, 67, 68, 69, 70, 71, 72, 73, 74, 75] (by decide +kernel) (by decide +kernel)
set_option maxRecDepth 20000 in
theorem gX6_read_X6_holds : GoodIn wsX6_read (wsV RX6 75 RX6 yX6_holds wsX6_holds) := goodIn_app (goodIn_of _ (by decide +kernel)) ggX6_read_X6_holds
set_option maxRecDepth 20000 in
theorem ggX6_read_X6_records : GoodIn wsX6_read wsX6_records := goodIn_r _ [35, 36, 37, 38, 65, 66, 67, 68, 69, 70, 71, 72, 73, 74, 75] (by decide +kernel) (by decide +kernel)
set_option maxRecDepth 20000 in
theorem gX6_read_X6_records : GoodIn wsX6_read (wsV RX6 78 RX6 yX6_records wsX6_records) := goodIn_app (goodIn_of _ (by decide +kernel)) ggX6_read_X6_records
set_option maxRecDepth 20000 in
theorem ggX6_read_X6_does : GoodIn wsX6_read wsX6_does := goodIn_r _ [42, 38, 8, 9, 10, 5, 11, 12, 13, 14, 15, 1, 7, 16, 17, 18, 19, 20, 21, 22, 23, 24, 25, 26, 43, 44, 45, 46, 47, 48, 49, 50, 51, 52, 53, 54, 55, 56, 57, 58, 59, 60, 61, 62, 63, 64, 65, 66, 67, 68, 69, 70, 71, 72, 73, 74, 75] (by decide +kernel) (by decide +kernel)
set_option maxRecDepth 20000 in
theorem gX6_read_X6_does : GoodIn wsX6_read (wsV RX6 123 RX6 yX6_does wsX6_does) := goodIn_app (goodIn_of _ (by decide +kernel)) ggX6_read_X6_does
set_option maxRecDepth 20000 in
theorem ggX6_read_X6_behindPart : GoodIn wsX6_read wsX6_behindPart := goodIn_r _ [11, 12, 13, 14, 5, 15, 1, 7, 16, 17, 18, 19, 20, 21, 22, 23, 24, 25, 26, 65, 66, 67, 68, 69, 70, 71, 72, 73, 74, 75] (by decide +kernel) (by decide +kernel)
set_option maxRecDepth 20000 in
theorem gX6_read_X6_behindPart : GoodIn wsX6_read (wsV RX6 117 RX6 yX6_behindPart wsX6_behindPart) := goodIn_app (goodIn_of _ (by decide +kernel)) ggX6_read_X6_behindPart
theorem dX6_read_0 : decode cX6_read 0 = .ok (.aload_n 0, 1) := by decide +kernel
theorem dX6_read_1 : decode cX6_read 1 = .ok (.aload_n 0, 1) := by decide +kernel
theorem dX6_read_2 : decode cX6_read 2 = .ok (.invokevirtual 120, 3) := by decide +kernel
theorem dX6_read_5 : decode cX6_read 5 = .ok (.iconst (-1), 1) := by decide +kernel
theorem dX6_read_6 : decode cX6_read 6 = .ok (.if_icmp .ne 7, 3) := by decide +kernel
theorem dX6_read_9 : decode cX6_read 9 = .ok (.iconst 0, 1) := by decide +kernel
theorem dX6_read_10 : decode cX6_read 10 = .ok (.goto 4, 3) := by decide +kernel
theorem dX6_read_13 : decode cX6_read 13 = .ok (.iconst 1, 1) := by decide +kernel
theorem dX6_read_14 : decode cX6_read 14 = .ok (.invokevirtual 75, 3) := by decide +kernel
theorem dX6_read_17 : decode cX6_read 17 = .ok (.ifCond .ne 5, 3) := by decide +kernel
theorem dX6_read_20 : decode cX6_read 20 = .ok (.iconst 0, 1) := by decide +kernel
theorem dX6_read_21 : decode cX6_read 21 = .ok (.ireturn, 1) := by decide +kernel
theorem dX6_read_22 : decode cX6_read 22 = .ok (.aload_n 0, 1) := by decide +kernel
theorem dX6_read_23 : decode cX6_read 23 = .ok (.invokevirtual 78, 3) := by decide +kernel
theorem dX6_read_26 : decode cX6_read 26 = .ok (.iconst 0, 1) := by decide +kernel
theorem dX6_read_27 : decode cX6_read 27 = .ok (.istore_n 1, 1) := by decide +kernel
theorem dX6_read_28 : decode cX6_read 28 = .ok (.iconst 0, 1) := by decide +kernel
theorem dX6_read_29 : decode cX6_read 29 = .ok (.istore_n 2, 1) := by decide +kernel
theorem dX6_read_30 : decode cX6_read 30 = .ok (.iload_n 2, 1) := by decide +kernel
theorem dX6_read_31 : decode cX6_read 31 = .ok (.aload_n 0, 1) := by decide +kernel
theorem dX6_read_32 : decode cX6_read 32 = .ok (.getfield 105, 3) := by decide +kernel
theorem dX6_read_35 : decode cX6_read 35 = .ok (.if_icmp .ge 22, 3) := by decide +kernel
theorem dX6_read_38 : decode cX6_read 38 = .ok (.iload_n 1, 1) := by decide +kernel
theorem dX6_read_39 : decode cX6_read 39 = .ok (.aload_n 0, 1) := by decide +kernel
theorem dX6_read_40 : decode cX6_read 40 = .ok (.iload_n 2, 1) := by decide +kernel
theorem dX6_read_41 : decode cX6_read 41 = .ok (.invokevirtual 123, 3) := by decide +kernel
theorem dX6_read_44 : decode cX6_read 44 = .ok (.iadd, 1) := by decide +kernel
theorem dX6_read_45 : decode cX6_read 45 = .ok (.istore_n 1, 1) := by decide +kernel
theorem dX6_read_46 : decode cX6_read 46 = .ok (.aload_n 0, 1) := by decide +kernel
theorem dX6_read_47 : decode cX6_read 47 = .ok (.iload_n 2, 1) := by decide +kernel
theorem dX6_read_48 : decode cX6_read 48 = .ok (.invokevirtual 117, 3) := by decide +kernel
theorem dX6_read_51 : decode cX6_read 51 = .ok (.iconst 1, 1) := by decide +kernel
theorem dX6_read_52 : decode cX6_read 52 = .ok (.iadd, 1) := by decide +kernel
theorem dX6_read_53 : decode cX6_read 53 = .ok (.istore_n 2, 1) := by decide +kernel
theorem dX6_read_54 : decode cX6_read 54 = .ok (.goto (-24), 3) := by decide +kernel
theorem dX6_read_57 : decode cX6_read 57 = .ok (.aload_n 0, 1) := by decide +kernel
theorem dX6_read_58 : decode cX6_read 58 = .ok (.iconst 0, 1) := by decide +kernel
theorem dX6_read_59 : decode cX6_read 59 = .ok (.putfield 105, 3) := by decide +kernel
theorem dX6_read_62 : decode cX6_read 62 = .ok (.iload_n 1, 1) := by decide +kernel
theorem dX6_read_63 : decode cX6_read 63 = .ok (.ireturn, 1) := by decide +kernel
set_option maxRecDepth 20000 in
theorem ggX6_undo_X6_holds : GoodIn wsX6_undo wsX6_holds := goodIn_r _ [8, 9, 10, 11, 12, 13, 14, 15, 16, 17, 18, 19, 20] (by decide +kernel) (by decide +kernel)
set_option maxRecDepth 20000 in
theorem gX6_undo_X6_holds : GoodIn wsX6_undo (wsV RX6 75 RX6 yX6_holds wsX6_holds) := goodIn_app (goodIn_of _ (by decide +kernel)) ggX6_undo_X6_holds
theorem dX6_undo_0 : decode cX6_undo 0 = .ok (.aload_n 0, 1) := by decide +kernel
theorem dX6_undo_1 : decode cX6_undo 1 = .ok (.aload_n 0, 1) := by decide +kernel
theorem dX6_undo_2 : decode cX6_undo 2 = .ok (.getfield 40, 3) := by decide +kernel
theorem dX6_undo_5 : decode cX6_undo 5 = .ok (.ifCond .le 7, 3) := by decide +kernel
theorem dX6_undo_8 : decode cX6_undo 8 = .ok (.iconst 0, 1) := by decide +kernel
theorem dX6_undo_9 : decode cX6_undo 9 = .ok (.goto 4, 3) := by decide +kernel
theorem dX6_undo_12 : decode cX6_undo 12 = .ok (.iconst 1, 1) := by decide +kernel
theorem dX6_undo_13 : decode cX6_undo 13 = .ok (.invokevirtual 75, 3) := by decide +kernel
theorem dX6_undo_16 : decode cX6_undo 16 = .ok (.ifCond .ne 5, 3) := by decide +kernel
theorem dX6_undo_19 : decode cX6_undo 19 = .ok (.iconst 0, 1) := by decide +kernel
theorem dX6_undo_20 : decode cX6_undo 20 = .ok (.ireturn, 1) := by decide +kernel
theorem dX6_undo_21 : decode cX6_undo 21 = .ok (.aload_n 0, 1) := by decide +kernel
theorem dX6_undo_22 : decode cX6_undo 22 = .ok (.dup, 1) := by decide +kernel
theorem dX6_undo_23 : decode cX6_undo 23 = .ok (.getfield 40, 3) := by decide +kernel
theorem dX6_undo_26 : decode cX6_undo 26 = .ok (.iconst 1, 1) := by decide +kernel
theorem dX6_undo_27 : decode cX6_undo 27 = .ok (.isub, 1) := by decide +kernel
theorem dX6_undo_28 : decode cX6_undo 28 = .ok (.putfield 40, 3) := by decide +kernel
theorem dX6_undo_31 : decode cX6_undo 31 = .ok (.iconst 0, 1) := by decide +kernel
theorem dX6_undo_32 : decode cX6_undo 32 = .ok (.istore_n 1, 1) := by decide +kernel
theorem dX6_undo_33 : decode cX6_undo 33 = .ok (.iload_n 1, 1) := by decide +kernel
theorem dX6_undo_34 : decode cX6_undo 34 = .ok (.bipush 70, 2) := by decide +kernel
theorem dX6_undo_36 : decode cX6_undo 36 = .ok (.if_icmp .ge 29, 3) := by decide +kernel
theorem dX6_undo_39 : decode cX6_undo 39 = .ok (.aload_n 0, 1) := by decide +kernel
theorem dX6_undo_40 : decode cX6_undo 40 = .ok (.getfield 7, 3) := by decide +kernel
theorem dX6_undo_43 : decode cX6_undo 43 = .ok (.iload_n 1, 1) := by decide +kernel
theorem dX6_undo_44 : decode cX6_undo 44 = .ok (.aload_n 0, 1) := by decide +kernel
theorem dX6_undo_45 : decode cX6_undo 45 = .ok (.getfield 20, 3) := by decide +kernel
theorem dX6_undo_48 : decode cX6_undo 48 = .ok (.bipush 70, 2) := by decide +kernel
theorem dX6_undo_50 : decode cX6_undo 50 = .ok (.aload_n 0, 1) := by decide +kernel
theorem dX6_undo_51 : decode cX6_undo 51 = .ok (.getfield 40, 3) := by decide +kernel
theorem dX6_undo_54 : decode cX6_undo 54 = .ok (.imul, 1) := by decide +kernel
theorem dX6_undo_55 : decode cX6_undo 55 = .ok (.iload_n 1, 1) := by decide +kernel
theorem dX6_undo_56 : decode cX6_undo 56 = .ok (.iadd, 1) := by decide +kernel
theorem dX6_undo_57 : decode cX6_undo 57 = .ok (.iaload, 1) := by decide +kernel
theorem dX6_undo_58 : decode cX6_undo 58 = .ok (.iastore, 1) := by decide +kernel
theorem dX6_undo_59 : decode cX6_undo 59 = .ok (.iinc 1 1, 3) := by decide +kernel
theorem dX6_undo_62 : decode cX6_undo 62 = .ok (.goto (-29), 3) := by decide +kernel
theorem dX6_undo_65 : decode cX6_undo 65 = .ok (.aload_n 0, 1) := by decide +kernel
theorem dX6_undo_66 : decode cX6_undo 66 = .ok (.getfield 40, 3) := by decide +kernel
theorem dX6_undo_69 : decode cX6_undo 69 = .ok (.ireturn, 1) := by decide +kernel
theorem dX6_undoable_0 : decode cX6_undoable 0 = .ok (.aload_n 0, 1) := by decide +kernel
theorem dX6_undoable_1 : decode cX6_undoable 1 = .ok (.iconst 0, 1) := by decide +kernel
theorem dX6_undoable_2 : decode cX6_undoable 2 = .ok (.putfield 32, 3) := by decide +kernel
theorem dX6_undoable_5 : decode cX6_undoable 5 = .ok (.aload_n 0, 1) := by decide +kernel
theorem dX6_undoable_6 : decode cX6_undoable 6 = .ok (.getfield 40, 3) := by decide +kernel
theorem dX6_undoable_9 : decode cX6_undoable 9 = .ok (.ireturn, 1) := by decide +kernel
set_option maxRecDepth 20000 in
theorem ggX6_save_X6_in : GoodIn wsX6_save wsX6_in := goodIn_r _ [7] (by decide +kernel) (by decide +kernel)
set_option maxRecDepth 20000 in
theorem gX6_save_X6_in : GoodIn wsX6_save (va_wsS RX6 36 yX6_in wsX6_in) := goodIn_app (goodIn_of _ (by decide +kernel)) ggX6_save_X6_in
set_option maxRecDepth 20000 in
theorem ggX6_save_X6_holds : GoodIn wsX6_save wsX6_holds := goodIn_r _ [11, 12, 20, 21, 22, 23, 24, 25, 26, 27, 28, 29, 30] (by decide +kernel) (by decide +kernel)
set_option maxRecDepth 20000 in
theorem gX6_save_X6_holds : GoodIn wsX6_save (wsV RX6 75 RX6 yX6_holds wsX6_holds) := goodIn_app (goodIn_of _ (by decide +kernel)) ggX6_save_X6_holds
set_option maxRecDepth 20000 in
theorem ggX6_save_X6_allPegs : GoodIn wsX6_save wsX6_allPegs := goodIn_r _ [16, 2, 17, 18, 6, 19, 20, 21, 22, 23, 24, 25, 26, 27, 28, 29, 30] (by decide +kernel) (by decide +kernel)
set_option maxRecDepth 20000 in
theorem gX6_save_X6_allPegs : GoodIn wsX6_save (wsV RX6 97 RX6 yX6_allPegs wsX6_allPegs) := goodIn_app (goodIn_of _ (by decide +kernel)) ggX6_save_X6_allPegs
theorem dX6_save_0 : decode cX6_save 0 = .ok (.aload_n 0, 1) := by decide +kernel
theorem dX6_save_1 : decode cX6_save 1 = .ok (.iload_n 1, 1) := by decide +kernel
theorem dX6_save_2 : decode cX6_save 2 = .ok (.iconst 0, 1) := by decide +kernel
theorem dX6_save_3 : decode cX6_save 3 = .ok (.iconst 1, 1) := by decide +kernel
theorem dX6_save_4 : decode cX6_save 4 = .ok (.invokestatic 36, 3) := by decide +kernel
theorem dX6_save_7 : decode cX6_save 7 = .ok (.ifCond .eq 7, 3) := by decide +kernel
theorem dX6_save_10 : decode cX6_save 10 = .ok (.iconst 0, 1) := by decide +kernel
theorem dX6_save_11 : decode cX6_save 11 = .ok (.goto 4, 3) := by decide +kernel
theorem dX6_save_14 : decode cX6_save 14 = .ok (.iconst 1, 1) := by decide +kernel
theorem dX6_save_15 : decode cX6_save 15 = .ok (.invokevirtual 75, 3) := by decide +kernel
theorem dX6_save_18 : decode cX6_save 18 = .ok (.ifCond .ne 5, 3) := by decide +kernel
theorem dX6_save_21 : decode cX6_save 21 = .ok (.iconst 0, 1) := by decide +kernel
theorem dX6_save_22 : decode cX6_save 22 = .ok (.ireturn, 1) := by decide +kernel
theorem dX6_save_23 : decode cX6_save 23 = .ok (.iconst 0, 1) := by decide +kernel
theorem dX6_save_24 : decode cX6_save 24 = .ok (.istore_n 2, 1) := by decide +kernel
theorem dX6_save_25 : decode cX6_save 25 = .ok (.iload_n 2, 1) := by decide +kernel
theorem dX6_save_26 : decode cX6_save 26 = .ok (.bipush 70, 2) := by decide +kernel
theorem dX6_save_28 : decode cX6_save 28 = .ok (.if_icmp .ge 26, 3) := by decide +kernel
theorem dX6_save_31 : decode cX6_save 31 = .ok (.aload_n 0, 1) := by decide +kernel
theorem dX6_save_32 : decode cX6_save 32 = .ok (.getfield 13, 3) := by decide +kernel
theorem dX6_save_35 : decode cX6_save 35 = .ok (.bipush 70, 2) := by decide +kernel
theorem dX6_save_37 : decode cX6_save 37 = .ok (.iload_n 1, 1) := by decide +kernel
theorem dX6_save_38 : decode cX6_save 38 = .ok (.imul, 1) := by decide +kernel
theorem dX6_save_39 : decode cX6_save 39 = .ok (.iload_n 2, 1) := by decide +kernel
theorem dX6_save_40 : decode cX6_save 40 = .ok (.iadd, 1) := by decide +kernel
theorem dX6_save_41 : decode cX6_save 41 = .ok (.aload_n 0, 1) := by decide +kernel
theorem dX6_save_42 : decode cX6_save 42 = .ok (.getfield 7, 3) := by decide +kernel
theorem dX6_save_45 : decode cX6_save 45 = .ok (.iload_n 2, 1) := by decide +kernel
theorem dX6_save_46 : decode cX6_save 46 = .ok (.iaload, 1) := by decide +kernel
theorem dX6_save_47 : decode cX6_save 47 = .ok (.iastore, 1) := by decide +kernel
theorem dX6_save_48 : decode cX6_save 48 = .ok (.iinc 2 1, 3) := by decide +kernel
theorem dX6_save_51 : decode cX6_save 51 = .ok (.goto (-26), 3) := by decide +kernel
theorem dX6_save_54 : decode cX6_save 54 = .ok (.aload_n 0, 1) := by decide +kernel
theorem dX6_save_55 : decode cX6_save 55 = .ok (.getfield 16, 3) := by decide +kernel
theorem dX6_save_58 : decode cX6_save 58 = .ok (.iload_n 1, 1) := by decide +kernel
theorem dX6_save_59 : decode cX6_save 59 = .ok (.iconst 1, 1) := by decide +kernel
theorem dX6_save_60 : decode cX6_save 60 = .ok (.bastore, 1) := by decide +kernel
theorem dX6_save_61 : decode cX6_save 61 = .ok (.aload_n 0, 1) := by decide +kernel
theorem dX6_save_62 : decode cX6_save 62 = .ok (.invokevirtual 97, 3) := by decide +kernel
theorem dX6_save_65 : decode cX6_save 65 = .ok (.ireturn, 1) := by decide +kernel
set_option maxRecDepth 20000 in
theorem ggX6_restore_X6_in : GoodIn wsX6_restore wsX6_in := goodIn_r _ [7] (by decide +kernel) (by decide +kernel)
set_option maxRecDepth 20000 in
theorem gX6_restore_X6_in : GoodIn wsX6_restore (va_wsS RX6 36 yX6_in wsX6_in) := goodIn_app (goodIn_of _ (by decide +kernel)) ggX6_restore_X6_in
set_option maxRecDepth 20000 in
theorem ggX6_restore_X6_holds : GoodIn wsX6_restore wsX6_holds := goodIn_r _ [11, 12, 26, 27, 28, 29, 30, 31, 32, 33, 34, 35, 36] (by decide +kernel) (by decide +kernel)
set_option maxRecDepth 20000 in
theorem gX6_restore_X6_holds : GoodIn wsX6_restore (wsV RX6 75 RX6 yX6_holds wsX6_holds) := goodIn_app (goodIn_of _ (by decide +kernel)) ggX6_restore_X6_holds
set_option maxRecDepth 20000 in
theorem ggX6_restore_X6_records : GoodIn wsX6_restore wsX6_records := goodIn_r _ [16, 17, 18, 2, 26, 27, 28, 29, 30, 31, 32, 33, 34, 35, 36] (by decide +kernel) (by decide +kernel)
set_option maxRecDepth 20000 in
theorem gX6_restore_X6_records : GoodIn wsX6_restore (wsV RX6 78 RX6 yX6_records wsX6_records) := goodIn_app (goodIn_of _ (by decide +kernel)) ggX6_restore_X6_records
set_option maxRecDepth 20000 in
theorem ggX6_restore_X6_allPegs : GoodIn wsX6_restore wsX6_allPegs := goodIn_r _ [22, 2, 23, 24, 6, 25, 26, 27, 28, 29, 30, 31, 32, 33, 34, 35, 36] (by decide +kernel) (by decide +kernel)
set_option maxRecDepth 20000 in
theorem gX6_restore_X6_allPegs : GoodIn wsX6_restore (wsV RX6 97 RX6 yX6_allPegs wsX6_allPegs) := goodIn_app (goodIn_of _ (by decide +kernel)) ggX6_restore_X6_allPegs
theorem dX6_restore_0 : decode cX6_restore 0 = .ok (.iload_n 1, 1) := by decide +kernel
theorem dX6_restore_1 : decode cX6_restore 1 = .ok (.iconst 0, 1) := by decide +kernel
theorem dX6_restore_2 : decode cX6_restore 2 = .ok (.iconst 1, 1) := by decide +kernel
theorem dX6_restore_3 : decode cX6_restore 3 = .ok (.invokestatic 36, 3) := by decide +kernel
theorem dX6_restore_6 : decode cX6_restore 6 = .ok (.istore_n 2, 1) := by decide +kernel
theorem dX6_restore_7 : decode cX6_restore 7 = .ok (.aload_n 0, 1) := by decide +kernel
theorem dX6_restore_8 : decode cX6_restore 8 = .ok (.iload_n 2, 1) := by decide +kernel
theorem dX6_restore_9 : decode cX6_restore 9 = .ok (.ifCond .ne 7, 3) := by decide +kernel
theorem dX6_restore_12 : decode cX6_restore 12 = .ok (.iconst 1, 1) := by decide +kernel
theorem dX6_restore_13 : decode cX6_restore 13 = .ok (.goto 17, 3) := by decide +kernel
theorem dX6_restore_16 : decode cX6_restore 16 = .ok (.aload_n 0, 1) := by decide +kernel
theorem dX6_restore_17 : decode cX6_restore 17 = .ok (.getfield 16, 3) := by decide +kernel
theorem dX6_restore_20 : decode cX6_restore 20 = .ok (.iload_n 1, 1) := by decide +kernel
theorem dX6_restore_21 : decode cX6_restore 21 = .ok (.baload, 1) := by decide +kernel
theorem dX6_restore_22 : decode cX6_restore 22 = .ok (.ifCond .ne 7, 3) := by decide +kernel
theorem dX6_restore_25 : decode cX6_restore 25 = .ok (.iconst 2, 1) := by decide +kernel
theorem dX6_restore_26 : decode cX6_restore 26 = .ok (.goto 4, 3) := by decide +kernel
theorem dX6_restore_29 : decode cX6_restore 29 = .ok (.iconst 0, 1) := by decide +kernel
theorem dX6_restore_30 : decode cX6_restore 30 = .ok (.invokevirtual 75, 3) := by decide +kernel
theorem dX6_restore_33 : decode cX6_restore 33 = .ok (.ifCond .ne 5, 3) := by decide +kernel
theorem dX6_restore_36 : decode cX6_restore 36 = .ok (.iconst 0, 1) := by decide +kernel
theorem dX6_restore_37 : decode cX6_restore 37 = .ok (.ireturn, 1) := by decide +kernel
theorem dX6_restore_38 : decode cX6_restore 38 = .ok (.aload_n 0, 1) := by decide +kernel
theorem dX6_restore_39 : decode cX6_restore 39 = .ok (.invokevirtual 78, 3) := by decide +kernel
theorem dX6_restore_42 : decode cX6_restore 42 = .ok (.iconst 0, 1) := by decide +kernel
theorem dX6_restore_43 : decode cX6_restore 43 = .ok (.istore_n 3, 1) := by decide +kernel
theorem dX6_restore_44 : decode cX6_restore 44 = .ok (.iload_n 3, 1) := by decide +kernel
theorem dX6_restore_45 : decode cX6_restore 45 = .ok (.bipush 70, 2) := by decide +kernel
theorem dX6_restore_47 : decode cX6_restore 47 = .ok (.if_icmp .ge 26, 3) := by decide +kernel
theorem dX6_restore_50 : decode cX6_restore 50 = .ok (.aload_n 0, 1) := by decide +kernel
theorem dX6_restore_51 : decode cX6_restore 51 = .ok (.getfield 7, 3) := by decide +kernel
theorem dX6_restore_54 : decode cX6_restore 54 = .ok (.iload_n 3, 1) := by decide +kernel
theorem dX6_restore_55 : decode cX6_restore 55 = .ok (.aload_n 0, 1) := by decide +kernel
theorem dX6_restore_56 : decode cX6_restore 56 = .ok (.getfield 13, 3) := by decide +kernel
theorem dX6_restore_59 : decode cX6_restore 59 = .ok (.bipush 70, 2) := by decide +kernel
theorem dX6_restore_61 : decode cX6_restore 61 = .ok (.iload_n 1, 1) := by decide +kernel
theorem dX6_restore_62 : decode cX6_restore 62 = .ok (.imul, 1) := by decide +kernel
theorem dX6_restore_63 : decode cX6_restore 63 = .ok (.iload_n 3, 1) := by decide +kernel
theorem dX6_restore_64 : decode cX6_restore 64 = .ok (.iadd, 1) := by decide +kernel
theorem dX6_restore_65 : decode cX6_restore 65 = .ok (.iaload, 1) := by decide +kernel
theorem dX6_restore_66 : decode cX6_restore 66 = .ok (.iastore, 1) := by decide +kernel
theorem dX6_restore_67 : decode cX6_restore 67 = .ok (.iinc 3 1, 3) := by decide +kernel
theorem dX6_restore_70 : decode cX6_restore 70 = .ok (.goto (-26), 3) := by decide +kernel
theorem dX6_restore_73 : decode cX6_restore 73 = .ok (.aload_n 0, 1) := by decide +kernel
theorem dX6_restore_74 : decode cX6_restore 74 = .ok (.invokevirtual 97, 3) := by decide +kernel
theorem dX6_restore_77 : decode cX6_restore 77 = .ok (.ireturn, 1) := by decide +kernel
theorem dJ6_bitCount_0f7a4_0 : decode cJ6_bitCount_0f7a4 0 = .ok (.iload_n 0, 1) := by decide +kernel
theorem dJ6_bitCount_0f7a4_1 : decode cJ6_bitCount_0f7a4 1 = .ok (.iload_n 0, 1) := by decide +kernel
theorem dJ6_bitCount_0f7a4_2 : decode cJ6_bitCount_0f7a4 2 = .ok (.iconst 1, 1) := by decide +kernel
theorem dJ6_bitCount_0f7a4_3 : decode cJ6_bitCount_0f7a4 3 = .ok (.iushr, 1) := by decide +kernel
theorem dJ6_bitCount_0f7a4_4 : decode cJ6_bitCount_0f7a4 4 = .ok (.ldc_w 265, 3) := by decide +kernel
theorem dJ6_bitCount_0f7a4_7 : decode cJ6_bitCount_0f7a4 7 = .ok (.iand, 1) := by decide +kernel
theorem dJ6_bitCount_0f7a4_8 : decode cJ6_bitCount_0f7a4 8 = .ok (.isub, 1) := by decide +kernel
theorem dJ6_bitCount_0f7a4_9 : decode cJ6_bitCount_0f7a4 9 = .ok (.istore_n 0, 1) := by decide +kernel
theorem dJ6_bitCount_0f7a4_10 : decode cJ6_bitCount_0f7a4 10 = .ok (.iload_n 0, 1) := by decide +kernel
theorem dJ6_bitCount_0f7a4_11 : decode cJ6_bitCount_0f7a4 11 = .ok (.ldc_w 266, 3) := by decide +kernel
theorem dJ6_bitCount_0f7a4_14 : decode cJ6_bitCount_0f7a4 14 = .ok (.iand, 1) := by decide +kernel
theorem dJ6_bitCount_0f7a4_15 : decode cJ6_bitCount_0f7a4 15 = .ok (.iload_n 0, 1) := by decide +kernel
theorem dJ6_bitCount_0f7a4_16 : decode cJ6_bitCount_0f7a4 16 = .ok (.iconst 2, 1) := by decide +kernel
theorem dJ6_bitCount_0f7a4_17 : decode cJ6_bitCount_0f7a4 17 = .ok (.iushr, 1) := by decide +kernel
theorem dJ6_bitCount_0f7a4_18 : decode cJ6_bitCount_0f7a4 18 = .ok (.ldc_w 266, 3) := by decide +kernel
theorem dJ6_bitCount_0f7a4_21 : decode cJ6_bitCount_0f7a4 21 = .ok (.iand, 1) := by decide +kernel
theorem dJ6_bitCount_0f7a4_22 : decode cJ6_bitCount_0f7a4 22 = .ok (.iadd, 1) := by decide +kernel
theorem dJ6_bitCount_0f7a4_23 : decode cJ6_bitCount_0f7a4 23 = .ok (.istore_n 0, 1) := by decide +kernel
theorem dJ6_bitCount_0f7a4_24 : decode cJ6_bitCount_0f7a4 24 = .ok (.iload_n 0, 1) := by decide +kernel
theorem dJ6_bitCount_0f7a4_25 : decode cJ6_bitCount_0f7a4 25 = .ok (.iload_n 0, 1) := by decide +kernel
theorem dJ6_bitCount_0f7a4_26 : decode cJ6_bitCount_0f7a4 26 = .ok (.iconst 4, 1) := by decide +kernel
theorem dJ6_bitCount_0f7a4_27 : decode cJ6_bitCount_0f7a4 27 = .ok (.iushr, 1) := by decide +kernel
theorem dJ6_bitCount_0f7a4_28 : decode cJ6_bitCount_0f7a4 28 = .ok (.iadd, 1) := by decide +kernel
theorem dJ6_bitCount_0f7a4_29 : decode cJ6_bitCount_0f7a4 29 = .ok (.ldc_w 267, 3) := by decide +kernel
theorem dJ6_bitCount_0f7a4_32 : decode cJ6_bitCount_0f7a4 32 = .ok (.iand, 1) := by decide +kernel
theorem dJ6_bitCount_0f7a4_33 : decode cJ6_bitCount_0f7a4 33 = .ok (.istore_n 0, 1) := by decide +kernel
theorem dJ6_bitCount_0f7a4_34 : decode cJ6_bitCount_0f7a4 34 = .ok (.iload_n 0, 1) := by decide +kernel
theorem dJ6_bitCount_0f7a4_35 : decode cJ6_bitCount_0f7a4 35 = .ok (.iload_n 0, 1) := by decide +kernel
theorem dJ6_bitCount_0f7a4_36 : decode cJ6_bitCount_0f7a4 36 = .ok (.bipush 8, 2) := by decide +kernel
theorem dJ6_bitCount_0f7a4_38 : decode cJ6_bitCount_0f7a4 38 = .ok (.iushr, 1) := by decide +kernel
theorem dJ6_bitCount_0f7a4_39 : decode cJ6_bitCount_0f7a4 39 = .ok (.iadd, 1) := by decide +kernel
theorem dJ6_bitCount_0f7a4_40 : decode cJ6_bitCount_0f7a4 40 = .ok (.istore_n 0, 1) := by decide +kernel
theorem dJ6_bitCount_0f7a4_41 : decode cJ6_bitCount_0f7a4 41 = .ok (.iload_n 0, 1) := by decide +kernel
theorem dJ6_bitCount_0f7a4_42 : decode cJ6_bitCount_0f7a4 42 = .ok (.iload_n 0, 1) := by decide +kernel
theorem dJ6_bitCount_0f7a4_43 : decode cJ6_bitCount_0f7a4 43 = .ok (.bipush 16, 2) := by decide +kernel
theorem dJ6_bitCount_0f7a4_45 : decode cJ6_bitCount_0f7a4 45 = .ok (.iushr, 1) := by decide +kernel
theorem dJ6_bitCount_0f7a4_46 : decode cJ6_bitCount_0f7a4 46 = .ok (.iadd, 1) := by decide +kernel
theorem dJ6_bitCount_0f7a4_47 : decode cJ6_bitCount_0f7a4 47 = .ok (.istore_n 0, 1) := by decide +kernel
theorem dJ6_bitCount_0f7a4_48 : decode cJ6_bitCount_0f7a4 48 = .ok (.iload_n 0, 1) := by decide +kernel
theorem dJ6_bitCount_0f7a4_49 : decode cJ6_bitCount_0f7a4 49 = .ok (.bipush 63, 2) := by decide +kernel
theorem dJ6_bitCount_0f7a4_51 : decode cJ6_bitCount_0f7a4 51 = .ok (.iand, 1) := by decide +kernel
theorem dJ6_bitCount_0f7a4_52 : decode cJ6_bitCount_0f7a4 52 = .ok (.ireturn, 1) := by decide +kernel
theorem dJ9_max_7cf53_0 : decode cJ9_max_7cf53 0 = .ok (.iload_n 0, 1) := by decide +kernel
theorem dJ9_max_7cf53_1 : decode cJ9_max_7cf53 1 = .ok (.iload_n 1, 1) := by decide +kernel
theorem dJ9_max_7cf53_2 : decode cJ9_max_7cf53 2 = .ok (.if_icmp .lt 7, 3) := by decide +kernel
theorem dJ9_max_7cf53_5 : decode cJ9_max_7cf53 5 = .ok (.iload_n 0, 1) := by decide +kernel
theorem dJ9_max_7cf53_6 : decode cJ9_max_7cf53 6 = .ok (.goto 4, 3) := by decide +kernel
theorem dJ9_max_7cf53_9 : decode cJ9_max_7cf53 9 = .ok (.iload_n 1, 1) := by decide +kernel
theorem dJ9_max_7cf53_10 : decode cJ9_max_7cf53 10 = .ok (.ireturn, 1) := by decide +kernel
theorem dJ9_min_7cf53_0 : decode cJ9_min_7cf53 0 = .ok (.iload_n 0, 1) := by decide +kernel
theorem dJ9_min_7cf53_1 : decode cJ9_min_7cf53 1 = .ok (.iload_n 1, 1) := by decide +kernel
theorem dJ9_min_7cf53_2 : decode cJ9_min_7cf53 2 = .ok (.if_icmp .gt 7, 3) := by decide +kernel
theorem dJ9_min_7cf53_5 : decode cJ9_min_7cf53 5 = .ok (.iload_n 0, 1) := by decide +kernel
theorem dJ9_min_7cf53_6 : decode cJ9_min_7cf53 6 = .ok (.goto 4, 3) := by decide +kernel
theorem dJ9_min_7cf53_9 : decode cJ9_min_7cf53 9 = .ok (.iload_n 1, 1) := by decide +kernel
theorem dJ9_min_7cf53_10 : decode cJ9_min_7cf53 10 = .ok (.ireturn, 1) := by decide +kernel
theorem dJ7_fill_53178_0 : decode cJ7_fill_53178 0 = .ok (.iconst 0, 1) := by decide +kernel
theorem dJ7_fill_53178_1 : decode cJ7_fill_53178 1 = .ok (.istore_n 2, 1) := by decide +kernel
theorem dJ7_fill_53178_2 : decode cJ7_fill_53178 2 = .ok (.aload_n 0, 1) := by decide +kernel
theorem dJ7_fill_53178_3 : decode cJ7_fill_53178 3 = .ok (.arraylength, 1) := by decide +kernel
theorem dJ7_fill_53178_4 : decode cJ7_fill_53178 4 = .ok (.istore_n 3, 1) := by decide +kernel
theorem dJ7_fill_53178_5 : decode cJ7_fill_53178 5 = .ok (.iload_n 2, 1) := by decide +kernel
theorem dJ7_fill_53178_6 : decode cJ7_fill_53178 6 = .ok (.iload_n 3, 1) := by decide +kernel
theorem dJ7_fill_53178_7 : decode cJ7_fill_53178 7 = .ok (.if_icmp .ge 13, 3) := by decide +kernel
theorem dJ7_fill_53178_10 : decode cJ7_fill_53178 10 = .ok (.aload_n 0, 1) := by decide +kernel
theorem dJ7_fill_53178_11 : decode cJ7_fill_53178 11 = .ok (.iload_n 2, 1) := by decide +kernel
theorem dJ7_fill_53178_12 : decode cJ7_fill_53178 12 = .ok (.iload_n 1, 1) := by decide +kernel
theorem dJ7_fill_53178_13 : decode cJ7_fill_53178 13 = .ok (.iastore, 1) := by decide +kernel
theorem dJ7_fill_53178_14 : decode cJ7_fill_53178 14 = .ok (.iinc 2 1, 3) := by decide +kernel
theorem dJ7_fill_53178_17 : decode cJ7_fill_53178 17 = .ok (.goto (-12), 3) := by decide +kernel
theorem dJ7_fill_53178_20 : decode cJ7_fill_53178 20 = .ok (.return_, 1) := by decide +kernel
