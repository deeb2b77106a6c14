set_option maxRecDepth 20000 in
theorem ggX9_takesLifter_X9_takesPlan : GoodIn wsX9_takesLifter wsX9_takesPlan := goodIn_r _ [45, 46, 1, 25, 26, 27, 9, 28, 4, 5, 15, 6, 7, 8, 10, 11, 12, 13, 14, 16, 17, 18, 19, 20, 21, 22, 23, 24, 47, 48, 49, 50, 51, 52, 53, 54, 55, 56, 57, 58, 59, 60, 61, 62, 63, 64, 65, 66, 67, 68, 69, 70, 71, 72, 73, 74, 75, 76, 77, 78, 79, 80, 81, 82, 83, 84, 85, 86] (by decide +kernel) (by decide +kernel)
set_option maxRecDepth 20000 in
theorem gX9_takesLifter_X9_takesPlan : GoodIn wsX9_takesLifter (wsV RX9 224 RX9 yX9_takesPlan wsX9_takesPlan) := goodIn_app (goodIn_of _ (by decide +kernel)) ggX9_takesLifter_X9_takesPlan
theorem dX9_takesLifter_0 : decode cX9_takesLifter 0 = .ok (.aload_n 0, 1) := by decide +kernel
theorem dX9_takesLifter_1 : decode cX9_takesLifter 1 = .ok (.iconst 1, 1) := by decide +kernel
theorem dX9_takesLifter_2 : decode cX9_takesLifter 2 = .ok (.sipush 200, 3) := by decide +kernel
theorem dX9_takesLifter_5 : decode cX9_takesLifter 5 = .ok (.invokevirtual 206, 3) := by decide +kernel
theorem dX9_takesLifter_8 : decode cX9_takesLifter 8 = .ok (.ifCond .ne 5, 3) := by decide +kernel
theorem dX9_takesLifter_11 : decode cX9_takesLifter 11 = .ok (.iconst 0, 1) := by decide +kernel
theorem dX9_takesLifter_12 : decode cX9_takesLifter 12 = .ok (.ireturn, 1) := by decide +kernel
theorem dX9_takesLifter_13 : decode cX9_takesLifter 13 = .ok (.aload_n 0, 1) := by decide +kernel
theorem dX9_takesLifter_14 : decode cX9_takesLifter 14 = .ok (.aload_n 0, 1) := by decide +kernel
theorem dX9_takesLifter_15 : decode cX9_takesLifter 15 = .ok (.getfield 200, 3) := by decide +kernel
theorem dX9_takesLifter_18 : decode cX9_takesLifter 18 = .ok (.putfield 212, 3) := by decide +kernel
theorem dX9_takesLifter_21 : decode cX9_takesLifter 21 = .ok (.aload_n 0, 1) := by decide +kernel
theorem dX9_takesLifter_22 : decode cX9_takesLifter 22 = .ok (.bipush 44, 2) := by decide +kernel
theorem dX9_takesLifter_24 : decode cX9_takesLifter 24 = .ok (.invokevirtual 209, 3) := by decide +kernel
theorem dX9_takesLifter_27 : decode cX9_takesLifter 27 = .ok (.ifCond .eq 10, 3) := by decide +kernel
theorem dX9_takesLifter_30 : decode cX9_takesLifter 30 = .ok (.aload_n 0, 1) := by decide +kernel
theorem dX9_takesLifter_31 : decode cX9_takesLifter 31 = .ok (.invokevirtual 215, 3) := by decide +kernel
theorem dX9_takesLifter_34 : decode cX9_takesLifter 34 = .ok (.ifCond .ne 5, 3) := by decide +kernel
theorem dX9_takesLifter_37 : decode cX9_takesLifter 37 = .ok (.iconst 0, 1) := by decide +kernel
theorem dX9_takesLifter_38 : decode cX9_takesLifter 38 = .ok (.ireturn, 1) := by decide +kernel
theorem dX9_takesLifter_39 : decode cX9_takesLifter 39 = .ok (.aload_n 0, 1) := by decide +kernel
theorem dX9_takesLifter_40 : decode cX9_takesLifter 40 = .ok (.aload_n 0, 1) := by decide +kernel
theorem dX9_takesLifter_41 : decode cX9_takesLifter 41 = .ok (.getfield 200, 3) := by decide +kernel
theorem dX9_takesLifter_44 : decode cX9_takesLifter 44 = .ok (.putfield 218, 3) := by decide +kernel
theorem dX9_takesLifter_47 : decode cX9_takesLifter 47 = .ok (.iconst 0, 1) := by decide +kernel
theorem dX9_takesLifter_48 : decode cX9_takesLifter 48 = .ok (.istore_n 1, 1) := by decide +kernel
theorem dX9_takesLifter_49 : decode cX9_takesLifter 49 = .ok (.iload_n 1, 1) := by decide +kernel
theorem dX9_takesLifter_50 : decode cX9_takesLifter 50 = .ok (.iconst 3, 1) := by decide +kernel
theorem dX9_takesLifter_51 : decode cX9_takesLifter 51 = .ok (.if_icmp .ge 36, 3) := by decide +kernel
theorem dX9_takesLifter_54 : decode cX9_takesLifter 54 = .ok (.aload_n 0, 1) := by decide +kernel
theorem dX9_takesLifter_55 : decode cX9_takesLifter 55 = .ok (.bipush 59, 2) := by decide +kernel
theorem dX9_takesLifter_57 : decode cX9_takesLifter 57 = .ok (.invokevirtual 209, 3) := by decide +kernel
theorem dX9_takesLifter_60 : decode cX9_takesLifter 60 = .ok (.ifCond .eq 19, 3) := by decide +kernel
theorem dX9_takesLifter_63 : decode cX9_takesLifter 63 = .ok (.aload_n 0, 1) := by decide +kernel
theorem dX9_takesLifter_64 : decode cX9_takesLifter 64 = .ok (.iload_n 1, 1) := by decide +kernel
theorem dX9_takesLifter_65 : decode cX9_takesLifter 65 = .ok (.invokevirtual 221, 3) := by decide +kernel
theorem dX9_takesLifter_68 : decode cX9_takesLifter 68 = .ok (.ifCond .eq 11, 3) := by decide +kernel
theorem dX9_takesLifter_71 : decode cX9_takesLifter 71 = .ok (.aload_n 0, 1) := by decide +kernel
theorem dX9_takesLifter_72 : decode cX9_takesLifter 72 = .ok (.iload_n 1, 1) := by decide +kernel
theorem dX9_takesLifter_73 : decode cX9_takesLifter 73 = .ok (.invokevirtual 224, 3) := by decide +kernel
theorem dX9_takesLifter_76 : decode cX9_takesLifter 76 = .ok (.ifCond .ne 5, 3) := by decide +kernel
theorem dX9_takesLifter_79 : decode cX9_takesLifter 79 = .ok (.iconst 0, 1) := by decide +kernel
theorem dX9_takesLifter_80 : decode cX9_takesLifter 80 = .ok (.ireturn, 1) := by decide +kernel
theorem dX9_takesLifter_81 : decode cX9_takesLifter 81 = .ok (.iinc 1 1, 3) := by decide +kernel
theorem dX9_takesLifter_84 : decode cX9_takesLifter 84 = .ok (.goto (-35), 3) := by decide +kernel
theorem dX9_takesLifter_87 : decode cX9_takesLifter 87 = .ok (.aload_n 0, 1) := by decide +kernel
theorem dX9_takesLifter_88 : decode cX9_takesLifter 88 = .ok (.getfield 187, 3) := by decide +kernel
theorem dX9_takesLifter_91 : decode cX9_takesLifter 91 = .ok (.aload_n 0, 1) := by decide +kernel
theorem dX9_takesLifter_92 : decode cX9_takesLifter 92 = .ok (.getfield 190, 3) := by decide +kernel
theorem dX9_takesLifter_95 : decode cX9_takesLifter 95 = .ok (.if_icmp .ne 7, 3) := by decide +kernel
theorem dX9_takesLifter_98 : decode cX9_takesLifter 98 = .ok (.iconst 1, 1) := by decide +kernel
theorem dX9_takesLifter_99 : decode cX9_takesLifter 99 = .ok (.goto 4, 3) := by decide +kernel
theorem dX9_takesLifter_102 : decode cX9_takesLifter 102 = .ok (.iconst 0, 1) := by decide +kernel
theorem dX9_takesLifter_103 : decode cX9_takesLifter 103 = .ok (.ireturn, 1) := by decide +kernel
set_option maxRecDepth 20000 in
theorem ggX9_enters_X9_takesLifter : GoodIn wsX9_enters wsX9_takesLifter := goodIn_r _ [22, 23, 7, 9, 4, 3, 24, 25, 26, 21, 27, 28, 29, 30, 31, 32, 33, 34, 35, 36, 37, 38, 39, 40, 41, 42, 43, 44, 45, 46, 47, 48, 49, 5, 8, 50, 51, 52, 53, 13, 15, 11, 54, 55, 56, 57, 17, 97, 98, 99, 100, 101, 102, 103, 104, 105, 106, 107, 108, 109, 110, 111, 112, 113, 114, 115, 116, 117, 118, 119, 120, 121, 122, 123, 124, 125, 126, 127, 128, 129, 130, 131, 132, 133, 134, 135, 136] (by decide +kernel) (by decide +kernel)
set_option maxRecDepth 20000 in
theorem gX9_enters_X9_takesLifter : GoodIn wsX9_enters (wsV RX9 227 RX9 yX9_takesLifter wsX9_takesLifter) := goodIn_app (goodIn_of _ (by decide +kernel)) ggX9_enters_X9_takesLifter
set_option maxRecDepth 20000 in
theorem ggX9_enters_X9_meetBegins : GoodIn wsX9_enters wsX9_meetBegins := goodIn_r _ [61, 62, 63, 64, 65, 66, 67, 21, 68, 5, 69, 70, 71, 72, 73, 74, 75, 76, 77, 78, 79, 80, 81, 82, 83, 84, 16, 85, 86, 87, 88, 89, 90, 91, 92, 93, 94, 95, 96, 97, 98, 99, 100, 101, 102, 103, 104, 105, 106, 107, 108, 109, 110, 111, 112, 113, 114, 115, 116, 117, 118, 119, 120, 121, 122, 123, 124, 125, 126, 127, 128, 129, 130, 131, 132, 133, 134, 135, 136] (by decide +kernel) (by decide +kernel)
set_option maxRecDepth 20000 in
theorem gX9_enters_X9_meetBegins : GoodIn wsX9_enters (wsV RX9 230 RX9 yX9_meetBegins wsX9_meetBegins) := goodIn_app (goodIn_of _ (by decide +kernel)) ggX9_enters_X9_meetBegins
theorem dX9_enters_0 : decode cX9_enters 0 = .ok (.aload_n 0, 1) := by decide +kernel
theorem dX9_enters_1 : decode cX9_enters 1 = .ok (.iconst 0, 1) := by decide +kernel
theorem dX9_enters_2 : decode cX9_enters 2 = .ok (.putfield 77, 3) := by decide +kernel
theorem dX9_enters_5 : decode cX9_enters 5 = .ok (.aload_n 0, 1) := by decide +kernel
theorem dX9_enters_6 : decode cX9_enters 6 = .ok (.aload_n 0, 1) := by decide +kernel
theorem dX9_enters_7 : decode cX9_enters 7 = .ok (.getfield 184, 3) := by decide +kernel
theorem dX9_enters_10 : decode cX9_enters 10 = .ok (.putfield 190, 3) := by decide +kernel
theorem dX9_enters_13 : decode cX9_enters 13 = .ok (.aload_n 0, 1) := by decide +kernel
theorem dX9_enters_14 : decode cX9_enters 14 = .ok (.iconst 0, 1) := by decide +kernel
theorem dX9_enters_15 : decode cX9_enters 15 = .ok (.putfield 184, 3) := by decide +kernel
theorem dX9_enters_18 : decode cX9_enters 18 = .ok (.aload_n 0, 1) := by decide +kernel
theorem dX9_enters_19 : decode cX9_enters 19 = .ok (.iconst 0, 1) := by decide +kernel
theorem dX9_enters_20 : decode cX9_enters 20 = .ok (.putfield 187, 3) := by decide +kernel
theorem dX9_enters_23 : decode cX9_enters 23 = .ok (.aload_n 0, 1) := by decide +kernel
theorem dX9_enters_24 : decode cX9_enters 24 = .ok (.invokevirtual 227, 3) := by decide +kernel
theorem dX9_enters_27 : decode cX9_enters 27 = .ok (.ifCond .ne 11, 3) := by decide +kernel
theorem dX9_enters_30 : decode cX9_enters 30 = .ok (.bipush (-21), 2) := by decide +kernel
theorem dX9_enters_32 : decode cX9_enters 32 = .ok (.aload_n 0, 1) := by decide +kernel
theorem dX9_enters_33 : decode cX9_enters 33 = .ok (.getfield 187, 3) := by decide +kernel
theorem dX9_enters_36 : decode cX9_enters 36 = .ok (.isub, 1) := by decide +kernel
theorem dX9_enters_37 : decode cX9_enters 37 = .ok (.ireturn, 1) := by decide +kernel
theorem dX9_enters_38 : decode cX9_enters 38 = .ok (.aload_n 0, 1) := by decide +kernel
theorem dX9_enters_39 : decode cX9_enters 39 = .ok (.getfield 84, 3) := by decide +kernel
theorem dX9_enters_42 : decode cX9_enters 42 = .ok (.bipush 6, 2) := by decide +kernel
theorem dX9_enters_44 : decode cX9_enters 44 = .ok (.if_icmp .ne 6, 3) := by decide +kernel
theorem dX9_enters_47 : decode cX9_enters 47 = .ok (.bipush (-2), 2) := by decide +kernel
theorem dX9_enters_49 : decode cX9_enters 49 = .ok (.ireturn, 1) := by decide +kernel
theorem dX9_enters_50 : decode cX9_enters 50 = .ok (.aload_n 0, 1) := by decide +kernel
theorem dX9_enters_51 : decode cX9_enters 51 = .ok (.getfield 13, 3) := by decide +kernel
theorem dX9_enters_54 : decode cX9_enters 54 = .ok (.aload_n 0, 1) := by decide +kernel
theorem dX9_enters_55 : decode cX9_enters 55 = .ok (.getfield 84, 3) := by decide +kernel
theorem dX9_enters_58 : decode cX9_enters 58 = .ok (.aload_n 0, 1) := by decide +kernel
theorem dX9_enters_59 : decode cX9_enters 59 = .ok (.getfield 212, 3) := by decide +kernel
theorem dX9_enters_62 : decode cX9_enters 62 = .ok (.iastore, 1) := by decide +kernel
theorem dX9_enters_63 : decode cX9_enters 63 = .ok (.aload_n 0, 1) := by decide +kernel
theorem dX9_enters_64 : decode cX9_enters 64 = .ok (.getfield 17, 3) := by decide +kernel
theorem dX9_enters_67 : decode cX9_enters 67 = .ok (.aload_n 0, 1) := by decide +kernel
theorem dX9_enters_68 : decode cX9_enters 68 = .ok (.getfield 84, 3) := by decide +kernel
theorem dX9_enters_71 : decode cX9_enters 71 = .ok (.aload_n 0, 1) := by decide +kernel
theorem dX9_enters_72 : decode cX9_enters 72 = .ok (.getfield 218, 3) := by decide +kernel
theorem dX9_enters_75 : decode cX9_enters 75 = .ok (.iastore, 1) := by decide +kernel
theorem dX9_enters_76 : decode cX9_enters 76 = .ok (.iconst 0, 1) := by decide +kernel
theorem dX9_enters_77 : decode cX9_enters 77 = .ok (.istore_n 1, 1) := by decide +kernel
theorem dX9_enters_78 : decode cX9_enters 78 = .ok (.iload_n 1, 1) := by decide +kernel
theorem dX9_enters_79 : decode cX9_enters 79 = .ok (.iconst 3, 1) := by decide +kernel
theorem dX9_enters_80 : decode cX9_enters 80 = .ok (.if_icmp .ge 140, 3) := by decide +kernel
theorem dX9_enters_83 : decode cX9_enters 83 = .ok (.aload_n 0, 1) := by decide +kernel
theorem dX9_enters_84 : decode cX9_enters 84 = .ok (.getfield 20, 3) := by decide +kernel
theorem dX9_enters_87 : decode cX9_enters 87 = .ok (.iconst 3, 1) := by decide +kernel
theorem dX9_enters_88 : decode cX9_enters 88 = .ok (.aload_n 0, 1) := by decide +kernel
theorem dX9_enters_89 : decode cX9_enters 89 = .ok (.getfield 84, 3) := by decide +kernel
theorem dX9_enters_92 : decode cX9_enters 92 = .ok (.imul, 1) := by decide +kernel
theorem dX9_enters_93 : decode cX9_enters 93 = .ok (.iload_n 1, 1) := by decide +kernel
theorem dX9_enters_94 : decode cX9_enters 94 = .ok (.iadd, 1) := by decide +kernel
theorem dX9_enters_95 : decode cX9_enters 95 = .ok (.aload_n 0, 1) := by decide +kernel
theorem dX9_enters_96 : decode cX9_enters 96 = .ok (.getfield 44, 3) := by decide +kernel
theorem dX9_enters_99 : decode cX9_enters 99 = .ok (.iload_n 1, 1) := by decide +kernel
theorem dX9_enters_100 : decode cX9_enters 100 = .ok (.iaload, 1) := by decide +kernel
theorem dX9_enters_101 : decode cX9_enters 101 = .ok (.iastore, 1) := by decide +kernel
theorem dX9_enters_102 : decode cX9_enters 102 = .ok (.iconst 0, 1) := by decide +kernel
theorem dX9_enters_103 : decode cX9_enters 103 = .ok (.istore_n 2, 1) := by decide +kernel
theorem dX9_enters_104 : decode cX9_enters 104 = .ok (.iload_n 2, 1) := by decide +kernel
theorem dX9_enters_105 : decode cX9_enters 105 = .ok (.bipush 6, 2) := by decide +kernel
theorem dX9_enters_107 : decode cX9_enters 107 = .ok (.if_icmp .ge 67, 3) := by decide +kernel
theorem dX9_enters_110 : decode cX9_enters 110 = .ok (.aload_n 0, 1) := by decide +kernel
theorem dX9_enters_111 : decode cX9_enters 111 = .ok (.getfield 23, 3) := by decide +kernel
theorem dX9_enters_114 : decode cX9_enters 114 = .ok (.bipush 6, 2) := by decide +kernel
theorem dX9_enters_116 : decode cX9_enters 116 = .ok (.iconst 3, 1) := by decide +kernel
theorem dX9_enters_117 : decode cX9_enters 117 = .ok (.aload_n 0, 1) := by decide +kernel
theorem dX9_enters_118 : decode cX9_enters 118 = .ok (.getfield 84, 3) := by decide +kernel
theorem dX9_enters_121 : decode cX9_enters 121 = .ok (.imul, 1) := by decide +kernel
theorem dX9_enters_122 : decode cX9_enters 122 = .ok (.iload_n 1, 1) := by decide +kernel
theorem dX9_enters_123 : decode cX9_enters 123 = .ok (.iadd, 1) := by decide +kernel
theorem dX9_enters_124 : decode cX9_enters 124 = .ok (.imul, 1) := by decide +kernel
theorem dX9_enters_125 : decode cX9_enters 125 = .ok (.iload_n 2, 1) := by decide +kernel
theorem dX9_enters_126 : decode cX9_enters 126 = .ok (.iadd, 1) := by decide +kernel
theorem dX9_enters_127 : decode cX9_enters 127 = .ok (.aload_n 0, 1) := by decide +kernel
theorem dX9_enters_128 : decode cX9_enters 128 = .ok (.getfield 47, 3) := by decide +kernel
theorem dX9_enters_131 : decode cX9_enters 131 = .ok (.bipush 6, 2) := by decide +kernel
theorem dX9_enters_133 : decode cX9_enters 133 = .ok (.iload_n 1, 1) := by decide +kernel
theorem dX9_enters_134 : decode cX9_enters 134 = .ok (.imul, 1) := by decide +kernel
theorem dX9_enters_135 : decode cX9_enters 135 = .ok (.iload_n 2, 1) := by decide +kernel
theorem dX9_enters_136 : decode cX9_enters 136 = .ok (.iadd, 1) := by decide +kernel
theorem dX9_enters_137 : decode cX9_enters 137 = .ok (.iaload, 1) := by decide +kernel
theorem dX9_enters_138 : decode cX9_enters 138 = .ok (.iastore, 1) := by decide +kernel
theorem dX9_enters_139 : decode cX9_enters 139 = .ok (.aload_n 0, 1) := by decide +kernel
theorem dX9_enters_140 : decode cX9_enters 140 = .ok (.getfield 26, 3) := by decide +kernel
theorem dX9_enters_143 : decode cX9_enters 143 = .ok (.bipush 6, 2) := by decide +kernel
theorem dX9_enters_145 : decode cX9_enters 145 = .ok (.iconst 3, 1) := by decide +kernel
theorem dX9_enters_146 : decode cX9_enters 146 = .ok (.aload_n 0, 1) := by decide +kernel
theorem dX9_enters_147 : decode cX9_enters 147 = .ok (.getfield 84, 3) := by decide +kernel
theorem dX9_enters_150 : decode cX9_enters 150 = .ok (.imul, 1) := by decide +kernel
theorem dX9_enters_151 : decode cX9_enters 151 = .ok (.iload_n 1, 1) := by decide +kernel
theorem dX9_enters_152 : decode cX9_enters 152 = .ok (.iadd, 1) := by decide +kernel
theorem dX9_enters_153 : decode cX9_enters 153 = .ok (.imul, 1) := by decide +kernel
theorem dX9_enters_154 : decode cX9_enters 154 = .ok (.iload_n 2, 1) := by decide +kernel
theorem dX9_enters_155 : decode cX9_enters 155 = .ok (.iadd, 1) := by decide +kernel
theorem dX9_enters_156 : decode cX9_enters 156 = .ok (.aload_n 0, 1) := by decide +kernel
theorem dX9_enters_157 : decode cX9_enters 157 = .ok (.getfield 50, 3) := by decide +kernel
theorem dX9_enters_160 : decode cX9_enters 160 = .ok (.bipush 6, 2) := by decide +kernel
theorem dX9_enters_162 : decode cX9_enters 162 = .ok (.iload_n 1, 1) := by decide +kernel
theorem dX9_enters_163 : decode cX9_enters 163 = .ok (.imul, 1) := by decide +kernel
theorem dX9_enters_164 : decode cX9_enters 164 = .ok (.iload_n 2, 1) := by decide +kernel
theorem dX9_enters_165 : decode cX9_enters 165 = .ok (.iadd, 1) := by decide +kernel
theorem dX9_enters_166 : decode cX9_enters 166 = .ok (.iaload, 1) := by decide +kernel
theorem dX9_enters_167 : decode cX9_enters 167 = .ok (.iastore, 1) := by decide +kernel
theorem dX9_enters_168 : decode cX9_enters 168 = .ok (.iinc 2 1, 3) := by decide +kernel
theorem dX9_enters_171 : decode cX9_enters 171 = .ok (.goto (-67), 3) := by decide +kernel
theorem dX9_enters_174 : decode cX9_enters 174 = .ok (.iconst 0, 1) := by decide +kernel
theorem dX9_enters_175 : decode cX9_enters 175 = .ok (.istore_n 2, 1) := by decide +kernel
theorem dX9_enters_176 : decode cX9_enters 176 = .ok (.iload_n 2, 1) := by decide +kernel
theorem dX9_enters_177 : decode cX9_enters 177 = .ok (.iconst 3, 1) := by decide +kernel
theorem dX9_enters_178 : decode cX9_enters 178 = .ok (.if_icmp .ge 36, 3) := by decide +kernel
theorem dX9_enters_181 : decode cX9_enters 181 = .ok (.aload_n 0, 1) := by decide +kernel
theorem dX9_enters_182 : decode cX9_enters 182 = .ok (.getfield 29, 3) := by decide +kernel
theorem dX9_enters_185 : decode cX9_enters 185 = .ok (.iconst 3, 1) := by decide +kernel
theorem dX9_enters_186 : decode cX9_enters 186 = .ok (.iconst 3, 1) := by decide +kernel
theorem dX9_enters_187 : decode cX9_enters 187 = .ok (.aload_n 0, 1) := by decide +kernel
theorem dX9_enters_188 : decode cX9_enters 188 = .ok (.getfield 84, 3) := by decide +kernel
theorem dX9_enters_191 : decode cX9_enters 191 = .ok (.imul, 1) := by decide +kernel
theorem dX9_enters_192 : decode cX9_enters 192 = .ok (.iload_n 1, 1) := by decide +kernel
theorem dX9_enters_193 : decode cX9_enters 193 = .ok (.iadd, 1) := by decide +kernel
theorem dX9_enters_194 : decode cX9_enters 194 = .ok (.imul, 1) := by decide +kernel
theorem dX9_enters_195 : decode cX9_enters 195 = .ok (.iload_n 2, 1) := by decide +kernel
theorem dX9_enters_196 : decode cX9_enters 196 = .ok (.iadd, 1) := by decide +kernel
theorem dX9_enters_197 : decode cX9_enters 197 = .ok (.aload_n 0, 1) := by decide +kernel
theorem dX9_enters_198 : decode cX9_enters 198 = .ok (.getfield 53, 3) := by decide +kernel
theorem dX9_enters_201 : decode cX9_enters 201 = .ok (.iconst 3, 1) := by decide +kernel
theorem dX9_enters_202 : decode cX9_enters 202 = .ok (.iload_n 1, 1) := by decide +kernel
theorem dX9_enters_203 : decode cX9_enters 203 = .ok (.imul, 1) := by decide +kernel
theorem dX9_enters_204 : decode cX9_enters 204 = .ok (.iload_n 2, 1) := by decide +kernel
theorem dX9_enters_205 : decode cX9_enters 205 = .ok (.iadd, 1) := by decide +kernel
theorem dX9_enters_206 : decode cX9_enters 206 = .ok (.iaload, 1) := by decide +kernel
theorem dX9_enters_207 : decode cX9_enters 207 = .ok (.iastore, 1) := by decide +kernel
theorem dX9_enters_208 : decode cX9_enters 208 = .ok (.iinc 2 1, 3) := by decide +kernel
theorem dX9_enters_211 : decode cX9_enters 211 = .ok (.goto (-35), 3) := by decide +kernel
theorem dX9_enters_214 : decode cX9_enters 214 = .ok (.iinc 1 1, 3) := by decide +kernel
theorem dX9_enters_217 : decode cX9_enters 217 = .ok (.goto (-139), 3) := by decide +kernel
theorem dX9_enters_220 : decode cX9_enters 220 = .ok (.aload_n 0, 1) := by decide +kernel
theorem dX9_enters_221 : decode cX9_enters 221 = .ok (.dup, 1) := by decide +kernel
theorem dX9_enters_222 : decode cX9_enters 222 = .ok (.getfield 84, 3) := by decide +kernel
theorem dX9_enters_225 : decode cX9_enters 225 = .ok (.iconst 1, 1) := by decide +kernel
theorem dX9_enters_226 : decode cX9_enters 226 = .ok (.iadd, 1) := by decide +kernel
theorem dX9_enters_227 : decode cX9_enters 227 = .ok (.putfield 84, 3) := by decide +kernel
theorem dX9_enters_230 : decode cX9_enters 230 = .ok (.aload_n 0, 1) := by decide +kernel
theorem dX9_enters_231 : decode cX9_enters 231 = .ok (.invokevirtual 230, 3) := by decide +kernel
theorem dX9_enters_234 : decode cX9_enters 234 = .ok (.aload_n 0, 1) := by decide +kernel
theorem dX9_enters_235 : decode cX9_enters 235 = .ok (.getfield 84, 3) := by decide +kernel
theorem dX9_enters_238 : decode cX9_enters 238 = .ok (.iconst 1, 1) := by decide +kernel
theorem dX9_enters_239 : decode cX9_enters 239 = .ok (.isub, 1) := by decide +kernel
theorem dX9_enters_240 : decode cX9_enters 240 = .ok (.ireturn, 1) := by decide +kernel
set_option maxRecDepth 20000 in
theorem ggX9_leaves_X9_meetBegins : GoodIn wsX9_leaves wsX9_meetBegins := goodIn_r _ [7, 8, 9, 10, 11, 12, 13, 6, 14, 2, 15, 16, 17, 18, 19, 20, 21, 22, 23, 24, 25, 26, 27, 28, 29, 30, 31, 32, 33, 34, 35, 36, 37, 38, 39, 40, 41, 42, 43, 44, 45, 46, 47, 48, 49, 50, 51, 52, 53, 54, 55, 56, 57, 58, 59, 60, 61, 62, 63, 64, 65, 66, 67, 68, 69, 70, 71, 72, 73, 74, 75, 76, 77, 78, 79, 80, 81, 82, 83] (by decide +kernel) (by decide +kernel)
set_option maxRecDepth 20000 in
theorem gX9_leaves_X9_meetBegins : GoodIn wsX9_leaves (wsV RX9 230 RX9 yX9_meetBegins wsX9_meetBegins) := goodIn_app (goodIn_of _ (by decide +kernel)) ggX9_leaves_X9_meetBegins
theorem dX9_leaves_0 : decode cX9_leaves 0 = .ok (.aload_n 0, 1) := by decide +kernel
theorem dX9_leaves_1 : decode cX9_leaves 1 = .ok (.iconst 0, 1) := by decide +kernel
theorem dX9_leaves_2 : decode cX9_leaves 2 = .ok (.putfield 77, 3) := by decide +kernel
theorem dX9_leaves_5 : decode cX9_leaves 5 = .ok (.aload_n 0, 1) := by decide +kernel
theorem dX9_leaves_6 : decode cX9_leaves 6 = .ok (.getfield 84, 3) := by decide +kernel
theorem dX9_leaves_9 : decode cX9_leaves 9 = .ok (.ifCond .ne 6, 3) := by decide +kernel
theorem dX9_leaves_12 : decode cX9_leaves 12 = .ok (.bipush (-2), 2) := by decide +kernel
theorem dX9_leaves_14 : decode cX9_leaves 14 = .ok (.ireturn, 1) := by decide +kernel
theorem dX9_leaves_15 : decode cX9_leaves 15 = .ok (.aload_n 0, 1) := by decide +kernel
theorem dX9_leaves_16 : decode cX9_leaves 16 = .ok (.dup, 1) := by decide +kernel
theorem dX9_leaves_17 : decode cX9_leaves 17 = .ok (.getfield 84, 3) := by decide +kernel
theorem dX9_leaves_20 : decode cX9_leaves 20 = .ok (.iconst 1, 1) := by decide +kernel
theorem dX9_leaves_21 : decode cX9_leaves 21 = .ok (.isub, 1) := by decide +kernel
theorem dX9_leaves_22 : decode cX9_leaves 22 = .ok (.putfield 84, 3) := by decide +kernel
theorem dX9_leaves_25 : decode cX9_leaves 25 = .ok (.aload_n 0, 1) := by decide +kernel
theorem dX9_leaves_26 : decode cX9_leaves 26 = .ok (.invokevirtual 230, 3) := by decide +kernel
theorem dX9_leaves_29 : decode cX9_leaves 29 = .ok (.aload_n 0, 1) := by decide +kernel
theorem dX9_leaves_30 : decode cX9_leaves 30 = .ok (.getfield 84, 3) := by decide +kernel
theorem dX9_leaves_33 : decode cX9_leaves 33 = .ok (.ireturn, 1) := by decide +kernel
set_option maxRecDepth 20000 in
theorem ggX9_plans_X9_isLifter : GoodIn wsX9_plans wsX9_isLifter := goodIn_r _ [10, 11, 12, 13, 9, 14, 57, 58, 59, 60, 61, 62, 63, 64, 65, 66, 67, 68, 69, 70, 71, 72, 73, 74, 75, 76, 77, 78, 79, 80, 81, 82, 83, 84, 85, 86, 87, 88, 89, 90, 91, 92, 93, 94, 95, 96] (by decide +kernel) (by decide +kernel)
set_option maxRecDepth 20000 in
theorem gX9_plans_X9_isLifter : GoodIn wsX9_plans (wsV RX9 233 RX9 yX9_isLifter wsX9_isLifter) := goodIn_app (goodIn_of _ (by decide +kernel)) ggX9_plans_X9_isLifter
set_option maxRecDepth 20000 in
theorem ggX9_plans_X9_isLift : GoodIn wsX9_plans wsX9_isLift := goodIn_r _ [17, 2, 12, 13, 9, 14] (by decide +kernel) (by decide +kernel)
set_option maxRecDepth 20000 in
theorem gX9_plans_X9_isLift : GoodIn wsX9_plans (va_wsS RX9 236 yX9_isLift wsX9_isLift) := goodIn_app (goodIn_of _ (by decide +kernel)) ggX9_plans_X9_isLift
set_option maxRecDepth 20000 in
theorem ggX9_plans_X9_in : GoodIn wsX9_plans wsX9_in := goodIn_r _ [14] (by decide +kernel) (by decide +kernel)
set_option maxRecDepth 20000 in
theorem gX9_plans_X9_in : GoodIn wsX9_plans (va_wsS RX9 87 yX9_in wsX9_in) := goodIn_app (goodIn_of _ (by decide +kernel)) ggX9_plans_X9_in
set_option maxRecDepth 20000 in
theorem ggX9_plans_X9_planOf : GoodIn wsX9_plans wsX9_planOf := goodIn_r _ [21, 5, 57, 58, 59, 60, 61, 62, 63, 64, 65, 66, 67, 68, 69, 70, 71, 72, 73, 74, 75, 76, 77, 78, 79, 80, 81, 82, 83, 84, 85, 86, 87, 88, 89, 90, 91, 92, 93, 94, 95, 96] (by decide +kernel) (by decide +kernel)
set_option maxRecDepth 20000 in
theorem gX9_plans_X9_planOf : GoodIn wsX9_plans (wsV RX9 125 RX9 yX9_planOf wsX9_planOf) := goodIn_app (goodIn_of _ (by decide +kernel)) ggX9_plans_X9_planOf
set_option maxRecDepth 20000 in
theorem ggX9_plans_X9_meetBegins : GoodIn wsX9_plans wsX9_meetBegins := goodIn_r _ [25, 26, 27, 28, 29, 30, 31, 9, 32, 11, 33, 34, 35, 36, 37, 38, 39, 40, 41, 42, 43, 44, 18, 19, 20, 21, 5, 45, 46, 47, 48, 49, 50, 51, 52, 53, 54, 55, 56, 57, 58, 59, 60, 61, 62, 63, 64, 65, 66, 67, 68, 69, 70, 71, 72, 73, 74, 75, 76, 77, 78, 79, 80, 81, 82, 83, 84, 85, 86, 87, 88, 89, 90, 91, 92, 93, 94, 95, 96] (by decide +kernel) (by decide +kernel)
set_option maxRecDepth 20000 in
theorem gX9_plans_X9_meetBegins : GoodIn wsX9_plans (wsV RX9 230 RX9 yX9_meetBegins wsX9_meetBegins) := goodIn_app (goodIn_of _ (by decide +kernel)) ggX9_plans_X9_meetBegins
theorem dX9_plans_0 : decode cX9_plans 0 = .ok (.aload_n 0, 1) := by decide +kernel
theorem dX9_plans_1 : decode cX9_plans 1 = .ok (.iconst 0, 1) := by decide +kernel
theorem dX9_plans_2 : decode cX9_plans 2 = .ok (.putfield 77, 3) := by decide +kernel
theorem dX9_plans_5 : decode cX9_plans 5 = .ok (.aload_n 0, 1) := by decide +kernel
theorem dX9_plans_6 : decode cX9_plans 6 = .ok (.iload_n 1, 1) := by decide +kernel
theorem dX9_plans_7 : decode cX9_plans 7 = .ok (.invokevirtual 233, 3) := by decide +kernel
theorem dX9_plans_10 : decode cX9_plans 10 = .ok (.ifCond .eq 54, 3) := by decide +kernel
theorem dX9_plans_13 : decode cX9_plans 13 = .ok (.iload_n 2, 1) := by decide +kernel
theorem dX9_plans_14 : decode cX9_plans 14 = .ok (.invokestatic 236, 3) := by decide +kernel
theorem dX9_plans_17 : decode cX9_plans 17 = .ok (.ifCond .eq 47, 3) := by decide +kernel
theorem dX9_plans_20 : decode cX9_plans 20 = .ok (.iload_n 3, 1) := by decide +kernel
theorem dX9_plans_21 : decode cX9_plans 21 = .ok (.i2l, 1) := by decide +kernel
theorem dX9_plans_22 : decode cX9_plans 22 = .ok (.lconst 0, 1) := by decide +kernel
theorem dX9_plans_23 : decode cX9_plans 23 = .ok (.ldc2_w 91, 3) := by decide +kernel
theorem dX9_plans_26 : decode cX9_plans 26 = .ok (.invokestatic 87, 3) := by decide +kernel
theorem dX9_plans_29 : decode cX9_plans 29 = .ok (.ifCond .eq 35, 3) := by decide +kernel
