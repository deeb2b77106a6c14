set_option maxRecDepth 20000 in
theorem gX8_fight_X1_valueAt : GoodIn wsX8_fight (wsV RX8 315 RX1 yX1_valueAt wsX1_valueAt) := goodIn_app (goodIn_of _ (by decide +kernel)) ggX8_fight_X1_valueAt
theorem dX8_fight_0 : decode cX8_fight 0 = .ok (.aload_n 0, 1) := by decide +kernel
theorem dX8_fight_1 : decode cX8_fight 1 = .ok (.getfield 28, 3) := by decide +kernel
theorem dX8_fight_4 : decode cX8_fight 4 = .ok (.getfield 260, 3) := by decide +kernel
theorem dX8_fight_7 : decode cX8_fight 7 = .ok (.iconst 2, 1) := by decide +kernel
theorem dX8_fight_8 : decode cX8_fight 8 = .ok (.if_icmp .ne 14, 3) := by decide +kernel
theorem dX8_fight_11 : decode cX8_fight 11 = .ok (.aload_n 0, 1) := by decide +kernel
theorem dX8_fight_12 : decode cX8_fight 12 = .ok (.getfield 28, 3) := by decide +kernel
theorem dX8_fight_15 : decode cX8_fight 15 = .ok (.getfield 263, 3) := by decide +kernel
theorem dX8_fight_18 : decode cX8_fight 18 = .ok (.iconst 2, 1) := by decide +kernel
theorem dX8_fight_19 : decode cX8_fight 19 = .ok (.if_icmp .eq 6, 3) := by decide +kernel
theorem dX8_fight_22 : decode cX8_fight 22 = .ok (.bipush (-2), 2) := by decide +kernel
theorem dX8_fight_24 : decode cX8_fight 24 = .ok (.ireturn, 1) := by decide +kernel
theorem dX8_fight_25 : decode cX8_fight 25 = .ok (.aload_n 0, 1) := by decide +kernel
theorem dX8_fight_26 : decode cX8_fight 26 = .ok (.getfield 28, 3) := by decide +kernel
theorem dX8_fight_29 : decode cX8_fight 29 = .ok (.iload_n 1, 1) := by decide +kernel
theorem dX8_fight_30 : decode cX8_fight 30 = .ok (.invokevirtual 140, 3) := by decide +kernel
theorem dX8_fight_33 : decode cX8_fight 33 = .ok (.ifCond .eq 14, 3) := by decide +kernel
theorem dX8_fight_36 : decode cX8_fight 36 = .ok (.aload_n 0, 1) := by decide +kernel
theorem dX8_fight_37 : decode cX8_fight 37 = .ok (.getfield 28, 3) := by decide +kernel
theorem dX8_fight_40 : decode cX8_fight 40 = .ok (.iload_n 2, 1) := by decide +kernel
theorem dX8_fight_41 : decode cX8_fight 41 = .ok (.invokevirtual 140, 3) := by decide +kernel
theorem dX8_fight_44 : decode cX8_fight 44 = .ok (.ifCond .ne 6, 3) := by decide +kernel
theorem dX8_fight_47 : decode cX8_fight 47 = .ok (.bipush (-3), 2) := by decide +kernel
theorem dX8_fight_49 : decode cX8_fight 49 = .ok (.ireturn, 1) := by decide +kernel
theorem dX8_fight_50 : decode cX8_fight 50 = .ok (.aload_n 0, 1) := by decide +kernel
theorem dX8_fight_51 : decode cX8_fight 51 = .ok (.getfield 73, 3) := by decide +kernel
theorem dX8_fight_54 : decode cX8_fight 54 = .ok (.ifnonnull 14, 3) := by decide +kernel
theorem dX8_fight_57 : decode cX8_fight 57 = .ok (.aload_n 0, 1) := by decide +kernel
theorem dX8_fight_58 : decode cX8_fight 58 = .ok (.new 299, 3) := by decide +kernel
theorem dX8_fight_61 : decode cX8_fight 61 = .ok (.dup, 1) := by decide +kernel
theorem dX8_fight_62 : decode cX8_fight 62 = .ok (.invokespecial 301, 3) := by decide +kernel
theorem dX8_fight_65 : decode cX8_fight 65 = .ok (.putfield 73, 3) := by decide +kernel
theorem dX8_fight_68 : decode cX8_fight 68 = .ok (.aload_n 0, 1) := by decide +kernel
theorem dX8_fight_69 : decode cX8_fight 69 = .ok (.getfield 73, 3) := by decide +kernel
theorem dX8_fight_72 : decode cX8_fight 72 = .ok (.aload_n 0, 1) := by decide +kernel
theorem dX8_fight_73 : decode cX8_fight 73 = .ok (.getfield 28, 3) := by decide +kernel
theorem dX8_fight_76 : decode cX8_fight 76 = .ok (.iload_n 1, 1) := by decide +kernel
theorem dX8_fight_77 : decode cX8_fight 77 = .ok (.iload_n 2, 1) := by decide +kernel
theorem dX8_fight_78 : decode cX8_fight 78 = .ok (.invokevirtual 302, 3) := by decide +kernel
theorem dX8_fight_81 : decode cX8_fight 81 = .ok (.aload_n 0, 1) := by decide +kernel
theorem dX8_fight_82 : decode cX8_fight 82 = .ok (.getfield 73, 3) := by decide +kernel
theorem dX8_fight_85 : decode cX8_fight 85 = .ok (.iload_n 3, 1) := by decide +kernel
theorem dX8_fight_86 : decode cX8_fight 86 = .ok (.iload 4, 2) := by decide +kernel
theorem dX8_fight_88 : decode cX8_fight 88 = .ok (.invokevirtual 306, 3) := by decide +kernel
theorem dX8_fight_91 : decode cX8_fight 91 = .ok (.istore 6, 2) := by decide +kernel
theorem dX8_fight_93 : decode cX8_fight 93 = .ok (.aload_n 0, 1) := by decide +kernel
theorem dX8_fight_94 : decode cX8_fight 94 = .ok (.getfield 61, 3) := by decide +kernel
theorem dX8_fight_97 : decode cX8_fight 97 = .ok (.iconst 0, 1) := by decide +kernel
theorem dX8_fight_98 : decode cX8_fight 98 = .ok (.aload_n 0, 1) := by decide +kernel
theorem dX8_fight_99 : decode cX8_fight 99 = .ok (.getfield 73, 3) := by decide +kernel
theorem dX8_fight_102 : decode cX8_fight 102 = .ok (.invokevirtual 309, 3) := by decide +kernel
theorem dX8_fight_105 : decode cX8_fight 105 = .ok (.ifCond .eq 8, 3) := by decide +kernel
theorem dX8_fight_108 : decode cX8_fight 108 = .ok (.iload_n 1, 1) := by decide +kernel
theorem dX8_fight_109 : decode cX8_fight 109 = .ok (.i2l, 1) := by decide +kernel
theorem dX8_fight_110 : decode cX8_fight 110 = .ok (.goto 5, 3) := by decide +kernel
theorem dX8_fight_113 : decode cX8_fight 113 = .ok (.iload_n 2, 1) := by decide +kernel
theorem dX8_fight_114 : decode cX8_fight 114 = .ok (.i2l, 1) := by decide +kernel
theorem dX8_fight_115 : decode cX8_fight 115 = .ok (.lastore, 1) := by decide +kernel
theorem dX8_fight_116 : decode cX8_fight 116 = .ok (.aload_n 0, 1) := by decide +kernel
theorem dX8_fight_117 : decode cX8_fight 117 = .ok (.getfield 61, 3) := by decide +kernel
theorem dX8_fight_120 : decode cX8_fight 120 = .ok (.iconst 1, 1) := by decide +kernel
theorem dX8_fight_121 : decode cX8_fight 121 = .ok (.aload_n 0, 1) := by decide +kernel
theorem dX8_fight_122 : decode cX8_fight 122 = .ok (.getfield 73, 3) := by decide +kernel
theorem dX8_fight_125 : decode cX8_fight 125 = .ok (.iload_n 3, 1) := by decide +kernel
theorem dX8_fight_126 : decode cX8_fight 126 = .ok (.iload 4, 2) := by decide +kernel
theorem dX8_fight_128 : decode cX8_fight 128 = .ok (.invokevirtual 312, 3) := by decide +kernel
theorem dX8_fight_131 : decode cX8_fight 131 = .ok (.i2l, 1) := by decide +kernel
theorem dX8_fight_132 : decode cX8_fight 132 = .ok (.lastore, 1) := by decide +kernel
theorem dX8_fight_133 : decode cX8_fight 133 = .ok (.aload_n 0, 1) := by decide +kernel
theorem dX8_fight_134 : decode cX8_fight 134 = .ok (.getfield 61, 3) := by decide +kernel
theorem dX8_fight_137 : decode cX8_fight 137 = .ok (.iconst 2, 1) := by decide +kernel
theorem dX8_fight_138 : decode cX8_fight 138 = .ok (.aload_n 0, 1) := by decide +kernel
theorem dX8_fight_139 : decode cX8_fight 139 = .ok (.getfield 73, 3) := by decide +kernel
theorem dX8_fight_142 : decode cX8_fight 142 = .ok (.iconst 0, 1) := by decide +kernel
theorem dX8_fight_143 : decode cX8_fight 143 = .ok (.iconst 0, 1) := by decide +kernel
theorem dX8_fight_144 : decode cX8_fight 144 = .ok (.invokevirtual 315, 3) := by decide +kernel
theorem dX8_fight_147 : decode cX8_fight 147 = .ok (.i2l, 1) := by decide +kernel
theorem dX8_fight_148 : decode cX8_fight 148 = .ok (.lastore, 1) := by decide +kernel
theorem dX8_fight_149 : decode cX8_fight 149 = .ok (.aload_n 0, 1) := by decide +kernel
theorem dX8_fight_150 : decode cX8_fight 150 = .ok (.iload 5, 2) := by decide +kernel
theorem dX8_fight_152 : decode cX8_fight 152 = .ok (.putfield 65, 3) := by decide +kernel
theorem dX8_fight_155 : decode cX8_fight 155 = .ok (.iload 6, 2) := by decide +kernel
theorem dX8_fight_157 : decode cX8_fight 157 = .ok (.ireturn, 1) := by decide +kernel
theorem dX9_init_0 : decode cX9_init 0 = .ok (.aload_n 0, 1) := by decide +kernel
theorem dX9_init_1 : decode cX9_init 1 = .ok (.invokespecial 1, 3) := by decide +kernel
theorem dX9_init_4 : decode cX9_init 4 = .ok (.aload_n 0, 1) := by decide +kernel
theorem dX9_init_5 : decode cX9_init 5 = .ok (.bipush 64, 2) := by decide +kernel
theorem dX9_init_7 : decode cX9_init 7 = .ok (.newarray .long, 2) := by decide +kernel
theorem dX9_init_9 : decode cX9_init 9 = .ok (.putfield 7, 3) := by decide +kernel
theorem dX9_init_12 : decode cX9_init 12 = .ok (.aload_n 0, 1) := by decide +kernel
theorem dX9_init_13 : decode cX9_init 13 = .ok (.bipush 6, 2) := by decide +kernel
theorem dX9_init_15 : decode cX9_init 15 = .ok (.newarray .int, 2) := by decide +kernel
theorem dX9_init_17 : decode cX9_init 17 = .ok (.putfield 13, 3) := by decide +kernel
theorem dX9_init_20 : decode cX9_init 20 = .ok (.aload_n 0, 1) := by decide +kernel
theorem dX9_init_21 : decode cX9_init 21 = .ok (.bipush 6, 2) := by decide +kernel
theorem dX9_init_23 : decode cX9_init 23 = .ok (.newarray .int, 2) := by decide +kernel
theorem dX9_init_25 : decode cX9_init 25 = .ok (.putfield 17, 3) := by decide +kernel
theorem dX9_init_28 : decode cX9_init 28 = .ok (.aload_n 0, 1) := by decide +kernel
theorem dX9_init_29 : decode cX9_init 29 = .ok (.bipush 18, 2) := by decide +kernel
theorem dX9_init_31 : decode cX9_init 31 = .ok (.newarray .int, 2) := by decide +kernel
theorem dX9_init_33 : decode cX9_init 33 = .ok (.putfield 20, 3) := by decide +kernel
theorem dX9_init_36 : decode cX9_init 36 = .ok (.aload_n 0, 1) := by decide +kernel
theorem dX9_init_37 : decode cX9_init 37 = .ok (.bipush 108, 2) := by decide +kernel
theorem dX9_init_39 : decode cX9_init 39 = .ok (.newarray .int, 2) := by decide +kernel
theorem dX9_init_41 : decode cX9_init 41 = .ok (.putfield 23, 3) := by decide +kernel
theorem dX9_init_44 : decode cX9_init 44 = .ok (.aload_n 0, 1) := by decide +kernel
theorem dX9_init_45 : decode cX9_init 45 = .ok (.bipush 108, 2) := by decide +kernel
theorem dX9_init_47 : decode cX9_init 47 = .ok (.newarray .int, 2) := by decide +kernel
theorem dX9_init_49 : decode cX9_init 49 = .ok (.putfield 26, 3) := by decide +kernel
theorem dX9_init_52 : decode cX9_init 52 = .ok (.aload_n 0, 1) := by decide +kernel
theorem dX9_init_53 : decode cX9_init 53 = .ok (.bipush 54, 2) := by decide +kernel
theorem dX9_init_55 : decode cX9_init 55 = .ok (.newarray .int, 2) := by decide +kernel
theorem dX9_init_57 : decode cX9_init 57 = .ok (.putfield 29, 3) := by decide +kernel
theorem dX9_init_60 : decode cX9_init 60 = .ok (.aload_n 0, 1) := by decide +kernel
theorem dX9_init_61 : decode cX9_init 61 = .ok (.bipush 63, 2) := by decide +kernel
theorem dX9_init_63 : decode cX9_init 63 = .ok (.newarray .int, 2) := by decide +kernel
theorem dX9_init_65 : decode cX9_init 65 = .ok (.putfield 32, 3) := by decide +kernel
theorem dX9_init_68 : decode cX9_init 68 = .ok (.aload_n 0, 1) := by decide +kernel
theorem dX9_init_69 : decode cX9_init 69 = .ok (.bipush 63, 2) := by decide +kernel
theorem dX9_init_71 : decode cX9_init 71 = .ok (.newarray .int, 2) := by decide +kernel
theorem dX9_init_73 : decode cX9_init 73 = .ok (.putfield 35, 3) := by decide +kernel
theorem dX9_init_76 : decode cX9_init 76 = .ok (.aload_n 0, 1) := by decide +kernel
theorem dX9_init_77 : decode cX9_init 77 = .ok (.sipush 240, 3) := by decide +kernel
theorem dX9_init_80 : decode cX9_init 80 = .ok (.newarray .int, 2) := by decide +kernel
theorem dX9_init_82 : decode cX9_init 82 = .ok (.putfield 38, 3) := by decide +kernel
theorem dX9_init_85 : decode cX9_init 85 = .ok (.aload_n 0, 1) := by decide +kernel
theorem dX9_init_86 : decode cX9_init 86 = .ok (.sipush 240, 3) := by decide +kernel
theorem dX9_init_89 : decode cX9_init 89 = .ok (.newarray .int, 2) := by decide +kernel
theorem dX9_init_91 : decode cX9_init 91 = .ok (.putfield 41, 3) := by decide +kernel
theorem dX9_init_94 : decode cX9_init 94 = .ok (.aload_n 0, 1) := by decide +kernel
theorem dX9_init_95 : decode cX9_init 95 = .ok (.iconst 3, 1) := by decide +kernel
theorem dX9_init_96 : decode cX9_init 96 = .ok (.newarray .int, 2) := by decide +kernel
theorem dX9_init_98 : decode cX9_init 98 = .ok (.putfield 44, 3) := by decide +kernel
theorem dX9_init_101 : decode cX9_init 101 = .ok (.aload_n 0, 1) := by decide +kernel
theorem dX9_init_102 : decode cX9_init 102 = .ok (.bipush 18, 2) := by decide +kernel
theorem dX9_init_104 : decode cX9_init 104 = .ok (.newarray .int, 2) := by decide +kernel
theorem dX9_init_106 : decode cX9_init 106 = .ok (.putfield 47, 3) := by decide +kernel
theorem dX9_init_109 : decode cX9_init 109 = .ok (.aload_n 0, 1) := by decide +kernel
theorem dX9_init_110 : decode cX9_init 110 = .ok (.bipush 18, 2) := by decide +kernel
theorem dX9_init_112 : decode cX9_init 112 = .ok (.newarray .int, 2) := by decide +kernel
theorem dX9_init_114 : decode cX9_init 114 = .ok (.putfield 50, 3) := by decide +kernel
theorem dX9_init_117 : decode cX9_init 117 = .ok (.aload_n 0, 1) := by decide +kernel
theorem dX9_init_118 : decode cX9_init 118 = .ok (.bipush 9, 2) := by decide +kernel
theorem dX9_init_120 : decode cX9_init 120 = .ok (.newarray .int, 2) := by decide +kernel
theorem dX9_init_122 : decode cX9_init 122 = .ok (.putfield 53, 3) := by decide +kernel
theorem dX9_init_125 : decode cX9_init 125 = .ok (.aload_n 0, 1) := by decide +kernel
theorem dX9_init_126 : decode cX9_init 126 = .ok (.bipush 122, 2) := by decide +kernel
theorem dX9_init_128 : decode cX9_init 128 = .ok (.newarray .int, 2) := by decide +kernel
theorem dX9_init_130 : decode cX9_init 130 = .ok (.putfield 56, 3) := by decide +kernel
theorem dX9_init_133 : decode cX9_init 133 = .ok (.aload_n 0, 1) := by decide +kernel
theorem dX9_init_134 : decode cX9_init 134 = .ok (.bipush 122, 2) := by decide +kernel
theorem dX9_init_136 : decode cX9_init 136 = .ok (.newarray .int, 2) := by decide +kernel
theorem dX9_init_138 : decode cX9_init 138 = .ok (.putfield 59, 3) := by decide +kernel
theorem dX9_init_141 : decode cX9_init 141 = .ok (.aload_n 0, 1) := by decide +kernel
theorem dX9_init_142 : decode cX9_init 142 = .ok (.bipush 121, 2) := by decide +kernel
theorem dX9_init_144 : decode cX9_init 144 = .ok (.newarray .int, 2) := by decide +kernel
theorem dX9_init_146 : decode cX9_init 146 = .ok (.putfield 62, 3) := by decide +kernel
theorem dX9_init_149 : decode cX9_init 149 = .ok (.aload_n 0, 1) := by decide +kernel
theorem dX9_init_150 : decode cX9_init 150 = .ok (.sipush 484, 3) := by decide +kernel
theorem dX9_init_153 : decode cX9_init 153 = .ok (.newarray .int, 2) := by decide +kernel
theorem dX9_init_155 : decode cX9_init 155 = .ok (.putfield 65, 3) := by decide +kernel
theorem dX9_init_158 : decode cX9_init 158 = .ok (.aload_n 0, 1) := by decide +kernel
theorem dX9_init_159 : decode cX9_init 159 = .ok (.sipush 28224, 3) := by decide +kernel
theorem dX9_init_162 : decode cX9_init 162 = .ok (.newarray .int, 2) := by decide +kernel
theorem dX9_init_164 : decode cX9_init 164 = .ok (.putfield 68, 3) := by decide +kernel
theorem dX9_init_167 : decode cX9_init 167 = .ok (.aload_n 0, 1) := by decide +kernel
theorem dX9_init_168 : decode cX9_init 168 = .ok (.sipush 15129, 3) := by decide +kernel
theorem dX9_init_171 : decode cX9_init 171 = .ok (.newarray .int, 2) := by decide +kernel
theorem dX9_init_173 : decode cX9_init 173 = .ok (.putfield 71, 3) := by decide +kernel
theorem dX9_init_176 : decode cX9_init 176 = .ok (.aload_n 0, 1) := by decide +kernel
theorem dX9_init_177 : decode cX9_init 177 = .ok (.sipush 15129, 3) := by decide +kernel
theorem dX9_init_180 : decode cX9_init 180 = .ok (.newarray .int, 2) := by decide +kernel
theorem dX9_init_182 : decode cX9_init 182 = .ok (.putfield 74, 3) := by decide +kernel
theorem dX9_init_185 : decode cX9_init 185 = .ok (.return_, 1) := by decide +kernel
theorem dX9_thrown_0 : decode cX9_thrown 0 = .ok (.aload_n 0, 1) := by decide +kernel
theorem dX9_thrown_1 : decode cX9_thrown 1 = .ok (.getfield 77, 3) := by decide +kernel
theorem dX9_thrown_4 : decode cX9_thrown 4 = .ok (.ireturn, 1) := by decide +kernel
theorem dX9_in_0 : decode cX9_in 0 = .ok (.lload_n 0, 1) := by decide +kernel
theorem dX9_in_1 : decode cX9_in 1 = .ok (.lload_n 2, 1) := by decide +kernel
theorem dX9_in_2 : decode cX9_in 2 = .ok (.lcmp, 1) := by decide +kernel
theorem dX9_in_3 : decode cX9_in 3 = .ok (.ifCond .lt 14, 3) := by decide +kernel
theorem dX9_in_6 : decode cX9_in 6 = .ok (.lload_n 0, 1) := by decide +kernel
theorem dX9_in_7 : decode cX9_in 7 = .ok (.lload 4, 2) := by decide +kernel
theorem dX9_in_9 : decode cX9_in 9 = .ok (.lcmp, 1) := by decide +kernel
theorem dX9_in_10 : decode cX9_in 10 = .ok (.ifCond .gt 7, 3) := by decide +kernel
theorem dX9_in_13 : decode cX9_in 13 = .ok (.iconst 1, 1) := by decide +kernel
theorem dX9_in_14 : decode cX9_in 14 = .ok (.goto 4, 3) := by decide +kernel
theorem dX9_in_17 : decode cX9_in 17 = .ok (.iconst 0, 1) := by decide +kernel
theorem dX9_in_18 : decode cX9_in 18 = .ok (.ireturn, 1) := by decide +kernel
theorem dX9_flag_0 : decode cX9_flag 0 = .ok (.iload_n 0, 1) := by decide +kernel
theorem dX9_flag_1 : decode cX9_flag 1 = .ok (.ifCond .eq 7, 3) := by decide +kernel
theorem dX9_flag_4 : decode cX9_flag 4 = .ok (.iconst 1, 1) := by decide +kernel
theorem dX9_flag_5 : decode cX9_flag 5 = .ok (.goto 4, 3) := by decide +kernel
theorem dX9_flag_8 : decode cX9_flag 8 = .ok (.iconst 0, 1) := by decide +kernel
theorem dX9_flag_9 : decode cX9_flag 9 = .ok (.ireturn, 1) := by decide +kernel
theorem dX9_notes_0 : decode cX9_notes 0 = .ok (.aload_n 0, 1) := by decide +kernel
theorem dX9_notes_1 : decode cX9_notes 1 = .ok (.getfield 7, 3) := by decide +kernel
theorem dX9_notes_4 : decode cX9_notes 4 = .ok (.aload_n 0, 1) := by decide +kernel
theorem dX9_notes_5 : decode cX9_notes 5 = .ok (.getfield 81, 3) := by decide +kernel
theorem dX9_notes_8 : decode cX9_notes 8 = .ok (.lload_n 1, 1) := by decide +kernel
theorem dX9_notes_9 : decode cX9_notes 9 = .ok (.lastore, 1) := by decide +kernel
theorem dX9_notes_10 : decode cX9_notes 10 = .ok (.aload_n 0, 1) := by decide +kernel
theorem dX9_notes_11 : decode cX9_notes 11 = .ok (.dup, 1) := by decide +kernel
theorem dX9_notes_12 : decode cX9_notes 12 = .ok (.getfield 81, 3) := by decide +kernel
theorem dX9_notes_15 : decode cX9_notes 15 = .ok (.iconst 1, 1) := by decide +kernel
theorem dX9_notes_16 : decode cX9_notes 16 = .ok (.iadd, 1) := by decide +kernel
theorem dX9_notes_17 : decode cX9_notes 17 = .ok (.putfield 81, 3) := by decide +kernel
theorem dX9_notes_20 : decode cX9_notes 20 = .ok (.return_, 1) := by decide +kernel
set_option maxRecDepth 20000 in
theorem ggX9_isLifter_X9_in : GoodIn wsX9_isLifter wsX9_in := goodIn_r _ [5] (by decide +kernel) (by decide +kernel)
set_option maxRecDepth 20000 in
theorem gX9_isLifter_X9_in : GoodIn wsX9_isLifter (va_wsS RX9 87 yX9_in wsX9_in) := goodIn_app (goodIn_of _ (by decide +kernel)) ggX9_isLifter_X9_in
theorem dX9_isLifter_0 : decode cX9_isLifter 0 = .ok (.iload_n 1, 1) := by decide +kernel
theorem dX9_isLifter_1 : decode cX9_isLifter 1 = .ok (.i2l, 1) := by decide +kernel
theorem dX9_isLifter_2 : decode cX9_isLifter 2 = .ok (.lconst 0, 1) := by decide +kernel
theorem dX9_isLifter_3 : decode cX9_isLifter 3 = .ok (.aload_n 0, 1) := by decide +kernel
theorem dX9_isLifter_4 : decode cX9_isLifter 4 = .ok (.getfield 84, 3) := by decide +kernel
theorem dX9_isLifter_7 : decode cX9_isLifter 7 = .ok (.iconst 1, 1) := by decide +kernel
theorem dX9_isLifter_8 : decode cX9_isLifter 8 = .ok (.isub, 1) := by decide +kernel
theorem dX9_isLifter_9 : decode cX9_isLifter 9 = .ok (.i2l, 1) := by decide +kernel
theorem dX9_isLifter_10 : decode cX9_isLifter 10 = .ok (.invokestatic 87, 3) := by decide +kernel
theorem dX9_isLifter_13 : decode cX9_isLifter 13 = .ok (.ireturn, 1) := by decide +kernel
set_option maxRecDepth 20000 in
theorem ggX9_isLift_X9_in : GoodIn wsX9_isLift wsX9_in := goodIn_r _ [5] (by decide +kernel) (by decide +kernel)
set_option maxRecDepth 20000 in
theorem gX9_isLift_X9_in : GoodIn wsX9_isLift (va_wsS RX9 87 yX9_in wsX9_in) := goodIn_app (goodIn_of _ (by decide +kernel)) ggX9_isLift_X9_in
theorem dX9_isLift_0 : decode cX9_isLift 0 = .ok (.iload_n 0, 1) := by decide +kernel
theorem dX9_isLift_1 : decode cX9_isLift 1 = .ok (.i2l, 1) := by decide +kernel
theorem dX9_isLift_2 : decode cX9_isLift 2 = .ok (.lconst 0, 1) := by decide +kernel
theorem dX9_isLift_3 : decode cX9_isLift 3 = .ok (.ldc2_w 91, 3) := by decide +kernel
theorem dX9_isLift_6 : decode cX9_isLift 6 = .ok (.invokestatic 87, 3) := by decide +kernel
theorem dX9_isLift_9 : decode cX9_isLift 9 = .ok (.ireturn, 1) := by decide +kernel
theorem dX9_planOf_0 : decode cX9_planOf 0 = .ok (.aload_n 0, 1) := by decide +kernel
theorem dX9_planOf_1 : decode cX9_planOf 1 = .ok (.getfield 29, 3) := by decide +kernel
theorem dX9_planOf_4 : decode cX9_planOf 4 = .ok (.iconst 3, 1) := by decide +kernel
theorem dX9_planOf_5 : decode cX9_planOf 5 = .ok (.iconst 3, 1) := by decide +kernel
theorem dX9_planOf_6 : decode cX9_planOf 6 = .ok (.iload_n 1, 1) := by decide +kernel
theorem dX9_planOf_7 : decode cX9_planOf 7 = .ok (.imul, 1) := by decide +kernel
theorem dX9_planOf_8 : decode cX9_planOf 8 = .ok (.iload_n 2, 1) := by decide +kernel
theorem dX9_planOf_9 : decode cX9_planOf 9 = .ok (.iadd, 1) := by decide +kernel
theorem dX9_planOf_10 : decode cX9_planOf 10 = .ok (.imul, 1) := by decide +kernel
theorem dX9_planOf_11 : decode cX9_planOf 11 = .ok (.iload_n 3, 1) := by decide +kernel
theorem dX9_planOf_12 : decode cX9_planOf 12 = .ok (.iadd, 1) := by decide +kernel
theorem dX9_planOf_13 : decode cX9_planOf 13 = .ok (.iaload, 1) := by decide +kernel
theorem dX9_planOf_14 : decode cX9_planOf 14 = .ok (.ireturn, 1) := by decide +kernel
theorem dX9_tableOdds_0 : decode cX9_tableOdds 0 = .ok (.bipush 6, 2) := by decide +kernel
theorem dX9_tableOdds_2 : decode cX9_tableOdds 2 = .ok (.iconst 3, 1) := by decide +kernel
theorem dX9_tableOdds_3 : decode cX9_tableOdds 3 = .ok (.iload_n 1, 1) := by decide +kernel
theorem dX9_tableOdds_4 : decode cX9_tableOdds 4 = .ok (.imul, 1) := by decide +kernel
theorem dX9_tableOdds_5 : decode cX9_tableOdds 5 = .ok (.iload_n 2, 1) := by decide +kernel
theorem dX9_tableOdds_6 : decode cX9_tableOdds 6 = .ok (.iadd, 1) := by decide +kernel
theorem dX9_tableOdds_7 : decode cX9_tableOdds 7 = .ok (.imul, 1) := by decide +kernel
theorem dX9_tableOdds_8 : decode cX9_tableOdds 8 = .ok (.istore 4, 2) := by decide +kernel
theorem dX9_tableOdds_10 : decode cX9_tableOdds 10 = .ok (.aload_n 0, 1) := by decide +kernel
theorem dX9_tableOdds_11 : decode cX9_tableOdds 11 = .ok (.getfield 20, 3) := by decide +kernel
theorem dX9_tableOdds_14 : decode cX9_tableOdds 14 = .ok (.iconst 3, 1) := by decide +kernel
theorem dX9_tableOdds_15 : decode cX9_tableOdds 15 = .ok (.iload_n 1, 1) := by decide +kernel
theorem dX9_tableOdds_16 : decode cX9_tableOdds 16 = .ok (.imul, 1) := by decide +kernel
theorem dX9_tableOdds_17 : decode cX9_tableOdds 17 = .ok (.iload_n 2, 1) := by decide +kernel
theorem dX9_tableOdds_18 : decode cX9_tableOdds 18 = .ok (.iadd, 1) := by decide +kernel
theorem dX9_tableOdds_19 : decode cX9_tableOdds 19 = .ok (.iaload, 1) := by decide +kernel
theorem dX9_tableOdds_20 : decode cX9_tableOdds 20 = .ok (.istore 5, 2) := by decide +kernel
theorem dX9_tableOdds_22 : decode cX9_tableOdds 22 = .ok (.iload_n 3, 1) := by decide +kernel
theorem dX9_tableOdds_23 : decode cX9_tableOdds 23 = .ok (.aload_n 0, 1) := by decide +kernel
theorem dX9_tableOdds_24 : decode cX9_tableOdds 24 = .ok (.getfield 23, 3) := by decide +kernel
theorem dX9_tableOdds_27 : decode cX9_tableOdds 27 = .ok (.iload 4, 2) := by decide +kernel
theorem dX9_tableOdds_29 : decode cX9_tableOdds 29 = .ok (.iaload, 1) := by decide +kernel
theorem dX9_tableOdds_30 : decode cX9_tableOdds 30 = .ok (.if_icmp .gt 11, 3) := by decide +kernel
theorem dX9_tableOdds_33 : decode cX9_tableOdds 33 = .ok (.aload_n 0, 1) := by decide +kernel
theorem dX9_tableOdds_34 : decode cX9_tableOdds 34 = .ok (.getfield 26, 3) := by decide +kernel
theorem dX9_tableOdds_37 : decode cX9_tableOdds 37 = .ok (.iload 4, 2) := by decide +kernel
theorem dX9_tableOdds_39 : decode cX9_tableOdds 39 = .ok (.iaload, 1) := by decide +kernel
theorem dX9_tableOdds_40 : decode cX9_tableOdds 40 = .ok (.ireturn, 1) := by decide +kernel
theorem dX9_tableOdds_41 : decode cX9_tableOdds 41 = .ok (.iconst 1, 1) := by decide +kernel
theorem dX9_tableOdds_42 : decode cX9_tableOdds 42 = .ok (.istore 6, 2) := by decide +kernel
theorem dX9_tableOdds_44 : decode cX9_tableOdds 44 = .ok (.iload 6, 2) := by decide +kernel
theorem dX9_tableOdds_46 : decode cX9_tableOdds 46 = .ok (.iload 5, 2) := by decide +kernel
theorem dX9_tableOdds_48 : decode cX9_tableOdds 48 = .ok (.if_icmp .ge 86, 3) := by decide +kernel
theorem dX9_tableOdds_51 : decode cX9_tableOdds 51 = .ok (.iload 4, 2) := by decide +kernel
theorem dX9_tableOdds_53 : decode cX9_tableOdds 53 = .ok (.iload 6, 2) := by decide +kernel
theorem dX9_tableOdds_55 : decode cX9_tableOdds 55 = .ok (.iadd, 1) := by decide +kernel
theorem dX9_tableOdds_56 : decode cX9_tableOdds 56 = .ok (.iconst 1, 1) := by decide +kernel
theorem dX9_tableOdds_57 : decode cX9_tableOdds 57 = .ok (.isub, 1) := by decide +kernel
theorem dX9_tableOdds_58 : decode cX9_tableOdds 58 = .ok (.istore 7, 2) := by decide +kernel
theorem dX9_tableOdds_60 : decode cX9_tableOdds 60 = .ok (.iload 4, 2) := by decide +kernel
theorem dX9_tableOdds_62 : decode cX9_tableOdds 62 = .ok (.iload 6, 2) := by decide +kernel
theorem dX9_tableOdds_64 : decode cX9_tableOdds 64 = .ok (.iadd, 1) := by decide +kernel
theorem dX9_tableOdds_65 : decode cX9_tableOdds 65 = .ok (.istore 8, 2) := by decide +kernel
theorem dX9_tableOdds_67 : decode cX9_tableOdds 67 = .ok (.iload_n 3, 1) := by decide +kernel
theorem dX9_tableOdds_68 : decode cX9_tableOdds 68 = .ok (.aload_n 0, 1) := by decide +kernel
theorem dX9_tableOdds_69 : decode cX9_tableOdds 69 = .ok (.getfield 23, 3) := by decide +kernel
theorem dX9_tableOdds_72 : decode cX9_tableOdds 72 = .ok (.iload 8, 2) := by decide +kernel
theorem dX9_tableOdds_74 : decode cX9_tableOdds 74 = .ok (.iaload, 1) := by decide +kernel
theorem dX9_tableOdds_75 : decode cX9_tableOdds 75 = .ok (.if_icmp .gt 53, 3) := by decide +kernel
theorem dX9_tableOdds_78 : decode cX9_tableOdds 78 = .ok (.aload_n 0, 1) := by decide +kernel
theorem dX9_tableOdds_79 : decode cX9_tableOdds 79 = .ok (.getfield 26, 3) := by decide +kernel
theorem dX9_tableOdds_82 : decode cX9_tableOdds 82 = .ok (.iload 7, 2) := by decide +kernel
theorem dX9_tableOdds_84 : decode cX9_tableOdds 84 = .ok (.iaload, 1) := by decide +kernel
theorem dX9_tableOdds_85 : decode cX9_tableOdds 85 = .ok (.aload_n 0, 1) := by decide +kernel
theorem dX9_tableOdds_86 : decode cX9_tableOdds 86 = .ok (.getfield 26, 3) := by decide +kernel
theorem dX9_tableOdds_89 : decode cX9_tableOdds 89 = .ok (.iload 7, 2) := by decide +kernel
theorem dX9_tableOdds_91 : decode cX9_tableOdds 91 = .ok (.iaload, 1) := by decide +kernel
theorem dX9_tableOdds_92 : decode cX9_tableOdds 92 = .ok (.aload_n 0, 1) := by decide +kernel
theorem dX9_tableOdds_93 : decode cX9_tableOdds 93 = .ok (.getfield 26, 3) := by decide +kernel
theorem dX9_tableOdds_96 : decode cX9_tableOdds 96 = .ok (.iload 8, 2) := by decide +kernel
theorem dX9_tableOdds_98 : decode cX9_tableOdds 98 = .ok (.iaload, 1) := by decide +kernel
theorem dX9_tableOdds_99 : decode cX9_tableOdds 99 = .ok (.isub, 1) := by decide +kernel
theorem dX9_tableOdds_100 : decode cX9_tableOdds 100 = .ok (.iload_n 3, 1) := by decide +kernel
theorem dX9_tableOdds_101 : decode cX9_tableOdds 101 = .ok (.aload_n 0, 1) := by decide +kernel
theorem dX9_tableOdds_102 : decode cX9_tableOdds 102 = .ok (.getfield 23, 3) := by decide +kernel
theorem dX9_tableOdds_105 : decode cX9_tableOdds 105 = .ok (.iload 7, 2) := by decide +kernel
theorem dX9_tableOdds_107 : decode cX9_tableOdds 107 = .ok (.iaload, 1) := by decide +kernel
theorem dX9_tableOdds_108 : decode cX9_tableOdds 108 = .ok (.isub, 1) := by decide +kernel
theorem dX9_tableOdds_109 : decode cX9_tableOdds 109 = .ok (.imul, 1) := by decide +kernel
theorem dX9_tableOdds_110 : decode cX9_tableOdds 110 = .ok (.aload_n 0, 1) := by decide +kernel
theorem dX9_tableOdds_111 : decode cX9_tableOdds 111 = .ok (.getfield 23, 3) := by decide +kernel
theorem dX9_tableOdds_114 : decode cX9_tableOdds 114 = .ok (.iload 8, 2) := by decide +kernel
theorem dX9_tableOdds_116 : decode cX9_tableOdds 116 = .ok (.iaload, 1) := by decide +kernel
theorem dX9_tableOdds_117 : decode cX9_tableOdds 117 = .ok (.aload_n 0, 1) := by decide +kernel
theorem dX9_tableOdds_118 : decode cX9_tableOdds 118 = .ok (.getfield 23, 3) := by decide +kernel
theorem dX9_tableOdds_121 : decode cX9_tableOdds 121 = .ok (.iload 7, 2) := by decide +kernel
theorem dX9_tableOdds_123 : decode cX9_tableOdds 123 = .ok (.iaload, 1) := by decide +kernel
theorem dX9_tableOdds_124 : decode cX9_tableOdds 124 = .ok (.isub, 1) := by decide +kernel
theorem dX9_tableOdds_125 : decode cX9_tableOdds 125 = .ok (.idiv, 1) := by decide +kernel
theorem dX9_tableOdds_126 : decode cX9_tableOdds 126 = .ok (.isub, 1) := by decide +kernel
theorem dX9_tableOdds_127 : decode cX9_tableOdds 127 = .ok (.ireturn, 1) := by decide +kernel
theorem dX9_tableOdds_128 : decode cX9_tableOdds 128 = .ok (.iinc 6 1, 3) := by decide +kernel
theorem dX9_tableOdds_131 : decode cX9_tableOdds 131 = .ok (.goto (-87), 3) := by decide +kernel
theorem dX9_tableOdds_134 : decode cX9_tableOdds 134 = .ok (.iconst 0, 1) := by decide +kernel
theorem dX9_tableOdds_135 : decode cX9_tableOdds 135 = .ok (.ireturn, 1) := by decide +kernel
set_option maxRecDepth 20000 in
theorem ggX9_oddsOf_X9_tableOdds : GoodIn wsX9_oddsOf wsX9_tableOdds := goodIn_r _ [10, 11, 12, 13, 14, 15, 16, 17, 18, 19, 20, 21, 22, 23, 24, 25, 26, 27, 28, 29, 30, 31, 32, 33, 34, 35, 36, 37, 38, 39, 40, 41, 42, 43, 44, 45, 46, 47, 48, 49, 50, 51, 52, 53] (by decide +kernel) (by decide +kernel)
set_option maxRecDepth 20000 in
theorem gX9_oddsOf_X9_tableOdds : GoodIn wsX9_oddsOf (wsV RX9 93 RX9 yX9_tableOdds wsX9_tableOdds) := goodIn_app (goodIn_of _ (by decide +kernel)) ggX9_oddsOf_X9_tableOdds
theorem dX9_oddsOf_0 : decode cX9_oddsOf 0 = .ok (.iconst 0, 1) := by decide +kernel
theorem dX9_oddsOf_1 : decode cX9_oddsOf 1 = .ok (.aload_n 0, 1) := by decide +kernel
theorem dX9_oddsOf_2 : decode cX9_oddsOf 2 = .ok (.iload_n 1, 1) := by decide +kernel
theorem dX9_oddsOf_3 : decode cX9_oddsOf 3 = .ok (.iload_n 2, 1) := by decide +kernel
theorem dX9_oddsOf_4 : decode cX9_oddsOf 4 = .ok (.iload_n 3, 1) := by decide +kernel
theorem dX9_oddsOf_5 : decode cX9_oddsOf 5 = .ok (.invokevirtual 93, 3) := by decide +kernel
theorem dX9_oddsOf_8 : decode cX9_oddsOf 8 = .ok (.aload_n 0, 1) := by decide +kernel
theorem dX9_oddsOf_9 : decode cX9_oddsOf 9 = .ok (.getfield 97, 3) := by decide +kernel
theorem dX9_oddsOf_12 : decode cX9_oddsOf 12 = .ok (.iload 4, 2) := by decide +kernel
theorem dX9_oddsOf_14 : decode cX9_oddsOf 14 = .ok (.imul, 1) := by decide +kernel
theorem dX9_oddsOf_15 : decode cX9_oddsOf 15 = .ok (.isub, 1) := by decide +kernel
theorem dX9_oddsOf_16 : decode cX9_oddsOf 16 = .ok (.invokestatic 100, 3) := by decide +kernel
theorem dX9_oddsOf_19 : decode cX9_oddsOf 19 = .ok (.ireturn, 1) := by decide +kernel
theorem dX9_of_0 : decode cX9_of 0 = .ok (.aload_n 0, 1) := by decide +kernel
theorem dX9_of_1 : decode cX9_of 1 = .ok (.getfield 32, 3) := by decide +kernel
theorem dX9_of_4 : decode cX9_of 4 = .ok (.iconst 3, 1) := by decide +kernel
theorem dX9_of_5 : decode cX9_of 5 = .ok (.bipush 10, 2) := by decide +kernel
theorem dX9_of_7 : decode cX9_of 7 = .ok (.iload_n 1, 1) := by decide +kernel
theorem dX9_of_8 : decode cX9_of 8 = .ok (.imul, 1) := by decide +kernel
theorem dX9_of_9 : decode cX9_of 9 = .ok (.iadd, 1) := by decide +kernel
theorem dX9_of_10 : decode cX9_of 10 = .ok (.iload_n 2, 1) := by decide +kernel
theorem dX9_of_11 : decode cX9_of 11 = .ok (.iadd, 1) := by decide +kernel
theorem dX9_of_12 : decode cX9_of 12 = .ok (.iaload, 1) := by decide +kernel
theorem dX9_of_13 : decode cX9_of 13 = .ok (.ireturn, 1) := by decide +kernel
theorem dX9_sets_0 : decode cX9_sets 0 = .ok (.aload_n 0, 1) := by decide +kernel
theorem dX9_sets_1 : decode cX9_sets 1 = .ok (.getfield 32, 3) := by decide +kernel
theorem dX9_sets_4 : decode cX9_sets 4 = .ok (.iconst 3, 1) := by decide +kernel
theorem dX9_sets_5 : decode cX9_sets 5 = .ok (.bipush 10, 2) := by decide +kernel
theorem dX9_sets_7 : decode cX9_sets 7 = .ok (.iload_n 1, 1) := by decide +kernel
theorem dX9_sets_8 : decode cX9_sets 8 = .ok (.imul, 1) := by decide +kernel
theorem dX9_sets_9 : decode cX9_sets 9 = .ok (.iadd, 1) := by decide +kernel
