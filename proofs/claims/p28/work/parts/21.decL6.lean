theorem dL_fell_28 : decode cL_fell 28 = .ok (.istore 5, 2) := by decide +kernel
theorem dL_fell_30 : decode cL_fell 30 = .ok (.aload_n 0, 1) := by decide +kernel
theorem dL_fell_31 : decode cL_fell 31 = .ok (.iload_n 1, 1) := by decide +kernel
theorem dL_fell_32 : decode cL_fell 32 = .ok (.iconst 3, 1) := by decide +kernel
theorem dL_fell_33 : decode cL_fell 33 = .ok (.invokevirtual 20, 3) := by decide +kernel
theorem dL_fell_36 : decode cL_fell 36 = .ok (.istore 6, 2) := by decide +kernel
theorem dL_fell_38 : decode cL_fell 38 = .ok (.aload_n 0, 1) := by decide +kernel
theorem dL_fell_39 : decode cL_fell 39 = .ok (.iconst 1, 1) := by decide +kernel
theorem dL_fell_40 : decode cL_fell 40 = .ok (.invokevirtual 14, 3) := by decide +kernel
theorem dL_fell_43 : decode cL_fell 43 = .ok (.istore 7, 2) := by decide +kernel
theorem dL_fell_45 : decode cL_fell 45 = .ok (.aload_n 0, 1) := by decide +kernel
theorem dL_fell_46 : decode cL_fell 46 = .ok (.iload_n 1, 1) := by decide +kernel
theorem dL_fell_47 : decode cL_fell 47 = .ok (.invokevirtual 63, 3) := by decide +kernel
theorem dL_fell_50 : decode cL_fell 50 = .ok (.istore 8, 2) := by decide +kernel
theorem dL_fell_52 : decode cL_fell 52 = .ok (.iload 4, 2) := by decide +kernel
theorem dL_fell_54 : decode cL_fell 54 = .ok (.aload_n 0, 1) := by decide +kernel
theorem dL_fell_55 : decode cL_fell 55 = .ok (.bipush 14, 2) := by decide +kernel
theorem dL_fell_57 : decode cL_fell 57 = .ok (.invokevirtual 14, 3) := by decide +kernel
theorem dL_fell_60 : decode cL_fell 60 = .ok (.if_icmp .ge 8, 3) := by decide +kernel
theorem dL_fell_63 : decode cL_fell 63 = .ok (.bipush (-4), 2) := by decide +kernel
theorem dL_fell_65 : decode cL_fell 65 = .ok (.goto 13, 3) := by decide +kernel
theorem dL_fell_68 : decode cL_fell 68 = .ok (.iload_n 3, 1) := by decide +kernel
theorem dL_fell_69 : decode cL_fell 69 = .ok (.ifCond .ne 8, 3) := by decide +kernel
theorem dL_fell_72 : decode cL_fell 72 = .ok (.bipush (-5), 2) := by decide +kernel
theorem dL_fell_74 : decode cL_fell 74 = .ok (.goto 4, 3) := by decide +kernel
theorem dL_fell_77 : decode cL_fell 77 = .ok (.iload_n 3, 1) := by decide +kernel
theorem dL_fell_78 : decode cL_fell 78 = .ok (.istore 9, 2) := by decide +kernel
theorem dL_fell_80 : decode cL_fell 80 = .ok (.iload 8, 2) := by decide +kernel
theorem dL_fell_82 : decode cL_fell 82 = .ok (.iload 9, 2) := by decide +kernel
theorem dL_fell_84 : decode cL_fell 84 = .ok (.if_icmp .ne 89, 3) := by decide +kernel
theorem dL_fell_87 : decode cL_fell 87 = .ok (.iload 9, 2) := by decide +kernel
theorem dL_fell_89 : decode cL_fell 89 = .ok (.ifCond .lt 79, 3) := by decide +kernel
theorem dL_fell_92 : decode cL_fell 92 = .ok (.aload_n 0, 1) := by decide +kernel
theorem dL_fell_93 : decode cL_fell 93 = .ok (.iload_n 2, 1) := by decide +kernel
theorem dL_fell_94 : decode cL_fell 94 = .ok (.iconst 0, 1) := by decide +kernel
theorem dL_fell_95 : decode cL_fell 95 = .ok (.invokevirtual 27, 3) := by decide +kernel
theorem dL_fell_98 : decode cL_fell 98 = .ok (.ifCond .ne 75, 3) := by decide +kernel
theorem dL_fell_101 : decode cL_fell 101 = .ok (.aload_n 0, 1) := by decide +kernel
theorem dL_fell_102 : decode cL_fell 102 = .ok (.iload_n 2, 1) := by decide +kernel
theorem dL_fell_103 : decode cL_fell 103 = .ok (.bipush 6, 2) := by decide +kernel
theorem dL_fell_105 : decode cL_fell 105 = .ok (.invokevirtual 27, 3) := by decide +kernel
theorem dL_fell_108 : decode cL_fell 108 = .ok (.iconst 1, 1) := by decide +kernel
theorem dL_fell_109 : decode cL_fell 109 = .ok (.if_icmp .ne 64, 3) := by decide +kernel
theorem dL_fell_112 : decode cL_fell 112 = .ok (.aload_n 0, 1) := by decide +kernel
theorem dL_fell_113 : decode cL_fell 113 = .ok (.iload_n 1, 1) := by decide +kernel
theorem dL_fell_114 : decode cL_fell 114 = .ok (.iconst 1, 1) := by decide +kernel
theorem dL_fell_115 : decode cL_fell 115 = .ok (.invokevirtual 20, 3) := by decide +kernel
theorem dL_fell_118 : decode cL_fell 118 = .ok (.iload 4, 2) := by decide +kernel
theorem dL_fell_120 : decode cL_fell 120 = .ok (.aload_n 0, 1) := by decide +kernel
theorem dL_fell_121 : decode cL_fell 121 = .ok (.bipush 14, 2) := by decide +kernel
theorem dL_fell_123 : decode cL_fell 123 = .ok (.invokevirtual 14, 3) := by decide +kernel
theorem dL_fell_126 : decode cL_fell 126 = .ok (.isub, 1) := by decide +kernel
theorem dL_fell_127 : decode cL_fell 127 = .ok (.if_icmp .ne 46, 3) := by decide +kernel
theorem dL_fell_130 : decode cL_fell 130 = .ok (.aload_n 0, 1) := by decide +kernel
theorem dL_fell_131 : decode cL_fell 131 = .ok (.iload_n 1, 1) := by decide +kernel
theorem dL_fell_132 : decode cL_fell 132 = .ok (.iconst 2, 1) := by decide +kernel
theorem dL_fell_133 : decode cL_fell 133 = .ok (.invokevirtual 20, 3) := by decide +kernel
theorem dL_fell_136 : decode cL_fell 136 = .ok (.iload 5, 2) := by decide +kernel
theorem dL_fell_138 : decode cL_fell 138 = .ok (.iload_n 3, 1) := by decide +kernel
theorem dL_fell_139 : decode cL_fell 139 = .ok (.iadd, 1) := by decide +kernel
theorem dL_fell_140 : decode cL_fell 140 = .ok (.if_icmp .ne 33, 3) := by decide +kernel
theorem dL_fell_143 : decode cL_fell 143 = .ok (.aload_n 0, 1) := by decide +kernel
theorem dL_fell_144 : decode cL_fell 144 = .ok (.iload_n 1, 1) := by decide +kernel
theorem dL_fell_145 : decode cL_fell 145 = .ok (.iconst 3, 1) := by decide +kernel
theorem dL_fell_146 : decode cL_fell 146 = .ok (.invokevirtual 20, 3) := by decide +kernel
theorem dL_fell_149 : decode cL_fell 149 = .ok (.iload 6, 2) := by decide +kernel
theorem dL_fell_151 : decode cL_fell 151 = .ok (.iconst 1, 1) := by decide +kernel
theorem dL_fell_152 : decode cL_fell 152 = .ok (.iadd, 1) := by decide +kernel
theorem dL_fell_153 : decode cL_fell 153 = .ok (.if_icmp .ne 20, 3) := by decide +kernel
theorem dL_fell_156 : decode cL_fell 156 = .ok (.aload_n 0, 1) := by decide +kernel
theorem dL_fell_157 : decode cL_fell 157 = .ok (.iconst 1, 1) := by decide +kernel
theorem dL_fell_158 : decode cL_fell 158 = .ok (.invokevirtual 14, 3) := by decide +kernel
theorem dL_fell_161 : decode cL_fell 161 = .ok (.iload 7, 2) := by decide +kernel
theorem dL_fell_163 : decode cL_fell 163 = .ok (.iload_n 3, 1) := by decide +kernel
theorem dL_fell_164 : decode cL_fell 164 = .ok (.isub, 1) := by decide +kernel
theorem dL_fell_165 : decode cL_fell 165 = .ok (.if_icmp .ne 8, 3) := by decide +kernel
theorem dL_fell_168 : decode cL_fell 168 = .ok (.iload 8, 2) := by decide +kernel
theorem dL_fell_170 : decode cL_fell 170 = .ok (.goto 5, 3) := by decide +kernel
theorem dL_fell_173 : decode cL_fell 173 = .ok (.bipush (-9), 2) := by decide +kernel
theorem dL_fell_175 : decode cL_fell 175 = .ok (.ireturn, 1) := by decide +kernel
theorem dL_hint_0 : decode cL_hint 0 = .ok (.aload_n 0, 1) := by decide +kernel
theorem dL_hint_1 : decode cL_hint 1 = .ok (.iload_n 1, 1) := by decide +kernel
theorem dL_hint_2 : decode cL_hint 2 = .ok (.iconst 0, 1) := by decide +kernel
theorem dL_hint_3 : decode cL_hint 3 = .ok (.invokevirtual 24, 3) := by decide +kernel
theorem dL_hint_6 : decode cL_hint 6 = .ok (.istore_n 3, 1) := by decide +kernel
theorem dL_hint_7 : decode cL_hint 7 = .ok (.aload_n 0, 1) := by decide +kernel
theorem dL_hint_8 : decode cL_hint 8 = .ok (.iload_n 1, 1) := by decide +kernel
theorem dL_hint_9 : decode cL_hint 9 = .ok (.iload_n 2, 1) := by decide +kernel
theorem dL_hint_10 : decode cL_hint 10 = .ok (.invokevirtual 36, 3) := by decide +kernel
theorem dL_hint_13 : decode cL_hint 13 = .ok (.istore 4, 2) := by decide +kernel
theorem dL_hint_15 : decode cL_hint 15 = .ok (.aload_n 0, 1) := by decide +kernel
theorem dL_hint_16 : decode cL_hint 16 = .ok (.iload_n 1, 1) := by decide +kernel
theorem dL_hint_17 : decode cL_hint 17 = .ok (.iload_n 2, 1) := by decide +kernel
theorem dL_hint_18 : decode cL_hint 18 = .ok (.invokevirtual 66, 3) := by decide +kernel
theorem dL_hint_21 : decode cL_hint 21 = .ok (.istore 5, 2) := by decide +kernel
theorem dL_hint_23 : decode cL_hint 23 = .ok (.iload_n 3, 1) := by decide +kernel
theorem dL_hint_24 : decode cL_hint 24 = .ok (.bipush (-5), 2) := by decide +kernel
theorem dL_hint_26 : decode cL_hint 26 = .ok (.if_icmp .ne 8, 3) := by decide +kernel
theorem dL_hint_29 : decode cL_hint 29 = .ok (.iload 4, 2) := by decide +kernel
theorem dL_hint_31 : decode cL_hint 31 = .ok (.ifCond .ne 8, 3) := by decide +kernel
theorem dL_hint_34 : decode cL_hint 34 = .ok (.bipush (-4), 2) := by decide +kernel
theorem dL_hint_36 : decode cL_hint 36 = .ok (.goto 5, 3) := by decide +kernel
theorem dL_hint_39 : decode cL_hint 39 = .ok (.iload 4, 2) := by decide +kernel
theorem dL_hint_41 : decode cL_hint 41 = .ok (.istore 6, 2) := by decide +kernel
theorem dL_hint_43 : decode cL_hint 43 = .ok (.iload 5, 2) := by decide +kernel
theorem dL_hint_45 : decode cL_hint 45 = .ok (.iload 6, 2) := by decide +kernel
theorem dL_hint_47 : decode cL_hint 47 = .ok (.if_icmp .ne 33, 3) := by decide +kernel
theorem dL_hint_50 : decode cL_hint 50 = .ok (.iload 6, 2) := by decide +kernel
theorem dL_hint_52 : decode cL_hint 52 = .ok (.ifCond .lt 23, 3) := by decide +kernel
theorem dL_hint_55 : decode cL_hint 55 = .ok (.aload_n 0, 1) := by decide +kernel
theorem dL_hint_56 : decode cL_hint 56 = .ok (.iconst 5, 1) := by decide +kernel
theorem dL_hint_57 : decode cL_hint 57 = .ok (.invokevirtual 14, 3) := by decide +kernel
theorem dL_hint_60 : decode cL_hint 60 = .ok (.iload 6, 2) := by decide +kernel
theorem dL_hint_62 : decode cL_hint 62 = .ok (.if_icmp .ne 18, 3) := by decide +kernel
theorem dL_hint_65 : decode cL_hint 65 = .ok (.aload_n 0, 1) := by decide +kernel
theorem dL_hint_66 : decode cL_hint 66 = .ok (.iload_n 1, 1) := by decide +kernel
theorem dL_hint_67 : decode cL_hint 67 = .ok (.iconst 0, 1) := by decide +kernel
theorem dL_hint_68 : decode cL_hint 68 = .ok (.invokevirtual 24, 3) := by decide +kernel
theorem dL_hint_71 : decode cL_hint 71 = .ok (.iload_n 2, 1) := by decide +kernel
theorem dL_hint_72 : decode cL_hint 72 = .ok (.if_icmp .ne 8, 3) := by decide +kernel
theorem dL_hint_75 : decode cL_hint 75 = .ok (.iload 5, 2) := by decide +kernel
theorem dL_hint_77 : decode cL_hint 77 = .ok (.goto 5, 3) := by decide +kernel
theorem dL_hint_80 : decode cL_hint 80 = .ok (.bipush (-9), 2) := by decide +kernel
theorem dL_hint_82 : decode cL_hint 82 = .ok (.ireturn, 1) := by decide +kernel
theorem dL_act_0 : decode cL_act 0 = .ok (.iload_n 1, 1) := by decide +kernel
theorem dL_act_1 : decode cL_act 1 = .ok (.bipush 16, 2) := by decide +kernel
theorem dL_act_3 : decode cL_act 3 = .ok (.irem, 1) := by decide +kernel
theorem dL_act_4 : decode cL_act 4 = .ok (.istore_n 2, 1) := by decide +kernel
theorem dL_act_5 : decode cL_act 5 = .ok (.iload_n 1, 1) := by decide +kernel
theorem dL_act_6 : decode cL_act 6 = .ok (.bipush 16, 2) := by decide +kernel
theorem dL_act_8 : decode cL_act 8 = .ok (.idiv, 1) := by decide +kernel
theorem dL_act_9 : decode cL_act 9 = .ok (.istore_n 3, 1) := by decide +kernel
theorem dL_act_10 : decode cL_act 10 = .ok (.iload_n 3, 1) := by decide +kernel
theorem dL_act_11 : decode cL_act 11 = .ok (.iconst 3, 1) := by decide +kernel
theorem dL_act_12 : decode cL_act 12 = .ok (.irem, 1) := by decide +kernel
theorem dL_act_13 : decode cL_act 13 = .ok (.istore 4, 2) := by decide +kernel
theorem dL_act_15 : decode cL_act 15 = .ok (.iload_n 2, 1) := by decide +kernel
theorem dL_act_16 : decode cL_act 16 = .ok (.iconst 3, 1) := by decide +kernel
theorem dL_act_17 : decode cL_act 17 = .ok (.if_icmp .ge 93, 3) := by decide +kernel
theorem dL_act_20 : decode cL_act 20 = .ok (.iload_n 2, 1) := by decide +kernel
theorem dL_act_21 : decode cL_act 21 = .ok (.ifCond .ne 12, 3) := by decide +kernel
theorem dL_act_24 : decode cL_act 24 = .ok (.iload_n 3, 1) := by decide +kernel
theorem dL_act_25 : decode cL_act 25 = .ok (.iconst 3, 1) := by decide +kernel
theorem dL_act_26 : decode cL_act 26 = .ok (.idiv, 1) := by decide +kernel
theorem dL_act_27 : decode cL_act 27 = .ok (.bipush 64, 2) := by decide +kernel
theorem dL_act_29 : decode cL_act 29 = .ok (.irem, 1) := by decide +kernel
theorem dL_act_30 : decode cL_act 30 = .ok (.goto 10, 3) := by decide +kernel
theorem dL_act_33 : decode cL_act 33 = .ok (.aload_n 0, 1) := by decide +kernel
theorem dL_act_34 : decode cL_act 34 = .ok (.iload 4, 2) := by decide +kernel
theorem dL_act_36 : decode cL_act 36 = .ok (.iconst 0, 1) := by decide +kernel
theorem dL_act_37 : decode cL_act 37 = .ok (.invokevirtual 20, 3) := by decide +kernel
theorem dL_act_40 : decode cL_act 40 = .ok (.istore 5, 2) := by decide +kernel
theorem dL_act_42 : decode cL_act 42 = .ok (.aload_n 0, 1) := by decide +kernel
theorem dL_act_43 : decode cL_act 43 = .ok (.iload 5, 2) := by decide +kernel
theorem dL_act_45 : decode cL_act 45 = .ok (.iconst 0, 1) := by decide +kernel
theorem dL_act_46 : decode cL_act 46 = .ok (.invokevirtual 27, 3) := by decide +kernel
theorem dL_act_49 : decode cL_act 49 = .ok (.istore 6, 2) := by decide +kernel
theorem dL_act_51 : decode cL_act 51 = .ok (.iload_n 3, 1) := by decide +kernel
theorem dL_act_52 : decode cL_act 52 = .ok (.sipush 200, 3) := by decide +kernel
theorem dL_act_55 : decode cL_act 55 = .ok (.idiv, 1) := by decide +kernel
theorem dL_act_56 : decode cL_act 56 = .ok (.bipush 100, 2) := by decide +kernel
theorem dL_act_58 : decode cL_act 58 = .ok (.irem, 1) := by decide +kernel
theorem dL_act_59 : decode cL_act 59 = .ok (.istore 7, 2) := by decide +kernel
theorem dL_act_61 : decode cL_act 61 = .ok (.aload_n 0, 1) := by decide +kernel
theorem dL_act_62 : decode cL_act 62 = .ok (.iload 5, 2) := by decide +kernel
theorem dL_act_64 : decode cL_act 64 = .ok (.iload 7, 2) := by decide +kernel
theorem dL_act_66 : decode cL_act 66 = .ok (.invokevirtual 48, 3) := by decide +kernel
theorem dL_act_69 : decode cL_act 69 = .ok (.istore 8, 2) := by decide +kernel
theorem dL_act_71 : decode cL_act 71 = .ok (.iload 8, 2) := by decide +kernel
theorem dL_act_73 : decode cL_act 73 = .ok (.iload 6, 2) := by decide +kernel
theorem dL_act_75 : decode cL_act 75 = .ok (.iload 7, 2) := by decide +kernel
theorem dL_act_77 : decode cL_act 77 = .ok (.if_icmp .ne 8, 3) := by decide +kernel
theorem dL_act_80 : decode cL_act 80 = .ok (.bipush (-5), 2) := by decide +kernel
theorem dL_act_82 : decode cL_act 82 = .ok (.goto 5, 3) := by decide +kernel
theorem dL_act_85 : decode cL_act 85 = .ok (.iload 6, 2) := by decide +kernel
theorem dL_act_87 : decode cL_act 87 = .ok (.if_icmp .ne 20, 3) := by decide +kernel
theorem dL_act_90 : decode cL_act 90 = .ok (.aload_n 0, 1) := by decide +kernel
theorem dL_act_91 : decode cL_act 91 = .ok (.iload 5, 2) := by decide +kernel
theorem dL_act_93 : decode cL_act 93 = .ok (.iconst 0, 1) := by decide +kernel
theorem dL_act_94 : decode cL_act 94 = .ok (.invokevirtual 27, 3) := by decide +kernel
theorem dL_act_97 : decode cL_act 97 = .ok (.iload 7, 2) := by decide +kernel
theorem dL_act_99 : decode cL_act 99 = .ok (.if_icmp .ne 8, 3) := by decide +kernel
theorem dL_act_102 : decode cL_act 102 = .ok (.iload 8, 2) := by decide +kernel
theorem dL_act_104 : decode cL_act 104 = .ok (.goto 5, 3) := by decide +kernel
theorem dL_act_107 : decode cL_act 107 = .ok (.bipush (-9), 2) := by decide +kernel
theorem dL_act_109 : decode cL_act 109 = .ok (.ireturn, 1) := by decide +kernel
theorem dL_act_110 : decode cL_act 110 = .ok (.iload_n 2, 1) := by decide +kernel
theorem dL_act_111 : decode cL_act 111 = .ok (.bipush 6, 2) := by decide +kernel
theorem dL_act_113 : decode cL_act 113 = .ok (.if_icmp .ge 54, 3) := by decide +kernel
theorem dL_act_116 : decode cL_act 116 = .ok (.aload_n 0, 1) := by decide +kernel
theorem dL_act_117 : decode cL_act 117 = .ok (.iload 4, 2) := by decide +kernel
theorem dL_act_119 : decode cL_act 119 = .ok (.iload_n 3, 1) := by decide +kernel
theorem dL_act_120 : decode cL_act 120 = .ok (.iconst 3, 1) := by decide +kernel
theorem dL_act_121 : decode cL_act 121 = .ok (.idiv, 1) := by decide +kernel
theorem dL_act_122 : decode cL_act 122 = .ok (.iconst 3, 1) := by decide +kernel
theorem dL_act_123 : decode cL_act 123 = .ok (.irem, 1) := by decide +kernel
theorem dL_act_124 : decode cL_act 124 = .ok (.ifCond .ne 13, 3) := by decide +kernel
theorem dL_act_127 : decode cL_act 127 = .ok (.iload_n 3, 1) := by decide +kernel
theorem dL_act_128 : decode cL_act 128 = .ok (.bipush 9, 2) := by decide +kernel
theorem dL_act_130 : decode cL_act 130 = .ok (.idiv, 1) := by decide +kernel
theorem dL_act_131 : decode cL_act 131 = .ok (.bipush 64, 2) := by decide +kernel
theorem dL_act_133 : decode cL_act 133 = .ok (.irem, 1) := by decide +kernel
theorem dL_act_134 : decode cL_act 134 = .ok (.goto 29, 3) := by decide +kernel
theorem dL_act_137 : decode cL_act 137 = .ok (.aload_n 0, 1) := by decide +kernel
theorem dL_act_138 : decode cL_act 138 = .ok (.iload 4, 2) := by decide +kernel
theorem dL_act_140 : decode cL_act 140 = .ok (.iconst 0, 1) := by decide +kernel
theorem dL_act_141 : decode cL_act 141 = .ok (.invokevirtual 20, 3) := by decide +kernel
theorem dL_act_144 : decode cL_act 144 = .ok (.iload_n 3, 1) := by decide +kernel
theorem dL_act_145 : decode cL_act 145 = .ok (.bipush 9, 2) := by decide +kernel
theorem dL_act_147 : decode cL_act 147 = .ok (.idiv, 1) := by decide +kernel
theorem dL_act_148 : decode cL_act 148 = .ok (.iconst 2, 1) := by decide +kernel
theorem dL_act_149 : decode cL_act 149 = .ok (.irem, 1) := by decide +kernel
theorem dL_act_150 : decode cL_act 150 = .ok (.ifCond .ne 7, 3) := by decide +kernel
theorem dL_act_153 : decode cL_act 153 = .ok (.iconst 1, 1) := by decide +kernel
theorem dL_act_154 : decode cL_act 154 = .ok (.goto 5, 3) := by decide +kernel
theorem dL_act_157 : decode cL_act 157 = .ok (.bipush 8, 2) := by decide +kernel
theorem dL_act_159 : decode cL_act 159 = .ok (.iadd, 1) := by decide +kernel
theorem dL_act_160 : decode cL_act 160 = .ok (.bipush 64, 2) := by decide +kernel
theorem dL_act_162 : decode cL_act 162 = .ok (.irem, 1) := by decide +kernel
theorem dL_act_163 : decode cL_act 163 = .ok (.invokestatic 92, 3) := by decide +kernel
theorem dL_act_166 : decode cL_act 166 = .ok (.ireturn, 1) := by decide +kernel
theorem dL_act_167 : decode cL_act 167 = .ok (.iload_n 2, 1) := by decide +kernel
theorem dL_act_168 : decode cL_act 168 = .ok (.bipush 9, 2) := by decide +kernel
theorem dL_act_170 : decode cL_act 170 = .ok (.if_icmp .ge 10, 3) := by decide +kernel
theorem dL_act_173 : decode cL_act 173 = .ok (.aload_n 0, 1) := by decide +kernel
theorem dL_act_174 : decode cL_act 174 = .ok (.iload 4, 2) := by decide +kernel
theorem dL_act_176 : decode cL_act 176 = .ok (.invokestatic 95, 3) := by decide +kernel
theorem dL_act_179 : decode cL_act 179 = .ok (.ireturn, 1) := by decide +kernel
theorem dL_act_180 : decode cL_act 180 = .ok (.iload_n 2, 1) := by decide +kernel
theorem dL_act_181 : decode cL_act 181 = .ok (.bipush 12, 2) := by decide +kernel
theorem dL_act_183 : decode cL_act 183 = .ok (.if_icmp .ge 19, 3) := by decide +kernel
theorem dL_act_186 : decode cL_act 186 = .ok (.aload_n 0, 1) := by decide +kernel
theorem dL_act_187 : decode cL_act 187 = .ok (.iload_n 3, 1) := by decide +kernel
theorem dL_act_188 : decode cL_act 188 = .ok (.bipush 8, 2) := by decide +kernel
theorem dL_act_190 : decode cL_act 190 = .ok (.irem, 1) := by decide +kernel
theorem dL_act_191 : decode cL_act 191 = .ok (.iload_n 3, 1) := by decide +kernel
theorem dL_act_192 : decode cL_act 192 = .ok (.bipush 8, 2) := by decide +kernel
theorem dL_act_194 : decode cL_act 194 = .ok (.idiv, 1) := by decide +kernel
theorem dL_act_195 : decode cL_act 195 = .ok (.bipush 8, 2) := by decide +kernel
theorem dL_act_197 : decode cL_act 197 = .ok (.irem, 1) := by decide +kernel
theorem dL_act_198 : decode cL_act 198 = .ok (.invokestatic 98, 3) := by decide +kernel
theorem dL_act_201 : decode cL_act 201 = .ok (.ireturn, 1) := by decide +kernel
theorem dL_act_202 : decode cL_act 202 = .ok (.iload_n 2, 1) := by decide +kernel
theorem dL_act_203 : decode cL_act 203 = .ok (.bipush 12, 2) := by decide +kernel
