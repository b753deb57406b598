theorem dX0_init_0 : decode cX0_init 0 = .ok (.aload_n 0, 1) := by decide +kernel
theorem dX0_init_1 : decode cX0_init 1 = .ok (.invokespecial 3, 3) := by decide +kernel
theorem dX0_init_4 : decode cX0_init 4 = .ok (.aload_n 0, 1) := by decide +kernel
theorem dX0_init_5 : decode cX0_init 5 = .ok (.bipush 60, 2) := by decide +kernel
theorem dX0_init_7 : decode cX0_init 7 = .ok (.newarray .char, 2) := by decide +kernel
theorem dX0_init_9 : decode cX0_init 9 = .ok (.putfield 9, 3) := by decide +kernel
theorem dX0_init_12 : decode cX0_init 12 = .ok (.return_, 1) := by decide +kernel
theorem dX0_empty_0 : decode cX0_empty 0 = .ok (.aload_n 0, 1) := by decide +kernel
theorem dX0_empty_1 : decode cX0_empty 1 = .ok (.getfield 15, 3) := by decide +kernel
theorem dX0_empty_4 : decode cX0_empty 4 = .ok (.istore_n 1, 1) := by decide +kernel
theorem dX0_empty_5 : decode cX0_empty 5 = .ok (.aload_n 0, 1) := by decide +kernel
theorem dX0_empty_6 : decode cX0_empty 6 = .ok (.iconst 0, 1) := by decide +kernel
theorem dX0_empty_7 : decode cX0_empty 7 = .ok (.putfield 15, 3) := by decide +kernel
theorem dX0_empty_10 : decode cX0_empty 10 = .ok (.iload_n 1, 1) := by decide +kernel
theorem dX0_empty_11 : decode cX0_empty 11 = .ok (.ireturn, 1) := by decide +kernel
theorem dX0_countThings_0 : decode cX0_countThings 0 = .ok (.aload_n 0, 1) := by decide +kernel
theorem dX0_countThings_1 : decode cX0_countThings 1 = .ok (.invokevirtual 19, 3) := by decide +kernel
theorem dX0_countThings_4 : decode cX0_countThings 4 = .ok (.iconst 1, 1) := by decide +kernel
theorem dX0_countThings_5 : decode cX0_countThings 5 = .ok (.istore_n 1, 1) := by decide +kernel
theorem dX0_countThings_6 : decode cX0_countThings 6 = .ok (.iload_n 1, 1) := by decide +kernel
theorem dX0_countThings_7 : decode cX0_countThings 7 = .ok (.bipush 60, 2) := by decide +kernel
theorem dX0_countThings_9 : decode cX0_countThings 9 = .ok (.if_icmp .gt 41, 3) := by decide +kernel
theorem dX0_countThings_12 : decode cX0_countThings 12 = .ok (.aload_n 0, 1) := by decide +kernel
theorem dX0_countThings_13 : decode cX0_countThings 13 = .ok (.invokevirtual 22, 3) := by decide +kernel
theorem dX0_countThings_16 : decode cX0_countThings 16 = .ok (.ifCond .eq 34, 3) := by decide +kernel
theorem dX0_countThings_19 : decode cX0_countThings 19 = .ok (.aload_n 0, 1) := by decide +kernel
theorem dX0_countThings_20 : decode cX0_countThings 20 = .ok (.getfield 26, 3) := by decide +kernel
theorem dX0_countThings_23 : decode cX0_countThings 23 = .ok (.aload_n 0, 1) := by decide +kernel
theorem dX0_countThings_24 : decode cX0_countThings 24 = .ok (.getfield 15, 3) := by decide +kernel
theorem dX0_countThings_27 : decode cX0_countThings 27 = .ok (.if_icmp .ne 5, 3) := by decide +kernel
theorem dX0_countThings_30 : decode cX0_countThings 30 = .ok (.iload_n 1, 1) := by decide +kernel
theorem dX0_countThings_31 : decode cX0_countThings 31 = .ok (.ireturn, 1) := by decide +kernel
theorem dX0_countThings_32 : decode cX0_countThings 32 = .ok (.aload_n 0, 1) := by decide +kernel
theorem dX0_countThings_33 : decode cX0_countThings 33 = .ok (.bipush 59, 2) := by decide +kernel
theorem dX0_countThings_35 : decode cX0_countThings 35 = .ok (.invokevirtual 29, 3) := by decide +kernel
theorem dX0_countThings_38 : decode cX0_countThings 38 = .ok (.ifCond .ne 6, 3) := by decide +kernel
theorem dX0_countThings_41 : decode cX0_countThings 41 = .ok (.goto 9, 3) := by decide +kernel
theorem dX0_countThings_44 : decode cX0_countThings 44 = .ok (.iinc 1 1, 3) := by decide +kernel
theorem dX0_countThings_47 : decode cX0_countThings 47 = .ok (.goto (-41), 3) := by decide +kernel
theorem dX0_countThings_50 : decode cX0_countThings 50 = .ok (.bipush (-100), 2) := by decide +kernel
theorem dX0_countThings_52 : decode cX0_countThings 52 = .ok (.aload_n 0, 1) := by decide +kernel
theorem dX0_countThings_53 : decode cX0_countThings 53 = .ok (.getfield 26, 3) := by decide +kernel
theorem dX0_countThings_56 : decode cX0_countThings 56 = .ok (.isub, 1) := by decide +kernel
theorem dX0_countThings_57 : decode cX0_countThings 57 = .ok (.ireturn, 1) := by decide +kernel
theorem dX0_startOver_0 : decode cX0_startOver 0 = .ok (.aload_n 0, 1) := by decide +kernel
theorem dX0_startOver_1 : decode cX0_startOver 1 = .ok (.iconst 0, 1) := by decide +kernel
theorem dX0_startOver_2 : decode cX0_startOver 2 = .ok (.putfield 26, 3) := by decide +kernel
theorem dX0_startOver_5 : decode cX0_startOver 5 = .ok (.return_, 1) := by decide +kernel
theorem dX0_readNext_0 : decode cX0_readNext 0 = .ok (.aload_n 0, 1) := by decide +kernel
theorem dX0_readNext_1 : decode cX0_readNext 1 = .ok (.bipush 59, 2) := by decide +kernel
theorem dX0_readNext_3 : decode cX0_readNext 3 = .ok (.invokevirtual 29, 3) := by decide +kernel
theorem dX0_readNext_6 : decode cX0_readNext 6 = .ok (.pop, 1) := by decide +kernel
theorem dX0_readNext_7 : decode cX0_readNext 7 = .ok (.aload_n 0, 1) := by decide +kernel
theorem dX0_readNext_8 : decode cX0_readNext 8 = .ok (.invokevirtual 22, 3) := by decide +kernel
theorem dX0_readNext_11 : decode cX0_readNext 11 = .ok (.pop, 1) := by decide +kernel
theorem dX0_readNext_12 : decode cX0_readNext 12 = .ok (.return_, 1) := by decide +kernel
theorem dX0_readThing_0 : decode cX0_readThing 0 = .ok (.aload_n 0, 1) := by decide +kernel
theorem dX0_readThing_1 : decode cX0_readThing 1 = .ok (.bipush 116, 2) := by decide +kernel
theorem dX0_readThing_3 : decode cX0_readThing 3 = .ok (.invokevirtual 33, 3) := by decide +kernel
theorem dX0_readThing_6 : decode cX0_readThing 6 = .ok (.ifCond .eq 37, 3) := by decide +kernel
theorem dX0_readThing_9 : decode cX0_readThing 9 = .ok (.aload_n 0, 1) := by decide +kernel
theorem dX0_readThing_10 : decode cX0_readThing 10 = .ok (.iconst 0, 1) := by decide +kernel
theorem dX0_readThing_11 : decode cX0_readThing 11 = .ok (.bipush 63, 2) := by decide +kernel
theorem dX0_readThing_13 : decode cX0_readThing 13 = .ok (.invokevirtual 36, 3) := by decide +kernel
theorem dX0_readThing_16 : decode cX0_readThing 16 = .ok (.ifCond .eq 25, 3) := by decide +kernel
theorem dX0_readThing_19 : decode cX0_readThing 19 = .ok (.aload_n 0, 1) := by decide +kernel
theorem dX0_readThing_20 : decode cX0_readThing 20 = .ok (.bipush 61, 2) := by decide +kernel
theorem dX0_readThing_22 : decode cX0_readThing 22 = .ok (.invokevirtual 29, 3) := by decide +kernel
theorem dX0_readThing_25 : decode cX0_readThing 25 = .ok (.ifCond .eq 16, 3) := by decide +kernel
theorem dX0_readThing_28 : decode cX0_readThing 28 = .ok (.aload_n 0, 1) := by decide +kernel
theorem dX0_readThing_29 : decode cX0_readThing 29 = .ok (.bipush 99, 2) := by decide +kernel
theorem dX0_readThing_31 : decode cX0_readThing 31 = .ok (.invokevirtual 40, 3) := by decide +kernel
theorem dX0_readThing_34 : decode cX0_readThing 34 = .ok (.ifCond .eq 7, 3) := by decide +kernel
theorem dX0_readThing_37 : decode cX0_readThing 37 = .ok (.iconst 1, 1) := by decide +kernel
theorem dX0_readThing_38 : decode cX0_readThing 38 = .ok (.goto 4, 3) := by decide +kernel
theorem dX0_readThing_41 : decode cX0_readThing 41 = .ok (.iconst 0, 1) := by decide +kernel
theorem dX0_readThing_42 : decode cX0_readThing 42 = .ok (.ireturn, 1) := by decide +kernel
theorem dX0_readThing_43 : decode cX0_readThing 43 = .ok (.aload_n 0, 1) := by decide +kernel
theorem dX0_readThing_44 : decode cX0_readThing 44 = .ok (.bipush 114, 2) := by decide +kernel
theorem dX0_readThing_46 : decode cX0_readThing 46 = .ok (.invokevirtual 33, 3) := by decide +kernel
theorem dX0_readThing_49 : decode cX0_readThing 49 = .ok (.ifCond .eq 11, 3) := by decide +kernel
theorem dX0_readThing_52 : decode cX0_readThing 52 = .ok (.aload_n 0, 1) := by decide +kernel
theorem dX0_readThing_53 : decode cX0_readThing 53 = .ok (.iconst 1, 1) := by decide +kernel
theorem dX0_readThing_54 : decode cX0_readThing 54 = .ok (.bipush 9, 2) := by decide +kernel
theorem dX0_readThing_56 : decode cX0_readThing 56 = .ok (.invokevirtual 36, 3) := by decide +kernel
theorem dX0_readThing_59 : decode cX0_readThing 59 = .ok (.ireturn, 1) := by decide +kernel
theorem dX0_readThing_60 : decode cX0_readThing 60 = .ok (.aload_n 0, 1) := by decide +kernel
theorem dX0_readThing_61 : decode cX0_readThing 61 = .ok (.bipush 104, 2) := by decide +kernel
theorem dX0_readThing_63 : decode cX0_readThing 63 = .ok (.invokevirtual 33, 3) := by decide +kernel
theorem dX0_readThing_66 : decode cX0_readThing 66 = .ok (.ifCond .eq 37, 3) := by decide +kernel
theorem dX0_readThing_69 : decode cX0_readThing 69 = .ok (.aload_n 0, 1) := by decide +kernel
theorem dX0_readThing_70 : decode cX0_readThing 70 = .ok (.iconst 0, 1) := by decide +kernel
theorem dX0_readThing_71 : decode cX0_readThing 71 = .ok (.bipush 7, 2) := by decide +kernel
theorem dX0_readThing_73 : decode cX0_readThing 73 = .ok (.invokevirtual 36, 3) := by decide +kernel
theorem dX0_readThing_76 : decode cX0_readThing 76 = .ok (.ifCond .eq 25, 3) := by decide +kernel
theorem dX0_readThing_79 : decode cX0_readThing 79 = .ok (.aload_n 0, 1) := by decide +kernel
theorem dX0_readThing_80 : decode cX0_readThing 80 = .ok (.bipush 58, 2) := by decide +kernel
theorem dX0_readThing_82 : decode cX0_readThing 82 = .ok (.invokevirtual 29, 3) := by decide +kernel
theorem dX0_readThing_85 : decode cX0_readThing 85 = .ok (.ifCond .eq 16, 3) := by decide +kernel
theorem dX0_readThing_88 : decode cX0_readThing 88 = .ok (.aload_n 0, 1) := by decide +kernel
theorem dX0_readThing_89 : decode cX0_readThing 89 = .ok (.bipush 7, 2) := by decide +kernel
theorem dX0_readThing_91 : decode cX0_readThing 91 = .ok (.invokevirtual 40, 3) := by decide +kernel
theorem dX0_readThing_94 : decode cX0_readThing 94 = .ok (.ifCond .eq 7, 3) := by decide +kernel
theorem dX0_readThing_97 : decode cX0_readThing 97 = .ok (.iconst 1, 1) := by decide +kernel
theorem dX0_readThing_98 : decode cX0_readThing 98 = .ok (.goto 4, 3) := by decide +kernel
theorem dX0_readThing_101 : decode cX0_readThing 101 = .ok (.iconst 0, 1) := by decide +kernel
theorem dX0_readThing_102 : decode cX0_readThing 102 = .ok (.ireturn, 1) := by decide +kernel
theorem dX0_readThing_103 : decode cX0_readThing 103 = .ok (.aload_n 0, 1) := by decide +kernel
theorem dX0_readThing_104 : decode cX0_readThing 104 = .ok (.bipush 103, 2) := by decide +kernel
theorem dX0_readThing_106 : decode cX0_readThing 106 = .ok (.invokevirtual 33, 3) := by decide +kernel
theorem dX0_readThing_109 : decode cX0_readThing 109 = .ok (.ifCond .eq 36, 3) := by decide +kernel
theorem dX0_readThing_112 : decode cX0_readThing 112 = .ok (.aload_n 0, 1) := by decide +kernel
theorem dX0_readThing_113 : decode cX0_readThing 113 = .ok (.iconst 0, 1) := by decide +kernel
theorem dX0_readThing_114 : decode cX0_readThing 114 = .ok (.iconst 2, 1) := by decide +kernel
theorem dX0_readThing_115 : decode cX0_readThing 115 = .ok (.invokevirtual 36, 3) := by decide +kernel
theorem dX0_readThing_118 : decode cX0_readThing 118 = .ok (.ifCond .eq 25, 3) := by decide +kernel
theorem dX0_readThing_121 : decode cX0_readThing 121 = .ok (.aload_n 0, 1) := by decide +kernel
theorem dX0_readThing_122 : decode cX0_readThing 122 = .ok (.bipush 62, 2) := by decide +kernel
theorem dX0_readThing_124 : decode cX0_readThing 124 = .ok (.invokevirtual 29, 3) := by decide +kernel
theorem dX0_readThing_127 : decode cX0_readThing 127 = .ok (.ifCond .eq 16, 3) := by decide +kernel
theorem dX0_readThing_130 : decode cX0_readThing 130 = .ok (.aload_n 0, 1) := by decide +kernel
theorem dX0_readThing_131 : decode cX0_readThing 131 = .ok (.bipush 63, 2) := by decide +kernel
theorem dX0_readThing_133 : decode cX0_readThing 133 = .ok (.invokevirtual 40, 3) := by decide +kernel
theorem dX0_readThing_136 : decode cX0_readThing 136 = .ok (.ifCond .eq 7, 3) := by decide +kernel
theorem dX0_readThing_139 : decode cX0_readThing 139 = .ok (.iconst 1, 1) := by decide +kernel
theorem dX0_readThing_140 : decode cX0_readThing 140 = .ok (.goto 4, 3) := by decide +kernel
theorem dX0_readThing_143 : decode cX0_readThing 143 = .ok (.iconst 0, 1) := by decide +kernel
theorem dX0_readThing_144 : decode cX0_readThing 144 = .ok (.ireturn, 1) := by decide +kernel
theorem dX0_readThing_145 : decode cX0_readThing 145 = .ok (.aload_n 0, 1) := by decide +kernel
theorem dX0_readThing_146 : decode cX0_readThing 146 = .ok (.bipush 102, 2) := by decide +kernel
theorem dX0_readThing_148 : decode cX0_readThing 148 = .ok (.invokevirtual 33, 3) := by decide +kernel
theorem dX0_readThing_151 : decode cX0_readThing 151 = .ok (.ifCond .eq 10, 3) := by decide +kernel
theorem dX0_readThing_154 : decode cX0_readThing 154 = .ok (.aload_n 0, 1) := by decide +kernel
theorem dX0_readThing_155 : decode cX0_readThing 155 = .ok (.iconst 0, 1) := by decide +kernel
theorem dX0_readThing_156 : decode cX0_readThing 156 = .ok (.iconst 2, 1) := by decide +kernel
theorem dX0_readThing_157 : decode cX0_readThing 157 = .ok (.invokevirtual 36, 3) := by decide +kernel
theorem dX0_readThing_160 : decode cX0_readThing 160 = .ok (.ireturn, 1) := by decide +kernel
theorem dX0_readThing_161 : decode cX0_readThing 161 = .ok (.aload_n 0, 1) := by decide +kernel
theorem dX0_readThing_162 : decode cX0_readThing 162 = .ok (.bipush 46, 2) := by decide +kernel
theorem dX0_readThing_164 : decode cX0_readThing 164 = .ok (.invokevirtual 33, 3) := by decide +kernel
theorem dX0_readThing_167 : decode cX0_readThing 167 = .ok (.ifCond .eq 17, 3) := by decide +kernel
theorem dX0_readThing_170 : decode cX0_readThing 170 = .ok (.aload_n 0, 1) := by decide +kernel
theorem dX0_readThing_171 : decode cX0_readThing 171 = .ok (.iconst 1, 1) := by decide +kernel
theorem dX0_readThing_172 : decode cX0_readThing 172 = .ok (.bipush 99, 2) := by decide +kernel
theorem dX0_readThing_174 : decode cX0_readThing 174 = .ok (.invokevirtual 36, 3) := by decide +kernel
theorem dX0_readThing_177 : decode cX0_readThing 177 = .ok (.ifCond .eq 7, 3) := by decide +kernel
theorem dX0_readThing_180 : decode cX0_readThing 180 = .ok (.iconst 1, 1) := by decide +kernel
theorem dX0_readThing_181 : decode cX0_readThing 181 = .ok (.goto 4, 3) := by decide +kernel
theorem dX0_readThing_184 : decode cX0_readThing 184 = .ok (.iconst 0, 1) := by decide +kernel
theorem dX0_readThing_185 : decode cX0_readThing 185 = .ok (.ireturn, 1) := by decide +kernel
theorem dX0_readKind_0 : decode cX0_readKind 0 = .ok (.aload_n 0, 1) := by decide +kernel
theorem dX0_readKind_1 : decode cX0_readKind 1 = .ok (.iload_n 1, 1) := by decide +kernel
theorem dX0_readKind_2 : decode cX0_readKind 2 = .ok (.invokevirtual 29, 3) := by decide +kernel
theorem dX0_readKind_5 : decode cX0_readKind 5 = .ok (.ifCond .ne 5, 3) := by decide +kernel
theorem dX0_readKind_8 : decode cX0_readKind 8 = .ok (.iconst 0, 1) := by decide +kernel
theorem dX0_readKind_9 : decode cX0_readKind 9 = .ok (.ireturn, 1) := by decide +kernel
theorem dX0_readKind_10 : decode cX0_readKind 10 = .ok (.aload_n 0, 1) := by decide +kernel
theorem dX0_readKind_11 : decode cX0_readKind 11 = .ok (.iload_n 1, 1) := by decide +kernel
theorem dX0_readKind_12 : decode cX0_readKind 12 = .ok (.putfield 44, 3) := by decide +kernel
theorem dX0_readKind_15 : decode cX0_readKind 15 = .ok (.iconst 1, 1) := by decide +kernel
theorem dX0_readKind_16 : decode cX0_readKind 16 = .ok (.ireturn, 1) := by decide +kernel
theorem dX0_readSign_0 : decode cX0_readSign 0 = .ok (.aload_n 0, 1) := by decide +kernel
theorem dX0_readSign_1 : decode cX0_readSign 1 = .ok (.getfield 26, 3) := by decide +kernel
theorem dX0_readSign_4 : decode cX0_readSign 4 = .ok (.aload_n 0, 1) := by decide +kernel
theorem dX0_readSign_5 : decode cX0_readSign 5 = .ok (.getfield 15, 3) := by decide +kernel
theorem dX0_readSign_8 : decode cX0_readSign 8 = .ok (.if_icmp .ge 16, 3) := by decide +kernel
theorem dX0_readSign_11 : decode cX0_readSign 11 = .ok (.aload_n 0, 1) := by decide +kernel
theorem dX0_readSign_12 : decode cX0_readSign 12 = .ok (.getfield 9, 3) := by decide +kernel
theorem dX0_readSign_15 : decode cX0_readSign 15 = .ok (.aload_n 0, 1) := by decide +kernel
theorem dX0_readSign_16 : decode cX0_readSign 16 = .ok (.getfield 26, 3) := by decide +kernel
theorem dX0_readSign_19 : decode cX0_readSign 19 = .ok (.caload, 1) := by decide +kernel
theorem dX0_readSign_20 : decode cX0_readSign 20 = .ok (.iload_n 1, 1) := by decide +kernel
theorem dX0_readSign_21 : decode cX0_readSign 21 = .ok (.if_icmp .eq 5, 3) := by decide +kernel
theorem dX0_readSign_24 : decode cX0_readSign 24 = .ok (.iconst 0, 1) := by decide +kernel
theorem dX0_readSign_25 : decode cX0_readSign 25 = .ok (.ireturn, 1) := by decide +kernel
theorem dX0_readSign_26 : decode cX0_readSign 26 = .ok (.aload_n 0, 1) := by decide +kernel
theorem dX0_readSign_27 : decode cX0_readSign 27 = .ok (.dup, 1) := by decide +kernel
theorem dX0_readSign_28 : decode cX0_readSign 28 = .ok (.getfield 26, 3) := by decide +kernel
theorem dX0_readSign_31 : decode cX0_readSign 31 = .ok (.iconst 1, 1) := by decide +kernel
theorem dX0_readSign_32 : decode cX0_readSign 32 = .ok (.iadd, 1) := by decide +kernel
theorem dX0_readSign_33 : decode cX0_readSign 33 = .ok (.putfield 26, 3) := by decide +kernel
theorem dX0_readSign_36 : decode cX0_readSign 36 = .ok (.iconst 1, 1) := by decide +kernel
theorem dX0_readSign_37 : decode cX0_readSign 37 = .ok (.ireturn, 1) := by decide +kernel
theorem dX0_readFirst_0 : decode cX0_readFirst 0 = .ok (.aload_n 0, 1) := by decide +kernel
theorem dX0_readFirst_1 : decode cX0_readFirst 1 = .ok (.aload_n 0, 1) := by decide +kernel
theorem dX0_readFirst_2 : decode cX0_readFirst 2 = .ok (.iload_n 1, 1) := by decide +kernel
theorem dX0_readFirst_3 : decode cX0_readFirst 3 = .ok (.iload_n 2, 1) := by decide +kernel
theorem dX0_readFirst_4 : decode cX0_readFirst 4 = .ok (.invokevirtual 48, 3) := by decide +kernel
theorem dX0_readFirst_7 : decode cX0_readFirst 7 = .ok (.putfield 52, 3) := by decide +kernel
theorem dX0_readFirst_10 : decode cX0_readFirst 10 = .ok (.aload_n 0, 1) := by decide +kernel
theorem dX0_readFirst_11 : decode cX0_readFirst 11 = .ok (.getfield 52, 3) := by decide +kernel
theorem dX0_readFirst_14 : decode cX0_readFirst 14 = .ok (.iconst (-1), 1) := by decide +kernel
theorem dX0_readFirst_15 : decode cX0_readFirst 15 = .ok (.if_icmp .eq 7, 3) := by decide +kernel
theorem dX0_readFirst_18 : decode cX0_readFirst 18 = .ok (.iconst 1, 1) := by decide +kernel
theorem dX0_readFirst_19 : decode cX0_readFirst 19 = .ok (.goto 4, 3) := by decide +kernel
theorem dX0_readFirst_22 : decode cX0_readFirst 22 = .ok (.iconst 0, 1) := by decide +kernel
theorem dX0_readFirst_23 : decode cX0_readFirst 23 = .ok (.ireturn, 1) := by decide +kernel
theorem dX0_readSecond_0 : decode cX0_readSecond 0 = .ok (.aload_n 0, 1) := by decide +kernel
theorem dX0_readSecond_1 : decode cX0_readSecond 1 = .ok (.aload_n 0, 1) := by decide +kernel
theorem dX0_readSecond_2 : decode cX0_readSecond 2 = .ok (.iconst 0, 1) := by decide +kernel
theorem dX0_readSecond_3 : decode cX0_readSecond 3 = .ok (.iload_n 1, 1) := by decide +kernel
theorem dX0_readSecond_4 : decode cX0_readSecond 4 = .ok (.invokevirtual 48, 3) := by decide +kernel
theorem dX0_readSecond_7 : decode cX0_readSecond 7 = .ok (.putfield 55, 3) := by decide +kernel
theorem dX0_readSecond_10 : decode cX0_readSecond 10 = .ok (.aload_n 0, 1) := by decide +kernel
theorem dX0_readSecond_11 : decode cX0_readSecond 11 = .ok (.getfield 55, 3) := by decide +kernel
theorem dX0_readSecond_14 : decode cX0_readSecond 14 = .ok (.iconst (-1), 1) := by decide +kernel
theorem dX0_readSecond_15 : decode cX0_readSecond 15 = .ok (.if_icmp .eq 7, 3) := by decide +kernel
theorem dX0_readSecond_18 : decode cX0_readSecond 18 = .ok (.iconst 1, 1) := by decide +kernel
theorem dX0_readSecond_19 : decode cX0_readSecond 19 = .ok (.goto 4, 3) := by decide +kernel
theorem dX0_readSecond_22 : decode cX0_readSecond 22 = .ok (.iconst 0, 1) := by decide +kernel
theorem dX0_readSecond_23 : decode cX0_readSecond 23 = .ok (.ireturn, 1) := by decide +kernel
theorem dX0_readNumber_0 : decode cX0_readNumber 0 = .ok (.aload_n 0, 1) := by decide +kernel
theorem dX0_readNumber_1 : decode cX0_readNumber 1 = .ok (.invokevirtual 58, 3) := by decide +kernel
theorem dX0_readNumber_4 : decode cX0_readNumber 4 = .ok (.istore_n 3, 1) := by decide +kernel
theorem dX0_readNumber_5 : decode cX0_readNumber 5 = .ok (.iload_n 3, 1) := by decide +kernel
theorem dX0_readNumber_6 : decode cX0_readNumber 6 = .ok (.iload_n 1, 1) := by decide +kernel
theorem dX0_readNumber_7 : decode cX0_readNumber 7 = .ok (.iload_n 2, 1) := by decide +kernel
theorem dX0_readNumber_8 : decode cX0_readNumber 8 = .ok (.invokestatic 62, 3) := by decide +kernel
theorem dX0_readNumber_11 : decode cX0_readNumber 11 = .ok (.ifCond .ne 5, 3) := by decide +kernel
theorem dX0_readNumber_14 : decode cX0_readNumber 14 = .ok (.iconst (-1), 1) := by decide +kernel
theorem dX0_readNumber_15 : decode cX0_readNumber 15 = .ok (.ireturn, 1) := by decide +kernel
theorem dX0_readNumber_16 : decode cX0_readNumber 16 = .ok (.aload_n 0, 1) := by decide +kernel
theorem dX0_readNumber_17 : decode cX0_readNumber 17 = .ok (.dup, 1) := by decide +kernel
theorem dX0_readNumber_18 : decode cX0_readNumber 18 = .ok (.getfield 26, 3) := by decide +kernel
theorem dX0_readNumber_21 : decode cX0_readNumber 21 = .ok (.iconst 1, 1) := by decide +kernel
theorem dX0_readNumber_22 : decode cX0_readNumber 22 = .ok (.iadd, 1) := by decide +kernel
theorem dX0_readNumber_23 : decode cX0_readNumber 23 = .ok (.putfield 26, 3) := by decide +kernel
theorem dX0_readNumber_26 : decode cX0_readNumber 26 = .ok (.aload_n 0, 1) := by decide +kernel
theorem dX0_readNumber_27 : decode cX0_readNumber 27 = .ok (.invokevirtual 58, 3) := by decide +kernel
theorem dX0_readNumber_30 : decode cX0_readNumber 30 = .ok (.istore 4, 2) := by decide +kernel
theorem dX0_readNumber_32 : decode cX0_readNumber 32 = .ok (.iload_n 3, 1) := by decide +kernel
theorem dX0_readNumber_33 : decode cX0_readNumber 33 = .ok (.ifCond .eq 20, 3) := by decide +kernel
theorem dX0_readNumber_36 : decode cX0_readNumber 36 = .ok (.iload 4, 2) := by decide +kernel
theorem dX0_readNumber_38 : decode cX0_readNumber 38 = .ok (.iconst (-1), 1) := by decide +kernel
theorem dX0_readNumber_39 : decode cX0_readNumber 39 = .ok (.if_icmp .eq 14, 3) := by decide +kernel
theorem dX0_readNumber_42 : decode cX0_readNumber 42 = .ok (.iload_n 3, 1) := by decide +kernel
theorem dX0_readNumber_43 : decode cX0_readNumber 43 = .ok (.bipush 10, 2) := by decide +kernel
theorem dX0_readNumber_45 : decode cX0_readNumber 45 = .ok (.imul, 1) := by decide +kernel
theorem dX0_readNumber_46 : decode cX0_readNumber 46 = .ok (.iload 4, 2) := by decide +kernel
theorem dX0_readNumber_48 : decode cX0_readNumber 48 = .ok (.iadd, 1) := by decide +kernel
theorem dX0_readNumber_49 : decode cX0_readNumber 49 = .ok (.iload_n 2, 1) := by decide +kernel
theorem dX0_readNumber_50 : decode cX0_readNumber 50 = .ok (.if_icmp .le 5, 3) := by decide +kernel
theorem dX0_readNumber_53 : decode cX0_readNumber 53 = .ok (.iload_n 3, 1) := by decide +kernel
theorem dX0_readNumber_54 : decode cX0_readNumber 54 = .ok (.ireturn, 1) := by decide +kernel
theorem dX0_readNumber_55 : decode cX0_readNumber 55 = .ok (.aload_n 0, 1) := by decide +kernel
theorem dX0_readNumber_56 : decode cX0_readNumber 56 = .ok (.dup, 1) := by decide +kernel
theorem dX0_readNumber_57 : decode cX0_readNumber 57 = .ok (.getfield 26, 3) := by decide +kernel
theorem dX0_readNumber_60 : decode cX0_readNumber 60 = .ok (.iconst 1, 1) := by decide +kernel
theorem dX0_readNumber_61 : decode cX0_readNumber 61 = .ok (.iadd, 1) := by decide +kernel
theorem dX0_readNumber_62 : decode cX0_readNumber 62 = .ok (.putfield 26, 3) := by decide +kernel
theorem dX0_readNumber_65 : decode cX0_readNumber 65 = .ok (.iload_n 3, 1) := by decide +kernel
theorem dX0_readNumber_66 : decode cX0_readNumber 66 = .ok (.bipush 10, 2) := by decide +kernel
theorem dX0_readNumber_68 : decode cX0_readNumber 68 = .ok (.imul, 1) := by decide +kernel
theorem dX0_readNumber_69 : decode cX0_readNumber 69 = .ok (.iload 4, 2) := by decide +kernel
theorem dX0_readNumber_71 : decode cX0_readNumber 71 = .ok (.iadd, 1) := by decide +kernel
theorem dX0_readNumber_72 : decode cX0_readNumber 72 = .ok (.ireturn, 1) := by decide +kernel
theorem dX0_digitHere_0 : decode cX0_digitHere 0 = .ok (.aload_n 0, 1) := by decide +kernel
theorem dX0_digitHere_1 : decode cX0_digitHere 1 = .ok (.getfield 26, 3) := by decide +kernel
theorem dX0_digitHere_4 : decode cX0_digitHere 4 = .ok (.aload_n 0, 1) := by decide +kernel
theorem dX0_digitHere_5 : decode cX0_digitHere 5 = .ok (.getfield 15, 3) := by decide +kernel
theorem dX0_digitHere_8 : decode cX0_digitHere 8 = .ok (.if_icmp .ge 31, 3) := by decide +kernel
theorem dX0_digitHere_11 : decode cX0_digitHere 11 = .ok (.aload_n 0, 1) := by decide +kernel
theorem dX0_digitHere_12 : decode cX0_digitHere 12 = .ok (.getfield 9, 3) := by decide +kernel
theorem dX0_digitHere_15 : decode cX0_digitHere 15 = .ok (.aload_n 0, 1) := by decide +kernel
theorem dX0_digitHere_16 : decode cX0_digitHere 16 = .ok (.getfield 26, 3) := by decide +kernel
theorem dX0_digitHere_19 : decode cX0_digitHere 19 = .ok (.caload, 1) := by decide +kernel
theorem dX0_digitHere_20 : decode cX0_digitHere 20 = .ok (.bipush 48, 2) := by decide +kernel
theorem dX0_digitHere_22 : decode cX0_digitHere 22 = .ok (.if_icmp .lt 17, 3) := by decide +kernel
theorem dX0_digitHere_25 : decode cX0_digitHere 25 = .ok (.aload_n 0, 1) := by decide +kernel
theorem dX0_digitHere_26 : decode cX0_digitHere 26 = .ok (.getfield 9, 3) := by decide +kernel
theorem dX0_digitHere_29 : decode cX0_digitHere 29 = .ok (.aload_n 0, 1) := by decide +kernel
theorem dX0_digitHere_30 : decode cX0_digitHere 30 = .ok (.getfield 26, 3) := by decide +kernel
theorem dX0_digitHere_33 : decode cX0_digitHere 33 = .ok (.caload, 1) := by decide +kernel
theorem dX0_digitHere_34 : decode cX0_digitHere 34 = .ok (.bipush 57, 2) := by decide +kernel
theorem dX0_digitHere_36 : decode cX0_digitHere 36 = .ok (.if_icmp .le 5, 3) := by decide +kernel
theorem dX0_digitHere_39 : decode cX0_digitHere 39 = .ok (.iconst (-1), 1) := by decide +kernel
theorem dX0_digitHere_40 : decode cX0_digitHere 40 = .ok (.ireturn, 1) := by decide +kernel
theorem dX0_digitHere_41 : decode cX0_digitHere 41 = .ok (.aload_n 0, 1) := by decide +kernel
theorem dX0_digitHere_42 : decode cX0_digitHere 42 = .ok (.getfield 9, 3) := by decide +kernel
theorem dX0_digitHere_45 : decode cX0_digitHere 45 = .ok (.aload_n 0, 1) := by decide +kernel
theorem dX0_digitHere_46 : decode cX0_digitHere 46 = .ok (.getfield 26, 3) := by decide +kernel
theorem dX0_digitHere_49 : decode cX0_digitHere 49 = .ok (.caload, 1) := by decide +kernel
theorem dX0_digitHere_50 : decode cX0_digitHere 50 = .ok (.bipush 48, 2) := by decide +kernel
theorem dX0_digitHere_52 : decode cX0_digitHere 52 = .ok (.isub, 1) := by decide +kernel
theorem dX0_digitHere_53 : decode cX0_digitHere 53 = .ok (.ireturn, 1) := by decide +kernel
theorem dX1_init_0 : decode cX1_init 0 = .ok (.aload_n 0, 1) := by decide +kernel
theorem dX1_init_1 : decode cX1_init 1 = .ok (.invokespecial 3, 3) := by decide +kernel
theorem dX1_init_4 : decode cX1_init 4 = .ok (.aload_n 0, 1) := by decide +kernel
theorem dX1_init_5 : decode cX1_init 5 = .ok (.iconst 4, 1) := by decide +kernel
theorem dX1_init_6 : decode cX1_init 6 = .ok (.anewarray 9, 3) := by decide +kernel
theorem dX1_init_9 : decode cX1_init 9 = .ok (.putfield 11, 3) := by decide +kernel
theorem dX1_init_12 : decode cX1_init 12 = .ok (.iconst 0, 1) := by decide +kernel
theorem dX1_init_13 : decode cX1_init 13 = .ok (.istore_n 1, 1) := by decide +kernel
theorem dX1_init_14 : decode cX1_init 14 = .ok (.iload_n 1, 1) := by decide +kernel
theorem dX1_init_15 : decode cX1_init 15 = .ok (.iconst 4, 1) := by decide +kernel
theorem dX1_init_16 : decode cX1_init 16 = .ok (.if_icmp .ge 22, 3) := by decide +kernel
theorem dX1_init_19 : decode cX1_init 19 = .ok (.aload_n 0, 1) := by decide +kernel
theorem dX1_init_20 : decode cX1_init 20 = .ok (.getfield 11, 3) := by decide +kernel
theorem dX1_init_23 : decode cX1_init 23 = .ok (.iload_n 1, 1) := by decide +kernel
theorem dX1_init_24 : decode cX1_init 24 = .ok (.new 9, 3) := by decide +kernel
theorem dX1_init_27 : decode cX1_init 27 = .ok (.dup, 1) := by decide +kernel
theorem dX1_init_28 : decode cX1_init 28 = .ok (.invokespecial 17, 3) := by decide +kernel
theorem dX1_init_31 : decode cX1_init 31 = .ok (.aastore, 1) := by decide +kernel
theorem dX1_init_32 : decode cX1_init 32 = .ok (.iinc 1 1, 3) := by decide +kernel
theorem dX1_init_35 : decode cX1_init 35 = .ok (.goto (-21), 3) := by decide +kernel
theorem dX1_init_38 : decode cX1_init 38 = .ok (.return_, 1) := by decide +kernel
theorem dX1_push_0 : decode cX1_push 0 = .ok (.aload_n 0, 1) := by decide +kernel
theorem dX1_push_1 : decode cX1_push 1 = .ok (.getfield 18, 3) := by decide +kernel
theorem dX1_push_4 : decode cX1_push 4 = .ok (.iconst 4, 1) := by decide +kernel
theorem dX1_push_5 : decode cX1_push 5 = .ok (.if_icmp .lt 7, 3) := by decide +kernel
theorem dX1_push_8 : decode cX1_push 8 = .ok (.aload_n 0, 1) := by decide +kernel
theorem dX1_push_9 : decode cX1_push 9 = .ok (.invokevirtual 22, 3) := by decide +kernel
theorem dX1_push_12 : decode cX1_push 12 = .ok (.aload_n 0, 1) := by decide +kernel
theorem dX1_push_13 : decode cX1_push 13 = .ok (.getfield 11, 3) := by decide +kernel
theorem dX1_push_16 : decode cX1_push 16 = .ok (.aload_n 0, 1) := by decide +kernel
theorem dX1_push_17 : decode cX1_push 17 = .ok (.getfield 18, 3) := by decide +kernel
theorem dX1_push_20 : decode cX1_push 20 = .ok (.aaload, 1) := by decide +kernel
theorem dX1_push_21 : decode cX1_push 21 = .ok (.aload_n 1, 1) := by decide +kernel
theorem dX1_push_22 : decode cX1_push 22 = .ok (.invokevirtual 25, 3) := by decide +kernel
theorem dX1_push_25 : decode cX1_push 25 = .ok (.aload_n 0, 1) := by decide +kernel
theorem dX1_push_26 : decode cX1_push 26 = .ok (.dup, 1) := by decide +kernel
theorem dX1_push_27 : decode cX1_push 27 = .ok (.getfield 18, 3) := by decide +kernel
theorem dX1_push_30 : decode cX1_push 30 = .ok (.iconst 1, 1) := by decide +kernel
theorem dX1_push_31 : decode cX1_push 31 = .ok (.iadd, 1) := by decide +kernel
theorem dX1_push_32 : decode cX1_push 32 = .ok (.putfield 18, 3) := by decide +kernel
theorem dX1_push_35 : decode cX1_push 35 = .ok (.return_, 1) := by decide +kernel
theorem dX1_dropOldest_0 : decode cX1_dropOldest 0 = .ok (.aload_n 0, 1) := by decide +kernel
theorem dX1_dropOldest_1 : decode cX1_dropOldest 1 = .ok (.getfield 11, 3) := by decide +kernel
theorem dX1_dropOldest_4 : decode cX1_dropOldest 4 = .ok (.iconst 0, 1) := by decide +kernel
theorem dX1_dropOldest_5 : decode cX1_dropOldest 5 = .ok (.aaload, 1) := by decide +kernel
theorem dX1_dropOldest_6 : decode cX1_dropOldest 6 = .ok (.astore_n 1, 1) := by decide +kernel
theorem dX1_dropOldest_7 : decode cX1_dropOldest 7 = .ok (.iconst 1, 1) := by decide +kernel
theorem dX1_dropOldest_8 : decode cX1_dropOldest 8 = .ok (.istore_n 2, 1) := by decide +kernel
theorem dX1_dropOldest_9 : decode cX1_dropOldest 9 = .ok (.iload_n 2, 1) := by decide +kernel
theorem dX1_dropOldest_10 : decode cX1_dropOldest 10 = .ok (.iconst 4, 1) := by decide +kernel
theorem dX1_dropOldest_11 : decode cX1_dropOldest 11 = .ok (.if_icmp .ge 23, 3) := by decide +kernel
theorem dX1_dropOldest_14 : decode cX1_dropOldest 14 = .ok (.aload_n 0, 1) := by decide +kernel
theorem dX1_dropOldest_15 : decode cX1_dropOldest 15 = .ok (.getfield 11, 3) := by decide +kernel
theorem dX1_dropOldest_18 : decode cX1_dropOldest 18 = .ok (.iload_n 2, 1) := by decide +kernel
theorem dX1_dropOldest_19 : decode cX1_dropOldest 19 = .ok (.iconst 1, 1) := by decide +kernel
theorem dX1_dropOldest_20 : decode cX1_dropOldest 20 = .ok (.isub, 1) := by decide +kernel
theorem dX1_dropOldest_21 : decode cX1_dropOldest 21 = .ok (.aload_n 0, 1) := by decide +kernel
theorem dX1_dropOldest_22 : decode cX1_dropOldest 22 = .ok (.getfield 11, 3) := by decide +kernel
theorem dX1_dropOldest_25 : decode cX1_dropOldest 25 = .ok (.iload_n 2, 1) := by decide +kernel
theorem dX1_dropOldest_26 : decode cX1_dropOldest 26 = .ok (.aaload, 1) := by decide +kernel
theorem dX1_dropOldest_27 : decode cX1_dropOldest 27 = .ok (.aastore, 1) := by decide +kernel
theorem dX1_dropOldest_28 : decode cX1_dropOldest 28 = .ok (.iinc 2 1, 3) := by decide +kernel
theorem dX1_dropOldest_31 : decode cX1_dropOldest 31 = .ok (.goto (-22), 3) := by decide +kernel
theorem dX1_dropOldest_34 : decode cX1_dropOldest 34 = .ok (.aload_n 0, 1) := by decide +kernel
theorem dX1_dropOldest_35 : decode cX1_dropOldest 35 = .ok (.getfield 11, 3) := by decide +kernel
theorem dX1_dropOldest_38 : decode cX1_dropOldest 38 = .ok (.iconst 3, 1) := by decide +kernel
theorem dX1_dropOldest_39 : decode cX1_dropOldest 39 = .ok (.aload_n 1, 1) := by decide +kernel
theorem dX1_dropOldest_40 : decode cX1_dropOldest 40 = .ok (.aastore, 1) := by decide +kernel
theorem dX1_dropOldest_41 : decode cX1_dropOldest 41 = .ok (.aload_n 0, 1) := by decide +kernel
theorem dX1_dropOldest_42 : decode cX1_dropOldest 42 = .ok (.iconst 3, 1) := by decide +kernel
theorem dX1_dropOldest_43 : decode cX1_dropOldest 43 = .ok (.putfield 18, 3) := by decide +kernel
theorem dX1_dropOldest_46 : decode cX1_dropOldest 46 = .ok (.return_, 1) := by decide +kernel
theorem dX1_pop_0 : decode cX1_pop 0 = .ok (.aload_n 0, 1) := by decide +kernel
theorem dX1_pop_1 : decode cX1_pop 1 = .ok (.getfield 18, 3) := by decide +kernel
theorem dX1_pop_4 : decode cX1_pop 4 = .ok (.ifCond .ne 5, 3) := by decide +kernel
theorem dX1_pop_7 : decode cX1_pop 7 = .ok (.iconst 0, 1) := by decide +kernel
theorem dX1_pop_8 : decode cX1_pop 8 = .ok (.ireturn, 1) := by decide +kernel
theorem dX1_pop_9 : decode cX1_pop 9 = .ok (.aload_n 0, 1) := by decide +kernel
theorem dX1_pop_10 : decode cX1_pop 10 = .ok (.dup, 1) := by decide +kernel
theorem dX1_pop_11 : decode cX1_pop 11 = .ok (.getfield 18, 3) := by decide +kernel
theorem dX1_pop_14 : decode cX1_pop 14 = .ok (.iconst 1, 1) := by decide +kernel
theorem dX1_pop_15 : decode cX1_pop 15 = .ok (.isub, 1) := by decide +kernel
theorem dX1_pop_16 : decode cX1_pop 16 = .ok (.putfield 18, 3) := by decide +kernel
theorem dX1_pop_19 : decode cX1_pop 19 = .ok (.aload_n 1, 1) := by decide +kernel
theorem dX1_pop_20 : decode cX1_pop 20 = .ok (.aload_n 0, 1) := by decide +kernel
theorem dX1_pop_21 : decode cX1_pop 21 = .ok (.getfield 11, 3) := by decide +kernel
theorem dX1_pop_24 : decode cX1_pop 24 = .ok (.aload_n 0, 1) := by decide +kernel
theorem dX1_pop_25 : decode cX1_pop 25 = .ok (.getfield 18, 3) := by decide +kernel
theorem dX1_pop_28 : decode cX1_pop 28 = .ok (.aaload, 1) := by decide +kernel
theorem dX1_pop_29 : decode cX1_pop 29 = .ok (.invokevirtual 25, 3) := by decide +kernel
theorem dX1_pop_32 : decode cX1_pop 32 = .ok (.iconst 1, 1) := by decide +kernel
theorem dX1_pop_33 : decode cX1_pop 33 = .ok (.ireturn, 1) := by decide +kernel
theorem dX2_init_0 : decode cX2_init 0 = .ok (.aload_n 0, 1) := by decide +kernel
theorem dX2_init_1 : decode cX2_init 1 = .ok (.invokespecial 3, 3) := by decide +kernel
theorem dX2_init_4 : decode cX2_init 4 = .ok (.aload_n 0, 1) := by decide +kernel
theorem dX2_init_5 : decode cX2_init 5 = .ok (.bipush 64, 2) := by decide +kernel
theorem dX2_init_7 : decode cX2_init 7 = .ok (.newarray .int, 2) := by decide +kernel
theorem dX2_init_9 : decode cX2_init 9 = .ok (.putfield 9, 3) := by decide +kernel
theorem dX2_init_12 : decode cX2_init 12 = .ok (.aload_n 0, 1) := by decide +kernel
theorem dX2_init_13 : decode cX2_init 13 = .ok (.bipush 64, 2) := by decide +kernel
theorem dX2_init_15 : decode cX2_init 15 = .ok (.newarray .int, 2) := by decide +kernel
theorem dX2_init_17 : decode cX2_init 17 = .ok (.putfield 15, 3) := by decide +kernel
theorem dX2_init_20 : decode cX2_init 20 = .ok (.return_, 1) := by decide +kernel
theorem dX2_follow_0 : decode cX2_follow 0 = .ok (.iconst 0, 1) := by decide +kernel
theorem dX2_follow_1 : decode cX2_follow 1 = .ok (.istore_n 2, 1) := by decide +kernel
theorem dX2_follow_2 : decode cX2_follow 2 = .ok (.iload_n 2, 1) := by decide +kernel
theorem dX2_follow_3 : decode cX2_follow 3 = .ok (.bipush 64, 2) := by decide +kernel
theorem dX2_follow_5 : decode cX2_follow 5 = .ok (.if_icmp .ge 60, 3) := by decide +kernel
theorem dX2_follow_8 : decode cX2_follow 8 = .ok (.aload_n 1, 1) := by decide +kernel
theorem dX2_follow_9 : decode cX2_follow 9 = .ok (.iload_n 2, 1) := by decide +kernel
theorem dX2_follow_10 : decode cX2_follow 10 = .ok (.invokestatic 18, 3) := by decide +kernel
theorem dX2_follow_13 : decode cX2_follow 13 = .ok (.ifCond .ne 13, 3) := by decide +kernel
theorem dX2_follow_16 : decode cX2_follow 16 = .ok (.aload_n 0, 1) := by decide +kernel
theorem dX2_follow_17 : decode cX2_follow 17 = .ok (.getfield 9, 3) := by decide +kernel
theorem dX2_follow_20 : decode cX2_follow 20 = .ok (.iload_n 2, 1) := by decide +kernel
theorem dX2_follow_21 : decode cX2_follow 21 = .ok (.iconst 0, 1) := by decide +kernel
theorem dX2_follow_22 : decode cX2_follow 22 = .ok (.iastore, 1) := by decide +kernel
theorem dX2_follow_23 : decode cX2_follow 23 = .ok (.goto 36, 3) := by decide +kernel
theorem dX2_follow_26 : decode cX2_follow 26 = .ok (.iload_n 2, 1) := by decide +kernel
theorem dX2_follow_27 : decode cX2_follow 27 = .ok (.bipush 8, 2) := by decide +kernel
theorem dX2_follow_29 : decode cX2_follow 29 = .ok (.if_icmp .ge 13, 3) := by decide +kernel
theorem dX2_follow_32 : decode cX2_follow 32 = .ok (.aload_n 0, 1) := by decide +kernel
theorem dX2_follow_33 : decode cX2_follow 33 = .ok (.getfield 9, 3) := by decide +kernel
theorem dX2_follow_36 : decode cX2_follow 36 = .ok (.iload_n 2, 1) := by decide +kernel
theorem dX2_follow_37 : decode cX2_follow 37 = .ok (.iconst 1, 1) := by decide +kernel
theorem dX2_follow_38 : decode cX2_follow 38 = .ok (.iastore, 1) := by decide +kernel
theorem dX2_follow_39 : decode cX2_follow 39 = .ok (.goto 20, 3) := by decide +kernel
theorem dX2_follow_42 : decode cX2_follow 42 = .ok (.aload_n 0, 1) := by decide +kernel
theorem dX2_follow_43 : decode cX2_follow 43 = .ok (.getfield 9, 3) := by decide +kernel
theorem dX2_follow_46 : decode cX2_follow 46 = .ok (.iload_n 2, 1) := by decide +kernel
theorem dX2_follow_47 : decode cX2_follow 47 = .ok (.aload_n 0, 1) := by decide +kernel
theorem dX2_follow_48 : decode cX2_follow 48 = .ok (.getfield 9, 3) := by decide +kernel
theorem dX2_follow_51 : decode cX2_follow 51 = .ok (.iload_n 2, 1) := by decide +kernel
theorem dX2_follow_52 : decode cX2_follow 52 = .ok (.bipush 8, 2) := by decide +kernel
theorem dX2_follow_54 : decode cX2_follow 54 = .ok (.isub, 1) := by decide +kernel
theorem dX2_follow_55 : decode cX2_follow 55 = .ok (.invokestatic 22, 3) := by decide +kernel
theorem dX2_follow_58 : decode cX2_follow 58 = .ok (.iastore, 1) := by decide +kernel
theorem dX2_follow_59 : decode cX2_follow 59 = .ok (.iinc 2 1, 3) := by decide +kernel
theorem dX2_follow_62 : decode cX2_follow 62 = .ok (.goto (-60), 3) := by decide +kernel
theorem dX2_follow_65 : decode cX2_follow 65 = .ok (.bipush 63, 2) := by decide +kernel
theorem dX2_follow_67 : decode cX2_follow 67 = .ok (.istore_n 2, 1) := by decide +kernel
theorem dX2_follow_68 : decode cX2_follow 68 = .ok (.iload_n 2, 1) := by decide +kernel
theorem dX2_follow_69 : decode cX2_follow 69 = .ok (.ifCond .lt 60, 3) := by decide +kernel
theorem dX2_follow_72 : decode cX2_follow 72 = .ok (.aload_n 1, 1) := by decide +kernel
theorem dX2_follow_73 : decode cX2_follow 73 = .ok (.iload_n 2, 1) := by decide +kernel
theorem dX2_follow_74 : decode cX2_follow 74 = .ok (.invokestatic 18, 3) := by decide +kernel
theorem dX2_follow_77 : decode cX2_follow 77 = .ok (.ifCond .ne 13, 3) := by decide +kernel
theorem dX2_follow_80 : decode cX2_follow 80 = .ok (.aload_n 0, 1) := by decide +kernel
theorem dX2_follow_81 : decode cX2_follow 81 = .ok (.getfield 15, 3) := by decide +kernel
theorem dX2_follow_84 : decode cX2_follow 84 = .ok (.iload_n 2, 1) := by decide +kernel
theorem dX2_follow_85 : decode cX2_follow 85 = .ok (.iconst 0, 1) := by decide +kernel
theorem dX2_follow_86 : decode cX2_follow 86 = .ok (.iastore, 1) := by decide +kernel
theorem dX2_follow_87 : decode cX2_follow 87 = .ok (.goto 36, 3) := by decide +kernel
theorem dX2_follow_90 : decode cX2_follow 90 = .ok (.iload_n 2, 1) := by decide +kernel
theorem dX2_follow_91 : decode cX2_follow 91 = .ok (.bipush 56, 2) := by decide +kernel
theorem dX2_follow_93 : decode cX2_follow 93 = .ok (.if_icmp .lt 13, 3) := by decide +kernel
theorem dX2_follow_96 : decode cX2_follow 96 = .ok (.aload_n 0, 1) := by decide +kernel
theorem dX2_follow_97 : decode cX2_follow 97 = .ok (.getfield 15, 3) := by decide +kernel
theorem dX2_follow_100 : decode cX2_follow 100 = .ok (.iload_n 2, 1) := by decide +kernel
theorem dX2_follow_101 : decode cX2_follow 101 = .ok (.iconst 1, 1) := by decide +kernel
theorem dX2_follow_102 : decode cX2_follow 102 = .ok (.iastore, 1) := by decide +kernel
theorem dX2_follow_103 : decode cX2_follow 103 = .ok (.goto 20, 3) := by decide +kernel
theorem dX2_follow_106 : decode cX2_follow 106 = .ok (.aload_n 0, 1) := by decide +kernel
theorem dX2_follow_107 : decode cX2_follow 107 = .ok (.getfield 15, 3) := by decide +kernel
theorem dX2_follow_110 : decode cX2_follow 110 = .ok (.iload_n 2, 1) := by decide +kernel
theorem dX2_follow_111 : decode cX2_follow 111 = .ok (.aload_n 0, 1) := by decide +kernel
theorem dX2_follow_112 : decode cX2_follow 112 = .ok (.getfield 15, 3) := by decide +kernel
theorem dX2_follow_115 : decode cX2_follow 115 = .ok (.iload_n 2, 1) := by decide +kernel
theorem dX2_follow_116 : decode cX2_follow 116 = .ok (.bipush 8, 2) := by decide +kernel
theorem dX2_follow_118 : decode cX2_follow 118 = .ok (.iadd, 1) := by decide +kernel
theorem dX2_follow_119 : decode cX2_follow 119 = .ok (.invokestatic 22, 3) := by decide +kernel
theorem dX2_follow_122 : decode cX2_follow 122 = .ok (.iastore, 1) := by decide +kernel
theorem dX2_follow_123 : decode cX2_follow 123 = .ok (.iinc 2 (-1), 3) := by decide +kernel
theorem dX2_follow_126 : decode cX2_follow 126 = .ok (.goto (-58), 3) := by decide +kernel
theorem dX2_follow_129 : decode cX2_follow 129 = .ok (.aload_n 0, 1) := by decide +kernel
theorem dX2_follow_130 : decode cX2_follow 130 = .ok (.iconst 0, 1) := by decide +kernel
theorem dX2_follow_131 : decode cX2_follow 131 = .ok (.putfield 26, 3) := by decide +kernel
theorem dX2_follow_134 : decode cX2_follow 134 = .ok (.iconst 0, 1) := by decide +kernel
theorem dX2_follow_135 : decode cX2_follow 135 = .ok (.istore_n 2, 1) := by decide +kernel
theorem dX2_follow_136 : decode cX2_follow 136 = .ok (.iload_n 2, 1) := by decide +kernel
theorem dX2_follow_137 : decode cX2_follow 137 = .ok (.bipush 8, 2) := by decide +kernel
theorem dX2_follow_139 : decode cX2_follow 139 = .ok (.if_icmp .ge 24, 3) := by decide +kernel
theorem dX2_follow_142 : decode cX2_follow 142 = .ok (.aload_n 0, 1) := by decide +kernel
theorem dX2_follow_143 : decode cX2_follow 143 = .ok (.dup, 1) := by decide +kernel
theorem dX2_follow_144 : decode cX2_follow 144 = .ok (.getfield 26, 3) := by decide +kernel
theorem dX2_follow_147 : decode cX2_follow 147 = .ok (.aload_n 0, 1) := by decide +kernel
theorem dX2_follow_148 : decode cX2_follow 148 = .ok (.getfield 15, 3) := by decide +kernel
theorem dX2_follow_151 : decode cX2_follow 151 = .ok (.iload_n 2, 1) := by decide +kernel
theorem dX2_follow_152 : decode cX2_follow 152 = .ok (.iaload, 1) := by decide +kernel
theorem dX2_follow_153 : decode cX2_follow 153 = .ok (.iadd, 1) := by decide +kernel
theorem dX2_follow_154 : decode cX2_follow 154 = .ok (.putfield 26, 3) := by decide +kernel
theorem dX2_follow_157 : decode cX2_follow 157 = .ok (.iinc 2 1, 3) := by decide +kernel
theorem dX2_follow_160 : decode cX2_follow 160 = .ok (.goto (-24), 3) := by decide +kernel
theorem dX2_follow_163 : decode cX2_follow 163 = .ok (.return_, 1) := by decide +kernel
theorem dX2_isOpen_0 : decode cX2_isOpen 0 = .ok (.aload_n 0, 1) := by decide +kernel
theorem dX2_isOpen_1 : decode cX2_isOpen 1 = .ok (.iload_n 1, 1) := by decide +kernel
theorem dX2_isOpen_2 : decode cX2_isOpen 2 = .ok (.bipush 8, 2) := by decide +kernel
theorem dX2_isOpen_4 : decode cX2_isOpen 4 = .ok (.idiv, 1) := by decide +kernel
theorem dX2_isOpen_5 : decode cX2_isOpen 5 = .ok (.iaload, 1) := by decide +kernel
theorem dX2_isOpen_6 : decode cX2_isOpen 6 = .ok (.istore_n 2, 1) := by decide +kernel
theorem dX2_isOpen_7 : decode cX2_isOpen 7 = .ok (.iload_n 2, 1) := by decide +kernel
theorem dX2_isOpen_8 : decode cX2_isOpen 8 = .ok (.bipush (-5), 2) := by decide +kernel
theorem dX2_isOpen_10 : decode cX2_isOpen 10 = .ok (.if_icmp .eq 11, 3) := by decide +kernel
theorem dX2_isOpen_13 : decode cX2_isOpen 13 = .ok (.iload_n 2, 1) := by decide +kernel
theorem dX2_isOpen_14 : decode cX2_isOpen 14 = .ok (.iload_n 1, 1) := by decide +kernel
theorem dX2_isOpen_15 : decode cX2_isOpen 15 = .ok (.bipush 8, 2) := by decide +kernel
theorem dX2_isOpen_17 : decode cX2_isOpen 17 = .ok (.irem, 1) := by decide +kernel
theorem dX2_isOpen_18 : decode cX2_isOpen 18 = .ok (.if_icmp .ne 7, 3) := by decide +kernel
theorem dX2_isOpen_21 : decode cX2_isOpen 21 = .ok (.iconst 1, 1) := by decide +kernel
theorem dX2_isOpen_22 : decode cX2_isOpen 22 = .ok (.goto 4, 3) := by decide +kernel
theorem dX2_isOpen_25 : decode cX2_isOpen 25 = .ok (.iconst 0, 1) := by decide +kernel
theorem dX2_isOpen_26 : decode cX2_isOpen 26 = .ok (.ireturn, 1) := by decide +kernel
theorem dX2_around_0 : decode cX2_around 0 = .ok (.aload_n 0, 1) := by decide +kernel
theorem dX2_around_1 : decode cX2_around 1 = .ok (.iload_n 1, 1) := by decide +kernel
theorem dX2_around_2 : decode cX2_around 2 = .ok (.iaload, 1) := by decide +kernel
theorem dX2_around_3 : decode cX2_around 3 = .ok (.istore_n 2, 1) := by decide +kernel
theorem dX2_around_4 : decode cX2_around 4 = .ok (.iload_n 1, 1) := by decide +kernel
theorem dX2_around_5 : decode cX2_around 5 = .ok (.bipush 8, 2) := by decide +kernel
theorem dX2_around_7 : decode cX2_around 7 = .ok (.irem, 1) := by decide +kernel
theorem dX2_around_8 : decode cX2_around 8 = .ok (.ifCond .le 11, 3) := by decide +kernel
theorem dX2_around_11 : decode cX2_around 11 = .ok (.iload_n 2, 1) := by decide +kernel
theorem dX2_around_12 : decode cX2_around 12 = .ok (.aload_n 0, 1) := by decide +kernel
theorem dX2_around_13 : decode cX2_around 13 = .ok (.iload_n 1, 1) := by decide +kernel
theorem dX2_around_14 : decode cX2_around 14 = .ok (.iconst 1, 1) := by decide +kernel
theorem dX2_around_15 : decode cX2_around 15 = .ok (.isub, 1) := by decide +kernel
theorem dX2_around_16 : decode cX2_around 16 = .ok (.iaload, 1) := by decide +kernel
theorem dX2_around_17 : decode cX2_around 17 = .ok (.iadd, 1) := by decide +kernel
theorem dX2_around_18 : decode cX2_around 18 = .ok (.istore_n 2, 1) := by decide +kernel
theorem dX2_around_19 : decode cX2_around 19 = .ok (.iload_n 1, 1) := by decide +kernel
theorem dX2_around_20 : decode cX2_around 20 = .ok (.bipush 8, 2) := by decide +kernel
theorem dX2_around_22 : decode cX2_around 22 = .ok (.irem, 1) := by decide +kernel
theorem dX2_around_23 : decode cX2_around 23 = .ok (.bipush 7, 2) := by decide +kernel
theorem dX2_around_25 : decode cX2_around 25 = .ok (.if_icmp .ge 11, 3) := by decide +kernel
theorem dX2_around_28 : decode cX2_around 28 = .ok (.iload_n 2, 1) := by decide +kernel
theorem dX2_around_29 : decode cX2_around 29 = .ok (.aload_n 0, 1) := by decide +kernel
theorem dX2_around_30 : decode cX2_around 30 = .ok (.iload_n 1, 1) := by decide +kernel
theorem dX2_around_31 : decode cX2_around 31 = .ok (.iconst 1, 1) := by decide +kernel
theorem dX2_around_32 : decode cX2_around 32 = .ok (.iadd, 1) := by decide +kernel
theorem dX2_around_33 : decode cX2_around 33 = .ok (.iaload, 1) := by decide +kernel
theorem dX2_around_34 : decode cX2_around 34 = .ok (.iadd, 1) := by decide +kernel
theorem dX2_around_35 : decode cX2_around 35 = .ok (.istore_n 2, 1) := by decide +kernel
theorem dX2_around_36 : decode cX2_around 36 = .ok (.iload_n 2, 1) := by decide +kernel
theorem dX2_around_37 : decode cX2_around 37 = .ok (.ireturn, 1) := by decide +kernel
theorem dX2_through_0 : decode cX2_through 0 = .ok (.aload_n 0, 1) := by decide +kernel
theorem dX2_through_1 : decode cX2_through 1 = .ok (.getfield 9, 3) := by decide +kernel
theorem dX2_through_4 : decode cX2_through 4 = .ok (.iload_n 1, 1) := by decide +kernel
theorem dX2_through_5 : decode cX2_through 5 = .ok (.iaload, 1) := by decide +kernel
theorem dX2_through_6 : decode cX2_through 6 = .ok (.aload_n 0, 1) := by decide +kernel
theorem dX2_through_7 : decode cX2_through 7 = .ok (.getfield 15, 3) := by decide +kernel
theorem dX2_through_10 : decode cX2_through 10 = .ok (.iload_n 1, 1) := by decide +kernel
theorem dX2_through_11 : decode cX2_through 11 = .ok (.iaload, 1) := by decide +kernel
theorem dX2_through_12 : decode cX2_through 12 = .ok (.imul, 1) := by decide +kernel
theorem dX2_through_13 : decode cX2_through 13 = .ok (.ireturn, 1) := by decide +kernel
theorem dX2_within_0 : decode cX2_within 0 = .ok (.iload_n 1, 1) := by decide +kernel
theorem dX2_within_1 : decode cX2_within 1 = .ok (.iload_n 1, 1) := by decide +kernel
theorem dX2_within_2 : decode cX2_within 2 = .ok (.bipush 8, 2) := by decide +kernel
theorem dX2_within_4 : decode cX2_within 4 = .ok (.irem, 1) := by decide +kernel
theorem dX2_within_5 : decode cX2_within 5 = .ok (.isub, 1) := by decide +kernel
theorem dX2_within_6 : decode cX2_within 6 = .ok (.istore_n 3, 1) := by decide +kernel
theorem dX2_within_7 : decode cX2_within 7 = .ok (.iload_n 3, 1) := by decide +kernel
theorem dX2_within_8 : decode cX2_within 8 = .ok (.iload_n 1, 1) := by decide +kernel
theorem dX2_within_9 : decode cX2_within 9 = .ok (.iload_n 2, 1) := by decide +kernel
theorem dX2_within_10 : decode cX2_within 10 = .ok (.isub, 1) := by decide +kernel
theorem dX2_within_11 : decode cX2_within 11 = .ok (.invokestatic 30, 3) := by decide +kernel
theorem dX2_within_14 : decode cX2_within 14 = .ok (.istore 4, 2) := by decide +kernel
theorem dX2_within_16 : decode cX2_within 16 = .ok (.iload_n 3, 1) := by decide +kernel
theorem dX2_within_17 : decode cX2_within 17 = .ok (.bipush 8, 2) := by decide +kernel
theorem dX2_within_19 : decode cX2_within 19 = .ok (.iadd, 1) := by decide +kernel
theorem dX2_within_20 : decode cX2_within 20 = .ok (.iconst 1, 1) := by decide +kernel
theorem dX2_within_21 : decode cX2_within 21 = .ok (.isub, 1) := by decide +kernel
theorem dX2_within_22 : decode cX2_within 22 = .ok (.iload_n 1, 1) := by decide +kernel
theorem dX2_within_23 : decode cX2_within 23 = .ok (.iload_n 2, 1) := by decide +kernel
theorem dX2_within_24 : decode cX2_within 24 = .ok (.iadd, 1) := by decide +kernel
theorem dX2_within_25 : decode cX2_within 25 = .ok (.invokestatic 36, 3) := by decide +kernel
theorem dX2_within_28 : decode cX2_within 28 = .ok (.istore 5, 2) := by decide +kernel
theorem dX2_within_30 : decode cX2_within 30 = .ok (.iconst 0, 1) := by decide +kernel
theorem dX2_within_31 : decode cX2_within 31 = .ok (.istore 6, 2) := by decide +kernel
theorem dX2_within_33 : decode cX2_within 33 = .ok (.iload 4, 2) := by decide +kernel
theorem dX2_within_35 : decode cX2_within 35 = .ok (.istore 7, 2) := by decide +kernel
theorem dX2_within_37 : decode cX2_within 37 = .ok (.iload 7, 2) := by decide +kernel
theorem dX2_within_39 : decode cX2_within 39 = .ok (.iload 5, 2) := by decide +kernel
theorem dX2_within_41 : decode cX2_within 41 = .ok (.if_icmp .gt 20, 3) := by decide +kernel
theorem dX2_within_44 : decode cX2_within 44 = .ok (.iload 6, 2) := by decide +kernel
theorem dX2_within_46 : decode cX2_within 46 = .ok (.aload_n 0, 1) := by decide +kernel
theorem dX2_within_47 : decode cX2_within 47 = .ok (.iload 7, 2) := by decide +kernel
theorem dX2_within_49 : decode cX2_within 49 = .ok (.invokevirtual 39, 3) := by decide +kernel
theorem dX2_within_52 : decode cX2_within 52 = .ok (.iadd, 1) := by decide +kernel
theorem dX2_within_53 : decode cX2_within 53 = .ok (.istore 6, 2) := by decide +kernel
theorem dX2_within_55 : decode cX2_within 55 = .ok (.iinc 7 1, 3) := by decide +kernel
theorem dX2_within_58 : decode cX2_within 58 = .ok (.goto (-21), 3) := by decide +kernel
theorem dX2_within_61 : decode cX2_within 61 = .ok (.iload 6, 2) := by decide +kernel
theorem dX2_within_63 : decode cX2_within 63 = .ok (.ireturn, 1) := by decide +kernel
theorem dX2_leastColumn_0 : decode cX2_leastColumn 0 = .ok (.iconst 0, 1) := by decide +kernel
theorem dX2_leastColumn_1 : decode cX2_leastColumn 1 = .ok (.istore_n 2, 1) := by decide +kernel
theorem dX2_leastColumn_2 : decode cX2_leastColumn 2 = .ok (.iload_n 2, 1) := by decide +kernel
theorem dX2_leastColumn_3 : decode cX2_leastColumn 3 = .ok (.bipush 7, 2) := by decide +kernel
theorem dX2_leastColumn_5 : decode cX2_leastColumn 5 = .ok (.if_icmp .ge 22, 3) := by decide +kernel
theorem dX2_leastColumn_8 : decode cX2_leastColumn 8 = .ok (.aload_n 0, 1) := by decide +kernel
theorem dX2_leastColumn_9 : decode cX2_leastColumn 9 = .ok (.iload_n 1, 1) := by decide +kernel
theorem dX2_leastColumn_10 : decode cX2_leastColumn 10 = .ok (.bipush 8, 2) := by decide +kernel
theorem dX2_leastColumn_12 : decode cX2_leastColumn 12 = .ok (.imul, 1) := by decide +kernel
theorem dX2_leastColumn_13 : decode cX2_leastColumn 13 = .ok (.iload_n 2, 1) := by decide +kernel
theorem dX2_leastColumn_14 : decode cX2_leastColumn 14 = .ok (.iadd, 1) := by decide +kernel
theorem dX2_leastColumn_15 : decode cX2_leastColumn 15 = .ok (.invokevirtual 39, 3) := by decide +kernel
theorem dX2_leastColumn_18 : decode cX2_leastColumn 18 = .ok (.ifCond .ne 9, 3) := by decide +kernel
theorem dX2_leastColumn_21 : decode cX2_leastColumn 21 = .ok (.iinc 2 1, 3) := by decide +kernel
theorem dX2_leastColumn_24 : decode cX2_leastColumn 24 = .ok (.goto (-22), 3) := by decide +kernel
theorem dX2_leastColumn_27 : decode cX2_leastColumn 27 = .ok (.iload_n 2, 1) := by decide +kernel
theorem dX2_leastColumn_28 : decode cX2_leastColumn 28 = .ok (.ireturn, 1) := by decide +kernel
theorem dX2_greatestColumn_0 : decode cX2_greatestColumn 0 = .ok (.bipush 7, 2) := by decide +kernel
theorem dX2_greatestColumn_2 : decode cX2_greatestColumn 2 = .ok (.istore_n 2, 1) := by decide +kernel
theorem dX2_greatestColumn_3 : decode cX2_greatestColumn 3 = .ok (.iload_n 2, 1) := by decide +kernel
theorem dX2_greatestColumn_4 : decode cX2_greatestColumn 4 = .ok (.ifCond .le 22, 3) := by decide +kernel
theorem dX2_greatestColumn_7 : decode cX2_greatestColumn 7 = .ok (.aload_n 0, 1) := by decide +kernel
theorem dX2_greatestColumn_8 : decode cX2_greatestColumn 8 = .ok (.iload_n 1, 1) := by decide +kernel
theorem dX2_greatestColumn_9 : decode cX2_greatestColumn 9 = .ok (.bipush 8, 2) := by decide +kernel
theorem dX2_greatestColumn_11 : decode cX2_greatestColumn 11 = .ok (.imul, 1) := by decide +kernel
theorem dX2_greatestColumn_12 : decode cX2_greatestColumn 12 = .ok (.iload_n 2, 1) := by decide +kernel
theorem dX2_greatestColumn_13 : decode cX2_greatestColumn 13 = .ok (.iadd, 1) := by decide +kernel
theorem dX2_greatestColumn_14 : decode cX2_greatestColumn 14 = .ok (.invokevirtual 39, 3) := by decide +kernel
theorem dX2_greatestColumn_17 : decode cX2_greatestColumn 17 = .ok (.ifCond .ne 9, 3) := by decide +kernel
theorem dX2_greatestColumn_20 : decode cX2_greatestColumn 20 = .ok (.iinc 2 (-1), 3) := by decide +kernel
theorem dX2_greatestColumn_23 : decode cX2_greatestColumn 23 = .ok (.goto (-20), 3) := by decide +kernel
theorem dX2_greatestColumn_26 : decode cX2_greatestColumn 26 = .ok (.iload_n 2, 1) := by decide +kernel
theorem dX2_greatestColumn_27 : decode cX2_greatestColumn 27 = .ok (.ireturn, 1) := by decide +kernel
theorem dX2_mostOpenRow_0 : decode cX2_mostOpenRow 0 = .ok (.aload_n 0, 1) := by decide +kernel
theorem dX2_mostOpenRow_1 : decode cX2_mostOpenRow 1 = .ok (.getfield 26, 3) := by decide +kernel
theorem dX2_mostOpenRow_4 : decode cX2_mostOpenRow 4 = .ok (.iconst 1, 1) := by decide +kernel
theorem dX2_mostOpenRow_5 : decode cX2_mostOpenRow 5 = .ok (.if_icmp .gt 6, 3) := by decide +kernel
theorem dX2_mostOpenRow_8 : decode cX2_mostOpenRow 8 = .ok (.bipush (-5), 2) := by decide +kernel
theorem dX2_mostOpenRow_10 : decode cX2_mostOpenRow 10 = .ok (.ireturn, 1) := by decide +kernel
theorem dX2_mostOpenRow_11 : decode cX2_mostOpenRow 11 = .ok (.iconst 0, 1) := by decide +kernel
theorem dX2_mostOpenRow_12 : decode cX2_mostOpenRow 12 = .ok (.istore_n 1, 1) := by decide +kernel
theorem dX2_mostOpenRow_13 : decode cX2_mostOpenRow 13 = .ok (.iconst 1, 1) := by decide +kernel
theorem dX2_mostOpenRow_14 : decode cX2_mostOpenRow 14 = .ok (.istore_n 2, 1) := by decide +kernel
theorem dX2_mostOpenRow_15 : decode cX2_mostOpenRow 15 = .ok (.iload_n 2, 1) := by decide +kernel
theorem dX2_mostOpenRow_16 : decode cX2_mostOpenRow 16 = .ok (.bipush 8, 2) := by decide +kernel
theorem dX2_mostOpenRow_18 : decode cX2_mostOpenRow 18 = .ok (.if_icmp .ge 24, 3) := by decide +kernel
theorem dX2_mostOpenRow_21 : decode cX2_mostOpenRow 21 = .ok (.aload_n 0, 1) := by decide +kernel
theorem dX2_mostOpenRow_22 : decode cX2_mostOpenRow 22 = .ok (.iload_n 2, 1) := by decide +kernel
theorem dX2_mostOpenRow_23 : decode cX2_mostOpenRow 23 = .ok (.invokevirtual 43, 3) := by decide +kernel
theorem dX2_mostOpenRow_26 : decode cX2_mostOpenRow 26 = .ok (.aload_n 0, 1) := by decide +kernel
theorem dX2_mostOpenRow_27 : decode cX2_mostOpenRow 27 = .ok (.iload_n 1, 1) := by decide +kernel
theorem dX2_mostOpenRow_28 : decode cX2_mostOpenRow 28 = .ok (.invokevirtual 43, 3) := by decide +kernel
theorem dX2_mostOpenRow_31 : decode cX2_mostOpenRow 31 = .ok (.if_icmp .le 5, 3) := by decide +kernel
theorem dX2_mostOpenRow_34 : decode cX2_mostOpenRow 34 = .ok (.iload_n 2, 1) := by decide +kernel
theorem dX2_mostOpenRow_35 : decode cX2_mostOpenRow 35 = .ok (.istore_n 1, 1) := by decide +kernel
theorem dX2_mostOpenRow_36 : decode cX2_mostOpenRow 36 = .ok (.iinc 2 1, 3) := by decide +kernel
theorem dX2_mostOpenRow_39 : decode cX2_mostOpenRow 39 = .ok (.goto (-24), 3) := by decide +kernel
theorem dX2_mostOpenRow_42 : decode cX2_mostOpenRow 42 = .ok (.iload_n 1, 1) := by decide +kernel
theorem dX2_mostOpenRow_43 : decode cX2_mostOpenRow 43 = .ok (.ireturn, 1) := by decide +kernel
theorem dX2_openColumns_0 : decode cX2_openColumns 0 = .ok (.iconst 0, 1) := by decide +kernel
theorem dX2_openColumns_1 : decode cX2_openColumns 1 = .ok (.istore_n 2, 1) := by decide +kernel
theorem dX2_openColumns_2 : decode cX2_openColumns 2 = .ok (.iconst 0, 1) := by decide +kernel
theorem dX2_openColumns_3 : decode cX2_openColumns 3 = .ok (.istore_n 3, 1) := by decide +kernel
theorem dX2_openColumns_4 : decode cX2_openColumns 4 = .ok (.iload_n 3, 1) := by decide +kernel
theorem dX2_openColumns_5 : decode cX2_openColumns 5 = .ok (.bipush 8, 2) := by decide +kernel
theorem dX2_openColumns_7 : decode cX2_openColumns 7 = .ok (.if_icmp .ge 25, 3) := by decide +kernel
theorem dX2_openColumns_10 : decode cX2_openColumns 10 = .ok (.aload_n 0, 1) := by decide +kernel
theorem dX2_openColumns_11 : decode cX2_openColumns 11 = .ok (.iload_n 1, 1) := by decide +kernel
theorem dX2_openColumns_12 : decode cX2_openColumns 12 = .ok (.bipush 8, 2) := by decide +kernel
theorem dX2_openColumns_14 : decode cX2_openColumns 14 = .ok (.imul, 1) := by decide +kernel
theorem dX2_openColumns_15 : decode cX2_openColumns 15 = .ok (.iload_n 3, 1) := by decide +kernel
theorem dX2_openColumns_16 : decode cX2_openColumns 16 = .ok (.iadd, 1) := by decide +kernel
theorem dX2_openColumns_17 : decode cX2_openColumns 17 = .ok (.invokevirtual 39, 3) := by decide +kernel
theorem dX2_openColumns_20 : decode cX2_openColumns 20 = .ok (.ifCond .le 6, 3) := by decide +kernel
theorem dX2_openColumns_23 : decode cX2_openColumns 23 = .ok (.iinc 2 1, 3) := by decide +kernel
theorem dX2_openColumns_26 : decode cX2_openColumns 26 = .ok (.iinc 3 1, 3) := by decide +kernel
theorem dX2_openColumns_29 : decode cX2_openColumns 29 = .ok (.goto (-25), 3) := by decide +kernel
theorem dX2_openColumns_32 : decode cX2_openColumns 32 = .ok (.iload_n 2, 1) := by decide +kernel
theorem dX2_openColumns_33 : decode cX2_openColumns 33 = .ok (.ireturn, 1) := by decide +kernel
theorem dX3_init_0 : decode cX3_init 0 = .ok (.aload_n 0, 1) := by decide +kernel
theorem dX3_init_1 : decode cX3_init 1 = .ok (.invokespecial 3, 3) := by decide +kernel
theorem dX3_init_4 : decode cX3_init 4 = .ok (.aload_n 0, 1) := by decide +kernel
theorem dX3_init_5 : decode cX3_init 5 = .ok (.bipush 64, 2) := by decide +kernel
theorem dX3_init_7 : decode cX3_init 7 = .ok (.newarray .int, 2) := by decide +kernel
theorem dX3_init_9 : decode cX3_init 9 = .ok (.putfield 9, 3) := by decide +kernel
theorem dX3_init_12 : decode cX3_init 12 = .ok (.aload_n 0, 1) := by decide +kernel
theorem dX3_init_13 : decode cX3_init 13 = .ok (.bipush 64, 2) := by decide +kernel
theorem dX3_init_15 : decode cX3_init 15 = .ok (.newarray .boolean, 2) := by decide +kernel
theorem dX3_init_17 : decode cX3_init 17 = .ok (.putfield 15, 3) := by decide +kernel
theorem dX3_init_20 : decode cX3_init 20 = .ok (.aload_n 0, 1) := by decide +kernel
theorem dX3_init_21 : decode cX3_init 21 = .ok (.iconst 3, 1) := by decide +kernel
theorem dX3_init_22 : decode cX3_init 22 = .ok (.newarray .int, 2) := by decide +kernel
theorem dX3_init_24 : decode cX3_init 24 = .ok (.putfield 19, 3) := by decide +kernel
theorem dX3_init_27 : decode cX3_init 27 = .ok (.aload_n 0, 1) := by decide +kernel
theorem dX3_init_28 : decode cX3_init 28 = .ok (.iconst 3, 1) := by decide +kernel
theorem dX3_init_29 : decode cX3_init 29 = .ok (.newarray .int, 2) := by decide +kernel
theorem dX3_init_31 : decode cX3_init 31 = .ok (.putfield 22, 3) := by decide +kernel
theorem dX3_init_34 : decode cX3_init 34 = .ok (.aload_n 0, 1) := by decide +kernel
theorem dX3_init_35 : decode cX3_init 35 = .ok (.iconst 3, 1) := by decide +kernel
theorem dX3_init_36 : decode cX3_init 36 = .ok (.newarray .int, 2) := by decide +kernel
theorem dX3_init_38 : decode cX3_init 38 = .ok (.putfield 25, 3) := by decide +kernel
theorem dX3_init_41 : decode cX3_init 41 = .ok (.aload_n 0, 1) := by decide +kernel
theorem dX3_init_42 : decode cX3_init 42 = .ok (.iconst 3, 1) := by decide +kernel
theorem dX3_init_43 : decode cX3_init 43 = .ok (.newarray .int, 2) := by decide +kernel
theorem dX3_init_45 : decode cX3_init 45 = .ok (.putfield 28, 3) := by decide +kernel
theorem dX3_init_48 : decode cX3_init 48 = .ok (.aload_n 0, 1) := by decide +kernel
theorem dX3_init_49 : decode cX3_init 49 = .ok (.bipush 8, 2) := by decide +kernel
theorem dX3_init_51 : decode cX3_init 51 = .ok (.newarray .int, 2) := by decide +kernel
theorem dX3_init_53 : decode cX3_init 53 = .ok (.putfield 31, 3) := by decide +kernel
theorem dX3_init_56 : decode cX3_init 56 = .ok (.aload_n 0, 1) := by decide +kernel
theorem dX3_init_57 : decode cX3_init 57 = .ok (.iconst 3, 1) := by decide +kernel
theorem dX3_init_58 : decode cX3_init 58 = .ok (.newarray .int, 2) := by decide +kernel
theorem dX3_init_60 : decode cX3_init 60 = .ok (.putfield 34, 3) := by decide +kernel
theorem dX3_init_63 : decode cX3_init 63 = .ok (.iconst 0, 1) := by decide +kernel
theorem dX3_init_64 : decode cX3_init 64 = .ok (.istore_n 1, 1) := by decide +kernel
theorem dX3_init_65 : decode cX3_init 65 = .ok (.iload_n 1, 1) := by decide +kernel
theorem dX3_init_66 : decode cX3_init 66 = .ok (.iconst 3, 1) := by decide +kernel
theorem dX3_init_67 : decode cX3_init 67 = .ok (.if_icmp .ge 20, 3) := by decide +kernel
theorem dX3_init_70 : decode cX3_init 70 = .ok (.aload_n 0, 1) := by decide +kernel
theorem dX3_init_71 : decode cX3_init 71 = .ok (.getfield 34, 3) := by decide +kernel
theorem dX3_init_74 : decode cX3_init 74 = .ok (.iload_n 1, 1) := by decide +kernel
theorem dX3_init_75 : decode cX3_init 75 = .ok (.getstatic 37, 3) := by decide +kernel
theorem dX3_init_78 : decode cX3_init 78 = .ok (.iload_n 1, 1) := by decide +kernel
theorem dX3_init_79 : decode cX3_init 79 = .ok (.iaload, 1) := by decide +kernel
theorem dX3_init_80 : decode cX3_init 80 = .ok (.iastore, 1) := by decide +kernel
theorem dX3_init_81 : decode cX3_init 81 = .ok (.iinc 1 1, 3) := by decide +kernel
theorem dX3_init_84 : decode cX3_init 84 = .ok (.goto (-19), 3) := by decide +kernel
theorem dX3_init_87 : decode cX3_init 87 = .ok (.iconst 0, 1) := by decide +kernel
theorem dX3_init_88 : decode cX3_init 88 = .ok (.istore_n 1, 1) := by decide +kernel
theorem dX3_init_89 : decode cX3_init 89 = .ok (.iload_n 1, 1) := by decide +kernel
theorem dX3_init_90 : decode cX3_init 90 = .ok (.iconst 3, 1) := by decide +kernel
theorem dX3_init_91 : decode cX3_init 91 = .ok (.if_icmp .ge 28, 3) := by decide +kernel
theorem dX3_init_94 : decode cX3_init 94 = .ok (.aload_n 0, 1) := by decide +kernel
theorem dX3_init_95 : decode cX3_init 95 = .ok (.getfield 19, 3) := by decide +kernel
theorem dX3_init_98 : decode cX3_init 98 = .ok (.iload_n 1, 1) := by decide +kernel
theorem dX3_init_99 : decode cX3_init 99 = .ok (.iload_n 1, 1) := by decide +kernel
theorem dX3_init_100 : decode cX3_init 100 = .ok (.iastore, 1) := by decide +kernel
theorem dX3_init_101 : decode cX3_init 101 = .ok (.aload_n 0, 1) := by decide +kernel
theorem dX3_init_102 : decode cX3_init 102 = .ok (.getfield 22, 3) := by decide +kernel
theorem dX3_init_105 : decode cX3_init 105 = .ok (.iload_n 1, 1) := by decide +kernel
theorem dX3_init_106 : decode cX3_init 106 = .ok (.aload_n 0, 1) := by decide +kernel
theorem dX3_init_107 : decode cX3_init 107 = .ok (.getfield 34, 3) := by decide +kernel
theorem dX3_init_110 : decode cX3_init 110 = .ok (.iconst 0, 1) := by decide +kernel
theorem dX3_init_111 : decode cX3_init 111 = .ok (.iaload, 1) := by decide +kernel
theorem dX3_init_112 : decode cX3_init 112 = .ok (.iastore, 1) := by decide +kernel
theorem dX3_init_113 : decode cX3_init 113 = .ok (.iinc 1 1, 3) := by decide +kernel
theorem dX3_init_116 : decode cX3_init 116 = .ok (.goto (-27), 3) := by decide +kernel
theorem dX3_init_119 : decode cX3_init 119 = .ok (.iconst 0, 1) := by decide +kernel
theorem dX3_init_120 : decode cX3_init 120 = .ok (.istore_n 1, 1) := by decide +kernel
theorem dX3_init_121 : decode cX3_init 121 = .ok (.iload_n 1, 1) := by decide +kernel
theorem dX3_init_122 : decode cX3_init 122 = .ok (.bipush 8, 2) := by decide +kernel
theorem dX3_init_124 : decode cX3_init 124 = .ok (.if_icmp .ge 17, 3) := by decide +kernel
theorem dX3_init_127 : decode cX3_init 127 = .ok (.aload_n 0, 1) := by decide +kernel
theorem dX3_init_128 : decode cX3_init 128 = .ok (.getfield 31, 3) := by decide +kernel
theorem dX3_init_131 : decode cX3_init 131 = .ok (.iload_n 1, 1) := by decide +kernel
theorem dX3_init_132 : decode cX3_init 132 = .ok (.bipush (-5), 2) := by decide +kernel
theorem dX3_init_134 : decode cX3_init 134 = .ok (.iastore, 1) := by decide +kernel
theorem dX3_init_135 : decode cX3_init 135 = .ok (.iinc 1 1, 3) := by decide +kernel
theorem dX3_init_138 : decode cX3_init 138 = .ok (.goto (-17), 3) := by decide +kernel
theorem dX3_init_141 : decode cX3_init 141 = .ok (.return_, 1) := by decide +kernel
theorem dX3_copyFrom_0 : decode cX3_copyFrom 0 = .ok (.aload_n 1, 1) := by decide +kernel
theorem dX3_copyFrom_1 : decode cX3_copyFrom 1 = .ok (.getfield 9, 3) := by decide +kernel
theorem dX3_copyFrom_4 : decode cX3_copyFrom 4 = .ok (.iconst 0, 1) := by decide +kernel
theorem dX3_copyFrom_5 : decode cX3_copyFrom 5 = .ok (.aload_n 0, 1) := by decide +kernel
theorem dX3_copyFrom_6 : decode cX3_copyFrom 6 = .ok (.getfield 9, 3) := by decide +kernel
theorem dX3_copyFrom_9 : decode cX3_copyFrom 9 = .ok (.iconst 0, 1) := by decide +kernel
theorem dX3_copyFrom_10 : decode cX3_copyFrom 10 = .ok (.bipush 64, 2) := by decide +kernel
theorem dX3_copyFrom_12 : decode cX3_copyFrom 12 = .ok (.invokestatic 40, 3) := by decide +kernel
theorem dX3_copyFrom_15 : decode cX3_copyFrom 15 = .ok (.aload_n 1, 1) := by decide +kernel
theorem dX3_copyFrom_16 : decode cX3_copyFrom 16 = .ok (.getfield 15, 3) := by decide +kernel
theorem dX3_copyFrom_19 : decode cX3_copyFrom 19 = .ok (.iconst 0, 1) := by decide +kernel
theorem dX3_copyFrom_20 : decode cX3_copyFrom 20 = .ok (.aload_n 0, 1) := by decide +kernel
theorem dX3_copyFrom_21 : decode cX3_copyFrom 21 = .ok (.getfield 15, 3) := by decide +kernel
theorem dX3_copyFrom_24 : decode cX3_copyFrom 24 = .ok (.iconst 0, 1) := by decide +kernel
theorem dX3_copyFrom_25 : decode cX3_copyFrom 25 = .ok (.bipush 64, 2) := by decide +kernel
theorem dX3_copyFrom_27 : decode cX3_copyFrom 27 = .ok (.invokestatic 40, 3) := by decide +kernel
theorem dX3_copyFrom_30 : decode cX3_copyFrom 30 = .ok (.aload_n 0, 1) := by decide +kernel
theorem dX3_copyFrom_31 : decode cX3_copyFrom 31 = .ok (.aload_n 1, 1) := by decide +kernel
theorem dX3_copyFrom_32 : decode cX3_copyFrom 32 = .ok (.getfield 46, 3) := by decide +kernel
theorem dX3_copyFrom_35 : decode cX3_copyFrom 35 = .ok (.putfield 46, 3) := by decide +kernel
theorem dX3_copyFrom_38 : decode cX3_copyFrom 38 = .ok (.aload_n 1, 1) := by decide +kernel
theorem dX3_copyFrom_39 : decode cX3_copyFrom 39 = .ok (.getfield 19, 3) := by decide +kernel
theorem dX3_copyFrom_42 : decode cX3_copyFrom 42 = .ok (.iconst 0, 1) := by decide +kernel
theorem dX3_copyFrom_43 : decode cX3_copyFrom 43 = .ok (.aload_n 0, 1) := by decide +kernel
theorem dX3_copyFrom_44 : decode cX3_copyFrom 44 = .ok (.getfield 19, 3) := by decide +kernel
theorem dX3_copyFrom_47 : decode cX3_copyFrom 47 = .ok (.iconst 0, 1) := by decide +kernel
theorem dX3_copyFrom_48 : decode cX3_copyFrom 48 = .ok (.iconst 3, 1) := by decide +kernel
theorem dX3_copyFrom_49 : decode cX3_copyFrom 49 = .ok (.invokestatic 40, 3) := by decide +kernel
theorem dX3_copyFrom_52 : decode cX3_copyFrom 52 = .ok (.aload_n 1, 1) := by decide +kernel
theorem dX3_copyFrom_53 : decode cX3_copyFrom 53 = .ok (.getfield 22, 3) := by decide +kernel
theorem dX3_copyFrom_56 : decode cX3_copyFrom 56 = .ok (.iconst 0, 1) := by decide +kernel
theorem dX3_copyFrom_57 : decode cX3_copyFrom 57 = .ok (.aload_n 0, 1) := by decide +kernel
theorem dX3_copyFrom_58 : decode cX3_copyFrom 58 = .ok (.getfield 22, 3) := by decide +kernel
theorem dX3_copyFrom_61 : decode cX3_copyFrom 61 = .ok (.iconst 0, 1) := by decide +kernel
theorem dX3_copyFrom_62 : decode cX3_copyFrom 62 = .ok (.iconst 3, 1) := by decide +kernel
theorem dX3_copyFrom_63 : decode cX3_copyFrom 63 = .ok (.invokestatic 40, 3) := by decide +kernel
theorem dX3_copyFrom_66 : decode cX3_copyFrom 66 = .ok (.aload_n 1, 1) := by decide +kernel
theorem dX3_copyFrom_67 : decode cX3_copyFrom 67 = .ok (.getfield 25, 3) := by decide +kernel
theorem dX3_copyFrom_70 : decode cX3_copyFrom 70 = .ok (.iconst 0, 1) := by decide +kernel
theorem dX3_copyFrom_71 : decode cX3_copyFrom 71 = .ok (.aload_n 0, 1) := by decide +kernel
theorem dX3_copyFrom_72 : decode cX3_copyFrom 72 = .ok (.getfield 25, 3) := by decide +kernel
theorem dX3_copyFrom_75 : decode cX3_copyFrom 75 = .ok (.iconst 0, 1) := by decide +kernel
theorem dX3_copyFrom_76 : decode cX3_copyFrom 76 = .ok (.iconst 3, 1) := by decide +kernel
theorem dX3_copyFrom_77 : decode cX3_copyFrom 77 = .ok (.invokestatic 40, 3) := by decide +kernel
theorem dX3_copyFrom_80 : decode cX3_copyFrom 80 = .ok (.aload_n 1, 1) := by decide +kernel
theorem dX3_copyFrom_81 : decode cX3_copyFrom 81 = .ok (.getfield 28, 3) := by decide +kernel
theorem dX3_copyFrom_84 : decode cX3_copyFrom 84 = .ok (.iconst 0, 1) := by decide +kernel
theorem dX3_copyFrom_85 : decode cX3_copyFrom 85 = .ok (.aload_n 0, 1) := by decide +kernel
theorem dX3_copyFrom_86 : decode cX3_copyFrom 86 = .ok (.getfield 28, 3) := by decide +kernel
theorem dX3_copyFrom_89 : decode cX3_copyFrom 89 = .ok (.iconst 0, 1) := by decide +kernel
theorem dX3_copyFrom_90 : decode cX3_copyFrom 90 = .ok (.iconst 3, 1) := by decide +kernel
theorem dX3_copyFrom_91 : decode cX3_copyFrom 91 = .ok (.invokestatic 40, 3) := by decide +kernel
theorem dX3_copyFrom_94 : decode cX3_copyFrom 94 = .ok (.aload_n 1, 1) := by decide +kernel
theorem dX3_copyFrom_95 : decode cX3_copyFrom 95 = .ok (.getfield 31, 3) := by decide +kernel
theorem dX3_copyFrom_98 : decode cX3_copyFrom 98 = .ok (.iconst 0, 1) := by decide +kernel
theorem dX3_copyFrom_99 : decode cX3_copyFrom 99 = .ok (.aload_n 0, 1) := by decide +kernel
theorem dX3_copyFrom_100 : decode cX3_copyFrom 100 = .ok (.getfield 31, 3) := by decide +kernel
theorem dX3_copyFrom_103 : decode cX3_copyFrom 103 = .ok (.iconst 0, 1) := by decide +kernel
theorem dX3_copyFrom_104 : decode cX3_copyFrom 104 = .ok (.bipush 8, 2) := by decide +kernel
theorem dX3_copyFrom_106 : decode cX3_copyFrom 106 = .ok (.invokestatic 40, 3) := by decide +kernel
theorem dX3_copyFrom_109 : decode cX3_copyFrom 109 = .ok (.aload_n 1, 1) := by decide +kernel
theorem dX3_copyFrom_110 : decode cX3_copyFrom 110 = .ok (.getfield 34, 3) := by decide +kernel
theorem dX3_copyFrom_113 : decode cX3_copyFrom 113 = .ok (.iconst 0, 1) := by decide +kernel
theorem dX3_copyFrom_114 : decode cX3_copyFrom 114 = .ok (.aload_n 0, 1) := by decide +kernel
theorem dX3_copyFrom_115 : decode cX3_copyFrom 115 = .ok (.getfield 34, 3) := by decide +kernel
theorem dX3_copyFrom_118 : decode cX3_copyFrom 118 = .ok (.iconst 0, 1) := by decide +kernel
theorem dX3_copyFrom_119 : decode cX3_copyFrom 119 = .ok (.iconst 3, 1) := by decide +kernel
theorem dX3_copyFrom_120 : decode cX3_copyFrom 120 = .ok (.invokestatic 40, 3) := by decide +kernel
theorem dX3_copyFrom_123 : decode cX3_copyFrom 123 = .ok (.aload_n 0, 1) := by decide +kernel
theorem dX3_copyFrom_124 : decode cX3_copyFrom 124 = .ok (.aload_n 1, 1) := by decide +kernel
theorem dX3_copyFrom_125 : decode cX3_copyFrom 125 = .ok (.getfield 50, 3) := by decide +kernel
theorem dX3_copyFrom_128 : decode cX3_copyFrom 128 = .ok (.putfield 50, 3) := by decide +kernel
theorem dX3_copyFrom_131 : decode cX3_copyFrom 131 = .ok (.aload_n 0, 1) := by decide +kernel
theorem dX3_copyFrom_132 : decode cX3_copyFrom 132 = .ok (.aload_n 1, 1) := by decide +kernel
theorem dX3_copyFrom_133 : decode cX3_copyFrom 133 = .ok (.getfield 53, 3) := by decide +kernel
theorem dX3_copyFrom_136 : decode cX3_copyFrom 136 = .ok (.putfield 53, 3) := by decide +kernel
theorem dX3_copyFrom_139 : decode cX3_copyFrom 139 = .ok (.aload_n 0, 1) := by decide +kernel
theorem dX3_copyFrom_140 : decode cX3_copyFrom 140 = .ok (.aload_n 1, 1) := by decide +kernel
theorem dX3_copyFrom_141 : decode cX3_copyFrom 141 = .ok (.getfield 56, 3) := by decide +kernel
theorem dX3_copyFrom_144 : decode cX3_copyFrom 144 = .ok (.putfield 56, 3) := by decide +kernel
theorem dX3_copyFrom_147 : decode cX3_copyFrom 147 = .ok (.aload_n 0, 1) := by decide +kernel
theorem dX3_copyFrom_148 : decode cX3_copyFrom 148 = .ok (.aload_n 1, 1) := by decide +kernel
theorem dX3_copyFrom_149 : decode cX3_copyFrom 149 = .ok (.getfield 59, 3) := by decide +kernel
theorem dX3_copyFrom_152 : decode cX3_copyFrom 152 = .ok (.putfield 59, 3) := by decide +kernel
theorem dX3_copyFrom_155 : decode cX3_copyFrom 155 = .ok (.return_, 1) := by decide +kernel
theorem dX3_plant_0 : decode cX3_plant 0 = .ok (.iload_n 1, 1) := by decide +kernel
theorem dX3_plant_1 : decode cX3_plant 1 = .ok (.iconst 0, 1) := by decide +kernel
theorem dX3_plant_2 : decode cX3_plant 2 = .ok (.bipush 63, 2) := by decide +kernel
theorem dX3_plant_4 : decode cX3_plant 4 = .ok (.invokestatic 62, 3) := by decide +kernel
theorem dX3_plant_7 : decode cX3_plant 7 = .ok (.ifCond .ne 5, 3) := by decide +kernel
theorem dX3_plant_10 : decode cX3_plant 10 = .ok (.iconst (-1), 1) := by decide +kernel
theorem dX3_plant_11 : decode cX3_plant 11 = .ok (.ireturn, 1) := by decide +kernel
theorem dX3_plant_12 : decode cX3_plant 12 = .ok (.iload_n 2, 1) := by decide +kernel
theorem dX3_plant_13 : decode cX3_plant 13 = .ok (.iconst 0, 1) := by decide +kernel
theorem dX3_plant_14 : decode cX3_plant 14 = .ok (.bipush 99, 2) := by decide +kernel
theorem dX3_plant_16 : decode cX3_plant 16 = .ok (.invokestatic 62, 3) := by decide +kernel
theorem dX3_plant_19 : decode cX3_plant 19 = .ok (.ifCond .ne 6, 3) := by decide +kernel
theorem dX3_plant_22 : decode cX3_plant 22 = .ok (.bipush (-2), 2) := by decide +kernel
theorem dX3_plant_24 : decode cX3_plant 24 = .ok (.ireturn, 1) := by decide +kernel
theorem dX3_plant_25 : decode cX3_plant 25 = .ok (.aload_n 0, 1) := by decide +kernel
theorem dX3_plant_26 : decode cX3_plant 26 = .ok (.getfield 9, 3) := by decide +kernel
theorem dX3_plant_29 : decode cX3_plant 29 = .ok (.iload_n 1, 1) := by decide +kernel
theorem dX3_plant_30 : decode cX3_plant 30 = .ok (.iaload, 1) := by decide +kernel
theorem dX3_plant_31 : decode cX3_plant 31 = .ok (.istore_n 3, 1) := by decide +kernel
theorem dX3_plant_32 : decode cX3_plant 32 = .ok (.iload_n 3, 1) := by decide +kernel
theorem dX3_plant_33 : decode cX3_plant 33 = .ok (.iload_n 2, 1) := by decide +kernel
theorem dX3_plant_34 : decode cX3_plant 34 = .ok (.if_icmp .ne 6, 3) := by decide +kernel
theorem dX3_plant_37 : decode cX3_plant 37 = .ok (.bipush (-5), 2) := by decide +kernel
theorem dX3_plant_39 : decode cX3_plant 39 = .ok (.ireturn, 1) := by decide +kernel
theorem dX3_plant_40 : decode cX3_plant 40 = .ok (.aload_n 0, 1) := by decide +kernel
theorem dX3_plant_41 : decode cX3_plant 41 = .ok (.getfield 9, 3) := by decide +kernel
theorem dX3_plant_44 : decode cX3_plant 44 = .ok (.iload_n 1, 1) := by decide +kernel
theorem dX3_plant_45 : decode cX3_plant 45 = .ok (.iload_n 2, 1) := by decide +kernel
theorem dX3_plant_46 : decode cX3_plant 46 = .ok (.iastore, 1) := by decide +kernel
theorem dX3_plant_47 : decode cX3_plant 47 = .ok (.iload_n 3, 1) := by decide +kernel
theorem dX3_plant_48 : decode cX3_plant 48 = .ok (.ireturn, 1) := by decide +kernel
theorem dX3_getWet_0 : decode cX3_getWet 0 = .ok (.iload_n 1, 1) := by decide +kernel
theorem dX3_getWet_1 : decode cX3_getWet 1 = .ok (.iconst 1, 1) := by decide +kernel
theorem dX3_getWet_2 : decode cX3_getWet 2 = .ok (.bipush 9, 2) := by decide +kernel
theorem dX3_getWet_4 : decode cX3_getWet 4 = .ok (.invokestatic 62, 3) := by decide +kernel
theorem dX3_getWet_7 : decode cX3_getWet 7 = .ok (.ifCond .ne 6, 3) := by decide +kernel
theorem dX3_getWet_10 : decode cX3_getWet 10 = .ok (.bipush (-2), 2) := by decide +kernel
theorem dX3_getWet_12 : decode cX3_getWet 12 = .ok (.ireturn, 1) := by decide +kernel
theorem dX3_getWet_13 : decode cX3_getWet 13 = .ok (.aload_n 0, 1) := by decide +kernel
theorem dX3_getWet_14 : decode cX3_getWet 14 = .ok (.bipush 9, 2) := by decide +kernel
theorem dX3_getWet_16 : decode cX3_getWet 16 = .ok (.aload_n 0, 1) := by decide +kernel
theorem dX3_getWet_17 : decode cX3_getWet 17 = .ok (.getfield 46, 3) := by decide +kernel
theorem dX3_getWet_20 : decode cX3_getWet 20 = .ok (.iload_n 1, 1) := by decide +kernel
theorem dX3_getWet_21 : decode cX3_getWet 21 = .ok (.iadd, 1) := by decide +kernel
theorem dX3_getWet_22 : decode cX3_getWet 22 = .ok (.invokestatic 66, 3) := by decide +kernel
theorem dX3_getWet_25 : decode cX3_getWet 25 = .ok (.putfield 46, 3) := by decide +kernel
theorem dX3_getWet_28 : decode cX3_getWet 28 = .ok (.aload_n 0, 1) := by decide +kernel
theorem dX3_getWet_29 : decode cX3_getWet 29 = .ok (.getfield 46, 3) := by decide +kernel
theorem dX3_getWet_32 : decode cX3_getWet 32 = .ok (.bipush 9, 2) := by decide +kernel
theorem dX3_getWet_34 : decode cX3_getWet 34 = .ok (.if_icmp .ne 8, 3) := by decide +kernel
theorem dX3_getWet_37 : decode cX3_getWet 37 = .ok (.bipush 64, 2) := by decide +kernel
theorem dX3_getWet_39 : decode cX3_getWet 39 = .ok (.goto 4, 3) := by decide +kernel
theorem dX3_getWet_42 : decode cX3_getWet 42 = .ok (.iconst 0, 1) := by decide +kernel
theorem dX3_getWet_43 : decode cX3_getWet 43 = .ok (.ireturn, 1) := by decide +kernel
theorem dX3_passDays_0 : decode cX3_passDays 0 = .ok (.iload_n 1, 1) := by decide +kernel
theorem dX3_passDays_1 : decode cX3_passDays 1 = .ok (.iconst 1, 1) := by decide +kernel
theorem dX3_passDays_2 : decode cX3_passDays 2 = .ok (.bipush 99, 2) := by decide +kernel
theorem dX3_passDays_4 : decode cX3_passDays 4 = .ok (.invokestatic 62, 3) := by decide +kernel
theorem dX3_passDays_7 : decode cX3_passDays 7 = .ok (.ifCond .ne 6, 3) := by decide +kernel
theorem dX3_passDays_10 : decode cX3_passDays 10 = .ok (.bipush (-2), 2) := by decide +kernel
theorem dX3_passDays_12 : decode cX3_passDays 12 = .ok (.ireturn, 1) := by decide +kernel
theorem dX3_passDays_13 : decode cX3_passDays 13 = .ok (.aload_n 0, 1) := by decide +kernel
theorem dX3_passDays_14 : decode cX3_passDays 14 = .ok (.getfield 50, 3) := by decide +kernel
theorem dX3_passDays_17 : decode cX3_passDays 17 = .ok (.iload_n 1, 1) := by decide +kernel
theorem dX3_passDays_18 : decode cX3_passDays 18 = .ok (.iadd, 1) := by decide +kernel
theorem dX3_passDays_19 : decode cX3_passDays 19 = .ok (.sipush 9999, 3) := by decide +kernel
theorem dX3_passDays_22 : decode cX3_passDays 22 = .ok (.if_icmp .le 6, 3) := by decide +kernel
theorem dX3_passDays_25 : decode cX3_passDays 25 = .ok (.bipush (-3), 2) := by decide +kernel
theorem dX3_passDays_27 : decode cX3_passDays 27 = .ok (.ireturn, 1) := by decide +kernel
theorem dX3_passDays_28 : decode cX3_passDays 28 = .ok (.aload_n 0, 1) := by decide +kernel
theorem dX3_passDays_29 : decode cX3_passDays 29 = .ok (.dup, 1) := by decide +kernel
theorem dX3_passDays_30 : decode cX3_passDays 30 = .ok (.getfield 50, 3) := by decide +kernel
theorem dX3_passDays_33 : decode cX3_passDays 33 = .ok (.iload_n 1, 1) := by decide +kernel
theorem dX3_passDays_34 : decode cX3_passDays 34 = .ok (.iadd, 1) := by decide +kernel
theorem dX3_passDays_35 : decode cX3_passDays 35 = .ok (.putfield 50, 3) := by decide +kernel
theorem dX3_passDays_38 : decode cX3_passDays 38 = .ok (.aload_n 0, 1) := by decide +kernel
theorem dX3_passDays_39 : decode cX3_passDays 39 = .ok (.iconst 0, 1) := by decide +kernel
theorem dX3_passDays_40 : decode cX3_passDays 40 = .ok (.aload_n 0, 1) := by decide +kernel
theorem dX3_passDays_41 : decode cX3_passDays 41 = .ok (.getfield 46, 3) := by decide +kernel
theorem dX3_passDays_44 : decode cX3_passDays 44 = .ok (.iload_n 1, 1) := by decide +kernel
theorem dX3_passDays_45 : decode cX3_passDays 45 = .ok (.isub, 1) := by decide +kernel
theorem dX3_passDays_46 : decode cX3_passDays 46 = .ok (.invokestatic 72, 3) := by decide +kernel
theorem dX3_passDays_49 : decode cX3_passDays 49 = .ok (.putfield 46, 3) := by decide +kernel
theorem dX3_passDays_52 : decode cX3_passDays 52 = .ok (.iconst 0, 1) := by decide +kernel
theorem dX3_passDays_53 : decode cX3_passDays 53 = .ok (.istore_n 2, 1) := by decide +kernel
theorem dX3_passDays_54 : decode cX3_passDays 54 = .ok (.iload_n 2, 1) := by decide +kernel
theorem dX3_passDays_55 : decode cX3_passDays 55 = .ok (.iconst 3, 1) := by decide +kernel
theorem dX3_passDays_56 : decode cX3_passDays 56 = .ok (.if_icmp .ge 21, 3) := by decide +kernel
theorem dX3_passDays_59 : decode cX3_passDays 59 = .ok (.aload_n 0, 1) := by decide +kernel
theorem dX3_passDays_60 : decode cX3_passDays 60 = .ok (.getfield 22, 3) := by decide +kernel
theorem dX3_passDays_63 : decode cX3_passDays 63 = .ok (.iload_n 2, 1) := by decide +kernel
theorem dX3_passDays_64 : decode cX3_passDays 64 = .ok (.aload_n 0, 1) := by decide +kernel
theorem dX3_passDays_65 : decode cX3_passDays 65 = .ok (.getfield 34, 3) := by decide +kernel
theorem dX3_passDays_68 : decode cX3_passDays 68 = .ok (.iconst 0, 1) := by decide +kernel
theorem dX3_passDays_69 : decode cX3_passDays 69 = .ok (.iaload, 1) := by decide +kernel
theorem dX3_passDays_70 : decode cX3_passDays 70 = .ok (.iastore, 1) := by decide +kernel
theorem dX3_passDays_71 : decode cX3_passDays 71 = .ok (.iinc 2 1, 3) := by decide +kernel
theorem dX3_passDays_74 : decode cX3_passDays 74 = .ok (.goto (-20), 3) := by decide +kernel
theorem dX3_passDays_77 : decode cX3_passDays 77 = .ok (.aload_n 0, 1) := by decide +kernel
theorem dX3_passDays_78 : decode cX3_passDays 78 = .ok (.getfield 50, 3) := by decide +kernel
theorem dX3_passDays_81 : decode cX3_passDays 81 = .ok (.ireturn, 1) := by decide +kernel
theorem dX3_changeSetting_0 : decode cX3_changeSetting 0 = .ok (.iload_n 1, 1) := by decide +kernel
theorem dX3_changeSetting_1 : decode cX3_changeSetting 1 = .ok (.iconst 0, 1) := by decide +kernel
theorem dX3_changeSetting_2 : decode cX3_changeSetting 2 = .ok (.iconst 2, 1) := by decide +kernel
theorem dX3_changeSetting_3 : decode cX3_changeSetting 3 = .ok (.invokestatic 62, 3) := by decide +kernel
theorem dX3_changeSetting_6 : decode cX3_changeSetting 6 = .ok (.ifCond .ne 5, 3) := by decide +kernel
theorem dX3_changeSetting_9 : decode cX3_changeSetting 9 = .ok (.iconst (-1), 1) := by decide +kernel
theorem dX3_changeSetting_10 : decode cX3_changeSetting 10 = .ok (.ireturn, 1) := by decide +kernel
theorem dX3_changeSetting_11 : decode cX3_changeSetting 11 = .ok (.iload_n 2, 1) := by decide +kernel
theorem dX3_changeSetting_12 : decode cX3_changeSetting 12 = .ok (.getstatic 75, 3) := by decide +kernel
theorem dX3_changeSetting_15 : decode cX3_changeSetting 15 = .ok (.iload_n 1, 1) := by decide +kernel
theorem dX3_changeSetting_16 : decode cX3_changeSetting 16 = .ok (.iaload, 1) := by decide +kernel
theorem dX3_changeSetting_17 : decode cX3_changeSetting 17 = .ok (.getstatic 78, 3) := by decide +kernel
theorem dX3_changeSetting_20 : decode cX3_changeSetting 20 = .ok (.iload_n 1, 1) := by decide +kernel
theorem dX3_changeSetting_21 : decode cX3_changeSetting 21 = .ok (.iaload, 1) := by decide +kernel
theorem dX3_changeSetting_22 : decode cX3_changeSetting 22 = .ok (.invokestatic 62, 3) := by decide +kernel
theorem dX3_changeSetting_25 : decode cX3_changeSetting 25 = .ok (.ifCond .ne 6, 3) := by decide +kernel
theorem dX3_changeSetting_28 : decode cX3_changeSetting 28 = .ok (.bipush (-2), 2) := by decide +kernel
theorem dX3_changeSetting_30 : decode cX3_changeSetting 30 = .ok (.ireturn, 1) := by decide +kernel
theorem dX3_changeSetting_31 : decode cX3_changeSetting 31 = .ok (.aload_n 0, 1) := by decide +kernel
theorem dX3_changeSetting_32 : decode cX3_changeSetting 32 = .ok (.getfield 34, 3) := by decide +kernel
theorem dX3_changeSetting_35 : decode cX3_changeSetting 35 = .ok (.iload_n 1, 1) := by decide +kernel
theorem dX3_changeSetting_36 : decode cX3_changeSetting 36 = .ok (.iaload, 1) := by decide +kernel
theorem dX3_changeSetting_37 : decode cX3_changeSetting 37 = .ok (.istore_n 3, 1) := by decide +kernel
theorem dX3_changeSetting_38 : decode cX3_changeSetting 38 = .ok (.iload_n 3, 1) := by decide +kernel
theorem dX3_changeSetting_39 : decode cX3_changeSetting 39 = .ok (.iload_n 2, 1) := by decide +kernel
theorem dX3_changeSetting_40 : decode cX3_changeSetting 40 = .ok (.if_icmp .ne 6, 3) := by decide +kernel
theorem dX3_changeSetting_43 : decode cX3_changeSetting 43 = .ok (.bipush (-5), 2) := by decide +kernel
theorem dX3_changeSetting_45 : decode cX3_changeSetting 45 = .ok (.ireturn, 1) := by decide +kernel
theorem dX3_changeSetting_46 : decode cX3_changeSetting 46 = .ok (.aload_n 0, 1) := by decide +kernel
theorem dX3_changeSetting_47 : decode cX3_changeSetting 47 = .ok (.getfield 34, 3) := by decide +kernel
theorem dX3_changeSetting_50 : decode cX3_changeSetting 50 = .ok (.iload_n 1, 1) := by decide +kernel
theorem dX3_changeSetting_51 : decode cX3_changeSetting 51 = .ok (.iload_n 2, 1) := by decide +kernel
theorem dX3_changeSetting_52 : decode cX3_changeSetting 52 = .ok (.iastore, 1) := by decide +kernel
theorem dX3_changeSetting_53 : decode cX3_changeSetting 53 = .ok (.iload_n 3, 1) := by decide +kernel
theorem dX3_changeSetting_54 : decode cX3_changeSetting 54 = .ok (.ireturn, 1) := by decide +kernel
theorem dX3_sendCrew_0 : decode cX3_sendCrew 0 = .ok (.iload_n 1, 1) := by decide +kernel
theorem dX3_sendCrew_1 : decode cX3_sendCrew 1 = .ok (.iconst 0, 1) := by decide +kernel
theorem dX3_sendCrew_2 : decode cX3_sendCrew 2 = .ok (.iconst 2, 1) := by decide +kernel
theorem dX3_sendCrew_3 : decode cX3_sendCrew 3 = .ok (.invokestatic 62, 3) := by decide +kernel
theorem dX3_sendCrew_6 : decode cX3_sendCrew 6 = .ok (.ifCond .eq 13, 3) := by decide +kernel
theorem dX3_sendCrew_9 : decode cX3_sendCrew 9 = .ok (.iload_n 2, 1) := by decide +kernel
theorem dX3_sendCrew_10 : decode cX3_sendCrew 10 = .ok (.iconst 0, 1) := by decide +kernel
theorem dX3_sendCrew_11 : decode cX3_sendCrew 11 = .ok (.bipush 63, 2) := by decide +kernel
theorem dX3_sendCrew_13 : decode cX3_sendCrew 13 = .ok (.invokestatic 62, 3) := by decide +kernel
theorem dX3_sendCrew_16 : decode cX3_sendCrew 16 = .ok (.ifCond .ne 5, 3) := by decide +kernel
theorem dX3_sendCrew_19 : decode cX3_sendCrew 19 = .ok (.iconst (-1), 1) := by decide +kernel
theorem dX3_sendCrew_20 : decode cX3_sendCrew 20 = .ok (.ireturn, 1) := by decide +kernel
theorem dX3_sendCrew_21 : decode cX3_sendCrew 21 = .ok (.aload_n 0, 1) := by decide +kernel
theorem dX3_sendCrew_22 : decode cX3_sendCrew 22 = .ok (.iload_n 1, 1) := by decide +kernel
theorem dX3_sendCrew_23 : decode cX3_sendCrew 23 = .ok (.iload_n 2, 1) := by decide +kernel
theorem dX3_sendCrew_24 : decode cX3_sendCrew 24 = .ok (.invokevirtual 81, 3) := by decide +kernel
theorem dX3_sendCrew_27 : decode cX3_sendCrew 27 = .ok (.istore_n 3, 1) := by decide +kernel
theorem dX3_sendCrew_28 : decode cX3_sendCrew 28 = .ok (.iload_n 3, 1) := by decide +kernel
theorem dX3_sendCrew_29 : decode cX3_sendCrew 29 = .ok (.aload_n 0, 1) := by decide +kernel
theorem dX3_sendCrew_30 : decode cX3_sendCrew 30 = .ok (.getfield 22, 3) := by decide +kernel
theorem dX3_sendCrew_33 : decode cX3_sendCrew 33 = .ok (.iload_n 1, 1) := by decide +kernel
theorem dX3_sendCrew_34 : decode cX3_sendCrew 34 = .ok (.iaload, 1) := by decide +kernel
theorem dX3_sendCrew_35 : decode cX3_sendCrew 35 = .ok (.if_icmp .le 6, 3) := by decide +kernel
theorem dX3_sendCrew_38 : decode cX3_sendCrew 38 = .ok (.bipush (-4), 2) := by decide +kernel
theorem dX3_sendCrew_40 : decode cX3_sendCrew 40 = .ok (.ireturn, 1) := by decide +kernel
theorem dX3_sendCrew_41 : decode cX3_sendCrew 41 = .ok (.aload_n 0, 1) := by decide +kernel
theorem dX3_sendCrew_42 : decode cX3_sendCrew 42 = .ok (.getfield 19, 3) := by decide +kernel
theorem dX3_sendCrew_45 : decode cX3_sendCrew 45 = .ok (.iload_n 1, 1) := by decide +kernel
theorem dX3_sendCrew_46 : decode cX3_sendCrew 46 = .ok (.iaload, 1) := by decide +kernel
theorem dX3_sendCrew_47 : decode cX3_sendCrew 47 = .ok (.iload_n 2, 1) := by decide +kernel
theorem dX3_sendCrew_48 : decode cX3_sendCrew 48 = .ok (.if_icmp .ne 6, 3) := by decide +kernel
theorem dX3_sendCrew_51 : decode cX3_sendCrew 51 = .ok (.bipush (-5), 2) := by decide +kernel
theorem dX3_sendCrew_53 : decode cX3_sendCrew 53 = .ok (.ireturn, 1) := by decide +kernel
theorem dX3_sendCrew_54 : decode cX3_sendCrew 54 = .ok (.aload_n 0, 1) := by decide +kernel
theorem dX3_sendCrew_55 : decode cX3_sendCrew 55 = .ok (.getfield 19, 3) := by decide +kernel
theorem dX3_sendCrew_58 : decode cX3_sendCrew 58 = .ok (.iload_n 1, 1) := by decide +kernel
theorem dX3_sendCrew_59 : decode cX3_sendCrew 59 = .ok (.iload_n 2, 1) := by decide +kernel
theorem dX3_sendCrew_60 : decode cX3_sendCrew 60 = .ok (.iastore, 1) := by decide +kernel
theorem dX3_sendCrew_61 : decode cX3_sendCrew 61 = .ok (.aload_n 0, 1) := by decide +kernel
theorem dX3_sendCrew_62 : decode cX3_sendCrew 62 = .ok (.getfield 22, 3) := by decide +kernel
theorem dX3_sendCrew_65 : decode cX3_sendCrew 65 = .ok (.iload_n 1, 1) := by decide +kernel
theorem dX3_sendCrew_66 : decode cX3_sendCrew 66 = .ok (.dup2, 1) := by decide +kernel
theorem dX3_sendCrew_67 : decode cX3_sendCrew 67 = .ok (.iaload, 1) := by decide +kernel
theorem dX3_sendCrew_68 : decode cX3_sendCrew 68 = .ok (.iload_n 3, 1) := by decide +kernel
theorem dX3_sendCrew_69 : decode cX3_sendCrew 69 = .ok (.isub, 1) := by decide +kernel
theorem dX3_sendCrew_70 : decode cX3_sendCrew 70 = .ok (.iastore, 1) := by decide +kernel
theorem dX3_sendCrew_71 : decode cX3_sendCrew 71 = .ok (.aload_n 0, 1) := by decide +kernel
theorem dX3_sendCrew_72 : decode cX3_sendCrew 72 = .ok (.getfield 22, 3) := by decide +kernel
theorem dX3_sendCrew_75 : decode cX3_sendCrew 75 = .ok (.iload_n 1, 1) := by decide +kernel
theorem dX3_sendCrew_76 : decode cX3_sendCrew 76 = .ok (.iaload, 1) := by decide +kernel
theorem dX3_sendCrew_77 : decode cX3_sendCrew 77 = .ok (.ireturn, 1) := by decide +kernel
theorem dX3_fellHere_0 : decode cX3_fellHere 0 = .ok (.iload_n 1, 1) := by decide +kernel
theorem dX3_fellHere_1 : decode cX3_fellHere 1 = .ok (.iconst 0, 1) := by decide +kernel
theorem dX3_fellHere_2 : decode cX3_fellHere 2 = .ok (.iconst 2, 1) := by decide +kernel
theorem dX3_fellHere_3 : decode cX3_fellHere 3 = .ok (.invokestatic 62, 3) := by decide +kernel
theorem dX3_fellHere_6 : decode cX3_fellHere 6 = .ok (.ifCond .ne 5, 3) := by decide +kernel
theorem dX3_fellHere_9 : decode cX3_fellHere 9 = .ok (.iconst (-1), 1) := by decide +kernel
theorem dX3_fellHere_10 : decode cX3_fellHere 10 = .ok (.ireturn, 1) := by decide +kernel
theorem dX3_fellHere_11 : decode cX3_fellHere 11 = .ok (.aload_n 0, 1) := by decide +kernel
theorem dX3_fellHere_12 : decode cX3_fellHere 12 = .ok (.getfield 34, 3) := by decide +kernel
theorem dX3_fellHere_15 : decode cX3_fellHere 15 = .ok (.iconst 2, 1) := by decide +kernel
theorem dX3_fellHere_16 : decode cX3_fellHere 16 = .ok (.iaload, 1) := by decide +kernel
theorem dX3_fellHere_17 : decode cX3_fellHere 17 = .ok (.aload_n 0, 1) := by decide +kernel
theorem dX3_fellHere_18 : decode cX3_fellHere 18 = .ok (.getfield 22, 3) := by decide +kernel
theorem dX3_fellHere_21 : decode cX3_fellHere 21 = .ok (.iload_n 1, 1) := by decide +kernel
theorem dX3_fellHere_22 : decode cX3_fellHere 22 = .ok (.iaload, 1) := by decide +kernel
theorem dX3_fellHere_23 : decode cX3_fellHere 23 = .ok (.if_icmp .le 6, 3) := by decide +kernel
theorem dX3_fellHere_26 : decode cX3_fellHere 26 = .ok (.bipush (-4), 2) := by decide +kernel
theorem dX3_fellHere_28 : decode cX3_fellHere 28 = .ok (.ireturn, 1) := by decide +kernel
theorem dX3_fellHere_29 : decode cX3_fellHere 29 = .ok (.aload_n 0, 1) := by decide +kernel
theorem dX3_fellHere_30 : decode cX3_fellHere 30 = .ok (.getfield 19, 3) := by decide +kernel
theorem dX3_fellHere_33 : decode cX3_fellHere 33 = .ok (.iload_n 1, 1) := by decide +kernel
theorem dX3_fellHere_34 : decode cX3_fellHere 34 = .ok (.iaload, 1) := by decide +kernel
theorem dX3_fellHere_35 : decode cX3_fellHere 35 = .ok (.istore_n 2, 1) := by decide +kernel
theorem dX3_fellHere_36 : decode cX3_fellHere 36 = .ok (.aload_n 0, 1) := by decide +kernel
theorem dX3_fellHere_37 : decode cX3_fellHere 37 = .ok (.getfield 9, 3) := by decide +kernel
theorem dX3_fellHere_40 : decode cX3_fellHere 40 = .ok (.iload_n 2, 1) := by decide +kernel
theorem dX3_fellHere_41 : decode cX3_fellHere 41 = .ok (.iaload, 1) := by decide +kernel
theorem dX3_fellHere_42 : decode cX3_fellHere 42 = .ok (.istore_n 3, 1) := by decide +kernel
theorem dX3_fellHere_43 : decode cX3_fellHere 43 = .ok (.iload_n 3, 1) := by decide +kernel
theorem dX3_fellHere_44 : decode cX3_fellHere 44 = .ok (.ifCond .ne 6, 3) := by decide +kernel
theorem dX3_fellHere_47 : decode cX3_fellHere 47 = .ok (.bipush (-5), 2) := by decide +kernel
theorem dX3_fellHere_49 : decode cX3_fellHere 49 = .ok (.ireturn, 1) := by decide +kernel
theorem dX3_fellHere_50 : decode cX3_fellHere 50 = .ok (.aload_n 0, 1) := by decide +kernel
theorem dX3_fellHere_51 : decode cX3_fellHere 51 = .ok (.getfield 9, 3) := by decide +kernel
theorem dX3_fellHere_54 : decode cX3_fellHere 54 = .ok (.iload_n 2, 1) := by decide +kernel
theorem dX3_fellHere_55 : decode cX3_fellHere 55 = .ok (.iconst 0, 1) := by decide +kernel
theorem dX3_fellHere_56 : decode cX3_fellHere 56 = .ok (.iastore, 1) := by decide +kernel
theorem dX3_fellHere_57 : decode cX3_fellHere 57 = .ok (.aload_n 0, 1) := by decide +kernel
theorem dX3_fellHere_58 : decode cX3_fellHere 58 = .ok (.getfield 15, 3) := by decide +kernel
theorem dX3_fellHere_61 : decode cX3_fellHere 61 = .ok (.iload_n 2, 1) := by decide +kernel
theorem dX3_fellHere_62 : decode cX3_fellHere 62 = .ok (.iconst 1, 1) := by decide +kernel
theorem dX3_fellHere_63 : decode cX3_fellHere 63 = .ok (.bastore, 1) := by decide +kernel
theorem dX3_fellHere_64 : decode cX3_fellHere 64 = .ok (.aload_n 0, 1) := by decide +kernel
theorem dX3_fellHere_65 : decode cX3_fellHere 65 = .ok (.getfield 22, 3) := by decide +kernel
theorem dX3_fellHere_68 : decode cX3_fellHere 68 = .ok (.iload_n 1, 1) := by decide +kernel
theorem dX3_fellHere_69 : decode cX3_fellHere 69 = .ok (.dup2, 1) := by decide +kernel
theorem dX3_fellHere_70 : decode cX3_fellHere 70 = .ok (.iaload, 1) := by decide +kernel
theorem dX3_fellHere_71 : decode cX3_fellHere 71 = .ok (.aload_n 0, 1) := by decide +kernel
theorem dX3_fellHere_72 : decode cX3_fellHere 72 = .ok (.getfield 34, 3) := by decide +kernel
theorem dX3_fellHere_75 : decode cX3_fellHere 75 = .ok (.iconst 2, 1) := by decide +kernel
theorem dX3_fellHere_76 : decode cX3_fellHere 76 = .ok (.iaload, 1) := by decide +kernel
theorem dX3_fellHere_77 : decode cX3_fellHere 77 = .ok (.isub, 1) := by decide +kernel
theorem dX3_fellHere_78 : decode cX3_fellHere 78 = .ok (.iastore, 1) := by decide +kernel
theorem dX3_fellHere_79 : decode cX3_fellHere 79 = .ok (.aload_n 0, 1) := by decide +kernel
theorem dX3_fellHere_80 : decode cX3_fellHere 80 = .ok (.getfield 25, 3) := by decide +kernel
theorem dX3_fellHere_83 : decode cX3_fellHere 83 = .ok (.iload_n 1, 1) := by decide +kernel
theorem dX3_fellHere_84 : decode cX3_fellHere 84 = .ok (.dup2, 1) := by decide +kernel
theorem dX3_fellHere_85 : decode cX3_fellHere 85 = .ok (.iaload, 1) := by decide +kernel
theorem dX3_fellHere_86 : decode cX3_fellHere 86 = .ok (.iload_n 3, 1) := by decide +kernel
theorem dX3_fellHere_87 : decode cX3_fellHere 87 = .ok (.iadd, 1) := by decide +kernel
theorem dX3_fellHere_88 : decode cX3_fellHere 88 = .ok (.iastore, 1) := by decide +kernel
theorem dX3_fellHere_89 : decode cX3_fellHere 89 = .ok (.aload_n 0, 1) := by decide +kernel
theorem dX3_fellHere_90 : decode cX3_fellHere 90 = .ok (.getfield 28, 3) := by decide +kernel
theorem dX3_fellHere_93 : decode cX3_fellHere 93 = .ok (.iload_n 1, 1) := by decide +kernel
theorem dX3_fellHere_94 : decode cX3_fellHere 94 = .ok (.dup2, 1) := by decide +kernel
theorem dX3_fellHere_95 : decode cX3_fellHere 95 = .ok (.iaload, 1) := by decide +kernel
theorem dX3_fellHere_96 : decode cX3_fellHere 96 = .ok (.iconst 1, 1) := by decide +kernel
theorem dX3_fellHere_97 : decode cX3_fellHere 97 = .ok (.iadd, 1) := by decide +kernel
theorem dX3_fellHere_98 : decode cX3_fellHere 98 = .ok (.iastore, 1) := by decide +kernel
theorem dX3_fellHere_99 : decode cX3_fellHere 99 = .ok (.iload_n 3, 1) := by decide +kernel
theorem dX3_fellHere_100 : decode cX3_fellHere 100 = .ok (.ireturn, 1) := by decide +kernel
theorem dX3_tellColumn_0 : decode cX3_tellColumn 0 = .ok (.iload_n 2, 1) := by decide +kernel
theorem dX3_tellColumn_1 : decode cX3_tellColumn 1 = .ok (.iconst 0, 1) := by decide +kernel
theorem dX3_tellColumn_2 : decode cX3_tellColumn 2 = .ok (.bipush 7, 2) := by decide +kernel
theorem dX3_tellColumn_4 : decode cX3_tellColumn 4 = .ok (.invokestatic 62, 3) := by decide +kernel
theorem dX3_tellColumn_7 : decode cX3_tellColumn 7 = .ok (.ifCond .ne 5, 3) := by decide +kernel
theorem dX3_tellColumn_10 : decode cX3_tellColumn 10 = .ok (.iconst (-1), 1) := by decide +kernel
theorem dX3_tellColumn_11 : decode cX3_tellColumn 11 = .ok (.ireturn, 1) := by decide +kernel
theorem dX3_tellColumn_12 : decode cX3_tellColumn 12 = .ok (.iload_n 3, 1) := by decide +kernel
theorem dX3_tellColumn_13 : decode cX3_tellColumn 13 = .ok (.iconst 0, 1) := by decide +kernel
theorem dX3_tellColumn_14 : decode cX3_tellColumn 14 = .ok (.bipush 7, 2) := by decide +kernel
theorem dX3_tellColumn_16 : decode cX3_tellColumn 16 = .ok (.invokestatic 62, 3) := by decide +kernel
theorem dX3_tellColumn_19 : decode cX3_tellColumn 19 = .ok (.ifCond .ne 6, 3) := by decide +kernel
theorem dX3_tellColumn_22 : decode cX3_tellColumn 22 = .ok (.bipush (-2), 2) := by decide +kernel
theorem dX3_tellColumn_24 : decode cX3_tellColumn 24 = .ok (.ireturn, 1) := by decide +kernel
theorem dX3_tellColumn_25 : decode cX3_tellColumn 25 = .ok (.aload_n 1, 1) := by decide +kernel
theorem dX3_tellColumn_26 : decode cX3_tellColumn 26 = .ok (.iload_n 2, 1) := by decide +kernel
theorem dX3_tellColumn_27 : decode cX3_tellColumn 27 = .ok (.bipush 8, 2) := by decide +kernel
theorem dX3_tellColumn_29 : decode cX3_tellColumn 29 = .ok (.imul, 1) := by decide +kernel
theorem dX3_tellColumn_30 : decode cX3_tellColumn 30 = .ok (.iload_n 3, 1) := by decide +kernel
theorem dX3_tellColumn_31 : decode cX3_tellColumn 31 = .ok (.iadd, 1) := by decide +kernel
theorem dX3_tellColumn_32 : decode cX3_tellColumn 32 = .ok (.invokevirtual 84, 3) := by decide +kernel
theorem dX3_tellColumn_35 : decode cX3_tellColumn 35 = .ok (.istore 4, 2) := by decide +kernel
theorem dX3_tellColumn_37 : decode cX3_tellColumn 37 = .ok (.aload_n 0, 1) := by decide +kernel
theorem dX3_tellColumn_38 : decode cX3_tellColumn 38 = .ok (.getfield 31, 3) := by decide +kernel
theorem dX3_tellColumn_41 : decode cX3_tellColumn 41 = .ok (.iload_n 2, 1) := by decide +kernel
theorem dX3_tellColumn_42 : decode cX3_tellColumn 42 = .ok (.iaload, 1) := by decide +kernel
theorem dX3_tellColumn_43 : decode cX3_tellColumn 43 = .ok (.bipush (-5), 2) := by decide +kernel
theorem dX3_tellColumn_45 : decode cX3_tellColumn 45 = .ok (.if_icmp .ne 8, 3) := by decide +kernel
theorem dX3_tellColumn_48 : decode cX3_tellColumn 48 = .ok (.iload 4, 2) := by decide +kernel
theorem dX3_tellColumn_50 : decode cX3_tellColumn 50 = .ok (.ifCond .ne 6, 3) := by decide +kernel
theorem dX3_tellColumn_53 : decode cX3_tellColumn 53 = .ok (.bipush (-4), 2) := by decide +kernel
theorem dX3_tellColumn_55 : decode cX3_tellColumn 55 = .ok (.ireturn, 1) := by decide +kernel
theorem dX3_tellColumn_56 : decode cX3_tellColumn 56 = .ok (.aload_n 0, 1) := by decide +kernel
theorem dX3_tellColumn_57 : decode cX3_tellColumn 57 = .ok (.getfield 31, 3) := by decide +kernel
theorem dX3_tellColumn_60 : decode cX3_tellColumn 60 = .ok (.iload_n 2, 1) := by decide +kernel
theorem dX3_tellColumn_61 : decode cX3_tellColumn 61 = .ok (.iload_n 3, 1) := by decide +kernel
theorem dX3_tellColumn_62 : decode cX3_tellColumn 62 = .ok (.iastore, 1) := by decide +kernel
theorem dX3_tellColumn_63 : decode cX3_tellColumn 63 = .ok (.iload 4, 2) := by decide +kernel
theorem dX3_tellColumn_65 : decode cX3_tellColumn 65 = .ok (.ireturn, 1) := by decide +kernel
theorem dX3_untellColumn_0 : decode cX3_untellColumn 0 = .ok (.iload_n 2, 1) := by decide +kernel
theorem dX3_untellColumn_1 : decode cX3_untellColumn 1 = .ok (.iconst 0, 1) := by decide +kernel
theorem dX3_untellColumn_2 : decode cX3_untellColumn 2 = .ok (.bipush 7, 2) := by decide +kernel
theorem dX3_untellColumn_4 : decode cX3_untellColumn 4 = .ok (.invokestatic 62, 3) := by decide +kernel
theorem dX3_untellColumn_7 : decode cX3_untellColumn 7 = .ok (.ifCond .ne 5, 3) := by decide +kernel
theorem dX3_untellColumn_10 : decode cX3_untellColumn 10 = .ok (.iconst (-1), 1) := by decide +kernel
theorem dX3_untellColumn_11 : decode cX3_untellColumn 11 = .ok (.ireturn, 1) := by decide +kernel
theorem dX3_untellColumn_12 : decode cX3_untellColumn 12 = .ok (.aload_n 0, 1) := by decide +kernel
theorem dX3_untellColumn_13 : decode cX3_untellColumn 13 = .ok (.getfield 31, 3) := by decide +kernel
theorem dX3_untellColumn_16 : decode cX3_untellColumn 16 = .ok (.iload_n 2, 1) := by decide +kernel
theorem dX3_untellColumn_17 : decode cX3_untellColumn 17 = .ok (.iaload, 1) := by decide +kernel
theorem dX3_untellColumn_18 : decode cX3_untellColumn 18 = .ok (.bipush (-5), 2) := by decide +kernel
theorem dX3_untellColumn_20 : decode cX3_untellColumn 20 = .ok (.if_icmp .ne 6, 3) := by decide +kernel
theorem dX3_untellColumn_23 : decode cX3_untellColumn 23 = .ok (.bipush (-5), 2) := by decide +kernel
theorem dX3_untellColumn_25 : decode cX3_untellColumn 25 = .ok (.ireturn, 1) := by decide +kernel
theorem dX3_untellColumn_26 : decode cX3_untellColumn 26 = .ok (.aload_n 0, 1) := by decide +kernel
theorem dX3_untellColumn_27 : decode cX3_untellColumn 27 = .ok (.getfield 31, 3) := by decide +kernel
theorem dX3_untellColumn_30 : decode cX3_untellColumn 30 = .ok (.iload_n 2, 1) := by decide +kernel
theorem dX3_untellColumn_31 : decode cX3_untellColumn 31 = .ok (.bipush (-5), 2) := by decide +kernel
theorem dX3_untellColumn_33 : decode cX3_untellColumn 33 = .ok (.iastore, 1) := by decide +kernel
theorem dX3_untellColumn_34 : decode cX3_untellColumn 34 = .ok (.aload_n 1, 1) := by decide +kernel
theorem dX3_untellColumn_35 : decode cX3_untellColumn 35 = .ok (.aload_n 0, 1) := by decide +kernel
theorem dX3_untellColumn_36 : decode cX3_untellColumn 36 = .ok (.getfield 31, 3) := by decide +kernel
theorem dX3_untellColumn_39 : decode cX3_untellColumn 39 = .ok (.invokevirtual 90, 3) := by decide +kernel
theorem dX3_untellColumn_42 : decode cX3_untellColumn 42 = .ok (.aload_n 1, 1) := by decide +kernel
theorem dX3_untellColumn_43 : decode cX3_untellColumn 43 = .ok (.getfield 94, 3) := by decide +kernel
theorem dX3_untellColumn_46 : decode cX3_untellColumn 46 = .ok (.ireturn, 1) := by decide +kernel
