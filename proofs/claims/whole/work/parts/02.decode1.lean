theorem dX0_init_0 : decode cX0_init 0 = .ok (.aload_n 0, 1) := by decide +kernel
theorem dX0_init_1 : decode cX0_init 1 = .ok (.invokespecial 3, 3) := by decide +kernel
theorem dX0_init_4 : decode cX0_init 4 = .ok (.aload_n 0, 1) := by decide +kernel
theorem dX0_init_5 : decode cX0_init 5 = .ok (.bipush 60, 2) := by decide +kernel
theorem dX0_init_7 : decode cX0_init 7 = .ok (.newarray .char, 2) := by decide +kernel
theorem dX0_init_9 : decode cX0_init 9 = .ok (.putfield 9, 3) := by decide +kernel
theorem dX0_init_12 : decode cX0_init 12 = .ok (.return_, 1) := by decide +kernel
theorem dX0_append_0 : decode cX0_append 0 = .ok (.aload_n 0, 1) := by decide +kernel
theorem dX0_append_1 : decode cX0_append 1 = .ok (.getfield 15, 3) := by decide +kernel
theorem dX0_append_4 : decode cX0_append 4 = .ok (.bipush 60, 2) := by decide +kernel
theorem dX0_append_6 : decode cX0_append 6 = .ok (.if_icmp .lt 6, 3) := by decide +kernel
theorem dX0_append_9 : decode cX0_append 9 = .ok (.bipush (-3), 2) := by decide +kernel
theorem dX0_append_11 : decode cX0_append 11 = .ok (.ireturn, 1) := by decide +kernel
theorem dX0_append_12 : decode cX0_append 12 = .ok (.aload_n 0, 1) := by decide +kernel
theorem dX0_append_13 : decode cX0_append 13 = .ok (.getfield 9, 3) := by decide +kernel
theorem dX0_append_16 : decode cX0_append 16 = .ok (.aload_n 0, 1) := by decide +kernel
theorem dX0_append_17 : decode cX0_append 17 = .ok (.getfield 15, 3) := by decide +kernel
theorem dX0_append_20 : decode cX0_append 20 = .ok (.iload_n 1, 1) := by decide +kernel
theorem dX0_append_21 : decode cX0_append 21 = .ok (.castore, 1) := by decide +kernel
theorem dX0_append_22 : decode cX0_append 22 = .ok (.aload_n 0, 1) := by decide +kernel
theorem dX0_append_23 : decode cX0_append 23 = .ok (.dup, 1) := by decide +kernel
theorem dX0_append_24 : decode cX0_append 24 = .ok (.getfield 15, 3) := by decide +kernel
theorem dX0_append_27 : decode cX0_append 27 = .ok (.iconst 1, 1) := by decide +kernel
theorem dX0_append_28 : decode cX0_append 28 = .ok (.iadd, 1) := by decide +kernel
theorem dX0_append_29 : decode cX0_append 29 = .ok (.putfield 15, 3) := by decide +kernel
theorem dX0_append_32 : decode cX0_append 32 = .ok (.aload_n 0, 1) := by decide +kernel
theorem dX0_append_33 : decode cX0_append 33 = .ok (.getfield 15, 3) := by decide +kernel
theorem dX0_append_36 : decode cX0_append 36 = .ok (.ireturn, 1) := by decide +kernel
theorem dX0_empty_0 : decode cX0_empty 0 = .ok (.aload_n 0, 1) := by decide +kernel
theorem dX0_empty_1 : decode cX0_empty 1 = .ok (.getfield 15, 3) := by decide +kernel
theorem dX0_empty_4 : decode cX0_empty 4 = .ok (.istore_n 1, 1) := by decide +kernel
theorem dX0_empty_5 : decode cX0_empty 5 = .ok (.aload_n 0, 1) := by decide +kernel
theorem dX0_empty_6 : decode cX0_empty 6 = .ok (.iconst 0, 1) := by decide +kernel
theorem dX0_empty_7 : decode cX0_empty 7 = .ok (.putfield 15, 3) := by decide +kernel
theorem dX0_empty_10 : decode cX0_empty 10 = .ok (.iload_n 1, 1) := by decide +kernel
theorem dX0_empty_11 : decode cX0_empty 11 = .ok (.ireturn, 1) := by decide +kernel
theorem dX0_countThings_0 : decode cX0_countThings 0 = .ok (.aload_n 0, 1) := by decide +kernel
theorem dX0_countThings_1 : decode cX0_countThings 1 = .ok (.invokevirtual 19, 3) := by decide +kernel
theorem dX0_countThings_4 : decode cX0_countThings 4 = .ok (.iconst 1, 1) := by decide +kernel
theorem dX0_countThings_5 : decode cX0_countThings 5 = .ok (.istore_n 1, 1) := by decide +kernel
theorem dX0_countThings_6 : decode cX0_countThings 6 = .ok (.iload_n 1, 1) := by decide +kernel
theorem dX0_countThings_7 : decode cX0_countThings 7 = .ok (.bipush 60, 2) := by decide +kernel
theorem dX0_countThings_9 : decode cX0_countThings 9 = .ok (.if_icmp .gt 41, 3) := by decide +kernel
theorem dX0_countThings_12 : decode cX0_countThings 12 = .ok (.aload_n 0, 1) := by decide +kernel
theorem dX0_countThings_13 : decode cX0_countThings 13 = .ok (.invokevirtual 22, 3) := by decide +kernel
theorem dX0_countThings_16 : decode cX0_countThings 16 = .ok (.ifCond .eq 34, 3) := by decide +kernel
theorem dX0_countThings_19 : decode cX0_countThings 19 = .ok (.aload_n 0, 1) := by decide +kernel
theorem dX0_countThings_20 : decode cX0_countThings 20 = .ok (.getfield 26, 3) := by decide +kernel
theorem dX0_countThings_23 : decode cX0_countThings 23 = .ok (.aload_n 0, 1) := by decide +kernel
theorem dX0_countThings_24 : decode cX0_countThings 24 = .ok (.getfield 15, 3) := by decide +kernel
theorem dX0_countThings_27 : decode cX0_countThings 27 = .ok (.if_icmp .ne 5, 3) := by decide +kernel
theorem dX0_countThings_30 : decode cX0_countThings 30 = .ok (.iload_n 1, 1) := by decide +kernel
theorem dX0_countThings_31 : decode cX0_countThings 31 = .ok (.ireturn, 1) := by decide +kernel
theorem dX0_countThings_32 : decode cX0_countThings 32 = .ok (.aload_n 0, 1) := by decide +kernel
theorem dX0_countThings_33 : decode cX0_countThings 33 = .ok (.bipush 59, 2) := by decide +kernel
theorem dX0_countThings_35 : decode cX0_countThings 35 = .ok (.invokevirtual 29, 3) := by decide +kernel
theorem dX0_countThings_38 : decode cX0_countThings 38 = .ok (.ifCond .ne 6, 3) := by decide +kernel
theorem dX0_countThings_41 : decode cX0_countThings 41 = .ok (.goto 9, 3) := by decide +kernel
theorem dX0_countThings_44 : decode cX0_countThings 44 = .ok (.iinc 1 1, 3) := by decide +kernel
theorem dX0_countThings_47 : decode cX0_countThings 47 = .ok (.goto (-41), 3) := by decide +kernel
theorem dX0_countThings_50 : decode cX0_countThings 50 = .ok (.bipush (-100), 2) := by decide +kernel
theorem dX0_countThings_52 : decode cX0_countThings 52 = .ok (.aload_n 0, 1) := by decide +kernel
theorem dX0_countThings_53 : decode cX0_countThings 53 = .ok (.getfield 26, 3) := by decide +kernel
theorem dX0_countThings_56 : decode cX0_countThings 56 = .ok (.isub, 1) := by decide +kernel
theorem dX0_countThings_57 : decode cX0_countThings 57 = .ok (.ireturn, 1) := by decide +kernel
theorem dX0_startOver_0 : decode cX0_startOver 0 = .ok (.aload_n 0, 1) := by decide +kernel
theorem dX0_startOver_1 : decode cX0_startOver 1 = .ok (.iconst 0, 1) := by decide +kernel
theorem dX0_startOver_2 : decode cX0_startOver 2 = .ok (.putfield 26, 3) := by decide +kernel
theorem dX0_startOver_5 : decode cX0_startOver 5 = .ok (.return_, 1) := by decide +kernel
theorem dX0_readNext_0 : decode cX0_readNext 0 = .ok (.aload_n 0, 1) := by decide +kernel
theorem dX0_readNext_1 : decode cX0_readNext 1 = .ok (.bipush 59, 2) := by decide +kernel
theorem dX0_readNext_3 : decode cX0_readNext 3 = .ok (.invokevirtual 29, 3) := by decide +kernel
theorem dX0_readNext_6 : decode cX0_readNext 6 = .ok (.pop, 1) := by decide +kernel
theorem dX0_readNext_7 : decode cX0_readNext 7 = .ok (.aload_n 0, 1) := by decide +kernel
theorem dX0_readNext_8 : decode cX0_readNext 8 = .ok (.invokevirtual 22, 3) := by decide +kernel
theorem dX0_readNext_11 : decode cX0_readNext 11 = .ok (.pop, 1) := by decide +kernel
theorem dX0_readNext_12 : decode cX0_readNext 12 = .ok (.return_, 1) := by decide +kernel
theorem dX0_readThing_0 : decode cX0_readThing 0 = .ok (.aload_n 0, 1) := by decide +kernel
theorem dX0_readThing_1 : decode cX0_readThing 1 = .ok (.bipush 116, 2) := by decide +kernel
theorem dX0_readThing_3 : decode cX0_readThing 3 = .ok (.invokevirtual 33, 3) := by decide +kernel
theorem dX0_readThing_6 : decode cX0_readThing 6 = .ok (.ifCond .eq 37, 3) := by decide +kernel
theorem dX0_readThing_9 : decode cX0_readThing 9 = .ok (.aload_n 0, 1) := by decide +kernel
theorem dX0_readThing_10 : decode cX0_readThing 10 = .ok (.iconst 0, 1) := by decide +kernel
theorem dX0_readThing_11 : decode cX0_readThing 11 = .ok (.bipush 63, 2) := by decide +kernel
theorem dX0_readThing_13 : decode cX0_readThing 13 = .ok (.invokevirtual 36, 3) := by decide +kernel
theorem dX0_readThing_16 : decode cX0_readThing 16 = .ok (.ifCond .eq 25, 3) := by decide +kernel
theorem dX0_readThing_19 : decode cX0_readThing 19 = .ok (.aload_n 0, 1) := by decide +kernel
theorem dX0_readThing_20 : decode cX0_readThing 20 = .ok (.bipush 61, 2) := by decide +kernel
theorem dX0_readThing_22 : decode cX0_readThing 22 = .ok (.invokevirtual 29, 3) := by decide +kernel
theorem dX0_readThing_25 : decode cX0_readThing 25 = .ok (.ifCond .eq 16, 3) := by decide +kernel
theorem dX0_readThing_28 : decode cX0_readThing 28 = .ok (.aload_n 0, 1) := by decide +kernel
theorem dX0_readThing_29 : decode cX0_readThing 29 = .ok (.bipush 99, 2) := by decide +kernel
theorem dX0_readThing_31 : decode cX0_readThing 31 = .ok (.invokevirtual 40, 3) := by decide +kernel
theorem dX0_readThing_34 : decode cX0_readThing 34 = .ok (.ifCond .eq 7, 3) := by decide +kernel
theorem dX0_readThing_37 : decode cX0_readThing 37 = .ok (.iconst 1, 1) := by decide +kernel
theorem dX0_readThing_38 : decode cX0_readThing 38 = .ok (.goto 4, 3) := by decide +kernel
theorem dX0_readThing_41 : decode cX0_readThing 41 = .ok (.iconst 0, 1) := by decide +kernel
theorem dX0_readThing_42 : decode cX0_readThing 42 = .ok (.ireturn, 1) := by decide +kernel
theorem dX0_readThing_43 : decode cX0_readThing 43 = .ok (.aload_n 0, 1) := by decide +kernel
theorem dX0_readThing_44 : decode cX0_readThing 44 = .ok (.bipush 114, 2) := by decide +kernel
theorem dX0_readThing_46 : decode cX0_readThing 46 = .ok (.invokevirtual 33, 3) := by decide +kernel
theorem dX0_readThing_49 : decode cX0_readThing 49 = .ok (.ifCond .eq 11, 3) := by decide +kernel
theorem dX0_readThing_52 : decode cX0_readThing 52 = .ok (.aload_n 0, 1) := by decide +kernel
theorem dX0_readThing_53 : decode cX0_readThing 53 = .ok (.iconst 1, 1) := by decide +kernel
theorem dX0_readThing_54 : decode cX0_readThing 54 = .ok (.bipush 9, 2) := by decide +kernel
theorem dX0_readThing_56 : decode cX0_readThing 56 = .ok (.invokevirtual 36, 3) := by decide +kernel
theorem dX0_readThing_59 : decode cX0_readThing 59 = .ok (.ireturn, 1) := by decide +kernel
theorem dX0_readThing_60 : decode cX0_readThing 60 = .ok (.aload_n 0, 1) := by decide +kernel
theorem dX0_readThing_61 : decode cX0_readThing 61 = .ok (.bipush 104, 2) := by decide +kernel
theorem dX0_readThing_63 : decode cX0_readThing 63 = .ok (.invokevirtual 33, 3) := by decide +kernel
theorem dX0_readThing_66 : decode cX0_readThing 66 = .ok (.ifCond .eq 37, 3) := by decide +kernel
theorem dX0_readThing_69 : decode cX0_readThing 69 = .ok (.aload_n 0, 1) := by decide +kernel
theorem dX0_readThing_70 : decode cX0_readThing 70 = .ok (.iconst 0, 1) := by decide +kernel
theorem dX0_readThing_71 : decode cX0_readThing 71 = .ok (.bipush 7, 2) := by decide +kernel
theorem dX0_readThing_73 : decode cX0_readThing 73 = .ok (.invokevirtual 36, 3) := by decide +kernel
theorem dX0_readThing_76 : decode cX0_readThing 76 = .ok (.ifCond .eq 25, 3) := by decide +kernel
theorem dX0_readThing_79 : decode cX0_readThing 79 = .ok (.aload_n 0, 1) := by decide +kernel
theorem dX0_readThing_80 : decode cX0_readThing 80 = .ok (.bipush 58, 2) := by decide +kernel
theorem dX0_readThing_82 : decode cX0_readThing 82 = .ok (.invokevirtual 29, 3) := by decide +kernel
theorem dX0_readThing_85 : decode cX0_readThing 85 = .ok (.ifCond .eq 16, 3) := by decide +kernel
theorem dX0_readThing_88 : decode cX0_readThing 88 = .ok (.aload_n 0, 1) := by decide +kernel
theorem dX0_readThing_89 : decode cX0_readThing 89 = .ok (.bipush 7, 2) := by decide +kernel
theorem dX0_readThing_91 : decode cX0_readThing 91 = .ok (.invokevirtual 40, 3) := by decide +kernel
theorem dX0_readThing_94 : decode cX0_readThing 94 = .ok (.ifCond .eq 7, 3) := by decide +kernel
theorem dX0_readThing_97 : decode cX0_readThing 97 = .ok (.iconst 1, 1) := by decide +kernel
theorem dX0_readThing_98 : decode cX0_readThing 98 = .ok (.goto 4, 3) := by decide +kernel
theorem dX0_readThing_101 : decode cX0_readThing 101 = .ok (.iconst 0, 1) := by decide +kernel
theorem dX0_readThing_102 : decode cX0_readThing 102 = .ok (.ireturn, 1) := by decide +kernel
theorem dX0_readThing_103 : decode cX0_readThing 103 = .ok (.aload_n 0, 1) := by decide +kernel
theorem dX0_readThing_104 : decode cX0_readThing 104 = .ok (.bipush 103, 2) := by decide +kernel
theorem dX0_readThing_106 : decode cX0_readThing 106 = .ok (.invokevirtual 33, 3) := by decide +kernel
theorem dX0_readThing_109 : decode cX0_readThing 109 = .ok (.ifCond .eq 36, 3) := by decide +kernel
theorem dX0_readThing_112 : decode cX0_readThing 112 = .ok (.aload_n 0, 1) := by decide +kernel
theorem dX0_readThing_113 : decode cX0_readThing 113 = .ok (.iconst 0, 1) := by decide +kernel
theorem dX0_readThing_114 : decode cX0_readThing 114 = .ok (.iconst 2, 1) := by decide +kernel
theorem dX0_readThing_115 : decode cX0_readThing 115 = .ok (.invokevirtual 36, 3) := by decide +kernel
theorem dX0_readThing_118 : decode cX0_readThing 118 = .ok (.ifCond .eq 25, 3) := by decide +kernel
theorem dX0_readThing_121 : decode cX0_readThing 121 = .ok (.aload_n 0, 1) := by decide +kernel
theorem dX0_readThing_122 : decode cX0_readThing 122 = .ok (.bipush 62, 2) := by decide +kernel
theorem dX0_readThing_124 : decode cX0_readThing 124 = .ok (.invokevirtual 29, 3) := by decide +kernel
theorem dX0_readThing_127 : decode cX0_readThing 127 = .ok (.ifCond .eq 16, 3) := by decide +kernel
theorem dX0_readThing_130 : decode cX0_readThing 130 = .ok (.aload_n 0, 1) := by decide +kernel
theorem dX0_readThing_131 : decode cX0_readThing 131 = .ok (.bipush 63, 2) := by decide +kernel
theorem dX0_readThing_133 : decode cX0_readThing 133 = .ok (.invokevirtual 40, 3) := by decide +kernel
theorem dX0_readThing_136 : decode cX0_readThing 136 = .ok (.ifCond .eq 7, 3) := by decide +kernel
theorem dX0_readThing_139 : decode cX0_readThing 139 = .ok (.iconst 1, 1) := by decide +kernel
theorem dX0_readThing_140 : decode cX0_readThing 140 = .ok (.goto 4, 3) := by decide +kernel
theorem dX0_readThing_143 : decode cX0_readThing 143 = .ok (.iconst 0, 1) := by decide +kernel
theorem dX0_readThing_144 : decode cX0_readThing 144 = .ok (.ireturn, 1) := by decide +kernel
theorem dX0_readThing_145 : decode cX0_readThing 145 = .ok (.aload_n 0, 1) := by decide +kernel
theorem dX0_readThing_146 : decode cX0_readThing 146 = .ok (.bipush 102, 2) := by decide +kernel
theorem dX0_readThing_148 : decode cX0_readThing 148 = .ok (.invokevirtual 33, 3) := by decide +kernel
theorem dX0_readThing_151 : decode cX0_readThing 151 = .ok (.ifCond .eq 10, 3) := by decide +kernel
theorem dX0_readThing_154 : decode cX0_readThing 154 = .ok (.aload_n 0, 1) := by decide +kernel
theorem dX0_readThing_155 : decode cX0_readThing 155 = .ok (.iconst 0, 1) := by decide +kernel
theorem dX0_readThing_156 : decode cX0_readThing 156 = .ok (.iconst 2, 1) := by decide +kernel
theorem dX0_readThing_157 : decode cX0_readThing 157 = .ok (.invokevirtual 36, 3) := by decide +kernel
theorem dX0_readThing_160 : decode cX0_readThing 160 = .ok (.ireturn, 1) := by decide +kernel
theorem dX0_readThing_161 : decode cX0_readThing 161 = .ok (.aload_n 0, 1) := by decide +kernel
theorem dX0_readThing_162 : decode cX0_readThing 162 = .ok (.bipush 46, 2) := by decide +kernel
theorem dX0_readThing_164 : decode cX0_readThing 164 = .ok (.invokevirtual 33, 3) := by decide +kernel
theorem dX0_readThing_167 : decode cX0_readThing 167 = .ok (.ifCond .eq 17, 3) := by decide +kernel
theorem dX0_readThing_170 : decode cX0_readThing 170 = .ok (.aload_n 0, 1) := by decide +kernel
theorem dX0_readThing_171 : decode cX0_readThing 171 = .ok (.iconst 1, 1) := by decide +kernel
theorem dX0_readThing_172 : decode cX0_readThing 172 = .ok (.bipush 99, 2) := by decide +kernel
theorem dX0_readThing_174 : decode cX0_readThing 174 = .ok (.invokevirtual 36, 3) := by decide +kernel
theorem dX0_readThing_177 : decode cX0_readThing 177 = .ok (.ifCond .eq 7, 3) := by decide +kernel
theorem dX0_readThing_180 : decode cX0_readThing 180 = .ok (.iconst 1, 1) := by decide +kernel
theorem dX0_readThing_181 : decode cX0_readThing 181 = .ok (.goto 4, 3) := by decide +kernel
theorem dX0_readThing_184 : decode cX0_readThing 184 = .ok (.iconst 0, 1) := by decide +kernel
theorem dX0_readThing_185 : decode cX0_readThing 185 = .ok (.ireturn, 1) := by decide +kernel
theorem dX0_readKind_0 : decode cX0_readKind 0 = .ok (.aload_n 0, 1) := by decide +kernel
theorem dX0_readKind_1 : decode cX0_readKind 1 = .ok (.iload_n 1, 1) := by decide +kernel
theorem dX0_readKind_2 : decode cX0_readKind 2 = .ok (.invokevirtual 29, 3) := by decide +kernel
theorem dX0_readKind_5 : decode cX0_readKind 5 = .ok (.ifCond .ne 5, 3) := by decide +kernel
theorem dX0_readKind_8 : decode cX0_readKind 8 = .ok (.iconst 0, 1) := by decide +kernel
theorem dX0_readKind_9 : decode cX0_readKind 9 = .ok (.ireturn, 1) := by decide +kernel
theorem dX0_readKind_10 : decode cX0_readKind 10 = .ok (.aload_n 0, 1) := by decide +kernel
theorem dX0_readKind_11 : decode cX0_readKind 11 = .ok (.iload_n 1, 1) := by decide +kernel
theorem dX0_readKind_12 : decode cX0_readKind 12 = .ok (.putfield 44, 3) := by decide +kernel
theorem dX0_readKind_15 : decode cX0_readKind 15 = .ok (.iconst 1, 1) := by decide +kernel
theorem dX0_readKind_16 : decode cX0_readKind 16 = .ok (.ireturn, 1) := by decide +kernel
theorem dX0_readSign_0 : decode cX0_readSign 0 = .ok (.aload_n 0, 1) := by decide +kernel
theorem dX0_readSign_1 : decode cX0_readSign 1 = .ok (.getfield 26, 3) := by decide +kernel
theorem dX0_readSign_4 : decode cX0_readSign 4 = .ok (.aload_n 0, 1) := by decide +kernel
theorem dX0_readSign_5 : decode cX0_readSign 5 = .ok (.getfield 15, 3) := by decide +kernel
theorem dX0_readSign_8 : decode cX0_readSign 8 = .ok (.if_icmp .ge 16, 3) := by decide +kernel
theorem dX0_readSign_11 : decode cX0_readSign 11 = .ok (.aload_n 0, 1) := by decide +kernel
theorem dX0_readSign_12 : decode cX0_readSign 12 = .ok (.getfield 9, 3) := by decide +kernel
theorem dX0_readSign_15 : decode cX0_readSign 15 = .ok (.aload_n 0, 1) := by decide +kernel
theorem dX0_readSign_16 : decode cX0_readSign 16 = .ok (.getfield 26, 3) := by decide +kernel
theorem dX0_readSign_19 : decode cX0_readSign 19 = .ok (.caload, 1) := by decide +kernel
theorem dX0_readSign_20 : decode cX0_readSign 20 = .ok (.iload_n 1, 1) := by decide +kernel
theorem dX0_readSign_21 : decode cX0_readSign 21 = .ok (.if_icmp .eq 5, 3) := by decide +kernel
theorem dX0_readSign_24 : decode cX0_readSign 24 = .ok (.iconst 0, 1) := by decide +kernel
theorem dX0_readSign_25 : decode cX0_readSign 25 = .ok (.ireturn, 1) := by decide +kernel
theorem dX0_readSign_26 : decode cX0_readSign 26 = .ok (.aload_n 0, 1) := by decide +kernel
theorem dX0_readSign_27 : decode cX0_readSign 27 = .ok (.dup, 1) := by decide +kernel
theorem dX0_readSign_28 : decode cX0_readSign 28 = .ok (.getfield 26, 3) := by decide +kernel
theorem dX0_readSign_31 : decode cX0_readSign 31 = .ok (.iconst 1, 1) := by decide +kernel
theorem dX0_readSign_32 : decode cX0_readSign 32 = .ok (.iadd, 1) := by decide +kernel
theorem dX0_readSign_33 : decode cX0_readSign 33 = .ok (.putfield 26, 3) := by decide +kernel
theorem dX0_readSign_36 : decode cX0_readSign 36 = .ok (.iconst 1, 1) := by decide +kernel
theorem dX0_readSign_37 : decode cX0_readSign 37 = .ok (.ireturn, 1) := by decide +kernel
theorem dX0_readFirst_0 : decode cX0_readFirst 0 = .ok (.aload_n 0, 1) := by decide +kernel
theorem dX0_readFirst_1 : decode cX0_readFirst 1 = .ok (.aload_n 0, 1) := by decide +kernel
theorem dX0_readFirst_2 : decode cX0_readFirst 2 = .ok (.iload_n 1, 1) := by decide +kernel
theorem dX0_readFirst_3 : decode cX0_readFirst 3 = .ok (.iload_n 2, 1) := by decide +kernel
theorem dX0_readFirst_4 : decode cX0_readFirst 4 = .ok (.invokevirtual 48, 3) := by decide +kernel
theorem dX0_readFirst_7 : decode cX0_readFirst 7 = .ok (.putfield 52, 3) := by decide +kernel
theorem dX0_readFirst_10 : decode cX0_readFirst 10 = .ok (.aload_n 0, 1) := by decide +kernel
theorem dX0_readFirst_11 : decode cX0_readFirst 11 = .ok (.getfield 52, 3) := by decide +kernel
theorem dX0_readFirst_14 : decode cX0_readFirst 14 = .ok (.iconst (-1), 1) := by decide +kernel
theorem dX0_readFirst_15 : decode cX0_readFirst 15 = .ok (.if_icmp .eq 7, 3) := by decide +kernel
theorem dX0_readFirst_18 : decode cX0_readFirst 18 = .ok (.iconst 1, 1) := by decide +kernel
theorem dX0_readFirst_19 : decode cX0_readFirst 19 = .ok (.goto 4, 3) := by decide +kernel
theorem dX0_readFirst_22 : decode cX0_readFirst 22 = .ok (.iconst 0, 1) := by decide +kernel
theorem dX0_readFirst_23 : decode cX0_readFirst 23 = .ok (.ireturn, 1) := by decide +kernel
theorem dX0_readSecond_0 : decode cX0_readSecond 0 = .ok (.aload_n 0, 1) := by decide +kernel
theorem dX0_readSecond_1 : decode cX0_readSecond 1 = .ok (.aload_n 0, 1) := by decide +kernel
theorem dX0_readSecond_2 : decode cX0_readSecond 2 = .ok (.iconst 0, 1) := by decide +kernel
theorem dX0_readSecond_3 : decode cX0_readSecond 3 = .ok (.iload_n 1, 1) := by decide +kernel
theorem dX0_readSecond_4 : decode cX0_readSecond 4 = .ok (.invokevirtual 48, 3) := by decide +kernel
theorem dX0_readSecond_7 : decode cX0_readSecond 7 = .ok (.putfield 55, 3) := by decide +kernel
theorem dX0_readSecond_10 : decode cX0_readSecond 10 = .ok (.aload_n 0, 1) := by decide +kernel
theorem dX0_readSecond_11 : decode cX0_readSecond 11 = .ok (.getfield 55, 3) := by decide +kernel
theorem dX0_readSecond_14 : decode cX0_readSecond 14 = .ok (.iconst (-1), 1) := by decide +kernel
theorem dX0_readSecond_15 : decode cX0_readSecond 15 = .ok (.if_icmp .eq 7, 3) := by decide +kernel
theorem dX0_readSecond_18 : decode cX0_readSecond 18 = .ok (.iconst 1, 1) := by decide +kernel
theorem dX0_readSecond_19 : decode cX0_readSecond 19 = .ok (.goto 4, 3) := by decide +kernel
theorem dX0_readSecond_22 : decode cX0_readSecond 22 = .ok (.iconst 0, 1) := by decide +kernel
theorem dX0_readSecond_23 : decode cX0_readSecond 23 = .ok (.ireturn, 1) := by decide +kernel
theorem dX0_readNumber_0 : decode cX0_readNumber 0 = .ok (.aload_n 0, 1) := by decide +kernel
theorem dX0_readNumber_1 : decode cX0_readNumber 1 = .ok (.invokevirtual 58, 3) := by decide +kernel
theorem dX0_readNumber_4 : decode cX0_readNumber 4 = .ok (.istore_n 3, 1) := by decide +kernel
theorem dX0_readNumber_5 : decode cX0_readNumber 5 = .ok (.iload_n 3, 1) := by decide +kernel
theorem dX0_readNumber_6 : decode cX0_readNumber 6 = .ok (.iload_n 1, 1) := by decide +kernel
theorem dX0_readNumber_7 : decode cX0_readNumber 7 = .ok (.iload_n 2, 1) := by decide +kernel
theorem dX0_readNumber_8 : decode cX0_readNumber 8 = .ok (.invokestatic 62, 3) := by decide +kernel
theorem dX0_readNumber_11 : decode cX0_readNumber 11 = .ok (.ifCond .ne 5, 3) := by decide +kernel
theorem dX0_readNumber_14 : decode cX0_readNumber 14 = .ok (.iconst (-1), 1) := by decide +kernel
theorem dX0_readNumber_15 : decode cX0_readNumber 15 = .ok (.ireturn, 1) := by decide +kernel
theorem dX0_readNumber_16 : decode cX0_readNumber 16 = .ok (.aload_n 0, 1) := by decide +kernel
theorem dX0_readNumber_17 : decode cX0_readNumber 17 = .ok (.dup, 1) := by decide +kernel
theorem dX0_readNumber_18 : decode cX0_readNumber 18 = .ok (.getfield 26, 3) := by decide +kernel
theorem dX0_readNumber_21 : decode cX0_readNumber 21 = .ok (.iconst 1, 1) := by decide +kernel
theorem dX0_readNumber_22 : decode cX0_readNumber 22 = .ok (.iadd, 1) := by decide +kernel
theorem dX0_readNumber_23 : decode cX0_readNumber 23 = .ok (.putfield 26, 3) := by decide +kernel
theorem dX0_readNumber_26 : decode cX0_readNumber 26 = .ok (.aload_n 0, 1) := by decide +kernel
theorem dX0_readNumber_27 : decode cX0_readNumber 27 = .ok (.invokevirtual 58, 3) := by decide +kernel
theorem dX0_readNumber_30 : decode cX0_readNumber 30 = .ok (.istore 4, 2) := by decide +kernel
theorem dX0_readNumber_32 : decode cX0_readNumber 32 = .ok (.iload_n 3, 1) := by decide +kernel
theorem dX0_readNumber_33 : decode cX0_readNumber 33 = .ok (.ifCond .eq 20, 3) := by decide +kernel
theorem dX0_readNumber_36 : decode cX0_readNumber 36 = .ok (.iload 4, 2) := by decide +kernel
theorem dX0_readNumber_38 : decode cX0_readNumber 38 = .ok (.iconst (-1), 1) := by decide +kernel
theorem dX0_readNumber_39 : decode cX0_readNumber 39 = .ok (.if_icmp .eq 14, 3) := by decide +kernel
theorem dX0_readNumber_42 : decode cX0_readNumber 42 = .ok (.iload_n 3, 1) := by decide +kernel
theorem dX0_readNumber_43 : decode cX0_readNumber 43 = .ok (.bipush 10, 2) := by decide +kernel
theorem dX0_readNumber_45 : decode cX0_readNumber 45 = .ok (.imul, 1) := by decide +kernel
theorem dX0_readNumber_46 : decode cX0_readNumber 46 = .ok (.iload 4, 2) := by decide +kernel
theorem dX0_readNumber_48 : decode cX0_readNumber 48 = .ok (.iadd, 1) := by decide +kernel
theorem dX0_readNumber_49 : decode cX0_readNumber 49 = .ok (.iload_n 2, 1) := by decide +kernel
theorem dX0_readNumber_50 : decode cX0_readNumber 50 = .ok (.if_icmp .le 5, 3) := by decide +kernel
theorem dX0_readNumber_53 : decode cX0_readNumber 53 = .ok (.iload_n 3, 1) := by decide +kernel
theorem dX0_readNumber_54 : decode cX0_readNumber 54 = .ok (.ireturn, 1) := by decide +kernel
theorem dX0_readNumber_55 : decode cX0_readNumber 55 = .ok (.aload_n 0, 1) := by decide +kernel
theorem dX0_readNumber_56 : decode cX0_readNumber 56 = .ok (.dup, 1) := by decide +kernel
theorem dX0_readNumber_57 : decode cX0_readNumber 57 = .ok (.getfield 26, 3) := by decide +kernel
theorem dX0_readNumber_60 : decode cX0_readNumber 60 = .ok (.iconst 1, 1) := by decide +kernel
theorem dX0_readNumber_61 : decode cX0_readNumber 61 = .ok (.iadd, 1) := by decide +kernel
theorem dX0_readNumber_62 : decode cX0_readNumber 62 = .ok (.putfield 26, 3) := by decide +kernel
theorem dX0_readNumber_65 : decode cX0_readNumber 65 = .ok (.iload_n 3, 1) := by decide +kernel
theorem dX0_readNumber_66 : decode cX0_readNumber 66 = .ok (.bipush 10, 2) := by decide +kernel
theorem dX0_readNumber_68 : decode cX0_readNumber 68 = .ok (.imul, 1) := by decide +kernel
theorem dX0_readNumber_69 : decode cX0_readNumber 69 = .ok (.iload 4, 2) := by decide +kernel
theorem dX0_readNumber_71 : decode cX0_readNumber 71 = .ok (.iadd, 1) := by decide +kernel
theorem dX0_readNumber_72 : decode cX0_readNumber 72 = .ok (.ireturn, 1) := by decide +kernel
theorem dX0_digitHere_0 : decode cX0_digitHere 0 = .ok (.aload_n 0, 1) := by decide +kernel
theorem dX0_digitHere_1 : decode cX0_digitHere 1 = .ok (.getfield 26, 3) := by decide +kernel
theorem dX0_digitHere_4 : decode cX0_digitHere 4 = .ok (.aload_n 0, 1) := by decide +kernel
theorem dX0_digitHere_5 : decode cX0_digitHere 5 = .ok (.getfield 15, 3) := by decide +kernel
theorem dX0_digitHere_8 : decode cX0_digitHere 8 = .ok (.if_icmp .ge 31, 3) := by decide +kernel
theorem dX0_digitHere_11 : decode cX0_digitHere 11 = .ok (.aload_n 0, 1) := by decide +kernel
theorem dX0_digitHere_12 : decode cX0_digitHere 12 = .ok (.getfield 9, 3) := by decide +kernel
theorem dX0_digitHere_15 : decode cX0_digitHere 15 = .ok (.aload_n 0, 1) := by decide +kernel
theorem dX0_digitHere_16 : decode cX0_digitHere 16 = .ok (.getfield 26, 3) := by decide +kernel
theorem dX0_digitHere_19 : decode cX0_digitHere 19 = .ok (.caload, 1) := by decide +kernel
theorem dX0_digitHere_20 : decode cX0_digitHere 20 = .ok (.bipush 48, 2) := by decide +kernel
theorem dX0_digitHere_22 : decode cX0_digitHere 22 = .ok (.if_icmp .lt 17, 3) := by decide +kernel
theorem dX0_digitHere_25 : decode cX0_digitHere 25 = .ok (.aload_n 0, 1) := by decide +kernel
theorem dX0_digitHere_26 : decode cX0_digitHere 26 = .ok (.getfield 9, 3) := by decide +kernel
theorem dX0_digitHere_29 : decode cX0_digitHere 29 = .ok (.aload_n 0, 1) := by decide +kernel
theorem dX0_digitHere_30 : decode cX0_digitHere 30 = .ok (.getfield 26, 3) := by decide +kernel
theorem dX0_digitHere_33 : decode cX0_digitHere 33 = .ok (.caload, 1) := by decide +kernel
theorem dX0_digitHere_34 : decode cX0_digitHere 34 = .ok (.bipush 57, 2) := by decide +kernel
theorem dX0_digitHere_36 : decode cX0_digitHere 36 = .ok (.if_icmp .le 5, 3) := by decide +kernel
theorem dX0_digitHere_39 : decode cX0_digitHere 39 = .ok (.iconst (-1), 1) := by decide +kernel
theorem dX0_digitHere_40 : decode cX0_digitHere 40 = .ok (.ireturn, 1) := by decide +kernel
theorem dX0_digitHere_41 : decode cX0_digitHere 41 = .ok (.aload_n 0, 1) := by decide +kernel
theorem dX0_digitHere_42 : decode cX0_digitHere 42 = .ok (.getfield 9, 3) := by decide +kernel
theorem dX0_digitHere_45 : decode cX0_digitHere 45 = .ok (.aload_n 0, 1) := by decide +kernel
theorem dX0_digitHere_46 : decode cX0_digitHere 46 = .ok (.getfield 26, 3) := by decide +kernel
theorem dX0_digitHere_49 : decode cX0_digitHere 49 = .ok (.caload, 1) := by decide +kernel
theorem dX0_digitHere_50 : decode cX0_digitHere 50 = .ok (.bipush 48, 2) := by decide +kernel
theorem dX0_digitHere_52 : decode cX0_digitHere 52 = .ok (.isub, 1) := by decide +kernel
theorem dX0_digitHere_53 : decode cX0_digitHere 53 = .ok (.ireturn, 1) := by decide +kernel
theorem dX1_init_0 : decode cX1_init 0 = .ok (.aload_n 0, 1) := by decide +kernel
theorem dX1_init_1 : decode cX1_init 1 = .ok (.invokespecial 3, 3) := by decide +kernel
theorem dX1_init_4 : decode cX1_init 4 = .ok (.aload_n 0, 1) := by decide +kernel
theorem dX1_init_5 : decode cX1_init 5 = .ok (.iconst 4, 1) := by decide +kernel
theorem dX1_init_6 : decode cX1_init 6 = .ok (.anewarray 9, 3) := by decide +kernel
theorem dX1_init_9 : decode cX1_init 9 = .ok (.putfield 11, 3) := by decide +kernel
theorem dX1_init_12 : decode cX1_init 12 = .ok (.iconst 0, 1) := by decide +kernel
theorem dX1_init_13 : decode cX1_init 13 = .ok (.istore_n 1, 1) := by decide +kernel
theorem dX1_init_14 : decode cX1_init 14 = .ok (.iload_n 1, 1) := by decide +kernel
theorem dX1_init_15 : decode cX1_init 15 = .ok (.iconst 4, 1) := by decide +kernel
theorem dX1_init_16 : decode cX1_init 16 = .ok (.if_icmp .ge 22, 3) := by decide +kernel
theorem dX1_init_19 : decode cX1_init 19 = .ok (.aload_n 0, 1) := by decide +kernel
theorem dX1_init_20 : decode cX1_init 20 = .ok (.getfield 11, 3) := by decide +kernel
theorem dX1_init_23 : decode cX1_init 23 = .ok (.iload_n 1, 1) := by decide +kernel
theorem dX1_init_24 : decode cX1_init 24 = .ok (.new 9, 3) := by decide +kernel
theorem dX1_init_27 : decode cX1_init 27 = .ok (.dup, 1) := by decide +kernel
theorem dX1_init_28 : decode cX1_init 28 = .ok (.invokespecial 17, 3) := by decide +kernel
theorem dX1_init_31 : decode cX1_init 31 = .ok (.aastore, 1) := by decide +kernel
theorem dX1_init_32 : decode cX1_init 32 = .ok (.iinc 1 1, 3) := by decide +kernel
theorem dX1_init_35 : decode cX1_init 35 = .ok (.goto (-21), 3) := by decide +kernel
theorem dX1_init_38 : decode cX1_init 38 = .ok (.return_, 1) := by decide +kernel
theorem dX1_push_0 : decode cX1_push 0 = .ok (.aload_n 0, 1) := by decide +kernel
theorem dX1_push_1 : decode cX1_push 1 = .ok (.getfield 18, 3) := by decide +kernel
theorem dX1_push_4 : decode cX1_push 4 = .ok (.iconst 4, 1) := by decide +kernel
theorem dX1_push_5 : decode cX1_push 5 = .ok (.if_icmp .lt 7, 3) := by decide +kernel
theorem dX1_push_8 : decode cX1_push 8 = .ok (.aload_n 0, 1) := by decide +kernel
theorem dX1_push_9 : decode cX1_push 9 = .ok (.invokevirtual 22, 3) := by decide +kernel
theorem dX1_push_12 : decode cX1_push 12 = .ok (.aload_n 0, 1) := by decide +kernel
theorem dX1_push_13 : decode cX1_push 13 = .ok (.getfield 11, 3) := by decide +kernel
theorem dX1_push_16 : decode cX1_push 16 = .ok (.aload_n 0, 1) := by decide +kernel
theorem dX1_push_17 : decode cX1_push 17 = .ok (.getfield 18, 3) := by decide +kernel
theorem dX1_push_20 : decode cX1_push 20 = .ok (.aaload, 1) := by decide +kernel
theorem dX1_push_21 : decode cX1_push 21 = .ok (.aload_n 1, 1) := by decide +kernel
theorem dX1_push_22 : decode cX1_push 22 = .ok (.invokevirtual 25, 3) := by decide +kernel
theorem dX1_push_25 : decode cX1_push 25 = .ok (.aload_n 0, 1) := by decide +kernel
theorem dX1_push_26 : decode cX1_push 26 = .ok (.dup, 1) := by decide +kernel
theorem dX1_push_27 : decode cX1_push 27 = .ok (.getfield 18, 3) := by decide +kernel
theorem dX1_push_30 : decode cX1_push 30 = .ok (.iconst 1, 1) := by decide +kernel
theorem dX1_push_31 : decode cX1_push 31 = .ok (.iadd, 1) := by decide +kernel
theorem dX1_push_32 : decode cX1_push 32 = .ok (.putfield 18, 3) := by decide +kernel
theorem dX1_push_35 : decode cX1_push 35 = .ok (.return_, 1) := by decide +kernel
theorem dX1_dropOldest_0 : decode cX1_dropOldest 0 = .ok (.aload_n 0, 1) := by decide +kernel
theorem dX1_dropOldest_1 : decode cX1_dropOldest 1 = .ok (.getfield 11, 3) := by decide +kernel
theorem dX1_dropOldest_4 : decode cX1_dropOldest 4 = .ok (.iconst 0, 1) := by decide +kernel
theorem dX1_dropOldest_5 : decode cX1_dropOldest 5 = .ok (.aaload, 1) := by decide +kernel
theorem dX1_dropOldest_6 : decode cX1_dropOldest 6 = .ok (.astore_n 1, 1) := by decide +kernel
theorem dX1_dropOldest_7 : decode cX1_dropOldest 7 = .ok (.iconst 1, 1) := by decide +kernel
theorem dX1_dropOldest_8 : decode cX1_dropOldest 8 = .ok (.istore_n 2, 1) := by decide +kernel
theorem dX1_dropOldest_9 : decode cX1_dropOldest 9 = .ok (.iload_n 2, 1) := by decide +kernel
theorem dX1_dropOldest_10 : decode cX1_dropOldest 10 = .ok (.iconst 4, 1) := by decide +kernel
theorem dX1_dropOldest_11 : decode cX1_dropOldest 11 = .ok (.if_icmp .ge 23, 3) := by decide +kernel
theorem dX1_dropOldest_14 : decode cX1_dropOldest 14 = .ok (.aload_n 0, 1) := by decide +kernel
theorem dX1_dropOldest_15 : decode cX1_dropOldest 15 = .ok (.getfield 11, 3) := by decide +kernel
theorem dX1_dropOldest_18 : decode cX1_dropOldest 18 = .ok (.iload_n 2, 1) := by decide +kernel
theorem dX1_dropOldest_19 : decode cX1_dropOldest 19 = .ok (.iconst 1, 1) := by decide +kernel
theorem dX1_dropOldest_20 : decode cX1_dropOldest 20 = .ok (.isub, 1) := by decide +kernel
theorem dX1_dropOldest_21 : decode cX1_dropOldest 21 = .ok (.aload_n 0, 1) := by decide +kernel
theorem dX1_dropOldest_22 : decode cX1_dropOldest 22 = .ok (.getfield 11, 3) := by decide +kernel
theorem dX1_dropOldest_25 : decode cX1_dropOldest 25 = .ok (.iload_n 2, 1) := by decide +kernel
theorem dX1_dropOldest_26 : decode cX1_dropOldest 26 = .ok (.aaload, 1) := by decide +kernel
theorem dX1_dropOldest_27 : decode cX1_dropOldest 27 = .ok (.aastore, 1) := by decide +kernel
theorem dX1_dropOldest_28 : decode cX1_dropOldest 28 = .ok (.iinc 2 1, 3) := by decide +kernel
theorem dX1_dropOldest_31 : decode cX1_dropOldest 31 = .ok (.goto (-22), 3) := by decide +kernel
theorem dX1_dropOldest_34 : decode cX1_dropOldest 34 = .ok (.aload_n 0, 1) := by decide +kernel
theorem dX1_dropOldest_35 : decode cX1_dropOldest 35 = .ok (.getfield 11, 3) := by decide +kernel
theorem dX1_dropOldest_38 : decode cX1_dropOldest 38 = .ok (.iconst 3, 1) := by decide +kernel
theorem dX1_dropOldest_39 : decode cX1_dropOldest 39 = .ok (.aload_n 1, 1) := by decide +kernel
theorem dX1_dropOldest_40 : decode cX1_dropOldest 40 = .ok (.aastore, 1) := by decide +kernel
theorem dX1_dropOldest_41 : decode cX1_dropOldest 41 = .ok (.aload_n 0, 1) := by decide +kernel
theorem dX1_dropOldest_42 : decode cX1_dropOldest 42 = .ok (.iconst 3, 1) := by decide +kernel
theorem dX1_dropOldest_43 : decode cX1_dropOldest 43 = .ok (.putfield 18, 3) := by decide +kernel
theorem dX1_dropOldest_46 : decode cX1_dropOldest 46 = .ok (.return_, 1) := by decide +kernel
theorem dX1_pop_0 : decode cX1_pop 0 = .ok (.aload_n 0, 1) := by decide +kernel
theorem dX1_pop_1 : decode cX1_pop 1 = .ok (.getfield 18, 3) := by decide +kernel
theorem dX1_pop_4 : decode cX1_pop 4 = .ok (.ifCond .ne 5, 3) := by decide +kernel
theorem dX1_pop_7 : decode cX1_pop 7 = .ok (.iconst 0, 1) := by decide +kernel
theorem dX1_pop_8 : decode cX1_pop 8 = .ok (.ireturn, 1) := by decide +kernel
theorem dX1_pop_9 : decode cX1_pop 9 = .ok (.aload_n 0, 1) := by decide +kernel
theorem dX1_pop_10 : decode cX1_pop 10 = .ok (.dup, 1) := by decide +kernel
theorem dX1_pop_11 : decode cX1_pop 11 = .ok (.getfield 18, 3) := by decide +kernel
theorem dX1_pop_14 : decode cX1_pop 14 = .ok (.iconst 1, 1) := by decide +kernel
theorem dX1_pop_15 : decode cX1_pop 15 = .ok (.isub, 1) := by decide +kernel
theorem dX1_pop_16 : decode cX1_pop 16 = .ok (.putfield 18, 3) := by decide +kernel
theorem dX1_pop_19 : decode cX1_pop 19 = .ok (.aload_n 1, 1) := by decide +kernel
theorem dX1_pop_20 : decode cX1_pop 20 = .ok (.aload_n 0, 1) := by decide +kernel
theorem dX1_pop_21 : decode cX1_pop 21 = .ok (.getfield 11, 3) := by decide +kernel
theorem dX1_pop_24 : decode cX1_pop 24 = .ok (.aload_n 0, 1) := by decide +kernel
theorem dX1_pop_25 : decode cX1_pop 25 = .ok (.getfield 18, 3) := by decide +kernel
theorem dX1_pop_28 : decode cX1_pop 28 = .ok (.aaload, 1) := by decide +kernel
theorem dX1_pop_29 : decode cX1_pop 29 = .ok (.invokevirtual 25, 3) := by decide +kernel
theorem dX1_pop_32 : decode cX1_pop 32 = .ok (.iconst 1, 1) := by decide +kernel
theorem dX1_pop_33 : decode cX1_pop 33 = .ok (.ireturn, 1) := by decide +kernel
theorem dX2_init_0 : decode cX2_init 0 = .ok (.aload_n 0, 1) := by decide +kernel
theorem dX2_init_1 : decode cX2_init 1 = .ok (.invokespecial 3, 3) := by decide +kernel
theorem dX2_init_4 : decode cX2_init 4 = .ok (.aload_n 0, 1) := by decide +kernel
theorem dX2_init_5 : decode cX2_init 5 = .ok (.bipush 64, 2) := by decide +kernel
theorem dX2_init_7 : decode cX2_init 7 = .ok (.newarray .int, 2) := by decide +kernel
theorem dX2_init_9 : decode cX2_init 9 = .ok (.putfield 9, 3) := by decide +kernel
theorem dX2_init_12 : decode cX2_init 12 = .ok (.aload_n 0, 1) := by decide +kernel
theorem dX2_init_13 : decode cX2_init 13 = .ok (.bipush 64, 2) := by decide +kernel
theorem dX2_init_15 : decode cX2_init 15 = .ok (.newarray .int, 2) := by decide +kernel
theorem dX2_init_17 : decode cX2_init 17 = .ok (.putfield 15, 3) := by decide +kernel
theorem dX2_init_20 : decode cX2_init 20 = .ok (.return_, 1) := by decide +kernel
theorem dX2_follow_0 : decode cX2_follow 0 = .ok (.iconst 0, 1) := by decide +kernel
theorem dX2_follow_1 : decode cX2_follow 1 = .ok (.istore_n 2, 1) := by decide +kernel
theorem dX2_follow_2 : decode cX2_follow 2 = .ok (.iload_n 2, 1) := by decide +kernel
theorem dX2_follow_3 : decode cX2_follow 3 = .ok (.bipush 64, 2) := by decide +kernel
theorem dX2_follow_5 : decode cX2_follow 5 = .ok (.if_icmp .ge 60, 3) := by decide +kernel
theorem dX2_follow_8 : decode cX2_follow 8 = .ok (.aload_n 1, 1) := by decide +kernel
theorem dX2_follow_9 : decode cX2_follow 9 = .ok (.iload_n 2, 1) := by decide +kernel
theorem dX2_follow_10 : decode cX2_follow 10 = .ok (.invokestatic 18, 3) := by decide +kernel
theorem dX2_follow_13 : decode cX2_follow 13 = .ok (.ifCond .ne 13, 3) := by decide +kernel
theorem dX2_follow_16 : decode cX2_follow 16 = .ok (.aload_n 0, 1) := by decide +kernel
theorem dX2_follow_17 : decode cX2_follow 17 = .ok (.getfield 9, 3) := by decide +kernel
theorem dX2_follow_20 : decode cX2_follow 20 = .ok (.iload_n 2, 1) := by decide +kernel
theorem dX2_follow_21 : decode cX2_follow 21 = .ok (.iconst 0, 1) := by decide +kernel
theorem dX2_follow_22 : decode cX2_follow 22 = .ok (.iastore, 1) := by decide +kernel
theorem dX2_follow_23 : decode cX2_follow 23 = .ok (.goto 36, 3) := by decide +kernel
theorem dX2_follow_26 : decode cX2_follow 26 = .ok (.iload_n 2, 1) := by decide +kernel
theorem dX2_follow_27 : decode cX2_follow 27 = .ok (.bipush 8, 2) := by decide +kernel
theorem dX2_follow_29 : decode cX2_follow 29 = .ok (.if_icmp .ge 13, 3) := by decide +kernel
theorem dX2_follow_32 : decode cX2_follow 32 = .ok (.aload_n 0, 1) := by decide +kernel
theorem dX2_follow_33 : decode cX2_follow 33 = .ok (.getfield 9, 3) := by decide +kernel
theorem dX2_follow_36 : decode cX2_follow 36 = .ok (.iload_n 2, 1) := by decide +kernel
theorem dX2_follow_37 : decode cX2_follow 37 = .ok (.iconst 1, 1) := by decide +kernel
theorem dX2_follow_38 : decode cX2_follow 38 = .ok (.iastore, 1) := by decide +kernel
theorem dX2_follow_39 : decode cX2_follow 39 = .ok (.goto 20, 3) := by decide +kernel
theorem dX2_follow_42 : decode cX2_follow 42 = .ok (.aload_n 0, 1) := by decide +kernel
theorem dX2_follow_43 : decode cX2_follow 43 = .ok (.getfield 9, 3) := by decide +kernel
theorem dX2_follow_46 : decode cX2_follow 46 = .ok (.iload_n 2, 1) := by decide +kernel
theorem dX2_follow_47 : decode cX2_follow 47 = .ok (.aload_n 0, 1) := by decide +kernel
theorem dX2_follow_48 : decode cX2_follow 48 = .ok (.getfield 9, 3) := by decide +kernel
theorem dX2_follow_51 : decode cX2_follow 51 = .ok (.iload_n 2, 1) := by decide +kernel
theorem dX2_follow_52 : decode cX2_follow 52 = .ok (.bipush 8, 2) := by decide +kernel
theorem dX2_follow_54 : decode cX2_follow 54 = .ok (.isub, 1) := by decide +kernel
theorem dX2_follow_55 : decode cX2_follow 55 = .ok (.invokestatic 22, 3) := by decide +kernel
theorem dX2_follow_58 : decode cX2_follow 58 = .ok (.iastore, 1) := by decide +kernel
theorem dX2_follow_59 : decode cX2_follow 59 = .ok (.iinc 2 1, 3) := by decide +kernel
theorem dX2_follow_62 : decode cX2_follow 62 = .ok (.goto (-60), 3) := by decide +kernel
theorem dX2_follow_65 : decode cX2_follow 65 = .ok (.bipush 63, 2) := by decide +kernel
theorem dX2_follow_67 : decode cX2_follow 67 = .ok (.istore_n 2, 1) := by decide +kernel
theorem dX2_follow_68 : decode cX2_follow 68 = .ok (.iload_n 2, 1) := by decide +kernel
theorem dX2_follow_69 : decode cX2_follow 69 = .ok (.ifCond .lt 60, 3) := by decide +kernel
theorem dX2_follow_72 : decode cX2_follow 72 = .ok (.aload_n 1, 1) := by decide +kernel
theorem dX2_follow_73 : decode cX2_follow 73 = .ok (.iload_n 2, 1) := by decide +kernel
theorem dX2_follow_74 : decode cX2_follow 74 = .ok (.invokestatic 18, 3) := by decide +kernel
theorem dX2_follow_77 : decode cX2_follow 77 = .ok (.ifCond .ne 13, 3) := by decide +kernel
theorem dX2_follow_80 : decode cX2_follow 80 = .ok (.aload_n 0, 1) := by decide +kernel
theorem dX2_follow_81 : decode cX2_follow 81 = .ok (.getfield 15, 3) := by decide +kernel
theorem dX2_follow_84 : decode cX2_follow 84 = .ok (.iload_n 2, 1) := by decide +kernel
theorem dX2_follow_85 : decode cX2_follow 85 = .ok (.iconst 0, 1) := by decide +kernel
theorem dX2_follow_86 : decode cX2_follow 86 = .ok (.iastore, 1) := by decide +kernel
theorem dX2_follow_87 : decode cX2_follow 87 = .ok (.goto 36, 3) := by decide +kernel
theorem dX2_follow_90 : decode cX2_follow 90 = .ok (.iload_n 2, 1) := by decide +kernel
theorem dX2_follow_91 : decode cX2_follow 91 = .ok (.bipush 56, 2) := by decide +kernel
theorem dX2_follow_93 : decode cX2_follow 93 = .ok (.if_icmp .lt 13, 3) := by decide +kernel
theorem dX2_follow_96 : decode cX2_follow 96 = .ok (.aload_n 0, 1) := by decide +kernel
theorem dX2_follow_97 : decode cX2_follow 97 = .ok (.getfield 15, 3) := by decide +kernel
theorem dX2_follow_100 : decode cX2_follow 100 = .ok (.iload_n 2, 1) := by decide +kernel
theorem dX2_follow_101 : decode cX2_follow 101 = .ok (.iconst 1, 1) := by decide +kernel
theorem dX2_follow_102 : decode cX2_follow 102 = .ok (.iastore, 1) := by decide +kernel
theorem dX2_follow_103 : decode cX2_follow 103 = .ok (.goto 20, 3) := by decide +kernel
theorem dX2_follow_106 : decode cX2_follow 106 = .ok (.aload_n 0, 1) := by decide +kernel
theorem dX2_follow_107 : decode cX2_follow 107 = .ok (.getfield 15, 3) := by decide +kernel
theorem dX2_follow_110 : decode cX2_follow 110 = .ok (.iload_n 2, 1) := by decide +kernel
theorem dX2_follow_111 : decode cX2_follow 111 = .ok (.aload_n 0, 1) := by decide +kernel
theorem dX2_follow_112 : decode cX2_follow 112 = .ok (.getfield 15, 3) := by decide +kernel
theorem dX2_follow_115 : decode cX2_follow 115 = .ok (.iload_n 2, 1) := by decide +kernel
theorem dX2_follow_116 : decode cX2_follow 116 = .ok (.bipush 8, 2) := by decide +kernel
theorem dX2_follow_118 : decode cX2_follow 118 = .ok (.iadd, 1) := by decide +kernel
theorem dX2_follow_119 : decode cX2_follow 119 = .ok (.invokestatic 22, 3) := by decide +kernel
theorem dX2_follow_122 : decode cX2_follow 122 = .ok (.iastore, 1) := by decide +kernel
theorem dX2_follow_123 : decode cX2_follow 123 = .ok (.iinc 2 (-1), 3) := by decide +kernel
theorem dX2_follow_126 : decode cX2_follow 126 = .ok (.goto (-58), 3) := by decide +kernel
theorem dX2_follow_129 : decode cX2_follow 129 = .ok (.aload_n 0, 1) := by decide +kernel
theorem dX2_follow_130 : decode cX2_follow 130 = .ok (.iconst 0, 1) := by decide +kernel
theorem dX2_follow_131 : decode cX2_follow 131 = .ok (.putfield 26, 3) := by decide +kernel
theorem dX2_follow_134 : decode cX2_follow 134 = .ok (.iconst 0, 1) := by decide +kernel
theorem dX2_follow_135 : decode cX2_follow 135 = .ok (.istore_n 2, 1) := by decide +kernel
theorem dX2_follow_136 : decode cX2_follow 136 = .ok (.iload_n 2, 1) := by decide +kernel
theorem dX2_follow_137 : decode cX2_follow 137 = .ok (.bipush 8, 2) := by decide +kernel
theorem dX2_follow_139 : decode cX2_follow 139 = .ok (.if_icmp .ge 24, 3) := by decide +kernel
theorem dX2_follow_142 : decode cX2_follow 142 = .ok (.aload_n 0, 1) := by decide +kernel
theorem dX2_follow_143 : decode cX2_follow 143 = .ok (.dup, 1) := by decide +kernel
theorem dX2_follow_144 : decode cX2_follow 144 = .ok (.getfield 26, 3) := by decide +kernel
theorem dX2_follow_147 : decode cX2_follow 147 = .ok (.aload_n 0, 1) := by decide +kernel
theorem dX2_follow_148 : decode cX2_follow 148 = .ok (.getfield 15, 3) := by decide +kernel
theorem dX2_follow_151 : decode cX2_follow 151 = .ok (.iload_n 2, 1) := by decide +kernel
theorem dX2_follow_152 : decode cX2_follow 152 = .ok (.iaload, 1) := by decide +kernel
theorem dX2_follow_153 : decode cX2_follow 153 = .ok (.iadd, 1) := by decide +kernel
theorem dX2_follow_154 : decode cX2_follow 154 = .ok (.putfield 26, 3) := by decide +kernel
theorem dX2_follow_157 : decode cX2_follow 157 = .ok (.iinc 2 1, 3) := by decide +kernel
theorem dX2_follow_160 : decode cX2_follow 160 = .ok (.goto (-24), 3) := by decide +kernel
theorem dX2_follow_163 : decode cX2_follow 163 = .ok (.return_, 1) := by decide +kernel
theorem dX2_isOpen_0 : decode cX2_isOpen 0 = .ok (.aload_n 0, 1) := by decide +kernel
theorem dX2_isOpen_1 : decode cX2_isOpen 1 = .ok (.iload_n 1, 1) := by decide +kernel
theorem dX2_isOpen_2 : decode cX2_isOpen 2 = .ok (.bipush 8, 2) := by decide +kernel
theorem dX2_isOpen_4 : decode cX2_isOpen 4 = .ok (.idiv, 1) := by decide +kernel
theorem dX2_isOpen_5 : decode cX2_isOpen 5 = .ok (.iaload, 1) := by decide +kernel
theorem dX2_isOpen_6 : decode cX2_isOpen 6 = .ok (.istore_n 2, 1) := by decide +kernel
theorem dX2_isOpen_7 : decode cX2_isOpen 7 = .ok (.iload_n 2, 1) := by decide +kernel
theorem dX2_isOpen_8 : decode cX2_isOpen 8 = .ok (.bipush (-5), 2) := by decide +kernel
theorem dX2_isOpen_10 : decode cX2_isOpen 10 = .ok (.if_icmp .eq 11, 3) := by decide +kernel
theorem dX2_isOpen_13 : decode cX2_isOpen 13 = .ok (.iload_n 2, 1) := by decide +kernel
theorem dX2_isOpen_14 : decode cX2_isOpen 14 = .ok (.iload_n 1, 1) := by decide +kernel
theorem dX2_isOpen_15 : decode cX2_isOpen 15 = .ok (.bipush 8, 2) := by decide +kernel
theorem dX2_isOpen_17 : decode cX2_isOpen 17 = .ok (.irem, 1) := by decide +kernel
theorem dX2_isOpen_18 : decode cX2_isOpen 18 = .ok (.if_icmp .ne 7, 3) := by decide +kernel
theorem dX2_isOpen_21 : decode cX2_isOpen 21 = .ok (.iconst 1, 1) := by decide +kernel
theorem dX2_isOpen_22 : decode cX2_isOpen 22 = .ok (.goto 4, 3) := by decide +kernel
theorem dX2_isOpen_25 : decode cX2_isOpen 25 = .ok (.iconst 0, 1) := by decide +kernel
theorem dX2_isOpen_26 : decode cX2_isOpen 26 = .ok (.ireturn, 1) := by decide +kernel
theorem dX2_around_0 : decode cX2_around 0 = .ok (.aload_n 0, 1) := by decide +kernel
theorem dX2_around_1 : decode cX2_around 1 = .ok (.iload_n 1, 1) := by decide +kernel
theorem dX2_around_2 : decode cX2_around 2 = .ok (.iaload, 1) := by decide +kernel
theorem dX2_around_3 : decode cX2_around 3 = .ok (.istore_n 2, 1) := by decide +kernel
theorem dX2_around_4 : decode cX2_around 4 = .ok (.iload_n 1, 1) := by decide +kernel
theorem dX2_around_5 : decode cX2_around 5 = .ok (.bipush 8, 2) := by decide +kernel
theorem dX2_around_7 : decode cX2_around 7 = .ok (.irem, 1) := by decide +kernel
theorem dX2_around_8 : decode cX2_around 8 = .ok (.ifCond .le 11, 3) := by decide +kernel
theorem dX2_around_11 : decode cX2_around 11 = .ok (.iload_n 2, 1) := by decide +kernel
theorem dX2_around_12 : decode cX2_around 12 = .ok (.aload_n 0, 1) := by decide +kernel
theorem dX2_around_13 : decode cX2_around 13 = .ok (.iload_n 1, 1) := by decide +kernel
theorem dX2_around_14 : decode cX2_around 14 = .ok (.iconst 1, 1) := by decide +kernel
theorem dX2_around_15 : decode cX2_around 15 = .ok (.isub, 1) := by decide +kernel
theorem dX2_around_16 : decode cX2_around 16 = .ok (.iaload, 1) := by decide +kernel
theorem dX2_around_17 : decode cX2_around 17 = .ok (.iadd, 1) := by decide +kernel
theorem dX2_around_18 : decode cX2_around 18 = .ok (.istore_n 2, 1) := by decide +kernel
theorem dX2_around_19 : decode cX2_around 19 = .ok (.iload_n 1, 1) := by decide +kernel
theorem dX2_around_20 : decode cX2_around 20 = .ok (.bipush 8, 2) := by decide +kernel
theorem dX2_around_22 : decode cX2_around 22 = .ok (.irem, 1) := by decide +kernel
theorem dX2_around_23 : decode cX2_around 23 = .ok (.bipush 7, 2) := by decide +kernel
theorem dX2_around_25 : decode cX2_around 25 = .ok (.if_icmp .ge 11, 3) := by decide +kernel
theorem dX2_around_28 : decode cX2_around 28 = .ok (.iload_n 2, 1) := by decide +kernel
theorem dX2_around_29 : decode cX2_around 29 = .ok (.aload_n 0, 1) := by decide +kernel
theorem dX2_around_30 : decode cX2_around 30 = .ok (.iload_n 1, 1) := by decide +kernel
theorem dX2_around_31 : decode cX2_around 31 = .ok (.iconst 1, 1) := by decide +kernel
theorem dX2_around_32 : decode cX2_around 32 = .ok (.iadd, 1) := by decide +kernel
theorem dX2_around_33 : decode cX2_around 33 = .ok (.iaload, 1) := by decide +kernel
theorem dX2_around_34 : decode cX2_around 34 = .ok (.iadd, 1) := by decide +kernel
theorem dX2_around_35 : decode cX2_around 35 = .ok (.istore_n 2, 1) := by decide +kernel
theorem dX2_around_36 : decode cX2_around 36 = .ok (.iload_n 2, 1) := by decide +kernel
theorem dX2_around_37 : decode cX2_around 37 = .ok (.ireturn, 1) := by decide +kernel
theorem dX2_through_0 : decode cX2_through 0 = .ok (.aload_n 0, 1) := by decide +kernel
theorem dX2_through_1 : decode cX2_through 1 = .ok (.getfield 9, 3) := by decide +kernel
theorem dX2_through_4 : decode cX2_through 4 = .ok (.iload_n 1, 1) := by decide +kernel
theorem dX2_through_5 : decode cX2_through 5 = .ok (.iaload, 1) := by decide +kernel
theorem dX2_through_6 : decode cX2_through 6 = .ok (.aload_n 0, 1) := by decide +kernel
theorem dX2_through_7 : decode cX2_through 7 = .ok (.getfield 15, 3) := by decide +kernel
theorem dX2_through_10 : decode cX2_through 10 = .ok (.iload_n 1, 1) := by decide +kernel
theorem dX2_through_11 : decode cX2_through 11 = .ok (.iaload, 1) := by decide +kernel
theorem dX2_through_12 : decode cX2_through 12 = .ok (.imul, 1) := by decide +kernel
theorem dX2_through_13 : decode cX2_through 13 = .ok (.ireturn, 1) := by decide +kernel
theorem dX2_within_0 : decode cX2_within 0 = .ok (.iload_n 1, 1) := by decide +kernel
theorem dX2_within_1 : decode cX2_within 1 = .ok (.iload_n 1, 1) := by decide +kernel
theorem dX2_within_2 : decode cX2_within 2 = .ok (.bipush 8, 2) := by decide +kernel
theorem dX2_within_4 : decode cX2_within 4 = .ok (.irem, 1) := by decide +kernel
theorem dX2_within_5 : decode cX2_within 5 = .ok (.isub, 1) := by decide +kernel
theorem dX2_within_6 : decode cX2_within 6 = .ok (.istore_n 3, 1) := by decide +kernel
theorem dX2_within_7 : decode cX2_within 7 = .ok (.iload_n 3, 1) := by decide +kernel
theorem dX2_within_8 : decode cX2_within 8 = .ok (.iload_n 1, 1) := by decide +kernel
theorem dX2_within_9 : decode cX2_within 9 = .ok (.iload_n 2, 1) := by decide +kernel
theorem dX2_within_10 : decode cX2_within 10 = .ok (.isub, 1) := by decide +kernel
theorem dX2_within_11 : decode cX2_within 11 = .ok (.invokestatic 30, 3) := by decide +kernel
theorem dX2_within_14 : decode cX2_within 14 = .ok (.istore 4, 2) := by decide +kernel
theorem dX2_within_16 : decode cX2_within 16 = .ok (.iload_n 3, 1) := by decide +kernel
theorem dX2_within_17 : decode cX2_within 17 = .ok (.bipush 8, 2) := by decide +kernel
theorem dX2_within_19 : decode cX2_within 19 = .ok (.iadd, 1) := by decide +kernel
theorem dX2_within_20 : decode cX2_within 20 = .ok (.iconst 1, 1) := by decide +kernel
theorem dX2_within_21 : decode cX2_within 21 = .ok (.isub, 1) := by decide +kernel
theorem dX2_within_22 : decode cX2_within 22 = .ok (.iload_n 1, 1) := by decide +kernel
theorem dX2_within_23 : decode cX2_within 23 = .ok (.iload_n 2, 1) := by decide +kernel
theorem dX2_within_24 : decode cX2_within 24 = .ok (.iadd, 1) := by decide +kernel
theorem dX2_within_25 : decode cX2_within 25 = .ok (.invokestatic 36, 3) := by decide +kernel
theorem dX2_within_28 : decode cX2_within 28 = .ok (.istore 5, 2) := by decide +kernel
theorem dX2_within_30 : decode cX2_within 30 = .ok (.iconst 0, 1) := by decide +kernel
theorem dX2_within_31 : decode cX2_within 31 = .ok (.istore 6, 2) := by decide +kernel
theorem dX2_within_33 : decode cX2_within 33 = .ok (.iload 4, 2) := by decide +kernel
theorem dX2_within_35 : decode cX2_within 35 = .ok (.istore 7, 2) := by decide +kernel
theorem dX2_within_37 : decode cX2_within 37 = .ok (.iload 7, 2) := by decide +kernel
theorem dX2_within_39 : decode cX2_within 39 = .ok (.iload 5, 2) := by decide +kernel
theorem dX2_within_41 : decode cX2_within 41 = .ok (.if_icmp .gt 20, 3) := by decide +kernel
theorem dX2_within_44 : decode cX2_within 44 = .ok (.iload 6, 2) := by decide +kernel
theorem dX2_within_46 : decode cX2_within 46 = .ok (.aload_n 0, 1) := by decide +kernel
theorem dX2_within_47 : decode cX2_within 47 = .ok (.iload 7, 2) := by decide +kernel
theorem dX2_within_49 : decode cX2_within 49 = .ok (.invokevirtual 39, 3) := by decide +kernel
theorem dX2_within_52 : decode cX2_within 52 = .ok (.iadd, 1) := by decide +kernel
theorem dX2_within_53 : decode cX2_within 53 = .ok (.istore 6, 2) := by decide +kernel
theorem dX2_within_55 : decode cX2_within 55 = .ok (.iinc 7 1, 3) := by decide +kernel
theorem dX2_within_58 : decode cX2_within 58 = .ok (.goto (-21), 3) := by decide +kernel
theorem dX2_within_61 : decode cX2_within 61 = .ok (.iload 6, 2) := by decide +kernel
theorem dX2_within_63 : decode cX2_within 63 = .ok (.ireturn, 1) := by decide +kernel
theorem dX2_leastColumn_0 : decode cX2_leastColumn 0 = .ok (.iconst 0, 1) := by decide +kernel
theorem dX2_leastColumn_1 : decode cX2_leastColumn 1 = .ok (.istore_n 2, 1) := by decide +kernel
theorem dX2_leastColumn_2 : decode cX2_leastColumn 2 = .ok (.iload_n 2, 1) := by decide +kernel
theorem dX2_leastColumn_3 : decode cX2_leastColumn 3 = .ok (.bipush 7, 2) := by decide +kernel
theorem dX2_leastColumn_5 : decode cX2_leastColumn 5 = .ok (.if_icmp .ge 22, 3) := by decide +kernel
theorem dX2_leastColumn_8 : decode cX2_leastColumn 8 = .ok (.aload_n 0, 1) := by decide +kernel
theorem dX2_leastColumn_9 : decode cX2_leastColumn 9 = .ok (.iload_n 1, 1) := by decide +kernel
theorem dX2_leastColumn_10 : decode cX2_leastColumn 10 = .ok (.bipush 8, 2) := by decide +kernel
theorem dX2_leastColumn_12 : decode cX2_leastColumn 12 = .ok (.imul, 1) := by decide +kernel
theorem dX2_leastColumn_13 : decode cX2_leastColumn 13 = .ok (.iload_n 2, 1) := by decide +kernel
theorem dX2_leastColumn_14 : decode cX2_leastColumn 14 = .ok (.iadd, 1) := by decide +kernel
theorem dX2_leastColumn_15 : decode cX2_leastColumn 15 = .ok (.invokevirtual 39, 3) := by decide +kernel
theorem dX2_leastColumn_18 : decode cX2_leastColumn 18 = .ok (.ifCond .ne 9, 3) := by decide +kernel
theorem dX2_leastColumn_21 : decode cX2_leastColumn 21 = .ok (.iinc 2 1, 3) := by decide +kernel
theorem dX2_leastColumn_24 : decode cX2_leastColumn 24 = .ok (.goto (-22), 3) := by decide +kernel
theorem dX2_leastColumn_27 : decode cX2_leastColumn 27 = .ok (.iload_n 2, 1) := by decide +kernel
theorem dX2_leastColumn_28 : decode cX2_leastColumn 28 = .ok (.ireturn, 1) := by decide +kernel
theorem dX2_greatestColumn_0 : decode cX2_greatestColumn 0 = .ok (.bipush 7, 2) := by decide +kernel
theorem dX2_greatestColumn_2 : decode cX2_greatestColumn 2 = .ok (.istore_n 2, 1) := by decide +kernel
theorem dX2_greatestColumn_3 : decode cX2_greatestColumn 3 = .ok (.iload_n 2, 1) := by decide +kernel
theorem dX2_greatestColumn_4 : decode cX2_greatestColumn 4 = .ok (.ifCond .le 22, 3) := by decide +kernel
theorem dX2_greatestColumn_7 : decode cX2_greatestColumn 7 = .ok (.aload_n 0, 1) := by decide +kernel
theorem dX2_greatestColumn_8 : decode cX2_greatestColumn 8 = .ok (.iload_n 1, 1) := by decide +kernel
theorem dX2_greatestColumn_9 : decode cX2_greatestColumn 9 = .ok (.bipush 8, 2) := by decide +kernel
theorem dX2_greatestColumn_11 : decode cX2_greatestColumn 11 = .ok (.imul, 1) := by decide +kernel
theorem dX2_greatestColumn_12 : decode cX2_greatestColumn 12 = .ok (.iload_n 2, 1) := by decide +kernel
theorem dX2_greatestColumn_13 : decode cX2_greatestColumn 13 = .ok (.iadd, 1) := by decide +kernel
theorem dX2_greatestColumn_14 : decode cX2_greatestColumn 14 = .ok (.invokevirtual 39, 3) := by decide +kernel
theorem dX2_greatestColumn_17 : decode cX2_greatestColumn 17 = .ok (.ifCond .ne 9, 3) := by decide +kernel
theorem dX2_greatestColumn_20 : decode cX2_greatestColumn 20 = .ok (.iinc 2 (-1), 3) := by decide +kernel
theorem dX2_greatestColumn_23 : decode cX2_greatestColumn 23 = .ok (.goto (-20), 3) := by decide +kernel
theorem dX2_greatestColumn_26 : decode cX2_greatestColumn 26 = .ok (.iload_n 2, 1) := by decide +kernel
theorem dX2_greatestColumn_27 : decode cX2_greatestColumn 27 = .ok (.ireturn, 1) := by decide +kernel
theorem dX2_mostOpenRow_0 : decode cX2_mostOpenRow 0 = .ok (.aload_n 0, 1) := by decide +kernel
theorem dX2_mostOpenRow_1 : decode cX2_mostOpenRow 1 = .ok (.getfield 26, 3) := by decide +kernel
theorem dX2_mostOpenRow_4 : decode cX2_mostOpenRow 4 = .ok (.iconst 1, 1) := by decide +kernel
theorem dX2_mostOpenRow_5 : decode cX2_mostOpenRow 5 = .ok (.if_icmp .gt 6, 3) := by decide +kernel
theorem dX2_mostOpenRow_8 : decode cX2_mostOpenRow 8 = .ok (.bipush (-5), 2) := by decide +kernel
theorem dX2_mostOpenRow_10 : decode cX2_mostOpenRow 10 = .ok (.ireturn, 1) := by decide +kernel
theorem dX2_mostOpenRow_11 : decode cX2_mostOpenRow 11 = .ok (.iconst 0, 1) := by decide +kernel
theorem dX2_mostOpenRow_12 : decode cX2_mostOpenRow 12 = .ok (.istore_n 1, 1) := by decide +kernel
theorem dX2_mostOpenRow_13 : decode cX2_mostOpenRow 13 = .ok (.iconst 1, 1) := by decide +kernel
theorem dX2_mostOpenRow_14 : decode cX2_mostOpenRow 14 = .ok (.istore_n 2, 1) := by decide +kernel
theorem dX2_mostOpenRow_15 : decode cX2_mostOpenRow 15 = .ok (.iload_n 2, 1) := by decide +kernel
theorem dX2_mostOpenRow_16 : decode cX2_mostOpenRow 16 = .ok (.bipush 8, 2) := by decide +kernel
theorem dX2_mostOpenRow_18 : decode cX2_mostOpenRow 18 = .ok (.if_icmp .ge 24, 3) := by decide +kernel
theorem dX2_mostOpenRow_21 : decode cX2_mostOpenRow 21 = .ok (.aload_n 0, 1) := by decide +kernel
theorem dX2_mostOpenRow_22 : decode cX2_mostOpenRow 22 = .ok (.iload_n 2, 1) := by decide +kernel
theorem dX2_mostOpenRow_23 : decode cX2_mostOpenRow 23 = .ok (.invokevirtual 43, 3) := by decide +kernel
theorem dX2_mostOpenRow_26 : decode cX2_mostOpenRow 26 = .ok (.aload_n 0, 1) := by decide +kernel
theorem dX2_mostOpenRow_27 : decode cX2_mostOpenRow 27 = .ok (.iload_n 1, 1) := by decide +kernel
theorem dX2_mostOpenRow_28 : decode cX2_mostOpenRow 28 = .ok (.invokevirtual 43, 3) := by decide +kernel
theorem dX2_mostOpenRow_31 : decode cX2_mostOpenRow 31 = .ok (.if_icmp .le 5, 3) := by decide +kernel
theorem dX2_mostOpenRow_34 : decode cX2_mostOpenRow 34 = .ok (.iload_n 2, 1) := by decide +kernel
theorem dX2_mostOpenRow_35 : decode cX2_mostOpenRow 35 = .ok (.istore_n 1, 1) := by decide +kernel
theorem dX2_mostOpenRow_36 : decode cX2_mostOpenRow 36 = .ok (.iinc 2 1, 3) := by decide +kernel
theorem dX2_mostOpenRow_39 : decode cX2_mostOpenRow 39 = .ok (.goto (-24), 3) := by decide +kernel
theorem dX2_mostOpenRow_42 : decode cX2_mostOpenRow 42 = .ok (.iload_n 1, 1) := by decide +kernel
theorem dX2_mostOpenRow_43 : decode cX2_mostOpenRow 43 = .ok (.ireturn, 1) := by decide +kernel
theorem dX2_openColumns_0 : decode cX2_openColumns 0 = .ok (.iconst 0, 1) := by decide +kernel
theorem dX2_openColumns_1 : decode cX2_openColumns 1 = .ok (.istore_n 2, 1) := by decide +kernel
theorem dX2_openColumns_2 : decode cX2_openColumns 2 = .ok (.iconst 0, 1) := by decide +kernel
theorem dX2_openColumns_3 : decode cX2_openColumns 3 = .ok (.istore_n 3, 1) := by decide +kernel
theorem dX2_openColumns_4 : decode cX2_openColumns 4 = .ok (.iload_n 3, 1) := by decide +kernel
theorem dX2_openColumns_5 : decode cX2_openColumns 5 = .ok (.bipush 8, 2) := by decide +kernel
theorem dX2_openColumns_7 : decode cX2_openColumns 7 = .ok (.if_icmp .ge 25, 3) := by decide +kernel
theorem dX2_openColumns_10 : decode cX2_openColumns 10 = .ok (.aload_n 0, 1) := by decide +kernel
theorem dX2_openColumns_11 : decode cX2_openColumns 11 = .ok (.iload_n 1, 1) := by decide +kernel
theorem dX2_openColumns_12 : decode cX2_openColumns 12 = .ok (.bipush 8, 2) := by decide +kernel
theorem dX2_openColumns_14 : decode cX2_openColumns 14 = .ok (.imul, 1) := by decide +kernel
theorem dX2_openColumns_15 : decode cX2_openColumns 15 = .ok (.iload_n 3, 1) := by decide +kernel
theorem dX2_openColumns_16 : decode cX2_openColumns 16 = .ok (.iadd, 1) := by decide +kernel
theorem dX2_openColumns_17 : decode cX2_openColumns 17 = .ok (.invokevirtual 39, 3) := by decide +kernel
theorem dX2_openColumns_20 : decode cX2_openColumns 20 = .ok (.ifCond .le 6, 3) := by decide +kernel
theorem dX2_openColumns_23 : decode cX2_openColumns 23 = .ok (.iinc 2 1, 3) := by decide +kernel
theorem dX2_openColumns_26 : decode cX2_openColumns 26 = .ok (.iinc 3 1, 3) := by decide +kernel
theorem dX2_openColumns_29 : decode cX2_openColumns 29 = .ok (.goto (-25), 3) := by decide +kernel
theorem dX2_openColumns_32 : decode cX2_openColumns 32 = .ok (.iload_n 2, 1) := by decide +kernel
theorem dX2_openColumns_33 : decode cX2_openColumns 33 = .ok (.ireturn, 1) := by decide +kernel
theorem dX3_init_0 : decode cX3_init 0 = .ok (.aload_n 0, 1) := by decide +kernel
theorem dX3_init_1 : decode cX3_init 1 = .ok (.invokespecial 3, 3) := by decide +kernel
theorem dX3_init_4 : decode cX3_init 4 = .ok (.aload_n 0, 1) := by decide +kernel
theorem dX3_init_5 : decode cX3_init 5 = .ok (.bipush 64, 2) := by decide +kernel
theorem dX3_init_7 : decode cX3_init 7 = .ok (.newarray .int, 2) := by decide +kernel
theorem dX3_init_9 : decode cX3_init 9 = .ok (.putfield 9, 3) := by decide +kernel
theorem dX3_init_12 : decode cX3_init 12 = .ok (.aload_n 0, 1) := by decide +kernel
theorem dX3_init_13 : decode cX3_init 13 = .ok (.bipush 64, 2) := by decide +kernel
theorem dX3_init_15 : decode cX3_init 15 = .ok (.newarray .boolean, 2) := by decide +kernel
theorem dX3_init_17 : decode cX3_init 17 = .ok (.putfield 15, 3) := by decide +kernel
theorem dX3_init_20 : decode cX3_init 20 = .ok (.aload_n 0, 1) := by decide +kernel
theorem dX3_init_21 : decode cX3_init 21 = .ok (.iconst 3, 1) := by decide +kernel
theorem dX3_init_22 : decode cX3_init 22 = .ok (.newarray .int, 2) := by decide +kernel
theorem dX3_init_24 : decode cX3_init 24 = .ok (.putfield 19, 3) := by decide +kernel
theorem dX3_init_27 : decode cX3_init 27 = .ok (.aload_n 0, 1) := by decide +kernel
theorem dX3_init_28 : decode cX3_init 28 = .ok (.iconst 3, 1) := by decide +kernel
theorem dX3_init_29 : decode cX3_init 29 = .ok (.newarray .int, 2) := by decide +kernel
theorem dX3_init_31 : decode cX3_init 31 = .ok (.putfield 22, 3) := by decide +kernel
theorem dX3_init_34 : decode cX3_init 34 = .ok (.aload_n 0, 1) := by decide +kernel
theorem dX3_init_35 : decode cX3_init 35 = .ok (.iconst 3, 1) := by decide +kernel
theorem dX3_init_36 : decode cX3_init 36 = .ok (.newarray .int, 2) := by decide +kernel
theorem dX3_init_38 : decode cX3_init 38 = .ok (.putfield 25, 3) := by decide +kernel
theorem dX3_init_41 : decode cX3_init 41 = .ok (.aload_n 0, 1) := by decide +kernel
theorem dX3_init_42 : decode cX3_init 42 = .ok (.iconst 3, 1) := by decide +kernel
theorem dX3_init_43 : decode cX3_init 43 = .ok (.newarray .int, 2) := by decide +kernel
theorem dX3_init_45 : decode cX3_init 45 = .ok (.putfield 28, 3) := by decide +kernel
theorem dX3_init_48 : decode cX3_init 48 = .ok (.aload_n 0, 1) := by decide +kernel
theorem dX3_init_49 : decode cX3_init 49 = .ok (.bipush 8, 2) := by decide +kernel
theorem dX3_init_51 : decode cX3_init 51 = .ok (.newarray .int, 2) := by decide +kernel
theorem dX3_init_53 : decode cX3_init 53 = .ok (.putfield 31, 3) := by decide +kernel
theorem dX3_init_56 : decode cX3_init 56 = .ok (.aload_n 0, 1) := by decide +kernel
theorem dX3_init_57 : decode cX3_init 57 = .ok (.iconst 3, 1) := by decide +kernel
theorem dX3_init_58 : decode cX3_init 58 = .ok (.newarray .int, 2) := by decide +kernel
theorem dX3_init_60 : decode cX3_init 60 = .ok (.putfield 34, 3) := by decide +kernel
theorem dX3_init_63 : decode cX3_init 63 = .ok (.iconst 0, 1) := by decide +kernel
theorem dX3_init_64 : decode cX3_init 64 = .ok (.istore_n 1, 1) := by decide +kernel
theorem dX3_init_65 : decode cX3_init 65 = .ok (.iload_n 1, 1) := by decide +kernel
theorem dX3_init_66 : decode cX3_init 66 = .ok (.iconst 3, 1) := by decide +kernel
theorem dX3_init_67 : decode cX3_init 67 = .ok (.if_icmp .ge 20, 3) := by decide +kernel
theorem dX3_init_70 : decode cX3_init 70 = .ok (.aload_n 0, 1) := by decide +kernel
theorem dX3_init_71 : decode cX3_init 71 = .ok (.getfield 34, 3) := by decide +kernel
theorem dX3_init_74 : decode cX3_init 74 = .ok (.iload_n 1, 1) := by decide +kernel
theorem dX3_init_75 : decode cX3_init 75 = .ok (.getstatic 37, 3) := by decide +kernel
theorem dX3_init_78 : decode cX3_init 78 = .ok (.iload_n 1, 1) := by decide +kernel
theorem dX3_init_79 : decode cX3_init 79 = .ok (.iaload, 1) := by decide +kernel
theorem dX3_init_80 : decode cX3_init 80 = .ok (.iastore, 1) := by decide +kernel
theorem dX3_init_81 : decode cX3_init 81 = .ok (.iinc 1 1, 3) := by decide +kernel
theorem dX3_init_84 : decode cX3_init 84 = .ok (.goto (-19), 3) := by decide +kernel
theorem dX3_init_87 : decode cX3_init 87 = .ok (.iconst 0, 1) := by decide +kernel
theorem dX3_init_88 : decode cX3_init 88 = .ok (.istore_n 1, 1) := by decide +kernel
theorem dX3_init_89 : decode cX3_init 89 = .ok (.iload_n 1, 1) := by decide +kernel
theorem dX3_init_90 : decode cX3_init 90 = .ok (.iconst 3, 1) := by decide +kernel
theorem dX3_init_91 : decode cX3_init 91 = .ok (.if_icmp .ge 28, 3) := by decide +kernel
theorem dX3_init_94 : decode cX3_init 94 = .ok (.aload_n 0, 1) := by decide +kernel
theorem dX3_init_95 : decode cX3_init 95 = .ok (.getfield 19, 3) := by decide +kernel
theorem dX3_init_98 : decode cX3_init 98 = .ok (.iload_n 1, 1) := by decide +kernel
theorem dX3_init_99 : decode cX3_init 99 = .ok (.iload_n 1, 1) := by decide +kernel
theorem dX3_init_100 : decode cX3_init 100 = .ok (.iastore, 1) := by decide +kernel
theorem dX3_init_101 : decode cX3_init 101 = .ok (.aload_n 0, 1) := by decide +kernel
theorem dX3_init_102 : decode cX3_init 102 = .ok (.getfield 22, 3) := by decide +kernel
theorem dX3_init_105 : decode cX3_init 105 = .ok (.iload_n 1, 1) := by decide +kernel
theorem dX3_init_106 : decode cX3_init 106 = .ok (.aload_n 0, 1) := by decide +kernel
theorem dX3_init_107 : decode cX3_init 107 = .ok (.getfield 34, 3) := by decide +kernel
theorem dX3_init_110 : decode cX3_init 110 = .ok (.iconst 0, 1) := by decide +kernel
theorem dX3_init_111 : decode cX3_init 111 = .ok (.iaload, 1) := by decide +kernel
theorem dX3_init_112 : decode cX3_init 112 = .ok (.iastore, 1) := by decide +kernel
theorem dX3_init_113 : decode cX3_init 113 = .ok (.iinc 1 1, 3) := by decide +kernel
theorem dX3_init_116 : decode cX3_init 116 = .ok (.goto (-27), 3) := by decide +kernel
theorem dX3_init_119 : decode cX3_init 119 = .ok (.iconst 0, 1) := by decide +kernel
theorem dX3_init_120 : decode cX3_init 120 = .ok (.istore_n 1, 1) := by decide +kernel
theorem dX3_init_121 : decode cX3_init 121 = .ok (.iload_n 1, 1) := by decide +kernel
theorem dX3_init_122 : decode cX3_init 122 = .ok (.bipush 8, 2) := by decide +kernel
theorem dX3_init_124 : decode cX3_init 124 = .ok (.if_icmp .ge 17, 3) := by decide +kernel
theorem dX3_init_127 : decode cX3_init 127 = .ok (.aload_n 0, 1) := by decide +kernel
theorem dX3_init_128 : decode cX3_init 128 = .ok (.getfield 31, 3) := by decide +kernel
theorem dX3_init_131 : decode cX3_init 131 = .ok (.iload_n 1, 1) := by decide +kernel
theorem dX3_init_132 : decode cX3_init 132 = .ok (.bipush (-5), 2) := by decide +kernel
theorem dX3_init_134 : decode cX3_init 134 = .ok (.iastore, 1) := by decide +kernel
theorem dX3_init_135 : decode cX3_init 135 = .ok (.iinc 1 1, 3) := by decide +kernel
theorem dX3_init_138 : decode cX3_init 138 = .ok (.goto (-17), 3) := by decide +kernel
theorem dX3_init_141 : decode cX3_init 141 = .ok (.return_, 1) := by decide +kernel
theorem dX3_copyFrom_0 : decode cX3_copyFrom 0 = .ok (.aload_n 1, 1) := by decide +kernel
theorem dX3_copyFrom_1 : decode cX3_copyFrom 1 = .ok (.getfield 9, 3) := by decide +kernel
theorem dX3_copyFrom_4 : decode cX3_copyFrom 4 = .ok (.iconst 0, 1) := by decide +kernel
theorem dX3_copyFrom_5 : decode cX3_copyFrom 5 = .ok (.aload_n 0, 1) := by decide +kernel
theorem dX3_copyFrom_6 : decode cX3_copyFrom 6 = .ok (.getfield 9, 3) := by decide +kernel
theorem dX3_copyFrom_9 : decode cX3_copyFrom 9 = .ok (.iconst 0, 1) := by decide +kernel
theorem dX3_copyFrom_10 : decode cX3_copyFrom 10 = .ok (.bipush 64, 2) := by decide +kernel
theorem dX3_copyFrom_12 : decode cX3_copyFrom 12 = .ok (.invokestatic 40, 3) := by decide +kernel
theorem dX3_copyFrom_15 : decode cX3_copyFrom 15 = .ok (.aload_n 1, 1) := by decide +kernel
theorem dX3_copyFrom_16 : decode cX3_copyFrom 16 = .ok (.getfield 15, 3) := by decide +kernel
theorem dX3_copyFrom_19 : decode cX3_copyFrom 19 = .ok (.iconst 0, 1) := by decide +kernel
theorem dX3_copyFrom_20 : decode cX3_copyFrom 20 = .ok (.aload_n 0, 1) := by decide +kernel
theorem dX3_copyFrom_21 : decode cX3_copyFrom 21 = .ok (.getfield 15, 3) := by decide +kernel
theorem dX3_copyFrom_24 : decode cX3_copyFrom 24 = .ok (.iconst 0, 1) := by decide +kernel
theorem dX3_copyFrom_25 : decode cX3_copyFrom 25 = .ok (.bipush 64, 2) := by decide +kernel
theorem dX3_copyFrom_27 : decode cX3_copyFrom 27 = .ok (.invokestatic 40, 3) := by decide +kernel
theorem dX3_copyFrom_30 : decode cX3_copyFrom 30 = .ok (.aload_n 0, 1) := by decide +kernel
theorem dX3_copyFrom_31 : decode cX3_copyFrom 31 = .ok (.aload_n 1, 1) := by decide +kernel
theorem dX3_copyFrom_32 : decode cX3_copyFrom 32 = .ok (.getfield 46, 3) := by decide +kernel
theorem dX3_copyFrom_35 : decode cX3_copyFrom 35 = .ok (.putfield 46, 3) := by decide +kernel
theorem dX3_copyFrom_38 : decode cX3_copyFrom 38 = .ok (.aload_n 1, 1) := by decide +kernel
theorem dX3_copyFrom_39 : decode cX3_copyFrom 39 = .ok (.getfield 19, 3) := by decide +kernel
theorem dX3_copyFrom_42 : decode cX3_copyFrom 42 = .ok (.iconst 0, 1) := by decide +kernel
theorem dX3_copyFrom_43 : decode cX3_copyFrom 43 = .ok (.aload_n 0, 1) := by decide +kernel
theorem dX3_copyFrom_44 : decode cX3_copyFrom 44 = .ok (.getfield 19, 3) := by decide +kernel
theorem dX3_copyFrom_47 : decode cX3_copyFrom 47 = .ok (.iconst 0, 1) := by decide +kernel
theorem dX3_copyFrom_48 : decode cX3_copyFrom 48 = .ok (.iconst 3, 1) := by decide +kernel
theorem dX3_copyFrom_49 : decode cX3_copyFrom 49 = .ok (.invokestatic 40, 3) := by decide +kernel
theorem dX3_copyFrom_52 : decode cX3_copyFrom 52 = .ok (.aload_n 1, 1) := by decide +kernel
theorem dX3_copyFrom_53 : decode cX3_copyFrom 53 = .ok (.getfield 22, 3) := by decide +kernel
theorem dX3_copyFrom_56 : decode cX3_copyFrom 56 = .ok (.iconst 0, 1) := by decide +kernel
theorem dX3_copyFrom_57 : decode cX3_copyFrom 57 = .ok (.aload_n 0, 1) := by decide +kernel
theorem dX3_copyFrom_58 : decode cX3_copyFrom 58 = .ok (.getfield 22, 3) := by decide +kernel
theorem dX3_copyFrom_61 : decode cX3_copyFrom 61 = .ok (.iconst 0, 1) := by decide +kernel
theorem dX3_copyFrom_62 : decode cX3_copyFrom 62 = .ok (.iconst 3, 1) := by decide +kernel
theorem dX3_copyFrom_63 : decode cX3_copyFrom 63 = .ok (.invokestatic 40, 3) := by decide +kernel
theorem dX3_copyFrom_66 : decode cX3_copyFrom 66 = .ok (.aload_n 1, 1) := by decide +kernel
theorem dX3_copyFrom_67 : decode cX3_copyFrom 67 = .ok (.getfield 25, 3) := by decide +kernel
theorem dX3_copyFrom_70 : decode cX3_copyFrom 70 = .ok (.iconst 0, 1) := by decide +kernel
theorem dX3_copyFrom_71 : decode cX3_copyFrom 71 = .ok (.aload_n 0, 1) := by decide +kernel
theorem dX3_copyFrom_72 : decode cX3_copyFrom 72 = .ok (.getfield 25, 3) := by decide +kernel
theorem dX3_copyFrom_75 : decode cX3_copyFrom 75 = .ok (.iconst 0, 1) := by decide +kernel
theorem dX3_copyFrom_76 : decode cX3_copyFrom 76 = .ok (.iconst 3, 1) := by decide +kernel
theorem dX3_copyFrom_77 : decode cX3_copyFrom 77 = .ok (.invokestatic 40, 3) := by decide +kernel
theorem dX3_copyFrom_80 : decode cX3_copyFrom 80 = .ok (.aload_n 1, 1) := by decide +kernel
theorem dX3_copyFrom_81 : decode cX3_copyFrom 81 = .ok (.getfield 28, 3) := by decide +kernel
theorem dX3_copyFrom_84 : decode cX3_copyFrom 84 = .ok (.iconst 0, 1) := by decide +kernel
theorem dX3_copyFrom_85 : decode cX3_copyFrom 85 = .ok (.aload_n 0, 1) := by decide +kernel
theorem dX3_copyFrom_86 : decode cX3_copyFrom 86 = .ok (.getfield 28, 3) := by decide +kernel
theorem dX3_copyFrom_89 : decode cX3_copyFrom 89 = .ok (.iconst 0, 1) := by decide +kernel
theorem dX3_copyFrom_90 : decode cX3_copyFrom 90 = .ok (.iconst 3, 1) := by decide +kernel
theorem dX3_copyFrom_91 : decode cX3_copyFrom 91 = .ok (.invokestatic 40, 3) := by decide +kernel
theorem dX3_copyFrom_94 : decode cX3_copyFrom 94 = .ok (.aload_n 1, 1) := by decide +kernel
theorem dX3_copyFrom_95 : decode cX3_copyFrom 95 = .ok (.getfield 31, 3) := by decide +kernel
theorem dX3_copyFrom_98 : decode cX3_copyFrom 98 = .ok (.iconst 0, 1) := by decide +kernel
theorem dX3_copyFrom_99 : decode cX3_copyFrom 99 = .ok (.aload_n 0, 1) := by decide +kernel
theorem dX3_copyFrom_100 : decode cX3_copyFrom 100 = .ok (.getfield 31, 3) := by decide +kernel
theorem dX3_copyFrom_103 : decode cX3_copyFrom 103 = .ok (.iconst 0, 1) := by decide +kernel
theorem dX3_copyFrom_104 : decode cX3_copyFrom 104 = .ok (.bipush 8, 2) := by decide +kernel
theorem dX3_copyFrom_106 : decode cX3_copyFrom 106 = .ok (.invokestatic 40, 3) := by decide +kernel
theorem dX3_copyFrom_109 : decode cX3_copyFrom 109 = .ok (.aload_n 1, 1) := by decide +kernel
theorem dX3_copyFrom_110 : decode cX3_copyFrom 110 = .ok (.getfield 34, 3) := by decide +kernel
theorem dX3_copyFrom_113 : decode cX3_copyFrom 113 = .ok (.iconst 0, 1) := by decide +kernel
theorem dX3_copyFrom_114 : decode cX3_copyFrom 114 = .ok (.aload_n 0, 1) := by decide +kernel
theorem dX3_copyFrom_115 : decode cX3_copyFrom 115 = .ok (.getfield 34, 3) := by decide +kernel
theorem dX3_copyFrom_118 : decode cX3_copyFrom 118 = .ok (.iconst 0, 1) := by decide +kernel
theorem dX3_copyFrom_119 : decode cX3_copyFrom 119 = .ok (.iconst 3, 1) := by decide +kernel
theorem dX3_copyFrom_120 : decode cX3_copyFrom 120 = .ok (.invokestatic 40, 3) := by decide +kernel
theorem dX3_copyFrom_123 : decode cX3_copyFrom 123 = .ok (.aload_n 0, 1) := by decide +kernel
theorem dX3_copyFrom_124 : decode cX3_copyFrom 124 = .ok (.aload_n 1, 1) := by decide +kernel
theorem dX3_copyFrom_125 : decode cX3_copyFrom 125 = .ok (.getfield 50, 3) := by decide +kernel
theorem dX3_copyFrom_128 : decode cX3_copyFrom 128 = .ok (.putfield 50, 3) := by decide +kernel
theorem dX3_copyFrom_131 : decode cX3_copyFrom 131 = .ok (.aload_n 0, 1) := by decide +kernel
theorem dX3_copyFrom_132 : decode cX3_copyFrom 132 = .ok (.aload_n 1, 1) := by decide +kernel
theorem dX3_copyFrom_133 : decode cX3_copyFrom 133 = .ok (.getfield 53, 3) := by decide +kernel
theorem dX3_copyFrom_136 : decode cX3_copyFrom 136 = .ok (.putfield 53, 3) := by decide +kernel
theorem dX3_copyFrom_139 : decode cX3_copyFrom 139 = .ok (.aload_n 0, 1) := by decide +kernel
theorem dX3_copyFrom_140 : decode cX3_copyFrom 140 = .ok (.aload_n 1, 1) := by decide +kernel
theorem dX3_copyFrom_141 : decode cX3_copyFrom 141 = .ok (.getfield 56, 3) := by decide +kernel
theorem dX3_copyFrom_144 : decode cX3_copyFrom 144 = .ok (.putfield 56, 3) := by decide +kernel
theorem dX3_copyFrom_147 : decode cX3_copyFrom 147 = .ok (.aload_n 0, 1) := by decide +kernel
theorem dX3_copyFrom_148 : decode cX3_copyFrom 148 = .ok (.aload_n 1, 1) := by decide +kernel
theorem dX3_copyFrom_149 : decode cX3_copyFrom 149 = .ok (.getfield 59, 3) := by decide +kernel
theorem dX3_copyFrom_152 : decode cX3_copyFrom 152 = .ok (.putfield 59, 3) := by decide +kernel
theorem dX3_copyFrom_155 : decode cX3_copyFrom 155 = .ok (.return_, 1) := by decide +kernel
theorem dX3_plant_0 : decode cX3_plant 0 = .ok (.iload_n 1, 1) := by decide +kernel
theorem dX3_plant_1 : decode cX3_plant 1 = .ok (.iconst 0, 1) := by decide +kernel
theorem dX3_plant_2 : decode cX3_plant 2 = .ok (.bipush 63, 2) := by decide +kernel
theorem dX3_plant_4 : decode cX3_plant 4 = .ok (.invokestatic 62, 3) := by decide +kernel
theorem dX3_plant_7 : decode cX3_plant 7 = .ok (.ifCond .ne 5, 3) := by decide +kernel
theorem dX3_plant_10 : decode cX3_plant 10 = .ok (.iconst (-1), 1) := by decide +kernel
theorem dX3_plant_11 : decode cX3_plant 11 = .ok (.ireturn, 1) := by decide +kernel
theorem dX3_plant_12 : decode cX3_plant 12 = .ok (.iload_n 2, 1) := by decide +kernel
theorem dX3_plant_13 : decode cX3_plant 13 = .ok (.iconst 0, 1) := by decide +kernel
theorem dX3_plant_14 : decode cX3_plant 14 = .ok (.bipush 99, 2) := by decide +kernel
theorem dX3_plant_16 : decode cX3_plant 16 = .ok (.invokestatic 62, 3) := by decide +kernel
theorem dX3_plant_19 : decode cX3_plant 19 = .ok (.ifCond .ne 6, 3) := by decide +kernel
theorem dX3_plant_22 : decode cX3_plant 22 = .ok (.bipush (-2), 2) := by decide +kernel
theorem dX3_plant_24 : decode cX3_plant 24 = .ok (.ireturn, 1) := by decide +kernel
theorem dX3_plant_25 : decode cX3_plant 25 = .ok (.aload_n 0, 1) := by decide +kernel
theorem dX3_plant_26 : decode cX3_plant 26 = .ok (.getfield 9, 3) := by decide +kernel
theorem dX3_plant_29 : decode cX3_plant 29 = .ok (.iload_n 1, 1) := by decide +kernel
theorem dX3_plant_30 : decode cX3_plant 30 = .ok (.iaload, 1) := by decide +kernel
theorem dX3_plant_31 : decode cX3_plant 31 = .ok (.istore_n 3, 1) := by decide +kernel
theorem dX3_plant_32 : decode cX3_plant 32 = .ok (.iload_n 3, 1) := by decide +kernel
theorem dX3_plant_33 : decode cX3_plant 33 = .ok (.iload_n 2, 1) := by decide +kernel
theorem dX3_plant_34 : decode cX3_plant 34 = .ok (.if_icmp .ne 6, 3) := by decide +kernel
theorem dX3_plant_37 : decode cX3_plant 37 = .ok (.bipush (-5), 2) := by decide +kernel
theorem dX3_plant_39 : decode cX3_plant 39 = .ok (.ireturn, 1) := by decide +kernel
theorem dX3_plant_40 : decode cX3_plant 40 = .ok (.aload_n 0, 1) := by decide +kernel
theorem dX3_plant_41 : decode cX3_plant 41 = .ok (.getfield 9, 3) := by decide +kernel
theorem dX3_plant_44 : decode cX3_plant 44 = .ok (.iload_n 1, 1) := by decide +kernel
theorem dX3_plant_45 : decode cX3_plant 45 = .ok (.iload_n 2, 1) := by decide +kernel
theorem dX3_plant_46 : decode cX3_plant 46 = .ok (.iastore, 1) := by decide +kernel
theorem dX3_plant_47 : decode cX3_plant 47 = .ok (.iload_n 3, 1) := by decide +kernel
theorem dX3_plant_48 : decode cX3_plant 48 = .ok (.ireturn, 1) := by decide +kernel
theorem dX3_getWet_0 : decode cX3_getWet 0 = .ok (.iload_n 1, 1) := by decide +kernel
theorem dX3_getWet_1 : decode cX3_getWet 1 = .ok (.iconst 1, 1) := by decide +kernel
theorem dX3_getWet_2 : decode cX3_getWet 2 = .ok (.bipush 9, 2) := by decide +kernel
theorem dX3_getWet_4 : decode cX3_getWet 4 = .ok (.invokestatic 62, 3) := by decide +kernel
theorem dX3_getWet_7 : decode cX3_getWet 7 = .ok (.ifCond .ne 6, 3) := by decide +kernel
theorem dX3_getWet_10 : decode cX3_getWet 10 = .ok (.bipush (-2), 2) := by decide +kernel
theorem dX3_getWet_12 : decode cX3_getWet 12 = .ok (.ireturn, 1) := by decide +kernel
theorem dX3_getWet_13 : decode cX3_getWet 13 = .ok (.aload_n 0, 1) := by decide +kernel
theorem dX3_getWet_14 : decode cX3_getWet 14 = .ok (.bipush 9, 2) := by decide +kernel
theorem dX3_getWet_16 : decode cX3_getWet 16 = .ok (.aload_n 0, 1) := by decide +kernel
theorem dX3_getWet_17 : decode cX3_getWet 17 = .ok (.getfield 46, 3) := by decide +kernel
theorem dX3_getWet_20 : decode cX3_getWet 20 = .ok (.iload_n 1, 1) := by decide +kernel
theorem dX3_getWet_21 : decode cX3_getWet 21 = .ok (.iadd, 1) := by decide +kernel
theorem dX3_getWet_22 : decode cX3_getWet 22 = .ok (.invokestatic 66, 3) := by decide +kernel
theorem dX3_getWet_25 : decode cX3_getWet 25 = .ok (.putfield 46, 3) := by decide +kernel
theorem dX3_getWet_28 : decode cX3_getWet 28 = .ok (.aload_n 0, 1) := by decide +kernel
theorem dX3_getWet_29 : decode cX3_getWet 29 = .ok (.getfield 46, 3) := by decide +kernel
theorem dX3_getWet_32 : decode cX3_getWet 32 = .ok (.bipush 9, 2) := by decide +kernel
theorem dX3_getWet_34 : decode cX3_getWet 34 = .ok (.if_icmp .ne 8, 3) := by decide +kernel
theorem dX3_getWet_37 : decode cX3_getWet 37 = .ok (.bipush 64, 2) := by decide +kernel
theorem dX3_getWet_39 : decode cX3_getWet 39 = .ok (.goto 4, 3) := by decide +kernel
theorem dX3_getWet_42 : decode cX3_getWet 42 = .ok (.iconst 0, 1) := by decide +kernel
theorem dX3_getWet_43 : decode cX3_getWet 43 = .ok (.ireturn, 1) := by decide +kernel
theorem dX3_passDays_0 : decode cX3_passDays 0 = .ok (.iload_n 1, 1) := by decide +kernel
theorem dX3_passDays_1 : decode cX3_passDays 1 = .ok (.iconst 1, 1) := by decide +kernel
theorem dX3_passDays_2 : decode cX3_passDays 2 = .ok (.bipush 99, 2) := by decide +kernel
theorem dX3_passDays_4 : decode cX3_passDays 4 = .ok (.invokestatic 62, 3) := by decide +kernel
theorem dX3_passDays_7 : decode cX3_passDays 7 = .ok (.ifCond .ne 6, 3) := by decide +kernel
theorem dX3_passDays_10 : decode cX3_passDays 10 = .ok (.bipush (-2), 2) := by decide +kernel
theorem dX3_passDays_12 : decode cX3_passDays 12 = .ok (.ireturn, 1) := by decide +kernel
theorem dX3_passDays_13 : decode cX3_passDays 13 = .ok (.aload_n 0, 1) := by decide +kernel
theorem dX3_passDays_14 : decode cX3_passDays 14 = .ok (.getfield 50, 3) := by decide +kernel
theorem dX3_passDays_17 : decode cX3_passDays 17 = .ok (.iload_n 1, 1) := by decide +kernel
theorem dX3_passDays_18 : decode cX3_passDays 18 = .ok (.iadd, 1) := by decide +kernel
theorem dX3_passDays_19 : decode cX3_passDays 19 = .ok (.sipush 9999, 3) := by decide +kernel
theorem dX3_passDays_22 : decode cX3_passDays 22 = .ok (.if_icmp .le 6, 3) := by decide +kernel
theorem dX3_passDays_25 : decode cX3_passDays 25 = .ok (.bipush (-3), 2) := by decide +kernel
theorem dX3_passDays_27 : decode cX3_passDays 27 = .ok (.ireturn, 1) := by decide +kernel
theorem dX3_passDays_28 : decode cX3_passDays 28 = .ok (.aload_n 0, 1) := by decide +kernel
theorem dX3_passDays_29 : decode cX3_passDays 29 = .ok (.dup, 1) := by decide +kernel
theorem dX3_passDays_30 : decode cX3_passDays 30 = .ok (.getfield 50, 3) := by decide +kernel
theorem dX3_passDays_33 : decode cX3_passDays 33 = .ok (.iload_n 1, 1) := by decide +kernel
theorem dX3_passDays_34 : decode cX3_passDays 34 = .ok (.iadd, 1) := by decide +kernel
theorem dX3_passDays_35 : decode cX3_passDays 35 = .ok (.putfield 50, 3) := by decide +kernel
theorem dX3_passDays_38 : decode cX3_passDays 38 = .ok (.aload_n 0, 1) := by decide +kernel
theorem dX3_passDays_39 : decode cX3_passDays 39 = .ok (.iconst 0, 1) := by decide +kernel
theorem dX3_passDays_40 : decode cX3_passDays 40 = .ok (.aload_n 0, 1) := by decide +kernel
theorem dX3_passDays_41 : decode cX3_passDays 41 = .ok (.getfield 46, 3) := by decide +kernel
theorem dX3_passDays_44 : decode cX3_passDays 44 = .ok (.iload_n 1, 1) := by decide +kernel
theorem dX3_passDays_45 : decode cX3_passDays 45 = .ok (.isub, 1) := by decide +kernel
theorem dX3_passDays_46 : decode cX3_passDays 46 = .ok (.invokestatic 72, 3) := by decide +kernel
theorem dX3_passDays_49 : decode cX3_passDays 49 = .ok (.putfield 46, 3) := by decide +kernel
theorem dX3_passDays_52 : decode cX3_passDays 52 = .ok (.iconst 0, 1) := by decide +kernel
theorem dX3_passDays_53 : decode cX3_passDays 53 = .ok (.istore_n 2, 1) := by decide +kernel
theorem dX3_passDays_54 : decode cX3_passDays 54 = .ok (.iload_n 2, 1) := by decide +kernel
theorem dX3_passDays_55 : decode cX3_passDays 55 = .ok (.iconst 3, 1) := by decide +kernel
theorem dX3_passDays_56 : decode cX3_passDays 56 = .ok (.if_icmp .ge 21, 3) := by decide +kernel
theorem dX3_passDays_59 : decode cX3_passDays 59 = .ok (.aload_n 0, 1) := by decide +kernel
theorem dX3_passDays_60 : decode cX3_passDays 60 = .ok (.getfield 22, 3) := by decide +kernel
theorem dX3_passDays_63 : decode cX3_passDays 63 = .ok (.iload_n 2, 1) := by decide +kernel
theorem dX3_passDays_64 : decode cX3_passDays 64 = .ok (.aload_n 0, 1) := by decide +kernel
theorem dX3_passDays_65 : decode cX3_passDays 65 = .ok (.getfield 34, 3) := by decide +kernel
theorem dX3_passDays_68 : decode cX3_passDays 68 = .ok (.iconst 0, 1) := by decide +kernel
theorem dX3_passDays_69 : decode cX3_passDays 69 = .ok (.iaload, 1) := by decide +kernel
theorem dX3_passDays_70 : decode cX3_passDays 70 = .ok (.iastore, 1) := by decide +kernel
theorem dX3_passDays_71 : decode cX3_passDays 71 = .ok (.iinc 2 1, 3) := by decide +kernel
theorem dX3_passDays_74 : decode cX3_passDays 74 = .ok (.goto (-20), 3) := by decide +kernel
theorem dX3_passDays_77 : decode cX3_passDays 77 = .ok (.aload_n 0, 1) := by decide +kernel
theorem dX3_passDays_78 : decode cX3_passDays 78 = .ok (.getfield 50, 3) := by decide +kernel
theorem dX3_passDays_81 : decode cX3_passDays 81 = .ok (.ireturn, 1) := by decide +kernel
theorem dX3_changeSetting_0 : decode cX3_changeSetting 0 = .ok (.iload_n 1, 1) := by decide +kernel
theorem dX3_changeSetting_1 : decode cX3_changeSetting 1 = .ok (.iconst 0, 1) := by decide +kernel
theorem dX3_changeSetting_2 : decode cX3_changeSetting 2 = .ok (.iconst 2, 1) := by decide +kernel
theorem dX3_changeSetting_3 : decode cX3_changeSetting 3 = .ok (.invokestatic 62, 3) := by decide +kernel
theorem dX3_changeSetting_6 : decode cX3_changeSetting 6 = .ok (.ifCond .ne 5, 3) := by decide +kernel
theorem dX3_changeSetting_9 : decode cX3_changeSetting 9 = .ok (.iconst (-1), 1) := by decide +kernel
theorem dX3_changeSetting_10 : decode cX3_changeSetting 10 = .ok (.ireturn, 1) := by decide +kernel
theorem dX3_changeSetting_11 : decode cX3_changeSetting 11 = .ok (.iload_n 2, 1) := by decide +kernel
theorem dX3_changeSetting_12 : decode cX3_changeSetting 12 = .ok (.getstatic 75, 3) := by decide +kernel
theorem dX3_changeSetting_15 : decode cX3_changeSetting 15 = .ok (.iload_n 1, 1) := by decide +kernel
theorem dX3_changeSetting_16 : decode cX3_changeSetting 16 = .ok (.iaload, 1) := by decide +kernel
theorem dX3_changeSetting_17 : decode cX3_changeSetting 17 = .ok (.getstatic 78, 3) := by decide +kernel
theorem dX3_changeSetting_20 : decode cX3_changeSetting 20 = .ok (.iload_n 1, 1) := by decide +kernel
theorem dX3_changeSetting_21 : decode cX3_changeSetting 21 = .ok (.iaload, 1) := by decide +kernel
theorem dX3_changeSetting_22 : decode cX3_changeSetting 22 = .ok (.invokestatic 62, 3) := by decide +kernel
theorem dX3_changeSetting_25 : decode cX3_changeSetting 25 = .ok (.ifCond .ne 6, 3) := by decide +kernel
theorem dX3_changeSetting_28 : decode cX3_changeSetting 28 = .ok (.bipush (-2), 2) := by decide +kernel
theorem dX3_changeSetting_30 : decode cX3_changeSetting 30 = .ok (.ireturn, 1) := by decide +kernel
theorem dX3_changeSetting_31 : decode cX3_changeSetting 31 = .ok (.aload_n 0, 1) := by decide +kernel
theorem dX3_changeSetting_32 : decode cX3_changeSetting 32 = .ok (.getfield 34, 3) := by decide +kernel
theorem dX3_changeSetting_35 : decode cX3_changeSetting 35 = .ok (.iload_n 1, 1) := by decide +kernel
theorem dX3_changeSetting_36 : decode cX3_changeSetting 36 = .ok (.iaload, 1) := by decide +kernel
theorem dX3_changeSetting_37 : decode cX3_changeSetting 37 = .ok (.istore_n 3, 1) := by decide +kernel
theorem dX3_changeSetting_38 : decode cX3_changeSetting 38 = .ok (.iload_n 3, 1) := by decide +kernel
theorem dX3_changeSetting_39 : decode cX3_changeSetting 39 = .ok (.iload_n 2, 1) := by decide +kernel
theorem dX3_changeSetting_40 : decode cX3_changeSetting 40 = .ok (.if_icmp .ne 6, 3) := by decide +kernel
theorem dX3_changeSetting_43 : decode cX3_changeSetting 43 = .ok (.bipush (-5), 2) := by decide +kernel
theorem dX3_changeSetting_45 : decode cX3_changeSetting 45 = .ok (.ireturn, 1) := by decide +kernel
theorem dX3_changeSetting_46 : decode cX3_changeSetting 46 = .ok (.aload_n 0, 1) := by decide +kernel
theorem dX3_changeSetting_47 : decode cX3_changeSetting 47 = .ok (.getfield 34, 3) := by decide +kernel
theorem dX3_changeSetting_50 : decode cX3_changeSetting 50 = .ok (.iload_n 1, 1) := by decide +kernel
theorem dX3_changeSetting_51 : decode cX3_changeSetting 51 = .ok (.iload_n 2, 1) := by decide +kernel
theorem dX3_changeSetting_52 : decode cX3_changeSetting 52 = .ok (.iastore, 1) := by decide +kernel
theorem dX3_changeSetting_53 : decode cX3_changeSetting 53 = .ok (.iload_n 3, 1) := by decide +kernel
theorem dX3_changeSetting_54 : decode cX3_changeSetting 54 = .ok (.ireturn, 1) := by decide +kernel
theorem dX3_sendCrew_0 : decode cX3_sendCrew 0 = .ok (.iload_n 1, 1) := by decide +kernel
theorem dX3_sendCrew_1 : decode cX3_sendCrew 1 = .ok (.iconst 0, 1) := by decide +kernel
theorem dX3_sendCrew_2 : decode cX3_sendCrew 2 = .ok (.iconst 2, 1) := by decide +kernel
theorem dX3_sendCrew_3 : decode cX3_sendCrew 3 = .ok (.invokestatic 62, 3) := by decide +kernel
theorem dX3_sendCrew_6 : decode cX3_sendCrew 6 = .ok (.ifCond .eq 13, 3) := by decide +kernel
theorem dX3_sendCrew_9 : decode cX3_sendCrew 9 = .ok (.iload_n 2, 1) := by decide +kernel
theorem dX3_sendCrew_10 : decode cX3_sendCrew 10 = .ok (.iconst 0, 1) := by decide +kernel
theorem dX3_sendCrew_11 : decode cX3_sendCrew 11 = .ok (.bipush 63, 2) := by decide +kernel
theorem dX3_sendCrew_13 : decode cX3_sendCrew 13 = .ok (.invokestatic 62, 3) := by decide +kernel
theorem dX3_sendCrew_16 : decode cX3_sendCrew 16 = .ok (.ifCond .ne 5, 3) := by decide +kernel
theorem dX3_sendCrew_19 : decode cX3_sendCrew 19 = .ok (.iconst (-1), 1) := by decide +kernel
theorem dX3_sendCrew_20 : decode cX3_sendCrew 20 = .ok (.ireturn, 1) := by decide +kernel
theorem dX3_sendCrew_21 : decode cX3_sendCrew 21 = .ok (.aload_n 0, 1) := by decide +kernel
theorem dX3_sendCrew_22 : decode cX3_sendCrew 22 = .ok (.iload_n 1, 1) := by decide +kernel
theorem dX3_sendCrew_23 : decode cX3_sendCrew 23 = .ok (.iload_n 2, 1) := by decide +kernel
theorem dX3_sendCrew_24 : decode cX3_sendCrew 24 = .ok (.invokevirtual 81, 3) := by decide +kernel
theorem dX3_sendCrew_27 : decode cX3_sendCrew 27 = .ok (.istore_n 3, 1) := by decide +kernel
theorem dX3_sendCrew_28 : decode cX3_sendCrew 28 = .ok (.iload_n 3, 1) := by decide +kernel
theorem dX3_sendCrew_29 : decode cX3_sendCrew 29 = .ok (.aload_n 0, 1) := by decide +kernel
theorem dX3_sendCrew_30 : decode cX3_sendCrew 30 = .ok (.getfield 22, 3) := by decide +kernel
theorem dX3_sendCrew_33 : decode cX3_sendCrew 33 = .ok (.iload_n 1, 1) := by decide +kernel
theorem dX3_sendCrew_34 : decode cX3_sendCrew 34 = .ok (.iaload, 1) := by decide +kernel
theorem dX3_sendCrew_35 : decode cX3_sendCrew 35 = .ok (.if_icmp .le 6, 3) := by decide +kernel
theorem dX3_sendCrew_38 : decode cX3_sendCrew 38 = .ok (.bipush (-4), 2) := by decide +kernel
theorem dX3_sendCrew_40 : decode cX3_sendCrew 40 = .ok (.ireturn, 1) := by decide +kernel
theorem dX3_sendCrew_41 : decode cX3_sendCrew 41 = .ok (.aload_n 0, 1) := by decide +kernel
theorem dX3_sendCrew_42 : decode cX3_sendCrew 42 = .ok (.getfield 19, 3) := by decide +kernel
theorem dX3_sendCrew_45 : decode cX3_sendCrew 45 = .ok (.iload_n 1, 1) := by decide +kernel
theorem dX3_sendCrew_46 : decode cX3_sendCrew 46 = .ok (.iaload, 1) := by decide +kernel
theorem dX3_sendCrew_47 : decode cX3_sendCrew 47 = .ok (.iload_n 2, 1) := by decide +kernel
theorem dX3_sendCrew_48 : decode cX3_sendCrew 48 = .ok (.if_icmp .ne 6, 3) := by decide +kernel
theorem dX3_sendCrew_51 : decode cX3_sendCrew 51 = .ok (.bipush (-5), 2) := by decide +kernel
theorem dX3_sendCrew_53 : decode cX3_sendCrew 53 = .ok (.ireturn, 1) := by decide +kernel
theorem dX3_sendCrew_54 : decode cX3_sendCrew 54 = .ok (.aload_n 0, 1) := by decide +kernel
theorem dX3_sendCrew_55 : decode cX3_sendCrew 55 = .ok (.getfield 19, 3) := by decide +kernel
theorem dX3_sendCrew_58 : decode cX3_sendCrew 58 = .ok (.iload_n 1, 1) := by decide +kernel
theorem dX3_sendCrew_59 : decode cX3_sendCrew 59 = .ok (.iload_n 2, 1) := by decide +kernel
theorem dX3_sendCrew_60 : decode cX3_sendCrew 60 = .ok (.iastore, 1) := by decide +kernel
theorem dX3_sendCrew_61 : decode cX3_sendCrew 61 = .ok (.aload_n 0, 1) := by decide +kernel
theorem dX3_sendCrew_62 : decode cX3_sendCrew 62 = .ok (.getfield 22, 3) := by decide +kernel
theorem dX3_sendCrew_65 : decode cX3_sendCrew 65 = .ok (.iload_n 1, 1) := by decide +kernel
theorem dX3_sendCrew_66 : decode cX3_sendCrew 66 = .ok (.dup2, 1) := by decide +kernel
theorem dX3_sendCrew_67 : decode cX3_sendCrew 67 = .ok (.iaload, 1) := by decide +kernel
theorem dX3_sendCrew_68 : decode cX3_sendCrew 68 = .ok (.iload_n 3, 1) := by decide +kernel
theorem dX3_sendCrew_69 : decode cX3_sendCrew 69 = .ok (.isub, 1) := by decide +kernel
theorem dX3_sendCrew_70 : decode cX3_sendCrew 70 = .ok (.iastore, 1) := by decide +kernel
theorem dX3_sendCrew_71 : decode cX3_sendCrew 71 = .ok (.aload_n 0, 1) := by decide +kernel
theorem dX3_sendCrew_72 : decode cX3_sendCrew 72 = .ok (.getfield 22, 3) := by decide +kernel
theorem dX3_sendCrew_75 : decode cX3_sendCrew 75 = .ok (.iload_n 1, 1) := by decide +kernel
theorem dX3_sendCrew_76 : decode cX3_sendCrew 76 = .ok (.iaload, 1) := by decide +kernel
theorem dX3_sendCrew_77 : decode cX3_sendCrew 77 = .ok (.ireturn, 1) := by decide +kernel
theorem dX3_fellHere_0 : decode cX3_fellHere 0 = .ok (.iload_n 1, 1) := by decide +kernel
theorem dX3_fellHere_1 : decode cX3_fellHere 1 = .ok (.iconst 0, 1) := by decide +kernel
theorem dX3_fellHere_2 : decode cX3_fellHere 2 = .ok (.iconst 2, 1) := by decide +kernel
theorem dX3_fellHere_3 : decode cX3_fellHere 3 = .ok (.invokestatic 62, 3) := by decide +kernel
theorem dX3_fellHere_6 : decode cX3_fellHere 6 = .ok (.ifCond .ne 5, 3) := by decide +kernel
theorem dX3_fellHere_9 : decode cX3_fellHere 9 = .ok (.iconst (-1), 1) := by decide +kernel
theorem dX3_fellHere_10 : decode cX3_fellHere 10 = .ok (.ireturn, 1) := by decide +kernel
theorem dX3_fellHere_11 : decode cX3_fellHere 11 = .ok (.aload_n 0, 1) := by decide +kernel
theorem dX3_fellHere_12 : decode cX3_fellHere 12 = .ok (.getfield 34, 3) := by decide +kernel
theorem dX3_fellHere_15 : decode cX3_fellHere 15 = .ok (.iconst 2, 1) := by decide +kernel
theorem dX3_fellHere_16 : decode cX3_fellHere 16 = .ok (.iaload, 1) := by decide +kernel
theorem dX3_fellHere_17 : decode cX3_fellHere 17 = .ok (.aload_n 0, 1) := by decide +kernel
theorem dX3_fellHere_18 : decode cX3_fellHere 18 = .ok (.getfield 22, 3) := by decide +kernel
theorem dX3_fellHere_21 : decode cX3_fellHere 21 = .ok (.iload_n 1, 1) := by decide +kernel
theorem dX3_fellHere_22 : decode cX3_fellHere 22 = .ok (.iaload, 1) := by decide +kernel
theorem dX3_fellHere_23 : decode cX3_fellHere 23 = .ok (.if_icmp .le 6, 3) := by decide +kernel
theorem dX3_fellHere_26 : decode cX3_fellHere 26 = .ok (.bipush (-4), 2) := by decide +kernel
theorem dX3_fellHere_28 : decode cX3_fellHere 28 = .ok (.ireturn, 1) := by decide +kernel
theorem dX3_fellHere_29 : decode cX3_fellHere 29 = .ok (.aload_n 0, 1) := by decide +kernel
theorem dX3_fellHere_30 : decode cX3_fellHere 30 = .ok (.getfield 19, 3) := by decide +kernel
theorem dX3_fellHere_33 : decode cX3_fellHere 33 = .ok (.iload_n 1, 1) := by decide +kernel
theorem dX3_fellHere_34 : decode cX3_fellHere 34 = .ok (.iaload, 1) := by decide +kernel
theorem dX3_fellHere_35 : decode cX3_fellHere 35 = .ok (.istore_n 2, 1) := by decide +kernel
theorem dX3_fellHere_36 : decode cX3_fellHere 36 = .ok (.aload_n 0, 1) := by decide +kernel
theorem dX3_fellHere_37 : decode cX3_fellHere 37 = .ok (.getfield 9, 3) := by decide +kernel
theorem dX3_fellHere_40 : decode cX3_fellHere 40 = .ok (.iload_n 2, 1) := by decide +kernel
theorem dX3_fellHere_41 : decode cX3_fellHere 41 = .ok (.iaload, 1) := by decide +kernel
theorem dX3_fellHere_42 : decode cX3_fellHere 42 = .ok (.istore_n 3, 1) := by decide +kernel
theorem dX3_fellHere_43 : decode cX3_fellHere 43 = .ok (.iload_n 3, 1) := by decide +kernel
theorem dX3_fellHere_44 : decode cX3_fellHere 44 = .ok (.ifCond .ne 6, 3) := by decide +kernel
theorem dX3_fellHere_47 : decode cX3_fellHere 47 = .ok (.bipush (-5), 2) := by decide +kernel
theorem dX3_fellHere_49 : decode cX3_fellHere 49 = .ok (.ireturn, 1) := by decide +kernel
theorem dX3_fellHere_50 : decode cX3_fellHere 50 = .ok (.aload_n 0, 1) := by decide +kernel
theorem dX3_fellHere_51 : decode cX3_fellHere 51 = .ok (.getfield 9, 3) := by decide +kernel
theorem dX3_fellHere_54 : decode cX3_fellHere 54 = .ok (.iload_n 2, 1) := by decide +kernel
theorem dX3_fellHere_55 : decode cX3_fellHere 55 = .ok (.iconst 0, 1) := by decide +kernel
theorem dX3_fellHere_56 : decode cX3_fellHere 56 = .ok (.iastore, 1) := by decide +kernel
theorem dX3_fellHere_57 : decode cX3_fellHere 57 = .ok (.aload_n 0, 1) := by decide +kernel
theorem dX3_fellHere_58 : decode cX3_fellHere 58 = .ok (.getfield 15, 3) := by decide +kernel
theorem dX3_fellHere_61 : decode cX3_fellHere 61 = .ok (.iload_n 2, 1) := by decide +kernel
theorem dX3_fellHere_62 : decode cX3_fellHere 62 = .ok (.iconst 1, 1) := by decide +kernel
theorem dX3_fellHere_63 : decode cX3_fellHere 63 = .ok (.bastore, 1) := by decide +kernel
theorem dX3_fellHere_64 : decode cX3_fellHere 64 = .ok (.aload_n 0, 1) := by decide +kernel
theorem dX3_fellHere_65 : decode cX3_fellHere 65 = .ok (.getfield 22, 3) := by decide +kernel
theorem dX3_fellHere_68 : decode cX3_fellHere 68 = .ok (.iload_n 1, 1) := by decide +kernel
theorem dX3_fellHere_69 : decode cX3_fellHere 69 = .ok (.dup2, 1) := by decide +kernel
theorem dX3_fellHere_70 : decode cX3_fellHere 70 = .ok (.iaload, 1) := by decide +kernel
theorem dX3_fellHere_71 : decode cX3_fellHere 71 = .ok (.aload_n 0, 1) := by decide +kernel
theorem dX3_fellHere_72 : decode cX3_fellHere 72 = .ok (.getfield 34, 3) := by decide +kernel
theorem dX3_fellHere_75 : decode cX3_fellHere 75 = .ok (.iconst 2, 1) := by decide +kernel
theorem dX3_fellHere_76 : decode cX3_fellHere 76 = .ok (.iaload, 1) := by decide +kernel
theorem dX3_fellHere_77 : decode cX3_fellHere 77 = .ok (.isub, 1) := by decide +kernel
theorem dX3_fellHere_78 : decode cX3_fellHere 78 = .ok (.iastore, 1) := by decide +kernel
theorem dX3_fellHere_79 : decode cX3_fellHere 79 = .ok (.aload_n 0, 1) := by decide +kernel
theorem dX3_fellHere_80 : decode cX3_fellHere 80 = .ok (.getfield 25, 3) := by decide +kernel
theorem dX3_fellHere_83 : decode cX3_fellHere 83 = .ok (.iload_n 1, 1) := by decide +kernel
theorem dX3_fellHere_84 : decode cX3_fellHere 84 = .ok (.dup2, 1) := by decide +kernel
theorem dX3_fellHere_85 : decode cX3_fellHere 85 = .ok (.iaload, 1) := by decide +kernel
theorem dX3_fellHere_86 : decode cX3_fellHere 86 = .ok (.iload_n 3, 1) := by decide +kernel
theorem dX3_fellHere_87 : decode cX3_fellHere 87 = .ok (.iadd, 1) := by decide +kernel
theorem dX3_fellHere_88 : decode cX3_fellHere 88 = .ok (.iastore, 1) := by decide +kernel
theorem dX3_fellHere_89 : decode cX3_fellHere 89 = .ok (.aload_n 0, 1) := by decide +kernel
theorem dX3_fellHere_90 : decode cX3_fellHere 90 = .ok (.getfield 28, 3) := by decide +kernel
theorem dX3_fellHere_93 : decode cX3_fellHere 93 = .ok (.iload_n 1, 1) := by decide +kernel
theorem dX3_fellHere_94 : decode cX3_fellHere 94 = .ok (.dup2, 1) := by decide +kernel
theorem dX3_fellHere_95 : decode cX3_fellHere 95 = .ok (.iaload, 1) := by decide +kernel
theorem dX3_fellHere_96 : decode cX3_fellHere 96 = .ok (.iconst 1, 1) := by decide +kernel
theorem dX3_fellHere_97 : decode cX3_fellHere 97 = .ok (.iadd, 1) := by decide +kernel
theorem dX3_fellHere_98 : decode cX3_fellHere 98 = .ok (.iastore, 1) := by decide +kernel
theorem dX3_fellHere_99 : decode cX3_fellHere 99 = .ok (.iload_n 3, 1) := by decide +kernel
theorem dX3_fellHere_100 : decode cX3_fellHere 100 = .ok (.ireturn, 1) := by decide +kernel
theorem dX3_tellColumn_0 : decode cX3_tellColumn 0 = .ok (.iload_n 2, 1) := by decide +kernel
theorem dX3_tellColumn_1 : decode cX3_tellColumn 1 = .ok (.iconst 0, 1) := by decide +kernel
theorem dX3_tellColumn_2 : decode cX3_tellColumn 2 = .ok (.bipush 7, 2) := by decide +kernel
theorem dX3_tellColumn_4 : decode cX3_tellColumn 4 = .ok (.invokestatic 62, 3) := by decide +kernel
theorem dX3_tellColumn_7 : decode cX3_tellColumn 7 = .ok (.ifCond .ne 5, 3) := by decide +kernel
theorem dX3_tellColumn_10 : decode cX3_tellColumn 10 = .ok (.iconst (-1), 1) := by decide +kernel
theorem dX3_tellColumn_11 : decode cX3_tellColumn 11 = .ok (.ireturn, 1) := by decide +kernel
theorem dX3_tellColumn_12 : decode cX3_tellColumn 12 = .ok (.iload_n 3, 1) := by decide +kernel
theorem dX3_tellColumn_13 : decode cX3_tellColumn 13 = .ok (.iconst 0, 1) := by decide +kernel
theorem dX3_tellColumn_14 : decode cX3_tellColumn 14 = .ok (.bipush 7, 2) := by decide +kernel
theorem dX3_tellColumn_16 : decode cX3_tellColumn 16 = .ok (.invokestatic 62, 3) := by decide +kernel
theorem dX3_tellColumn_19 : decode cX3_tellColumn 19 = .ok (.ifCond .ne 6, 3) := by decide +kernel
theorem dX3_tellColumn_22 : decode cX3_tellColumn 22 = .ok (.bipush (-2), 2) := by decide +kernel
theorem dX3_tellColumn_24 : decode cX3_tellColumn 24 = .ok (.ireturn, 1) := by decide +kernel
theorem dX3_tellColumn_25 : decode cX3_tellColumn 25 = .ok (.aload_n 1, 1) := by decide +kernel
theorem dX3_tellColumn_26 : decode cX3_tellColumn 26 = .ok (.iload_n 2, 1) := by decide +kernel
theorem dX3_tellColumn_27 : decode cX3_tellColumn 27 = .ok (.bipush 8, 2) := by decide +kernel
theorem dX3_tellColumn_29 : decode cX3_tellColumn 29 = .ok (.imul, 1) := by decide +kernel
theorem dX3_tellColumn_30 : decode cX3_tellColumn 30 = .ok (.iload_n 3, 1) := by decide +kernel
theorem dX3_tellColumn_31 : decode cX3_tellColumn 31 = .ok (.iadd, 1) := by decide +kernel
theorem dX3_tellColumn_32 : decode cX3_tellColumn 32 = .ok (.invokevirtual 84, 3) := by decide +kernel
theorem dX3_tellColumn_35 : decode cX3_tellColumn 35 = .ok (.istore 4, 2) := by decide +kernel
theorem dX3_tellColumn_37 : decode cX3_tellColumn 37 = .ok (.aload_n 0, 1) := by decide +kernel
theorem dX3_tellColumn_38 : decode cX3_tellColumn 38 = .ok (.getfield 31, 3) := by decide +kernel
theorem dX3_tellColumn_41 : decode cX3_tellColumn 41 = .ok (.iload_n 2, 1) := by decide +kernel
theorem dX3_tellColumn_42 : decode cX3_tellColumn 42 = .ok (.iaload, 1) := by decide +kernel
theorem dX3_tellColumn_43 : decode cX3_tellColumn 43 = .ok (.bipush (-5), 2) := by decide +kernel
theorem dX3_tellColumn_45 : decode cX3_tellColumn 45 = .ok (.if_icmp .ne 8, 3) := by decide +kernel
theorem dX3_tellColumn_48 : decode cX3_tellColumn 48 = .ok (.iload 4, 2) := by decide +kernel
theorem dX3_tellColumn_50 : decode cX3_tellColumn 50 = .ok (.ifCond .ne 6, 3) := by decide +kernel
theorem dX3_tellColumn_53 : decode cX3_tellColumn 53 = .ok (.bipush (-4), 2) := by decide +kernel
theorem dX3_tellColumn_55 : decode cX3_tellColumn 55 = .ok (.ireturn, 1) := by decide +kernel
theorem dX3_tellColumn_56 : decode cX3_tellColumn 56 = .ok (.aload_n 0, 1) := by decide +kernel
theorem dX3_tellColumn_57 : decode cX3_tellColumn 57 = .ok (.getfield 31, 3) := by decide +kernel
theorem dX3_tellColumn_60 : decode cX3_tellColumn 60 = .ok (.iload_n 2, 1) := by decide +kernel
theorem dX3_tellColumn_61 : decode cX3_tellColumn 61 = .ok (.iload_n 3, 1) := by decide +kernel
theorem dX3_tellColumn_62 : decode cX3_tellColumn 62 = .ok (.iastore, 1) := by decide +kernel
theorem dX3_tellColumn_63 : decode cX3_tellColumn 63 = .ok (.iload 4, 2) := by decide +kernel
theorem dX3_tellColumn_65 : decode cX3_tellColumn 65 = .ok (.ireturn, 1) := by decide +kernel
theorem dX3_untellColumn_0 : decode cX3_untellColumn 0 = .ok (.iload_n 2, 1) := by decide +kernel
theorem dX3_untellColumn_1 : decode cX3_untellColumn 1 = .ok (.iconst 0, 1) := by decide +kernel
theorem dX3_untellColumn_2 : decode cX3_untellColumn 2 = .ok (.bipush 7, 2) := by decide +kernel
theorem dX3_untellColumn_4 : decode cX3_untellColumn 4 = .ok (.invokestatic 62, 3) := by decide +kernel
theorem dX3_untellColumn_7 : decode cX3_untellColumn 7 = .ok (.ifCond .ne 5, 3) := by decide +kernel
theorem dX3_untellColumn_10 : decode cX3_untellColumn 10 = .ok (.iconst (-1), 1) := by decide +kernel
theorem dX3_untellColumn_11 : decode cX3_untellColumn 11 = .ok (.ireturn, 1) := by decide +kernel
theorem dX3_untellColumn_12 : decode cX3_untellColumn 12 = .ok (.aload_n 0, 1) := by decide +kernel
theorem dX3_untellColumn_13 : decode cX3_untellColumn 13 = .ok (.getfield 31, 3) := by decide +kernel
theorem dX3_untellColumn_16 : decode cX3_untellColumn 16 = .ok (.iload_n 2, 1) := by decide +kernel
theorem dX3_untellColumn_17 : decode cX3_untellColumn 17 = .ok (.iaload, 1) := by decide +kernel
theorem dX3_untellColumn_18 : decode cX3_untellColumn 18 = .ok (.bipush (-5), 2) := by decide +kernel
theorem dX3_untellColumn_20 : decode cX3_untellColumn 20 = .ok (.if_icmp .ne 6, 3) := by decide +kernel
theorem dX3_untellColumn_23 : decode cX3_untellColumn 23 = .ok (.bipush (-5), 2) := by decide +kernel
theorem dX3_untellColumn_25 : decode cX3_untellColumn 25 = .ok (.ireturn, 1) := by decide +kernel
theorem dX3_untellColumn_26 : decode cX3_untellColumn 26 = .ok (.aload_n 0, 1) := by decide +kernel
theorem dX3_untellColumn_27 : decode cX3_untellColumn 27 = .ok (.getfield 31, 3) := by decide +kernel
theorem dX3_untellColumn_30 : decode cX3_untellColumn 30 = .ok (.iload_n 2, 1) := by decide +kernel
theorem dX3_untellColumn_31 : decode cX3_untellColumn 31 = .ok (.bipush (-5), 2) := by decide +kernel
theorem dX3_untellColumn_33 : decode cX3_untellColumn 33 = .ok (.iastore, 1) := by decide +kernel
theorem dX3_untellColumn_34 : decode cX3_untellColumn 34 = .ok (.aload_n 1, 1) := by decide +kernel
theorem dX3_untellColumn_35 : decode cX3_untellColumn 35 = .ok (.aload_n 0, 1) := by decide +kernel
theorem dX3_untellColumn_36 : decode cX3_untellColumn 36 = .ok (.getfield 31, 3) := by decide +kernel
theorem dX3_untellColumn_39 : decode cX3_untellColumn 39 = .ok (.invokevirtual 90, 3) := by decide +kernel
theorem dX3_untellColumn_42 : decode cX3_untellColumn 42 = .ok (.aload_n 1, 1) := by decide +kernel
theorem dX3_untellColumn_43 : decode cX3_untellColumn 43 = .ok (.getfield 94, 3) := by decide +kernel
theorem dX3_untellColumn_46 : decode cX3_untellColumn 46 = .ok (.ireturn, 1) := by decide +kernel
theorem dX3_takeStorm_0 : decode cX3_takeStorm 0 = .ok (.aload_n 1, 1) := by decide +kernel
theorem dX3_takeStorm_1 : decode cX3_takeStorm 1 = .ok (.getfield 94, 3) := by decide +kernel
theorem dX3_takeStorm_4 : decode cX3_takeStorm 4 = .ok (.iconst 1, 1) := by decide +kernel
theorem dX3_takeStorm_5 : decode cX3_takeStorm 5 = .ok (.if_icmp .le 6, 3) := by decide +kernel
theorem dX3_takeStorm_8 : decode cX3_takeStorm 8 = .ok (.bipush (-4), 2) := by decide +kernel
theorem dX3_takeStorm_10 : decode cX3_takeStorm 10 = .ok (.ireturn, 1) := by decide +kernel
theorem dX3_takeStorm_11 : decode cX3_takeStorm 11 = .ok (.aload_n 0, 1) := by decide +kernel
theorem dX3_takeStorm_12 : decode cX3_takeStorm 12 = .ok (.dup, 1) := by decide +kernel
theorem dX3_takeStorm_13 : decode cX3_takeStorm 13 = .ok (.getfield 56, 3) := by decide +kernel
theorem dX3_takeStorm_16 : decode cX3_takeStorm 16 = .ok (.aload_n 0, 1) := by decide +kernel
theorem dX3_takeStorm_17 : decode cX3_takeStorm 17 = .ok (.aload_n 1, 1) := by decide +kernel
theorem dX3_takeStorm_18 : decode cX3_takeStorm 18 = .ok (.aload_n 0, 1) := by decide +kernel
theorem dX3_takeStorm_19 : decode cX3_takeStorm 19 = .ok (.aload_n 1, 1) := by decide +kernel
theorem dX3_takeStorm_20 : decode cX3_takeStorm 20 = .ok (.invokevirtual 97, 3) := by decide +kernel
theorem dX3_takeStorm_23 : decode cX3_takeStorm 23 = .ok (.invokevirtual 101, 3) := by decide +kernel
theorem dX3_takeStorm_26 : decode cX3_takeStorm 26 = .ok (.iadd, 1) := by decide +kernel
theorem dX3_takeStorm_27 : decode cX3_takeStorm 27 = .ok (.putfield 56, 3) := by decide +kernel
theorem dX3_takeStorm_30 : decode cX3_takeStorm 30 = .ok (.aload_n 0, 1) := by decide +kernel
theorem dX3_takeStorm_31 : decode cX3_takeStorm 31 = .ok (.aload_n 1, 1) := by decide +kernel
theorem dX3_takeStorm_32 : decode cX3_takeStorm 32 = .ok (.invokevirtual 105, 3) := by decide +kernel
theorem dX3_takeStorm_35 : decode cX3_takeStorm 35 = .ok (.istore_n 2, 1) := by decide +kernel
theorem dX3_takeStorm_36 : decode cX3_takeStorm 36 = .ok (.aload_n 0, 1) := by decide +kernel
theorem dX3_takeStorm_37 : decode cX3_takeStorm 37 = .ok (.dup, 1) := by decide +kernel
theorem dX3_takeStorm_38 : decode cX3_takeStorm 38 = .ok (.getfield 53, 3) := by decide +kernel
theorem dX3_takeStorm_41 : decode cX3_takeStorm 41 = .ok (.iload_n 2, 1) := by decide +kernel
theorem dX3_takeStorm_42 : decode cX3_takeStorm 42 = .ok (.iadd, 1) := by decide +kernel
theorem dX3_takeStorm_43 : decode cX3_takeStorm 43 = .ok (.putfield 53, 3) := by decide +kernel
theorem dX3_takeStorm_46 : decode cX3_takeStorm 46 = .ok (.aload_n 0, 1) := by decide +kernel
theorem dX3_takeStorm_47 : decode cX3_takeStorm 47 = .ok (.dup, 1) := by decide +kernel
theorem dX3_takeStorm_48 : decode cX3_takeStorm 48 = .ok (.getfield 59, 3) := by decide +kernel
theorem dX3_takeStorm_51 : decode cX3_takeStorm 51 = .ok (.iconst 1, 1) := by decide +kernel
theorem dX3_takeStorm_52 : decode cX3_takeStorm 52 = .ok (.iadd, 1) := by decide +kernel
theorem dX3_takeStorm_53 : decode cX3_takeStorm 53 = .ok (.putfield 59, 3) := by decide +kernel
theorem dX3_takeStorm_56 : decode cX3_takeStorm 56 = .ok (.iconst 0, 1) := by decide +kernel
theorem dX3_takeStorm_57 : decode cX3_takeStorm 57 = .ok (.istore_n 3, 1) := by decide +kernel
theorem dX3_takeStorm_58 : decode cX3_takeStorm 58 = .ok (.iload_n 3, 1) := by decide +kernel
theorem dX3_takeStorm_59 : decode cX3_takeStorm 59 = .ok (.bipush 64, 2) := by decide +kernel
theorem dX3_takeStorm_61 : decode cX3_takeStorm 61 = .ok (.if_icmp .ge 16, 3) := by decide +kernel
theorem dX3_takeStorm_64 : decode cX3_takeStorm 64 = .ok (.aload_n 0, 1) := by decide +kernel
theorem dX3_takeStorm_65 : decode cX3_takeStorm 65 = .ok (.getfield 15, 3) := by decide +kernel
theorem dX3_takeStorm_68 : decode cX3_takeStorm 68 = .ok (.iload_n 3, 1) := by decide +kernel
theorem dX3_takeStorm_69 : decode cX3_takeStorm 69 = .ok (.iconst 0, 1) := by decide +kernel
theorem dX3_takeStorm_70 : decode cX3_takeStorm 70 = .ok (.bastore, 1) := by decide +kernel
theorem dX3_takeStorm_71 : decode cX3_takeStorm 71 = .ok (.iinc 3 1, 3) := by decide +kernel
theorem dX3_takeStorm_74 : decode cX3_takeStorm 74 = .ok (.goto (-16), 3) := by decide +kernel
theorem dX3_takeStorm_77 : decode cX3_takeStorm 77 = .ok (.iconst 0, 1) := by decide +kernel
theorem dX3_takeStorm_78 : decode cX3_takeStorm 78 = .ok (.istore_n 3, 1) := by decide +kernel
theorem dX3_takeStorm_79 : decode cX3_takeStorm 79 = .ok (.iload_n 3, 1) := by decide +kernel
theorem dX3_takeStorm_80 : decode cX3_takeStorm 80 = .ok (.bipush 8, 2) := by decide +kernel
theorem dX3_takeStorm_82 : decode cX3_takeStorm 82 = .ok (.if_icmp .ge 17, 3) := by decide +kernel
theorem dX3_takeStorm_85 : decode cX3_takeStorm 85 = .ok (.aload_n 0, 1) := by decide +kernel
theorem dX3_takeStorm_86 : decode cX3_takeStorm 86 = .ok (.getfield 31, 3) := by decide +kernel
theorem dX3_takeStorm_89 : decode cX3_takeStorm 89 = .ok (.iload_n 3, 1) := by decide +kernel
theorem dX3_takeStorm_90 : decode cX3_takeStorm 90 = .ok (.bipush (-5), 2) := by decide +kernel
theorem dX3_takeStorm_92 : decode cX3_takeStorm 92 = .ok (.iastore, 1) := by decide +kernel
theorem dX3_takeStorm_93 : decode cX3_takeStorm 93 = .ok (.iinc 3 1, 3) := by decide +kernel
theorem dX3_takeStorm_96 : decode cX3_takeStorm 96 = .ok (.goto (-17), 3) := by decide +kernel
theorem dX3_takeStorm_99 : decode cX3_takeStorm 99 = .ok (.iload_n 2, 1) := by decide +kernel
theorem dX3_takeStorm_100 : decode cX3_takeStorm 100 = .ok (.ireturn, 1) := by decide +kernel
theorem dX3_felledInVain_0 : decode cX3_felledInVain 0 = .ok (.iconst 0, 1) := by decide +kernel
theorem dX3_felledInVain_1 : decode cX3_felledInVain 1 = .ok (.istore_n 2, 1) := by decide +kernel
theorem dX3_felledInVain_2 : decode cX3_felledInVain 2 = .ok (.iconst 0, 1) := by decide +kernel
theorem dX3_felledInVain_3 : decode cX3_felledInVain 3 = .ok (.istore_n 3, 1) := by decide +kernel
theorem dX3_felledInVain_4 : decode cX3_felledInVain 4 = .ok (.iload_n 3, 1) := by decide +kernel
theorem dX3_felledInVain_5 : decode cX3_felledInVain 5 = .ok (.bipush 64, 2) := by decide +kernel
theorem dX3_felledInVain_7 : decode cX3_felledInVain 7 = .ok (.if_icmp .ge 30, 3) := by decide +kernel
theorem dX3_felledInVain_10 : decode cX3_felledInVain 10 = .ok (.aload_n 0, 1) := by decide +kernel
theorem dX3_felledInVain_11 : decode cX3_felledInVain 11 = .ok (.getfield 15, 3) := by decide +kernel
theorem dX3_felledInVain_14 : decode cX3_felledInVain 14 = .ok (.iload_n 3, 1) := by decide +kernel
theorem dX3_felledInVain_15 : decode cX3_felledInVain 15 = .ok (.baload, 1) := by decide +kernel
theorem dX3_felledInVain_16 : decode cX3_felledInVain 16 = .ok (.ifCond .eq 15, 3) := by decide +kernel
theorem dX3_felledInVain_19 : decode cX3_felledInVain 19 = .ok (.aload_n 0, 1) := by decide +kernel
theorem dX3_felledInVain_20 : decode cX3_felledInVain 20 = .ok (.aload_n 1, 1) := by decide +kernel
theorem dX3_felledInVain_21 : decode cX3_felledInVain 21 = .ok (.iload_n 3, 1) := by decide +kernel
theorem dX3_felledInVain_22 : decode cX3_felledInVain 22 = .ok (.invokevirtual 108, 3) := by decide +kernel
theorem dX3_felledInVain_25 : decode cX3_felledInVain 25 = .ok (.ifCond .ne 6, 3) := by decide +kernel
theorem dX3_felledInVain_28 : decode cX3_felledInVain 28 = .ok (.iinc 2 1, 3) := by decide +kernel
theorem dX3_felledInVain_31 : decode cX3_felledInVain 31 = .ok (.iinc 3 1, 3) := by decide +kernel
theorem dX3_felledInVain_34 : decode cX3_felledInVain 34 = .ok (.goto (-30), 3) := by decide +kernel
theorem dX3_felledInVain_37 : decode cX3_felledInVain 37 = .ok (.iload_n 2, 1) := by decide +kernel
theorem dX3_felledInVain_38 : decode cX3_felledInVain 38 = .ok (.ireturn, 1) := by decide +kernel
theorem dX3_regret_0 : decode cX3_regret 0 = .ok (.iconst 0, 1) := by decide +kernel
theorem dX3_regret_1 : decode cX3_regret 1 = .ok (.istore_n 3, 1) := by decide +kernel
theorem dX3_regret_2 : decode cX3_regret 2 = .ok (.iload_n 2, 1) := by decide +kernel
theorem dX3_regret_3 : decode cX3_regret 3 = .ok (.istore 4, 2) := by decide +kernel
theorem dX3_regret_5 : decode cX3_regret 5 = .ok (.bipush 99, 2) := by decide +kernel
theorem dX3_regret_7 : decode cX3_regret 7 = .ok (.istore 5, 2) := by decide +kernel
theorem dX3_regret_9 : decode cX3_regret 9 = .ok (.iload 5, 2) := by decide +kernel
theorem dX3_regret_11 : decode cX3_regret 11 = .ok (.ifCond .le 60, 3) := by decide +kernel
theorem dX3_regret_14 : decode cX3_regret 14 = .ok (.iconst 0, 1) := by decide +kernel
theorem dX3_regret_15 : decode cX3_regret 15 = .ok (.istore 6, 2) := by decide +kernel
theorem dX3_regret_17 : decode cX3_regret 17 = .ok (.iload 6, 2) := by decide +kernel
theorem dX3_regret_19 : decode cX3_regret 19 = .ok (.bipush 64, 2) := by decide +kernel
theorem dX3_regret_21 : decode cX3_regret 21 = .ok (.if_icmp .ge 44, 3) := by decide +kernel
theorem dX3_regret_24 : decode cX3_regret 24 = .ok (.iload 4, 2) := by decide +kernel
theorem dX3_regret_26 : decode cX3_regret 26 = .ok (.ifCond .le 33, 3) := by decide +kernel
theorem dX3_regret_29 : decode cX3_regret 29 = .ok (.aload_n 0, 1) := by decide +kernel
theorem dX3_regret_30 : decode cX3_regret 30 = .ok (.getfield 9, 3) := by decide +kernel
theorem dX3_regret_33 : decode cX3_regret 33 = .ok (.iload 6, 2) := by decide +kernel
theorem dX3_regret_35 : decode cX3_regret 35 = .ok (.iaload, 1) := by decide +kernel
theorem dX3_regret_36 : decode cX3_regret 36 = .ok (.iload 5, 2) := by decide +kernel
theorem dX3_regret_38 : decode cX3_regret 38 = .ok (.if_icmp .ne 21, 3) := by decide +kernel
theorem dX3_regret_41 : decode cX3_regret 41 = .ok (.aload_n 0, 1) := by decide +kernel
theorem dX3_regret_42 : decode cX3_regret 42 = .ok (.aload_n 1, 1) := by decide +kernel
theorem dX3_regret_43 : decode cX3_regret 43 = .ok (.iload 6, 2) := by decide +kernel
theorem dX3_regret_45 : decode cX3_regret 45 = .ok (.invokevirtual 108, 3) := by decide +kernel
theorem dX3_regret_48 : decode cX3_regret 48 = .ok (.ifCond .eq 11, 3) := by decide +kernel
theorem dX3_regret_51 : decode cX3_regret 51 = .ok (.iload_n 3, 1) := by decide +kernel
theorem dX3_regret_52 : decode cX3_regret 52 = .ok (.iload 5, 2) := by decide +kernel
theorem dX3_regret_54 : decode cX3_regret 54 = .ok (.iadd, 1) := by decide +kernel
theorem dX3_regret_55 : decode cX3_regret 55 = .ok (.istore_n 3, 1) := by decide +kernel
theorem dX3_regret_56 : decode cX3_regret 56 = .ok (.iinc 4 (-1), 3) := by decide +kernel
theorem dX3_regret_59 : decode cX3_regret 59 = .ok (.iinc 6 1, 3) := by decide +kernel
theorem dX3_regret_62 : decode cX3_regret 62 = .ok (.goto (-45), 3) := by decide +kernel
theorem dX3_regret_65 : decode cX3_regret 65 = .ok (.iinc 5 (-1), 3) := by decide +kernel
theorem dX3_regret_68 : decode cX3_regret 68 = .ok (.goto (-59), 3) := by decide +kernel
theorem dX3_regret_71 : decode cX3_regret 71 = .ok (.iload_n 3, 1) := by decide +kernel
theorem dX3_regret_72 : decode cX3_regret 72 = .ok (.ireturn, 1) := by decide +kernel
theorem dX3_loseWorths_0 : decode cX3_loseWorths 0 = .ok (.iconst 0, 1) := by decide +kernel
theorem dX3_loseWorths_1 : decode cX3_loseWorths 1 = .ok (.istore_n 2, 1) := by decide +kernel
theorem dX3_loseWorths_2 : decode cX3_loseWorths 2 = .ok (.iconst 0, 1) := by decide +kernel
theorem dX3_loseWorths_3 : decode cX3_loseWorths 3 = .ok (.istore_n 3, 1) := by decide +kernel
theorem dX3_loseWorths_4 : decode cX3_loseWorths 4 = .ok (.iload_n 3, 1) := by decide +kernel
theorem dX3_loseWorths_5 : decode cX3_loseWorths 5 = .ok (.bipush 64, 2) := by decide +kernel
theorem dX3_loseWorths_7 : decode cX3_loseWorths 7 = .ok (.if_icmp .ge 34, 3) := by decide +kernel
theorem dX3_loseWorths_10 : decode cX3_loseWorths 10 = .ok (.aload_n 0, 1) := by decide +kernel
theorem dX3_loseWorths_11 : decode cX3_loseWorths 11 = .ok (.aload_n 1, 1) := by decide +kernel
theorem dX3_loseWorths_12 : decode cX3_loseWorths 12 = .ok (.iload_n 3, 1) := by decide +kernel
theorem dX3_loseWorths_13 : decode cX3_loseWorths 13 = .ok (.invokevirtual 108, 3) := by decide +kernel
theorem dX3_loseWorths_16 : decode cX3_loseWorths 16 = .ok (.ifCond .eq 19, 3) := by decide +kernel
theorem dX3_loseWorths_19 : decode cX3_loseWorths 19 = .ok (.iload_n 2, 1) := by decide +kernel
theorem dX3_loseWorths_20 : decode cX3_loseWorths 20 = .ok (.aload_n 0, 1) := by decide +kernel
theorem dX3_loseWorths_21 : decode cX3_loseWorths 21 = .ok (.getfield 9, 3) := by decide +kernel
theorem dX3_loseWorths_24 : decode cX3_loseWorths 24 = .ok (.iload_n 3, 1) := by decide +kernel
theorem dX3_loseWorths_25 : decode cX3_loseWorths 25 = .ok (.iaload, 1) := by decide +kernel
theorem dX3_loseWorths_26 : decode cX3_loseWorths 26 = .ok (.iadd, 1) := by decide +kernel
theorem dX3_loseWorths_27 : decode cX3_loseWorths 27 = .ok (.istore_n 2, 1) := by decide +kernel
theorem dX3_loseWorths_28 : decode cX3_loseWorths 28 = .ok (.aload_n 0, 1) := by decide +kernel
theorem dX3_loseWorths_29 : decode cX3_loseWorths 29 = .ok (.getfield 9, 3) := by decide +kernel
theorem dX3_loseWorths_32 : decode cX3_loseWorths 32 = .ok (.iload_n 3, 1) := by decide +kernel
theorem dX3_loseWorths_33 : decode cX3_loseWorths 33 = .ok (.iconst 0, 1) := by decide +kernel
theorem dX3_loseWorths_34 : decode cX3_loseWorths 34 = .ok (.iastore, 1) := by decide +kernel
theorem dX3_loseWorths_35 : decode cX3_loseWorths 35 = .ok (.iinc 3 1, 3) := by decide +kernel
theorem dX3_loseWorths_38 : decode cX3_loseWorths 38 = .ok (.goto (-34), 3) := by decide +kernel
theorem dX3_loseWorths_41 : decode cX3_loseWorths 41 = .ok (.iload_n 2, 1) := by decide +kernel
theorem dX3_loseWorths_42 : decode cX3_loseWorths 42 = .ok (.ireturn, 1) := by decide +kernel
theorem dX3_stepsTo_0 : decode cX3_stepsTo 0 = .ok (.aload_n 0, 1) := by decide +kernel
theorem dX3_stepsTo_1 : decode cX3_stepsTo 1 = .ok (.getfield 19, 3) := by decide +kernel
theorem dX3_stepsTo_4 : decode cX3_stepsTo 4 = .ok (.iload_n 1, 1) := by decide +kernel
theorem dX3_stepsTo_5 : decode cX3_stepsTo 5 = .ok (.iaload, 1) := by decide +kernel
theorem dX3_stepsTo_6 : decode cX3_stepsTo 6 = .ok (.istore_n 3, 1) := by decide +kernel
theorem dX3_stepsTo_7 : decode cX3_stepsTo 7 = .ok (.iload_n 3, 1) := by decide +kernel
theorem dX3_stepsTo_8 : decode cX3_stepsTo 8 = .ok (.bipush 8, 2) := by decide +kernel
theorem dX3_stepsTo_10 : decode cX3_stepsTo 10 = .ok (.idiv, 1) := by decide +kernel
theorem dX3_stepsTo_11 : decode cX3_stepsTo 11 = .ok (.iload_n 2, 1) := by decide +kernel
theorem dX3_stepsTo_12 : decode cX3_stepsTo 12 = .ok (.bipush 8, 2) := by decide +kernel
theorem dX3_stepsTo_14 : decode cX3_stepsTo 14 = .ok (.idiv, 1) := by decide +kernel
theorem dX3_stepsTo_15 : decode cX3_stepsTo 15 = .ok (.isub, 1) := by decide +kernel
theorem dX3_stepsTo_16 : decode cX3_stepsTo 16 = .ok (.invokestatic 112, 3) := by decide +kernel
theorem dX3_stepsTo_19 : decode cX3_stepsTo 19 = .ok (.istore 4, 2) := by decide +kernel
theorem dX3_stepsTo_21 : decode cX3_stepsTo 21 = .ok (.iload_n 3, 1) := by decide +kernel
theorem dX3_stepsTo_22 : decode cX3_stepsTo 22 = .ok (.bipush 8, 2) := by decide +kernel
theorem dX3_stepsTo_24 : decode cX3_stepsTo 24 = .ok (.irem, 1) := by decide +kernel
theorem dX3_stepsTo_25 : decode cX3_stepsTo 25 = .ok (.iload_n 2, 1) := by decide +kernel
theorem dX3_stepsTo_26 : decode cX3_stepsTo 26 = .ok (.bipush 8, 2) := by decide +kernel
theorem dX3_stepsTo_28 : decode cX3_stepsTo 28 = .ok (.irem, 1) := by decide +kernel
theorem dX3_stepsTo_29 : decode cX3_stepsTo 29 = .ok (.isub, 1) := by decide +kernel
theorem dX3_stepsTo_30 : decode cX3_stepsTo 30 = .ok (.invokestatic 112, 3) := by decide +kernel
theorem dX3_stepsTo_33 : decode cX3_stepsTo 33 = .ok (.istore 5, 2) := by decide +kernel
theorem dX3_stepsTo_35 : decode cX3_stepsTo 35 = .ok (.iload 4, 2) := by decide +kernel
theorem dX3_stepsTo_37 : decode cX3_stepsTo 37 = .ok (.iload 5, 2) := by decide +kernel
theorem dX3_stepsTo_39 : decode cX3_stepsTo 39 = .ok (.iadd, 1) := by decide +kernel
theorem dX3_stepsTo_40 : decode cX3_stepsTo 40 = .ok (.iconst 1, 1) := by decide +kernel
theorem dX3_stepsTo_41 : decode cX3_stepsTo 41 = .ok (.aload_n 0, 1) := by decide +kernel
theorem dX3_stepsTo_42 : decode cX3_stepsTo 42 = .ok (.getfield 46, 3) := by decide +kernel
theorem dX3_stepsTo_45 : decode cX3_stepsTo 45 = .ok (.iconst 3, 1) := by decide +kernel
theorem dX3_stepsTo_46 : decode cX3_stepsTo 46 = .ok (.idiv, 1) := by decide +kernel
theorem dX3_stepsTo_47 : decode cX3_stepsTo 47 = .ok (.iadd, 1) := by decide +kernel
theorem dX3_stepsTo_48 : decode cX3_stepsTo 48 = .ok (.imul, 1) := by decide +kernel
theorem dX3_stepsTo_49 : decode cX3_stepsTo 49 = .ok (.ireturn, 1) := by decide +kernel
theorem dX3_whyNot_0 : decode cX3_whyNot 0 = .ok (.aload_n 0, 1) := by decide +kernel
theorem dX3_whyNot_1 : decode cX3_whyNot 1 = .ok (.getfield 9, 3) := by decide +kernel
theorem dX3_whyNot_4 : decode cX3_whyNot 4 = .ok (.iload_n 2, 1) := by decide +kernel
theorem dX3_whyNot_5 : decode cX3_whyNot 5 = .ok (.iaload, 1) := by decide +kernel
theorem dX3_whyNot_6 : decode cX3_whyNot 6 = .ok (.ifCond .ne 5, 3) := by decide +kernel
theorem dX3_whyNot_9 : decode cX3_whyNot 9 = .ok (.iconst 1, 1) := by decide +kernel
theorem dX3_whyNot_10 : decode cX3_whyNot 10 = .ok (.ireturn, 1) := by decide +kernel
theorem dX3_whyNot_11 : decode cX3_whyNot 11 = .ok (.aload_n 0, 1) := by decide +kernel
theorem dX3_whyNot_12 : decode cX3_whyNot 12 = .ok (.getfield 22, 3) := by decide +kernel
theorem dX3_whyNot_15 : decode cX3_whyNot 15 = .ok (.iload_n 1, 1) := by decide +kernel
theorem dX3_whyNot_16 : decode cX3_whyNot 16 = .ok (.iaload, 1) := by decide +kernel
theorem dX3_whyNot_17 : decode cX3_whyNot 17 = .ok (.aload_n 0, 1) := by decide +kernel
theorem dX3_whyNot_18 : decode cX3_whyNot 18 = .ok (.iload_n 1, 1) := by decide +kernel
theorem dX3_whyNot_19 : decode cX3_whyNot 19 = .ok (.iload_n 2, 1) := by decide +kernel
theorem dX3_whyNot_20 : decode cX3_whyNot 20 = .ok (.invokevirtual 81, 3) := by decide +kernel
theorem dX3_whyNot_23 : decode cX3_whyNot 23 = .ok (.isub, 1) := by decide +kernel
theorem dX3_whyNot_24 : decode cX3_whyNot 24 = .ok (.istore_n 3, 1) := by decide +kernel
theorem dX3_whyNot_25 : decode cX3_whyNot 25 = .ok (.iload_n 3, 1) := by decide +kernel
theorem dX3_whyNot_26 : decode cX3_whyNot 26 = .ok (.ifCond .ge 5, 3) := by decide +kernel
theorem dX3_whyNot_29 : decode cX3_whyNot 29 = .ok (.iconst 2, 1) := by decide +kernel
theorem dX3_whyNot_30 : decode cX3_whyNot 30 = .ok (.ireturn, 1) := by decide +kernel
theorem dX3_whyNot_31 : decode cX3_whyNot 31 = .ok (.iload_n 3, 1) := by decide +kernel
theorem dX3_whyNot_32 : decode cX3_whyNot 32 = .ok (.aload_n 0, 1) := by decide +kernel
theorem dX3_whyNot_33 : decode cX3_whyNot 33 = .ok (.getfield 34, 3) := by decide +kernel
theorem dX3_whyNot_36 : decode cX3_whyNot 36 = .ok (.iconst 2, 1) := by decide +kernel
theorem dX3_whyNot_37 : decode cX3_whyNot 37 = .ok (.iaload, 1) := by decide +kernel
theorem dX3_whyNot_38 : decode cX3_whyNot 38 = .ok (.if_icmp .ge 7, 3) := by decide +kernel
theorem dX3_whyNot_41 : decode cX3_whyNot 41 = .ok (.iconst 3, 1) := by decide +kernel
theorem dX3_whyNot_42 : decode cX3_whyNot 42 = .ok (.goto 4, 3) := by decide +kernel
theorem dX3_whyNot_45 : decode cX3_whyNot 45 = .ok (.iconst 0, 1) := by decide +kernel
theorem dX3_whyNot_46 : decode cX3_whyNot 46 = .ok (.ireturn, 1) := by decide +kernel
theorem dX3_bestPlot_0 : decode cX3_bestPlot 0 = .ok (.bipush (-5), 2) := by decide +kernel
theorem dX3_bestPlot_2 : decode cX3_bestPlot 2 = .ok (.istore_n 3, 1) := by decide +kernel
theorem dX3_bestPlot_3 : decode cX3_bestPlot 3 = .ok (.iconst 0, 1) := by decide +kernel
theorem dX3_bestPlot_4 : decode cX3_bestPlot 4 = .ok (.istore 4, 2) := by decide +kernel
theorem dX3_bestPlot_6 : decode cX3_bestPlot 6 = .ok (.iload 4, 2) := by decide +kernel
theorem dX3_bestPlot_8 : decode cX3_bestPlot 8 = .ok (.bipush 64, 2) := by decide +kernel
theorem dX3_bestPlot_10 : decode cX3_bestPlot 10 = .ok (.if_icmp .ge 40, 3) := by decide +kernel
theorem dX3_bestPlot_13 : decode cX3_bestPlot 13 = .ok (.aload_n 0, 1) := by decide +kernel
theorem dX3_bestPlot_14 : decode cX3_bestPlot 14 = .ok (.iload_n 2, 1) := by decide +kernel
theorem dX3_bestPlot_15 : decode cX3_bestPlot 15 = .ok (.iload 4, 2) := by decide +kernel
theorem dX3_bestPlot_17 : decode cX3_bestPlot 17 = .ok (.invokevirtual 115, 3) := by decide +kernel
theorem dX3_bestPlot_20 : decode cX3_bestPlot 20 = .ok (.ifCond .ne 24, 3) := by decide +kernel
theorem dX3_bestPlot_23 : decode cX3_bestPlot 23 = .ok (.iload_n 3, 1) := by decide +kernel
theorem dX3_bestPlot_24 : decode cX3_bestPlot 24 = .ok (.bipush (-5), 2) := by decide +kernel
theorem dX3_bestPlot_26 : decode cX3_bestPlot 26 = .ok (.if_icmp .eq 15, 3) := by decide +kernel
theorem dX3_bestPlot_29 : decode cX3_bestPlot 29 = .ok (.aload_n 0, 1) := by decide +kernel
theorem dX3_bestPlot_30 : decode cX3_bestPlot 30 = .ok (.aload_n 1, 1) := by decide +kernel
theorem dX3_bestPlot_31 : decode cX3_bestPlot 31 = .ok (.iload_n 2, 1) := by decide +kernel
theorem dX3_bestPlot_32 : decode cX3_bestPlot 32 = .ok (.iload 4, 2) := by decide +kernel
theorem dX3_bestPlot_34 : decode cX3_bestPlot 34 = .ok (.iload_n 3, 1) := by decide +kernel
theorem dX3_bestPlot_35 : decode cX3_bestPlot 35 = .ok (.invokevirtual 118, 3) := by decide +kernel
theorem dX3_bestPlot_38 : decode cX3_bestPlot 38 = .ok (.ifCond .eq 6, 3) := by decide +kernel
theorem dX3_bestPlot_41 : decode cX3_bestPlot 41 = .ok (.iload 4, 2) := by decide +kernel
theorem dX3_bestPlot_43 : decode cX3_bestPlot 43 = .ok (.istore_n 3, 1) := by decide +kernel
theorem dX3_bestPlot_44 : decode cX3_bestPlot 44 = .ok (.iinc 4 1, 3) := by decide +kernel
theorem dX3_bestPlot_47 : decode cX3_bestPlot 47 = .ok (.goto (-41), 3) := by decide +kernel
theorem dX3_bestPlot_50 : decode cX3_bestPlot 50 = .ok (.iload_n 3, 1) := by decide +kernel
theorem dX3_bestPlot_51 : decode cX3_bestPlot 51 = .ok (.ireturn, 1) := by decide +kernel
theorem dX3_isBetter_0 : decode cX3_isBetter 0 = .ok (.aload_n 0, 1) := by decide +kernel
theorem dX3_isBetter_1 : decode cX3_isBetter 1 = .ok (.aload_n 1, 1) := by decide +kernel
theorem dX3_isBetter_2 : decode cX3_isBetter 2 = .ok (.iload_n 3, 1) := by decide +kernel
theorem dX3_isBetter_3 : decode cX3_isBetter 3 = .ok (.invokevirtual 122, 3) := by decide +kernel
theorem dX3_isBetter_6 : decode cX3_isBetter 6 = .ok (.aload_n 0, 1) := by decide +kernel
theorem dX3_isBetter_7 : decode cX3_isBetter 7 = .ok (.aload_n 1, 1) := by decide +kernel
theorem dX3_isBetter_8 : decode cX3_isBetter 8 = .ok (.iload 4, 2) := by decide +kernel
theorem dX3_isBetter_10 : decode cX3_isBetter 10 = .ok (.invokevirtual 122, 3) := by decide +kernel
theorem dX3_isBetter_13 : decode cX3_isBetter 13 = .ok (.isub, 1) := by decide +kernel
theorem dX3_isBetter_14 : decode cX3_isBetter 14 = .ok (.istore 5, 2) := by decide +kernel
theorem dX3_isBetter_16 : decode cX3_isBetter 16 = .ok (.iload 5, 2) := by decide +kernel
theorem dX3_isBetter_18 : decode cX3_isBetter 18 = .ok (.ifCond .eq 14, 3) := by decide +kernel
theorem dX3_isBetter_21 : decode cX3_isBetter 21 = .ok (.iload 5, 2) := by decide +kernel
theorem dX3_isBetter_23 : decode cX3_isBetter 23 = .ok (.ifCond .le 7, 3) := by decide +kernel
theorem dX3_isBetter_26 : decode cX3_isBetter 26 = .ok (.iconst 1, 1) := by decide +kernel
theorem dX3_isBetter_27 : decode cX3_isBetter 27 = .ok (.goto 4, 3) := by decide +kernel
theorem dX3_isBetter_30 : decode cX3_isBetter 30 = .ok (.iconst 0, 1) := by decide +kernel
theorem dX3_isBetter_31 : decode cX3_isBetter 31 = .ok (.ireturn, 1) := by decide +kernel
theorem dX3_isBetter_32 : decode cX3_isBetter 32 = .ok (.aload_n 0, 1) := by decide +kernel
theorem dX3_isBetter_33 : decode cX3_isBetter 33 = .ok (.getfield 9, 3) := by decide +kernel
theorem dX3_isBetter_36 : decode cX3_isBetter 36 = .ok (.iload_n 3, 1) := by decide +kernel
theorem dX3_isBetter_37 : decode cX3_isBetter 37 = .ok (.iaload, 1) := by decide +kernel
theorem dX3_isBetter_38 : decode cX3_isBetter 38 = .ok (.aload_n 0, 1) := by decide +kernel
theorem dX3_isBetter_39 : decode cX3_isBetter 39 = .ok (.getfield 9, 3) := by decide +kernel
theorem dX3_isBetter_42 : decode cX3_isBetter 42 = .ok (.iload 4, 2) := by decide +kernel
theorem dX3_isBetter_44 : decode cX3_isBetter 44 = .ok (.iaload, 1) := by decide +kernel
theorem dX3_isBetter_45 : decode cX3_isBetter 45 = .ok (.if_icmp .eq 25, 3) := by decide +kernel
theorem dX3_isBetter_48 : decode cX3_isBetter 48 = .ok (.aload_n 0, 1) := by decide +kernel
theorem dX3_isBetter_49 : decode cX3_isBetter 49 = .ok (.getfield 9, 3) := by decide +kernel
theorem dX3_isBetter_52 : decode cX3_isBetter 52 = .ok (.iload_n 3, 1) := by decide +kernel
theorem dX3_isBetter_53 : decode cX3_isBetter 53 = .ok (.iaload, 1) := by decide +kernel
theorem dX3_isBetter_54 : decode cX3_isBetter 54 = .ok (.aload_n 0, 1) := by decide +kernel
theorem dX3_isBetter_55 : decode cX3_isBetter 55 = .ok (.getfield 9, 3) := by decide +kernel
theorem dX3_isBetter_58 : decode cX3_isBetter 58 = .ok (.iload 4, 2) := by decide +kernel
theorem dX3_isBetter_60 : decode cX3_isBetter 60 = .ok (.iaload, 1) := by decide +kernel
theorem dX3_isBetter_61 : decode cX3_isBetter 61 = .ok (.if_icmp .le 7, 3) := by decide +kernel
theorem dX3_isBetter_64 : decode cX3_isBetter 64 = .ok (.iconst 1, 1) := by decide +kernel
theorem dX3_isBetter_65 : decode cX3_isBetter 65 = .ok (.goto 4, 3) := by decide +kernel
theorem dX3_isBetter_68 : decode cX3_isBetter 68 = .ok (.iconst 0, 1) := by decide +kernel
theorem dX3_isBetter_69 : decode cX3_isBetter 69 = .ok (.ireturn, 1) := by decide +kernel
theorem dX3_isBetter_70 : decode cX3_isBetter 70 = .ok (.aload_n 0, 1) := by decide +kernel
theorem dX3_isBetter_71 : decode cX3_isBetter 71 = .ok (.iload_n 2, 1) := by decide +kernel
theorem dX3_isBetter_72 : decode cX3_isBetter 72 = .ok (.iload_n 3, 1) := by decide +kernel
theorem dX3_isBetter_73 : decode cX3_isBetter 73 = .ok (.invokevirtual 81, 3) := by decide +kernel
theorem dX3_isBetter_76 : decode cX3_isBetter 76 = .ok (.aload_n 0, 1) := by decide +kernel
theorem dX3_isBetter_77 : decode cX3_isBetter 77 = .ok (.iload_n 2, 1) := by decide +kernel
theorem dX3_isBetter_78 : decode cX3_isBetter 78 = .ok (.iload 4, 2) := by decide +kernel
theorem dX3_isBetter_80 : decode cX3_isBetter 80 = .ok (.invokevirtual 81, 3) := by decide +kernel
theorem dX3_isBetter_83 : decode cX3_isBetter 83 = .ok (.if_icmp .ge 7, 3) := by decide +kernel
theorem dX3_isBetter_86 : decode cX3_isBetter 86 = .ok (.iconst 1, 1) := by decide +kernel
theorem dX3_isBetter_87 : decode cX3_isBetter 87 = .ok (.goto 4, 3) := by decide +kernel
theorem dX3_isBetter_90 : decode cX3_isBetter 90 = .ok (.iconst 0, 1) := by decide +kernel
theorem dX3_isBetter_91 : decode cX3_isBetter 91 = .ok (.ireturn, 1) := by decide +kernel
theorem dX3_hits_0 : decode cX3_hits 0 = .ok (.aload_n 1, 1) := by decide +kernel
theorem dX3_hits_1 : decode cX3_hits 1 = .ok (.iload_n 2, 1) := by decide +kernel
theorem dX3_hits_2 : decode cX3_hits 2 = .ok (.aload_n 0, 1) := by decide +kernel
theorem dX3_hits_3 : decode cX3_hits 3 = .ok (.getfield 34, 3) := by decide +kernel
theorem dX3_hits_6 : decode cX3_hits 6 = .ok (.iconst 1, 1) := by decide +kernel
theorem dX3_hits_7 : decode cX3_hits 7 = .ok (.iaload, 1) := by decide +kernel
theorem dX3_hits_8 : decode cX3_hits 8 = .ok (.invokevirtual 125, 3) := by decide +kernel
theorem dX3_hits_11 : decode cX3_hits 11 = .ok (.ireturn, 1) := by decide +kernel
theorem dX3_isEndangered_0 : decode cX3_isEndangered 0 = .ok (.aload_n 0, 1) := by decide +kernel
theorem dX3_isEndangered_1 : decode cX3_isEndangered 1 = .ok (.aload_n 1, 1) := by decide +kernel
theorem dX3_isEndangered_2 : decode cX3_isEndangered 2 = .ok (.iload_n 2, 1) := by decide +kernel
theorem dX3_isEndangered_3 : decode cX3_isEndangered 3 = .ok (.invokevirtual 128, 3) := by decide +kernel
theorem dX3_isEndangered_6 : decode cX3_isEndangered 6 = .ok (.ifCond .le 7, 3) := by decide +kernel
theorem dX3_isEndangered_9 : decode cX3_isEndangered 9 = .ok (.iconst 1, 1) := by decide +kernel
theorem dX3_isEndangered_10 : decode cX3_isEndangered 10 = .ok (.goto 4, 3) := by decide +kernel
theorem dX3_isEndangered_13 : decode cX3_isEndangered 13 = .ok (.iconst 0, 1) := by decide +kernel
theorem dX3_isEndangered_14 : decode cX3_isEndangered 14 = .ok (.ireturn, 1) := by decide +kernel
theorem dX3_isDoomed_0 : decode cX3_isDoomed 0 = .ok (.aload_n 0, 1) := by decide +kernel
theorem dX3_isDoomed_1 : decode cX3_isDoomed 1 = .ok (.aload_n 1, 1) := by decide +kernel
theorem dX3_isDoomed_2 : decode cX3_isDoomed 2 = .ok (.iload_n 2, 1) := by decide +kernel
theorem dX3_isDoomed_3 : decode cX3_isDoomed 3 = .ok (.invokevirtual 128, 3) := by decide +kernel
theorem dX3_isDoomed_6 : decode cX3_isDoomed 6 = .ok (.aload_n 1, 1) := by decide +kernel
theorem dX3_isDoomed_7 : decode cX3_isDoomed 7 = .ok (.getfield 94, 3) := by decide +kernel
theorem dX3_isDoomed_10 : decode cX3_isDoomed 10 = .ok (.if_icmp .ne 7, 3) := by decide +kernel
theorem dX3_isDoomed_13 : decode cX3_isDoomed 13 = .ok (.iconst 1, 1) := by decide +kernel
theorem dX3_isDoomed_14 : decode cX3_isDoomed 14 = .ok (.goto 4, 3) := by decide +kernel
theorem dX3_isDoomed_17 : decode cX3_isDoomed 17 = .ok (.iconst 0, 1) := by decide +kernel
theorem dX3_isDoomed_18 : decode cX3_isDoomed 18 = .ok (.ireturn, 1) := by decide +kernel
theorem dX3_standsToLose_0 : decode cX3_standsToLose 0 = .ok (.aload_n 1, 1) := by decide +kernel
theorem dX3_standsToLose_1 : decode cX3_standsToLose 1 = .ok (.getfield 94, 3) := by decide +kernel
theorem dX3_standsToLose_4 : decode cX3_standsToLose 4 = .ok (.ifCond .ne 5, 3) := by decide +kernel
theorem dX3_standsToLose_7 : decode cX3_standsToLose 7 = .ok (.iconst 0, 1) := by decide +kernel
theorem dX3_standsToLose_8 : decode cX3_standsToLose 8 = .ok (.ireturn, 1) := by decide +kernel
theorem dX3_standsToLose_9 : decode cX3_standsToLose 9 = .ok (.aload_n 0, 1) := by decide +kernel
theorem dX3_standsToLose_10 : decode cX3_standsToLose 10 = .ok (.getfield 9, 3) := by decide +kernel
theorem dX3_standsToLose_13 : decode cX3_standsToLose 13 = .ok (.iload_n 2, 1) := by decide +kernel
theorem dX3_standsToLose_14 : decode cX3_standsToLose 14 = .ok (.iaload, 1) := by decide +kernel
theorem dX3_standsToLose_15 : decode cX3_standsToLose 15 = .ok (.aload_n 0, 1) := by decide +kernel
theorem dX3_standsToLose_16 : decode cX3_standsToLose 16 = .ok (.aload_n 1, 1) := by decide +kernel
theorem dX3_standsToLose_17 : decode cX3_standsToLose 17 = .ok (.iload_n 2, 1) := by decide +kernel
theorem dX3_standsToLose_18 : decode cX3_standsToLose 18 = .ok (.invokevirtual 128, 3) := by decide +kernel
theorem dX3_standsToLose_21 : decode cX3_standsToLose 21 = .ok (.imul, 1) := by decide +kernel
theorem dX3_standsToLose_22 : decode cX3_standsToLose 22 = .ok (.aload_n 1, 1) := by decide +kernel
theorem dX3_standsToLose_23 : decode cX3_standsToLose 23 = .ok (.getfield 94, 3) := by decide +kernel
theorem dX3_standsToLose_26 : decode cX3_standsToLose 26 = .ok (.idiv, 1) := by decide +kernel
theorem dX3_standsToLose_27 : decode cX3_standsToLose 27 = .ok (.ireturn, 1) := by decide +kernel
theorem dX3_worthOfAll_0 : decode cX3_worthOfAll 0 = .ok (.iconst 0, 1) := by decide +kernel
theorem dX3_worthOfAll_1 : decode cX3_worthOfAll 1 = .ok (.istore_n 1, 1) := by decide +kernel
theorem dX3_worthOfAll_2 : decode cX3_worthOfAll 2 = .ok (.iconst 0, 1) := by decide +kernel
theorem dX3_worthOfAll_3 : decode cX3_worthOfAll 3 = .ok (.istore_n 2, 1) := by decide +kernel
theorem dX3_worthOfAll_4 : decode cX3_worthOfAll 4 = .ok (.iload_n 2, 1) := by decide +kernel
theorem dX3_worthOfAll_5 : decode cX3_worthOfAll 5 = .ok (.bipush 64, 2) := by decide +kernel
theorem dX3_worthOfAll_7 : decode cX3_worthOfAll 7 = .ok (.if_icmp .ge 18, 3) := by decide +kernel
theorem dX3_worthOfAll_10 : decode cX3_worthOfAll 10 = .ok (.iload_n 1, 1) := by decide +kernel
theorem dX3_worthOfAll_11 : decode cX3_worthOfAll 11 = .ok (.aload_n 0, 1) := by decide +kernel
theorem dX3_worthOfAll_12 : decode cX3_worthOfAll 12 = .ok (.getfield 9, 3) := by decide +kernel
theorem dX3_worthOfAll_15 : decode cX3_worthOfAll 15 = .ok (.iload_n 2, 1) := by decide +kernel
theorem dX3_worthOfAll_16 : decode cX3_worthOfAll 16 = .ok (.iaload, 1) := by decide +kernel
theorem dX3_worthOfAll_17 : decode cX3_worthOfAll 17 = .ok (.iadd, 1) := by decide +kernel
theorem dX3_worthOfAll_18 : decode cX3_worthOfAll 18 = .ok (.istore_n 1, 1) := by decide +kernel
theorem dX3_worthOfAll_19 : decode cX3_worthOfAll 19 = .ok (.iinc 2 1, 3) := by decide +kernel
theorem dX3_worthOfAll_22 : decode cX3_worthOfAll 22 = .ok (.goto (-18), 3) := by decide +kernel
theorem dX3_worthOfAll_25 : decode cX3_worthOfAll 25 = .ok (.iload_n 1, 1) := by decide +kernel
theorem dX3_worthOfAll_26 : decode cX3_worthOfAll 26 = .ok (.ireturn, 1) := by decide +kernel
theorem dX3_endangeredPlots_0 : decode cX3_endangeredPlots 0 = .ok (.iconst 0, 1) := by decide +kernel
theorem dX3_endangeredPlots_1 : decode cX3_endangeredPlots 1 = .ok (.istore_n 2, 1) := by decide +kernel
theorem dX3_endangeredPlots_2 : decode cX3_endangeredPlots 2 = .ok (.iconst 0, 1) := by decide +kernel
theorem dX3_endangeredPlots_3 : decode cX3_endangeredPlots 3 = .ok (.istore_n 3, 1) := by decide +kernel
theorem dX3_endangeredPlots_4 : decode cX3_endangeredPlots 4 = .ok (.iload_n 3, 1) := by decide +kernel
theorem dX3_endangeredPlots_5 : decode cX3_endangeredPlots 5 = .ok (.bipush 64, 2) := by decide +kernel
theorem dX3_endangeredPlots_7 : decode cX3_endangeredPlots 7 = .ok (.if_icmp .ge 21, 3) := by decide +kernel
theorem dX3_endangeredPlots_10 : decode cX3_endangeredPlots 10 = .ok (.aload_n 0, 1) := by decide +kernel
theorem dX3_endangeredPlots_11 : decode cX3_endangeredPlots 11 = .ok (.aload_n 1, 1) := by decide +kernel
theorem dX3_endangeredPlots_12 : decode cX3_endangeredPlots 12 = .ok (.iload_n 3, 1) := by decide +kernel
theorem dX3_endangeredPlots_13 : decode cX3_endangeredPlots 13 = .ok (.invokevirtual 108, 3) := by decide +kernel
theorem dX3_endangeredPlots_16 : decode cX3_endangeredPlots 16 = .ok (.ifCond .eq 6, 3) := by decide +kernel
theorem dX3_endangeredPlots_19 : decode cX3_endangeredPlots 19 = .ok (.iinc 2 1, 3) := by decide +kernel
theorem dX3_endangeredPlots_22 : decode cX3_endangeredPlots 22 = .ok (.iinc 3 1, 3) := by decide +kernel
theorem dX3_endangeredPlots_25 : decode cX3_endangeredPlots 25 = .ok (.goto (-21), 3) := by decide +kernel
theorem dX3_endangeredPlots_28 : decode cX3_endangeredPlots 28 = .ok (.iload_n 2, 1) := by decide +kernel
theorem dX3_endangeredPlots_29 : decode cX3_endangeredPlots 29 = .ok (.ireturn, 1) := by decide +kernel
theorem dX3_doomedPlots_0 : decode cX3_doomedPlots 0 = .ok (.iconst 0, 1) := by decide +kernel
theorem dX3_doomedPlots_1 : decode cX3_doomedPlots 1 = .ok (.istore_n 2, 1) := by decide +kernel
theorem dX3_doomedPlots_2 : decode cX3_doomedPlots 2 = .ok (.iconst 0, 1) := by decide +kernel
theorem dX3_doomedPlots_3 : decode cX3_doomedPlots 3 = .ok (.istore_n 3, 1) := by decide +kernel
theorem dX3_doomedPlots_4 : decode cX3_doomedPlots 4 = .ok (.iload_n 3, 1) := by decide +kernel
theorem dX3_doomedPlots_5 : decode cX3_doomedPlots 5 = .ok (.bipush 64, 2) := by decide +kernel
theorem dX3_doomedPlots_7 : decode cX3_doomedPlots 7 = .ok (.if_icmp .ge 21, 3) := by decide +kernel
theorem dX3_doomedPlots_10 : decode cX3_doomedPlots 10 = .ok (.aload_n 0, 1) := by decide +kernel
theorem dX3_doomedPlots_11 : decode cX3_doomedPlots 11 = .ok (.aload_n 1, 1) := by decide +kernel
theorem dX3_doomedPlots_12 : decode cX3_doomedPlots 12 = .ok (.iload_n 3, 1) := by decide +kernel
theorem dX3_doomedPlots_13 : decode cX3_doomedPlots 13 = .ok (.invokevirtual 131, 3) := by decide +kernel
theorem dX3_doomedPlots_16 : decode cX3_doomedPlots 16 = .ok (.ifCond .eq 6, 3) := by decide +kernel
theorem dX3_doomedPlots_19 : decode cX3_doomedPlots 19 = .ok (.iinc 2 1, 3) := by decide +kernel
theorem dX3_doomedPlots_22 : decode cX3_doomedPlots 22 = .ok (.iinc 3 1, 3) := by decide +kernel
theorem dX3_doomedPlots_25 : decode cX3_doomedPlots 25 = .ok (.goto (-21), 3) := by decide +kernel
theorem dX3_doomedPlots_28 : decode cX3_doomedPlots 28 = .ok (.iload_n 2, 1) := by decide +kernel
theorem dX3_doomedPlots_29 : decode cX3_doomedPlots 29 = .ok (.ireturn, 1) := by decide +kernel
theorem dX3_allStandToLose_0 : decode cX3_allStandToLose 0 = .ok (.iconst 0, 1) := by decide +kernel
theorem dX3_allStandToLose_1 : decode cX3_allStandToLose 1 = .ok (.istore_n 2, 1) := by decide +kernel
theorem dX3_allStandToLose_2 : decode cX3_allStandToLose 2 = .ok (.iconst 0, 1) := by decide +kernel
theorem dX3_allStandToLose_3 : decode cX3_allStandToLose 3 = .ok (.istore_n 3, 1) := by decide +kernel
theorem dX3_allStandToLose_4 : decode cX3_allStandToLose 4 = .ok (.iload_n 3, 1) := by decide +kernel
theorem dX3_allStandToLose_5 : decode cX3_allStandToLose 5 = .ok (.bipush 64, 2) := by decide +kernel
theorem dX3_allStandToLose_7 : decode cX3_allStandToLose 7 = .ok (.if_icmp .ge 18, 3) := by decide +kernel
theorem dX3_allStandToLose_10 : decode cX3_allStandToLose 10 = .ok (.iload_n 2, 1) := by decide +kernel
theorem dX3_allStandToLose_11 : decode cX3_allStandToLose 11 = .ok (.aload_n 0, 1) := by decide +kernel
theorem dX3_allStandToLose_12 : decode cX3_allStandToLose 12 = .ok (.aload_n 1, 1) := by decide +kernel
theorem dX3_allStandToLose_13 : decode cX3_allStandToLose 13 = .ok (.iload_n 3, 1) := by decide +kernel
theorem dX3_allStandToLose_14 : decode cX3_allStandToLose 14 = .ok (.invokevirtual 122, 3) := by decide +kernel
theorem dX3_allStandToLose_17 : decode cX3_allStandToLose 17 = .ok (.iadd, 1) := by decide +kernel
theorem dX3_allStandToLose_18 : decode cX3_allStandToLose 18 = .ok (.istore_n 2, 1) := by decide +kernel
theorem dX3_allStandToLose_19 : decode cX3_allStandToLose 19 = .ok (.iinc 3 1, 3) := by decide +kernel
theorem dX3_allStandToLose_22 : decode cX3_allStandToLose 22 = .ok (.goto (-18), 3) := by decide +kernel
theorem dX3_allStandToLose_25 : decode cX3_allStandToLose 25 = .ok (.iload_n 2, 1) := by decide +kernel
theorem dX3_allStandToLose_26 : decode cX3_allStandToLose 26 = .ok (.ireturn, 1) := by decide +kernel
theorem dX3_felledPlots_0 : decode cX3_felledPlots 0 = .ok (.iconst 0, 1) := by decide +kernel
theorem dX3_felledPlots_1 : decode cX3_felledPlots 1 = .ok (.istore_n 1, 1) := by decide +kernel
theorem dX3_felledPlots_2 : decode cX3_felledPlots 2 = .ok (.iconst 0, 1) := by decide +kernel
theorem dX3_felledPlots_3 : decode cX3_felledPlots 3 = .ok (.istore_n 2, 1) := by decide +kernel
theorem dX3_felledPlots_4 : decode cX3_felledPlots 4 = .ok (.iload_n 2, 1) := by decide +kernel
theorem dX3_felledPlots_5 : decode cX3_felledPlots 5 = .ok (.bipush 64, 2) := by decide +kernel
theorem dX3_felledPlots_7 : decode cX3_felledPlots 7 = .ok (.if_icmp .ge 21, 3) := by decide +kernel
theorem dX3_felledPlots_10 : decode cX3_felledPlots 10 = .ok (.aload_n 0, 1) := by decide +kernel
theorem dX3_felledPlots_11 : decode cX3_felledPlots 11 = .ok (.getfield 15, 3) := by decide +kernel
theorem dX3_felledPlots_14 : decode cX3_felledPlots 14 = .ok (.iload_n 2, 1) := by decide +kernel
theorem dX3_felledPlots_15 : decode cX3_felledPlots 15 = .ok (.baload, 1) := by decide +kernel
theorem dX3_felledPlots_16 : decode cX3_felledPlots 16 = .ok (.ifCond .eq 6, 3) := by decide +kernel
theorem dX3_felledPlots_19 : decode cX3_felledPlots 19 = .ok (.iinc 1 1, 3) := by decide +kernel
theorem dX3_felledPlots_22 : decode cX3_felledPlots 22 = .ok (.iinc 2 1, 3) := by decide +kernel
theorem dX3_felledPlots_25 : decode cX3_felledPlots 25 = .ok (.goto (-21), 3) := by decide +kernel
theorem dX3_felledPlots_28 : decode cX3_felledPlots 28 = .ok (.iload_n 1, 1) := by decide +kernel
theorem dX3_felledPlots_29 : decode cX3_felledPlots 29 = .ok (.ireturn, 1) := by decide +kernel
theorem dX3_hintsTold_0 : decode cX3_hintsTold 0 = .ok (.iconst 0, 1) := by decide +kernel
theorem dX3_hintsTold_1 : decode cX3_hintsTold 1 = .ok (.istore_n 1, 1) := by decide +kernel
theorem dX3_hintsTold_2 : decode cX3_hintsTold 2 = .ok (.iconst 0, 1) := by decide +kernel
theorem dX3_hintsTold_3 : decode cX3_hintsTold 3 = .ok (.istore_n 2, 1) := by decide +kernel
theorem dX3_hintsTold_4 : decode cX3_hintsTold 4 = .ok (.iload_n 2, 1) := by decide +kernel
theorem dX3_hintsTold_5 : decode cX3_hintsTold 5 = .ok (.bipush 8, 2) := by decide +kernel
theorem dX3_hintsTold_7 : decode cX3_hintsTold 7 = .ok (.if_icmp .ge 23, 3) := by decide +kernel
theorem dX3_hintsTold_10 : decode cX3_hintsTold 10 = .ok (.aload_n 0, 1) := by decide +kernel
theorem dX3_hintsTold_11 : decode cX3_hintsTold 11 = .ok (.getfield 31, 3) := by decide +kernel
theorem dX3_hintsTold_14 : decode cX3_hintsTold 14 = .ok (.iload_n 2, 1) := by decide +kernel
theorem dX3_hintsTold_15 : decode cX3_hintsTold 15 = .ok (.iaload, 1) := by decide +kernel
theorem dX3_hintsTold_16 : decode cX3_hintsTold 16 = .ok (.bipush (-5), 2) := by decide +kernel
theorem dX3_hintsTold_18 : decode cX3_hintsTold 18 = .ok (.if_icmp .eq 6, 3) := by decide +kernel
theorem dX3_hintsTold_21 : decode cX3_hintsTold 21 = .ok (.iinc 1 1, 3) := by decide +kernel
theorem dX3_hintsTold_24 : decode cX3_hintsTold 24 = .ok (.iinc 2 1, 3) := by decide +kernel
theorem dX3_hintsTold_27 : decode cX3_hintsTold 27 = .ok (.goto (-23), 3) := by decide +kernel
theorem dX3_hintsTold_30 : decode cX3_hintsTold 30 = .ok (.iload_n 1, 1) := by decide +kernel
theorem dX3_hintsTold_31 : decode cX3_hintsTold 31 = .ok (.ireturn, 1) := by decide +kernel
theorem dX3_savedByAll_0 : decode cX3_savedByAll 0 = .ok (.iconst 0, 1) := by decide +kernel
theorem dX3_savedByAll_1 : decode cX3_savedByAll 1 = .ok (.istore_n 1, 1) := by decide +kernel
theorem dX3_savedByAll_2 : decode cX3_savedByAll 2 = .ok (.iconst 0, 1) := by decide +kernel
theorem dX3_savedByAll_3 : decode cX3_savedByAll 3 = .ok (.istore_n 2, 1) := by decide +kernel
theorem dX3_savedByAll_4 : decode cX3_savedByAll 4 = .ok (.iload_n 2, 1) := by decide +kernel
theorem dX3_savedByAll_5 : decode cX3_savedByAll 5 = .ok (.iconst 3, 1) := by decide +kernel
theorem dX3_savedByAll_6 : decode cX3_savedByAll 6 = .ok (.if_icmp .ge 18, 3) := by decide +kernel
theorem dX3_savedByAll_9 : decode cX3_savedByAll 9 = .ok (.iload_n 1, 1) := by decide +kernel
theorem dX3_savedByAll_10 : decode cX3_savedByAll 10 = .ok (.aload_n 0, 1) := by decide +kernel
theorem dX3_savedByAll_11 : decode cX3_savedByAll 11 = .ok (.getfield 25, 3) := by decide +kernel
theorem dX3_savedByAll_14 : decode cX3_savedByAll 14 = .ok (.iload_n 2, 1) := by decide +kernel
theorem dX3_savedByAll_15 : decode cX3_savedByAll 15 = .ok (.iaload, 1) := by decide +kernel
theorem dX3_savedByAll_16 : decode cX3_savedByAll 16 = .ok (.iadd, 1) := by decide +kernel
theorem dX3_savedByAll_17 : decode cX3_savedByAll 17 = .ok (.istore_n 1, 1) := by decide +kernel
theorem dX3_savedByAll_18 : decode cX3_savedByAll 18 = .ok (.iinc 2 1, 3) := by decide +kernel
theorem dX3_savedByAll_21 : decode cX3_savedByAll 21 = .ok (.goto (-17), 3) := by decide +kernel
theorem dX3_savedByAll_24 : decode cX3_savedByAll 24 = .ok (.iload_n 1, 1) := by decide +kernel
theorem dX3_savedByAll_25 : decode cX3_savedByAll 25 = .ok (.ireturn, 1) := by decide +kernel
theorem dX4_init_0 : decode cX4_init 0 = .ok (.aload_n 0, 1) := by decide +kernel
theorem dX4_init_1 : decode cX4_init 1 = .ok (.invokespecial 1, 3) := by decide +kernel
theorem dX4_init_4 : decode cX4_init 4 = .ok (.aload_n 0, 1) := by decide +kernel
theorem dX4_init_5 : decode cX4_init 5 = .ok (.new 7, 3) := by decide +kernel
theorem dX4_init_8 : decode cX4_init 8 = .ok (.dup, 1) := by decide +kernel
theorem dX4_init_9 : decode cX4_init 9 = .ok (.invokespecial 9, 3) := by decide +kernel
theorem dX4_init_12 : decode cX4_init 12 = .ok (.putfield 10, 3) := by decide +kernel
theorem dX4_init_15 : decode cX4_init 15 = .ok (.aload_n 0, 1) := by decide +kernel
theorem dX4_init_16 : decode cX4_init 16 = .ok (.new 7, 3) := by decide +kernel
theorem dX4_init_19 : decode cX4_init 19 = .ok (.dup, 1) := by decide +kernel
theorem dX4_init_20 : decode cX4_init 20 = .ok (.invokespecial 9, 3) := by decide +kernel
theorem dX4_init_23 : decode cX4_init 23 = .ok (.putfield 16, 3) := by decide +kernel
theorem dX4_init_26 : decode cX4_init 26 = .ok (.aload_n 0, 1) := by decide +kernel
theorem dX4_init_27 : decode cX4_init 27 = .ok (.new 7, 3) := by decide +kernel
theorem dX4_init_30 : decode cX4_init 30 = .ok (.dup, 1) := by decide +kernel
theorem dX4_init_31 : decode cX4_init 31 = .ok (.invokespecial 9, 3) := by decide +kernel
theorem dX4_init_34 : decode cX4_init 34 = .ok (.putfield 19, 3) := by decide +kernel
theorem dX4_init_37 : decode cX4_init 37 = .ok (.aload_n 0, 1) := by decide +kernel
theorem dX4_init_38 : decode cX4_init 38 = .ok (.new 22, 3) := by decide +kernel
theorem dX4_init_41 : decode cX4_init 41 = .ok (.dup, 1) := by decide +kernel
theorem dX4_init_42 : decode cX4_init 42 = .ok (.invokespecial 24, 3) := by decide +kernel
theorem dX4_init_45 : decode cX4_init 45 = .ok (.putfield 25, 3) := by decide +kernel
theorem dX4_init_48 : decode cX4_init 48 = .ok (.aload_n 0, 1) := by decide +kernel
theorem dX4_init_49 : decode cX4_init 49 = .ok (.new 29, 3) := by decide +kernel
theorem dX4_init_52 : decode cX4_init 52 = .ok (.dup, 1) := by decide +kernel
theorem dX4_init_53 : decode cX4_init 53 = .ok (.invokespecial 31, 3) := by decide +kernel
theorem dX4_init_56 : decode cX4_init 56 = .ok (.putfield 32, 3) := by decide +kernel
theorem dX4_init_59 : decode cX4_init 59 = .ok (.aload_n 0, 1) := by decide +kernel
theorem dX4_init_60 : decode cX4_init 60 = .ok (.new 36, 3) := by decide +kernel
theorem dX4_init_63 : decode cX4_init 63 = .ok (.dup, 1) := by decide +kernel
theorem dX4_init_64 : decode cX4_init 64 = .ok (.invokespecial 38, 3) := by decide +kernel
theorem dX4_init_67 : decode cX4_init 67 = .ok (.putfield 39, 3) := by decide +kernel
theorem dX4_init_70 : decode cX4_init 70 = .ok (.return_, 1) := by decide +kernel
theorem dX4_grow_0 : decode cX4_grow 0 = .ok (.aload_n 0, 1) := by decide +kernel
theorem dX4_grow_1 : decode cX4_grow 1 = .ok (.getfield 16, 3) := by decide +kernel
theorem dX4_grow_4 : decode cX4_grow 4 = .ok (.aload_n 0, 1) := by decide +kernel
theorem dX4_grow_5 : decode cX4_grow 5 = .ok (.getfield 10, 3) := by decide +kernel
theorem dX4_grow_8 : decode cX4_grow 8 = .ok (.invokevirtual 43, 3) := by decide +kernel
theorem dX4_grow_11 : decode cX4_grow 11 = .ok (.aload_n 0, 1) := by decide +kernel
theorem dX4_grow_12 : decode cX4_grow 12 = .ok (.aload_n 0, 1) := by decide +kernel
theorem dX4_grow_13 : decode cX4_grow 13 = .ok (.getfield 10, 3) := by decide +kernel
theorem dX4_grow_16 : decode cX4_grow 16 = .ok (.iload_n 1, 1) := by decide +kernel
theorem dX4_grow_17 : decode cX4_grow 17 = .ok (.iload_n 2, 1) := by decide +kernel
theorem dX4_grow_18 : decode cX4_grow 18 = .ok (.invokevirtual 47, 3) := by decide +kernel
theorem dX4_grow_21 : decode cX4_grow 21 = .ok (.invokevirtual 51, 3) := by decide +kernel
theorem dX4_grow_24 : decode cX4_grow 24 = .ok (.ireturn, 1) := by decide +kernel
theorem dX4_rain_0 : decode cX4_rain 0 = .ok (.aload_n 0, 1) := by decide +kernel
theorem dX4_rain_1 : decode cX4_rain 1 = .ok (.getfield 16, 3) := by decide +kernel
theorem dX4_rain_4 : decode cX4_rain 4 = .ok (.aload_n 0, 1) := by decide +kernel
theorem dX4_rain_5 : decode cX4_rain 5 = .ok (.getfield 10, 3) := by decide +kernel
theorem dX4_rain_8 : decode cX4_rain 8 = .ok (.invokevirtual 43, 3) := by decide +kernel
theorem dX4_rain_11 : decode cX4_rain 11 = .ok (.aload_n 0, 1) := by decide +kernel
theorem dX4_rain_12 : decode cX4_rain 12 = .ok (.aload_n 0, 1) := by decide +kernel
theorem dX4_rain_13 : decode cX4_rain 13 = .ok (.getfield 10, 3) := by decide +kernel
theorem dX4_rain_16 : decode cX4_rain 16 = .ok (.iload_n 1, 1) := by decide +kernel
theorem dX4_rain_17 : decode cX4_rain 17 = .ok (.invokevirtual 55, 3) := by decide +kernel
theorem dX4_rain_20 : decode cX4_rain 20 = .ok (.invokevirtual 51, 3) := by decide +kernel
theorem dX4_rain_23 : decode cX4_rain 23 = .ok (.ireturn, 1) := by decide +kernel
theorem dX4_endDays_0 : decode cX4_endDays 0 = .ok (.aload_n 0, 1) := by decide +kernel
theorem dX4_endDays_1 : decode cX4_endDays 1 = .ok (.getfield 16, 3) := by decide +kernel
theorem dX4_endDays_4 : decode cX4_endDays 4 = .ok (.aload_n 0, 1) := by decide +kernel
theorem dX4_endDays_5 : decode cX4_endDays 5 = .ok (.getfield 10, 3) := by decide +kernel
theorem dX4_endDays_8 : decode cX4_endDays 8 = .ok (.invokevirtual 43, 3) := by decide +kernel
theorem dX4_endDays_11 : decode cX4_endDays 11 = .ok (.aload_n 0, 1) := by decide +kernel
theorem dX4_endDays_12 : decode cX4_endDays 12 = .ok (.aload_n 0, 1) := by decide +kernel
theorem dX4_endDays_13 : decode cX4_endDays 13 = .ok (.getfield 10, 3) := by decide +kernel
theorem dX4_endDays_16 : decode cX4_endDays 16 = .ok (.iload_n 1, 1) := by decide +kernel
theorem dX4_endDays_17 : decode cX4_endDays 17 = .ok (.invokevirtual 58, 3) := by decide +kernel
theorem dX4_endDays_20 : decode cX4_endDays 20 = .ok (.invokevirtual 51, 3) := by decide +kernel
theorem dX4_endDays_23 : decode cX4_endDays 23 = .ok (.ireturn, 1) := by decide +kernel
theorem dX4_set_0 : decode cX4_set 0 = .ok (.aload_n 0, 1) := by decide +kernel
theorem dX4_set_1 : decode cX4_set 1 = .ok (.getfield 16, 3) := by decide +kernel
theorem dX4_set_4 : decode cX4_set 4 = .ok (.aload_n 0, 1) := by decide +kernel
theorem dX4_set_5 : decode cX4_set 5 = .ok (.getfield 10, 3) := by decide +kernel
theorem dX4_set_8 : decode cX4_set 8 = .ok (.invokevirtual 43, 3) := by decide +kernel
theorem dX4_set_11 : decode cX4_set 11 = .ok (.aload_n 0, 1) := by decide +kernel
theorem dX4_set_12 : decode cX4_set 12 = .ok (.aload_n 0, 1) := by decide +kernel
theorem dX4_set_13 : decode cX4_set 13 = .ok (.getfield 10, 3) := by decide +kernel
theorem dX4_set_16 : decode cX4_set 16 = .ok (.iload_n 1, 1) := by decide +kernel
theorem dX4_set_17 : decode cX4_set 17 = .ok (.iload_n 2, 1) := by decide +kernel
theorem dX4_set_18 : decode cX4_set 18 = .ok (.invokevirtual 61, 3) := by decide +kernel
theorem dX4_set_21 : decode cX4_set 21 = .ok (.invokevirtual 51, 3) := by decide +kernel
theorem dX4_set_24 : decode cX4_set 24 = .ok (.ireturn, 1) := by decide +kernel
theorem dX4_go_0 : decode cX4_go 0 = .ok (.aload_n 0, 1) := by decide +kernel
theorem dX4_go_1 : decode cX4_go 1 = .ok (.getfield 16, 3) := by decide +kernel
theorem dX4_go_4 : decode cX4_go 4 = .ok (.aload_n 0, 1) := by decide +kernel
theorem dX4_go_5 : decode cX4_go 5 = .ok (.getfield 10, 3) := by decide +kernel
theorem dX4_go_8 : decode cX4_go 8 = .ok (.invokevirtual 43, 3) := by decide +kernel
theorem dX4_go_11 : decode cX4_go 11 = .ok (.aload_n 0, 1) := by decide +kernel
theorem dX4_go_12 : decode cX4_go 12 = .ok (.aload_n 0, 1) := by decide +kernel
theorem dX4_go_13 : decode cX4_go 13 = .ok (.getfield 10, 3) := by decide +kernel
theorem dX4_go_16 : decode cX4_go 16 = .ok (.iload_n 1, 1) := by decide +kernel
theorem dX4_go_17 : decode cX4_go 17 = .ok (.iload_n 2, 1) := by decide +kernel
theorem dX4_go_18 : decode cX4_go 18 = .ok (.invokevirtual 64, 3) := by decide +kernel
theorem dX4_go_21 : decode cX4_go 21 = .ok (.invokevirtual 51, 3) := by decide +kernel
theorem dX4_go_24 : decode cX4_go 24 = .ok (.ireturn, 1) := by decide +kernel
theorem dX4_fell_0 : decode cX4_fell 0 = .ok (.aload_n 0, 1) := by decide +kernel
theorem dX4_fell_1 : decode cX4_fell 1 = .ok (.getfield 16, 3) := by decide +kernel
theorem dX4_fell_4 : decode cX4_fell 4 = .ok (.aload_n 0, 1) := by decide +kernel
theorem dX4_fell_5 : decode cX4_fell 5 = .ok (.getfield 10, 3) := by decide +kernel
theorem dX4_fell_8 : decode cX4_fell 8 = .ok (.invokevirtual 43, 3) := by decide +kernel
theorem dX4_fell_11 : decode cX4_fell 11 = .ok (.aload_n 0, 1) := by decide +kernel
theorem dX4_fell_12 : decode cX4_fell 12 = .ok (.aload_n 0, 1) := by decide +kernel
theorem dX4_fell_13 : decode cX4_fell 13 = .ok (.getfield 10, 3) := by decide +kernel
theorem dX4_fell_16 : decode cX4_fell 16 = .ok (.iload_n 1, 1) := by decide +kernel
theorem dX4_fell_17 : decode cX4_fell 17 = .ok (.invokevirtual 67, 3) := by decide +kernel
theorem dX4_fell_20 : decode cX4_fell 20 = .ok (.invokevirtual 51, 3) := by decide +kernel
theorem dX4_fell_23 : decode cX4_fell 23 = .ok (.ireturn, 1) := by decide +kernel
theorem dX4_hint_0 : decode cX4_hint 0 = .ok (.aload_n 0, 1) := by decide +kernel
theorem dX4_hint_1 : decode cX4_hint 1 = .ok (.getfield 16, 3) := by decide +kernel
theorem dX4_hint_4 : decode cX4_hint 4 = .ok (.aload_n 0, 1) := by decide +kernel
theorem dX4_hint_5 : decode cX4_hint 5 = .ok (.getfield 10, 3) := by decide +kernel
theorem dX4_hint_8 : decode cX4_hint 8 = .ok (.invokevirtual 43, 3) := by decide +kernel
theorem dX4_hint_11 : decode cX4_hint 11 = .ok (.aload_n 0, 1) := by decide +kernel
theorem dX4_hint_12 : decode cX4_hint 12 = .ok (.aload_n 0, 1) := by decide +kernel
theorem dX4_hint_13 : decode cX4_hint 13 = .ok (.getfield 10, 3) := by decide +kernel
theorem dX4_hint_16 : decode cX4_hint 16 = .ok (.aload_n 0, 1) := by decide +kernel
theorem dX4_hint_17 : decode cX4_hint 17 = .ok (.invokevirtual 70, 3) := by decide +kernel
theorem dX4_hint_20 : decode cX4_hint 20 = .ok (.iload_n 1, 1) := by decide +kernel
theorem dX4_hint_21 : decode cX4_hint 21 = .ok (.iload_n 2, 1) := by decide +kernel
theorem dX4_hint_22 : decode cX4_hint 22 = .ok (.invokevirtual 74, 3) := by decide +kernel
theorem dX4_hint_25 : decode cX4_hint 25 = .ok (.invokevirtual 51, 3) := by decide +kernel
theorem dX4_hint_28 : decode cX4_hint 28 = .ok (.ireturn, 1) := by decide +kernel
theorem dX4_takeBack_0 : decode cX4_takeBack 0 = .ok (.aload_n 0, 1) := by decide +kernel
theorem dX4_takeBack_1 : decode cX4_takeBack 1 = .ok (.getfield 16, 3) := by decide +kernel
theorem dX4_takeBack_4 : decode cX4_takeBack 4 = .ok (.aload_n 0, 1) := by decide +kernel
theorem dX4_takeBack_5 : decode cX4_takeBack 5 = .ok (.getfield 10, 3) := by decide +kernel
theorem dX4_takeBack_8 : decode cX4_takeBack 8 = .ok (.invokevirtual 43, 3) := by decide +kernel
theorem dX4_takeBack_11 : decode cX4_takeBack 11 = .ok (.aload_n 0, 1) := by decide +kernel
theorem dX4_takeBack_12 : decode cX4_takeBack 12 = .ok (.aload_n 0, 1) := by decide +kernel
theorem dX4_takeBack_13 : decode cX4_takeBack 13 = .ok (.getfield 10, 3) := by decide +kernel
theorem dX4_takeBack_16 : decode cX4_takeBack 16 = .ok (.aload_n 0, 1) := by decide +kernel
theorem dX4_takeBack_17 : decode cX4_takeBack 17 = .ok (.getfield 32, 3) := by decide +kernel
theorem dX4_takeBack_20 : decode cX4_takeBack 20 = .ok (.iload_n 1, 1) := by decide +kernel
theorem dX4_takeBack_21 : decode cX4_takeBack 21 = .ok (.invokevirtual 78, 3) := by decide +kernel
theorem dX4_takeBack_24 : decode cX4_takeBack 24 = .ok (.invokevirtual 51, 3) := by decide +kernel
theorem dX4_takeBack_27 : decode cX4_takeBack 27 = .ok (.ireturn, 1) := by decide +kernel
theorem dX4_storm_0 : decode cX4_storm 0 = .ok (.aload_n 0, 1) := by decide +kernel
theorem dX4_storm_1 : decode cX4_storm 1 = .ok (.getfield 16, 3) := by decide +kernel
theorem dX4_storm_4 : decode cX4_storm 4 = .ok (.aload_n 0, 1) := by decide +kernel
theorem dX4_storm_5 : decode cX4_storm 5 = .ok (.getfield 10, 3) := by decide +kernel
theorem dX4_storm_8 : decode cX4_storm 8 = .ok (.invokevirtual 43, 3) := by decide +kernel
theorem dX4_storm_11 : decode cX4_storm 11 = .ok (.aload_n 0, 1) := by decide +kernel
theorem dX4_storm_12 : decode cX4_storm 12 = .ok (.aload_n 0, 1) := by decide +kernel
theorem dX4_storm_13 : decode cX4_storm 13 = .ok (.getfield 10, 3) := by decide +kernel
theorem dX4_storm_16 : decode cX4_storm 16 = .ok (.aload_n 0, 1) := by decide +kernel
theorem dX4_storm_17 : decode cX4_storm 17 = .ok (.invokevirtual 70, 3) := by decide +kernel
theorem dX4_storm_20 : decode cX4_storm 20 = .ok (.invokevirtual 82, 3) := by decide +kernel
theorem dX4_storm_23 : decode cX4_storm 23 = .ok (.invokevirtual 51, 3) := by decide +kernel
theorem dX4_storm_26 : decode cX4_storm 26 = .ok (.ireturn, 1) := by decide +kernel
theorem dX4_type_0 : decode cX4_type 0 = .ok (.aload_n 0, 1) := by decide +kernel
theorem dX4_type_1 : decode cX4_type 1 = .ok (.getfield 39, 3) := by decide +kernel
theorem dX4_type_4 : decode cX4_type 4 = .ok (.iload_n 1, 1) := by decide +kernel
theorem dX4_type_5 : decode cX4_type 5 = .ok (.invokevirtual 86, 3) := by decide +kernel
theorem dX4_type_8 : decode cX4_type 8 = .ok (.ireturn, 1) := by decide +kernel
theorem dX4_clearText_0 : decode cX4_clearText 0 = .ok (.aload_n 0, 1) := by decide +kernel
theorem dX4_clearText_1 : decode cX4_clearText 1 = .ok (.getfield 39, 3) := by decide +kernel
theorem dX4_clearText_4 : decode cX4_clearText 4 = .ok (.invokevirtual 90, 3) := by decide +kernel
theorem dX4_clearText_7 : decode cX4_clearText 7 = .ok (.ireturn, 1) := by decide +kernel
theorem dX4_perform_0 : decode cX4_perform 0 = .ok (.aload_n 0, 1) := by decide +kernel
theorem dX4_perform_1 : decode cX4_perform 1 = .ok (.getfield 39, 3) := by decide +kernel
theorem dX4_perform_4 : decode cX4_perform 4 = .ok (.invokevirtual 94, 3) := by decide +kernel
theorem dX4_perform_7 : decode cX4_perform 7 = .ok (.istore_n 1, 1) := by decide +kernel
theorem dX4_perform_8 : decode cX4_perform 8 = .ok (.iload_n 1, 1) := by decide +kernel
theorem dX4_perform_9 : decode cX4_perform 9 = .ok (.ifCond .ge 5, 3) := by decide +kernel
theorem dX4_perform_12 : decode cX4_perform 12 = .ok (.iload_n 1, 1) := by decide +kernel
theorem dX4_perform_13 : decode cX4_perform 13 = .ok (.ireturn, 1) := by decide +kernel
theorem dX4_perform_14 : decode cX4_perform 14 = .ok (.aload_n 0, 1) := by decide +kernel
theorem dX4_perform_15 : decode cX4_perform 15 = .ok (.getfield 16, 3) := by decide +kernel
theorem dX4_perform_18 : decode cX4_perform 18 = .ok (.aload_n 0, 1) := by decide +kernel
theorem dX4_perform_19 : decode cX4_perform 19 = .ok (.getfield 10, 3) := by decide +kernel
theorem dX4_perform_22 : decode cX4_perform 22 = .ok (.invokevirtual 43, 3) := by decide +kernel
theorem dX4_perform_25 : decode cX4_perform 25 = .ok (.aload_n 0, 1) := by decide +kernel
theorem dX4_perform_26 : decode cX4_perform 26 = .ok (.getfield 39, 3) := by decide +kernel
theorem dX4_perform_29 : decode cX4_perform 29 = .ok (.invokevirtual 97, 3) := by decide +kernel
theorem dX4_perform_32 : decode cX4_perform 32 = .ok (.iconst 0, 1) := by decide +kernel
theorem dX4_perform_33 : decode cX4_perform 33 = .ok (.istore_n 2, 1) := by decide +kernel
theorem dX4_perform_34 : decode cX4_perform 34 = .ok (.iload_n 2, 1) := by decide +kernel
theorem dX4_perform_35 : decode cX4_perform 35 = .ok (.iload_n 1, 1) := by decide +kernel
theorem dX4_perform_36 : decode cX4_perform 36 = .ok (.if_icmp .ge 52, 3) := by decide +kernel
theorem dX4_perform_39 : decode cX4_perform 39 = .ok (.aload_n 0, 1) := by decide +kernel
theorem dX4_perform_40 : decode cX4_perform 40 = .ok (.getfield 39, 3) := by decide +kernel
theorem dX4_perform_43 : decode cX4_perform 43 = .ok (.invokevirtual 100, 3) := by decide +kernel
theorem dX4_perform_46 : decode cX4_perform 46 = .ok (.aload_n 0, 1) := by decide +kernel
theorem dX4_perform_47 : decode cX4_perform 47 = .ok (.invokevirtual 103, 3) := by decide +kernel
theorem dX4_perform_50 : decode cX4_perform 50 = .ok (.istore_n 3, 1) := by decide +kernel
theorem dX4_perform_51 : decode cX4_perform 51 = .ok (.iload_n 3, 1) := by decide +kernel
theorem dX4_perform_52 : decode cX4_perform 52 = .ok (.invokestatic 106, 3) := by decide +kernel
theorem dX4_perform_55 : decode cX4_perform 55 = .ok (.ifCond .eq 27, 3) := by decide +kernel
theorem dX4_perform_58 : decode cX4_perform 58 = .ok (.aload_n 0, 1) := by decide +kernel
theorem dX4_perform_59 : decode cX4_perform 59 = .ok (.getfield 10, 3) := by decide +kernel
theorem dX4_perform_62 : decode cX4_perform 62 = .ok (.aload_n 0, 1) := by decide +kernel
theorem dX4_perform_63 : decode cX4_perform 63 = .ok (.getfield 16, 3) := by decide +kernel
theorem dX4_perform_66 : decode cX4_perform 66 = .ok (.invokevirtual 43, 3) := by decide +kernel
theorem dX4_perform_69 : decode cX4_perform 69 = .ok (.aload_n 0, 1) := by decide +kernel
theorem dX4_perform_70 : decode cX4_perform 70 = .ok (.iload_n 2, 1) := by decide +kernel
theorem dX4_perform_71 : decode cX4_perform 71 = .ok (.putfield 110, 3) := by decide +kernel
theorem dX4_perform_74 : decode cX4_perform 74 = .ok (.aload_n 0, 1) := by decide +kernel
theorem dX4_perform_75 : decode cX4_perform 75 = .ok (.iload_n 3, 1) := by decide +kernel
theorem dX4_perform_76 : decode cX4_perform 76 = .ok (.putfield 114, 3) := by decide +kernel
theorem dX4_perform_79 : decode cX4_perform 79 = .ok (.bipush (-4), 2) := by decide +kernel
theorem dX4_perform_81 : decode cX4_perform 81 = .ok (.ireturn, 1) := by decide +kernel
theorem dX4_perform_82 : decode cX4_perform 82 = .ok (.iinc 2 1, 3) := by decide +kernel
theorem dX4_perform_85 : decode cX4_perform 85 = .ok (.goto (-51), 3) := by decide +kernel
theorem dX4_perform_88 : decode cX4_perform 88 = .ok (.aload_n 0, 1) := by decide +kernel
theorem dX4_perform_89 : decode cX4_perform 89 = .ok (.iload_n 1, 1) := by decide +kernel
theorem dX4_perform_90 : decode cX4_perform 90 = .ok (.invokevirtual 51, 3) := by decide +kernel
theorem dX4_perform_93 : decode cX4_perform 93 = .ok (.ireturn, 1) := by decide +kernel
theorem dX4_stopped_0 : decode cX4_stopped 0 = .ok (.iload_n 1, 1) := by decide +kernel
theorem dX4_stopped_1 : decode cX4_stopped 1 = .ok (.iconst 0, 1) := by decide +kernel
theorem dX4_stopped_2 : decode cX4_stopped 2 = .ok (.iconst 1, 1) := by decide +kernel
theorem dX4_stopped_3 : decode cX4_stopped 3 = .ok (.invokestatic 117, 3) := by decide +kernel
theorem dX4_stopped_6 : decode cX4_stopped 6 = .ok (.ifCond .ne 6, 3) := by decide +kernel
theorem dX4_stopped_9 : decode cX4_stopped 9 = .ok (.bipush (-2), 2) := by decide +kernel
theorem dX4_stopped_11 : decode cX4_stopped 11 = .ok (.ireturn, 1) := by decide +kernel
theorem dX4_stopped_12 : decode cX4_stopped 12 = .ok (.aload_n 0, 1) := by decide +kernel
theorem dX4_stopped_13 : decode cX4_stopped 13 = .ok (.getfield 114, 3) := by decide +kernel
theorem dX4_stopped_16 : decode cX4_stopped 16 = .ok (.ifCond .ne 6, 3) := by decide +kernel
theorem dX4_stopped_19 : decode cX4_stopped 19 = .ok (.bipush (-5), 2) := by decide +kernel
theorem dX4_stopped_21 : decode cX4_stopped 21 = .ok (.ireturn, 1) := by decide +kernel
theorem dX4_stopped_22 : decode cX4_stopped 22 = .ok (.iload_n 1, 1) := by decide +kernel
theorem dX4_stopped_23 : decode cX4_stopped 23 = .ok (.ifCond .ne 10, 3) := by decide +kernel
theorem dX4_stopped_26 : decode cX4_stopped 26 = .ok (.aload_n 0, 1) := by decide +kernel
theorem dX4_stopped_27 : decode cX4_stopped 27 = .ok (.getfield 110, 3) := by decide +kernel
theorem dX4_stopped_30 : decode cX4_stopped 30 = .ok (.goto 7, 3) := by decide +kernel
theorem dX4_stopped_33 : decode cX4_stopped 33 = .ok (.aload_n 0, 1) := by decide +kernel
theorem dX4_stopped_34 : decode cX4_stopped 34 = .ok (.getfield 114, 3) := by decide +kernel
theorem dX4_stopped_37 : decode cX4_stopped 37 = .ok (.ireturn, 1) := by decide +kernel
theorem dX4_undo_0 : decode cX4_undo 0 = .ok (.aload_n 0, 1) := by decide +kernel
theorem dX4_undo_1 : decode cX4_undo 1 = .ok (.getfield 25, 3) := by decide +kernel
theorem dX4_undo_4 : decode cX4_undo 4 = .ok (.aload_n 0, 1) := by decide +kernel
theorem dX4_undo_5 : decode cX4_undo 5 = .ok (.getfield 10, 3) := by decide +kernel
theorem dX4_undo_8 : decode cX4_undo 8 = .ok (.invokevirtual 121, 3) := by decide +kernel
theorem dX4_undo_11 : decode cX4_undo 11 = .ok (.ifCond .eq 13, 3) := by decide +kernel
theorem dX4_undo_14 : decode cX4_undo 14 = .ok (.aload_n 0, 1) := by decide +kernel
theorem dX4_undo_15 : decode cX4_undo 15 = .ok (.getfield 25, 3) := by decide +kernel
theorem dX4_undo_18 : decode cX4_undo 18 = .ok (.getfield 125, 3) := by decide +kernel
theorem dX4_undo_21 : decode cX4_undo 21 = .ok (.goto 5, 3) := by decide +kernel
theorem dX4_undo_24 : decode cX4_undo 24 = .ok (.bipush (-5), 2) := by decide +kernel
theorem dX4_undo_26 : decode cX4_undo 26 = .ok (.ireturn, 1) := by decide +kernel
theorem dX4_keep_0 : decode cX4_keep 0 = .ok (.aload_n 0, 1) := by decide +kernel
theorem dX4_keep_1 : decode cX4_keep 1 = .ok (.getfield 19, 3) := by decide +kernel
theorem dX4_keep_4 : decode cX4_keep 4 = .ok (.aload_n 0, 1) := by decide +kernel
theorem dX4_keep_5 : decode cX4_keep 5 = .ok (.getfield 10, 3) := by decide +kernel
theorem dX4_keep_8 : decode cX4_keep 8 = .ok (.invokevirtual 43, 3) := by decide +kernel
theorem dX4_keep_11 : decode cX4_keep 11 = .ok (.aload_n 0, 1) := by decide +kernel
theorem dX4_keep_12 : decode cX4_keep 12 = .ok (.iconst 1, 1) := by decide +kernel
theorem dX4_keep_13 : decode cX4_keep 13 = .ok (.putfield 128, 3) := by decide +kernel
theorem dX4_keep_16 : decode cX4_keep 16 = .ok (.aload_n 0, 1) := by decide +kernel
theorem dX4_keep_17 : decode cX4_keep 17 = .ok (.getfield 10, 3) := by decide +kernel
theorem dX4_keep_20 : decode cX4_keep 20 = .ok (.getfield 132, 3) := by decide +kernel
theorem dX4_keep_23 : decode cX4_keep 23 = .ok (.ireturn, 1) := by decide +kernel
theorem dX4_restore_0 : decode cX4_restore 0 = .ok (.aload_n 0, 1) := by decide +kernel
theorem dX4_restore_1 : decode cX4_restore 1 = .ok (.getfield 128, 3) := by decide +kernel
theorem dX4_restore_4 : decode cX4_restore 4 = .ok (.ifCond .ne 6, 3) := by decide +kernel
theorem dX4_restore_7 : decode cX4_restore 7 = .ok (.bipush (-5), 2) := by decide +kernel
theorem dX4_restore_9 : decode cX4_restore 9 = .ok (.ireturn, 1) := by decide +kernel
theorem dX4_restore_10 : decode cX4_restore 10 = .ok (.aload_n 0, 1) := by decide +kernel
theorem dX4_restore_11 : decode cX4_restore 11 = .ok (.getfield 16, 3) := by decide +kernel
theorem dX4_restore_14 : decode cX4_restore 14 = .ok (.aload_n 0, 1) := by decide +kernel
theorem dX4_restore_15 : decode cX4_restore 15 = .ok (.getfield 10, 3) := by decide +kernel
theorem dX4_restore_18 : decode cX4_restore 18 = .ok (.invokevirtual 43, 3) := by decide +kernel
theorem dX4_restore_21 : decode cX4_restore 21 = .ok (.aload_n 0, 1) := by decide +kernel
theorem dX4_restore_22 : decode cX4_restore 22 = .ok (.getfield 10, 3) := by decide +kernel
theorem dX4_restore_25 : decode cX4_restore 25 = .ok (.aload_n 0, 1) := by decide +kernel
theorem dX4_restore_26 : decode cX4_restore 26 = .ok (.getfield 19, 3) := by decide +kernel
theorem dX4_restore_29 : decode cX4_restore 29 = .ok (.invokevirtual 43, 3) := by decide +kernel
theorem dX4_restore_32 : decode cX4_restore 32 = .ok (.aload_n 0, 1) := by decide +kernel
theorem dX4_restore_33 : decode cX4_restore 33 = .ok (.aload_n 0, 1) := by decide +kernel
theorem dX4_restore_34 : decode cX4_restore 34 = .ok (.getfield 10, 3) := by decide +kernel
theorem dX4_restore_37 : decode cX4_restore 37 = .ok (.getfield 132, 3) := by decide +kernel
theorem dX4_restore_40 : decode cX4_restore 40 = .ok (.invokevirtual 51, 3) := by decide +kernel
theorem dX4_restore_43 : decode cX4_restore 43 = .ok (.ireturn, 1) := by decide +kernel
theorem dX4_plot_0 : decode cX4_plot 0 = .ok (.iload_n 1, 1) := by decide +kernel
theorem dX4_plot_1 : decode cX4_plot 1 = .ok (.iconst 0, 1) := by decide +kernel
theorem dX4_plot_2 : decode cX4_plot 2 = .ok (.bipush 63, 2) := by decide +kernel
theorem dX4_plot_4 : decode cX4_plot 4 = .ok (.invokestatic 117, 3) := by decide +kernel
theorem dX4_plot_7 : decode cX4_plot 7 = .ok (.ifCond .ne 5, 3) := by decide +kernel
theorem dX4_plot_10 : decode cX4_plot 10 = .ok (.iconst (-1), 1) := by decide +kernel
theorem dX4_plot_11 : decode cX4_plot 11 = .ok (.ireturn, 1) := by decide +kernel
theorem dX4_plot_12 : decode cX4_plot 12 = .ok (.iload_n 2, 1) := by decide +kernel
theorem dX4_plot_13 : decode cX4_plot 13 = .ok (.tableswitch 147 0 6 #[43, 53, 61, 74, 95, 116, 129], 43) := by decide +kernel
theorem dX4_plot_56 : decode cX4_plot 56 = .ok (.aload_n 0, 1) := by decide +kernel
theorem dX4_plot_57 : decode cX4_plot 57 = .ok (.getfield 10, 3) := by decide +kernel
theorem dX4_plot_60 : decode cX4_plot 60 = .ok (.getfield 135, 3) := by decide +kernel
theorem dX4_plot_63 : decode cX4_plot 63 = .ok (.iload_n 1, 1) := by decide +kernel
theorem dX4_plot_64 : decode cX4_plot 64 = .ok (.iaload, 1) := by decide +kernel
theorem dX4_plot_65 : decode cX4_plot 65 = .ok (.ireturn, 1) := by decide +kernel
theorem dX4_plot_66 : decode cX4_plot 66 = .ok (.aload_n 0, 1) := by decide +kernel
theorem dX4_plot_67 : decode cX4_plot 67 = .ok (.getfield 10, 3) := by decide +kernel
theorem dX4_plot_70 : decode cX4_plot 70 = .ok (.getfield 139, 3) := by decide +kernel
theorem dX4_plot_73 : decode cX4_plot 73 = .ok (.ireturn, 1) := by decide +kernel
theorem dX4_plot_74 : decode cX4_plot 74 = .ok (.aload_n 0, 1) := by decide +kernel
theorem dX4_plot_75 : decode cX4_plot 75 = .ok (.getfield 10, 3) := by decide +kernel
theorem dX4_plot_78 : decode cX4_plot 78 = .ok (.aload_n 0, 1) := by decide +kernel
theorem dX4_plot_79 : decode cX4_plot 79 = .ok (.invokevirtual 70, 3) := by decide +kernel
theorem dX4_plot_82 : decode cX4_plot 82 = .ok (.iload_n 1, 1) := by decide +kernel
theorem dX4_plot_83 : decode cX4_plot 83 = .ok (.invokevirtual 142, 3) := by decide +kernel
theorem dX4_plot_86 : decode cX4_plot 86 = .ok (.ireturn, 1) := by decide +kernel
theorem dX4_plot_87 : decode cX4_plot 87 = .ok (.aload_n 0, 1) := by decide +kernel
theorem dX4_plot_88 : decode cX4_plot 88 = .ok (.getfield 10, 3) := by decide +kernel
theorem dX4_plot_91 : decode cX4_plot 91 = .ok (.aload_n 0, 1) := by decide +kernel
theorem dX4_plot_92 : decode cX4_plot 92 = .ok (.invokevirtual 70, 3) := by decide +kernel
theorem dX4_plot_95 : decode cX4_plot 95 = .ok (.iload_n 1, 1) := by decide +kernel
theorem dX4_plot_96 : decode cX4_plot 96 = .ok (.invokevirtual 145, 3) := by decide +kernel
theorem dX4_plot_99 : decode cX4_plot 99 = .ok (.ifCond .eq 7, 3) := by decide +kernel
theorem dX4_plot_102 : decode cX4_plot 102 = .ok (.iconst 1, 1) := by decide +kernel
theorem dX4_plot_103 : decode cX4_plot 103 = .ok (.goto 4, 3) := by decide +kernel
theorem dX4_plot_106 : decode cX4_plot 106 = .ok (.iconst 0, 1) := by decide +kernel
theorem dX4_plot_107 : decode cX4_plot 107 = .ok (.ireturn, 1) := by decide +kernel
theorem dX4_plot_108 : decode cX4_plot 108 = .ok (.aload_n 0, 1) := by decide +kernel
theorem dX4_plot_109 : decode cX4_plot 109 = .ok (.getfield 10, 3) := by decide +kernel
theorem dX4_plot_112 : decode cX4_plot 112 = .ok (.aload_n 0, 1) := by decide +kernel
theorem dX4_plot_113 : decode cX4_plot 113 = .ok (.invokevirtual 70, 3) := by decide +kernel
theorem dX4_plot_116 : decode cX4_plot 116 = .ok (.iload_n 1, 1) := by decide +kernel
theorem dX4_plot_117 : decode cX4_plot 117 = .ok (.invokevirtual 149, 3) := by decide +kernel
theorem dX4_plot_120 : decode cX4_plot 120 = .ok (.ifCond .eq 7, 3) := by decide +kernel
theorem dX4_plot_123 : decode cX4_plot 123 = .ok (.iconst 1, 1) := by decide +kernel
theorem dX4_plot_124 : decode cX4_plot 124 = .ok (.goto 4, 3) := by decide +kernel
theorem dX4_plot_127 : decode cX4_plot 127 = .ok (.iconst 0, 1) := by decide +kernel
theorem dX4_plot_128 : decode cX4_plot 128 = .ok (.ireturn, 1) := by decide +kernel
theorem dX4_plot_129 : decode cX4_plot 129 = .ok (.aload_n 0, 1) := by decide +kernel
theorem dX4_plot_130 : decode cX4_plot 130 = .ok (.getfield 10, 3) := by decide +kernel
theorem dX4_plot_133 : decode cX4_plot 133 = .ok (.aload_n 0, 1) := by decide +kernel
theorem dX4_plot_134 : decode cX4_plot 134 = .ok (.invokevirtual 70, 3) := by decide +kernel
theorem dX4_plot_137 : decode cX4_plot 137 = .ok (.iload_n 1, 1) := by decide +kernel
theorem dX4_plot_138 : decode cX4_plot 138 = .ok (.invokevirtual 152, 3) := by decide +kernel
theorem dX4_plot_141 : decode cX4_plot 141 = .ok (.ireturn, 1) := by decide +kernel
theorem dX4_plot_142 : decode cX4_plot 142 = .ok (.aload_n 0, 1) := by decide +kernel
theorem dX4_plot_143 : decode cX4_plot 143 = .ok (.getfield 10, 3) := by decide +kernel
theorem dX4_plot_146 : decode cX4_plot 146 = .ok (.getfield 155, 3) := by decide +kernel
theorem dX4_plot_149 : decode cX4_plot 149 = .ok (.iload_n 1, 1) := by decide +kernel
theorem dX4_plot_150 : decode cX4_plot 150 = .ok (.baload, 1) := by decide +kernel
theorem dX4_plot_151 : decode cX4_plot 151 = .ok (.ifCond .eq 7, 3) := by decide +kernel
theorem dX4_plot_154 : decode cX4_plot 154 = .ok (.iconst 1, 1) := by decide +kernel
theorem dX4_plot_155 : decode cX4_plot 155 = .ok (.goto 4, 3) := by decide +kernel
theorem dX4_plot_158 : decode cX4_plot 158 = .ok (.iconst 0, 1) := by decide +kernel
theorem dX4_plot_159 : decode cX4_plot 159 = .ok (.ireturn, 1) := by decide +kernel
theorem dX4_plot_160 : decode cX4_plot 160 = .ok (.bipush (-2), 2) := by decide +kernel
theorem dX4_plot_162 : decode cX4_plot 162 = .ok (.ireturn, 1) := by decide +kernel
theorem dX4_crew_0 : decode cX4_crew 0 = .ok (.iload_n 1, 1) := by decide +kernel
theorem dX4_crew_1 : decode cX4_crew 1 = .ok (.iconst 0, 1) := by decide +kernel
theorem dX4_crew_2 : decode cX4_crew 2 = .ok (.iconst 2, 1) := by decide +kernel
theorem dX4_crew_3 : decode cX4_crew 3 = .ok (.invokestatic 117, 3) := by decide +kernel
theorem dX4_crew_6 : decode cX4_crew 6 = .ok (.ifCond .ne 5, 3) := by decide +kernel
theorem dX4_crew_9 : decode cX4_crew 9 = .ok (.iconst (-1), 1) := by decide +kernel
theorem dX4_crew_10 : decode cX4_crew 10 = .ok (.ireturn, 1) := by decide +kernel
theorem dX4_crew_11 : decode cX4_crew 11 = .ok (.iload_n 2, 1) := by decide +kernel
theorem dX4_crew_12 : decode cX4_crew 12 = .ok (.tableswitch 72 0 3 #[32, 42, 52, 62], 32) := by decide +kernel
theorem dX4_crew_44 : decode cX4_crew 44 = .ok (.aload_n 0, 1) := by decide +kernel
theorem dX4_crew_45 : decode cX4_crew 45 = .ok (.getfield 10, 3) := by decide +kernel
theorem dX4_crew_48 : decode cX4_crew 48 = .ok (.getfield 159, 3) := by decide +kernel
theorem dX4_crew_51 : decode cX4_crew 51 = .ok (.iload_n 1, 1) := by decide +kernel
theorem dX4_crew_52 : decode cX4_crew 52 = .ok (.iaload, 1) := by decide +kernel
theorem dX4_crew_53 : decode cX4_crew 53 = .ok (.ireturn, 1) := by decide +kernel
theorem dX4_crew_54 : decode cX4_crew 54 = .ok (.aload_n 0, 1) := by decide +kernel
theorem dX4_crew_55 : decode cX4_crew 55 = .ok (.getfield 10, 3) := by decide +kernel
theorem dX4_crew_58 : decode cX4_crew 58 = .ok (.getfield 162, 3) := by decide +kernel
theorem dX4_crew_61 : decode cX4_crew 61 = .ok (.iload_n 1, 1) := by decide +kernel
theorem dX4_crew_62 : decode cX4_crew 62 = .ok (.iaload, 1) := by decide +kernel
theorem dX4_crew_63 : decode cX4_crew 63 = .ok (.ireturn, 1) := by decide +kernel
theorem dX4_crew_64 : decode cX4_crew 64 = .ok (.aload_n 0, 1) := by decide +kernel
theorem dX4_crew_65 : decode cX4_crew 65 = .ok (.getfield 10, 3) := by decide +kernel
theorem dX4_crew_68 : decode cX4_crew 68 = .ok (.getfield 165, 3) := by decide +kernel
theorem dX4_crew_71 : decode cX4_crew 71 = .ok (.iload_n 1, 1) := by decide +kernel
theorem dX4_crew_72 : decode cX4_crew 72 = .ok (.iaload, 1) := by decide +kernel
theorem dX4_crew_73 : decode cX4_crew 73 = .ok (.ireturn, 1) := by decide +kernel
theorem dX4_crew_74 : decode cX4_crew 74 = .ok (.aload_n 0, 1) := by decide +kernel
theorem dX4_crew_75 : decode cX4_crew 75 = .ok (.getfield 10, 3) := by decide +kernel
theorem dX4_crew_78 : decode cX4_crew 78 = .ok (.getfield 168, 3) := by decide +kernel
theorem dX4_crew_81 : decode cX4_crew 81 = .ok (.iload_n 1, 1) := by decide +kernel
theorem dX4_crew_82 : decode cX4_crew 82 = .ok (.iaload, 1) := by decide +kernel
theorem dX4_crew_83 : decode cX4_crew 83 = .ok (.ireturn, 1) := by decide +kernel
theorem dX4_crew_84 : decode cX4_crew 84 = .ok (.bipush (-2), 2) := by decide +kernel
theorem dX4_crew_86 : decode cX4_crew 86 = .ok (.ireturn, 1) := by decide +kernel
theorem dX4_row_0 : decode cX4_row 0 = .ok (.iload_n 1, 1) := by decide +kernel
theorem dX4_row_1 : decode cX4_row 1 = .ok (.iconst 0, 1) := by decide +kernel
theorem dX4_row_2 : decode cX4_row 2 = .ok (.bipush 7, 2) := by decide +kernel
theorem dX4_row_4 : decode cX4_row 4 = .ok (.invokestatic 117, 3) := by decide +kernel
theorem dX4_row_7 : decode cX4_row 7 = .ok (.ifCond .ne 5, 3) := by decide +kernel
theorem dX4_row_10 : decode cX4_row 10 = .ok (.iconst (-1), 1) := by decide +kernel
theorem dX4_row_11 : decode cX4_row 11 = .ok (.ireturn, 1) := by decide +kernel
theorem dX4_row_12 : decode cX4_row 12 = .ok (.iload_n 2, 1) := by decide +kernel
theorem dX4_row_13 : decode cX4_row 13 = .ok (.tableswitch 55 0 2 #[27, 37, 46], 27) := by decide +kernel
theorem dX4_row_40 : decode cX4_row 40 = .ok (.aload_n 0, 1) := by decide +kernel
theorem dX4_row_41 : decode cX4_row 41 = .ok (.getfield 10, 3) := by decide +kernel
theorem dX4_row_44 : decode cX4_row 44 = .ok (.getfield 171, 3) := by decide +kernel
theorem dX4_row_47 : decode cX4_row 47 = .ok (.iload_n 1, 1) := by decide +kernel
theorem dX4_row_48 : decode cX4_row 48 = .ok (.iaload, 1) := by decide +kernel
theorem dX4_row_49 : decode cX4_row 49 = .ok (.ireturn, 1) := by decide +kernel
theorem dX4_row_50 : decode cX4_row 50 = .ok (.aload_n 0, 1) := by decide +kernel
theorem dX4_row_51 : decode cX4_row 51 = .ok (.invokevirtual 70, 3) := by decide +kernel
theorem dX4_row_54 : decode cX4_row 54 = .ok (.iload_n 1, 1) := by decide +kernel
theorem dX4_row_55 : decode cX4_row 55 = .ok (.invokevirtual 174, 3) := by decide +kernel
theorem dX4_row_58 : decode cX4_row 58 = .ok (.ireturn, 1) := by decide +kernel
theorem dX4_row_59 : decode cX4_row 59 = .ok (.aload_n 0, 1) := by decide +kernel
theorem dX4_row_60 : decode cX4_row 60 = .ok (.invokevirtual 70, 3) := by decide +kernel
theorem dX4_row_63 : decode cX4_row 63 = .ok (.iload_n 1, 1) := by decide +kernel
theorem dX4_row_64 : decode cX4_row 64 = .ok (.invokevirtual 177, 3) := by decide +kernel
theorem dX4_row_67 : decode cX4_row 67 = .ok (.ireturn, 1) := by decide +kernel
theorem dX4_row_68 : decode cX4_row 68 = .ok (.bipush (-2), 2) := by decide +kernel
theorem dX4_row_70 : decode cX4_row 70 = .ok (.ireturn, 1) := by decide +kernel
theorem dX4_way_0 : decode cX4_way 0 = .ok (.iload_n 1, 1) := by decide +kernel
theorem dX4_way_1 : decode cX4_way 1 = .ok (.iconst 0, 1) := by decide +kernel
theorem dX4_way_2 : decode cX4_way 2 = .ok (.iconst 2, 1) := by decide +kernel
theorem dX4_way_3 : decode cX4_way 3 = .ok (.invokestatic 117, 3) := by decide +kernel
theorem dX4_way_6 : decode cX4_way 6 = .ok (.ifCond .eq 13, 3) := by decide +kernel
theorem dX4_way_9 : decode cX4_way 9 = .ok (.iload_n 2, 1) := by decide +kernel
theorem dX4_way_10 : decode cX4_way 10 = .ok (.iconst 0, 1) := by decide +kernel
theorem dX4_way_11 : decode cX4_way 11 = .ok (.bipush 63, 2) := by decide +kernel
theorem dX4_way_13 : decode cX4_way 13 = .ok (.invokestatic 117, 3) := by decide +kernel
theorem dX4_way_16 : decode cX4_way 16 = .ok (.ifCond .ne 5, 3) := by decide +kernel
theorem dX4_way_19 : decode cX4_way 19 = .ok (.iconst (-1), 1) := by decide +kernel
theorem dX4_way_20 : decode cX4_way 20 = .ok (.ireturn, 1) := by decide +kernel
theorem dX4_way_21 : decode cX4_way 21 = .ok (.aload_n 0, 1) := by decide +kernel
theorem dX4_way_22 : decode cX4_way 22 = .ok (.getfield 10, 3) := by decide +kernel
theorem dX4_way_25 : decode cX4_way 25 = .ok (.iload_n 1, 1) := by decide +kernel
theorem dX4_way_26 : decode cX4_way 26 = .ok (.iload_n 2, 1) := by decide +kernel
theorem dX4_way_27 : decode cX4_way 27 = .ok (.invokevirtual 180, 3) := by decide +kernel
theorem dX4_way_30 : decode cX4_way 30 = .ok (.ireturn, 1) := by decide +kernel
theorem dX4_reason_0 : decode cX4_reason 0 = .ok (.iload_n 1, 1) := by decide +kernel
theorem dX4_reason_1 : decode cX4_reason 1 = .ok (.iconst 0, 1) := by decide +kernel
theorem dX4_reason_2 : decode cX4_reason 2 = .ok (.iconst 2, 1) := by decide +kernel
theorem dX4_reason_3 : decode cX4_reason 3 = .ok (.invokestatic 117, 3) := by decide +kernel
theorem dX4_reason_6 : decode cX4_reason 6 = .ok (.ifCond .eq 13, 3) := by decide +kernel
theorem dX4_reason_9 : decode cX4_reason 9 = .ok (.iload_n 2, 1) := by decide +kernel
theorem dX4_reason_10 : decode cX4_reason 10 = .ok (.iconst 0, 1) := by decide +kernel
theorem dX4_reason_11 : decode cX4_reason 11 = .ok (.bipush 63, 2) := by decide +kernel
theorem dX4_reason_13 : decode cX4_reason 13 = .ok (.invokestatic 117, 3) := by decide +kernel
theorem dX4_reason_16 : decode cX4_reason 16 = .ok (.ifCond .ne 5, 3) := by decide +kernel
theorem dX4_reason_19 : decode cX4_reason 19 = .ok (.iconst (-1), 1) := by decide +kernel
theorem dX4_reason_20 : decode cX4_reason 20 = .ok (.ireturn, 1) := by decide +kernel
theorem dX4_reason_21 : decode cX4_reason 21 = .ok (.aload_n 0, 1) := by decide +kernel
theorem dX4_reason_22 : decode cX4_reason 22 = .ok (.getfield 10, 3) := by decide +kernel
theorem dX4_reason_25 : decode cX4_reason 25 = .ok (.iload_n 1, 1) := by decide +kernel
theorem dX4_reason_26 : decode cX4_reason 26 = .ok (.iload_n 2, 1) := by decide +kernel
theorem dX4_reason_27 : decode cX4_reason 27 = .ok (.invokevirtual 183, 3) := by decide +kernel
theorem dX4_reason_30 : decode cX4_reason 30 = .ok (.ireturn, 1) := by decide +kernel
theorem dX4_best_0 : decode cX4_best 0 = .ok (.iload_n 1, 1) := by decide +kernel
theorem dX4_best_1 : decode cX4_best 1 = .ok (.iconst 0, 1) := by decide +kernel
theorem dX4_best_2 : decode cX4_best 2 = .ok (.iconst 2, 1) := by decide +kernel
theorem dX4_best_3 : decode cX4_best 3 = .ok (.invokestatic 117, 3) := by decide +kernel
theorem dX4_best_6 : decode cX4_best 6 = .ok (.ifCond .ne 5, 3) := by decide +kernel
theorem dX4_best_9 : decode cX4_best 9 = .ok (.iconst (-1), 1) := by decide +kernel
theorem dX4_best_10 : decode cX4_best 10 = .ok (.ireturn, 1) := by decide +kernel
theorem dX4_best_11 : decode cX4_best 11 = .ok (.aload_n 0, 1) := by decide +kernel
theorem dX4_best_12 : decode cX4_best 12 = .ok (.getfield 10, 3) := by decide +kernel
theorem dX4_best_15 : decode cX4_best 15 = .ok (.aload_n 0, 1) := by decide +kernel
theorem dX4_best_16 : decode cX4_best 16 = .ok (.invokevirtual 70, 3) := by decide +kernel
theorem dX4_best_19 : decode cX4_best 19 = .ok (.iload_n 1, 1) := by decide +kernel
theorem dX4_best_20 : decode cX4_best 20 = .ok (.invokevirtual 186, 3) := by decide +kernel
theorem dX4_best_23 : decode cX4_best 23 = .ok (.ireturn, 1) := by decide +kernel
theorem dX4_openRow_0 : decode cX4_openRow 0 = .ok (.aload_n 0, 1) := by decide +kernel
theorem dX4_openRow_1 : decode cX4_openRow 1 = .ok (.invokevirtual 70, 3) := by decide +kernel
theorem dX4_openRow_4 : decode cX4_openRow 4 = .ok (.invokevirtual 189, 3) := by decide +kernel
theorem dX4_openRow_7 : decode cX4_openRow 7 = .ok (.ireturn, 1) := by decide +kernel
theorem dX4_ifTold_0 : decode cX4_ifTold 0 = .ok (.iload_n 1, 1) := by decide +kernel
theorem dX4_ifTold_1 : decode cX4_ifTold 1 = .ok (.iconst 0, 1) := by decide +kernel
theorem dX4_ifTold_2 : decode cX4_ifTold 2 = .ok (.bipush 7, 2) := by decide +kernel
theorem dX4_ifTold_4 : decode cX4_ifTold 4 = .ok (.invokestatic 117, 3) := by decide +kernel
theorem dX4_ifTold_7 : decode cX4_ifTold 7 = .ok (.ifCond .ne 5, 3) := by decide +kernel
theorem dX4_ifTold_10 : decode cX4_ifTold 10 = .ok (.iconst (-1), 1) := by decide +kernel
theorem dX4_ifTold_11 : decode cX4_ifTold 11 = .ok (.ireturn, 1) := by decide +kernel
theorem dX4_ifTold_12 : decode cX4_ifTold 12 = .ok (.iload_n 2, 1) := by decide +kernel
theorem dX4_ifTold_13 : decode cX4_ifTold 13 = .ok (.iconst 0, 1) := by decide +kernel
theorem dX4_ifTold_14 : decode cX4_ifTold 14 = .ok (.bipush 7, 2) := by decide +kernel
theorem dX4_ifTold_16 : decode cX4_ifTold 16 = .ok (.invokestatic 117, 3) := by decide +kernel
theorem dX4_ifTold_19 : decode cX4_ifTold 19 = .ok (.ifCond .ne 6, 3) := by decide +kernel
theorem dX4_ifTold_22 : decode cX4_ifTold 22 = .ok (.bipush (-2), 2) := by decide +kernel
theorem dX4_ifTold_24 : decode cX4_ifTold 24 = .ok (.ireturn, 1) := by decide +kernel
theorem dX4_ifTold_25 : decode cX4_ifTold 25 = .ok (.aload_n 0, 1) := by decide +kernel
theorem dX4_ifTold_26 : decode cX4_ifTold 26 = .ok (.invokevirtual 70, 3) := by decide +kernel
theorem dX4_ifTold_29 : decode cX4_ifTold 29 = .ok (.iload_n 1, 1) := by decide +kernel
theorem dX4_ifTold_30 : decode cX4_ifTold 30 = .ok (.bipush 8, 2) := by decide +kernel
theorem dX4_ifTold_32 : decode cX4_ifTold 32 = .ok (.imul, 1) := by decide +kernel
theorem dX4_ifTold_33 : decode cX4_ifTold 33 = .ok (.iload_n 2, 1) := by decide +kernel
theorem dX4_ifTold_34 : decode cX4_ifTold 34 = .ok (.iadd, 1) := by decide +kernel
theorem dX4_ifTold_35 : decode cX4_ifTold 35 = .ok (.invokevirtual 192, 3) := by decide +kernel
theorem dX4_ifTold_38 : decode cX4_ifTold 38 = .ok (.ireturn, 1) := by decide +kernel
theorem dX4_count_0 : decode cX4_count 0 = .ok (.iload_n 1, 1) := by decide +kernel
theorem dX4_count_1 : decode cX4_count 1 = .ok (.tableswitch 237 0 16 #[83, 91, 99, 111, 123, 135, 143, 151, 159, 167, 175, 183, 191, 201, 211, 221, 229], 83) := by decide +kernel
theorem dX4_count_84 : decode cX4_count 84 = .ok (.aload_n 0, 1) := by decide +kernel
theorem dX4_count_85 : decode cX4_count 85 = .ok (.getfield 10, 3) := by decide +kernel
theorem dX4_count_88 : decode cX4_count 88 = .ok (.getfield 132, 3) := by decide +kernel
theorem dX4_count_91 : decode cX4_count 91 = .ok (.ireturn, 1) := by decide +kernel
theorem dX4_count_92 : decode cX4_count 92 = .ok (.aload_n 0, 1) := by decide +kernel
theorem dX4_count_93 : decode cX4_count 93 = .ok (.getfield 10, 3) := by decide +kernel
theorem dX4_count_96 : decode cX4_count 96 = .ok (.invokevirtual 195, 3) := by decide +kernel
theorem dX4_count_99 : decode cX4_count 99 = .ok (.ireturn, 1) := by decide +kernel
theorem dX4_count_100 : decode cX4_count 100 = .ok (.aload_n 0, 1) := by decide +kernel
theorem dX4_count_101 : decode cX4_count 101 = .ok (.getfield 10, 3) := by decide +kernel
theorem dX4_count_104 : decode cX4_count 104 = .ok (.aload_n 0, 1) := by decide +kernel
theorem dX4_count_105 : decode cX4_count 105 = .ok (.invokevirtual 70, 3) := by decide +kernel
theorem dX4_count_108 : decode cX4_count 108 = .ok (.invokevirtual 198, 3) := by decide +kernel
theorem dX4_count_111 : decode cX4_count 111 = .ok (.ireturn, 1) := by decide +kernel
theorem dX4_count_112 : decode cX4_count 112 = .ok (.aload_n 0, 1) := by decide +kernel
theorem dX4_count_113 : decode cX4_count 113 = .ok (.getfield 10, 3) := by decide +kernel
theorem dX4_count_116 : decode cX4_count 116 = .ok (.aload_n 0, 1) := by decide +kernel
theorem dX4_count_117 : decode cX4_count 117 = .ok (.invokevirtual 70, 3) := by decide +kernel
theorem dX4_count_120 : decode cX4_count 120 = .ok (.invokevirtual 201, 3) := by decide +kernel
theorem dX4_count_123 : decode cX4_count 123 = .ok (.ireturn, 1) := by decide +kernel
theorem dX4_count_124 : decode cX4_count 124 = .ok (.aload_n 0, 1) := by decide +kernel
theorem dX4_count_125 : decode cX4_count 125 = .ok (.getfield 10, 3) := by decide +kernel
theorem dX4_count_128 : decode cX4_count 128 = .ok (.aload_n 0, 1) := by decide +kernel
theorem dX4_count_129 : decode cX4_count 129 = .ok (.invokevirtual 70, 3) := by decide +kernel
theorem dX4_count_132 : decode cX4_count 132 = .ok (.invokevirtual 204, 3) := by decide +kernel
theorem dX4_count_135 : decode cX4_count 135 = .ok (.ireturn, 1) := by decide +kernel
theorem dX4_count_136 : decode cX4_count 136 = .ok (.aload_n 0, 1) := by decide +kernel
theorem dX4_count_137 : decode cX4_count 137 = .ok (.invokevirtual 70, 3) := by decide +kernel
theorem dX4_count_140 : decode cX4_count 140 = .ok (.getfield 207, 3) := by decide +kernel
theorem dX4_count_143 : decode cX4_count 143 = .ok (.ireturn, 1) := by decide +kernel
theorem dX4_count_144 : decode cX4_count 144 = .ok (.aload_n 0, 1) := by decide +kernel
theorem dX4_count_145 : decode cX4_count 145 = .ok (.getfield 10, 3) := by decide +kernel
theorem dX4_count_148 : decode cX4_count 148 = .ok (.invokevirtual 210, 3) := by decide +kernel
theorem dX4_count_151 : decode cX4_count 151 = .ok (.ireturn, 1) := by decide +kernel
theorem dX4_count_152 : decode cX4_count 152 = .ok (.aload_n 0, 1) := by decide +kernel
theorem dX4_count_153 : decode cX4_count 153 = .ok (.getfield 10, 3) := by decide +kernel
theorem dX4_count_156 : decode cX4_count 156 = .ok (.invokevirtual 213, 3) := by decide +kernel
theorem dX4_count_159 : decode cX4_count 159 = .ok (.ireturn, 1) := by decide +kernel
theorem dX4_count_160 : decode cX4_count 160 = .ok (.aload_n 0, 1) := by decide +kernel
theorem dX4_count_161 : decode cX4_count 161 = .ok (.getfield 10, 3) := by decide +kernel
theorem dX4_count_164 : decode cX4_count 164 = .ok (.getfield 216, 3) := by decide +kernel
theorem dX4_count_167 : decode cX4_count 167 = .ok (.ireturn, 1) := by decide +kernel
theorem dX4_count_168 : decode cX4_count 168 = .ok (.aload_n 0, 1) := by decide +kernel
theorem dX4_count_169 : decode cX4_count 169 = .ok (.getfield 10, 3) := by decide +kernel
theorem dX4_count_172 : decode cX4_count 172 = .ok (.getfield 219, 3) := by decide +kernel
theorem dX4_count_175 : decode cX4_count 175 = .ok (.ireturn, 1) := by decide +kernel
theorem dX4_count_176 : decode cX4_count 176 = .ok (.aload_n 0, 1) := by decide +kernel
theorem dX4_count_177 : decode cX4_count 177 = .ok (.getfield 10, 3) := by decide +kernel
theorem dX4_count_180 : decode cX4_count 180 = .ok (.getfield 222, 3) := by decide +kernel
theorem dX4_count_183 : decode cX4_count 183 = .ok (.ireturn, 1) := by decide +kernel
theorem dX4_count_184 : decode cX4_count 184 = .ok (.aload_n 0, 1) := by decide +kernel
theorem dX4_count_185 : decode cX4_count 185 = .ok (.getfield 10, 3) := by decide +kernel
theorem dX4_count_188 : decode cX4_count 188 = .ok (.invokevirtual 225, 3) := by decide +kernel
theorem dX4_count_191 : decode cX4_count 191 = .ok (.ireturn, 1) := by decide +kernel
theorem dX4_count_192 : decode cX4_count 192 = .ok (.aload_n 0, 1) := by decide +kernel
theorem dX4_count_193 : decode cX4_count 193 = .ok (.getfield 10, 3) := by decide +kernel
theorem dX4_count_196 : decode cX4_count 196 = .ok (.getfield 228, 3) := by decide +kernel
theorem dX4_count_199 : decode cX4_count 199 = .ok (.iconst 0, 1) := by decide +kernel
theorem dX4_count_200 : decode cX4_count 200 = .ok (.iaload, 1) := by decide +kernel
theorem dX4_count_201 : decode cX4_count 201 = .ok (.ireturn, 1) := by decide +kernel
theorem dX4_count_202 : decode cX4_count 202 = .ok (.aload_n 0, 1) := by decide +kernel
theorem dX4_count_203 : decode cX4_count 203 = .ok (.getfield 10, 3) := by decide +kernel
theorem dX4_count_206 : decode cX4_count 206 = .ok (.getfield 228, 3) := by decide +kernel
theorem dX4_count_209 : decode cX4_count 209 = .ok (.iconst 1, 1) := by decide +kernel
theorem dX4_count_210 : decode cX4_count 210 = .ok (.iaload, 1) := by decide +kernel
theorem dX4_count_211 : decode cX4_count 211 = .ok (.ireturn, 1) := by decide +kernel
theorem dX4_count_212 : decode cX4_count 212 = .ok (.aload_n 0, 1) := by decide +kernel
theorem dX4_count_213 : decode cX4_count 213 = .ok (.getfield 10, 3) := by decide +kernel
theorem dX4_count_216 : decode cX4_count 216 = .ok (.getfield 228, 3) := by decide +kernel
theorem dX4_count_219 : decode cX4_count 219 = .ok (.iconst 2, 1) := by decide +kernel
theorem dX4_count_220 : decode cX4_count 220 = .ok (.iaload, 1) := by decide +kernel
theorem dX4_count_221 : decode cX4_count 221 = .ok (.ireturn, 1) := by decide +kernel
theorem dX4_count_222 : decode cX4_count 222 = .ok (.aload_n 0, 1) := by decide +kernel
theorem dX4_count_223 : decode cX4_count 223 = .ok (.getfield 25, 3) := by decide +kernel
theorem dX4_count_226 : decode cX4_count 226 = .ok (.getfield 125, 3) := by decide +kernel
theorem dX4_count_229 : decode cX4_count 229 = .ok (.ireturn, 1) := by decide +kernel
theorem dX4_count_230 : decode cX4_count 230 = .ok (.aload_n 0, 1) := by decide +kernel
theorem dX4_count_231 : decode cX4_count 231 = .ok (.getfield 39, 3) := by decide +kernel
theorem dX4_count_234 : decode cX4_count 234 = .ok (.getfield 231, 3) := by decide +kernel
theorem dX4_count_237 : decode cX4_count 237 = .ok (.ireturn, 1) := by decide +kernel
theorem dX4_count_238 : decode cX4_count 238 = .ok (.bipush (-2), 2) := by decide +kernel
theorem dX4_count_240 : decode cX4_count 240 = .ok (.ireturn, 1) := by decide +kernel
theorem dX4_isIn_0 : decode cX4_isIn 0 = .ok (.iload_n 0, 1) := by decide +kernel
theorem dX4_isIn_1 : decode cX4_isIn 1 = .ok (.iload_n 1, 1) := by decide +kernel
theorem dX4_isIn_2 : decode cX4_isIn 2 = .ok (.if_icmp .lt 12, 3) := by decide +kernel
theorem dX4_isIn_5 : decode cX4_isIn 5 = .ok (.iload_n 0, 1) := by decide +kernel
theorem dX4_isIn_6 : decode cX4_isIn 6 = .ok (.iload_n 2, 1) := by decide +kernel
theorem dX4_isIn_7 : decode cX4_isIn 7 = .ok (.if_icmp .gt 7, 3) := by decide +kernel
theorem dX4_isIn_10 : decode cX4_isIn 10 = .ok (.iconst 1, 1) := by decide +kernel
theorem dX4_isIn_11 : decode cX4_isIn 11 = .ok (.goto 4, 3) := by decide +kernel
theorem dX4_isIn_14 : decode cX4_isIn 14 = .ok (.iconst 0, 1) := by decide +kernel
theorem dX4_isIn_15 : decode cX4_isIn 15 = .ok (.ireturn, 1) := by decide +kernel
theorem dX4_isError_0 : decode cX4_isError 0 = .ok (.iload_n 0, 1) := by decide +kernel
theorem dX4_isError_1 : decode cX4_isError 1 = .ok (.ifCond .ge 13, 3) := by decide +kernel
theorem dX4_isError_4 : decode cX4_isError 4 = .ok (.iload_n 0, 1) := by decide +kernel
theorem dX4_isError_5 : decode cX4_isError 5 = .ok (.bipush (-5), 2) := by decide +kernel
theorem dX4_isError_7 : decode cX4_isError 7 = .ok (.if_icmp .eq 7, 3) := by decide +kernel
theorem dX4_isError_10 : decode cX4_isError 10 = .ok (.iconst 1, 1) := by decide +kernel
theorem dX4_isError_11 : decode cX4_isError 11 = .ok (.goto 4, 3) := by decide +kernel
theorem dX4_isError_14 : decode cX4_isError 14 = .ok (.iconst 0, 1) := by decide +kernel
theorem dX4_isError_15 : decode cX4_isError 15 = .ok (.ireturn, 1) := by decide +kernel
theorem dX4_recorded_0 : decode cX4_recorded 0 = .ok (.iload_n 1, 1) := by decide +kernel
theorem dX4_recorded_1 : decode cX4_recorded 1 = .ok (.ifCond .lt 14, 3) := by decide +kernel
theorem dX4_recorded_4 : decode cX4_recorded 4 = .ok (.aload_n 0, 1) := by decide +kernel
theorem dX4_recorded_5 : decode cX4_recorded 5 = .ok (.getfield 25, 3) := by decide +kernel
theorem dX4_recorded_8 : decode cX4_recorded 8 = .ok (.aload_n 0, 1) := by decide +kernel
theorem dX4_recorded_9 : decode cX4_recorded 9 = .ok (.getfield 16, 3) := by decide +kernel
theorem dX4_recorded_12 : decode cX4_recorded 12 = .ok (.invokevirtual 234, 3) := by decide +kernel
theorem dX4_recorded_15 : decode cX4_recorded 15 = .ok (.iload_n 1, 1) := by decide +kernel
theorem dX4_recorded_16 : decode cX4_recorded 16 = .ok (.ireturn, 1) := by decide +kernel
theorem dX4_pathsLeft_0 : decode cX4_pathsLeft 0 = .ok (.aload_n 0, 1) := by decide +kernel
theorem dX4_pathsLeft_1 : decode cX4_pathsLeft 1 = .ok (.getfield 32, 3) := by decide +kernel
theorem dX4_pathsLeft_4 : decode cX4_pathsLeft 4 = .ok (.aload_n 0, 1) := by decide +kernel
theorem dX4_pathsLeft_5 : decode cX4_pathsLeft 5 = .ok (.getfield 10, 3) := by decide +kernel
theorem dX4_pathsLeft_8 : decode cX4_pathsLeft 8 = .ok (.getfield 171, 3) := by decide +kernel
theorem dX4_pathsLeft_11 : decode cX4_pathsLeft 11 = .ok (.invokevirtual 237, 3) := by decide +kernel
theorem dX4_pathsLeft_14 : decode cX4_pathsLeft 14 = .ok (.aload_n 0, 1) := by decide +kernel
theorem dX4_pathsLeft_15 : decode cX4_pathsLeft 15 = .ok (.getfield 32, 3) := by decide +kernel
theorem dX4_pathsLeft_18 : decode cX4_pathsLeft 18 = .ok (.areturn, 1) := by decide +kernel
theorem dX4_doThing_0 : decode cX4_doThing 0 = .ok (.aload_n 0, 1) := by decide +kernel
theorem dX4_doThing_1 : decode cX4_doThing 1 = .ok (.getfield 39, 3) := by decide +kernel
theorem dX4_doThing_4 : decode cX4_doThing 4 = .ok (.getfield 241, 3) := by decide +kernel
theorem dX4_doThing_7 : decode cX4_doThing 7 = .ok (.istore_n 1, 1) := by decide +kernel
theorem dX4_doThing_8 : decode cX4_doThing 8 = .ok (.aload_n 0, 1) := by decide +kernel
theorem dX4_doThing_9 : decode cX4_doThing 9 = .ok (.getfield 39, 3) := by decide +kernel
theorem dX4_doThing_12 : decode cX4_doThing 12 = .ok (.getfield 244, 3) := by decide +kernel
theorem dX4_doThing_15 : decode cX4_doThing 15 = .ok (.istore_n 2, 1) := by decide +kernel
theorem dX4_doThing_16 : decode cX4_doThing 16 = .ok (.aload_n 0, 1) := by decide +kernel
theorem dX4_doThing_17 : decode cX4_doThing 17 = .ok (.getfield 39, 3) := by decide +kernel
theorem dX4_doThing_20 : decode cX4_doThing 20 = .ok (.getfield 247, 3) := by decide +kernel
theorem dX4_doThing_23 : decode cX4_doThing 23 = .ok (.bipush 116, 2) := by decide +kernel
theorem dX4_doThing_25 : decode cX4_doThing 25 = .ok (.if_icmp .ne 13, 3) := by decide +kernel
theorem dX4_doThing_28 : decode cX4_doThing 28 = .ok (.aload_n 0, 1) := by decide +kernel
theorem dX4_doThing_29 : decode cX4_doThing 29 = .ok (.getfield 10, 3) := by decide +kernel
theorem dX4_doThing_32 : decode cX4_doThing 32 = .ok (.iload_n 1, 1) := by decide +kernel
theorem dX4_doThing_33 : decode cX4_doThing 33 = .ok (.iload_n 2, 1) := by decide +kernel
theorem dX4_doThing_34 : decode cX4_doThing 34 = .ok (.invokevirtual 47, 3) := by decide +kernel
theorem dX4_doThing_37 : decode cX4_doThing 37 = .ok (.ireturn, 1) := by decide +kernel
theorem dX4_doThing_38 : decode cX4_doThing 38 = .ok (.aload_n 0, 1) := by decide +kernel
theorem dX4_doThing_39 : decode cX4_doThing 39 = .ok (.getfield 39, 3) := by decide +kernel
theorem dX4_doThing_42 : decode cX4_doThing 42 = .ok (.getfield 247, 3) := by decide +kernel
theorem dX4_doThing_45 : decode cX4_doThing 45 = .ok (.bipush 114, 2) := by decide +kernel
theorem dX4_doThing_47 : decode cX4_doThing 47 = .ok (.if_icmp .ne 12, 3) := by decide +kernel
theorem dX4_doThing_50 : decode cX4_doThing 50 = .ok (.aload_n 0, 1) := by decide +kernel
theorem dX4_doThing_51 : decode cX4_doThing 51 = .ok (.getfield 10, 3) := by decide +kernel
theorem dX4_doThing_54 : decode cX4_doThing 54 = .ok (.iload_n 1, 1) := by decide +kernel
theorem dX4_doThing_55 : decode cX4_doThing 55 = .ok (.invokevirtual 55, 3) := by decide +kernel
theorem dX4_doThing_58 : decode cX4_doThing 58 = .ok (.ireturn, 1) := by decide +kernel
theorem dX4_doThing_59 : decode cX4_doThing 59 = .ok (.aload_n 0, 1) := by decide +kernel
theorem dX4_doThing_60 : decode cX4_doThing 60 = .ok (.getfield 39, 3) := by decide +kernel
theorem dX4_doThing_63 : decode cX4_doThing 63 = .ok (.getfield 247, 3) := by decide +kernel
theorem dX4_doThing_66 : decode cX4_doThing 66 = .ok (.bipush 104, 2) := by decide +kernel
theorem dX4_doThing_68 : decode cX4_doThing 68 = .ok (.if_icmp .ne 17, 3) := by decide +kernel
theorem dX4_doThing_71 : decode cX4_doThing 71 = .ok (.aload_n 0, 1) := by decide +kernel
theorem dX4_doThing_72 : decode cX4_doThing 72 = .ok (.getfield 10, 3) := by decide +kernel
theorem dX4_doThing_75 : decode cX4_doThing 75 = .ok (.aload_n 0, 1) := by decide +kernel
theorem dX4_doThing_76 : decode cX4_doThing 76 = .ok (.invokevirtual 70, 3) := by decide +kernel
theorem dX4_doThing_79 : decode cX4_doThing 79 = .ok (.iload_n 1, 1) := by decide +kernel
theorem dX4_doThing_80 : decode cX4_doThing 80 = .ok (.iload_n 2, 1) := by decide +kernel
theorem dX4_doThing_81 : decode cX4_doThing 81 = .ok (.invokevirtual 74, 3) := by decide +kernel
theorem dX4_doThing_84 : decode cX4_doThing 84 = .ok (.ireturn, 1) := by decide +kernel
theorem dX4_doThing_85 : decode cX4_doThing 85 = .ok (.aload_n 0, 1) := by decide +kernel
theorem dX4_doThing_86 : decode cX4_doThing 86 = .ok (.getfield 39, 3) := by decide +kernel
theorem dX4_doThing_89 : decode cX4_doThing 89 = .ok (.getfield 247, 3) := by decide +kernel
theorem dX4_doThing_92 : decode cX4_doThing 92 = .ok (.bipush 103, 2) := by decide +kernel
theorem dX4_doThing_94 : decode cX4_doThing 94 = .ok (.if_icmp .ne 13, 3) := by decide +kernel
theorem dX4_doThing_97 : decode cX4_doThing 97 = .ok (.aload_n 0, 1) := by decide +kernel
theorem dX4_doThing_98 : decode cX4_doThing 98 = .ok (.getfield 10, 3) := by decide +kernel
theorem dX4_doThing_101 : decode cX4_doThing 101 = .ok (.iload_n 1, 1) := by decide +kernel
theorem dX4_doThing_102 : decode cX4_doThing 102 = .ok (.iload_n 2, 1) := by decide +kernel
theorem dX4_doThing_103 : decode cX4_doThing 103 = .ok (.invokevirtual 64, 3) := by decide +kernel
theorem dX4_doThing_106 : decode cX4_doThing 106 = .ok (.ireturn, 1) := by decide +kernel
theorem dX4_doThing_107 : decode cX4_doThing 107 = .ok (.aload_n 0, 1) := by decide +kernel
theorem dX4_doThing_108 : decode cX4_doThing 108 = .ok (.getfield 39, 3) := by decide +kernel
theorem dX4_doThing_111 : decode cX4_doThing 111 = .ok (.getfield 247, 3) := by decide +kernel
theorem dX4_doThing_114 : decode cX4_doThing 114 = .ok (.bipush 102, 2) := by decide +kernel
theorem dX4_doThing_116 : decode cX4_doThing 116 = .ok (.if_icmp .ne 12, 3) := by decide +kernel
theorem dX4_doThing_119 : decode cX4_doThing 119 = .ok (.aload_n 0, 1) := by decide +kernel
theorem dX4_doThing_120 : decode cX4_doThing 120 = .ok (.getfield 10, 3) := by decide +kernel
theorem dX4_doThing_123 : decode cX4_doThing 123 = .ok (.iload_n 1, 1) := by decide +kernel
theorem dX4_doThing_124 : decode cX4_doThing 124 = .ok (.invokevirtual 67, 3) := by decide +kernel
theorem dX4_doThing_127 : decode cX4_doThing 127 = .ok (.ireturn, 1) := by decide +kernel
theorem dX4_doThing_128 : decode cX4_doThing 128 = .ok (.aload_n 0, 1) := by decide +kernel
theorem dX4_doThing_129 : decode cX4_doThing 129 = .ok (.getfield 10, 3) := by decide +kernel
theorem dX4_doThing_132 : decode cX4_doThing 132 = .ok (.iload_n 1, 1) := by decide +kernel
theorem dX4_doThing_133 : decode cX4_doThing 133 = .ok (.invokevirtual 58, 3) := by decide +kernel
theorem dX4_doThing_136 : decode cX4_doThing 136 = .ok (.ireturn, 1) := by decide +kernel
theorem dX5_init_0 : decode cX5_init 0 = .ok (.aload_n 0, 1) := by decide +kernel
theorem dX5_init_1 : decode cX5_init 1 = .ok (.invokespecial 1, 3) := by decide +kernel
theorem dX5_init_4 : decode cX5_init 4 = .ok (.aload_n 0, 1) := by decide +kernel
theorem dX5_init_5 : decode cX5_init 5 = .ok (.sipush 220, 3) := by decide +kernel
theorem dX5_init_8 : decode cX5_init 8 = .ok (.newarray .int, 2) := by decide +kernel
theorem dX5_init_10 : decode cX5_init 10 = .ok (.putfield 7, 3) := by decide +kernel
theorem dX5_init_13 : decode cX5_init 13 = .ok (.aload_n 0, 1) := by decide +kernel
theorem dX5_init_14 : decode cX5_init 14 = .ok (.sipush 220, 3) := by decide +kernel
theorem dX5_init_17 : decode cX5_init 17 = .ok (.newarray .int, 2) := by decide +kernel
theorem dX5_init_19 : decode cX5_init 19 = .ok (.putfield 13, 3) := by decide +kernel
theorem dX5_init_22 : decode cX5_init 22 = .ok (.aload_n 0, 1) := by decide +kernel
theorem dX5_init_23 : decode cX5_init 23 = .ok (.sipush 880, 3) := by decide +kernel
theorem dX5_init_26 : decode cX5_init 26 = .ok (.newarray .int, 2) := by decide +kernel
theorem dX5_init_28 : decode cX5_init 28 = .ok (.putfield 16, 3) := by decide +kernel
theorem dX5_init_31 : decode cX5_init 31 = .ok (.aload_n 0, 1) := by decide +kernel
theorem dX5_init_32 : decode cX5_init 32 = .ok (.sipush 220, 3) := by decide +kernel
theorem dX5_init_35 : decode cX5_init 35 = .ok (.newarray .int, 2) := by decide +kernel
theorem dX5_init_37 : decode cX5_init 37 = .ok (.putfield 19, 3) := by decide +kernel
theorem dX5_init_40 : decode cX5_init 40 = .ok (.aload_n 0, 1) := by decide +kernel
theorem dX5_init_41 : decode cX5_init 41 = .ok (.bipush 60, 2) := by decide +kernel
theorem dX5_init_43 : decode cX5_init 43 = .ok (.newarray .int, 2) := by decide +kernel
theorem dX5_init_45 : decode cX5_init 45 = .ok (.putfield 22, 3) := by decide +kernel
theorem dX5_init_48 : decode cX5_init 48 = .ok (.aload_n 0, 1) := by decide +kernel
theorem dX5_init_49 : decode cX5_init 49 = .ok (.bipush 64, 2) := by decide +kernel
theorem dX5_init_51 : decode cX5_init 51 = .ok (.newarray .int, 2) := by decide +kernel
theorem dX5_init_53 : decode cX5_init 53 = .ok (.putfield 25, 3) := by decide +kernel
theorem dX5_init_56 : decode cX5_init 56 = .ok (.aload_n 0, 1) := by decide +kernel
theorem dX5_init_57 : decode cX5_init 57 = .ok (.bipush 64, 2) := by decide +kernel
theorem dX5_init_59 : decode cX5_init 59 = .ok (.newarray .int, 2) := by decide +kernel
theorem dX5_init_61 : decode cX5_init 61 = .ok (.putfield 28, 3) := by decide +kernel
theorem dX5_init_64 : decode cX5_init 64 = .ok (.aload_n 0, 1) := by decide +kernel
theorem dX5_init_65 : decode cX5_init 65 = .ok (.bipush 64, 2) := by decide +kernel
theorem dX5_init_67 : decode cX5_init 67 = .ok (.newarray .int, 2) := by decide +kernel
theorem dX5_init_69 : decode cX5_init 69 = .ok (.putfield 31, 3) := by decide +kernel
theorem dX5_init_72 : decode cX5_init 72 = .ok (.aload_n 0, 1) := by decide +kernel
theorem dX5_init_73 : decode cX5_init 73 = .ok (.bipush 64, 2) := by decide +kernel
theorem dX5_init_75 : decode cX5_init 75 = .ok (.newarray .int, 2) := by decide +kernel
theorem dX5_init_77 : decode cX5_init 77 = .ok (.putfield 34, 3) := by decide +kernel
theorem dX5_init_80 : decode cX5_init 80 = .ok (.aload_n 0, 1) := by decide +kernel
