theorem dL_cell_0 : decode cL_cell 0 = .ok (.iload_n 1, 1) := by decide +kernel
theorem dL_cell_1 : decode cL_cell 1 = .ok (.aload_n 0, 1) := by decide +kernel
theorem dL_cell_2 : decode cL_cell 2 = .ok (.arraylength, 1) := by decide +kernel
theorem dL_cell_3 : decode cL_cell 3 = .ok (.if_icmp .ge 9, 3) := by decide +kernel
theorem dL_cell_6 : decode cL_cell 6 = .ok (.aload_n 0, 1) := by decide +kernel
theorem dL_cell_7 : decode cL_cell 7 = .ok (.iload_n 1, 1) := by decide +kernel
theorem dL_cell_8 : decode cL_cell 8 = .ok (.iaload, 1) := by decide +kernel
theorem dL_cell_9 : decode cL_cell 9 = .ok (.goto 14, 3) := by decide +kernel
theorem dL_cell_12 : decode cL_cell 12 = .ok (.ldc 7, 2) := by decide +kernel
theorem dL_cell_14 : decode cL_cell 14 = .ok (.iload_n 1, 1) := by decide +kernel
theorem dL_cell_15 : decode cL_cell 15 = .ok (.sipush 239, 3) := by decide +kernel
theorem dL_cell_18 : decode cL_cell 18 = .ok (.iadd, 1) := by decide +kernel
theorem dL_cell_19 : decode cL_cell 19 = .ok (.imul, 1) := by decide +kernel
theorem dL_cell_20 : decode cL_cell 20 = .ok (.ldc 8, 2) := by decide +kernel
theorem dL_cell_22 : decode cL_cell 22 = .ok (.iadd, 1) := by decide +kernel
theorem dL_cell_23 : decode cL_cell 23 = .ok (.ldc 9, 2) := by decide +kernel
theorem dL_cell_25 : decode cL_cell 25 = .ok (.iand, 1) := by decide +kernel
theorem dL_cell_26 : decode cL_cell 26 = .ok (.ireturn, 1) := by decide +kernel
theorem dL_seen_0 : decode cL_seen 0 = .ok (.ldc2_w 10, 3) := by decide +kernel
theorem dL_seen_3 : decode cL_seen 3 = .ok (.lstore_n 1, 1) := by decide +kernel
theorem dL_seen_4 : decode cL_seen 4 = .ok (.iconst 0, 1) := by decide +kernel
theorem dL_seen_5 : decode cL_seen 5 = .ok (.istore_n 3, 1) := by decide +kernel
theorem dL_seen_6 : decode cL_seen 6 = .ok (.iload_n 3, 1) := by decide +kernel
theorem dL_seen_7 : decode cL_seen 7 = .ok (.bipush 15, 2) := by decide +kernel
theorem dL_seen_9 : decode cL_seen 9 = .ok (.if_icmp .ge 22, 3) := by decide +kernel
theorem dL_seen_12 : decode cL_seen 12 = .ok (.ldc2_w 12, 3) := by decide +kernel
theorem dL_seen_15 : decode cL_seen 15 = .ok (.lload_n 1, 1) := by decide +kernel
theorem dL_seen_16 : decode cL_seen 16 = .ok (.lmul, 1) := by decide +kernel
theorem dL_seen_17 : decode cL_seen 17 = .ok (.aload_n 0, 1) := by decide +kernel
theorem dL_seen_18 : decode cL_seen 18 = .ok (.iload_n 3, 1) := by decide +kernel
theorem dL_seen_19 : decode cL_seen 19 = .ok (.invokevirtual 14, 3) := by decide +kernel
theorem dL_seen_22 : decode cL_seen 22 = .ok (.i2l, 1) := by decide +kernel
theorem dL_seen_23 : decode cL_seen 23 = .ok (.ladd, 1) := by decide +kernel
theorem dL_seen_24 : decode cL_seen 24 = .ok (.lstore_n 1, 1) := by decide +kernel
theorem dL_seen_25 : decode cL_seen 25 = .ok (.iinc 3 1, 3) := by decide +kernel
theorem dL_seen_28 : decode cL_seen 28 = .ok (.goto (-22), 3) := by decide +kernel
theorem dL_seen_31 : decode cL_seen 31 = .ok (.iconst 0, 1) := by decide +kernel
theorem dL_seen_32 : decode cL_seen 32 = .ok (.istore_n 3, 1) := by decide +kernel
theorem dL_seen_33 : decode cL_seen 33 = .ok (.iload_n 3, 1) := by decide +kernel
theorem dL_seen_34 : decode cL_seen 34 = .ok (.bipush 12, 2) := by decide +kernel
theorem dL_seen_36 : decode cL_seen 36 = .ok (.if_icmp .ge 42, 3) := by decide +kernel
theorem dL_seen_39 : decode cL_seen 39 = .ok (.ldc2_w 12, 3) := by decide +kernel
theorem dL_seen_42 : decode cL_seen 42 = .ok (.ldc2_w 12, 3) := by decide +kernel
theorem dL_seen_45 : decode cL_seen 45 = .ok (.lload_n 1, 1) := by decide +kernel
theorem dL_seen_46 : decode cL_seen 46 = .ok (.lmul, 1) := by decide +kernel
theorem dL_seen_47 : decode cL_seen 47 = .ok (.aload_n 0, 1) := by decide +kernel
theorem dL_seen_48 : decode cL_seen 48 = .ok (.iload_n 3, 1) := by decide +kernel
theorem dL_seen_49 : decode cL_seen 49 = .ok (.iconst 4, 1) := by decide +kernel
theorem dL_seen_50 : decode cL_seen 50 = .ok (.idiv, 1) := by decide +kernel
theorem dL_seen_51 : decode cL_seen 51 = .ok (.iload_n 3, 1) := by decide +kernel
theorem dL_seen_52 : decode cL_seen 52 = .ok (.iconst 4, 1) := by decide +kernel
theorem dL_seen_53 : decode cL_seen 53 = .ok (.irem, 1) := by decide +kernel
theorem dL_seen_54 : decode cL_seen 54 = .ok (.invokevirtual 20, 3) := by decide +kernel
theorem dL_seen_57 : decode cL_seen 57 = .ok (.i2l, 1) := by decide +kernel
theorem dL_seen_58 : decode cL_seen 58 = .ok (.ladd, 1) := by decide +kernel
theorem dL_seen_59 : decode cL_seen 59 = .ok (.lmul, 1) := by decide +kernel
theorem dL_seen_60 : decode cL_seen 60 = .ok (.aload_n 0, 1) := by decide +kernel
theorem dL_seen_61 : decode cL_seen 61 = .ok (.iload_n 3, 1) := by decide +kernel
theorem dL_seen_62 : decode cL_seen 62 = .ok (.bipush 8, 2) := by decide +kernel
theorem dL_seen_64 : decode cL_seen 64 = .ok (.irem, 1) := by decide +kernel
theorem dL_seen_65 : decode cL_seen 65 = .ok (.iconst 0, 1) := by decide +kernel
theorem dL_seen_66 : decode cL_seen 66 = .ok (.invokevirtual 24, 3) := by decide +kernel
theorem dL_seen_69 : decode cL_seen 69 = .ok (.i2l, 1) := by decide +kernel
theorem dL_seen_70 : decode cL_seen 70 = .ok (.ladd, 1) := by decide +kernel
theorem dL_seen_71 : decode cL_seen 71 = .ok (.lstore_n 1, 1) := by decide +kernel
theorem dL_seen_72 : decode cL_seen 72 = .ok (.iinc 3 1, 3) := by decide +kernel
theorem dL_seen_75 : decode cL_seen 75 = .ok (.goto (-42), 3) := by decide +kernel
theorem dL_seen_78 : decode cL_seen 78 = .ok (.iconst 0, 1) := by decide +kernel
theorem dL_seen_79 : decode cL_seen 79 = .ok (.istore_n 3, 1) := by decide +kernel
theorem dL_seen_80 : decode cL_seen 80 = .ok (.iload_n 3, 1) := by decide +kernel
theorem dL_seen_81 : decode cL_seen 81 = .ok (.bipush 64, 2) := by decide +kernel
theorem dL_seen_83 : decode cL_seen 83 = .ok (.if_icmp .ge 48, 3) := by decide +kernel
theorem dL_seen_86 : decode cL_seen 86 = .ok (.ldc2_w 12, 3) := by decide +kernel
theorem dL_seen_89 : decode cL_seen 89 = .ok (.ldc2_w 12, 3) := by decide +kernel
theorem dL_seen_92 : decode cL_seen 92 = .ok (.ldc2_w 12, 3) := by decide +kernel
theorem dL_seen_95 : decode cL_seen 95 = .ok (.lload_n 1, 1) := by decide +kernel
theorem dL_seen_96 : decode cL_seen 96 = .ok (.lmul, 1) := by decide +kernel
theorem dL_seen_97 : decode cL_seen 97 = .ok (.aload_n 0, 1) := by decide +kernel
theorem dL_seen_98 : decode cL_seen 98 = .ok (.iload_n 3, 1) := by decide +kernel
theorem dL_seen_99 : decode cL_seen 99 = .ok (.iconst 0, 1) := by decide +kernel
theorem dL_seen_100 : decode cL_seen 100 = .ok (.invokevirtual 27, 3) := by decide +kernel
theorem dL_seen_103 : decode cL_seen 103 = .ok (.i2l, 1) := by decide +kernel
theorem dL_seen_104 : decode cL_seen 104 = .ok (.ladd, 1) := by decide +kernel
theorem dL_seen_105 : decode cL_seen 105 = .ok (.lmul, 1) := by decide +kernel
theorem dL_seen_106 : decode cL_seen 106 = .ok (.aload_n 0, 1) := by decide +kernel
theorem dL_seen_107 : decode cL_seen 107 = .ok (.iload_n 3, 1) := by decide +kernel
theorem dL_seen_108 : decode cL_seen 108 = .ok (.iconst 1, 1) := by decide +kernel
theorem dL_seen_109 : decode cL_seen 109 = .ok (.invokevirtual 27, 3) := by decide +kernel
theorem dL_seen_112 : decode cL_seen 112 = .ok (.i2l, 1) := by decide +kernel
theorem dL_seen_113 : decode cL_seen 113 = .ok (.ladd, 1) := by decide +kernel
theorem dL_seen_114 : decode cL_seen 114 = .ok (.lmul, 1) := by decide +kernel
theorem dL_seen_115 : decode cL_seen 115 = .ok (.aload_n 0, 1) := by decide +kernel
theorem dL_seen_116 : decode cL_seen 116 = .ok (.iload_n 3, 1) := by decide +kernel
theorem dL_seen_117 : decode cL_seen 117 = .ok (.bipush 6, 2) := by decide +kernel
theorem dL_seen_119 : decode cL_seen 119 = .ok (.invokevirtual 27, 3) := by decide +kernel
theorem dL_seen_122 : decode cL_seen 122 = .ok (.i2l, 1) := by decide +kernel
theorem dL_seen_123 : decode cL_seen 123 = .ok (.ladd, 1) := by decide +kernel
theorem dL_seen_124 : decode cL_seen 124 = .ok (.lstore_n 1, 1) := by decide +kernel
theorem dL_seen_125 : decode cL_seen 125 = .ok (.iinc 3 1, 3) := by decide +kernel
theorem dL_seen_128 : decode cL_seen 128 = .ok (.goto (-48), 3) := by decide +kernel
theorem dL_seen_131 : decode cL_seen 131 = .ok (.lload_n 1, 1) := by decide +kernel
theorem dL_seen_132 : decode cL_seen 132 = .ok (.lreturn, 1) := by decide +kernel
theorem dL_arePlots_0 : decode cL_arePlots 0 = .ok (.aload_n 0, 1) := by decide +kernel
theorem dL_arePlots_1 : decode cL_arePlots 1 = .ok (.iconst 5, 1) := by decide +kernel
theorem dL_arePlots_2 : decode cL_arePlots 2 = .ok (.invokevirtual 14, 3) := by decide +kernel
theorem dL_arePlots_5 : decode cL_arePlots 5 = .ok (.istore_n 1, 1) := by decide +kernel
theorem dL_arePlots_6 : decode cL_arePlots 6 = .ok (.iconst 0, 1) := by decide +kernel
theorem dL_arePlots_7 : decode cL_arePlots 7 = .ok (.istore_n 2, 1) := by decide +kernel
theorem dL_arePlots_8 : decode cL_arePlots 8 = .ok (.iconst 0, 1) := by decide +kernel
theorem dL_arePlots_9 : decode cL_arePlots 9 = .ok (.istore_n 3, 1) := by decide +kernel
theorem dL_arePlots_10 : decode cL_arePlots 10 = .ok (.iconst 0, 1) := by decide +kernel
theorem dL_arePlots_11 : decode cL_arePlots 11 = .ok (.istore 4, 2) := by decide +kernel
theorem dL_arePlots_13 : decode cL_arePlots 13 = .ok (.iconst 0, 1) := by decide +kernel
theorem dL_arePlots_14 : decode cL_arePlots 14 = .ok (.istore 5, 2) := by decide +kernel
theorem dL_arePlots_16 : decode cL_arePlots 16 = .ok (.iconst 0, 1) := by decide +kernel
theorem dL_arePlots_17 : decode cL_arePlots 17 = .ok (.istore 6, 2) := by decide +kernel
theorem dL_arePlots_19 : decode cL_arePlots 19 = .ok (.iconst 0, 1) := by decide +kernel
theorem dL_arePlots_20 : decode cL_arePlots 20 = .ok (.istore 7, 2) := by decide +kernel
theorem dL_arePlots_22 : decode cL_arePlots 22 = .ok (.iload_n 1, 1) := by decide +kernel
theorem dL_arePlots_23 : decode cL_arePlots 23 = .ok (.ifCond .le 7, 3) := by decide +kernel
theorem dL_arePlots_26 : decode cL_arePlots 26 = .ok (.iconst 1, 1) := by decide +kernel
theorem dL_arePlots_27 : decode cL_arePlots 27 = .ok (.goto 4, 3) := by decide +kernel
theorem dL_arePlots_30 : decode cL_arePlots 30 = .ok (.iconst 0, 1) := by decide +kernel
theorem dL_arePlots_31 : decode cL_arePlots 31 = .ok (.istore 8, 2) := by decide +kernel
theorem dL_arePlots_33 : decode cL_arePlots 33 = .ok (.iconst 0, 1) := by decide +kernel
theorem dL_arePlots_34 : decode cL_arePlots 34 = .ok (.istore 9, 2) := by decide +kernel
theorem dL_arePlots_36 : decode cL_arePlots 36 = .ok (.iload 9, 2) := by decide +kernel
theorem dL_arePlots_38 : decode cL_arePlots 38 = .ok (.bipush 64, 2) := by decide +kernel
theorem dL_arePlots_40 : decode cL_arePlots 40 = .ok (.if_icmp .ge 252, 3) := by decide +kernel
theorem dL_arePlots_43 : decode cL_arePlots 43 = .ok (.iload 8, 2) := by decide +kernel
theorem dL_arePlots_45 : decode cL_arePlots 45 = .ok (.ifCond .eq 247, 3) := by decide +kernel
theorem dL_arePlots_48 : decode cL_arePlots 48 = .ok (.aload_n 0, 1) := by decide +kernel
theorem dL_arePlots_49 : decode cL_arePlots 49 = .ok (.iload 9, 2) := by decide +kernel
theorem dL_arePlots_51 : decode cL_arePlots 51 = .ok (.iconst 2, 1) := by decide +kernel
theorem dL_arePlots_52 : decode cL_arePlots 52 = .ok (.invokevirtual 27, 3) := by decide +kernel
theorem dL_arePlots_55 : decode cL_arePlots 55 = .ok (.istore 10, 2) := by decide +kernel
theorem dL_arePlots_57 : decode cL_arePlots 57 = .ok (.aload_n 0, 1) := by decide +kernel
theorem dL_arePlots_58 : decode cL_arePlots 58 = .ok (.iload 9, 2) := by decide +kernel
theorem dL_arePlots_60 : decode cL_arePlots 60 = .ok (.iconst 0, 1) := by decide +kernel
theorem dL_arePlots_61 : decode cL_arePlots 61 = .ok (.invokevirtual 27, 3) := by decide +kernel
theorem dL_arePlots_64 : decode cL_arePlots 64 = .ok (.istore 11, 2) := by decide +kernel
theorem dL_arePlots_66 : decode cL_arePlots 66 = .ok (.iload_n 2, 1) := by decide +kernel
theorem dL_arePlots_67 : decode cL_arePlots 67 = .ok (.iload 11, 2) := by decide +kernel
theorem dL_arePlots_69 : decode cL_arePlots 69 = .ok (.iadd, 1) := by decide +kernel
theorem dL_arePlots_70 : decode cL_arePlots 70 = .ok (.istore_n 2, 1) := by decide +kernel
theorem dL_arePlots_71 : decode cL_arePlots 71 = .ok (.iload_n 3, 1) := by decide +kernel
theorem dL_arePlots_72 : decode cL_arePlots 72 = .ok (.aload_n 0, 1) := by decide +kernel
theorem dL_arePlots_73 : decode cL_arePlots 73 = .ok (.iload 9, 2) := by decide +kernel
theorem dL_arePlots_75 : decode cL_arePlots 75 = .ok (.iconst 3, 1) := by decide +kernel
theorem dL_arePlots_76 : decode cL_arePlots 76 = .ok (.invokevirtual 27, 3) := by decide +kernel
theorem dL_arePlots_79 : decode cL_arePlots 79 = .ok (.iadd, 1) := by decide +kernel
theorem dL_arePlots_80 : decode cL_arePlots 80 = .ok (.istore_n 3, 1) := by decide +kernel
theorem dL_arePlots_81 : decode cL_arePlots 81 = .ok (.iload 4, 2) := by decide +kernel
theorem dL_arePlots_83 : decode cL_arePlots 83 = .ok (.aload_n 0, 1) := by decide +kernel
theorem dL_arePlots_84 : decode cL_arePlots 84 = .ok (.iload 9, 2) := by decide +kernel
theorem dL_arePlots_86 : decode cL_arePlots 86 = .ok (.iconst 4, 1) := by decide +kernel
theorem dL_arePlots_87 : decode cL_arePlots 87 = .ok (.invokevirtual 27, 3) := by decide +kernel
theorem dL_arePlots_90 : decode cL_arePlots 90 = .ok (.iadd, 1) := by decide +kernel
theorem dL_arePlots_91 : decode cL_arePlots 91 = .ok (.istore 4, 2) := by decide +kernel
theorem dL_arePlots_93 : decode cL_arePlots 93 = .ok (.iload 5, 2) := by decide +kernel
theorem dL_arePlots_95 : decode cL_arePlots 95 = .ok (.aload_n 0, 1) := by decide +kernel
theorem dL_arePlots_96 : decode cL_arePlots 96 = .ok (.iload 9, 2) := by decide +kernel
theorem dL_arePlots_98 : decode cL_arePlots 98 = .ok (.iconst 5, 1) := by decide +kernel
theorem dL_arePlots_99 : decode cL_arePlots 99 = .ok (.invokevirtual 27, 3) := by decide +kernel
theorem dL_arePlots_102 : decode cL_arePlots 102 = .ok (.iadd, 1) := by decide +kernel
theorem dL_arePlots_103 : decode cL_arePlots 103 = .ok (.istore 5, 2) := by decide +kernel
theorem dL_arePlots_105 : decode cL_arePlots 105 = .ok (.iload 6, 2) := by decide +kernel
theorem dL_arePlots_107 : decode cL_arePlots 107 = .ok (.aload_n 0, 1) := by decide +kernel
theorem dL_arePlots_108 : decode cL_arePlots 108 = .ok (.iload 9, 2) := by decide +kernel
theorem dL_arePlots_110 : decode cL_arePlots 110 = .ok (.bipush 6, 2) := by decide +kernel
theorem dL_arePlots_112 : decode cL_arePlots 112 = .ok (.invokevirtual 27, 3) := by decide +kernel
theorem dL_arePlots_115 : decode cL_arePlots 115 = .ok (.iadd, 1) := by decide +kernel
theorem dL_arePlots_116 : decode cL_arePlots 116 = .ok (.istore 6, 2) := by decide +kernel
theorem dL_arePlots_118 : decode cL_arePlots 118 = .ok (.iload 9, 2) := by decide +kernel
theorem dL_arePlots_120 : decode cL_arePlots 120 = .ok (.bipush 8, 2) := by decide +kernel
theorem dL_arePlots_122 : decode cL_arePlots 122 = .ok (.irem, 1) := by decide +kernel
theorem dL_arePlots_123 : decode cL_arePlots 123 = .ok (.ifCond .ne 8, 3) := by decide +kernel
theorem dL_arePlots_126 : decode cL_arePlots 126 = .ok (.iload 10, 2) := by decide +kernel
theorem dL_arePlots_128 : decode cL_arePlots 128 = .ok (.goto 8, 3) := by decide +kernel
theorem dL_arePlots_131 : decode cL_arePlots 131 = .ok (.iload 7, 2) := by decide +kernel
theorem dL_arePlots_133 : decode cL_arePlots 133 = .ok (.iload 10, 2) := by decide +kernel
theorem dL_arePlots_135 : decode cL_arePlots 135 = .ok (.iadd, 1) := by decide +kernel
theorem dL_arePlots_136 : decode cL_arePlots 136 = .ok (.istore 7, 2) := by decide +kernel
theorem dL_arePlots_138 : decode cL_arePlots 138 = .ok (.iload 11, 2) := by decide +kernel
theorem dL_arePlots_140 : decode cL_arePlots 140 = .ok (.ifCond .lt 143, 3) := by decide +kernel
theorem dL_arePlots_143 : decode cL_arePlots 143 = .ok (.iload 11, 2) := by decide +kernel
theorem dL_arePlots_145 : decode cL_arePlots 145 = .ok (.bipush 100, 2) := by decide +kernel
theorem dL_arePlots_147 : decode cL_arePlots 147 = .ok (.if_icmp .ge 136, 3) := by decide +kernel
theorem dL_arePlots_150 : decode cL_arePlots 150 = .ok (.aload_n 0, 1) := by decide +kernel
theorem dL_arePlots_151 : decode cL_arePlots 151 = .ok (.iload 9, 2) := by decide +kernel
theorem dL_arePlots_153 : decode cL_arePlots 153 = .ok (.iconst 1, 1) := by decide +kernel
theorem dL_arePlots_154 : decode cL_arePlots 154 = .ok (.invokevirtual 27, 3) := by decide +kernel
theorem dL_arePlots_157 : decode cL_arePlots 157 = .ok (.ifCond .lt 126, 3) := by decide +kernel
theorem dL_arePlots_160 : decode cL_arePlots 160 = .ok (.aload_n 0, 1) := by decide +kernel
theorem dL_arePlots_161 : decode cL_arePlots 161 = .ok (.iload 9, 2) := by decide +kernel
theorem dL_arePlots_163 : decode cL_arePlots 163 = .ok (.iconst 1, 1) := by decide +kernel
theorem dL_arePlots_164 : decode cL_arePlots 164 = .ok (.invokevirtual 27, 3) := by decide +kernel
theorem dL_arePlots_167 : decode cL_arePlots 167 = .ok (.bipush 10, 2) := by decide +kernel
theorem dL_arePlots_169 : decode cL_arePlots 169 = .ok (.if_icmp .ge 114, 3) := by decide +kernel
theorem dL_arePlots_172 : decode cL_arePlots 172 = .ok (.iload 10, 2) := by decide +kernel
theorem dL_arePlots_174 : decode cL_arePlots 174 = .ok (.ifCond .lt 109, 3) := by decide +kernel
theorem dL_arePlots_177 : decode cL_arePlots 177 = .ok (.iload 10, 2) := by decide +kernel
theorem dL_arePlots_179 : decode cL_arePlots 179 = .ok (.iload_n 1, 1) := by decide +kernel
theorem dL_arePlots_180 : decode cL_arePlots 180 = .ok (.if_icmp .gt 103, 3) := by decide +kernel
theorem dL_arePlots_183 : decode cL_arePlots 183 = .ok (.aload_n 0, 1) := by decide +kernel
theorem dL_arePlots_184 : decode cL_arePlots 184 = .ok (.iload 9, 2) := by decide +kernel
theorem dL_arePlots_186 : decode cL_arePlots 186 = .ok (.iconst 3, 1) := by decide +kernel
theorem dL_arePlots_187 : decode cL_arePlots 187 = .ok (.invokevirtual 27, 3) := by decide +kernel
theorem dL_arePlots_190 : decode cL_arePlots 190 = .ok (.iload 10, 2) := by decide +kernel
theorem dL_arePlots_192 : decode cL_arePlots 192 = .ok (.ifCond .le 7, 3) := by decide +kernel
theorem dL_arePlots_195 : decode cL_arePlots 195 = .ok (.iconst 1, 1) := by decide +kernel
theorem dL_arePlots_196 : decode cL_arePlots 196 = .ok (.goto 4, 3) := by decide +kernel
theorem dL_arePlots_199 : decode cL_arePlots 199 = .ok (.iconst 0, 1) := by decide +kernel
theorem dL_arePlots_200 : decode cL_arePlots 200 = .ok (.if_icmp .ne 83, 3) := by decide +kernel
theorem dL_arePlots_203 : decode cL_arePlots 203 = .ok (.aload_n 0, 1) := by decide +kernel
theorem dL_arePlots_204 : decode cL_arePlots 204 = .ok (.iload 9, 2) := by decide +kernel
theorem dL_arePlots_206 : decode cL_arePlots 206 = .ok (.iconst 4, 1) := by decide +kernel
theorem dL_arePlots_207 : decode cL_arePlots 207 = .ok (.invokevirtual 27, 3) := by decide +kernel
theorem dL_arePlots_210 : decode cL_arePlots 210 = .ok (.iload 10, 2) := by decide +kernel
theorem dL_arePlots_212 : decode cL_arePlots 212 = .ok (.iload_n 1, 1) := by decide +kernel
theorem dL_arePlots_213 : decode cL_arePlots 213 = .ok (.if_icmp .ne 7, 3) := by decide +kernel
theorem dL_arePlots_216 : decode cL_arePlots 216 = .ok (.iconst 1, 1) := by decide +kernel
theorem dL_arePlots_217 : decode cL_arePlots 217 = .ok (.goto 4, 3) := by decide +kernel
theorem dL_arePlots_220 : decode cL_arePlots 220 = .ok (.iconst 0, 1) := by decide +kernel
theorem dL_arePlots_221 : decode cL_arePlots 221 = .ok (.if_icmp .ne 62, 3) := by decide +kernel
theorem dL_arePlots_224 : decode cL_arePlots 224 = .ok (.aload_n 0, 1) := by decide +kernel
theorem dL_arePlots_225 : decode cL_arePlots 225 = .ok (.iload 9, 2) := by decide +kernel
theorem dL_arePlots_227 : decode cL_arePlots 227 = .ok (.iconst 5, 1) := by decide +kernel
theorem dL_arePlots_228 : decode cL_arePlots 228 = .ok (.invokevirtual 27, 3) := by decide +kernel
theorem dL_arePlots_231 : decode cL_arePlots 231 = .ok (.i2l, 1) := by decide +kernel
theorem dL_arePlots_232 : decode cL_arePlots 232 = .ok (.iload 11, 2) := by decide +kernel
theorem dL_arePlots_234 : decode cL_arePlots 234 = .ok (.i2l, 1) := by decide +kernel
theorem dL_arePlots_235 : decode cL_arePlots 235 = .ok (.iload 10, 2) := by decide +kernel
theorem dL_arePlots_237 : decode cL_arePlots 237 = .ok (.i2l, 1) := by decide +kernel
theorem dL_arePlots_238 : decode cL_arePlots 238 = .ok (.lmul, 1) := by decide +kernel
theorem dL_arePlots_239 : decode cL_arePlots 239 = .ok (.iload_n 1, 1) := by decide +kernel
theorem dL_arePlots_240 : decode cL_arePlots 240 = .ok (.i2l, 1) := by decide +kernel
theorem dL_arePlots_241 : decode cL_arePlots 241 = .ok (.ldiv, 1) := by decide +kernel
theorem dL_arePlots_242 : decode cL_arePlots 242 = .ok (.lcmp, 1) := by decide +kernel
theorem dL_arePlots_243 : decode cL_arePlots 243 = .ok (.ifCond .ne 40, 3) := by decide +kernel
theorem dL_arePlots_246 : decode cL_arePlots 246 = .ok (.iload 9, 2) := by decide +kernel
theorem dL_arePlots_248 : decode cL_arePlots 248 = .ok (.bipush 8, 2) := by decide +kernel
theorem dL_arePlots_250 : decode cL_arePlots 250 = .ok (.irem, 1) := by decide +kernel
theorem dL_arePlots_251 : decode cL_arePlots 251 = .ok (.bipush 7, 2) := by decide +kernel
