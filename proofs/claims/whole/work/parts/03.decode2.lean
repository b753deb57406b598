theorem dX5_init_81 : decode cX5_init 81 = .ok (.bipush 93, 2) := by decide +kernel
theorem dX5_init_83 : decode cX5_init 83 = .ok (.newarray .int, 2) := by decide +kernel
theorem dX5_init_85 : decode cX5_init 85 = .ok (.putfield 37, 3) := by decide +kernel
theorem dX5_init_88 : decode cX5_init 88 = .ok (.aload_n 0, 1) := by decide +kernel
theorem dX5_init_89 : decode cX5_init 89 = .ok (.getfield 7, 3) := by decide +kernel
theorem dX5_init_92 : decode cX5_init 92 = .ok (.iconst 0, 1) := by decide +kernel
theorem dX5_init_93 : decode cX5_init 93 = .ok (.bipush 8, 2) := by decide +kernel
theorem dX5_init_95 : decode cX5_init 95 = .ok (.iastore, 1) := by decide +kernel
theorem dX5_init_96 : decode cX5_init 96 = .ok (.aload_n 0, 1) := by decide +kernel
theorem dX5_init_97 : decode cX5_init 97 = .ok (.getfield 7, 3) := by decide +kernel
theorem dX5_init_100 : decode cX5_init 100 = .ok (.iconst 2, 1) := by decide +kernel
theorem dX5_init_101 : decode cX5_init 101 = .ok (.iconst 3, 1) := by decide +kernel
theorem dX5_init_102 : decode cX5_init 102 = .ok (.iastore, 1) := by decide +kernel
theorem dX5_init_103 : decode cX5_init 103 = .ok (.iconst 0, 1) := by decide +kernel
theorem dX5_init_104 : decode cX5_init 104 = .ok (.istore_n 1, 1) := by decide +kernel
theorem dX5_init_105 : decode cX5_init 105 = .ok (.iload_n 1, 1) := by decide +kernel
theorem dX5_init_106 : decode cX5_init 106 = .ok (.bipush 8, 2) := by decide +kernel
theorem dX5_init_108 : decode cX5_init 108 = .ok (.if_icmp .ge 20, 3) := by decide +kernel
theorem dX5_init_111 : decode cX5_init 111 = .ok (.aload_n 0, 1) := by decide +kernel
theorem dX5_init_112 : decode cX5_init 112 = .ok (.getfield 7, 3) := by decide +kernel
theorem dX5_init_115 : decode cX5_init 115 = .ok (.bipush 7, 2) := by decide +kernel
theorem dX5_init_117 : decode cX5_init 117 = .ok (.iload_n 1, 1) := by decide +kernel
theorem dX5_init_118 : decode cX5_init 118 = .ok (.iadd, 1) := by decide +kernel
theorem dX5_init_119 : decode cX5_init 119 = .ok (.bipush (-5), 2) := by decide +kernel
theorem dX5_init_121 : decode cX5_init 121 = .ok (.iastore, 1) := by decide +kernel
theorem dX5_init_122 : decode cX5_init 122 = .ok (.iinc 1 1, 3) := by decide +kernel
theorem dX5_init_125 : decode cX5_init 125 = .ok (.goto (-20), 3) := by decide +kernel
theorem dX5_init_128 : decode cX5_init 128 = .ok (.iconst 0, 1) := by decide +kernel
theorem dX5_init_129 : decode cX5_init 129 = .ok (.istore_n 1, 1) := by decide +kernel
theorem dX5_init_130 : decode cX5_init 130 = .ok (.iload_n 1, 1) := by decide +kernel
theorem dX5_init_131 : decode cX5_init 131 = .ok (.iconst 3, 1) := by decide +kernel
theorem dX5_init_132 : decode cX5_init 132 = .ok (.if_icmp .ge 16, 3) := by decide +kernel
theorem dX5_init_135 : decode cX5_init 135 = .ok (.aload_n 0, 1) := by decide +kernel
theorem dX5_init_136 : decode cX5_init 136 = .ok (.iload_n 1, 1) := by decide +kernel
theorem dX5_init_137 : decode cX5_init 137 = .ok (.iconst 0, 1) := by decide +kernel
theorem dX5_init_138 : decode cX5_init 138 = .ok (.iload_n 1, 1) := by decide +kernel
theorem dX5_init_139 : decode cX5_init 139 = .ok (.invokevirtual 40, 3) := by decide +kernel
theorem dX5_init_142 : decode cX5_init 142 = .ok (.iinc 1 1, 3) := by decide +kernel
theorem dX5_init_145 : decode cX5_init 145 = .ok (.goto (-15), 3) := by decide +kernel
theorem dX5_init_148 : decode cX5_init 148 = .ok (.aload_n 0, 1) := by decide +kernel
theorem dX5_init_149 : decode cX5_init 149 = .ok (.invokevirtual 44, 3) := by decide +kernel
theorem dX5_init_152 : decode cX5_init 152 = .ok (.return_, 1) := by decide +kernel
theorem dX5_in_0 : decode cX5_in 0 = .ok (.iload_n 0, 1) := by decide +kernel
theorem dX5_in_1 : decode cX5_in 1 = .ok (.iload_n 1, 1) := by decide +kernel
theorem dX5_in_2 : decode cX5_in 2 = .ok (.if_icmp .lt 12, 3) := by decide +kernel
theorem dX5_in_5 : decode cX5_in 5 = .ok (.iload_n 0, 1) := by decide +kernel
theorem dX5_in_6 : decode cX5_in 6 = .ok (.iload_n 2, 1) := by decide +kernel
theorem dX5_in_7 : decode cX5_in 7 = .ok (.if_icmp .gt 7, 3) := by decide +kernel
theorem dX5_in_10 : decode cX5_in 10 = .ok (.iconst 1, 1) := by decide +kernel
theorem dX5_in_11 : decode cX5_in 11 = .ok (.goto 4, 3) := by decide +kernel
theorem dX5_in_14 : decode cX5_in 14 = .ok (.iconst 0, 1) := by decide +kernel
theorem dX5_in_15 : decode cX5_in 15 = .ok (.ireturn, 1) := by decide +kernel
theorem dX5_isPlot_0 : decode cX5_isPlot 0 = .ok (.iload_n 0, 1) := by decide +kernel
theorem dX5_isPlot_1 : decode cX5_isPlot 1 = .ok (.iconst 0, 1) := by decide +kernel
theorem dX5_isPlot_2 : decode cX5_isPlot 2 = .ok (.bipush 63, 2) := by decide +kernel
theorem dX5_isPlot_4 : decode cX5_isPlot 4 = .ok (.invokestatic 47, 3) := by decide +kernel
theorem dX5_isPlot_7 : decode cX5_isPlot 7 = .ok (.ireturn, 1) := by decide +kernel
theorem dX5_isLine_0 : decode cX5_isLine 0 = .ok (.iload_n 0, 1) := by decide +kernel
theorem dX5_isLine_1 : decode cX5_isLine 1 = .ok (.iconst 0, 1) := by decide +kernel
theorem dX5_isLine_2 : decode cX5_isLine 2 = .ok (.bipush 7, 2) := by decide +kernel
theorem dX5_isLine_4 : decode cX5_isLine 4 = .ok (.invokestatic 47, 3) := by decide +kernel
theorem dX5_isLine_7 : decode cX5_isLine 7 = .ok (.ireturn, 1) := by decide +kernel
theorem dX5_isCrew_0 : decode cX5_isCrew 0 = .ok (.iload_n 0, 1) := by decide +kernel
theorem dX5_isCrew_1 : decode cX5_isCrew 1 = .ok (.iconst 0, 1) := by decide +kernel
theorem dX5_isCrew_2 : decode cX5_isCrew 2 = .ok (.iconst 2, 1) := by decide +kernel
theorem dX5_isCrew_3 : decode cX5_isCrew 3 = .ok (.invokestatic 47, 3) := by decide +kernel
theorem dX5_isCrew_6 : decode cX5_isCrew 6 = .ok (.ireturn, 1) := by decide +kernel
theorem dX5_of_0 : decode cX5_of 0 = .ok (.aload_n 0, 1) := by decide +kernel
theorem dX5_of_1 : decode cX5_of 1 = .ok (.getfield 7, 3) := by decide +kernel
theorem dX5_of_4 : decode cX5_of 4 = .ok (.bipush 15, 2) := by decide +kernel
theorem dX5_of_6 : decode cX5_of 6 = .ok (.iconst 4, 1) := by decide +kernel
theorem dX5_of_7 : decode cX5_of 7 = .ok (.iload_n 1, 1) := by decide +kernel
theorem dX5_of_8 : decode cX5_of 8 = .ok (.imul, 1) := by decide +kernel
theorem dX5_of_9 : decode cX5_of 9 = .ok (.iadd, 1) := by decide +kernel
theorem dX5_of_10 : decode cX5_of 10 = .ok (.iload_n 2, 1) := by decide +kernel
theorem dX5_of_11 : decode cX5_of 11 = .ok (.iadd, 1) := by decide +kernel
theorem dX5_of_12 : decode cX5_of 12 = .ok (.iaload, 1) := by decide +kernel
theorem dX5_of_13 : decode cX5_of 13 = .ok (.ireturn, 1) := by decide +kernel
theorem dX5_lay_0 : decode cX5_lay 0 = .ok (.aload_n 0, 1) := by decide +kernel
theorem dX5_lay_1 : decode cX5_lay 1 = .ok (.getfield 7, 3) := by decide +kernel
theorem dX5_lay_4 : decode cX5_lay 4 = .ok (.bipush 15, 2) := by decide +kernel
theorem dX5_lay_6 : decode cX5_lay 6 = .ok (.iconst 4, 1) := by decide +kernel
theorem dX5_lay_7 : decode cX5_lay 7 = .ok (.iload_n 1, 1) := by decide +kernel
theorem dX5_lay_8 : decode cX5_lay 8 = .ok (.imul, 1) := by decide +kernel
theorem dX5_lay_9 : decode cX5_lay 9 = .ok (.iadd, 1) := by decide +kernel
theorem dX5_lay_10 : decode cX5_lay 10 = .ok (.iload_n 2, 1) := by decide +kernel
theorem dX5_lay_11 : decode cX5_lay 11 = .ok (.iadd, 1) := by decide +kernel
theorem dX5_lay_12 : decode cX5_lay 12 = .ok (.iload_n 3, 1) := by decide +kernel
theorem dX5_lay_13 : decode cX5_lay 13 = .ok (.iastore, 1) := by decide +kernel
theorem dX5_lay_14 : decode cX5_lay 14 = .ok (.return_, 1) := by decide +kernel
theorem dX5_refresh_0 : decode cX5_refresh 0 = .ok (.iconst 0, 1) := by decide +kernel
theorem dX5_refresh_1 : decode cX5_refresh 1 = .ok (.istore_n 1, 1) := by decide +kernel
theorem dX5_refresh_2 : decode cX5_refresh 2 = .ok (.iload_n 1, 1) := by decide +kernel
theorem dX5_refresh_3 : decode cX5_refresh 3 = .ok (.iconst 3, 1) := by decide +kernel
theorem dX5_refresh_4 : decode cX5_refresh 4 = .ok (.if_icmp .ge 21, 3) := by decide +kernel
theorem dX5_refresh_7 : decode cX5_refresh 7 = .ok (.aload_n 0, 1) := by decide +kernel
theorem dX5_refresh_8 : decode cX5_refresh 8 = .ok (.iload_n 1, 1) := by decide +kernel
theorem dX5_refresh_9 : decode cX5_refresh 9 = .ok (.iconst 1, 1) := by decide +kernel
theorem dX5_refresh_10 : decode cX5_refresh 10 = .ok (.aload_n 0, 1) := by decide +kernel
theorem dX5_refresh_11 : decode cX5_refresh 11 = .ok (.getfield 7, 3) := by decide +kernel
theorem dX5_refresh_14 : decode cX5_refresh 14 = .ok (.iconst 0, 1) := by decide +kernel
theorem dX5_refresh_15 : decode cX5_refresh 15 = .ok (.iaload, 1) := by decide +kernel
theorem dX5_refresh_16 : decode cX5_refresh 16 = .ok (.invokevirtual 40, 3) := by decide +kernel
theorem dX5_refresh_19 : decode cX5_refresh 19 = .ok (.iinc 1 1, 3) := by decide +kernel
theorem dX5_refresh_22 : decode cX5_refresh 22 = .ok (.goto (-20), 3) := by decide +kernel
theorem dX5_refresh_25 : decode cX5_refresh 25 = .ok (.return_, 1) := by decide +kernel
theorem dX5_copyState_0 : decode cX5_copyState 0 = .ok (.iconst 0, 1) := by decide +kernel
theorem dX5_copyState_1 : decode cX5_copyState 1 = .ok (.istore 4, 2) := by decide +kernel
theorem dX5_copyState_3 : decode cX5_copyState 3 = .ok (.iload 4, 2) := by decide +kernel
theorem dX5_copyState_5 : decode cX5_copyState 5 = .ok (.sipush 220, 3) := by decide +kernel
theorem dX5_copyState_8 : decode cX5_copyState 8 = .ok (.if_icmp .ge 21, 3) := by decide +kernel
theorem dX5_copyState_11 : decode cX5_copyState 11 = .ok (.aload_n 2, 1) := by decide +kernel
theorem dX5_copyState_12 : decode cX5_copyState 12 = .ok (.iload_n 3, 1) := by decide +kernel
theorem dX5_copyState_13 : decode cX5_copyState 13 = .ok (.iload 4, 2) := by decide +kernel
theorem dX5_copyState_15 : decode cX5_copyState 15 = .ok (.iadd, 1) := by decide +kernel
theorem dX5_copyState_16 : decode cX5_copyState 16 = .ok (.aload_n 0, 1) := by decide +kernel
theorem dX5_copyState_17 : decode cX5_copyState 17 = .ok (.iload_n 1, 1) := by decide +kernel
theorem dX5_copyState_18 : decode cX5_copyState 18 = .ok (.iload 4, 2) := by decide +kernel
theorem dX5_copyState_20 : decode cX5_copyState 20 = .ok (.iadd, 1) := by decide +kernel
theorem dX5_copyState_21 : decode cX5_copyState 21 = .ok (.iaload, 1) := by decide +kernel
theorem dX5_copyState_22 : decode cX5_copyState 22 = .ok (.iastore, 1) := by decide +kernel
theorem dX5_copyState_23 : decode cX5_copyState 23 = .ok (.iinc 4 1, 3) := by decide +kernel
theorem dX5_copyState_26 : decode cX5_copyState 26 = .ok (.goto (-23), 3) := by decide +kernel
theorem dX5_copyState_29 : decode cX5_copyState 29 = .ok (.return_, 1) := by decide +kernel
theorem dX5_recordRow_0 : decode cX5_recordRow 0 = .ok (.aload_n 0, 1) := by decide +kernel
theorem dX5_recordRow_1 : decode cX5_recordRow 1 = .ok (.getfield 51, 3) := by decide +kernel
theorem dX5_recordRow_4 : decode cX5_recordRow 4 = .ok (.iconst 4, 1) := by decide +kernel
theorem dX5_recordRow_5 : decode cX5_recordRow 5 = .ok (.if_icmp .ne 44, 3) := by decide +kernel
theorem dX5_recordRow_8 : decode cX5_recordRow 8 = .ok (.iconst 0, 1) := by decide +kernel
theorem dX5_recordRow_9 : decode cX5_recordRow 9 = .ok (.istore_n 2, 1) := by decide +kernel
theorem dX5_recordRow_10 : decode cX5_recordRow 10 = .ok (.iload_n 2, 1) := by decide +kernel
theorem dX5_recordRow_11 : decode cX5_recordRow 11 = .ok (.sipush 660, 3) := by decide +kernel
theorem dX5_recordRow_14 : decode cX5_recordRow 14 = .ok (.if_icmp .ge 25, 3) := by decide +kernel
theorem dX5_recordRow_17 : decode cX5_recordRow 17 = .ok (.aload_n 0, 1) := by decide +kernel
theorem dX5_recordRow_18 : decode cX5_recordRow 18 = .ok (.getfield 16, 3) := by decide +kernel
theorem dX5_recordRow_21 : decode cX5_recordRow 21 = .ok (.iload_n 2, 1) := by decide +kernel
theorem dX5_recordRow_22 : decode cX5_recordRow 22 = .ok (.aload_n 0, 1) := by decide +kernel
theorem dX5_recordRow_23 : decode cX5_recordRow 23 = .ok (.getfield 16, 3) := by decide +kernel
theorem dX5_recordRow_26 : decode cX5_recordRow 26 = .ok (.iload_n 2, 1) := by decide +kernel
theorem dX5_recordRow_27 : decode cX5_recordRow 27 = .ok (.sipush 220, 3) := by decide +kernel
theorem dX5_recordRow_30 : decode cX5_recordRow 30 = .ok (.iadd, 1) := by decide +kernel
theorem dX5_recordRow_31 : decode cX5_recordRow 31 = .ok (.iaload, 1) := by decide +kernel
theorem dX5_recordRow_32 : decode cX5_recordRow 32 = .ok (.iastore, 1) := by decide +kernel
theorem dX5_recordRow_33 : decode cX5_recordRow 33 = .ok (.iinc 2 1, 3) := by decide +kernel
theorem dX5_recordRow_36 : decode cX5_recordRow 36 = .ok (.goto (-26), 3) := by decide +kernel
theorem dX5_recordRow_39 : decode cX5_recordRow 39 = .ok (.aload_n 0, 1) := by decide +kernel
theorem dX5_recordRow_40 : decode cX5_recordRow 40 = .ok (.dup, 1) := by decide +kernel
theorem dX5_recordRow_41 : decode cX5_recordRow 41 = .ok (.getfield 51, 3) := by decide +kernel
theorem dX5_recordRow_44 : decode cX5_recordRow 44 = .ok (.iconst 1, 1) := by decide +kernel
theorem dX5_recordRow_45 : decode cX5_recordRow 45 = .ok (.isub, 1) := by decide +kernel
theorem dX5_recordRow_46 : decode cX5_recordRow 46 = .ok (.putfield 51, 3) := by decide +kernel
theorem dX5_recordRow_49 : decode cX5_recordRow 49 = .ok (.aload_n 1, 1) := by decide +kernel
theorem dX5_recordRow_50 : decode cX5_recordRow 50 = .ok (.iconst 0, 1) := by decide +kernel
theorem dX5_recordRow_51 : decode cX5_recordRow 51 = .ok (.aload_n 0, 1) := by decide +kernel
theorem dX5_recordRow_52 : decode cX5_recordRow 52 = .ok (.getfield 16, 3) := by decide +kernel
theorem dX5_recordRow_55 : decode cX5_recordRow 55 = .ok (.sipush 220, 3) := by decide +kernel
theorem dX5_recordRow_58 : decode cX5_recordRow 58 = .ok (.aload_n 0, 1) := by decide +kernel
theorem dX5_recordRow_59 : decode cX5_recordRow 59 = .ok (.getfield 51, 3) := by decide +kernel
theorem dX5_recordRow_62 : decode cX5_recordRow 62 = .ok (.imul, 1) := by decide +kernel
theorem dX5_recordRow_63 : decode cX5_recordRow 63 = .ok (.invokestatic 55, 3) := by decide +kernel
theorem dX5_recordRow_66 : decode cX5_recordRow 66 = .ok (.aload_n 0, 1) := by decide +kernel
theorem dX5_recordRow_67 : decode cX5_recordRow 67 = .ok (.dup, 1) := by decide +kernel
theorem dX5_recordRow_68 : decode cX5_recordRow 68 = .ok (.getfield 51, 3) := by decide +kernel
theorem dX5_recordRow_71 : decode cX5_recordRow 71 = .ok (.iconst 1, 1) := by decide +kernel
theorem dX5_recordRow_72 : decode cX5_recordRow 72 = .ok (.iadd, 1) := by decide +kernel
theorem dX5_recordRow_73 : decode cX5_recordRow 73 = .ok (.putfield 51, 3) := by decide +kernel
theorem dX5_recordRow_76 : decode cX5_recordRow 76 = .ok (.return_, 1) := by decide +kernel
theorem dX5_record_0 : decode cX5_record 0 = .ok (.aload_n 0, 1) := by decide +kernel
theorem dX5_record_1 : decode cX5_record 1 = .ok (.aload_n 0, 1) := by decide +kernel
theorem dX5_record_2 : decode cX5_record 2 = .ok (.getfield 7, 3) := by decide +kernel
theorem dX5_record_5 : decode cX5_record 5 = .ok (.invokevirtual 59, 3) := by decide +kernel
theorem dX5_record_8 : decode cX5_record 8 = .ok (.return_, 1) := by decide +kernel
theorem dX5_undo_0 : decode cX5_undo 0 = .ok (.aload_n 0, 1) := by decide +kernel
theorem dX5_undo_1 : decode cX5_undo 1 = .ok (.getfield 51, 3) := by decide +kernel
theorem dX5_undo_4 : decode cX5_undo 4 = .ok (.ifCond .ne 6, 3) := by decide +kernel
theorem dX5_undo_7 : decode cX5_undo 7 = .ok (.bipush (-5), 2) := by decide +kernel
theorem dX5_undo_9 : decode cX5_undo 9 = .ok (.ireturn, 1) := by decide +kernel
theorem dX5_undo_10 : decode cX5_undo 10 = .ok (.aload_n 0, 1) := by decide +kernel
theorem dX5_undo_11 : decode cX5_undo 11 = .ok (.dup, 1) := by decide +kernel
theorem dX5_undo_12 : decode cX5_undo 12 = .ok (.getfield 51, 3) := by decide +kernel
theorem dX5_undo_15 : decode cX5_undo 15 = .ok (.iconst 1, 1) := by decide +kernel
theorem dX5_undo_16 : decode cX5_undo 16 = .ok (.isub, 1) := by decide +kernel
theorem dX5_undo_17 : decode cX5_undo 17 = .ok (.putfield 51, 3) := by decide +kernel
theorem dX5_undo_20 : decode cX5_undo 20 = .ok (.aload_n 0, 1) := by decide +kernel
theorem dX5_undo_21 : decode cX5_undo 21 = .ok (.getfield 16, 3) := by decide +kernel
theorem dX5_undo_24 : decode cX5_undo 24 = .ok (.sipush 220, 3) := by decide +kernel
theorem dX5_undo_27 : decode cX5_undo 27 = .ok (.aload_n 0, 1) := by decide +kernel
theorem dX5_undo_28 : decode cX5_undo 28 = .ok (.getfield 51, 3) := by decide +kernel
theorem dX5_undo_31 : decode cX5_undo 31 = .ok (.imul, 1) := by decide +kernel
theorem dX5_undo_32 : decode cX5_undo 32 = .ok (.aload_n 0, 1) := by decide +kernel
theorem dX5_undo_33 : decode cX5_undo 33 = .ok (.getfield 7, 3) := by decide +kernel
theorem dX5_undo_36 : decode cX5_undo 36 = .ok (.iconst 0, 1) := by decide +kernel
theorem dX5_undo_37 : decode cX5_undo 37 = .ok (.invokestatic 55, 3) := by decide +kernel
theorem dX5_undo_40 : decode cX5_undo 40 = .ok (.aload_n 0, 1) := by decide +kernel
theorem dX5_undo_41 : decode cX5_undo 41 = .ok (.getfield 51, 3) := by decide +kernel
theorem dX5_undo_44 : decode cX5_undo 44 = .ok (.ireturn, 1) := by decide +kernel
theorem dX5_keep_0 : decode cX5_keep 0 = .ok (.aload_n 0, 1) := by decide +kernel
theorem dX5_keep_1 : decode cX5_keep 1 = .ok (.getfield 7, 3) := by decide +kernel
theorem dX5_keep_4 : decode cX5_keep 4 = .ok (.iconst 0, 1) := by decide +kernel
theorem dX5_keep_5 : decode cX5_keep 5 = .ok (.aload_n 0, 1) := by decide +kernel
theorem dX5_keep_6 : decode cX5_keep 6 = .ok (.getfield 19, 3) := by decide +kernel
theorem dX5_keep_9 : decode cX5_keep 9 = .ok (.iconst 0, 1) := by decide +kernel
theorem dX5_keep_10 : decode cX5_keep 10 = .ok (.invokestatic 55, 3) := by decide +kernel
theorem dX5_keep_13 : decode cX5_keep 13 = .ok (.aload_n 0, 1) := by decide +kernel
theorem dX5_keep_14 : decode cX5_keep 14 = .ok (.iconst 1, 1) := by decide +kernel
theorem dX5_keep_15 : decode cX5_keep 15 = .ok (.putfield 63, 3) := by decide +kernel
theorem dX5_keep_18 : decode cX5_keep 18 = .ok (.aload_n 0, 1) := by decide +kernel
theorem dX5_keep_19 : decode cX5_keep 19 = .ok (.getfield 7, 3) := by decide +kernel
theorem dX5_keep_22 : decode cX5_keep 22 = .ok (.iconst 3, 1) := by decide +kernel
theorem dX5_keep_23 : decode cX5_keep 23 = .ok (.iaload, 1) := by decide +kernel
theorem dX5_keep_24 : decode cX5_keep 24 = .ok (.ireturn, 1) := by decide +kernel
theorem dX5_restore_0 : decode cX5_restore 0 = .ok (.aload_n 0, 1) := by decide +kernel
theorem dX5_restore_1 : decode cX5_restore 1 = .ok (.getfield 63, 3) := by decide +kernel
theorem dX5_restore_4 : decode cX5_restore 4 = .ok (.ifCond .ne 6, 3) := by decide +kernel
theorem dX5_restore_7 : decode cX5_restore 7 = .ok (.bipush (-5), 2) := by decide +kernel
theorem dX5_restore_9 : decode cX5_restore 9 = .ok (.ireturn, 1) := by decide +kernel
theorem dX5_restore_10 : decode cX5_restore 10 = .ok (.aload_n 0, 1) := by decide +kernel
theorem dX5_restore_11 : decode cX5_restore 11 = .ok (.invokevirtual 67, 3) := by decide +kernel
theorem dX5_restore_14 : decode cX5_restore 14 = .ok (.aload_n 0, 1) := by decide +kernel
theorem dX5_restore_15 : decode cX5_restore 15 = .ok (.getfield 19, 3) := by decide +kernel
theorem dX5_restore_18 : decode cX5_restore 18 = .ok (.iconst 0, 1) := by decide +kernel
theorem dX5_restore_19 : decode cX5_restore 19 = .ok (.aload_n 0, 1) := by decide +kernel
theorem dX5_restore_20 : decode cX5_restore 20 = .ok (.getfield 7, 3) := by decide +kernel
theorem dX5_restore_23 : decode cX5_restore 23 = .ok (.iconst 0, 1) := by decide +kernel
theorem dX5_restore_24 : decode cX5_restore 24 = .ok (.invokestatic 55, 3) := by decide +kernel
theorem dX5_restore_27 : decode cX5_restore 27 = .ok (.aload_n 0, 1) := by decide +kernel
theorem dX5_restore_28 : decode cX5_restore 28 = .ok (.getfield 7, 3) := by decide +kernel
theorem dX5_restore_31 : decode cX5_restore 31 = .ok (.iconst 3, 1) := by decide +kernel
theorem dX5_restore_32 : decode cX5_restore 32 = .ok (.iaload, 1) := by decide +kernel
theorem dX5_restore_33 : decode cX5_restore 33 = .ok (.ireturn, 1) := by decide +kernel
theorem dX5_isOpen_0 : decode cX5_isOpen 0 = .ok (.aload_n 0, 1) := by decide +kernel
theorem dX5_isOpen_1 : decode cX5_isOpen 1 = .ok (.getfield 7, 3) := by decide +kernel
theorem dX5_isOpen_4 : decode cX5_isOpen 4 = .ok (.bipush 7, 2) := by decide +kernel
theorem dX5_isOpen_6 : decode cX5_isOpen 6 = .ok (.iload_n 1, 1) := by decide +kernel
theorem dX5_isOpen_7 : decode cX5_isOpen 7 = .ok (.bipush 8, 2) := by decide +kernel
theorem dX5_isOpen_9 : decode cX5_isOpen 9 = .ok (.idiv, 1) := by decide +kernel
theorem dX5_isOpen_10 : decode cX5_isOpen 10 = .ok (.iadd, 1) := by decide +kernel
theorem dX5_isOpen_11 : decode cX5_isOpen 11 = .ok (.iaload, 1) := by decide +kernel
theorem dX5_isOpen_12 : decode cX5_isOpen 12 = .ok (.istore_n 2, 1) := by decide +kernel
theorem dX5_isOpen_13 : decode cX5_isOpen 13 = .ok (.iload_n 2, 1) := by decide +kernel
theorem dX5_isOpen_14 : decode cX5_isOpen 14 = .ok (.bipush (-5), 2) := by decide +kernel
theorem dX5_isOpen_16 : decode cX5_isOpen 16 = .ok (.if_icmp .eq 11, 3) := by decide +kernel
theorem dX5_isOpen_19 : decode cX5_isOpen 19 = .ok (.iload_n 2, 1) := by decide +kernel
theorem dX5_isOpen_20 : decode cX5_isOpen 20 = .ok (.iload_n 1, 1) := by decide +kernel
theorem dX5_isOpen_21 : decode cX5_isOpen 21 = .ok (.bipush 8, 2) := by decide +kernel
theorem dX5_isOpen_23 : decode cX5_isOpen 23 = .ok (.irem, 1) := by decide +kernel
theorem dX5_isOpen_24 : decode cX5_isOpen 24 = .ok (.if_icmp .ne 7, 3) := by decide +kernel
theorem dX5_isOpen_27 : decode cX5_isOpen 27 = .ok (.iconst 1, 1) := by decide +kernel
theorem dX5_isOpen_28 : decode cX5_isOpen 28 = .ok (.goto 4, 3) := by decide +kernel
theorem dX5_isOpen_31 : decode cX5_isOpen 31 = .ok (.iconst 0, 1) := by decide +kernel
theorem dX5_isOpen_32 : decode cX5_isOpen 32 = .ok (.ireturn, 1) := by decide +kernel
theorem dX5_beside_0 : decode cX5_beside 0 = .ok (.iload_n 1, 1) := by decide +kernel
theorem dX5_beside_1 : decode cX5_beside 1 = .ok (.bipush 8, 2) := by decide +kernel
theorem dX5_beside_3 : decode cX5_beside 3 = .ok (.irem, 1) := by decide +kernel
theorem dX5_beside_4 : decode cX5_beside 4 = .ok (.istore_n 2, 1) := by decide +kernel
theorem dX5_beside_5 : decode cX5_beside 5 = .ok (.aload_n 0, 1) := by decide +kernel
theorem dX5_beside_6 : decode cX5_beside 6 = .ok (.iload_n 1, 1) := by decide +kernel
theorem dX5_beside_7 : decode cX5_beside 7 = .ok (.iaload, 1) := by decide +kernel
theorem dX5_beside_8 : decode cX5_beside 8 = .ok (.iload_n 2, 1) := by decide +kernel
theorem dX5_beside_9 : decode cX5_beside 9 = .ok (.ifCond .le 11, 3) := by decide +kernel
theorem dX5_beside_12 : decode cX5_beside 12 = .ok (.aload_n 0, 1) := by decide +kernel
theorem dX5_beside_13 : decode cX5_beside 13 = .ok (.iload_n 1, 1) := by decide +kernel
theorem dX5_beside_14 : decode cX5_beside 14 = .ok (.iconst 1, 1) := by decide +kernel
theorem dX5_beside_15 : decode cX5_beside 15 = .ok (.isub, 1) := by decide +kernel
theorem dX5_beside_16 : decode cX5_beside 16 = .ok (.iaload, 1) := by decide +kernel
theorem dX5_beside_17 : decode cX5_beside 17 = .ok (.goto 4, 3) := by decide +kernel
theorem dX5_beside_20 : decode cX5_beside 20 = .ok (.iconst 0, 1) := by decide +kernel
theorem dX5_beside_21 : decode cX5_beside 21 = .ok (.iadd, 1) := by decide +kernel
theorem dX5_beside_22 : decode cX5_beside 22 = .ok (.iload_n 2, 1) := by decide +kernel
theorem dX5_beside_23 : decode cX5_beside 23 = .ok (.bipush 7, 2) := by decide +kernel
theorem dX5_beside_25 : decode cX5_beside 25 = .ok (.if_icmp .ge 11, 3) := by decide +kernel
theorem dX5_beside_28 : decode cX5_beside 28 = .ok (.aload_n 0, 1) := by decide +kernel
theorem dX5_beside_29 : decode cX5_beside 29 = .ok (.iload_n 1, 1) := by decide +kernel
theorem dX5_beside_30 : decode cX5_beside 30 = .ok (.iconst 1, 1) := by decide +kernel
theorem dX5_beside_31 : decode cX5_beside 31 = .ok (.iadd, 1) := by decide +kernel
theorem dX5_beside_32 : decode cX5_beside 32 = .ok (.iaload, 1) := by decide +kernel
theorem dX5_beside_33 : decode cX5_beside 33 = .ok (.goto 4, 3) := by decide +kernel
theorem dX5_beside_36 : decode cX5_beside 36 = .ok (.iconst 0, 1) := by decide +kernel
theorem dX5_beside_37 : decode cX5_beside 37 = .ok (.iadd, 1) := by decide +kernel
theorem dX5_beside_38 : decode cX5_beside 38 = .ok (.ireturn, 1) := by decide +kernel
theorem dX5_countPaths_0 : decode cX5_countPaths 0 = .ok (.iconst 0, 1) := by decide +kernel
theorem dX5_countPaths_1 : decode cX5_countPaths 1 = .ok (.istore_n 1, 1) := by decide +kernel
theorem dX5_countPaths_2 : decode cX5_countPaths 2 = .ok (.iload_n 1, 1) := by decide +kernel
theorem dX5_countPaths_3 : decode cX5_countPaths 3 = .ok (.bipush 64, 2) := by decide +kernel
theorem dX5_countPaths_5 : decode cX5_countPaths 5 = .ok (.if_icmp .ge 48, 3) := by decide +kernel
theorem dX5_countPaths_8 : decode cX5_countPaths 8 = .ok (.aload_n 0, 1) := by decide +kernel
theorem dX5_countPaths_9 : decode cX5_countPaths 9 = .ok (.getfield 25, 3) := by decide +kernel
theorem dX5_countPaths_12 : decode cX5_countPaths 12 = .ok (.iload_n 1, 1) := by decide +kernel
theorem dX5_countPaths_13 : decode cX5_countPaths 13 = .ok (.aload_n 0, 1) := by decide +kernel
theorem dX5_countPaths_14 : decode cX5_countPaths 14 = .ok (.iload_n 1, 1) := by decide +kernel
theorem dX5_countPaths_15 : decode cX5_countPaths 15 = .ok (.invokevirtual 70, 3) := by decide +kernel
theorem dX5_countPaths_18 : decode cX5_countPaths 18 = .ok (.ifCond .ne 7, 3) := by decide +kernel
theorem dX5_countPaths_21 : decode cX5_countPaths 21 = .ok (.iconst 0, 1) := by decide +kernel
theorem dX5_countPaths_22 : decode cX5_countPaths 22 = .ok (.goto 24, 3) := by decide +kernel
theorem dX5_countPaths_25 : decode cX5_countPaths 25 = .ok (.iload_n 1, 1) := by decide +kernel
theorem dX5_countPaths_26 : decode cX5_countPaths 26 = .ok (.bipush 8, 2) := by decide +kernel
theorem dX5_countPaths_28 : decode cX5_countPaths 28 = .ok (.if_icmp .ge 7, 3) := by decide +kernel
theorem dX5_countPaths_31 : decode cX5_countPaths 31 = .ok (.iconst 1, 1) := by decide +kernel
theorem dX5_countPaths_32 : decode cX5_countPaths 32 = .ok (.goto 14, 3) := by decide +kernel
theorem dX5_countPaths_35 : decode cX5_countPaths 35 = .ok (.aload_n 0, 1) := by decide +kernel
theorem dX5_countPaths_36 : decode cX5_countPaths 36 = .ok (.getfield 25, 3) := by decide +kernel
theorem dX5_countPaths_39 : decode cX5_countPaths 39 = .ok (.iload_n 1, 1) := by decide +kernel
theorem dX5_countPaths_40 : decode cX5_countPaths 40 = .ok (.bipush 8, 2) := by decide +kernel
theorem dX5_countPaths_42 : decode cX5_countPaths 42 = .ok (.isub, 1) := by decide +kernel
theorem dX5_countPaths_43 : decode cX5_countPaths 43 = .ok (.invokestatic 74, 3) := by decide +kernel
theorem dX5_countPaths_46 : decode cX5_countPaths 46 = .ok (.iastore, 1) := by decide +kernel
theorem dX5_countPaths_47 : decode cX5_countPaths 47 = .ok (.iinc 1 1, 3) := by decide +kernel
theorem dX5_countPaths_50 : decode cX5_countPaths 50 = .ok (.goto (-48), 3) := by decide +kernel
theorem dX5_countPaths_53 : decode cX5_countPaths 53 = .ok (.bipush 63, 2) := by decide +kernel
theorem dX5_countPaths_55 : decode cX5_countPaths 55 = .ok (.istore_n 1, 1) := by decide +kernel
theorem dX5_countPaths_56 : decode cX5_countPaths 56 = .ok (.iload_n 1, 1) := by decide +kernel
theorem dX5_countPaths_57 : decode cX5_countPaths 57 = .ok (.ifCond .lt 48, 3) := by decide +kernel
theorem dX5_countPaths_60 : decode cX5_countPaths 60 = .ok (.aload_n 0, 1) := by decide +kernel
theorem dX5_countPaths_61 : decode cX5_countPaths 61 = .ok (.getfield 28, 3) := by decide +kernel
theorem dX5_countPaths_64 : decode cX5_countPaths 64 = .ok (.iload_n 1, 1) := by decide +kernel
theorem dX5_countPaths_65 : decode cX5_countPaths 65 = .ok (.aload_n 0, 1) := by decide +kernel
theorem dX5_countPaths_66 : decode cX5_countPaths 66 = .ok (.iload_n 1, 1) := by decide +kernel
theorem dX5_countPaths_67 : decode cX5_countPaths 67 = .ok (.invokevirtual 70, 3) := by decide +kernel
theorem dX5_countPaths_70 : decode cX5_countPaths 70 = .ok (.ifCond .ne 7, 3) := by decide +kernel
theorem dX5_countPaths_73 : decode cX5_countPaths 73 = .ok (.iconst 0, 1) := by decide +kernel
theorem dX5_countPaths_74 : decode cX5_countPaths 74 = .ok (.goto 24, 3) := by decide +kernel
theorem dX5_countPaths_77 : decode cX5_countPaths 77 = .ok (.iload_n 1, 1) := by decide +kernel
theorem dX5_countPaths_78 : decode cX5_countPaths 78 = .ok (.bipush 56, 2) := by decide +kernel
theorem dX5_countPaths_80 : decode cX5_countPaths 80 = .ok (.if_icmp .lt 7, 3) := by decide +kernel
theorem dX5_countPaths_83 : decode cX5_countPaths 83 = .ok (.iconst 1, 1) := by decide +kernel
theorem dX5_countPaths_84 : decode cX5_countPaths 84 = .ok (.goto 14, 3) := by decide +kernel
theorem dX5_countPaths_87 : decode cX5_countPaths 87 = .ok (.aload_n 0, 1) := by decide +kernel
theorem dX5_countPaths_88 : decode cX5_countPaths 88 = .ok (.getfield 28, 3) := by decide +kernel
theorem dX5_countPaths_91 : decode cX5_countPaths 91 = .ok (.iload_n 1, 1) := by decide +kernel
theorem dX5_countPaths_92 : decode cX5_countPaths 92 = .ok (.bipush 8, 2) := by decide +kernel
theorem dX5_countPaths_94 : decode cX5_countPaths 94 = .ok (.iadd, 1) := by decide +kernel
theorem dX5_countPaths_95 : decode cX5_countPaths 95 = .ok (.invokestatic 74, 3) := by decide +kernel
theorem dX5_countPaths_98 : decode cX5_countPaths 98 = .ok (.iastore, 1) := by decide +kernel
theorem dX5_countPaths_99 : decode cX5_countPaths 99 = .ok (.iinc 1 (-1), 3) := by decide +kernel
theorem dX5_countPaths_102 : decode cX5_countPaths 102 = .ok (.goto (-46), 3) := by decide +kernel
theorem dX5_countPaths_105 : decode cX5_countPaths 105 = .ok (.return_, 1) := by decide +kernel
theorem dX5_allPaths_0 : decode cX5_allPaths 0 = .ok (.iconst 0, 1) := by decide +kernel
theorem dX5_allPaths_1 : decode cX5_allPaths 1 = .ok (.istore_n 1, 1) := by decide +kernel
theorem dX5_allPaths_2 : decode cX5_allPaths 2 = .ok (.iconst 0, 1) := by decide +kernel
theorem dX5_allPaths_3 : decode cX5_allPaths 3 = .ok (.istore_n 2, 1) := by decide +kernel
theorem dX5_allPaths_4 : decode cX5_allPaths 4 = .ok (.iload_n 2, 1) := by decide +kernel
theorem dX5_allPaths_5 : decode cX5_allPaths 5 = .ok (.bipush 8, 2) := by decide +kernel
theorem dX5_allPaths_7 : decode cX5_allPaths 7 = .ok (.if_icmp .ge 18, 3) := by decide +kernel
theorem dX5_allPaths_10 : decode cX5_allPaths 10 = .ok (.iload_n 1, 1) := by decide +kernel
theorem dX5_allPaths_11 : decode cX5_allPaths 11 = .ok (.aload_n 0, 1) := by decide +kernel
theorem dX5_allPaths_12 : decode cX5_allPaths 12 = .ok (.getfield 28, 3) := by decide +kernel
theorem dX5_allPaths_15 : decode cX5_allPaths 15 = .ok (.iload_n 2, 1) := by decide +kernel
theorem dX5_allPaths_16 : decode cX5_allPaths 16 = .ok (.iaload, 1) := by decide +kernel
theorem dX5_allPaths_17 : decode cX5_allPaths 17 = .ok (.iadd, 1) := by decide +kernel
theorem dX5_allPaths_18 : decode cX5_allPaths 18 = .ok (.istore_n 1, 1) := by decide +kernel
theorem dX5_allPaths_19 : decode cX5_allPaths 19 = .ok (.iinc 2 1, 3) := by decide +kernel
theorem dX5_allPaths_22 : decode cX5_allPaths 22 = .ok (.goto (-18), 3) := by decide +kernel
theorem dX5_allPaths_25 : decode cX5_allPaths 25 = .ok (.iload_n 1, 1) := by decide +kernel
theorem dX5_allPaths_26 : decode cX5_allPaths 26 = .ok (.ireturn, 1) := by decide +kernel
theorem dX5_paths_0 : decode cX5_paths 0 = .ok (.aload_n 0, 1) := by decide +kernel
theorem dX5_paths_1 : decode cX5_paths 1 = .ok (.invokevirtual 78, 3) := by decide +kernel
theorem dX5_paths_4 : decode cX5_paths 4 = .ok (.aload_n 0, 1) := by decide +kernel
theorem dX5_paths_5 : decode cX5_paths 5 = .ok (.invokevirtual 81, 3) := by decide +kernel
theorem dX5_paths_8 : decode cX5_paths 8 = .ok (.ireturn, 1) := by decide +kernel
theorem dX5_hits_0 : decode cX5_hits 0 = .ok (.iconst 0, 1) := by decide +kernel
theorem dX5_hits_1 : decode cX5_hits 1 = .ok (.istore_n 2, 1) := by decide +kernel
theorem dX5_hits_2 : decode cX5_hits 2 = .ok (.iconst 0, 1) := by decide +kernel
theorem dX5_hits_3 : decode cX5_hits 3 = .ok (.istore_n 3, 1) := by decide +kernel
theorem dX5_hits_4 : decode cX5_hits 4 = .ok (.iload_n 3, 1) := by decide +kernel
theorem dX5_hits_5 : decode cX5_hits 5 = .ok (.bipush 8, 2) := by decide +kernel
theorem dX5_hits_7 : decode cX5_hits 7 = .ok (.if_icmp .ge 67, 3) := by decide +kernel
theorem dX5_hits_10 : decode cX5_hits 10 = .ok (.iload_n 1, 1) := by decide +kernel
theorem dX5_hits_11 : decode cX5_hits 11 = .ok (.bipush 8, 2) := by decide +kernel
theorem dX5_hits_13 : decode cX5_hits 13 = .ok (.idiv, 1) := by decide +kernel
theorem dX5_hits_14 : decode cX5_hits 14 = .ok (.bipush 8, 2) := by decide +kernel
theorem dX5_hits_16 : decode cX5_hits 16 = .ok (.imul, 1) := by decide +kernel
theorem dX5_hits_17 : decode cX5_hits 17 = .ok (.iload_n 3, 1) := by decide +kernel
theorem dX5_hits_18 : decode cX5_hits 18 = .ok (.iadd, 1) := by decide +kernel
theorem dX5_hits_19 : decode cX5_hits 19 = .ok (.istore 4, 2) := by decide +kernel
theorem dX5_hits_21 : decode cX5_hits 21 = .ok (.iload_n 2, 1) := by decide +kernel
theorem dX5_hits_22 : decode cX5_hits 22 = .ok (.iload_n 3, 1) := by decide +kernel
theorem dX5_hits_23 : decode cX5_hits 23 = .ok (.iload_n 1, 1) := by decide +kernel
theorem dX5_hits_24 : decode cX5_hits 24 = .ok (.bipush 8, 2) := by decide +kernel
theorem dX5_hits_26 : decode cX5_hits 26 = .ok (.irem, 1) := by decide +kernel
theorem dX5_hits_27 : decode cX5_hits 27 = .ok (.isub, 1) := by decide +kernel
theorem dX5_hits_28 : decode cX5_hits 28 = .ok (.aload_n 0, 1) := by decide +kernel
theorem dX5_hits_29 : decode cX5_hits 29 = .ok (.getfield 7, 3) := by decide +kernel
theorem dX5_hits_32 : decode cX5_hits 32 = .ok (.iconst 1, 1) := by decide +kernel
theorem dX5_hits_33 : decode cX5_hits 33 = .ok (.iaload, 1) := by decide +kernel
theorem dX5_hits_34 : decode cX5_hits 34 = .ok (.ineg, 1) := by decide +kernel
theorem dX5_hits_35 : decode cX5_hits 35 = .ok (.aload_n 0, 1) := by decide +kernel
theorem dX5_hits_36 : decode cX5_hits 36 = .ok (.getfield 7, 3) := by decide +kernel
theorem dX5_hits_39 : decode cX5_hits 39 = .ok (.iconst 1, 1) := by decide +kernel
theorem dX5_hits_40 : decode cX5_hits 40 = .ok (.iaload, 1) := by decide +kernel
theorem dX5_hits_41 : decode cX5_hits 41 = .ok (.invokestatic 47, 3) := by decide +kernel
theorem dX5_hits_44 : decode cX5_hits 44 = .ok (.ifCond .eq 21, 3) := by decide +kernel
theorem dX5_hits_47 : decode cX5_hits 47 = .ok (.aload_n 0, 1) := by decide +kernel
theorem dX5_hits_48 : decode cX5_hits 48 = .ok (.getfield 25, 3) := by decide +kernel
theorem dX5_hits_51 : decode cX5_hits 51 = .ok (.iload 4, 2) := by decide +kernel
theorem dX5_hits_53 : decode cX5_hits 53 = .ok (.iaload, 1) := by decide +kernel
theorem dX5_hits_54 : decode cX5_hits 54 = .ok (.aload_n 0, 1) := by decide +kernel
theorem dX5_hits_55 : decode cX5_hits 55 = .ok (.getfield 28, 3) := by decide +kernel
theorem dX5_hits_58 : decode cX5_hits 58 = .ok (.iload 4, 2) := by decide +kernel
theorem dX5_hits_60 : decode cX5_hits 60 = .ok (.iaload, 1) := by decide +kernel
theorem dX5_hits_61 : decode cX5_hits 61 = .ok (.imul, 1) := by decide +kernel
theorem dX5_hits_62 : decode cX5_hits 62 = .ok (.goto 4, 3) := by decide +kernel
theorem dX5_hits_65 : decode cX5_hits 65 = .ok (.iconst 0, 1) := by decide +kernel
theorem dX5_hits_66 : decode cX5_hits 66 = .ok (.iadd, 1) := by decide +kernel
theorem dX5_hits_67 : decode cX5_hits 67 = .ok (.istore_n 2, 1) := by decide +kernel
theorem dX5_hits_68 : decode cX5_hits 68 = .ok (.iinc 3 1, 3) := by decide +kernel
theorem dX5_hits_71 : decode cX5_hits 71 = .ok (.goto (-67), 3) := by decide +kernel
theorem dX5_hits_74 : decode cX5_hits 74 = .ok (.iload_n 2, 1) := by decide +kernel
theorem dX5_hits_75 : decode cX5_hits 75 = .ok (.ireturn, 1) := by decide +kernel
theorem dX5_standsToLose_0 : decode cX5_standsToLose 0 = .ok (.aload_n 0, 1) := by decide +kernel
theorem dX5_standsToLose_1 : decode cX5_standsToLose 1 = .ok (.getfield 7, 3) := by decide +kernel
theorem dX5_standsToLose_4 : decode cX5_standsToLose 4 = .ok (.bipush 28, 2) := by decide +kernel
theorem dX5_standsToLose_6 : decode cX5_standsToLose 6 = .ok (.iload_n 1, 1) := by decide +kernel
theorem dX5_standsToLose_7 : decode cX5_standsToLose 7 = .ok (.iadd, 1) := by decide +kernel
theorem dX5_standsToLose_8 : decode cX5_standsToLose 8 = .ok (.iaload, 1) := by decide +kernel
theorem dX5_standsToLose_9 : decode cX5_standsToLose 9 = .ok (.i2l, 1) := by decide +kernel
theorem dX5_standsToLose_10 : decode cX5_standsToLose 10 = .ok (.aload_n 0, 1) := by decide +kernel
theorem dX5_standsToLose_11 : decode cX5_standsToLose 11 = .ok (.iload_n 1, 1) := by decide +kernel
theorem dX5_standsToLose_12 : decode cX5_standsToLose 12 = .ok (.invokevirtual 85, 3) := by decide +kernel
theorem dX5_standsToLose_15 : decode cX5_standsToLose 15 = .ok (.i2l, 1) := by decide +kernel
theorem dX5_standsToLose_16 : decode cX5_standsToLose 16 = .ok (.lmul, 1) := by decide +kernel
theorem dX5_standsToLose_17 : decode cX5_standsToLose 17 = .ok (.aload_n 0, 1) := by decide +kernel
theorem dX5_standsToLose_18 : decode cX5_standsToLose 18 = .ok (.invokevirtual 81, 3) := by decide +kernel
theorem dX5_standsToLose_21 : decode cX5_standsToLose 21 = .ok (.i2l, 1) := by decide +kernel
theorem dX5_standsToLose_22 : decode cX5_standsToLose 22 = .ok (.ldiv, 1) := by decide +kernel
theorem dX5_standsToLose_23 : decode cX5_standsToLose 23 = .ok (.l2i, 1) := by decide +kernel
theorem dX5_standsToLose_24 : decode cX5_standsToLose 24 = .ok (.ireturn, 1) := by decide +kernel
theorem dX5_enters_0 : decode cX5_enters 0 = .ok (.iconst 1, 1) := by decide +kernel
theorem dX5_enters_1 : decode cX5_enters 1 = .ok (.aload_n 0, 1) := by decide +kernel
theorem dX5_enters_2 : decode cX5_enters 2 = .ok (.getfield 7, 3) := by decide +kernel
theorem dX5_enters_5 : decode cX5_enters 5 = .ok (.bipush 92, 2) := by decide +kernel
theorem dX5_enters_7 : decode cX5_enters 7 = .ok (.iload_n 1, 1) := by decide +kernel
theorem dX5_enters_8 : decode cX5_enters 8 = .ok (.iadd, 1) := by decide +kernel
theorem dX5_enters_9 : decode cX5_enters 9 = .ok (.iaload, 1) := by decide +kernel
theorem dX5_enters_10 : decode cX5_enters 10 = .ok (.iconst 3, 1) := by decide +kernel
theorem dX5_enters_11 : decode cX5_enters 11 = .ok (.idiv, 1) := by decide +kernel
theorem dX5_enters_12 : decode cX5_enters 12 = .ok (.iadd, 1) := by decide +kernel
theorem dX5_enters_13 : decode cX5_enters 13 = .ok (.ireturn, 1) := by decide +kernel
theorem dX5_nearer_0 : decode cX5_nearer 0 = .ok (.aload_n 0, 1) := by decide +kernel
theorem dX5_nearer_1 : decode cX5_nearer 1 = .ok (.getfield 31, 3) := by decide +kernel
theorem dX5_nearer_4 : decode cX5_nearer 4 = .ok (.iload_n 2, 1) := by decide +kernel
theorem dX5_nearer_5 : decode cX5_nearer 5 = .ok (.iaload, 1) := by decide +kernel
theorem dX5_nearer_6 : decode cX5_nearer 6 = .ok (.aload_n 0, 1) := by decide +kernel
theorem dX5_nearer_7 : decode cX5_nearer 7 = .ok (.iload_n 1, 1) := by decide +kernel
theorem dX5_nearer_8 : decode cX5_nearer 8 = .ok (.invokevirtual 89, 3) := by decide +kernel
theorem dX5_nearer_11 : decode cX5_nearer 11 = .ok (.iadd, 1) := by decide +kernel
theorem dX5_nearer_12 : decode cX5_nearer 12 = .ok (.istore_n 3, 1) := by decide +kernel
theorem dX5_nearer_13 : decode cX5_nearer 13 = .ok (.iload_n 3, 1) := by decide +kernel
theorem dX5_nearer_14 : decode cX5_nearer 14 = .ok (.aload_n 0, 1) := by decide +kernel
theorem dX5_nearer_15 : decode cX5_nearer 15 = .ok (.getfield 31, 3) := by decide +kernel
theorem dX5_nearer_18 : decode cX5_nearer 18 = .ok (.iload_n 1, 1) := by decide +kernel
theorem dX5_nearer_19 : decode cX5_nearer 19 = .ok (.iaload, 1) := by decide +kernel
theorem dX5_nearer_20 : decode cX5_nearer 20 = .ok (.if_icmp .ge 7, 3) := by decide +kernel
theorem dX5_nearer_23 : decode cX5_nearer 23 = .ok (.iconst 1, 1) := by decide +kernel
theorem dX5_nearer_24 : decode cX5_nearer 24 = .ok (.goto 4, 3) := by decide +kernel
theorem dX5_nearer_27 : decode cX5_nearer 27 = .ok (.iconst 0, 1) := by decide +kernel
theorem dX5_nearer_28 : decode cX5_nearer 28 = .ok (.istore 4, 2) := by decide +kernel
theorem dX5_nearer_30 : decode cX5_nearer 30 = .ok (.aload_n 0, 1) := by decide +kernel
theorem dX5_nearer_31 : decode cX5_nearer 31 = .ok (.getfield 31, 3) := by decide +kernel
theorem dX5_nearer_34 : decode cX5_nearer 34 = .ok (.iload_n 1, 1) := by decide +kernel
theorem dX5_nearer_35 : decode cX5_nearer 35 = .ok (.iload 4, 2) := by decide +kernel
theorem dX5_nearer_37 : decode cX5_nearer 37 = .ok (.ifCond .eq 7, 3) := by decide +kernel
theorem dX5_nearer_40 : decode cX5_nearer 40 = .ok (.iload_n 3, 1) := by decide +kernel
theorem dX5_nearer_41 : decode cX5_nearer 41 = .ok (.goto 9, 3) := by decide +kernel
theorem dX5_nearer_44 : decode cX5_nearer 44 = .ok (.aload_n 0, 1) := by decide +kernel
theorem dX5_nearer_45 : decode cX5_nearer 45 = .ok (.getfield 31, 3) := by decide +kernel
theorem dX5_nearer_48 : decode cX5_nearer 48 = .ok (.iload_n 1, 1) := by decide +kernel
theorem dX5_nearer_49 : decode cX5_nearer 49 = .ok (.iaload, 1) := by decide +kernel
theorem dX5_nearer_50 : decode cX5_nearer 50 = .ok (.iastore, 1) := by decide +kernel
theorem dX5_nearer_51 : decode cX5_nearer 51 = .ok (.iload 4, 2) := by decide +kernel
theorem dX5_nearer_53 : decode cX5_nearer 53 = .ok (.ireturn, 1) := by decide +kernel
theorem dX5_getsNearer_0 : decode cX5_getsNearer 0 = .ok (.iload_n 1, 1) := by decide +kernel
theorem dX5_getsNearer_1 : decode cX5_getsNearer 1 = .ok (.bipush 8, 2) := by decide +kernel
theorem dX5_getsNearer_3 : decode cX5_getsNearer 3 = .ok (.irem, 1) := by decide +kernel
theorem dX5_getsNearer_4 : decode cX5_getsNearer 4 = .ok (.ifCond .le 18, 3) := by decide +kernel
theorem dX5_getsNearer_7 : decode cX5_getsNearer 7 = .ok (.aload_n 0, 1) := by decide +kernel
theorem dX5_getsNearer_8 : decode cX5_getsNearer 8 = .ok (.iload_n 1, 1) := by decide +kernel
theorem dX5_getsNearer_9 : decode cX5_getsNearer 9 = .ok (.iload_n 1, 1) := by decide +kernel
theorem dX5_getsNearer_10 : decode cX5_getsNearer 10 = .ok (.iconst 1, 1) := by decide +kernel
theorem dX5_getsNearer_11 : decode cX5_getsNearer 11 = .ok (.isub, 1) := by decide +kernel
theorem dX5_getsNearer_12 : decode cX5_getsNearer 12 = .ok (.invokevirtual 92, 3) := by decide +kernel
theorem dX5_getsNearer_15 : decode cX5_getsNearer 15 = .ok (.ifCond .eq 7, 3) := by decide +kernel
theorem dX5_getsNearer_18 : decode cX5_getsNearer 18 = .ok (.iconst 1, 1) := by decide +kernel
theorem dX5_getsNearer_19 : decode cX5_getsNearer 19 = .ok (.goto 4, 3) := by decide +kernel
theorem dX5_getsNearer_22 : decode cX5_getsNearer 22 = .ok (.iconst 0, 1) := by decide +kernel
theorem dX5_getsNearer_23 : decode cX5_getsNearer 23 = .ok (.istore_n 2, 1) := by decide +kernel
theorem dX5_getsNearer_24 : decode cX5_getsNearer 24 = .ok (.iload_n 1, 1) := by decide +kernel
theorem dX5_getsNearer_25 : decode cX5_getsNearer 25 = .ok (.bipush 8, 2) := by decide +kernel
theorem dX5_getsNearer_27 : decode cX5_getsNearer 27 = .ok (.irem, 1) := by decide +kernel
theorem dX5_getsNearer_28 : decode cX5_getsNearer 28 = .ok (.bipush 7, 2) := by decide +kernel
theorem dX5_getsNearer_30 : decode cX5_getsNearer 30 = .ok (.if_icmp .ge 18, 3) := by decide +kernel
theorem dX5_getsNearer_33 : decode cX5_getsNearer 33 = .ok (.aload_n 0, 1) := by decide +kernel
theorem dX5_getsNearer_34 : decode cX5_getsNearer 34 = .ok (.iload_n 1, 1) := by decide +kernel
theorem dX5_getsNearer_35 : decode cX5_getsNearer 35 = .ok (.iload_n 1, 1) := by decide +kernel
theorem dX5_getsNearer_36 : decode cX5_getsNearer 36 = .ok (.iconst 1, 1) := by decide +kernel
theorem dX5_getsNearer_37 : decode cX5_getsNearer 37 = .ok (.iadd, 1) := by decide +kernel
theorem dX5_getsNearer_38 : decode cX5_getsNearer 38 = .ok (.invokevirtual 92, 3) := by decide +kernel
theorem dX5_getsNearer_41 : decode cX5_getsNearer 41 = .ok (.ifCond .eq 7, 3) := by decide +kernel
theorem dX5_getsNearer_44 : decode cX5_getsNearer 44 = .ok (.iconst 1, 1) := by decide +kernel
theorem dX5_getsNearer_45 : decode cX5_getsNearer 45 = .ok (.goto 4, 3) := by decide +kernel
theorem dX5_getsNearer_48 : decode cX5_getsNearer 48 = .ok (.iconst 0, 1) := by decide +kernel
theorem dX5_getsNearer_49 : decode cX5_getsNearer 49 = .ok (.istore_n 3, 1) := by decide +kernel
theorem dX5_getsNearer_50 : decode cX5_getsNearer 50 = .ok (.iload_n 1, 1) := by decide +kernel
theorem dX5_getsNearer_51 : decode cX5_getsNearer 51 = .ok (.bipush 8, 2) := by decide +kernel
theorem dX5_getsNearer_53 : decode cX5_getsNearer 53 = .ok (.if_icmp .lt 19, 3) := by decide +kernel
theorem dX5_getsNearer_56 : decode cX5_getsNearer 56 = .ok (.aload_n 0, 1) := by decide +kernel
theorem dX5_getsNearer_57 : decode cX5_getsNearer 57 = .ok (.iload_n 1, 1) := by decide +kernel
theorem dX5_getsNearer_58 : decode cX5_getsNearer 58 = .ok (.iload_n 1, 1) := by decide +kernel
theorem dX5_getsNearer_59 : decode cX5_getsNearer 59 = .ok (.bipush 8, 2) := by decide +kernel
theorem dX5_getsNearer_61 : decode cX5_getsNearer 61 = .ok (.isub, 1) := by decide +kernel
theorem dX5_getsNearer_62 : decode cX5_getsNearer 62 = .ok (.invokevirtual 92, 3) := by decide +kernel
theorem dX5_getsNearer_65 : decode cX5_getsNearer 65 = .ok (.ifCond .eq 7, 3) := by decide +kernel
theorem dX5_getsNearer_68 : decode cX5_getsNearer 68 = .ok (.iconst 1, 1) := by decide +kernel
theorem dX5_getsNearer_69 : decode cX5_getsNearer 69 = .ok (.goto 4, 3) := by decide +kernel
theorem dX5_getsNearer_72 : decode cX5_getsNearer 72 = .ok (.iconst 0, 1) := by decide +kernel
theorem dX5_getsNearer_73 : decode cX5_getsNearer 73 = .ok (.istore 4, 2) := by decide +kernel
theorem dX5_getsNearer_75 : decode cX5_getsNearer 75 = .ok (.iload_n 1, 1) := by decide +kernel
theorem dX5_getsNearer_76 : decode cX5_getsNearer 76 = .ok (.bipush 56, 2) := by decide +kernel
theorem dX5_getsNearer_78 : decode cX5_getsNearer 78 = .ok (.if_icmp .ge 19, 3) := by decide +kernel
theorem dX5_getsNearer_81 : decode cX5_getsNearer 81 = .ok (.aload_n 0, 1) := by decide +kernel
theorem dX5_getsNearer_82 : decode cX5_getsNearer 82 = .ok (.iload_n 1, 1) := by decide +kernel
theorem dX5_getsNearer_83 : decode cX5_getsNearer 83 = .ok (.iload_n 1, 1) := by decide +kernel
theorem dX5_getsNearer_84 : decode cX5_getsNearer 84 = .ok (.bipush 8, 2) := by decide +kernel
theorem dX5_getsNearer_86 : decode cX5_getsNearer 86 = .ok (.iadd, 1) := by decide +kernel
theorem dX5_getsNearer_87 : decode cX5_getsNearer 87 = .ok (.invokevirtual 92, 3) := by decide +kernel
theorem dX5_getsNearer_90 : decode cX5_getsNearer 90 = .ok (.ifCond .eq 7, 3) := by decide +kernel
theorem dX5_getsNearer_93 : decode cX5_getsNearer 93 = .ok (.iconst 1, 1) := by decide +kernel
theorem dX5_getsNearer_94 : decode cX5_getsNearer 94 = .ok (.goto 4, 3) := by decide +kernel
theorem dX5_getsNearer_97 : decode cX5_getsNearer 97 = .ok (.iconst 0, 1) := by decide +kernel
theorem dX5_getsNearer_98 : decode cX5_getsNearer 98 = .ok (.istore 5, 2) := by decide +kernel
theorem dX5_getsNearer_100 : decode cX5_getsNearer 100 = .ok (.iload_n 2, 1) := by decide +kernel
theorem dX5_getsNearer_101 : decode cX5_getsNearer 101 = .ok (.ifCond .ne 17, 3) := by decide +kernel
theorem dX5_getsNearer_104 : decode cX5_getsNearer 104 = .ok (.iload_n 3, 1) := by decide +kernel
theorem dX5_getsNearer_105 : decode cX5_getsNearer 105 = .ok (.ifCond .ne 13, 3) := by decide +kernel
theorem dX5_getsNearer_108 : decode cX5_getsNearer 108 = .ok (.iload 4, 2) := by decide +kernel
theorem dX5_getsNearer_110 : decode cX5_getsNearer 110 = .ok (.ifCond .ne 8, 3) := by decide +kernel
theorem dX5_getsNearer_113 : decode cX5_getsNearer 113 = .ok (.iload 5, 2) := by decide +kernel
theorem dX5_getsNearer_115 : decode cX5_getsNearer 115 = .ok (.ifCond .eq 7, 3) := by decide +kernel
theorem dX5_getsNearer_118 : decode cX5_getsNearer 118 = .ok (.iconst 1, 1) := by decide +kernel
theorem dX5_getsNearer_119 : decode cX5_getsNearer 119 = .ok (.goto 4, 3) := by decide +kernel
theorem dX5_getsNearer_122 : decode cX5_getsNearer 122 = .ok (.iconst 0, 1) := by decide +kernel
theorem dX5_getsNearer_123 : decode cX5_getsNearer 123 = .ok (.ireturn, 1) := by decide +kernel
theorem dX5_measure_0 : decode cX5_measure 0 = .ok (.iconst 0, 1) := by decide +kernel
theorem dX5_measure_1 : decode cX5_measure 1 = .ok (.istore_n 2, 1) := by decide +kernel
theorem dX5_measure_2 : decode cX5_measure 2 = .ok (.iload_n 2, 1) := by decide +kernel
theorem dX5_measure_3 : decode cX5_measure 3 = .ok (.bipush 64, 2) := by decide +kernel
theorem dX5_measure_5 : decode cX5_measure 5 = .ok (.if_icmp .ge 26, 3) := by decide +kernel
theorem dX5_measure_8 : decode cX5_measure 8 = .ok (.aload_n 0, 1) := by decide +kernel
theorem dX5_measure_9 : decode cX5_measure 9 = .ok (.getfield 31, 3) := by decide +kernel
theorem dX5_measure_12 : decode cX5_measure 12 = .ok (.iload_n 2, 1) := by decide +kernel
theorem dX5_measure_13 : decode cX5_measure 13 = .ok (.iload_n 2, 1) := by decide +kernel
theorem dX5_measure_14 : decode cX5_measure 14 = .ok (.iload_n 1, 1) := by decide +kernel
theorem dX5_measure_15 : decode cX5_measure 15 = .ok (.if_icmp .ne 7, 3) := by decide +kernel
theorem dX5_measure_18 : decode cX5_measure 18 = .ok (.iconst 0, 1) := by decide +kernel
theorem dX5_measure_19 : decode cX5_measure 19 = .ok (.goto 5, 3) := by decide +kernel
theorem dX5_measure_22 : decode cX5_measure 22 = .ok (.ldc 96, 2) := by decide +kernel
theorem dX5_measure_24 : decode cX5_measure 24 = .ok (.iastore, 1) := by decide +kernel
theorem dX5_measure_25 : decode cX5_measure 25 = .ok (.iinc 2 1, 3) := by decide +kernel
theorem dX5_measure_28 : decode cX5_measure 28 = .ok (.goto (-26), 3) := by decide +kernel
theorem dX5_measure_31 : decode cX5_measure 31 = .ok (.iconst 1, 1) := by decide +kernel
theorem dX5_measure_32 : decode cX5_measure 32 = .ok (.istore_n 2, 1) := by decide +kernel
theorem dX5_measure_33 : decode cX5_measure 33 = .ok (.iload_n 2, 1) := by decide +kernel
theorem dX5_measure_34 : decode cX5_measure 34 = .ok (.ifCond .eq 40, 3) := by decide +kernel
theorem dX5_measure_37 : decode cX5_measure 37 = .ok (.iconst 0, 1) := by decide +kernel
theorem dX5_measure_38 : decode cX5_measure 38 = .ok (.istore_n 2, 1) := by decide +kernel
theorem dX5_measure_39 : decode cX5_measure 39 = .ok (.iconst 0, 1) := by decide +kernel
theorem dX5_measure_40 : decode cX5_measure 40 = .ok (.istore_n 3, 1) := by decide +kernel
theorem dX5_measure_41 : decode cX5_measure 41 = .ok (.iload_n 3, 1) := by decide +kernel
theorem dX5_measure_42 : decode cX5_measure 42 = .ok (.bipush 64, 2) := by decide +kernel
theorem dX5_measure_44 : decode cX5_measure 44 = .ok (.if_icmp .ge 27, 3) := by decide +kernel
theorem dX5_measure_47 : decode cX5_measure 47 = .ok (.aload_n 0, 1) := by decide +kernel
theorem dX5_measure_48 : decode cX5_measure 48 = .ok (.iload_n 3, 1) := by decide +kernel
theorem dX5_measure_49 : decode cX5_measure 49 = .ok (.invokevirtual 97, 3) := by decide +kernel
theorem dX5_measure_52 : decode cX5_measure 52 = .ok (.ifCond .ne 7, 3) := by decide +kernel
theorem dX5_measure_55 : decode cX5_measure 55 = .ok (.iload_n 2, 1) := by decide +kernel
theorem dX5_measure_56 : decode cX5_measure 56 = .ok (.ifCond .eq 7, 3) := by decide +kernel
theorem dX5_measure_59 : decode cX5_measure 59 = .ok (.iconst 1, 1) := by decide +kernel
theorem dX5_measure_60 : decode cX5_measure 60 = .ok (.goto 4, 3) := by decide +kernel
theorem dX5_measure_63 : decode cX5_measure 63 = .ok (.iconst 0, 1) := by decide +kernel
theorem dX5_measure_64 : decode cX5_measure 64 = .ok (.istore_n 2, 1) := by decide +kernel
theorem dX5_measure_65 : decode cX5_measure 65 = .ok (.iinc 3 1, 3) := by decide +kernel
theorem dX5_measure_68 : decode cX5_measure 68 = .ok (.goto (-27), 3) := by decide +kernel
theorem dX5_measure_71 : decode cX5_measure 71 = .ok (.goto (-38), 3) := by decide +kernel
theorem dX5_measure_74 : decode cX5_measure 74 = .ok (.return_, 1) := by decide +kernel
theorem dX5_whyNotGrow_0 : decode cX5_whyNotGrow 0 = .ok (.iload_n 1, 1) := by decide +kernel
theorem dX5_whyNotGrow_1 : decode cX5_whyNotGrow 1 = .ok (.invokestatic 100, 3) := by decide +kernel
theorem dX5_whyNotGrow_4 : decode cX5_whyNotGrow 4 = .ok (.ifCond .ne 7, 3) := by decide +kernel
theorem dX5_whyNotGrow_7 : decode cX5_whyNotGrow 7 = .ok (.iconst (-1), 1) := by decide +kernel
theorem dX5_whyNotGrow_8 : decode cX5_whyNotGrow 8 = .ok (.goto 19, 3) := by decide +kernel
theorem dX5_whyNotGrow_11 : decode cX5_whyNotGrow 11 = .ok (.iload_n 2, 1) := by decide +kernel
theorem dX5_whyNotGrow_12 : decode cX5_whyNotGrow 12 = .ok (.iconst 0, 1) := by decide +kernel
theorem dX5_whyNotGrow_13 : decode cX5_whyNotGrow 13 = .ok (.bipush 99, 2) := by decide +kernel
theorem dX5_whyNotGrow_15 : decode cX5_whyNotGrow 15 = .ok (.invokestatic 47, 3) := by decide +kernel
theorem dX5_whyNotGrow_18 : decode cX5_whyNotGrow 18 = .ok (.ifCond .eq 7, 3) := by decide +kernel
theorem dX5_whyNotGrow_21 : decode cX5_whyNotGrow 21 = .ok (.iconst 0, 1) := by decide +kernel
theorem dX5_whyNotGrow_22 : decode cX5_whyNotGrow 22 = .ok (.goto 5, 3) := by decide +kernel
theorem dX5_whyNotGrow_25 : decode cX5_whyNotGrow 25 = .ok (.bipush (-2), 2) := by decide +kernel
theorem dX5_whyNotGrow_27 : decode cX5_whyNotGrow 27 = .ok (.ireturn, 1) := by decide +kernel
theorem dX5_grow_0 : decode cX5_grow 0 = .ok (.aload_n 0, 1) := by decide +kernel
theorem dX5_grow_1 : decode cX5_grow 1 = .ok (.iload_n 1, 1) := by decide +kernel
theorem dX5_grow_2 : decode cX5_grow 2 = .ok (.iload_n 2, 1) := by decide +kernel
theorem dX5_grow_3 : decode cX5_grow 3 = .ok (.invokevirtual 103, 3) := by decide +kernel
theorem dX5_grow_6 : decode cX5_grow 6 = .ok (.istore_n 3, 1) := by decide +kernel
theorem dX5_grow_7 : decode cX5_grow 7 = .ok (.iload_n 3, 1) := by decide +kernel
theorem dX5_grow_8 : decode cX5_grow 8 = .ok (.ifCond .ge 5, 3) := by decide +kernel
theorem dX5_grow_11 : decode cX5_grow 11 = .ok (.iload_n 3, 1) := by decide +kernel
theorem dX5_grow_12 : decode cX5_grow 12 = .ok (.ireturn, 1) := by decide +kernel
theorem dX5_grow_13 : decode cX5_grow 13 = .ok (.aload_n 0, 1) := by decide +kernel
theorem dX5_grow_14 : decode cX5_grow 14 = .ok (.getfield 7, 3) := by decide +kernel
theorem dX5_grow_17 : decode cX5_grow 17 = .ok (.bipush 28, 2) := by decide +kernel
theorem dX5_grow_19 : decode cX5_grow 19 = .ok (.iload_n 1, 1) := by decide +kernel
theorem dX5_grow_20 : decode cX5_grow 20 = .ok (.iadd, 1) := by decide +kernel
theorem dX5_grow_21 : decode cX5_grow 21 = .ok (.iaload, 1) := by decide +kernel
theorem dX5_grow_22 : decode cX5_grow 22 = .ok (.istore 4, 2) := by decide +kernel
theorem dX5_grow_24 : decode cX5_grow 24 = .ok (.iload 4, 2) := by decide +kernel
theorem dX5_grow_26 : decode cX5_grow 26 = .ok (.iload_n 2, 1) := by decide +kernel
theorem dX5_grow_27 : decode cX5_grow 27 = .ok (.if_icmp .ne 6, 3) := by decide +kernel
theorem dX5_grow_30 : decode cX5_grow 30 = .ok (.bipush (-5), 2) := by decide +kernel
theorem dX5_grow_32 : decode cX5_grow 32 = .ok (.ireturn, 1) := by decide +kernel
theorem dX5_grow_33 : decode cX5_grow 33 = .ok (.aload_n 0, 1) := by decide +kernel
theorem dX5_grow_34 : decode cX5_grow 34 = .ok (.invokevirtual 67, 3) := by decide +kernel
theorem dX5_grow_37 : decode cX5_grow 37 = .ok (.aload_n 0, 1) := by decide +kernel
theorem dX5_grow_38 : decode cX5_grow 38 = .ok (.getfield 7, 3) := by decide +kernel
theorem dX5_grow_41 : decode cX5_grow 41 = .ok (.bipush 28, 2) := by decide +kernel
theorem dX5_grow_43 : decode cX5_grow 43 = .ok (.iload_n 1, 1) := by decide +kernel
theorem dX5_grow_44 : decode cX5_grow 44 = .ok (.iadd, 1) := by decide +kernel
theorem dX5_grow_45 : decode cX5_grow 45 = .ok (.iload_n 2, 1) := by decide +kernel
theorem dX5_grow_46 : decode cX5_grow 46 = .ok (.iastore, 1) := by decide +kernel
theorem dX5_grow_47 : decode cX5_grow 47 = .ok (.iload 4, 2) := by decide +kernel
theorem dX5_grow_49 : decode cX5_grow 49 = .ok (.ireturn, 1) := by decide +kernel
theorem dX5_rainNow_0 : decode cX5_rainNow 0 = .ok (.iconst 0, 1) := by decide +kernel
theorem dX5_rainNow_1 : decode cX5_rainNow 1 = .ok (.istore_n 2, 1) := by decide +kernel
theorem dX5_rainNow_2 : decode cX5_rainNow 2 = .ok (.iconst 0, 1) := by decide +kernel
theorem dX5_rainNow_3 : decode cX5_rainNow 3 = .ok (.istore_n 3, 1) := by decide +kernel
theorem dX5_rainNow_4 : decode cX5_rainNow 4 = .ok (.iload_n 3, 1) := by decide +kernel
theorem dX5_rainNow_5 : decode cX5_rainNow 5 = .ok (.bipush 64, 2) := by decide +kernel
theorem dX5_rainNow_7 : decode cX5_rainNow 7 = .ok (.if_icmp .ge 60, 3) := by decide +kernel
theorem dX5_rainNow_10 : decode cX5_rainNow 10 = .ok (.aload_n 0, 1) := by decide +kernel
theorem dX5_rainNow_11 : decode cX5_rainNow 11 = .ok (.getfield 7, 3) := by decide +kernel
theorem dX5_rainNow_14 : decode cX5_rainNow 14 = .ok (.bipush 92, 2) := by decide +kernel
theorem dX5_rainNow_16 : decode cX5_rainNow 16 = .ok (.iload_n 3, 1) := by decide +kernel
theorem dX5_rainNow_17 : decode cX5_rainNow 17 = .ok (.iadd, 1) := by decide +kernel
theorem dX5_rainNow_18 : decode cX5_rainNow 18 = .ok (.iaload, 1) := by decide +kernel
theorem dX5_rainNow_19 : decode cX5_rainNow 19 = .ok (.iload_n 1, 1) := by decide +kernel
theorem dX5_rainNow_20 : decode cX5_rainNow 20 = .ok (.iadd, 1) := by decide +kernel
theorem dX5_rainNow_21 : decode cX5_rainNow 21 = .ok (.istore 4, 2) := by decide +kernel
theorem dX5_rainNow_23 : decode cX5_rainNow 23 = .ok (.aload_n 0, 1) := by decide +kernel
theorem dX5_rainNow_24 : decode cX5_rainNow 24 = .ok (.getfield 7, 3) := by decide +kernel
theorem dX5_rainNow_27 : decode cX5_rainNow 27 = .ok (.bipush 92, 2) := by decide +kernel
theorem dX5_rainNow_29 : decode cX5_rainNow 29 = .ok (.iload_n 3, 1) := by decide +kernel
theorem dX5_rainNow_30 : decode cX5_rainNow 30 = .ok (.iadd, 1) := by decide +kernel
theorem dX5_rainNow_31 : decode cX5_rainNow 31 = .ok (.iload 4, 2) := by decide +kernel
theorem dX5_rainNow_33 : decode cX5_rainNow 33 = .ok (.bipush 9, 2) := by decide +kernel
theorem dX5_rainNow_35 : decode cX5_rainNow 35 = .ok (.if_icmp .le 8, 3) := by decide +kernel
theorem dX5_rainNow_38 : decode cX5_rainNow 38 = .ok (.bipush 9, 2) := by decide +kernel
theorem dX5_rainNow_40 : decode cX5_rainNow 40 = .ok (.goto 5, 3) := by decide +kernel
theorem dX5_rainNow_43 : decode cX5_rainNow 43 = .ok (.iload 4, 2) := by decide +kernel
theorem dX5_rainNow_45 : decode cX5_rainNow 45 = .ok (.iastore, 1) := by decide +kernel
theorem dX5_rainNow_46 : decode cX5_rainNow 46 = .ok (.iload_n 2, 1) := by decide +kernel
theorem dX5_rainNow_47 : decode cX5_rainNow 47 = .ok (.iload 4, 2) := by decide +kernel
theorem dX5_rainNow_49 : decode cX5_rainNow 49 = .ok (.bipush 8, 2) := by decide +kernel
theorem dX5_rainNow_51 : decode cX5_rainNow 51 = .ok (.if_icmp .le 7, 3) := by decide +kernel
theorem dX5_rainNow_54 : decode cX5_rainNow 54 = .ok (.iconst 1, 1) := by decide +kernel
theorem dX5_rainNow_55 : decode cX5_rainNow 55 = .ok (.goto 4, 3) := by decide +kernel
theorem dX5_rainNow_58 : decode cX5_rainNow 58 = .ok (.iconst 0, 1) := by decide +kernel
theorem dX5_rainNow_59 : decode cX5_rainNow 59 = .ok (.iadd, 1) := by decide +kernel
theorem dX5_rainNow_60 : decode cX5_rainNow 60 = .ok (.istore_n 2, 1) := by decide +kernel
theorem dX5_rainNow_61 : decode cX5_rainNow 61 = .ok (.iinc 3 1, 3) := by decide +kernel
theorem dX5_rainNow_64 : decode cX5_rainNow 64 = .ok (.goto (-60), 3) := by decide +kernel
theorem dX5_rainNow_67 : decode cX5_rainNow 67 = .ok (.iload_n 2, 1) := by decide +kernel
theorem dX5_rainNow_68 : decode cX5_rainNow 68 = .ok (.ireturn, 1) := by decide +kernel
theorem dX5_rain_0 : decode cX5_rain 0 = .ok (.iload_n 1, 1) := by decide +kernel
theorem dX5_rain_1 : decode cX5_rain 1 = .ok (.iconst 1, 1) := by decide +kernel
theorem dX5_rain_2 : decode cX5_rain 2 = .ok (.bipush 9, 2) := by decide +kernel
theorem dX5_rain_4 : decode cX5_rain 4 = .ok (.invokestatic 47, 3) := by decide +kernel
theorem dX5_rain_7 : decode cX5_rain 7 = .ok (.ifCond .ne 6, 3) := by decide +kernel
theorem dX5_rain_10 : decode cX5_rain 10 = .ok (.bipush (-2), 2) := by decide +kernel
theorem dX5_rain_12 : decode cX5_rain 12 = .ok (.ireturn, 1) := by decide +kernel
theorem dX5_rain_13 : decode cX5_rain 13 = .ok (.aload_n 0, 1) := by decide +kernel
theorem dX5_rain_14 : decode cX5_rain 14 = .ok (.invokevirtual 67, 3) := by decide +kernel
theorem dX5_rain_17 : decode cX5_rain 17 = .ok (.aload_n 0, 1) := by decide +kernel
theorem dX5_rain_18 : decode cX5_rain 18 = .ok (.iload_n 1, 1) := by decide +kernel
theorem dX5_rain_19 : decode cX5_rain 19 = .ok (.invokevirtual 107, 3) := by decide +kernel
theorem dX5_rain_22 : decode cX5_rain 22 = .ok (.ireturn, 1) := by decide +kernel
theorem dX5_whyNotEnd_0 : decode cX5_whyNotEnd 0 = .ok (.iload_n 1, 1) := by decide +kernel
theorem dX5_whyNotEnd_1 : decode cX5_whyNotEnd 1 = .ok (.iconst 1, 1) := by decide +kernel
theorem dX5_whyNotEnd_2 : decode cX5_whyNotEnd 2 = .ok (.bipush 99, 2) := by decide +kernel
theorem dX5_whyNotEnd_4 : decode cX5_whyNotEnd 4 = .ok (.invokestatic 47, 3) := by decide +kernel
theorem dX5_whyNotEnd_7 : decode cX5_whyNotEnd 7 = .ok (.ifCond .ne 8, 3) := by decide +kernel
theorem dX5_whyNotEnd_10 : decode cX5_whyNotEnd 10 = .ok (.bipush (-2), 2) := by decide +kernel
theorem dX5_whyNotEnd_12 : decode cX5_whyNotEnd 12 = .ok (.goto 23, 3) := by decide +kernel
theorem dX5_whyNotEnd_15 : decode cX5_whyNotEnd 15 = .ok (.aload_n 0, 1) := by decide +kernel
theorem dX5_whyNotEnd_16 : decode cX5_whyNotEnd 16 = .ok (.getfield 7, 3) := by decide +kernel
theorem dX5_whyNotEnd_19 : decode cX5_whyNotEnd 19 = .ok (.iconst 3, 1) := by decide +kernel
theorem dX5_whyNotEnd_20 : decode cX5_whyNotEnd 20 = .ok (.iaload, 1) := by decide +kernel
theorem dX5_whyNotEnd_21 : decode cX5_whyNotEnd 21 = .ok (.iload_n 1, 1) := by decide +kernel
theorem dX5_whyNotEnd_22 : decode cX5_whyNotEnd 22 = .ok (.iadd, 1) := by decide +kernel
theorem dX5_whyNotEnd_23 : decode cX5_whyNotEnd 23 = .ok (.sipush 9999, 3) := by decide +kernel
theorem dX5_whyNotEnd_26 : decode cX5_whyNotEnd 26 = .ok (.if_icmp .le 8, 3) := by decide +kernel
theorem dX5_whyNotEnd_29 : decode cX5_whyNotEnd 29 = .ok (.bipush (-3), 2) := by decide +kernel
theorem dX5_whyNotEnd_31 : decode cX5_whyNotEnd 31 = .ok (.goto 4, 3) := by decide +kernel
theorem dX5_whyNotEnd_34 : decode cX5_whyNotEnd 34 = .ok (.iconst 0, 1) := by decide +kernel
theorem dX5_whyNotEnd_35 : decode cX5_whyNotEnd 35 = .ok (.ireturn, 1) := by decide +kernel
theorem dX5_endNow_0 : decode cX5_endNow 0 = .ok (.iconst 0, 1) := by decide +kernel
theorem dX5_endNow_1 : decode cX5_endNow 1 = .ok (.istore_n 2, 1) := by decide +kernel
theorem dX5_endNow_2 : decode cX5_endNow 2 = .ok (.iload_n 2, 1) := by decide +kernel
theorem dX5_endNow_3 : decode cX5_endNow 3 = .ok (.bipush 64, 2) := by decide +kernel
theorem dX5_endNow_5 : decode cX5_endNow 5 = .ok (.if_icmp .ge 46, 3) := by decide +kernel
theorem dX5_endNow_8 : decode cX5_endNow 8 = .ok (.aload_n 0, 1) := by decide +kernel
theorem dX5_endNow_9 : decode cX5_endNow 9 = .ok (.getfield 7, 3) := by decide +kernel
theorem dX5_endNow_12 : decode cX5_endNow 12 = .ok (.bipush 92, 2) := by decide +kernel
theorem dX5_endNow_14 : decode cX5_endNow 14 = .ok (.iload_n 2, 1) := by decide +kernel
theorem dX5_endNow_15 : decode cX5_endNow 15 = .ok (.iadd, 1) := by decide +kernel
theorem dX5_endNow_16 : decode cX5_endNow 16 = .ok (.aload_n 0, 1) := by decide +kernel
theorem dX5_endNow_17 : decode cX5_endNow 17 = .ok (.getfield 7, 3) := by decide +kernel
theorem dX5_endNow_20 : decode cX5_endNow 20 = .ok (.bipush 92, 2) := by decide +kernel
theorem dX5_endNow_22 : decode cX5_endNow 22 = .ok (.iload_n 2, 1) := by decide +kernel
theorem dX5_endNow_23 : decode cX5_endNow 23 = .ok (.iadd, 1) := by decide +kernel
theorem dX5_endNow_24 : decode cX5_endNow 24 = .ok (.iaload, 1) := by decide +kernel
theorem dX5_endNow_25 : decode cX5_endNow 25 = .ok (.iload_n 1, 1) := by decide +kernel
theorem dX5_endNow_26 : decode cX5_endNow 26 = .ok (.if_icmp .le 17, 3) := by decide +kernel
theorem dX5_endNow_29 : decode cX5_endNow 29 = .ok (.aload_n 0, 1) := by decide +kernel
theorem dX5_endNow_30 : decode cX5_endNow 30 = .ok (.getfield 7, 3) := by decide +kernel
theorem dX5_endNow_33 : decode cX5_endNow 33 = .ok (.bipush 92, 2) := by decide +kernel
theorem dX5_endNow_35 : decode cX5_endNow 35 = .ok (.iload_n 2, 1) := by decide +kernel
theorem dX5_endNow_36 : decode cX5_endNow 36 = .ok (.iadd, 1) := by decide +kernel
theorem dX5_endNow_37 : decode cX5_endNow 37 = .ok (.iaload, 1) := by decide +kernel
theorem dX5_endNow_38 : decode cX5_endNow 38 = .ok (.iload_n 1, 1) := by decide +kernel
theorem dX5_endNow_39 : decode cX5_endNow 39 = .ok (.isub, 1) := by decide +kernel
theorem dX5_endNow_40 : decode cX5_endNow 40 = .ok (.goto 4, 3) := by decide +kernel
theorem dX5_endNow_43 : decode cX5_endNow 43 = .ok (.iconst 0, 1) := by decide +kernel
theorem dX5_endNow_44 : decode cX5_endNow 44 = .ok (.iastore, 1) := by decide +kernel
theorem dX5_endNow_45 : decode cX5_endNow 45 = .ok (.iinc 2 1, 3) := by decide +kernel
theorem dX5_endNow_48 : decode cX5_endNow 48 = .ok (.goto (-46), 3) := by decide +kernel
theorem dX5_endNow_51 : decode cX5_endNow 51 = .ok (.aload_n 0, 1) := by decide +kernel
theorem dX5_endNow_52 : decode cX5_endNow 52 = .ok (.getfield 7, 3) := by decide +kernel
theorem dX5_endNow_55 : decode cX5_endNow 55 = .ok (.iconst 3, 1) := by decide +kernel
theorem dX5_endNow_56 : decode cX5_endNow 56 = .ok (.dup2, 1) := by decide +kernel
theorem dX5_endNow_57 : decode cX5_endNow 57 = .ok (.iaload, 1) := by decide +kernel
theorem dX5_endNow_58 : decode cX5_endNow 58 = .ok (.iload_n 1, 1) := by decide +kernel
theorem dX5_endNow_59 : decode cX5_endNow 59 = .ok (.iadd, 1) := by decide +kernel
theorem dX5_endNow_60 : decode cX5_endNow 60 = .ok (.iastore, 1) := by decide +kernel
theorem dX5_endNow_61 : decode cX5_endNow 61 = .ok (.aload_n 0, 1) := by decide +kernel
theorem dX5_endNow_62 : decode cX5_endNow 62 = .ok (.invokevirtual 44, 3) := by decide +kernel
theorem dX5_endNow_65 : decode cX5_endNow 65 = .ok (.aload_n 0, 1) := by decide +kernel
theorem dX5_endNow_66 : decode cX5_endNow 66 = .ok (.getfield 7, 3) := by decide +kernel
theorem dX5_endNow_69 : decode cX5_endNow 69 = .ok (.iconst 3, 1) := by decide +kernel
theorem dX5_endNow_70 : decode cX5_endNow 70 = .ok (.iaload, 1) := by decide +kernel
theorem dX5_endNow_71 : decode cX5_endNow 71 = .ok (.ireturn, 1) := by decide +kernel
theorem dX5_endDays_0 : decode cX5_endDays 0 = .ok (.aload_n 0, 1) := by decide +kernel
theorem dX5_endDays_1 : decode cX5_endDays 1 = .ok (.iload_n 1, 1) := by decide +kernel
theorem dX5_endDays_2 : decode cX5_endDays 2 = .ok (.invokevirtual 110, 3) := by decide +kernel
theorem dX5_endDays_5 : decode cX5_endDays 5 = .ok (.istore_n 2, 1) := by decide +kernel
theorem dX5_endDays_6 : decode cX5_endDays 6 = .ok (.iload_n 2, 1) := by decide +kernel
theorem dX5_endDays_7 : decode cX5_endDays 7 = .ok (.ifCond .ge 5, 3) := by decide +kernel
theorem dX5_endDays_10 : decode cX5_endDays 10 = .ok (.iload_n 2, 1) := by decide +kernel
theorem dX5_endDays_11 : decode cX5_endDays 11 = .ok (.ireturn, 1) := by decide +kernel
theorem dX5_endDays_12 : decode cX5_endDays 12 = .ok (.aload_n 0, 1) := by decide +kernel
theorem dX5_endDays_13 : decode cX5_endDays 13 = .ok (.invokevirtual 67, 3) := by decide +kernel
theorem dX5_endDays_16 : decode cX5_endDays 16 = .ok (.aload_n 0, 1) := by decide +kernel
theorem dX5_endDays_17 : decode cX5_endDays 17 = .ok (.iload_n 1, 1) := by decide +kernel
theorem dX5_endDays_18 : decode cX5_endDays 18 = .ok (.invokevirtual 113, 3) := by decide +kernel
theorem dX5_endDays_21 : decode cX5_endDays 21 = .ok (.ireturn, 1) := by decide +kernel
theorem dX5_set_0 : decode cX5_set 0 = .ok (.iload_n 1, 1) := by decide +kernel
theorem dX5_set_1 : decode cX5_set 1 = .ok (.iconst 0, 1) := by decide +kernel
theorem dX5_set_2 : decode cX5_set 2 = .ok (.iconst 2, 1) := by decide +kernel
theorem dX5_set_3 : decode cX5_set 3 = .ok (.invokestatic 47, 3) := by decide +kernel
theorem dX5_set_6 : decode cX5_set 6 = .ok (.ifCond .ne 5, 3) := by decide +kernel
theorem dX5_set_9 : decode cX5_set 9 = .ok (.iconst (-1), 1) := by decide +kernel
theorem dX5_set_10 : decode cX5_set 10 = .ok (.ireturn, 1) := by decide +kernel
theorem dX5_set_11 : decode cX5_set 11 = .ok (.iload_n 2, 1) := by decide +kernel
theorem dX5_set_12 : decode cX5_set 12 = .ok (.iload_n 1, 1) := by decide +kernel
theorem dX5_set_13 : decode cX5_set 13 = .ok (.iconst 1, 1) := by decide +kernel
theorem dX5_set_14 : decode cX5_set 14 = .ok (.if_icmp .ne 7, 3) := by decide +kernel
theorem dX5_set_17 : decode cX5_set 17 = .ok (.iconst 0, 1) := by decide +kernel
theorem dX5_set_18 : decode cX5_set 18 = .ok (.goto 4, 3) := by decide +kernel
theorem dX5_set_21 : decode cX5_set 21 = .ok (.iconst 1, 1) := by decide +kernel
theorem dX5_set_22 : decode cX5_set 22 = .ok (.iload_n 1, 1) := by decide +kernel
theorem dX5_set_23 : decode cX5_set 23 = .ok (.ifCond .ne 8, 3) := by decide +kernel
theorem dX5_set_26 : decode cX5_set 26 = .ok (.bipush 30, 2) := by decide +kernel
theorem dX5_set_28 : decode cX5_set 28 = .ok (.goto 14, 3) := by decide +kernel
theorem dX5_set_31 : decode cX5_set 31 = .ok (.iload_n 1, 1) := by decide +kernel
theorem dX5_set_32 : decode cX5_set 32 = .ok (.iconst 1, 1) := by decide +kernel
theorem dX5_set_33 : decode cX5_set 33 = .ok (.if_icmp .ne 7, 3) := by decide +kernel
theorem dX5_set_36 : decode cX5_set 36 = .ok (.iconst 2, 1) := by decide +kernel
theorem dX5_set_37 : decode cX5_set 37 = .ok (.goto 5, 3) := by decide +kernel
theorem dX5_set_40 : decode cX5_set 40 = .ok (.bipush 9, 2) := by decide +kernel
theorem dX5_set_42 : decode cX5_set 42 = .ok (.invokestatic 47, 3) := by decide +kernel
theorem dX5_set_45 : decode cX5_set 45 = .ok (.ifCond .ne 6, 3) := by decide +kernel
theorem dX5_set_48 : decode cX5_set 48 = .ok (.bipush (-2), 2) := by decide +kernel
theorem dX5_set_50 : decode cX5_set 50 = .ok (.ireturn, 1) := by decide +kernel
theorem dX5_set_51 : decode cX5_set 51 = .ok (.aload_n 0, 1) := by decide +kernel
theorem dX5_set_52 : decode cX5_set 52 = .ok (.getfield 7, 3) := by decide +kernel
theorem dX5_set_55 : decode cX5_set 55 = .ok (.iload_n 1, 1) := by decide +kernel
theorem dX5_set_56 : decode cX5_set 56 = .ok (.iaload, 1) := by decide +kernel
theorem dX5_set_57 : decode cX5_set 57 = .ok (.istore_n 3, 1) := by decide +kernel
theorem dX5_set_58 : decode cX5_set 58 = .ok (.iload_n 3, 1) := by decide +kernel
theorem dX5_set_59 : decode cX5_set 59 = .ok (.iload_n 2, 1) := by decide +kernel
theorem dX5_set_60 : decode cX5_set 60 = .ok (.if_icmp .ne 6, 3) := by decide +kernel
theorem dX5_set_63 : decode cX5_set 63 = .ok (.bipush (-5), 2) := by decide +kernel
theorem dX5_set_65 : decode cX5_set 65 = .ok (.ireturn, 1) := by decide +kernel
theorem dX5_set_66 : decode cX5_set 66 = .ok (.aload_n 0, 1) := by decide +kernel
theorem dX5_set_67 : decode cX5_set 67 = .ok (.invokevirtual 67, 3) := by decide +kernel
theorem dX5_set_70 : decode cX5_set 70 = .ok (.aload_n 0, 1) := by decide +kernel
theorem dX5_set_71 : decode cX5_set 71 = .ok (.getfield 7, 3) := by decide +kernel
theorem dX5_set_74 : decode cX5_set 74 = .ok (.iload_n 1, 1) := by decide +kernel
theorem dX5_set_75 : decode cX5_set 75 = .ok (.iload_n 2, 1) := by decide +kernel
theorem dX5_set_76 : decode cX5_set 76 = .ok (.iastore, 1) := by decide +kernel
theorem dX5_set_77 : decode cX5_set 77 = .ok (.iload_n 3, 1) := by decide +kernel
theorem dX5_set_78 : decode cX5_set 78 = .ok (.ireturn, 1) := by decide +kernel
theorem dX5_wayOf_0 : decode cX5_wayOf 0 = .ok (.aload_n 0, 1) := by decide +kernel
theorem dX5_wayOf_1 : decode cX5_wayOf 1 = .ok (.aload_n 0, 1) := by decide +kernel
theorem dX5_wayOf_2 : decode cX5_wayOf 2 = .ok (.iload_n 1, 1) := by decide +kernel
theorem dX5_wayOf_3 : decode cX5_wayOf 3 = .ok (.iconst 0, 1) := by decide +kernel
theorem dX5_wayOf_4 : decode cX5_wayOf 4 = .ok (.invokevirtual 116, 3) := by decide +kernel
theorem dX5_wayOf_7 : decode cX5_wayOf 7 = .ok (.invokevirtual 119, 3) := by decide +kernel
theorem dX5_wayOf_10 : decode cX5_wayOf 10 = .ok (.aload_n 0, 1) := by decide +kernel
theorem dX5_wayOf_11 : decode cX5_wayOf 11 = .ok (.getfield 31, 3) := by decide +kernel
theorem dX5_wayOf_14 : decode cX5_wayOf 14 = .ok (.iload_n 2, 1) := by decide +kernel
theorem dX5_wayOf_15 : decode cX5_wayOf 15 = .ok (.iaload, 1) := by decide +kernel
theorem dX5_wayOf_16 : decode cX5_wayOf 16 = .ok (.ireturn, 1) := by decide +kernel
theorem dX5_whyNotGo_0 : decode cX5_whyNotGo 0 = .ok (.iload_n 1, 1) := by decide +kernel
theorem dX5_whyNotGo_1 : decode cX5_whyNotGo 1 = .ok (.invokestatic 123, 3) := by decide +kernel
theorem dX5_whyNotGo_4 : decode cX5_whyNotGo 4 = .ok (.ifCond .eq 10, 3) := by decide +kernel
theorem dX5_whyNotGo_7 : decode cX5_whyNotGo 7 = .ok (.iload_n 2, 1) := by decide +kernel
theorem dX5_whyNotGo_8 : decode cX5_whyNotGo 8 = .ok (.invokestatic 100, 3) := by decide +kernel
theorem dX5_whyNotGo_11 : decode cX5_whyNotGo 11 = .ok (.ifCond .ne 7, 3) := by decide +kernel
theorem dX5_whyNotGo_14 : decode cX5_whyNotGo 14 = .ok (.iconst (-1), 1) := by decide +kernel
theorem dX5_whyNotGo_15 : decode cX5_whyNotGo 15 = .ok (.goto 24, 3) := by decide +kernel
theorem dX5_whyNotGo_18 : decode cX5_whyNotGo 18 = .ok (.aload_n 0, 1) := by decide +kernel
theorem dX5_whyNotGo_19 : decode cX5_whyNotGo 19 = .ok (.iload_n 1, 1) := by decide +kernel
theorem dX5_whyNotGo_20 : decode cX5_whyNotGo 20 = .ok (.iload_n 2, 1) := by decide +kernel
theorem dX5_whyNotGo_21 : decode cX5_whyNotGo 21 = .ok (.invokevirtual 126, 3) := by decide +kernel
theorem dX5_whyNotGo_24 : decode cX5_whyNotGo 24 = .ok (.aload_n 0, 1) := by decide +kernel
theorem dX5_whyNotGo_25 : decode cX5_whyNotGo 25 = .ok (.iload_n 1, 1) := by decide +kernel
theorem dX5_whyNotGo_26 : decode cX5_whyNotGo 26 = .ok (.iconst 1, 1) := by decide +kernel
theorem dX5_whyNotGo_27 : decode cX5_whyNotGo 27 = .ok (.invokevirtual 116, 3) := by decide +kernel
theorem dX5_whyNotGo_30 : decode cX5_whyNotGo 30 = .ok (.if_icmp .le 8, 3) := by decide +kernel
theorem dX5_whyNotGo_33 : decode cX5_whyNotGo 33 = .ok (.bipush (-4), 2) := by decide +kernel
theorem dX5_whyNotGo_35 : decode cX5_whyNotGo 35 = .ok (.goto 4, 3) := by decide +kernel
theorem dX5_whyNotGo_38 : decode cX5_whyNotGo 38 = .ok (.iconst 0, 1) := by decide +kernel
theorem dX5_whyNotGo_39 : decode cX5_whyNotGo 39 = .ok (.ireturn, 1) := by decide +kernel
theorem dX5_goNow_0 : decode cX5_goNow 0 = .ok (.aload_n 0, 1) := by decide +kernel
theorem dX5_goNow_1 : decode cX5_goNow 1 = .ok (.iload_n 1, 1) := by decide +kernel
theorem dX5_goNow_2 : decode cX5_goNow 2 = .ok (.iconst 1, 1) := by decide +kernel
theorem dX5_goNow_3 : decode cX5_goNow 3 = .ok (.aload_n 0, 1) := by decide +kernel
theorem dX5_goNow_4 : decode cX5_goNow 4 = .ok (.iload_n 1, 1) := by decide +kernel
theorem dX5_goNow_5 : decode cX5_goNow 5 = .ok (.iconst 1, 1) := by decide +kernel
theorem dX5_goNow_6 : decode cX5_goNow 6 = .ok (.invokevirtual 116, 3) := by decide +kernel
theorem dX5_goNow_9 : decode cX5_goNow 9 = .ok (.aload_n 0, 1) := by decide +kernel
theorem dX5_goNow_10 : decode cX5_goNow 10 = .ok (.iload_n 1, 1) := by decide +kernel
theorem dX5_goNow_11 : decode cX5_goNow 11 = .ok (.iload_n 2, 1) := by decide +kernel
theorem dX5_goNow_12 : decode cX5_goNow 12 = .ok (.invokevirtual 126, 3) := by decide +kernel
theorem dX5_goNow_15 : decode cX5_goNow 15 = .ok (.isub, 1) := by decide +kernel
theorem dX5_goNow_16 : decode cX5_goNow 16 = .ok (.invokevirtual 40, 3) := by decide +kernel
theorem dX5_goNow_19 : decode cX5_goNow 19 = .ok (.aload_n 0, 1) := by decide +kernel
theorem dX5_goNow_20 : decode cX5_goNow 20 = .ok (.iload_n 1, 1) := by decide +kernel
theorem dX5_goNow_21 : decode cX5_goNow 21 = .ok (.iconst 0, 1) := by decide +kernel
theorem dX5_goNow_22 : decode cX5_goNow 22 = .ok (.iload_n 2, 1) := by decide +kernel
theorem dX5_goNow_23 : decode cX5_goNow 23 = .ok (.invokevirtual 40, 3) := by decide +kernel
theorem dX5_goNow_26 : decode cX5_goNow 26 = .ok (.return_, 1) := by decide +kernel
theorem dX5_go_0 : decode cX5_go 0 = .ok (.aload_n 0, 1) := by decide +kernel
theorem dX5_go_1 : decode cX5_go 1 = .ok (.iload_n 1, 1) := by decide +kernel
theorem dX5_go_2 : decode cX5_go 2 = .ok (.iload_n 2, 1) := by decide +kernel
theorem dX5_go_3 : decode cX5_go 3 = .ok (.invokevirtual 129, 3) := by decide +kernel
theorem dX5_go_6 : decode cX5_go 6 = .ok (.istore_n 3, 1) := by decide +kernel
theorem dX5_go_7 : decode cX5_go 7 = .ok (.iload_n 3, 1) := by decide +kernel
theorem dX5_go_8 : decode cX5_go 8 = .ok (.ifCond .ge 5, 3) := by decide +kernel
theorem dX5_go_11 : decode cX5_go 11 = .ok (.iload_n 3, 1) := by decide +kernel
theorem dX5_go_12 : decode cX5_go 12 = .ok (.ireturn, 1) := by decide +kernel
theorem dX5_go_13 : decode cX5_go 13 = .ok (.aload_n 0, 1) := by decide +kernel
theorem dX5_go_14 : decode cX5_go 14 = .ok (.iload_n 1, 1) := by decide +kernel
theorem dX5_go_15 : decode cX5_go 15 = .ok (.iconst 0, 1) := by decide +kernel
theorem dX5_go_16 : decode cX5_go 16 = .ok (.invokevirtual 116, 3) := by decide +kernel
theorem dX5_go_19 : decode cX5_go 19 = .ok (.iload_n 2, 1) := by decide +kernel
theorem dX5_go_20 : decode cX5_go 20 = .ok (.if_icmp .ne 6, 3) := by decide +kernel
theorem dX5_go_23 : decode cX5_go 23 = .ok (.bipush (-5), 2) := by decide +kernel
theorem dX5_go_25 : decode cX5_go 25 = .ok (.ireturn, 1) := by decide +kernel
theorem dX5_go_26 : decode cX5_go 26 = .ok (.aload_n 0, 1) := by decide +kernel
theorem dX5_go_27 : decode cX5_go 27 = .ok (.invokevirtual 67, 3) := by decide +kernel
theorem dX5_go_30 : decode cX5_go 30 = .ok (.aload_n 0, 1) := by decide +kernel
theorem dX5_go_31 : decode cX5_go 31 = .ok (.iload_n 1, 1) := by decide +kernel
theorem dX5_go_32 : decode cX5_go 32 = .ok (.iload_n 2, 1) := by decide +kernel
theorem dX5_go_33 : decode cX5_go 33 = .ok (.invokevirtual 132, 3) := by decide +kernel
theorem dX5_go_36 : decode cX5_go 36 = .ok (.aload_n 0, 1) := by decide +kernel
theorem dX5_go_37 : decode cX5_go 37 = .ok (.iload_n 1, 1) := by decide +kernel
theorem dX5_go_38 : decode cX5_go 38 = .ok (.iconst 1, 1) := by decide +kernel
theorem dX5_go_39 : decode cX5_go 39 = .ok (.invokevirtual 116, 3) := by decide +kernel
theorem dX5_go_42 : decode cX5_go 42 = .ok (.ireturn, 1) := by decide +kernel
theorem dX5_whyNotFell_0 : decode cX5_whyNotFell 0 = .ok (.iload_n 1, 1) := by decide +kernel
theorem dX5_whyNotFell_1 : decode cX5_whyNotFell 1 = .ok (.invokestatic 123, 3) := by decide +kernel
theorem dX5_whyNotFell_4 : decode cX5_whyNotFell 4 = .ok (.ifCond .ne 7, 3) := by decide +kernel
theorem dX5_whyNotFell_7 : decode cX5_whyNotFell 7 = .ok (.iconst (-1), 1) := by decide +kernel
theorem dX5_whyNotFell_8 : decode cX5_whyNotFell 8 = .ok (.goto 24, 3) := by decide +kernel
theorem dX5_whyNotFell_11 : decode cX5_whyNotFell 11 = .ok (.aload_n 0, 1) := by decide +kernel
theorem dX5_whyNotFell_12 : decode cX5_whyNotFell 12 = .ok (.iload_n 1, 1) := by decide +kernel
theorem dX5_whyNotFell_13 : decode cX5_whyNotFell 13 = .ok (.iconst 1, 1) := by decide +kernel
theorem dX5_whyNotFell_14 : decode cX5_whyNotFell 14 = .ok (.invokevirtual 116, 3) := by decide +kernel
theorem dX5_whyNotFell_17 : decode cX5_whyNotFell 17 = .ok (.aload_n 0, 1) := by decide +kernel
theorem dX5_whyNotFell_18 : decode cX5_whyNotFell 18 = .ok (.getfield 7, 3) := by decide +kernel
theorem dX5_whyNotFell_21 : decode cX5_whyNotFell 21 = .ok (.iconst 2, 1) := by decide +kernel
theorem dX5_whyNotFell_22 : decode cX5_whyNotFell 22 = .ok (.iaload, 1) := by decide +kernel
theorem dX5_whyNotFell_23 : decode cX5_whyNotFell 23 = .ok (.if_icmp .ge 8, 3) := by decide +kernel
theorem dX5_whyNotFell_26 : decode cX5_whyNotFell 26 = .ok (.bipush (-4), 2) := by decide +kernel
theorem dX5_whyNotFell_28 : decode cX5_whyNotFell 28 = .ok (.goto 4, 3) := by decide +kernel
theorem dX5_whyNotFell_31 : decode cX5_whyNotFell 31 = .ok (.iconst 0, 1) := by decide +kernel
theorem dX5_whyNotFell_32 : decode cX5_whyNotFell 32 = .ok (.ireturn, 1) := by decide +kernel
theorem dX5_fellNow_0 : decode cX5_fellNow 0 = .ok (.aload_n 0, 1) := by decide +kernel
theorem dX5_fellNow_1 : decode cX5_fellNow 1 = .ok (.iload_n 1, 1) := by decide +kernel
theorem dX5_fellNow_2 : decode cX5_fellNow 2 = .ok (.iconst 0, 1) := by decide +kernel
theorem dX5_fellNow_3 : decode cX5_fellNow 3 = .ok (.invokevirtual 116, 3) := by decide +kernel
theorem dX5_fellNow_6 : decode cX5_fellNow 6 = .ok (.istore_n 2, 1) := by decide +kernel
theorem dX5_fellNow_7 : decode cX5_fellNow 7 = .ok (.aload_n 0, 1) := by decide +kernel
theorem dX5_fellNow_8 : decode cX5_fellNow 8 = .ok (.getfield 7, 3) := by decide +kernel
theorem dX5_fellNow_11 : decode cX5_fellNow 11 = .ok (.bipush 28, 2) := by decide +kernel
theorem dX5_fellNow_13 : decode cX5_fellNow 13 = .ok (.iload_n 2, 1) := by decide +kernel
theorem dX5_fellNow_14 : decode cX5_fellNow 14 = .ok (.iadd, 1) := by decide +kernel
theorem dX5_fellNow_15 : decode cX5_fellNow 15 = .ok (.iaload, 1) := by decide +kernel
theorem dX5_fellNow_16 : decode cX5_fellNow 16 = .ok (.istore_n 3, 1) := by decide +kernel
theorem dX5_fellNow_17 : decode cX5_fellNow 17 = .ok (.iload_n 3, 1) := by decide +kernel
theorem dX5_fellNow_18 : decode cX5_fellNow 18 = .ok (.ifCond .le 71, 3) := by decide +kernel
theorem dX5_fellNow_21 : decode cX5_fellNow 21 = .ok (.aload_n 0, 1) := by decide +kernel
theorem dX5_fellNow_22 : decode cX5_fellNow 22 = .ok (.getfield 7, 3) := by decide +kernel
theorem dX5_fellNow_25 : decode cX5_fellNow 25 = .ok (.bipush 28, 2) := by decide +kernel
theorem dX5_fellNow_27 : decode cX5_fellNow 27 = .ok (.iload_n 2, 1) := by decide +kernel
theorem dX5_fellNow_28 : decode cX5_fellNow 28 = .ok (.iadd, 1) := by decide +kernel
theorem dX5_fellNow_29 : decode cX5_fellNow 29 = .ok (.iconst 0, 1) := by decide +kernel
theorem dX5_fellNow_30 : decode cX5_fellNow 30 = .ok (.iastore, 1) := by decide +kernel
theorem dX5_fellNow_31 : decode cX5_fellNow 31 = .ok (.aload_n 0, 1) := by decide +kernel
theorem dX5_fellNow_32 : decode cX5_fellNow 32 = .ok (.getfield 7, 3) := by decide +kernel
theorem dX5_fellNow_35 : decode cX5_fellNow 35 = .ok (.sipush 156, 3) := by decide +kernel
theorem dX5_fellNow_38 : decode cX5_fellNow 38 = .ok (.iload_n 2, 1) := by decide +kernel
theorem dX5_fellNow_39 : decode cX5_fellNow 39 = .ok (.iadd, 1) := by decide +kernel
theorem dX5_fellNow_40 : decode cX5_fellNow 40 = .ok (.iconst 1, 1) := by decide +kernel
theorem dX5_fellNow_41 : decode cX5_fellNow 41 = .ok (.iastore, 1) := by decide +kernel
theorem dX5_fellNow_42 : decode cX5_fellNow 42 = .ok (.aload_n 0, 1) := by decide +kernel
theorem dX5_fellNow_43 : decode cX5_fellNow 43 = .ok (.iload_n 1, 1) := by decide +kernel
theorem dX5_fellNow_44 : decode cX5_fellNow 44 = .ok (.iconst 1, 1) := by decide +kernel
theorem dX5_fellNow_45 : decode cX5_fellNow 45 = .ok (.aload_n 0, 1) := by decide +kernel
theorem dX5_fellNow_46 : decode cX5_fellNow 46 = .ok (.iload_n 1, 1) := by decide +kernel
theorem dX5_fellNow_47 : decode cX5_fellNow 47 = .ok (.iconst 1, 1) := by decide +kernel
theorem dX5_fellNow_48 : decode cX5_fellNow 48 = .ok (.invokevirtual 116, 3) := by decide +kernel
theorem dX5_fellNow_51 : decode cX5_fellNow 51 = .ok (.aload_n 0, 1) := by decide +kernel
theorem dX5_fellNow_52 : decode cX5_fellNow 52 = .ok (.getfield 7, 3) := by decide +kernel
theorem dX5_fellNow_55 : decode cX5_fellNow 55 = .ok (.iconst 2, 1) := by decide +kernel
theorem dX5_fellNow_56 : decode cX5_fellNow 56 = .ok (.iaload, 1) := by decide +kernel
theorem dX5_fellNow_57 : decode cX5_fellNow 57 = .ok (.isub, 1) := by decide +kernel
theorem dX5_fellNow_58 : decode cX5_fellNow 58 = .ok (.invokevirtual 40, 3) := by decide +kernel
theorem dX5_fellNow_61 : decode cX5_fellNow 61 = .ok (.aload_n 0, 1) := by decide +kernel
theorem dX5_fellNow_62 : decode cX5_fellNow 62 = .ok (.iload_n 1, 1) := by decide +kernel
theorem dX5_fellNow_63 : decode cX5_fellNow 63 = .ok (.iconst 2, 1) := by decide +kernel
theorem dX5_fellNow_64 : decode cX5_fellNow 64 = .ok (.aload_n 0, 1) := by decide +kernel
theorem dX5_fellNow_65 : decode cX5_fellNow 65 = .ok (.iload_n 1, 1) := by decide +kernel
theorem dX5_fellNow_66 : decode cX5_fellNow 66 = .ok (.iconst 2, 1) := by decide +kernel
theorem dX5_fellNow_67 : decode cX5_fellNow 67 = .ok (.invokevirtual 116, 3) := by decide +kernel
theorem dX5_fellNow_70 : decode cX5_fellNow 70 = .ok (.iload_n 3, 1) := by decide +kernel
theorem dX5_fellNow_71 : decode cX5_fellNow 71 = .ok (.iadd, 1) := by decide +kernel
theorem dX5_fellNow_72 : decode cX5_fellNow 72 = .ok (.invokevirtual 40, 3) := by decide +kernel
theorem dX5_fellNow_75 : decode cX5_fellNow 75 = .ok (.aload_n 0, 1) := by decide +kernel
theorem dX5_fellNow_76 : decode cX5_fellNow 76 = .ok (.iload_n 1, 1) := by decide +kernel
theorem dX5_fellNow_77 : decode cX5_fellNow 77 = .ok (.iconst 3, 1) := by decide +kernel
theorem dX5_fellNow_78 : decode cX5_fellNow 78 = .ok (.aload_n 0, 1) := by decide +kernel
theorem dX5_fellNow_79 : decode cX5_fellNow 79 = .ok (.iload_n 1, 1) := by decide +kernel
theorem dX5_fellNow_80 : decode cX5_fellNow 80 = .ok (.iconst 3, 1) := by decide +kernel
theorem dX5_fellNow_81 : decode cX5_fellNow 81 = .ok (.invokevirtual 116, 3) := by decide +kernel
theorem dX5_fellNow_84 : decode cX5_fellNow 84 = .ok (.iconst 1, 1) := by decide +kernel
theorem dX5_fellNow_85 : decode cX5_fellNow 85 = .ok (.iadd, 1) := by decide +kernel
theorem dX5_fellNow_86 : decode cX5_fellNow 86 = .ok (.invokevirtual 40, 3) := by decide +kernel
theorem dX5_fellNow_89 : decode cX5_fellNow 89 = .ok (.iload_n 3, 1) := by decide +kernel
theorem dX5_fellNow_90 : decode cX5_fellNow 90 = .ok (.ireturn, 1) := by decide +kernel
theorem dX5_fell_0 : decode cX5_fell 0 = .ok (.aload_n 0, 1) := by decide +kernel
theorem dX5_fell_1 : decode cX5_fell 1 = .ok (.iload_n 1, 1) := by decide +kernel
theorem dX5_fell_2 : decode cX5_fell 2 = .ok (.invokevirtual 136, 3) := by decide +kernel
theorem dX5_fell_5 : decode cX5_fell 5 = .ok (.istore_n 2, 1) := by decide +kernel
theorem dX5_fell_6 : decode cX5_fell 6 = .ok (.iload_n 2, 1) := by decide +kernel
theorem dX5_fell_7 : decode cX5_fell 7 = .ok (.ifCond .ge 5, 3) := by decide +kernel
theorem dX5_fell_10 : decode cX5_fell 10 = .ok (.iload_n 2, 1) := by decide +kernel
theorem dX5_fell_11 : decode cX5_fell 11 = .ok (.ireturn, 1) := by decide +kernel
theorem dX5_fell_12 : decode cX5_fell 12 = .ok (.aload_n 0, 1) := by decide +kernel
theorem dX5_fell_13 : decode cX5_fell 13 = .ok (.getfield 7, 3) := by decide +kernel
theorem dX5_fell_16 : decode cX5_fell 16 = .ok (.bipush 28, 2) := by decide +kernel
theorem dX5_fell_18 : decode cX5_fell 18 = .ok (.aload_n 0, 1) := by decide +kernel
theorem dX5_fell_19 : decode cX5_fell 19 = .ok (.iload_n 1, 1) := by decide +kernel
theorem dX5_fell_20 : decode cX5_fell 20 = .ok (.iconst 0, 1) := by decide +kernel
theorem dX5_fell_21 : decode cX5_fell 21 = .ok (.invokevirtual 116, 3) := by decide +kernel
theorem dX5_fell_24 : decode cX5_fell 24 = .ok (.iadd, 1) := by decide +kernel
theorem dX5_fell_25 : decode cX5_fell 25 = .ok (.iaload, 1) := by decide +kernel
theorem dX5_fell_26 : decode cX5_fell 26 = .ok (.ifCond .ne 6, 3) := by decide +kernel
theorem dX5_fell_29 : decode cX5_fell 29 = .ok (.bipush (-5), 2) := by decide +kernel
theorem dX5_fell_31 : decode cX5_fell 31 = .ok (.ireturn, 1) := by decide +kernel
theorem dX5_fell_32 : decode cX5_fell 32 = .ok (.aload_n 0, 1) := by decide +kernel
theorem dX5_fell_33 : decode cX5_fell 33 = .ok (.invokevirtual 67, 3) := by decide +kernel
theorem dX5_fell_36 : decode cX5_fell 36 = .ok (.aload_n 0, 1) := by decide +kernel
theorem dX5_fell_37 : decode cX5_fell 37 = .ok (.iload_n 1, 1) := by decide +kernel
theorem dX5_fell_38 : decode cX5_fell 38 = .ok (.invokevirtual 139, 3) := by decide +kernel
theorem dX5_fell_41 : decode cX5_fell 41 = .ok (.ireturn, 1) := by decide +kernel
theorem dX5_pathsAt_0 : decode cX5_pathsAt 0 = .ok (.aload_n 0, 1) := by decide +kernel
theorem dX5_pathsAt_1 : decode cX5_pathsAt 1 = .ok (.invokevirtual 78, 3) := by decide +kernel
theorem dX5_pathsAt_4 : decode cX5_pathsAt 4 = .ok (.aload_n 0, 1) := by decide +kernel
theorem dX5_pathsAt_5 : decode cX5_pathsAt 5 = .ok (.getfield 25, 3) := by decide +kernel
theorem dX5_pathsAt_8 : decode cX5_pathsAt 8 = .ok (.bipush 8, 2) := by decide +kernel
theorem dX5_pathsAt_10 : decode cX5_pathsAt 10 = .ok (.iload_n 1, 1) := by decide +kernel
theorem dX5_pathsAt_11 : decode cX5_pathsAt 11 = .ok (.imul, 1) := by decide +kernel
theorem dX5_pathsAt_12 : decode cX5_pathsAt 12 = .ok (.iload_n 2, 1) := by decide +kernel
theorem dX5_pathsAt_13 : decode cX5_pathsAt 13 = .ok (.iadd, 1) := by decide +kernel
theorem dX5_pathsAt_14 : decode cX5_pathsAt 14 = .ok (.iaload, 1) := by decide +kernel
theorem dX5_pathsAt_15 : decode cX5_pathsAt 15 = .ok (.aload_n 0, 1) := by decide +kernel
theorem dX5_pathsAt_16 : decode cX5_pathsAt 16 = .ok (.getfield 28, 3) := by decide +kernel
theorem dX5_pathsAt_19 : decode cX5_pathsAt 19 = .ok (.bipush 8, 2) := by decide +kernel
theorem dX5_pathsAt_21 : decode cX5_pathsAt 21 = .ok (.iload_n 1, 1) := by decide +kernel
theorem dX5_pathsAt_22 : decode cX5_pathsAt 22 = .ok (.imul, 1) := by decide +kernel
theorem dX5_pathsAt_23 : decode cX5_pathsAt 23 = .ok (.iload_n 2, 1) := by decide +kernel
theorem dX5_pathsAt_24 : decode cX5_pathsAt 24 = .ok (.iadd, 1) := by decide +kernel
theorem dX5_pathsAt_25 : decode cX5_pathsAt 25 = .ok (.iaload, 1) := by decide +kernel
theorem dX5_pathsAt_26 : decode cX5_pathsAt 26 = .ok (.imul, 1) := by decide +kernel
theorem dX5_pathsAt_27 : decode cX5_pathsAt 27 = .ok (.ireturn, 1) := by decide +kernel
theorem dX5_whyNotHint_0 : decode cX5_whyNotHint 0 = .ok (.iload_n 1, 1) := by decide +kernel
theorem dX5_whyNotHint_1 : decode cX5_whyNotHint 1 = .ok (.invokestatic 142, 3) := by decide +kernel
theorem dX5_whyNotHint_4 : decode cX5_whyNotHint 4 = .ok (.ifCond .ne 7, 3) := by decide +kernel
theorem dX5_whyNotHint_7 : decode cX5_whyNotHint 7 = .ok (.iconst (-1), 1) := by decide +kernel
theorem dX5_whyNotHint_8 : decode cX5_whyNotHint 8 = .ok (.goto 44, 3) := by decide +kernel
theorem dX5_whyNotHint_11 : decode cX5_whyNotHint 11 = .ok (.iload_n 2, 1) := by decide +kernel
theorem dX5_whyNotHint_12 : decode cX5_whyNotHint 12 = .ok (.invokestatic 142, 3) := by decide +kernel
theorem dX5_whyNotHint_15 : decode cX5_whyNotHint 15 = .ok (.ifCond .ne 8, 3) := by decide +kernel
theorem dX5_whyNotHint_18 : decode cX5_whyNotHint 18 = .ok (.bipush (-2), 2) := by decide +kernel
theorem dX5_whyNotHint_20 : decode cX5_whyNotHint 20 = .ok (.goto 32, 3) := by decide +kernel
theorem dX5_whyNotHint_23 : decode cX5_whyNotHint 23 = .ok (.aload_n 0, 1) := by decide +kernel
theorem dX5_whyNotHint_24 : decode cX5_whyNotHint 24 = .ok (.getfield 7, 3) := by decide +kernel
theorem dX5_whyNotHint_27 : decode cX5_whyNotHint 27 = .ok (.bipush 7, 2) := by decide +kernel
theorem dX5_whyNotHint_29 : decode cX5_whyNotHint 29 = .ok (.iload_n 1, 1) := by decide +kernel
theorem dX5_whyNotHint_30 : decode cX5_whyNotHint 30 = .ok (.iadd, 1) := by decide +kernel
theorem dX5_whyNotHint_31 : decode cX5_whyNotHint 31 = .ok (.iaload, 1) := by decide +kernel
theorem dX5_whyNotHint_32 : decode cX5_whyNotHint 32 = .ok (.bipush (-5), 2) := by decide +kernel
theorem dX5_whyNotHint_34 : decode cX5_whyNotHint 34 = .ok (.if_icmp .ne 12, 3) := by decide +kernel
theorem dX5_whyNotHint_37 : decode cX5_whyNotHint 37 = .ok (.aload_n 0, 1) := by decide +kernel
theorem dX5_whyNotHint_38 : decode cX5_whyNotHint 38 = .ok (.iload_n 1, 1) := by decide +kernel
theorem dX5_whyNotHint_39 : decode cX5_whyNotHint 39 = .ok (.iload_n 2, 1) := by decide +kernel
theorem dX5_whyNotHint_40 : decode cX5_whyNotHint 40 = .ok (.invokevirtual 145, 3) := by decide +kernel
theorem dX5_whyNotHint_43 : decode cX5_whyNotHint 43 = .ok (.ifCond .ne 8, 3) := by decide +kernel
theorem dX5_whyNotHint_46 : decode cX5_whyNotHint 46 = .ok (.bipush (-4), 2) := by decide +kernel
theorem dX5_whyNotHint_48 : decode cX5_whyNotHint 48 = .ok (.goto 4, 3) := by decide +kernel
theorem dX5_whyNotHint_51 : decode cX5_whyNotHint 51 = .ok (.iconst 0, 1) := by decide +kernel
theorem dX5_whyNotHint_52 : decode cX5_whyNotHint 52 = .ok (.ireturn, 1) := by decide +kernel
theorem dX5_hint_0 : decode cX5_hint 0 = .ok (.aload_n 0, 1) := by decide +kernel
theorem dX5_hint_1 : decode cX5_hint 1 = .ok (.iload_n 1, 1) := by decide +kernel
theorem dX5_hint_2 : decode cX5_hint 2 = .ok (.iload_n 2, 1) := by decide +kernel
theorem dX5_hint_3 : decode cX5_hint 3 = .ok (.invokevirtual 148, 3) := by decide +kernel
theorem dX5_hint_6 : decode cX5_hint 6 = .ok (.istore_n 3, 1) := by decide +kernel
theorem dX5_hint_7 : decode cX5_hint 7 = .ok (.iload_n 3, 1) := by decide +kernel
theorem dX5_hint_8 : decode cX5_hint 8 = .ok (.ifCond .ge 5, 3) := by decide +kernel
theorem dX5_hint_11 : decode cX5_hint 11 = .ok (.iload_n 3, 1) := by decide +kernel
theorem dX5_hint_12 : decode cX5_hint 12 = .ok (.ireturn, 1) := by decide +kernel
theorem dX5_hint_13 : decode cX5_hint 13 = .ok (.aload_n 0, 1) := by decide +kernel
theorem dX5_hint_14 : decode cX5_hint 14 = .ok (.invokevirtual 67, 3) := by decide +kernel
theorem dX5_hint_17 : decode cX5_hint 17 = .ok (.aload_n 0, 1) := by decide +kernel
theorem dX5_hint_18 : decode cX5_hint 18 = .ok (.getfield 7, 3) := by decide +kernel
theorem dX5_hint_21 : decode cX5_hint 21 = .ok (.bipush 7, 2) := by decide +kernel
theorem dX5_hint_23 : decode cX5_hint 23 = .ok (.iload_n 1, 1) := by decide +kernel
theorem dX5_hint_24 : decode cX5_hint 24 = .ok (.iadd, 1) := by decide +kernel
theorem dX5_hint_25 : decode cX5_hint 25 = .ok (.iload_n 2, 1) := by decide +kernel
theorem dX5_hint_26 : decode cX5_hint 26 = .ok (.iastore, 1) := by decide +kernel
theorem dX5_hint_27 : decode cX5_hint 27 = .ok (.aload_n 0, 1) := by decide +kernel
theorem dX5_hint_28 : decode cX5_hint 28 = .ok (.invokevirtual 151, 3) := by decide +kernel
theorem dX5_hint_31 : decode cX5_hint 31 = .ok (.ireturn, 1) := by decide +kernel
theorem dX5_takeBack_0 : decode cX5_takeBack 0 = .ok (.iload_n 1, 1) := by decide +kernel
theorem dX5_takeBack_1 : decode cX5_takeBack 1 = .ok (.invokestatic 142, 3) := by decide +kernel
theorem dX5_takeBack_4 : decode cX5_takeBack 4 = .ok (.ifCond .ne 5, 3) := by decide +kernel
theorem dX5_takeBack_7 : decode cX5_takeBack 7 = .ok (.iconst (-1), 1) := by decide +kernel
theorem dX5_takeBack_8 : decode cX5_takeBack 8 = .ok (.ireturn, 1) := by decide +kernel
theorem dX5_takeBack_9 : decode cX5_takeBack 9 = .ok (.aload_n 0, 1) := by decide +kernel
theorem dX5_takeBack_10 : decode cX5_takeBack 10 = .ok (.getfield 7, 3) := by decide +kernel
theorem dX5_takeBack_13 : decode cX5_takeBack 13 = .ok (.bipush 7, 2) := by decide +kernel
theorem dX5_takeBack_15 : decode cX5_takeBack 15 = .ok (.iload_n 1, 1) := by decide +kernel
theorem dX5_takeBack_16 : decode cX5_takeBack 16 = .ok (.iadd, 1) := by decide +kernel
theorem dX5_takeBack_17 : decode cX5_takeBack 17 = .ok (.iaload, 1) := by decide +kernel
theorem dX5_takeBack_18 : decode cX5_takeBack 18 = .ok (.bipush (-5), 2) := by decide +kernel
theorem dX5_takeBack_20 : decode cX5_takeBack 20 = .ok (.if_icmp .ne 6, 3) := by decide +kernel
theorem dX5_takeBack_23 : decode cX5_takeBack 23 = .ok (.bipush (-5), 2) := by decide +kernel
theorem dX5_takeBack_25 : decode cX5_takeBack 25 = .ok (.ireturn, 1) := by decide +kernel
theorem dX5_takeBack_26 : decode cX5_takeBack 26 = .ok (.aload_n 0, 1) := by decide +kernel
theorem dX5_takeBack_27 : decode cX5_takeBack 27 = .ok (.invokevirtual 67, 3) := by decide +kernel
theorem dX5_takeBack_30 : decode cX5_takeBack 30 = .ok (.aload_n 0, 1) := by decide +kernel
theorem dX5_takeBack_31 : decode cX5_takeBack 31 = .ok (.getfield 7, 3) := by decide +kernel
theorem dX5_takeBack_34 : decode cX5_takeBack 34 = .ok (.bipush 7, 2) := by decide +kernel
theorem dX5_takeBack_36 : decode cX5_takeBack 36 = .ok (.iload_n 1, 1) := by decide +kernel
theorem dX5_takeBack_37 : decode cX5_takeBack 37 = .ok (.iadd, 1) := by decide +kernel
theorem dX5_takeBack_38 : decode cX5_takeBack 38 = .ok (.bipush (-5), 2) := by decide +kernel
theorem dX5_takeBack_40 : decode cX5_takeBack 40 = .ok (.iastore, 1) := by decide +kernel
theorem dX5_takeBack_41 : decode cX5_takeBack 41 = .ok (.aload_n 0, 1) := by decide +kernel
theorem dX5_takeBack_42 : decode cX5_takeBack 42 = .ok (.invokevirtual 151, 3) := by decide +kernel
theorem dX5_takeBack_45 : decode cX5_takeBack 45 = .ok (.ireturn, 1) := by decide +kernel
theorem dX5_greatest_0 : decode cX5_greatest 0 = .ok (.iconst 0, 1) := by decide +kernel
theorem dX5_greatest_1 : decode cX5_greatest 1 = .ok (.istore_n 2, 1) := by decide +kernel
theorem dX5_greatest_2 : decode cX5_greatest 2 = .ok (.iconst 0, 1) := by decide +kernel
theorem dX5_greatest_3 : decode cX5_greatest 3 = .ok (.istore_n 3, 1) := by decide +kernel
theorem dX5_greatest_4 : decode cX5_greatest 4 = .ok (.iload_n 3, 1) := by decide +kernel
theorem dX5_greatest_5 : decode cX5_greatest 5 = .ok (.iload_n 1, 1) := by decide +kernel
theorem dX5_greatest_6 : decode cX5_greatest 6 = .ok (.if_icmp .ge 72, 3) := by decide +kernel
theorem dX5_greatest_9 : decode cX5_greatest 9 = .ok (.iconst 0, 1) := by decide +kernel
theorem dX5_greatest_10 : decode cX5_greatest 10 = .ok (.istore 4, 2) := by decide +kernel
theorem dX5_greatest_12 : decode cX5_greatest 12 = .ok (.iconst 0, 1) := by decide +kernel
theorem dX5_greatest_13 : decode cX5_greatest 13 = .ok (.istore 5, 2) := by decide +kernel
theorem dX5_greatest_15 : decode cX5_greatest 15 = .ok (.iload 5, 2) := by decide +kernel
theorem dX5_greatest_17 : decode cX5_greatest 17 = .ok (.bipush 64, 2) := by decide +kernel
theorem dX5_greatest_19 : decode cX5_greatest 19 = .ok (.if_icmp .ge 35, 3) := by decide +kernel
theorem dX5_greatest_22 : decode cX5_greatest 22 = .ok (.aload_n 0, 1) := by decide +kernel
theorem dX5_greatest_23 : decode cX5_greatest 23 = .ok (.getfield 34, 3) := by decide +kernel
theorem dX5_greatest_26 : decode cX5_greatest 26 = .ok (.iload 5, 2) := by decide +kernel
theorem dX5_greatest_28 : decode cX5_greatest 28 = .ok (.iaload, 1) := by decide +kernel
theorem dX5_greatest_29 : decode cX5_greatest 29 = .ok (.aload_n 0, 1) := by decide +kernel
theorem dX5_greatest_30 : decode cX5_greatest 30 = .ok (.getfield 34, 3) := by decide +kernel
theorem dX5_greatest_33 : decode cX5_greatest 33 = .ok (.iload 4, 2) := by decide +kernel
theorem dX5_greatest_35 : decode cX5_greatest 35 = .ok (.iaload, 1) := by decide +kernel
theorem dX5_greatest_36 : decode cX5_greatest 36 = .ok (.if_icmp .le 8, 3) := by decide +kernel
theorem dX5_greatest_39 : decode cX5_greatest 39 = .ok (.iload 5, 2) := by decide +kernel
theorem dX5_greatest_41 : decode cX5_greatest 41 = .ok (.goto 5, 3) := by decide +kernel
theorem dX5_greatest_44 : decode cX5_greatest 44 = .ok (.iload 4, 2) := by decide +kernel
theorem dX5_greatest_46 : decode cX5_greatest 46 = .ok (.istore 4, 2) := by decide +kernel
theorem dX5_greatest_48 : decode cX5_greatest 48 = .ok (.iinc 5 1, 3) := by decide +kernel
theorem dX5_greatest_51 : decode cX5_greatest 51 = .ok (.goto (-36), 3) := by decide +kernel
theorem dX5_greatest_54 : decode cX5_greatest 54 = .ok (.iload_n 2, 1) := by decide +kernel
theorem dX5_greatest_55 : decode cX5_greatest 55 = .ok (.aload_n 0, 1) := by decide +kernel
theorem dX5_greatest_56 : decode cX5_greatest 56 = .ok (.getfield 34, 3) := by decide +kernel
theorem dX5_greatest_59 : decode cX5_greatest 59 = .ok (.iload 4, 2) := by decide +kernel
theorem dX5_greatest_61 : decode cX5_greatest 61 = .ok (.iaload, 1) := by decide +kernel
theorem dX5_greatest_62 : decode cX5_greatest 62 = .ok (.iadd, 1) := by decide +kernel
theorem dX5_greatest_63 : decode cX5_greatest 63 = .ok (.istore_n 2, 1) := by decide +kernel
theorem dX5_greatest_64 : decode cX5_greatest 64 = .ok (.aload_n 0, 1) := by decide +kernel
theorem dX5_greatest_65 : decode cX5_greatest 65 = .ok (.getfield 34, 3) := by decide +kernel
theorem dX5_greatest_68 : decode cX5_greatest 68 = .ok (.iload 4, 2) := by decide +kernel
theorem dX5_greatest_70 : decode cX5_greatest 70 = .ok (.iconst 0, 1) := by decide +kernel
theorem dX5_greatest_71 : decode cX5_greatest 71 = .ok (.iastore, 1) := by decide +kernel
theorem dX5_greatest_72 : decode cX5_greatest 72 = .ok (.iinc 3 1, 3) := by decide +kernel
theorem dX5_greatest_75 : decode cX5_greatest 75 = .ok (.goto (-71), 3) := by decide +kernel
theorem dX5_greatest_78 : decode cX5_greatest 78 = .ok (.iload_n 2, 1) := by decide +kernel
theorem dX5_greatest_79 : decode cX5_greatest 79 = .ok (.ireturn, 1) := by decide +kernel
theorem dX5_storm_0 : decode cX5_storm 0 = .ok (.aload_n 0, 1) := by decide +kernel
theorem dX5_storm_1 : decode cX5_storm 1 = .ok (.invokevirtual 151, 3) := by decide +kernel
theorem dX5_storm_4 : decode cX5_storm 4 = .ok (.iconst 1, 1) := by decide +kernel
theorem dX5_storm_5 : decode cX5_storm 5 = .ok (.if_icmp .le 6, 3) := by decide +kernel
theorem dX5_storm_8 : decode cX5_storm 8 = .ok (.bipush (-4), 2) := by decide +kernel
theorem dX5_storm_10 : decode cX5_storm 10 = .ok (.ireturn, 1) := by decide +kernel
theorem dX5_storm_11 : decode cX5_storm 11 = .ok (.aload_n 0, 1) := by decide +kernel
theorem dX5_storm_12 : decode cX5_storm 12 = .ok (.invokevirtual 67, 3) := by decide +kernel
theorem dX5_storm_15 : decode cX5_storm 15 = .ok (.iconst 0, 1) := by decide +kernel
theorem dX5_storm_16 : decode cX5_storm 16 = .ok (.istore_n 1, 1) := by decide +kernel
theorem dX5_storm_17 : decode cX5_storm 17 = .ok (.iconst 0, 1) := by decide +kernel
theorem dX5_storm_18 : decode cX5_storm 18 = .ok (.istore_n 2, 1) := by decide +kernel
theorem dX5_storm_19 : decode cX5_storm 19 = .ok (.iconst 0, 1) := by decide +kernel
theorem dX5_storm_20 : decode cX5_storm 20 = .ok (.istore_n 3, 1) := by decide +kernel
theorem dX5_storm_21 : decode cX5_storm 21 = .ok (.iload_n 3, 1) := by decide +kernel
theorem dX5_storm_22 : decode cX5_storm 22 = .ok (.bipush 64, 2) := by decide +kernel
theorem dX5_storm_24 : decode cX5_storm 24 = .ok (.if_icmp .ge 79, 3) := by decide +kernel
theorem dX5_storm_27 : decode cX5_storm 27 = .ok (.aload_n 0, 1) := by decide +kernel
theorem dX5_storm_28 : decode cX5_storm 28 = .ok (.iload_n 3, 1) := by decide +kernel
theorem dX5_storm_29 : decode cX5_storm 29 = .ok (.invokevirtual 85, 3) := by decide +kernel
theorem dX5_storm_32 : decode cX5_storm 32 = .ok (.ifCond .le 7, 3) := by decide +kernel
theorem dX5_storm_35 : decode cX5_storm 35 = .ok (.iconst 1, 1) := by decide +kernel
theorem dX5_storm_36 : decode cX5_storm 36 = .ok (.goto 4, 3) := by decide +kernel
theorem dX5_storm_39 : decode cX5_storm 39 = .ok (.iconst 0, 1) := by decide +kernel
theorem dX5_storm_40 : decode cX5_storm 40 = .ok (.istore 4, 2) := by decide +kernel
theorem dX5_storm_42 : decode cX5_storm 42 = .ok (.aload_n 0, 1) := by decide +kernel
theorem dX5_storm_43 : decode cX5_storm 43 = .ok (.getfield 34, 3) := by decide +kernel
theorem dX5_storm_46 : decode cX5_storm 46 = .ok (.iload_n 3, 1) := by decide +kernel
theorem dX5_storm_47 : decode cX5_storm 47 = .ok (.iload 4, 2) := by decide +kernel
theorem dX5_storm_49 : decode cX5_storm 49 = .ok (.ifCond .eq 15, 3) := by decide +kernel
theorem dX5_storm_52 : decode cX5_storm 52 = .ok (.aload_n 0, 1) := by decide +kernel
theorem dX5_storm_53 : decode cX5_storm 53 = .ok (.getfield 7, 3) := by decide +kernel
theorem dX5_storm_56 : decode cX5_storm 56 = .ok (.bipush 28, 2) := by decide +kernel
theorem dX5_storm_58 : decode cX5_storm 58 = .ok (.iload_n 3, 1) := by decide +kernel
theorem dX5_storm_59 : decode cX5_storm 59 = .ok (.iadd, 1) := by decide +kernel
theorem dX5_storm_60 : decode cX5_storm 60 = .ok (.iaload, 1) := by decide +kernel
theorem dX5_storm_61 : decode cX5_storm 61 = .ok (.goto 4, 3) := by decide +kernel
theorem dX5_storm_64 : decode cX5_storm 64 = .ok (.iconst 0, 1) := by decide +kernel
theorem dX5_storm_65 : decode cX5_storm 65 = .ok (.iastore, 1) := by decide +kernel
theorem dX5_storm_66 : decode cX5_storm 66 = .ok (.iload_n 1, 1) := by decide +kernel
theorem dX5_storm_67 : decode cX5_storm 67 = .ok (.aload_n 0, 1) := by decide +kernel
theorem dX5_storm_68 : decode cX5_storm 68 = .ok (.getfield 34, 3) := by decide +kernel
theorem dX5_storm_71 : decode cX5_storm 71 = .ok (.iload_n 3, 1) := by decide +kernel
theorem dX5_storm_72 : decode cX5_storm 72 = .ok (.iaload, 1) := by decide +kernel
theorem dX5_storm_73 : decode cX5_storm 73 = .ok (.iadd, 1) := by decide +kernel
theorem dX5_storm_74 : decode cX5_storm 74 = .ok (.istore_n 1, 1) := by decide +kernel
theorem dX5_storm_75 : decode cX5_storm 75 = .ok (.iload_n 2, 1) := by decide +kernel
theorem dX5_storm_76 : decode cX5_storm 76 = .ok (.iload 4, 2) := by decide +kernel
theorem dX5_storm_78 : decode cX5_storm 78 = .ok (.ifCond .eq 7, 3) := by decide +kernel
theorem dX5_storm_81 : decode cX5_storm 81 = .ok (.iconst 0, 1) := by decide +kernel
theorem dX5_storm_82 : decode cX5_storm 82 = .ok (.goto 13, 3) := by decide +kernel
theorem dX5_storm_85 : decode cX5_storm 85 = .ok (.aload_n 0, 1) := by decide +kernel
theorem dX5_storm_86 : decode cX5_storm 86 = .ok (.getfield 7, 3) := by decide +kernel
theorem dX5_storm_89 : decode cX5_storm 89 = .ok (.sipush 156, 3) := by decide +kernel
theorem dX5_storm_92 : decode cX5_storm 92 = .ok (.iload_n 3, 1) := by decide +kernel
theorem dX5_storm_93 : decode cX5_storm 93 = .ok (.iadd, 1) := by decide +kernel
theorem dX5_storm_94 : decode cX5_storm 94 = .ok (.iaload, 1) := by decide +kernel
theorem dX5_storm_95 : decode cX5_storm 95 = .ok (.iadd, 1) := by decide +kernel
theorem dX5_storm_96 : decode cX5_storm 96 = .ok (.istore_n 2, 1) := by decide +kernel
theorem dX5_storm_97 : decode cX5_storm 97 = .ok (.iinc 3 1, 3) := by decide +kernel
theorem dX5_storm_100 : decode cX5_storm 100 = .ok (.goto (-79), 3) := by decide +kernel
theorem dX5_storm_103 : decode cX5_storm 103 = .ok (.iconst 0, 1) := by decide +kernel
theorem dX5_storm_104 : decode cX5_storm 104 = .ok (.istore_n 3, 1) := by decide +kernel
theorem dX5_storm_105 : decode cX5_storm 105 = .ok (.iload_n 3, 1) := by decide +kernel
theorem dX5_storm_106 : decode cX5_storm 106 = .ok (.bipush 64, 2) := by decide +kernel
theorem dX5_storm_108 : decode cX5_storm 108 = .ok (.if_icmp .ge 38, 3) := by decide +kernel
theorem dX5_storm_111 : decode cX5_storm 111 = .ok (.aload_n 0, 1) := by decide +kernel
theorem dX5_storm_112 : decode cX5_storm 112 = .ok (.getfield 7, 3) := by decide +kernel
theorem dX5_storm_115 : decode cX5_storm 115 = .ok (.bipush 28, 2) := by decide +kernel
theorem dX5_storm_117 : decode cX5_storm 117 = .ok (.iload_n 3, 1) := by decide +kernel
theorem dX5_storm_118 : decode cX5_storm 118 = .ok (.iadd, 1) := by decide +kernel
theorem dX5_storm_119 : decode cX5_storm 119 = .ok (.dup2, 1) := by decide +kernel
theorem dX5_storm_120 : decode cX5_storm 120 = .ok (.iaload, 1) := by decide +kernel
theorem dX5_storm_121 : decode cX5_storm 121 = .ok (.aload_n 0, 1) := by decide +kernel
theorem dX5_storm_122 : decode cX5_storm 122 = .ok (.getfield 34, 3) := by decide +kernel
theorem dX5_storm_125 : decode cX5_storm 125 = .ok (.iload_n 3, 1) := by decide +kernel
theorem dX5_storm_126 : decode cX5_storm 126 = .ok (.iaload, 1) := by decide +kernel
theorem dX5_storm_127 : decode cX5_storm 127 = .ok (.isub, 1) := by decide +kernel
theorem dX5_storm_128 : decode cX5_storm 128 = .ok (.iastore, 1) := by decide +kernel
theorem dX5_storm_129 : decode cX5_storm 129 = .ok (.aload_n 0, 1) := by decide +kernel
theorem dX5_storm_130 : decode cX5_storm 130 = .ok (.getfield 7, 3) := by decide +kernel
theorem dX5_storm_133 : decode cX5_storm 133 = .ok (.sipush 156, 3) := by decide +kernel
theorem dX5_storm_136 : decode cX5_storm 136 = .ok (.iload_n 3, 1) := by decide +kernel
theorem dX5_storm_137 : decode cX5_storm 137 = .ok (.iadd, 1) := by decide +kernel
theorem dX5_storm_138 : decode cX5_storm 138 = .ok (.iconst 0, 1) := by decide +kernel
theorem dX5_storm_139 : decode cX5_storm 139 = .ok (.iastore, 1) := by decide +kernel
theorem dX5_storm_140 : decode cX5_storm 140 = .ok (.iinc 3 1, 3) := by decide +kernel
theorem dX5_storm_143 : decode cX5_storm 143 = .ok (.goto (-38), 3) := by decide +kernel
theorem dX5_storm_146 : decode cX5_storm 146 = .ok (.iconst 0, 1) := by decide +kernel
theorem dX5_storm_147 : decode cX5_storm 147 = .ok (.istore_n 3, 1) := by decide +kernel
theorem dX5_storm_148 : decode cX5_storm 148 = .ok (.iload_n 3, 1) := by decide +kernel
theorem dX5_storm_149 : decode cX5_storm 149 = .ok (.bipush 8, 2) := by decide +kernel
theorem dX5_storm_151 : decode cX5_storm 151 = .ok (.if_icmp .ge 20, 3) := by decide +kernel
theorem dX5_storm_154 : decode cX5_storm 154 = .ok (.aload_n 0, 1) := by decide +kernel
theorem dX5_storm_155 : decode cX5_storm 155 = .ok (.getfield 7, 3) := by decide +kernel
theorem dX5_storm_158 : decode cX5_storm 158 = .ok (.bipush 7, 2) := by decide +kernel
theorem dX5_storm_160 : decode cX5_storm 160 = .ok (.iload_n 3, 1) := by decide +kernel
theorem dX5_storm_161 : decode cX5_storm 161 = .ok (.iadd, 1) := by decide +kernel
theorem dX5_storm_162 : decode cX5_storm 162 = .ok (.bipush (-5), 2) := by decide +kernel
theorem dX5_storm_164 : decode cX5_storm 164 = .ok (.iastore, 1) := by decide +kernel
theorem dX5_storm_165 : decode cX5_storm 165 = .ok (.iinc 3 1, 3) := by decide +kernel
theorem dX5_storm_168 : decode cX5_storm 168 = .ok (.goto (-20), 3) := by decide +kernel
theorem dX5_storm_171 : decode cX5_storm 171 = .ok (.aload_n 0, 1) := by decide +kernel
theorem dX5_storm_172 : decode cX5_storm 172 = .ok (.getfield 7, 3) := by decide +kernel
theorem dX5_storm_175 : decode cX5_storm 175 = .ok (.iconst 4, 1) := by decide +kernel
theorem dX5_storm_176 : decode cX5_storm 176 = .ok (.dup2, 1) := by decide +kernel
theorem dX5_storm_177 : decode cX5_storm 177 = .ok (.iaload, 1) := by decide +kernel
theorem dX5_storm_178 : decode cX5_storm 178 = .ok (.iload_n 1, 1) := by decide +kernel
theorem dX5_storm_179 : decode cX5_storm 179 = .ok (.iadd, 1) := by decide +kernel
theorem dX5_storm_180 : decode cX5_storm 180 = .ok (.iastore, 1) := by decide +kernel
theorem dX5_storm_181 : decode cX5_storm 181 = .ok (.aload_n 0, 1) := by decide +kernel
theorem dX5_storm_182 : decode cX5_storm 182 = .ok (.getfield 7, 3) := by decide +kernel
theorem dX5_storm_185 : decode cX5_storm 185 = .ok (.iconst 5, 1) := by decide +kernel
theorem dX5_storm_186 : decode cX5_storm 186 = .ok (.dup2, 1) := by decide +kernel
theorem dX5_storm_187 : decode cX5_storm 187 = .ok (.iaload, 1) := by decide +kernel
theorem dX5_storm_188 : decode cX5_storm 188 = .ok (.aload_n 0, 1) := by decide +kernel
theorem dX5_storm_189 : decode cX5_storm 189 = .ok (.iload_n 2, 1) := by decide +kernel
theorem dX5_storm_190 : decode cX5_storm 190 = .ok (.invokevirtual 154, 3) := by decide +kernel
theorem dX5_storm_193 : decode cX5_storm 193 = .ok (.iadd, 1) := by decide +kernel
theorem dX5_storm_194 : decode cX5_storm 194 = .ok (.iastore, 1) := by decide +kernel
theorem dX5_storm_195 : decode cX5_storm 195 = .ok (.aload_n 0, 1) := by decide +kernel
theorem dX5_storm_196 : decode cX5_storm 196 = .ok (.getfield 7, 3) := by decide +kernel
theorem dX5_storm_199 : decode cX5_storm 199 = .ok (.bipush 6, 2) := by decide +kernel
theorem dX5_storm_201 : decode cX5_storm 201 = .ok (.dup2, 1) := by decide +kernel
theorem dX5_storm_202 : decode cX5_storm 202 = .ok (.iaload, 1) := by decide +kernel
theorem dX5_storm_203 : decode cX5_storm 203 = .ok (.iconst 1, 1) := by decide +kernel
theorem dX5_storm_204 : decode cX5_storm 204 = .ok (.iadd, 1) := by decide +kernel
theorem dX5_storm_205 : decode cX5_storm 205 = .ok (.iastore, 1) := by decide +kernel
theorem dX5_storm_206 : decode cX5_storm 206 = .ok (.iload_n 1, 1) := by decide +kernel
theorem dX5_storm_207 : decode cX5_storm 207 = .ok (.ireturn, 1) := by decide +kernel
theorem dX5_type_0 : decode cX5_type 0 = .ok (.aload_n 0, 1) := by decide +kernel
theorem dX5_type_1 : decode cX5_type 1 = .ok (.getfield 157, 3) := by decide +kernel
theorem dX5_type_4 : decode cX5_type 4 = .ok (.bipush 60, 2) := by decide +kernel
theorem dX5_type_6 : decode cX5_type 6 = .ok (.if_icmp .ne 6, 3) := by decide +kernel
theorem dX5_type_9 : decode cX5_type 9 = .ok (.bipush (-3), 2) := by decide +kernel
theorem dX5_type_11 : decode cX5_type 11 = .ok (.ireturn, 1) := by decide +kernel
theorem dX5_type_12 : decode cX5_type 12 = .ok (.aload_n 0, 1) := by decide +kernel
theorem dX5_type_13 : decode cX5_type 13 = .ok (.getfield 22, 3) := by decide +kernel
theorem dX5_type_16 : decode cX5_type 16 = .ok (.aload_n 0, 1) := by decide +kernel
theorem dX5_type_17 : decode cX5_type 17 = .ok (.getfield 157, 3) := by decide +kernel
theorem dX5_type_20 : decode cX5_type 20 = .ok (.iload_n 1, 1) := by decide +kernel
theorem dX5_type_21 : decode cX5_type 21 = .ok (.iastore, 1) := by decide +kernel
theorem dX5_type_22 : decode cX5_type 22 = .ok (.aload_n 0, 1) := by decide +kernel
theorem dX5_type_23 : decode cX5_type 23 = .ok (.dup, 1) := by decide +kernel
theorem dX5_type_24 : decode cX5_type 24 = .ok (.getfield 157, 3) := by decide +kernel
theorem dX5_type_27 : decode cX5_type 27 = .ok (.iconst 1, 1) := by decide +kernel
theorem dX5_type_28 : decode cX5_type 28 = .ok (.iadd, 1) := by decide +kernel
theorem dX5_type_29 : decode cX5_type 29 = .ok (.putfield 157, 3) := by decide +kernel
theorem dX5_type_32 : decode cX5_type 32 = .ok (.aload_n 0, 1) := by decide +kernel
theorem dX5_type_33 : decode cX5_type 33 = .ok (.getfield 157, 3) := by decide +kernel
theorem dX5_type_36 : decode cX5_type 36 = .ok (.ireturn, 1) := by decide +kernel
theorem dX5_clearText_0 : decode cX5_clearText 0 = .ok (.aload_n 0, 1) := by decide +kernel
theorem dX5_clearText_1 : decode cX5_clearText 1 = .ok (.getfield 157, 3) := by decide +kernel
theorem dX5_clearText_4 : decode cX5_clearText 4 = .ok (.istore_n 1, 1) := by decide +kernel
theorem dX5_clearText_5 : decode cX5_clearText 5 = .ok (.aload_n 0, 1) := by decide +kernel
theorem dX5_clearText_6 : decode cX5_clearText 6 = .ok (.iconst 0, 1) := by decide +kernel
theorem dX5_clearText_7 : decode cX5_clearText 7 = .ok (.putfield 157, 3) := by decide +kernel
theorem dX5_clearText_10 : decode cX5_clearText 10 = .ok (.iload_n 1, 1) := by decide +kernel
theorem dX5_clearText_11 : decode cX5_clearText 11 = .ok (.ireturn, 1) := by decide +kernel
theorem dX5_sees_0 : decode cX5_sees 0 = .ok (.aload_n 0, 1) := by decide +kernel
theorem dX5_sees_1 : decode cX5_sees 1 = .ok (.getfield 160, 3) := by decide +kernel
theorem dX5_sees_4 : decode cX5_sees 4 = .ok (.aload_n 0, 1) := by decide +kernel
theorem dX5_sees_5 : decode cX5_sees 5 = .ok (.getfield 157, 3) := by decide +kernel
theorem dX5_sees_8 : decode cX5_sees 8 = .ok (.if_icmp .ge 24, 3) := by decide +kernel
theorem dX5_sees_11 : decode cX5_sees 11 = .ok (.aload_n 0, 1) := by decide +kernel
theorem dX5_sees_12 : decode cX5_sees 12 = .ok (.getfield 22, 3) := by decide +kernel
theorem dX5_sees_15 : decode cX5_sees 15 = .ok (.aload_n 0, 1) := by decide +kernel
theorem dX5_sees_16 : decode cX5_sees 16 = .ok (.getfield 160, 3) := by decide +kernel
theorem dX5_sees_19 : decode cX5_sees 19 = .ok (.iaload, 1) := by decide +kernel
theorem dX5_sees_20 : decode cX5_sees 20 = .ok (.iload_n 1, 1) := by decide +kernel
theorem dX5_sees_21 : decode cX5_sees 21 = .ok (.iload_n 2, 1) := by decide +kernel
theorem dX5_sees_22 : decode cX5_sees 22 = .ok (.invokestatic 47, 3) := by decide +kernel
theorem dX5_sees_25 : decode cX5_sees 25 = .ok (.ifCond .eq 7, 3) := by decide +kernel
theorem dX5_sees_28 : decode cX5_sees 28 = .ok (.iconst 1, 1) := by decide +kernel
theorem dX5_sees_29 : decode cX5_sees 29 = .ok (.goto 4, 3) := by decide +kernel
theorem dX5_sees_32 : decode cX5_sees 32 = .ok (.iconst 0, 1) := by decide +kernel
theorem dX5_sees_33 : decode cX5_sees 33 = .ok (.ireturn, 1) := by decide +kernel
theorem dX5_takes_0 : decode cX5_takes 0 = .ok (.aload_n 0, 1) := by decide +kernel
theorem dX5_takes_1 : decode cX5_takes 1 = .ok (.iload_n 1, 1) := by decide +kernel
theorem dX5_takes_2 : decode cX5_takes 2 = .ok (.iload_n 1, 1) := by decide +kernel
theorem dX5_takes_3 : decode cX5_takes 3 = .ok (.invokevirtual 163, 3) := by decide +kernel
theorem dX5_takes_6 : decode cX5_takes 6 = .ok (.istore_n 2, 1) := by decide +kernel
theorem dX5_takes_7 : decode cX5_takes 7 = .ok (.aload_n 0, 1) := by decide +kernel
theorem dX5_takes_8 : decode cX5_takes 8 = .ok (.dup, 1) := by decide +kernel
theorem dX5_takes_9 : decode cX5_takes 9 = .ok (.getfield 160, 3) := by decide +kernel
theorem dX5_takes_12 : decode cX5_takes 12 = .ok (.iload_n 2, 1) := by decide +kernel
theorem dX5_takes_13 : decode cX5_takes 13 = .ok (.ifCond .eq 7, 3) := by decide +kernel
theorem dX5_takes_16 : decode cX5_takes 16 = .ok (.iconst 1, 1) := by decide +kernel
theorem dX5_takes_17 : decode cX5_takes 17 = .ok (.goto 4, 3) := by decide +kernel
theorem dX5_takes_20 : decode cX5_takes 20 = .ok (.iconst 0, 1) := by decide +kernel
theorem dX5_takes_21 : decode cX5_takes 21 = .ok (.iadd, 1) := by decide +kernel
theorem dX5_takes_22 : decode cX5_takes 22 = .ok (.putfield 160, 3) := by decide +kernel
theorem dX5_takes_25 : decode cX5_takes 25 = .ok (.iload_n 2, 1) := by decide +kernel
theorem dX5_takes_26 : decode cX5_takes 26 = .ok (.ireturn, 1) := by decide +kernel
theorem dX5_number_0 : decode cX5_number 0 = .ok (.aload_n 0, 1) := by decide +kernel
theorem dX5_number_1 : decode cX5_number 1 = .ok (.bipush 48, 2) := by decide +kernel
theorem dX5_number_3 : decode cX5_number 3 = .ok (.iload_n 1, 1) := by decide +kernel
theorem dX5_number_4 : decode cX5_number 4 = .ok (.iadd, 1) := by decide +kernel
theorem dX5_number_5 : decode cX5_number 5 = .ok (.iload_n 2, 1) := by decide +kernel
theorem dX5_number_6 : decode cX5_number 6 = .ok (.bipush 9, 2) := by decide +kernel
theorem dX5_number_8 : decode cX5_number 8 = .ok (.if_icmp .ge 10, 3) := by decide +kernel
theorem dX5_number_11 : decode cX5_number 11 = .ok (.bipush 48, 2) := by decide +kernel
theorem dX5_number_13 : decode cX5_number 13 = .ok (.iload_n 2, 1) := by decide +kernel
theorem dX5_number_14 : decode cX5_number 14 = .ok (.iadd, 1) := by decide +kernel
theorem dX5_number_15 : decode cX5_number 15 = .ok (.goto 5, 3) := by decide +kernel
theorem dX5_number_18 : decode cX5_number 18 = .ok (.bipush 57, 2) := by decide +kernel
theorem dX5_number_20 : decode cX5_number 20 = .ok (.invokevirtual 163, 3) := by decide +kernel
theorem dX5_number_23 : decode cX5_number 23 = .ok (.ifCond .ne 6, 3) := by decide +kernel
theorem dX5_number_26 : decode cX5_number 26 = .ok (.bipush (-5), 2) := by decide +kernel
theorem dX5_number_28 : decode cX5_number 28 = .ok (.ireturn, 1) := by decide +kernel
theorem dX5_number_29 : decode cX5_number 29 = .ok (.aload_n 0, 1) := by decide +kernel
theorem dX5_number_30 : decode cX5_number 30 = .ok (.getfield 22, 3) := by decide +kernel
theorem dX5_number_33 : decode cX5_number 33 = .ok (.aload_n 0, 1) := by decide +kernel
theorem dX5_number_34 : decode cX5_number 34 = .ok (.getfield 160, 3) := by decide +kernel
theorem dX5_number_37 : decode cX5_number 37 = .ok (.iaload, 1) := by decide +kernel
theorem dX5_number_38 : decode cX5_number 38 = .ok (.bipush 48, 2) := by decide +kernel
theorem dX5_number_40 : decode cX5_number 40 = .ok (.isub, 1) := by decide +kernel
theorem dX5_number_41 : decode cX5_number 41 = .ok (.istore_n 3, 1) := by decide +kernel
theorem dX5_number_42 : decode cX5_number 42 = .ok (.aload_n 0, 1) := by decide +kernel
theorem dX5_number_43 : decode cX5_number 43 = .ok (.dup, 1) := by decide +kernel
theorem dX5_number_44 : decode cX5_number 44 = .ok (.getfield 160, 3) := by decide +kernel
theorem dX5_number_47 : decode cX5_number 47 = .ok (.iconst 1, 1) := by decide +kernel
theorem dX5_number_48 : decode cX5_number 48 = .ok (.iadd, 1) := by decide +kernel
theorem dX5_number_49 : decode cX5_number 49 = .ok (.putfield 160, 3) := by decide +kernel
theorem dX5_number_52 : decode cX5_number 52 = .ok (.iload_n 3, 1) := by decide +kernel
theorem dX5_number_53 : decode cX5_number 53 = .ok (.ifCond .le 66, 3) := by decide +kernel
theorem dX5_number_56 : decode cX5_number 56 = .ok (.aload_n 0, 1) := by decide +kernel
theorem dX5_number_57 : decode cX5_number 57 = .ok (.bipush 48, 2) := by decide +kernel
theorem dX5_number_59 : decode cX5_number 59 = .ok (.bipush 57, 2) := by decide +kernel
theorem dX5_number_61 : decode cX5_number 61 = .ok (.invokevirtual 163, 3) := by decide +kernel
theorem dX5_number_64 : decode cX5_number 64 = .ok (.ifCond .eq 55, 3) := by decide +kernel
theorem dX5_number_67 : decode cX5_number 67 = .ok (.bipush 10, 2) := by decide +kernel
theorem dX5_number_69 : decode cX5_number 69 = .ok (.iload_n 3, 1) := by decide +kernel
theorem dX5_number_70 : decode cX5_number 70 = .ok (.imul, 1) := by decide +kernel
theorem dX5_number_71 : decode cX5_number 71 = .ok (.aload_n 0, 1) := by decide +kernel
theorem dX5_number_72 : decode cX5_number 72 = .ok (.getfield 22, 3) := by decide +kernel
theorem dX5_number_75 : decode cX5_number 75 = .ok (.aload_n 0, 1) := by decide +kernel
theorem dX5_number_76 : decode cX5_number 76 = .ok (.getfield 160, 3) := by decide +kernel
theorem dX5_number_79 : decode cX5_number 79 = .ok (.iaload, 1) := by decide +kernel
theorem dX5_number_80 : decode cX5_number 80 = .ok (.iadd, 1) := by decide +kernel
theorem dX5_number_81 : decode cX5_number 81 = .ok (.bipush 48, 2) := by decide +kernel
theorem dX5_number_83 : decode cX5_number 83 = .ok (.isub, 1) := by decide +kernel
theorem dX5_number_84 : decode cX5_number 84 = .ok (.iload_n 2, 1) := by decide +kernel
theorem dX5_number_85 : decode cX5_number 85 = .ok (.if_icmp .gt 34, 3) := by decide +kernel
theorem dX5_number_88 : decode cX5_number 88 = .ok (.bipush 10, 2) := by decide +kernel
theorem dX5_number_90 : decode cX5_number 90 = .ok (.iload_n 3, 1) := by decide +kernel
theorem dX5_number_91 : decode cX5_number 91 = .ok (.imul, 1) := by decide +kernel
theorem dX5_number_92 : decode cX5_number 92 = .ok (.aload_n 0, 1) := by decide +kernel
theorem dX5_number_93 : decode cX5_number 93 = .ok (.getfield 22, 3) := by decide +kernel
theorem dX5_number_96 : decode cX5_number 96 = .ok (.aload_n 0, 1) := by decide +kernel
theorem dX5_number_97 : decode cX5_number 97 = .ok (.getfield 160, 3) := by decide +kernel
theorem dX5_number_100 : decode cX5_number 100 = .ok (.iaload, 1) := by decide +kernel
theorem dX5_number_101 : decode cX5_number 101 = .ok (.iadd, 1) := by decide +kernel
theorem dX5_number_102 : decode cX5_number 102 = .ok (.bipush 48, 2) := by decide +kernel
theorem dX5_number_104 : decode cX5_number 104 = .ok (.isub, 1) := by decide +kernel
theorem dX5_number_105 : decode cX5_number 105 = .ok (.istore_n 3, 1) := by decide +kernel
theorem dX5_number_106 : decode cX5_number 106 = .ok (.aload_n 0, 1) := by decide +kernel
theorem dX5_number_107 : decode cX5_number 107 = .ok (.dup, 1) := by decide +kernel
theorem dX5_number_108 : decode cX5_number 108 = .ok (.getfield 160, 3) := by decide +kernel
theorem dX5_number_111 : decode cX5_number 111 = .ok (.iconst 1, 1) := by decide +kernel
theorem dX5_number_112 : decode cX5_number 112 = .ok (.iadd, 1) := by decide +kernel
theorem dX5_number_113 : decode cX5_number 113 = .ok (.putfield 160, 3) := by decide +kernel
theorem dX5_number_116 : decode cX5_number 116 = .ok (.goto (-64), 3) := by decide +kernel
theorem dX5_number_119 : decode cX5_number 119 = .ok (.iload_n 3, 1) := by decide +kernel
theorem dX5_number_120 : decode cX5_number 120 = .ok (.ireturn, 1) := by decide +kernel
theorem dX5_second_0 : decode cX5_second 0 = .ok (.iload_n 1, 1) := by decide +kernel
theorem dX5_second_1 : decode cX5_second 1 = .ok (.bipush (-5), 2) := by decide +kernel
theorem dX5_second_3 : decode cX5_second 3 = .ok (.if_icmp .eq 20, 3) := by decide +kernel
theorem dX5_second_6 : decode cX5_second 6 = .ok (.aload_n 0, 1) := by decide +kernel
theorem dX5_second_7 : decode cX5_second 7 = .ok (.iload_n 2, 1) := by decide +kernel
theorem dX5_second_8 : decode cX5_second 8 = .ok (.invokevirtual 166, 3) := by decide +kernel
theorem dX5_second_11 : decode cX5_second 11 = .ok (.ifCond .eq 12, 3) := by decide +kernel
theorem dX5_second_14 : decode cX5_second 14 = .ok (.aload_n 0, 1) := by decide +kernel
theorem dX5_second_15 : decode cX5_second 15 = .ok (.iconst 0, 1) := by decide +kernel
theorem dX5_second_16 : decode cX5_second 16 = .ok (.iload_n 3, 1) := by decide +kernel
theorem dX5_second_17 : decode cX5_second 17 = .ok (.invokevirtual 169, 3) := by decide +kernel
theorem dX5_second_20 : decode cX5_second 20 = .ok (.goto 5, 3) := by decide +kernel
theorem dX5_second_23 : decode cX5_second 23 = .ok (.bipush (-5), 2) := by decide +kernel
theorem dX5_second_25 : decode cX5_second 25 = .ok (.ireturn, 1) := by decide +kernel
theorem dX5_readThing_0 : decode cX5_readThing 0 = .ok (.aload_n 0, 1) := by decide +kernel
theorem dX5_readThing_1 : decode cX5_readThing 1 = .ok (.getfield 160, 3) := by decide +kernel
theorem dX5_readThing_4 : decode cX5_readThing 4 = .ok (.aload_n 0, 1) := by decide +kernel
theorem dX5_readThing_5 : decode cX5_readThing 5 = .ok (.getfield 157, 3) := by decide +kernel
theorem dX5_readThing_8 : decode cX5_readThing 8 = .ok (.if_icmp .ge 15, 3) := by decide +kernel
theorem dX5_readThing_11 : decode cX5_readThing 11 = .ok (.aload_n 0, 1) := by decide +kernel
theorem dX5_readThing_12 : decode cX5_readThing 12 = .ok (.getfield 22, 3) := by decide +kernel
theorem dX5_readThing_15 : decode cX5_readThing 15 = .ok (.aload_n 0, 1) := by decide +kernel
theorem dX5_readThing_16 : decode cX5_readThing 16 = .ok (.getfield 160, 3) := by decide +kernel
theorem dX5_readThing_19 : decode cX5_readThing 19 = .ok (.iaload, 1) := by decide +kernel
theorem dX5_readThing_20 : decode cX5_readThing 20 = .ok (.goto 4, 3) := by decide +kernel
theorem dX5_readThing_23 : decode cX5_readThing 23 = .ok (.iconst 0, 1) := by decide +kernel
theorem dX5_readThing_24 : decode cX5_readThing 24 = .ok (.istore_n 1, 1) := by decide +kernel
theorem dX5_readThing_25 : decode cX5_readThing 25 = .ok (.iload_n 1, 1) := by decide +kernel
theorem dX5_readThing_26 : decode cX5_readThing 26 = .ok (.bipush 116, 2) := by decide +kernel
theorem dX5_readThing_28 : decode cX5_readThing 28 = .ok (.if_icmp .eq 35, 3) := by decide +kernel
theorem dX5_readThing_31 : decode cX5_readThing 31 = .ok (.iload_n 1, 1) := by decide +kernel
theorem dX5_readThing_32 : decode cX5_readThing 32 = .ok (.bipush 114, 2) := by decide +kernel
theorem dX5_readThing_34 : decode cX5_readThing 34 = .ok (.if_icmp .eq 29, 3) := by decide +kernel
theorem dX5_readThing_37 : decode cX5_readThing 37 = .ok (.iload_n 1, 1) := by decide +kernel
theorem dX5_readThing_38 : decode cX5_readThing 38 = .ok (.bipush 104, 2) := by decide +kernel
theorem dX5_readThing_40 : decode cX5_readThing 40 = .ok (.if_icmp .eq 23, 3) := by decide +kernel
theorem dX5_readThing_43 : decode cX5_readThing 43 = .ok (.iload_n 1, 1) := by decide +kernel
theorem dX5_readThing_44 : decode cX5_readThing 44 = .ok (.bipush 103, 2) := by decide +kernel
theorem dX5_readThing_46 : decode cX5_readThing 46 = .ok (.if_icmp .eq 17, 3) := by decide +kernel
theorem dX5_readThing_49 : decode cX5_readThing 49 = .ok (.iload_n 1, 1) := by decide +kernel
theorem dX5_readThing_50 : decode cX5_readThing 50 = .ok (.bipush 102, 2) := by decide +kernel
theorem dX5_readThing_52 : decode cX5_readThing 52 = .ok (.if_icmp .eq 11, 3) := by decide +kernel
theorem dX5_readThing_55 : decode cX5_readThing 55 = .ok (.iload_n 1, 1) := by decide +kernel
theorem dX5_readThing_56 : decode cX5_readThing 56 = .ok (.bipush 46, 2) := by decide +kernel
theorem dX5_readThing_58 : decode cX5_readThing 58 = .ok (.if_icmp .eq 5, 3) := by decide +kernel
theorem dX5_readThing_61 : decode cX5_readThing 61 = .ok (.iconst 0, 1) := by decide +kernel
theorem dX5_readThing_62 : decode cX5_readThing 62 = .ok (.ireturn, 1) := by decide +kernel
theorem dX5_readThing_63 : decode cX5_readThing 63 = .ok (.aload_n 0, 1) := by decide +kernel
theorem dX5_readThing_64 : decode cX5_readThing 64 = .ok (.dup, 1) := by decide +kernel
theorem dX5_readThing_65 : decode cX5_readThing 65 = .ok (.getfield 160, 3) := by decide +kernel
theorem dX5_readThing_68 : decode cX5_readThing 68 = .ok (.iconst 1, 1) := by decide +kernel
theorem dX5_readThing_69 : decode cX5_readThing 69 = .ok (.iadd, 1) := by decide +kernel
theorem dX5_readThing_70 : decode cX5_readThing 70 = .ok (.putfield 160, 3) := by decide +kernel
theorem dX5_readThing_73 : decode cX5_readThing 73 = .ok (.iconst 0, 1) := by decide +kernel
theorem dX5_readThing_74 : decode cX5_readThing 74 = .ok (.istore_n 3, 1) := by decide +kernel
theorem dX5_readThing_75 : decode cX5_readThing 75 = .ok (.iload_n 1, 1) := by decide +kernel
theorem dX5_readThing_76 : decode cX5_readThing 76 = .ok (.tableswitch 159 102 116 #[149, 129, 108, 159, 159, 159, 159, 159, 159, 159, 159, 159, 97, 159, 76], 76) := by decide +kernel
theorem dX5_readThing_152 : decode cX5_readThing 152 = .ok (.aload_n 0, 1) := by decide +kernel
theorem dX5_readThing_153 : decode cX5_readThing 153 = .ok (.iconst 0, 1) := by decide +kernel
theorem dX5_readThing_154 : decode cX5_readThing 154 = .ok (.bipush 63, 2) := by decide +kernel
theorem dX5_readThing_156 : decode cX5_readThing 156 = .ok (.invokevirtual 169, 3) := by decide +kernel
theorem dX5_readThing_159 : decode cX5_readThing 159 = .ok (.istore_n 2, 1) := by decide +kernel
theorem dX5_readThing_160 : decode cX5_readThing 160 = .ok (.aload_n 0, 1) := by decide +kernel
theorem dX5_readThing_161 : decode cX5_readThing 161 = .ok (.iload_n 2, 1) := by decide +kernel
theorem dX5_readThing_162 : decode cX5_readThing 162 = .ok (.bipush 61, 2) := by decide +kernel
theorem dX5_readThing_164 : decode cX5_readThing 164 = .ok (.bipush 99, 2) := by decide +kernel
theorem dX5_readThing_166 : decode cX5_readThing 166 = .ok (.invokevirtual 172, 3) := by decide +kernel
theorem dX5_readThing_169 : decode cX5_readThing 169 = .ok (.istore_n 3, 1) := by decide +kernel
theorem dX5_readThing_170 : decode cX5_readThing 170 = .ok (.goto 73, 3) := by decide +kernel
theorem dX5_readThing_173 : decode cX5_readThing 173 = .ok (.aload_n 0, 1) := by decide +kernel
theorem dX5_readThing_174 : decode cX5_readThing 174 = .ok (.iconst 1, 1) := by decide +kernel
theorem dX5_readThing_175 : decode cX5_readThing 175 = .ok (.bipush 9, 2) := by decide +kernel
theorem dX5_readThing_177 : decode cX5_readThing 177 = .ok (.invokevirtual 169, 3) := by decide +kernel
theorem dX5_readThing_180 : decode cX5_readThing 180 = .ok (.istore_n 2, 1) := by decide +kernel
theorem dX5_readThing_181 : decode cX5_readThing 181 = .ok (.goto 62, 3) := by decide +kernel
theorem dX5_readThing_184 : decode cX5_readThing 184 = .ok (.aload_n 0, 1) := by decide +kernel
theorem dX5_readThing_185 : decode cX5_readThing 185 = .ok (.iconst 0, 1) := by decide +kernel
theorem dX5_readThing_186 : decode cX5_readThing 186 = .ok (.bipush 7, 2) := by decide +kernel
theorem dX5_readThing_188 : decode cX5_readThing 188 = .ok (.invokevirtual 169, 3) := by decide +kernel
theorem dX5_readThing_191 : decode cX5_readThing 191 = .ok (.istore_n 2, 1) := by decide +kernel
theorem dX5_readThing_192 : decode cX5_readThing 192 = .ok (.aload_n 0, 1) := by decide +kernel
theorem dX5_readThing_193 : decode cX5_readThing 193 = .ok (.iload_n 2, 1) := by decide +kernel
theorem dX5_readThing_194 : decode cX5_readThing 194 = .ok (.bipush 58, 2) := by decide +kernel
theorem dX5_readThing_196 : decode cX5_readThing 196 = .ok (.bipush 7, 2) := by decide +kernel
theorem dX5_readThing_198 : decode cX5_readThing 198 = .ok (.invokevirtual 172, 3) := by decide +kernel
theorem dX5_readThing_201 : decode cX5_readThing 201 = .ok (.istore_n 3, 1) := by decide +kernel
theorem dX5_readThing_202 : decode cX5_readThing 202 = .ok (.goto 41, 3) := by decide +kernel
theorem dX5_readThing_205 : decode cX5_readThing 205 = .ok (.aload_n 0, 1) := by decide +kernel
theorem dX5_readThing_206 : decode cX5_readThing 206 = .ok (.iconst 0, 1) := by decide +kernel
theorem dX5_readThing_207 : decode cX5_readThing 207 = .ok (.iconst 2, 1) := by decide +kernel
theorem dX5_readThing_208 : decode cX5_readThing 208 = .ok (.invokevirtual 169, 3) := by decide +kernel
theorem dX5_readThing_211 : decode cX5_readThing 211 = .ok (.istore_n 2, 1) := by decide +kernel
theorem dX5_readThing_212 : decode cX5_readThing 212 = .ok (.aload_n 0, 1) := by decide +kernel
theorem dX5_readThing_213 : decode cX5_readThing 213 = .ok (.iload_n 2, 1) := by decide +kernel
theorem dX5_readThing_214 : decode cX5_readThing 214 = .ok (.bipush 62, 2) := by decide +kernel
theorem dX5_readThing_216 : decode cX5_readThing 216 = .ok (.bipush 63, 2) := by decide +kernel
theorem dX5_readThing_218 : decode cX5_readThing 218 = .ok (.invokevirtual 172, 3) := by decide +kernel
theorem dX5_readThing_221 : decode cX5_readThing 221 = .ok (.istore_n 3, 1) := by decide +kernel
theorem dX5_readThing_222 : decode cX5_readThing 222 = .ok (.goto 21, 3) := by decide +kernel
theorem dX5_readThing_225 : decode cX5_readThing 225 = .ok (.aload_n 0, 1) := by decide +kernel
theorem dX5_readThing_226 : decode cX5_readThing 226 = .ok (.iconst 0, 1) := by decide +kernel
theorem dX5_readThing_227 : decode cX5_readThing 227 = .ok (.iconst 2, 1) := by decide +kernel
theorem dX5_readThing_228 : decode cX5_readThing 228 = .ok (.invokevirtual 169, 3) := by decide +kernel
theorem dX5_readThing_231 : decode cX5_readThing 231 = .ok (.istore_n 2, 1) := by decide +kernel
theorem dX5_readThing_232 : decode cX5_readThing 232 = .ok (.goto 11, 3) := by decide +kernel
theorem dX5_readThing_235 : decode cX5_readThing 235 = .ok (.aload_n 0, 1) := by decide +kernel
theorem dX5_readThing_236 : decode cX5_readThing 236 = .ok (.iconst 1, 1) := by decide +kernel
theorem dX5_readThing_237 : decode cX5_readThing 237 = .ok (.bipush 99, 2) := by decide +kernel
theorem dX5_readThing_239 : decode cX5_readThing 239 = .ok (.invokevirtual 169, 3) := by decide +kernel
theorem dX5_readThing_242 : decode cX5_readThing 242 = .ok (.istore_n 2, 1) := by decide +kernel
theorem dX5_readThing_243 : decode cX5_readThing 243 = .ok (.aload_n 0, 1) := by decide +kernel
theorem dX5_readThing_244 : decode cX5_readThing 244 = .ok (.getfield 37, 3) := by decide +kernel
theorem dX5_readThing_247 : decode cX5_readThing 247 = .ok (.iconst 3, 1) := by decide +kernel
theorem dX5_readThing_248 : decode cX5_readThing 248 = .ok (.aload_n 0, 1) := by decide +kernel
theorem dX5_readThing_249 : decode cX5_readThing 249 = .ok (.getfield 176, 3) := by decide +kernel
theorem dX5_readThing_252 : decode cX5_readThing 252 = .ok (.imul, 1) := by decide +kernel
theorem dX5_readThing_253 : decode cX5_readThing 253 = .ok (.iload_n 1, 1) := by decide +kernel
theorem dX5_readThing_254 : decode cX5_readThing 254 = .ok (.iastore, 1) := by decide +kernel
theorem dX5_readThing_255 : decode cX5_readThing 255 = .ok (.aload_n 0, 1) := by decide +kernel
theorem dX5_readThing_256 : decode cX5_readThing 256 = .ok (.getfield 37, 3) := by decide +kernel
theorem dX5_readThing_259 : decode cX5_readThing 259 = .ok (.iconst 3, 1) := by decide +kernel
theorem dX5_readThing_260 : decode cX5_readThing 260 = .ok (.aload_n 0, 1) := by decide +kernel
theorem dX5_readThing_261 : decode cX5_readThing 261 = .ok (.getfield 176, 3) := by decide +kernel
theorem dX5_readThing_264 : decode cX5_readThing 264 = .ok (.imul, 1) := by decide +kernel
theorem dX5_readThing_265 : decode cX5_readThing 265 = .ok (.iconst 1, 1) := by decide +kernel
theorem dX5_readThing_266 : decode cX5_readThing 266 = .ok (.iadd, 1) := by decide +kernel
theorem dX5_readThing_267 : decode cX5_readThing 267 = .ok (.iload_n 2, 1) := by decide +kernel
theorem dX5_readThing_268 : decode cX5_readThing 268 = .ok (.iastore, 1) := by decide +kernel
theorem dX5_readThing_269 : decode cX5_readThing 269 = .ok (.aload_n 0, 1) := by decide +kernel
theorem dX5_readThing_270 : decode cX5_readThing 270 = .ok (.getfield 37, 3) := by decide +kernel
theorem dX5_readThing_273 : decode cX5_readThing 273 = .ok (.iconst 3, 1) := by decide +kernel
theorem dX5_readThing_274 : decode cX5_readThing 274 = .ok (.aload_n 0, 1) := by decide +kernel
theorem dX5_readThing_275 : decode cX5_readThing 275 = .ok (.getfield 176, 3) := by decide +kernel
theorem dX5_readThing_278 : decode cX5_readThing 278 = .ok (.imul, 1) := by decide +kernel
theorem dX5_readThing_279 : decode cX5_readThing 279 = .ok (.iconst 2, 1) := by decide +kernel
theorem dX5_readThing_280 : decode cX5_readThing 280 = .ok (.iadd, 1) := by decide +kernel
theorem dX5_readThing_281 : decode cX5_readThing 281 = .ok (.iload_n 3, 1) := by decide +kernel
theorem dX5_readThing_282 : decode cX5_readThing 282 = .ok (.iastore, 1) := by decide +kernel
theorem dX5_readThing_283 : decode cX5_readThing 283 = .ok (.aload_n 0, 1) := by decide +kernel
theorem dX5_readThing_284 : decode cX5_readThing 284 = .ok (.dup, 1) := by decide +kernel
theorem dX5_readThing_285 : decode cX5_readThing 285 = .ok (.getfield 176, 3) := by decide +kernel
theorem dX5_readThing_288 : decode cX5_readThing 288 = .ok (.iconst 1, 1) := by decide +kernel
theorem dX5_readThing_289 : decode cX5_readThing 289 = .ok (.iadd, 1) := by decide +kernel
theorem dX5_readThing_290 : decode cX5_readThing 290 = .ok (.putfield 176, 3) := by decide +kernel
theorem dX5_readThing_293 : decode cX5_readThing 293 = .ok (.iload_n 2, 1) := by decide +kernel
theorem dX5_readThing_294 : decode cX5_readThing 294 = .ok (.bipush (-5), 2) := by decide +kernel
theorem dX5_readThing_296 : decode cX5_readThing 296 = .ok (.if_icmp .eq 13, 3) := by decide +kernel
theorem dX5_readThing_299 : decode cX5_readThing 299 = .ok (.iload_n 3, 1) := by decide +kernel
theorem dX5_readThing_300 : decode cX5_readThing 300 = .ok (.bipush (-5), 2) := by decide +kernel
theorem dX5_readThing_302 : decode cX5_readThing 302 = .ok (.if_icmp .eq 7, 3) := by decide +kernel
theorem dX5_readThing_305 : decode cX5_readThing 305 = .ok (.iconst 1, 1) := by decide +kernel
theorem dX5_readThing_306 : decode cX5_readThing 306 = .ok (.goto 4, 3) := by decide +kernel
theorem dX5_readThing_309 : decode cX5_readThing 309 = .ok (.iconst 0, 1) := by decide +kernel
theorem dX5_readThing_310 : decode cX5_readThing 310 = .ok (.ireturn, 1) := by decide +kernel
theorem dX5_readText_0 : decode cX5_readText 0 = .ok (.aload_n 0, 1) := by decide +kernel
theorem dX5_readText_1 : decode cX5_readText 1 = .ok (.iconst 0, 1) := by decide +kernel
theorem dX5_readText_2 : decode cX5_readText 2 = .ok (.putfield 160, 3) := by decide +kernel
theorem dX5_readText_5 : decode cX5_readText 5 = .ok (.aload_n 0, 1) := by decide +kernel
theorem dX5_readText_6 : decode cX5_readText 6 = .ok (.iconst 0, 1) := by decide +kernel
theorem dX5_readText_7 : decode cX5_readText 7 = .ok (.putfield 176, 3) := by decide +kernel
theorem dX5_readText_10 : decode cX5_readText 10 = .ok (.aload_n 0, 1) := by decide +kernel
theorem dX5_readText_11 : decode cX5_readText 11 = .ok (.invokevirtual 179, 3) := by decide +kernel
theorem dX5_readText_14 : decode cX5_readText 14 = .ok (.istore_n 1, 1) := by decide +kernel
theorem dX5_readText_15 : decode cX5_readText 15 = .ok (.iload_n 1, 1) := by decide +kernel
theorem dX5_readText_16 : decode cX5_readText 16 = .ok (.ifCond .eq 39, 3) := by decide +kernel
theorem dX5_readText_19 : decode cX5_readText 19 = .ok (.aload_n 0, 1) := by decide +kernel
theorem dX5_readText_20 : decode cX5_readText 20 = .ok (.getfield 160, 3) := by decide +kernel
theorem dX5_readText_23 : decode cX5_readText 23 = .ok (.aload_n 0, 1) := by decide +kernel
theorem dX5_readText_24 : decode cX5_readText 24 = .ok (.getfield 157, 3) := by decide +kernel
theorem dX5_readText_27 : decode cX5_readText 27 = .ok (.if_icmp .ge 28, 3) := by decide +kernel
theorem dX5_readText_30 : decode cX5_readText 30 = .ok (.aload_n 0, 1) := by decide +kernel
theorem dX5_readText_31 : decode cX5_readText 31 = .ok (.bipush 59, 2) := by decide +kernel
theorem dX5_readText_33 : decode cX5_readText 33 = .ok (.invokevirtual 166, 3) := by decide +kernel
theorem dX5_readText_36 : decode cX5_readText 36 = .ok (.ifCond .eq 14, 3) := by decide +kernel
theorem dX5_readText_39 : decode cX5_readText 39 = .ok (.aload_n 0, 1) := by decide +kernel
theorem dX5_readText_40 : decode cX5_readText 40 = .ok (.invokevirtual 179, 3) := by decide +kernel
theorem dX5_readText_43 : decode cX5_readText 43 = .ok (.ifCond .eq 7, 3) := by decide +kernel
theorem dX5_readText_46 : decode cX5_readText 46 = .ok (.iconst 1, 1) := by decide +kernel
theorem dX5_readText_47 : decode cX5_readText 47 = .ok (.goto 4, 3) := by decide +kernel
theorem dX5_readText_50 : decode cX5_readText 50 = .ok (.iconst 0, 1) := by decide +kernel
theorem dX5_readText_51 : decode cX5_readText 51 = .ok (.istore_n 1, 1) := by decide +kernel
theorem dX5_readText_52 : decode cX5_readText 52 = .ok (.goto (-37), 3) := by decide +kernel
theorem dX5_readText_55 : decode cX5_readText 55 = .ok (.iload_n 1, 1) := by decide +kernel
theorem dX5_readText_56 : decode cX5_readText 56 = .ok (.ireturn, 1) := by decide +kernel
theorem dX5_whyNot_0 : decode cX5_whyNot 0 = .ok (.aload_n 0, 1) := by decide +kernel
theorem dX5_whyNot_1 : decode cX5_whyNot 1 = .ok (.getfield 37, 3) := by decide +kernel
theorem dX5_whyNot_4 : decode cX5_whyNot 4 = .ok (.iconst 3, 1) := by decide +kernel
theorem dX5_whyNot_5 : decode cX5_whyNot 5 = .ok (.iload_n 1, 1) := by decide +kernel
theorem dX5_whyNot_6 : decode cX5_whyNot 6 = .ok (.imul, 1) := by decide +kernel
theorem dX5_whyNot_7 : decode cX5_whyNot 7 = .ok (.iconst 1, 1) := by decide +kernel
theorem dX5_whyNot_8 : decode cX5_whyNot 8 = .ok (.iadd, 1) := by decide +kernel
theorem dX5_whyNot_9 : decode cX5_whyNot 9 = .ok (.iaload, 1) := by decide +kernel
theorem dX5_whyNot_10 : decode cX5_whyNot 10 = .ok (.istore_n 2, 1) := by decide +kernel
theorem dX5_whyNot_11 : decode cX5_whyNot 11 = .ok (.aload_n 0, 1) := by decide +kernel
theorem dX5_whyNot_12 : decode cX5_whyNot 12 = .ok (.getfield 37, 3) := by decide +kernel
theorem dX5_whyNot_15 : decode cX5_whyNot 15 = .ok (.iconst 3, 1) := by decide +kernel
theorem dX5_whyNot_16 : decode cX5_whyNot 16 = .ok (.iload_n 1, 1) := by decide +kernel
theorem dX5_whyNot_17 : decode cX5_whyNot 17 = .ok (.imul, 1) := by decide +kernel
theorem dX5_whyNot_18 : decode cX5_whyNot 18 = .ok (.iconst 2, 1) := by decide +kernel
theorem dX5_whyNot_19 : decode cX5_whyNot 19 = .ok (.iadd, 1) := by decide +kernel
theorem dX5_whyNot_20 : decode cX5_whyNot 20 = .ok (.iaload, 1) := by decide +kernel
theorem dX5_whyNot_21 : decode cX5_whyNot 21 = .ok (.istore_n 3, 1) := by decide +kernel
theorem dX5_whyNot_22 : decode cX5_whyNot 22 = .ok (.aload_n 0, 1) := by decide +kernel
theorem dX5_whyNot_23 : decode cX5_whyNot 23 = .ok (.getfield 37, 3) := by decide +kernel
theorem dX5_whyNot_26 : decode cX5_whyNot 26 = .ok (.iconst 3, 1) := by decide +kernel
theorem dX5_whyNot_27 : decode cX5_whyNot 27 = .ok (.iload_n 1, 1) := by decide +kernel
theorem dX5_whyNot_28 : decode cX5_whyNot 28 = .ok (.imul, 1) := by decide +kernel
theorem dX5_whyNot_29 : decode cX5_whyNot 29 = .ok (.iaload, 1) := by decide +kernel
theorem dX5_whyNot_30 : decode cX5_whyNot 30 = .ok (.lookupswitch 68 #[(46, 62), (102, 56), (103, 49), (104, 42)], 42) := by decide +kernel
theorem dX5_whyNot_72 : decode cX5_whyNot 72 = .ok (.aload_n 0, 1) := by decide +kernel
theorem dX5_whyNot_73 : decode cX5_whyNot 73 = .ok (.iload_n 2, 1) := by decide +kernel
theorem dX5_whyNot_74 : decode cX5_whyNot 74 = .ok (.iload_n 3, 1) := by decide +kernel
theorem dX5_whyNot_75 : decode cX5_whyNot 75 = .ok (.invokevirtual 148, 3) := by decide +kernel
theorem dX5_whyNot_78 : decode cX5_whyNot 78 = .ok (.ireturn, 1) := by decide +kernel
theorem dX5_whyNot_79 : decode cX5_whyNot 79 = .ok (.aload_n 0, 1) := by decide +kernel
theorem dX5_whyNot_80 : decode cX5_whyNot 80 = .ok (.iload_n 2, 1) := by decide +kernel
theorem dX5_whyNot_81 : decode cX5_whyNot 81 = .ok (.iload_n 3, 1) := by decide +kernel
theorem dX5_whyNot_82 : decode cX5_whyNot 82 = .ok (.invokevirtual 129, 3) := by decide +kernel
theorem dX5_whyNot_85 : decode cX5_whyNot 85 = .ok (.ireturn, 1) := by decide +kernel
theorem dX5_whyNot_86 : decode cX5_whyNot 86 = .ok (.aload_n 0, 1) := by decide +kernel
theorem dX5_whyNot_87 : decode cX5_whyNot 87 = .ok (.iload_n 2, 1) := by decide +kernel
theorem dX5_whyNot_88 : decode cX5_whyNot 88 = .ok (.invokevirtual 136, 3) := by decide +kernel
theorem dX5_whyNot_91 : decode cX5_whyNot 91 = .ok (.ireturn, 1) := by decide +kernel
theorem dX5_whyNot_92 : decode cX5_whyNot 92 = .ok (.aload_n 0, 1) := by decide +kernel
theorem dX5_whyNot_93 : decode cX5_whyNot 93 = .ok (.iload_n 2, 1) := by decide +kernel
theorem dX5_whyNot_94 : decode cX5_whyNot 94 = .ok (.invokevirtual 110, 3) := by decide +kernel
theorem dX5_whyNot_97 : decode cX5_whyNot 97 = .ok (.ireturn, 1) := by decide +kernel
theorem dX5_whyNot_98 : decode cX5_whyNot 98 = .ok (.iconst 0, 1) := by decide +kernel
theorem dX5_whyNot_99 : decode cX5_whyNot 99 = .ok (.ireturn, 1) := by decide +kernel
theorem dX5_doThing_0 : decode cX5_doThing 0 = .ok (.aload_n 0, 1) := by decide +kernel
theorem dX5_doThing_1 : decode cX5_doThing 1 = .ok (.getfield 37, 3) := by decide +kernel
theorem dX5_doThing_4 : decode cX5_doThing 4 = .ok (.iconst 3, 1) := by decide +kernel
theorem dX5_doThing_5 : decode cX5_doThing 5 = .ok (.iload_n 1, 1) := by decide +kernel
theorem dX5_doThing_6 : decode cX5_doThing 6 = .ok (.imul, 1) := by decide +kernel
theorem dX5_doThing_7 : decode cX5_doThing 7 = .ok (.iconst 1, 1) := by decide +kernel
theorem dX5_doThing_8 : decode cX5_doThing 8 = .ok (.iadd, 1) := by decide +kernel
theorem dX5_doThing_9 : decode cX5_doThing 9 = .ok (.iaload, 1) := by decide +kernel
theorem dX5_doThing_10 : decode cX5_doThing 10 = .ok (.istore_n 2, 1) := by decide +kernel
theorem dX5_doThing_11 : decode cX5_doThing 11 = .ok (.aload_n 0, 1) := by decide +kernel
theorem dX5_doThing_12 : decode cX5_doThing 12 = .ok (.getfield 37, 3) := by decide +kernel
theorem dX5_doThing_15 : decode cX5_doThing 15 = .ok (.iconst 3, 1) := by decide +kernel
theorem dX5_doThing_16 : decode cX5_doThing 16 = .ok (.iload_n 1, 1) := by decide +kernel
theorem dX5_doThing_17 : decode cX5_doThing 17 = .ok (.imul, 1) := by decide +kernel
theorem dX5_doThing_18 : decode cX5_doThing 18 = .ok (.iconst 2, 1) := by decide +kernel
theorem dX5_doThing_19 : decode cX5_doThing 19 = .ok (.iadd, 1) := by decide +kernel
theorem dX5_doThing_20 : decode cX5_doThing 20 = .ok (.iaload, 1) := by decide +kernel
theorem dX5_doThing_21 : decode cX5_doThing 21 = .ok (.istore_n 3, 1) := by decide +kernel
theorem dX5_doThing_22 : decode cX5_doThing 22 = .ok (.aload_n 0, 1) := by decide +kernel
theorem dX5_doThing_23 : decode cX5_doThing 23 = .ok (.getfield 37, 3) := by decide +kernel
theorem dX5_doThing_26 : decode cX5_doThing 26 = .ok (.iconst 3, 1) := by decide +kernel
theorem dX5_doThing_27 : decode cX5_doThing 27 = .ok (.iload_n 1, 1) := by decide +kernel
theorem dX5_doThing_28 : decode cX5_doThing 28 = .ok (.imul, 1) := by decide +kernel
theorem dX5_doThing_29 : decode cX5_doThing 29 = .ok (.iaload, 1) := by decide +kernel
theorem dX5_doThing_30 : decode cX5_doThing 30 = .ok (.tableswitch 127 102 116 #[118, 109, 96, 127, 127, 127, 127, 127, 127, 127, 127, 127, 87, 127, 74], 74) := by decide +kernel
theorem dX5_doThing_104 : decode cX5_doThing 104 = .ok (.aload_n 0, 1) := by decide +kernel
theorem dX5_doThing_105 : decode cX5_doThing 105 = .ok (.getfield 7, 3) := by decide +kernel
theorem dX5_doThing_108 : decode cX5_doThing 108 = .ok (.bipush 28, 2) := by decide +kernel
theorem dX5_doThing_110 : decode cX5_doThing 110 = .ok (.iload_n 2, 1) := by decide +kernel
theorem dX5_doThing_111 : decode cX5_doThing 111 = .ok (.iadd, 1) := by decide +kernel
theorem dX5_doThing_112 : decode cX5_doThing 112 = .ok (.iload_n 3, 1) := by decide +kernel
theorem dX5_doThing_113 : decode cX5_doThing 113 = .ok (.iastore, 1) := by decide +kernel
theorem dX5_doThing_114 : decode cX5_doThing 114 = .ok (.goto 49, 3) := by decide +kernel
theorem dX5_doThing_117 : decode cX5_doThing 117 = .ok (.aload_n 0, 1) := by decide +kernel
theorem dX5_doThing_118 : decode cX5_doThing 118 = .ok (.iload_n 2, 1) := by decide +kernel
theorem dX5_doThing_119 : decode cX5_doThing 119 = .ok (.invokevirtual 107, 3) := by decide +kernel
theorem dX5_doThing_122 : decode cX5_doThing 122 = .ok (.pop, 1) := by decide +kernel
theorem dX5_doThing_123 : decode cX5_doThing 123 = .ok (.goto 40, 3) := by decide +kernel
theorem dX5_doThing_126 : decode cX5_doThing 126 = .ok (.aload_n 0, 1) := by decide +kernel
theorem dX5_doThing_127 : decode cX5_doThing 127 = .ok (.getfield 7, 3) := by decide +kernel
theorem dX5_doThing_130 : decode cX5_doThing 130 = .ok (.bipush 7, 2) := by decide +kernel
theorem dX5_doThing_132 : decode cX5_doThing 132 = .ok (.iload_n 2, 1) := by decide +kernel
theorem dX5_doThing_133 : decode cX5_doThing 133 = .ok (.iadd, 1) := by decide +kernel
theorem dX5_doThing_134 : decode cX5_doThing 134 = .ok (.iload_n 3, 1) := by decide +kernel
theorem dX5_doThing_135 : decode cX5_doThing 135 = .ok (.iastore, 1) := by decide +kernel
theorem dX5_doThing_136 : decode cX5_doThing 136 = .ok (.goto 27, 3) := by decide +kernel
theorem dX5_doThing_139 : decode cX5_doThing 139 = .ok (.aload_n 0, 1) := by decide +kernel
theorem dX5_doThing_140 : decode cX5_doThing 140 = .ok (.iload_n 2, 1) := by decide +kernel
theorem dX5_doThing_141 : decode cX5_doThing 141 = .ok (.iload_n 3, 1) := by decide +kernel
theorem dX5_doThing_142 : decode cX5_doThing 142 = .ok (.invokevirtual 132, 3) := by decide +kernel
theorem dX5_doThing_145 : decode cX5_doThing 145 = .ok (.goto 18, 3) := by decide +kernel
theorem dX5_doThing_148 : decode cX5_doThing 148 = .ok (.aload_n 0, 1) := by decide +kernel
theorem dX5_doThing_149 : decode cX5_doThing 149 = .ok (.iload_n 2, 1) := by decide +kernel
theorem dX5_doThing_150 : decode cX5_doThing 150 = .ok (.invokevirtual 139, 3) := by decide +kernel
theorem dX5_doThing_153 : decode cX5_doThing 153 = .ok (.pop, 1) := by decide +kernel
theorem dX5_doThing_154 : decode cX5_doThing 154 = .ok (.goto 9, 3) := by decide +kernel
theorem dX5_doThing_157 : decode cX5_doThing 157 = .ok (.aload_n 0, 1) := by decide +kernel
theorem dX5_doThing_158 : decode cX5_doThing 158 = .ok (.iload_n 2, 1) := by decide +kernel
theorem dX5_doThing_159 : decode cX5_doThing 159 = .ok (.invokevirtual 113, 3) := by decide +kernel
theorem dX5_doThing_162 : decode cX5_doThing 162 = .ok (.pop, 1) := by decide +kernel
theorem dX5_doThing_163 : decode cX5_doThing 163 = .ok (.return_, 1) := by decide +kernel
theorem dX5_perform_0 : decode cX5_perform 0 = .ok (.aload_n 0, 1) := by decide +kernel
theorem dX5_perform_1 : decode cX5_perform 1 = .ok (.invokevirtual 183, 3) := by decide +kernel
theorem dX5_perform_4 : decode cX5_perform 4 = .ok (.ifCond .ne 11, 3) := by decide +kernel
theorem dX5_perform_7 : decode cX5_perform 7 = .ok (.bipush (-100), 2) := by decide +kernel
theorem dX5_perform_9 : decode cX5_perform 9 = .ok (.aload_n 0, 1) := by decide +kernel
theorem dX5_perform_10 : decode cX5_perform 10 = .ok (.getfield 160, 3) := by decide +kernel
theorem dX5_perform_13 : decode cX5_perform 13 = .ok (.isub, 1) := by decide +kernel
theorem dX5_perform_14 : decode cX5_perform 14 = .ok (.ireturn, 1) := by decide +kernel
theorem dX5_perform_15 : decode cX5_perform 15 = .ok (.aload_n 0, 1) := by decide +kernel
theorem dX5_perform_16 : decode cX5_perform 16 = .ok (.getfield 7, 3) := by decide +kernel
theorem dX5_perform_19 : decode cX5_perform 19 = .ok (.iconst 0, 1) := by decide +kernel
theorem dX5_perform_20 : decode cX5_perform 20 = .ok (.aload_n 0, 1) := by decide +kernel
theorem dX5_perform_21 : decode cX5_perform 21 = .ok (.getfield 13, 3) := by decide +kernel
theorem dX5_perform_24 : decode cX5_perform 24 = .ok (.iconst 0, 1) := by decide +kernel
theorem dX5_perform_25 : decode cX5_perform 25 = .ok (.invokestatic 55, 3) := by decide +kernel
theorem dX5_perform_28 : decode cX5_perform 28 = .ok (.iconst 0, 1) := by decide +kernel
theorem dX5_perform_29 : decode cX5_perform 29 = .ok (.istore_n 1, 1) := by decide +kernel
theorem dX5_perform_30 : decode cX5_perform 30 = .ok (.iload_n 1, 1) := by decide +kernel
theorem dX5_perform_31 : decode cX5_perform 31 = .ok (.aload_n 0, 1) := by decide +kernel
theorem dX5_perform_32 : decode cX5_perform 32 = .ok (.getfield 176, 3) := by decide +kernel
theorem dX5_perform_35 : decode cX5_perform 35 = .ok (.if_icmp .ge 50, 3) := by decide +kernel
theorem dX5_perform_38 : decode cX5_perform 38 = .ok (.aload_n 0, 1) := by decide +kernel
theorem dX5_perform_39 : decode cX5_perform 39 = .ok (.iload_n 1, 1) := by decide +kernel
theorem dX5_perform_40 : decode cX5_perform 40 = .ok (.invokevirtual 186, 3) := by decide +kernel
theorem dX5_perform_43 : decode cX5_perform 43 = .ok (.istore_n 2, 1) := by decide +kernel
theorem dX5_perform_44 : decode cX5_perform 44 = .ok (.iload_n 2, 1) := by decide +kernel
theorem dX5_perform_45 : decode cX5_perform 45 = .ok (.ifCond .ge 29, 3) := by decide +kernel
theorem dX5_perform_48 : decode cX5_perform 48 = .ok (.aload_n 0, 1) := by decide +kernel
theorem dX5_perform_49 : decode cX5_perform 49 = .ok (.getfield 13, 3) := by decide +kernel
theorem dX5_perform_52 : decode cX5_perform 52 = .ok (.iconst 0, 1) := by decide +kernel
theorem dX5_perform_53 : decode cX5_perform 53 = .ok (.aload_n 0, 1) := by decide +kernel
theorem dX5_perform_54 : decode cX5_perform 54 = .ok (.getfield 7, 3) := by decide +kernel
theorem dX5_perform_57 : decode cX5_perform 57 = .ok (.iconst 0, 1) := by decide +kernel
theorem dX5_perform_58 : decode cX5_perform 58 = .ok (.invokestatic 55, 3) := by decide +kernel
theorem dX5_perform_61 : decode cX5_perform 61 = .ok (.aload_n 0, 1) := by decide +kernel
theorem dX5_perform_62 : decode cX5_perform 62 = .ok (.iload_n 1, 1) := by decide +kernel
theorem dX5_perform_63 : decode cX5_perform 63 = .ok (.putfield 189, 3) := by decide +kernel
theorem dX5_perform_66 : decode cX5_perform 66 = .ok (.aload_n 0, 1) := by decide +kernel
theorem dX5_perform_67 : decode cX5_perform 67 = .ok (.iload_n 2, 1) := by decide +kernel
theorem dX5_perform_68 : decode cX5_perform 68 = .ok (.putfield 192, 3) := by decide +kernel
theorem dX5_perform_71 : decode cX5_perform 71 = .ok (.bipush (-4), 2) := by decide +kernel
theorem dX5_perform_73 : decode cX5_perform 73 = .ok (.ireturn, 1) := by decide +kernel
theorem dX5_perform_74 : decode cX5_perform 74 = .ok (.aload_n 0, 1) := by decide +kernel
theorem dX5_perform_75 : decode cX5_perform 75 = .ok (.iload_n 1, 1) := by decide +kernel
theorem dX5_perform_76 : decode cX5_perform 76 = .ok (.invokevirtual 195, 3) := by decide +kernel
theorem dX5_perform_79 : decode cX5_perform 79 = .ok (.iinc 1 1, 3) := by decide +kernel
theorem dX5_perform_82 : decode cX5_perform 82 = .ok (.goto (-52), 3) := by decide +kernel
theorem dX5_perform_85 : decode cX5_perform 85 = .ok (.aload_n 0, 1) := by decide +kernel
theorem dX5_perform_86 : decode cX5_perform 86 = .ok (.aload_n 0, 1) := by decide +kernel
theorem dX5_perform_87 : decode cX5_perform 87 = .ok (.getfield 13, 3) := by decide +kernel
theorem dX5_perform_90 : decode cX5_perform 90 = .ok (.invokevirtual 59, 3) := by decide +kernel
theorem dX5_perform_93 : decode cX5_perform 93 = .ok (.aload_n 0, 1) := by decide +kernel
theorem dX5_perform_94 : decode cX5_perform 94 = .ok (.getfield 176, 3) := by decide +kernel
theorem dX5_perform_97 : decode cX5_perform 97 = .ok (.ireturn, 1) := by decide +kernel
theorem dX5_stopped_0 : decode cX5_stopped 0 = .ok (.iload_n 1, 1) := by decide +kernel
theorem dX5_stopped_1 : decode cX5_stopped 1 = .ok (.iconst 0, 1) := by decide +kernel
theorem dX5_stopped_2 : decode cX5_stopped 2 = .ok (.iconst 1, 1) := by decide +kernel
theorem dX5_stopped_3 : decode cX5_stopped 3 = .ok (.invokestatic 47, 3) := by decide +kernel
theorem dX5_stopped_6 : decode cX5_stopped 6 = .ok (.ifCond .ne 6, 3) := by decide +kernel
theorem dX5_stopped_9 : decode cX5_stopped 9 = .ok (.bipush (-2), 2) := by decide +kernel
theorem dX5_stopped_11 : decode cX5_stopped 11 = .ok (.ireturn, 1) := by decide +kernel
theorem dX5_stopped_12 : decode cX5_stopped 12 = .ok (.aload_n 0, 1) := by decide +kernel
theorem dX5_stopped_13 : decode cX5_stopped 13 = .ok (.getfield 192, 3) := by decide +kernel
theorem dX5_stopped_16 : decode cX5_stopped 16 = .ok (.ifCond .ne 8, 3) := by decide +kernel
theorem dX5_stopped_19 : decode cX5_stopped 19 = .ok (.bipush (-5), 2) := by decide +kernel
theorem dX5_stopped_21 : decode cX5_stopped 21 = .ok (.goto 18, 3) := by decide +kernel
theorem dX5_stopped_24 : decode cX5_stopped 24 = .ok (.iload_n 1, 1) := by decide +kernel
theorem dX5_stopped_25 : decode cX5_stopped 25 = .ok (.ifCond .ne 10, 3) := by decide +kernel
theorem dX5_stopped_28 : decode cX5_stopped 28 = .ok (.aload_n 0, 1) := by decide +kernel
theorem dX5_stopped_29 : decode cX5_stopped 29 = .ok (.getfield 189, 3) := by decide +kernel
theorem dX5_stopped_32 : decode cX5_stopped 32 = .ok (.goto 7, 3) := by decide +kernel
theorem dX5_stopped_35 : decode cX5_stopped 35 = .ok (.aload_n 0, 1) := by decide +kernel
theorem dX5_stopped_36 : decode cX5_stopped 36 = .ok (.getfield 192, 3) := by decide +kernel
theorem dX5_stopped_39 : decode cX5_stopped 39 = .ok (.ireturn, 1) := by decide +kernel
theorem dX5_plot_0 : decode cX5_plot 0 = .ok (.iload_n 1, 1) := by decide +kernel
theorem dX5_plot_1 : decode cX5_plot 1 = .ok (.invokestatic 100, 3) := by decide +kernel
theorem dX5_plot_4 : decode cX5_plot 4 = .ok (.ifCond .ne 5, 3) := by decide +kernel
theorem dX5_plot_7 : decode cX5_plot 7 = .ok (.iconst (-1), 1) := by decide +kernel
theorem dX5_plot_8 : decode cX5_plot 8 = .ok (.ireturn, 1) := by decide +kernel
theorem dX5_plot_9 : decode cX5_plot 9 = .ok (.aload_n 0, 1) := by decide +kernel
theorem dX5_plot_10 : decode cX5_plot 10 = .ok (.invokevirtual 78, 3) := by decide +kernel
theorem dX5_plot_13 : decode cX5_plot 13 = .ok (.iload_n 2, 1) := by decide +kernel
theorem dX5_plot_14 : decode cX5_plot 14 = .ok (.tableswitch 117 0 6 #[42, 52, 62, 68, 82, 100, 106], 42) := by decide +kernel
theorem dX5_plot_56 : decode cX5_plot 56 = .ok (.aload_n 0, 1) := by decide +kernel
theorem dX5_plot_57 : decode cX5_plot 57 = .ok (.getfield 7, 3) := by decide +kernel
theorem dX5_plot_60 : decode cX5_plot 60 = .ok (.bipush 28, 2) := by decide +kernel
theorem dX5_plot_62 : decode cX5_plot 62 = .ok (.iload_n 1, 1) := by decide +kernel
theorem dX5_plot_63 : decode cX5_plot 63 = .ok (.iadd, 1) := by decide +kernel
theorem dX5_plot_64 : decode cX5_plot 64 = .ok (.iaload, 1) := by decide +kernel
theorem dX5_plot_65 : decode cX5_plot 65 = .ok (.ireturn, 1) := by decide +kernel
theorem dX5_plot_66 : decode cX5_plot 66 = .ok (.aload_n 0, 1) := by decide +kernel
theorem dX5_plot_67 : decode cX5_plot 67 = .ok (.getfield 7, 3) := by decide +kernel
theorem dX5_plot_70 : decode cX5_plot 70 = .ok (.bipush 92, 2) := by decide +kernel
theorem dX5_plot_72 : decode cX5_plot 72 = .ok (.iload_n 1, 1) := by decide +kernel
theorem dX5_plot_73 : decode cX5_plot 73 = .ok (.iadd, 1) := by decide +kernel
theorem dX5_plot_74 : decode cX5_plot 74 = .ok (.iaload, 1) := by decide +kernel
theorem dX5_plot_75 : decode cX5_plot 75 = .ok (.ireturn, 1) := by decide +kernel
theorem dX5_plot_76 : decode cX5_plot 76 = .ok (.aload_n 0, 1) := by decide +kernel
theorem dX5_plot_77 : decode cX5_plot 77 = .ok (.iload_n 1, 1) := by decide +kernel
theorem dX5_plot_78 : decode cX5_plot 78 = .ok (.invokevirtual 85, 3) := by decide +kernel
theorem dX5_plot_81 : decode cX5_plot 81 = .ok (.ireturn, 1) := by decide +kernel
theorem dX5_plot_82 : decode cX5_plot 82 = .ok (.aload_n 0, 1) := by decide +kernel
theorem dX5_plot_83 : decode cX5_plot 83 = .ok (.iload_n 1, 1) := by decide +kernel
theorem dX5_plot_84 : decode cX5_plot 84 = .ok (.invokevirtual 85, 3) := by decide +kernel
theorem dX5_plot_87 : decode cX5_plot 87 = .ok (.ifCond .le 7, 3) := by decide +kernel
theorem dX5_plot_90 : decode cX5_plot 90 = .ok (.iconst 1, 1) := by decide +kernel
theorem dX5_plot_91 : decode cX5_plot 91 = .ok (.goto 4, 3) := by decide +kernel
theorem dX5_plot_94 : decode cX5_plot 94 = .ok (.iconst 0, 1) := by decide +kernel
theorem dX5_plot_95 : decode cX5_plot 95 = .ok (.ireturn, 1) := by decide +kernel
theorem dX5_plot_96 : decode cX5_plot 96 = .ok (.aload_n 0, 1) := by decide +kernel
theorem dX5_plot_97 : decode cX5_plot 97 = .ok (.iload_n 1, 1) := by decide +kernel
theorem dX5_plot_98 : decode cX5_plot 98 = .ok (.invokevirtual 85, 3) := by decide +kernel
theorem dX5_plot_101 : decode cX5_plot 101 = .ok (.aload_n 0, 1) := by decide +kernel
theorem dX5_plot_102 : decode cX5_plot 102 = .ok (.invokevirtual 81, 3) := by decide +kernel
theorem dX5_plot_105 : decode cX5_plot 105 = .ok (.if_icmp .ne 7, 3) := by decide +kernel
theorem dX5_plot_108 : decode cX5_plot 108 = .ok (.iconst 1, 1) := by decide +kernel
theorem dX5_plot_109 : decode cX5_plot 109 = .ok (.goto 4, 3) := by decide +kernel
theorem dX5_plot_112 : decode cX5_plot 112 = .ok (.iconst 0, 1) := by decide +kernel
theorem dX5_plot_113 : decode cX5_plot 113 = .ok (.ireturn, 1) := by decide +kernel
theorem dX5_plot_114 : decode cX5_plot 114 = .ok (.aload_n 0, 1) := by decide +kernel
theorem dX5_plot_115 : decode cX5_plot 115 = .ok (.iload_n 1, 1) := by decide +kernel
theorem dX5_plot_116 : decode cX5_plot 116 = .ok (.invokevirtual 198, 3) := by decide +kernel
theorem dX5_plot_119 : decode cX5_plot 119 = .ok (.ireturn, 1) := by decide +kernel
theorem dX5_plot_120 : decode cX5_plot 120 = .ok (.aload_n 0, 1) := by decide +kernel
theorem dX5_plot_121 : decode cX5_plot 121 = .ok (.getfield 7, 3) := by decide +kernel
theorem dX5_plot_124 : decode cX5_plot 124 = .ok (.sipush 156, 3) := by decide +kernel
theorem dX5_plot_127 : decode cX5_plot 127 = .ok (.iload_n 1, 1) := by decide +kernel
theorem dX5_plot_128 : decode cX5_plot 128 = .ok (.iadd, 1) := by decide +kernel
theorem dX5_plot_129 : decode cX5_plot 129 = .ok (.iaload, 1) := by decide +kernel
theorem dX5_plot_130 : decode cX5_plot 130 = .ok (.ireturn, 1) := by decide +kernel
theorem dX5_plot_131 : decode cX5_plot 131 = .ok (.bipush (-2), 2) := by decide +kernel
theorem dX5_plot_133 : decode cX5_plot 133 = .ok (.ireturn, 1) := by decide +kernel
theorem dX5_crew_0 : decode cX5_crew 0 = .ok (.iload_n 1, 1) := by decide +kernel
theorem dX5_crew_1 : decode cX5_crew 1 = .ok (.invokestatic 123, 3) := by decide +kernel
theorem dX5_crew_4 : decode cX5_crew 4 = .ok (.ifCond .ne 5, 3) := by decide +kernel
theorem dX5_crew_7 : decode cX5_crew 7 = .ok (.iconst (-1), 1) := by decide +kernel
theorem dX5_crew_8 : decode cX5_crew 8 = .ok (.ireturn, 1) := by decide +kernel
theorem dX5_crew_9 : decode cX5_crew 9 = .ok (.iload_n 2, 1) := by decide +kernel
theorem dX5_crew_10 : decode cX5_crew 10 = .ok (.iconst 0, 1) := by decide +kernel
theorem dX5_crew_11 : decode cX5_crew 11 = .ok (.iconst 3, 1) := by decide +kernel
theorem dX5_crew_12 : decode cX5_crew 12 = .ok (.invokestatic 47, 3) := by decide +kernel
theorem dX5_crew_15 : decode cX5_crew 15 = .ok (.ifCond .eq 12, 3) := by decide +kernel
theorem dX5_crew_18 : decode cX5_crew 18 = .ok (.aload_n 0, 1) := by decide +kernel
theorem dX5_crew_19 : decode cX5_crew 19 = .ok (.iload_n 1, 1) := by decide +kernel
theorem dX5_crew_20 : decode cX5_crew 20 = .ok (.iload_n 2, 1) := by decide +kernel
theorem dX5_crew_21 : decode cX5_crew 21 = .ok (.invokevirtual 116, 3) := by decide +kernel
theorem dX5_crew_24 : decode cX5_crew 24 = .ok (.goto 5, 3) := by decide +kernel
theorem dX5_crew_27 : decode cX5_crew 27 = .ok (.bipush (-2), 2) := by decide +kernel
theorem dX5_crew_29 : decode cX5_crew 29 = .ok (.ireturn, 1) := by decide +kernel
theorem dX5_columns_0 : decode cX5_columns 0 = .ok (.iconst 0, 1) := by decide +kernel
theorem dX5_columns_1 : decode cX5_columns 1 = .ok (.istore_n 3, 1) := by decide +kernel
theorem dX5_columns_2 : decode cX5_columns 2 = .ok (.bipush (-5), 2) := by decide +kernel
theorem dX5_columns_4 : decode cX5_columns 4 = .ok (.istore 4, 2) := by decide +kernel
theorem dX5_columns_6 : decode cX5_columns 6 = .ok (.bipush (-5), 2) := by decide +kernel
theorem dX5_columns_8 : decode cX5_columns 8 = .ok (.istore 5, 2) := by decide +kernel
theorem dX5_columns_10 : decode cX5_columns 10 = .ok (.iconst 0, 1) := by decide +kernel
theorem dX5_columns_11 : decode cX5_columns 11 = .ok (.istore 6, 2) := by decide +kernel
theorem dX5_columns_13 : decode cX5_columns 13 = .ok (.iload 6, 2) := by decide +kernel
theorem dX5_columns_15 : decode cX5_columns 15 = .ok (.bipush 8, 2) := by decide +kernel
theorem dX5_columns_17 : decode cX5_columns 17 = .ok (.if_icmp .ge 94, 3) := by decide +kernel
theorem dX5_columns_20 : decode cX5_columns 20 = .ok (.aload_n 0, 1) := by decide +kernel
theorem dX5_columns_21 : decode cX5_columns 21 = .ok (.getfield 25, 3) := by decide +kernel
theorem dX5_columns_24 : decode cX5_columns 24 = .ok (.bipush 8, 2) := by decide +kernel
theorem dX5_columns_26 : decode cX5_columns 26 = .ok (.iload_n 1, 1) := by decide +kernel
theorem dX5_columns_27 : decode cX5_columns 27 = .ok (.imul, 1) := by decide +kernel
theorem dX5_columns_28 : decode cX5_columns 28 = .ok (.iload 6, 2) := by decide +kernel
theorem dX5_columns_30 : decode cX5_columns 30 = .ok (.iadd, 1) := by decide +kernel
theorem dX5_columns_31 : decode cX5_columns 31 = .ok (.iaload, 1) := by decide +kernel
theorem dX5_columns_32 : decode cX5_columns 32 = .ok (.ifCond .le 22, 3) := by decide +kernel
theorem dX5_columns_35 : decode cX5_columns 35 = .ok (.aload_n 0, 1) := by decide +kernel
theorem dX5_columns_36 : decode cX5_columns 36 = .ok (.getfield 28, 3) := by decide +kernel
theorem dX5_columns_39 : decode cX5_columns 39 = .ok (.bipush 8, 2) := by decide +kernel
theorem dX5_columns_41 : decode cX5_columns 41 = .ok (.iload_n 1, 1) := by decide +kernel
theorem dX5_columns_42 : decode cX5_columns 42 = .ok (.imul, 1) := by decide +kernel
theorem dX5_columns_43 : decode cX5_columns 43 = .ok (.iload 6, 2) := by decide +kernel
theorem dX5_columns_45 : decode cX5_columns 45 = .ok (.iadd, 1) := by decide +kernel
theorem dX5_columns_46 : decode cX5_columns 46 = .ok (.iaload, 1) := by decide +kernel
theorem dX5_columns_47 : decode cX5_columns 47 = .ok (.ifCond .le 7, 3) := by decide +kernel
theorem dX5_columns_50 : decode cX5_columns 50 = .ok (.iconst 1, 1) := by decide +kernel
theorem dX5_columns_51 : decode cX5_columns 51 = .ok (.goto 4, 3) := by decide +kernel
theorem dX5_columns_54 : decode cX5_columns 54 = .ok (.iconst 0, 1) := by decide +kernel
theorem dX5_columns_55 : decode cX5_columns 55 = .ok (.istore 7, 2) := by decide +kernel
theorem dX5_columns_57 : decode cX5_columns 57 = .ok (.iload_n 3, 1) := by decide +kernel
theorem dX5_columns_58 : decode cX5_columns 58 = .ok (.iload 7, 2) := by decide +kernel
theorem dX5_columns_60 : decode cX5_columns 60 = .ok (.ifCond .eq 7, 3) := by decide +kernel
theorem dX5_columns_63 : decode cX5_columns 63 = .ok (.iconst 1, 1) := by decide +kernel
theorem dX5_columns_64 : decode cX5_columns 64 = .ok (.goto 4, 3) := by decide +kernel
theorem dX5_columns_67 : decode cX5_columns 67 = .ok (.iconst 0, 1) := by decide +kernel
theorem dX5_columns_68 : decode cX5_columns 68 = .ok (.iadd, 1) := by decide +kernel
theorem dX5_columns_69 : decode cX5_columns 69 = .ok (.istore_n 3, 1) := by decide +kernel
theorem dX5_columns_70 : decode cX5_columns 70 = .ok (.iload 7, 2) := by decide +kernel
theorem dX5_columns_72 : decode cX5_columns 72 = .ok (.ifCond .eq 15, 3) := by decide +kernel
theorem dX5_columns_75 : decode cX5_columns 75 = .ok (.iload 4, 2) := by decide +kernel
theorem dX5_columns_77 : decode cX5_columns 77 = .ok (.bipush (-5), 2) := by decide +kernel
theorem dX5_columns_79 : decode cX5_columns 79 = .ok (.if_icmp .ne 8, 3) := by decide +kernel
theorem dX5_columns_82 : decode cX5_columns 82 = .ok (.iload 6, 2) := by decide +kernel
theorem dX5_columns_84 : decode cX5_columns 84 = .ok (.goto 5, 3) := by decide +kernel
theorem dX5_columns_87 : decode cX5_columns 87 = .ok (.iload 4, 2) := by decide +kernel
theorem dX5_columns_89 : decode cX5_columns 89 = .ok (.istore 4, 2) := by decide +kernel
theorem dX5_columns_91 : decode cX5_columns 91 = .ok (.iload 7, 2) := by decide +kernel
theorem dX5_columns_93 : decode cX5_columns 93 = .ok (.ifCond .eq 8, 3) := by decide +kernel
theorem dX5_columns_96 : decode cX5_columns 96 = .ok (.iload 6, 2) := by decide +kernel
theorem dX5_columns_98 : decode cX5_columns 98 = .ok (.goto 5, 3) := by decide +kernel
theorem dX5_columns_101 : decode cX5_columns 101 = .ok (.iload 5, 2) := by decide +kernel
theorem dX5_columns_103 : decode cX5_columns 103 = .ok (.istore 5, 2) := by decide +kernel
theorem dX5_columns_105 : decode cX5_columns 105 = .ok (.iinc 6 1, 3) := by decide +kernel
theorem dX5_columns_108 : decode cX5_columns 108 = .ok (.goto (-95), 3) := by decide +kernel
theorem dX5_columns_111 : decode cX5_columns 111 = .ok (.iload_n 2, 1) := by decide +kernel
theorem dX5_columns_112 : decode cX5_columns 112 = .ok (.ifCond .ne 7, 3) := by decide +kernel
theorem dX5_columns_115 : decode cX5_columns 115 = .ok (.iload_n 3, 1) := by decide +kernel
theorem dX5_columns_116 : decode cX5_columns 116 = .ok (.goto 15, 3) := by decide +kernel
theorem dX5_columns_119 : decode cX5_columns 119 = .ok (.iload_n 2, 1) := by decide +kernel
theorem dX5_columns_120 : decode cX5_columns 120 = .ok (.iconst 1, 1) := by decide +kernel
theorem dX5_columns_121 : decode cX5_columns 121 = .ok (.if_icmp .ne 8, 3) := by decide +kernel
theorem dX5_columns_124 : decode cX5_columns 124 = .ok (.iload 4, 2) := by decide +kernel
theorem dX5_columns_126 : decode cX5_columns 126 = .ok (.goto 5, 3) := by decide +kernel
theorem dX5_columns_129 : decode cX5_columns 129 = .ok (.iload 5, 2) := by decide +kernel
theorem dX5_columns_131 : decode cX5_columns 131 = .ok (.ireturn, 1) := by decide +kernel
theorem dX5_row_0 : decode cX5_row 0 = .ok (.iload_n 1, 1) := by decide +kernel
theorem dX5_row_1 : decode cX5_row 1 = .ok (.invokestatic 142, 3) := by decide +kernel
theorem dX5_row_4 : decode cX5_row 4 = .ok (.ifCond .ne 5, 3) := by decide +kernel
theorem dX5_row_7 : decode cX5_row 7 = .ok (.iconst (-1), 1) := by decide +kernel
theorem dX5_row_8 : decode cX5_row 8 = .ok (.ireturn, 1) := by decide +kernel
theorem dX5_row_9 : decode cX5_row 9 = .ok (.iload_n 2, 1) := by decide +kernel
theorem dX5_row_10 : decode cX5_row 10 = .ok (.iconst 0, 1) := by decide +kernel
theorem dX5_row_11 : decode cX5_row 11 = .ok (.iconst 2, 1) := by decide +kernel
theorem dX5_row_12 : decode cX5_row 12 = .ok (.invokestatic 47, 3) := by decide +kernel
theorem dX5_row_15 : decode cX5_row 15 = .ok (.ifCond .ne 6, 3) := by decide +kernel
theorem dX5_row_18 : decode cX5_row 18 = .ok (.bipush (-2), 2) := by decide +kernel
theorem dX5_row_20 : decode cX5_row 20 = .ok (.ireturn, 1) := by decide +kernel
theorem dX5_row_21 : decode cX5_row 21 = .ok (.aload_n 0, 1) := by decide +kernel
theorem dX5_row_22 : decode cX5_row 22 = .ok (.invokevirtual 78, 3) := by decide +kernel
theorem dX5_row_25 : decode cX5_row 25 = .ok (.iload_n 2, 1) := by decide +kernel
theorem dX5_row_26 : decode cX5_row 26 = .ok (.ifCond .ne 15, 3) := by decide +kernel
theorem dX5_row_29 : decode cX5_row 29 = .ok (.aload_n 0, 1) := by decide +kernel
theorem dX5_row_30 : decode cX5_row 30 = .ok (.getfield 7, 3) := by decide +kernel
theorem dX5_row_33 : decode cX5_row 33 = .ok (.bipush 7, 2) := by decide +kernel
theorem dX5_row_35 : decode cX5_row 35 = .ok (.iload_n 1, 1) := by decide +kernel
theorem dX5_row_36 : decode cX5_row 36 = .ok (.iadd, 1) := by decide +kernel
theorem dX5_row_37 : decode cX5_row 37 = .ok (.iaload, 1) := by decide +kernel
theorem dX5_row_38 : decode cX5_row 38 = .ok (.goto 9, 3) := by decide +kernel
theorem dX5_row_41 : decode cX5_row 41 = .ok (.aload_n 0, 1) := by decide +kernel
theorem dX5_row_42 : decode cX5_row 42 = .ok (.iload_n 1, 1) := by decide +kernel
theorem dX5_row_43 : decode cX5_row 43 = .ok (.iload_n 2, 1) := by decide +kernel
theorem dX5_row_44 : decode cX5_row 44 = .ok (.invokevirtual 201, 3) := by decide +kernel
theorem dX5_row_47 : decode cX5_row 47 = .ok (.ireturn, 1) := by decide +kernel
theorem dX5_way_0 : decode cX5_way 0 = .ok (.iload_n 1, 1) := by decide +kernel
theorem dX5_way_1 : decode cX5_way 1 = .ok (.invokestatic 123, 3) := by decide +kernel
theorem dX5_way_4 : decode cX5_way 4 = .ok (.ifCond .eq 19, 3) := by decide +kernel
theorem dX5_way_7 : decode cX5_way 7 = .ok (.iload_n 2, 1) := by decide +kernel
theorem dX5_way_8 : decode cX5_way 8 = .ok (.invokestatic 100, 3) := by decide +kernel
theorem dX5_way_11 : decode cX5_way 11 = .ok (.ifCond .eq 12, 3) := by decide +kernel
theorem dX5_way_14 : decode cX5_way 14 = .ok (.aload_n 0, 1) := by decide +kernel
theorem dX5_way_15 : decode cX5_way 15 = .ok (.iload_n 1, 1) := by decide +kernel
theorem dX5_way_16 : decode cX5_way 16 = .ok (.iload_n 2, 1) := by decide +kernel
theorem dX5_way_17 : decode cX5_way 17 = .ok (.invokevirtual 126, 3) := by decide +kernel
theorem dX5_way_20 : decode cX5_way 20 = .ok (.goto 4, 3) := by decide +kernel
theorem dX5_way_23 : decode cX5_way 23 = .ok (.iconst (-1), 1) := by decide +kernel
theorem dX5_way_24 : decode cX5_way 24 = .ok (.ireturn, 1) := by decide +kernel
theorem dX5_why_0 : decode cX5_why 0 = .ok (.aload_n 0, 1) := by decide +kernel
theorem dX5_why_1 : decode cX5_why 1 = .ok (.iload_n 1, 1) := by decide +kernel
theorem dX5_why_2 : decode cX5_why 2 = .ok (.iconst 1, 1) := by decide +kernel
theorem dX5_why_3 : decode cX5_why 3 = .ok (.invokevirtual 116, 3) := by decide +kernel
theorem dX5_why_6 : decode cX5_why 6 = .ok (.aload_n 0, 1) := by decide +kernel
theorem dX5_why_7 : decode cX5_why 7 = .ok (.getfield 31, 3) := by decide +kernel
theorem dX5_why_10 : decode cX5_why 10 = .ok (.iload_n 2, 1) := by decide +kernel
theorem dX5_why_11 : decode cX5_why 11 = .ok (.iaload, 1) := by decide +kernel
theorem dX5_why_12 : decode cX5_why 12 = .ok (.isub, 1) := by decide +kernel
theorem dX5_why_13 : decode cX5_why 13 = .ok (.istore_n 3, 1) := by decide +kernel
theorem dX5_why_14 : decode cX5_why 14 = .ok (.aload_n 0, 1) := by decide +kernel
theorem dX5_why_15 : decode cX5_why 15 = .ok (.getfield 7, 3) := by decide +kernel
theorem dX5_why_18 : decode cX5_why 18 = .ok (.bipush 28, 2) := by decide +kernel
theorem dX5_why_20 : decode cX5_why 20 = .ok (.iload_n 2, 1) := by decide +kernel
theorem dX5_why_21 : decode cX5_why 21 = .ok (.iadd, 1) := by decide +kernel
theorem dX5_why_22 : decode cX5_why 22 = .ok (.iaload, 1) := by decide +kernel
theorem dX5_why_23 : decode cX5_why 23 = .ok (.ifCond .ne 7, 3) := by decide +kernel
theorem dX5_why_26 : decode cX5_why 26 = .ok (.iconst 1, 1) := by decide +kernel
theorem dX5_why_27 : decode cX5_why 27 = .ok (.goto 26, 3) := by decide +kernel
theorem dX5_why_30 : decode cX5_why 30 = .ok (.iload_n 3, 1) := by decide +kernel
theorem dX5_why_31 : decode cX5_why 31 = .ok (.ifCond .ge 7, 3) := by decide +kernel
theorem dX5_why_34 : decode cX5_why 34 = .ok (.iconst 2, 1) := by decide +kernel
theorem dX5_why_35 : decode cX5_why 35 = .ok (.goto 18, 3) := by decide +kernel
theorem dX5_why_38 : decode cX5_why 38 = .ok (.iload_n 3, 1) := by decide +kernel
theorem dX5_why_39 : decode cX5_why 39 = .ok (.aload_n 0, 1) := by decide +kernel
theorem dX5_why_40 : decode cX5_why 40 = .ok (.getfield 7, 3) := by decide +kernel
theorem dX5_why_43 : decode cX5_why 43 = .ok (.iconst 2, 1) := by decide +kernel
theorem dX5_why_44 : decode cX5_why 44 = .ok (.iaload, 1) := by decide +kernel
theorem dX5_why_45 : decode cX5_why 45 = .ok (.if_icmp .ge 7, 3) := by decide +kernel
theorem dX5_why_48 : decode cX5_why 48 = .ok (.iconst 3, 1) := by decide +kernel
theorem dX5_why_49 : decode cX5_why 49 = .ok (.goto 4, 3) := by decide +kernel
theorem dX5_why_52 : decode cX5_why 52 = .ok (.iconst 0, 1) := by decide +kernel
theorem dX5_why_53 : decode cX5_why 53 = .ok (.ireturn, 1) := by decide +kernel
theorem dX5_reason_0 : decode cX5_reason 0 = .ok (.iload_n 1, 1) := by decide +kernel
theorem dX5_reason_1 : decode cX5_reason 1 = .ok (.invokestatic 123, 3) := by decide +kernel
theorem dX5_reason_4 : decode cX5_reason 4 = .ok (.ifCond .eq 10, 3) := by decide +kernel
theorem dX5_reason_7 : decode cX5_reason 7 = .ok (.iload_n 2, 1) := by decide +kernel
theorem dX5_reason_8 : decode cX5_reason 8 = .ok (.invokestatic 100, 3) := by decide +kernel
theorem dX5_reason_11 : decode cX5_reason 11 = .ok (.ifCond .ne 5, 3) := by decide +kernel
theorem dX5_reason_14 : decode cX5_reason 14 = .ok (.iconst (-1), 1) := by decide +kernel
theorem dX5_reason_15 : decode cX5_reason 15 = .ok (.ireturn, 1) := by decide +kernel
theorem dX5_reason_16 : decode cX5_reason 16 = .ok (.aload_n 0, 1) := by decide +kernel
theorem dX5_reason_17 : decode cX5_reason 17 = .ok (.aload_n 0, 1) := by decide +kernel
theorem dX5_reason_18 : decode cX5_reason 18 = .ok (.iload_n 1, 1) := by decide +kernel
theorem dX5_reason_19 : decode cX5_reason 19 = .ok (.iconst 0, 1) := by decide +kernel
theorem dX5_reason_20 : decode cX5_reason 20 = .ok (.invokevirtual 116, 3) := by decide +kernel
theorem dX5_reason_23 : decode cX5_reason 23 = .ok (.invokevirtual 119, 3) := by decide +kernel
theorem dX5_reason_26 : decode cX5_reason 26 = .ok (.aload_n 0, 1) := by decide +kernel
theorem dX5_reason_27 : decode cX5_reason 27 = .ok (.iload_n 1, 1) := by decide +kernel
theorem dX5_reason_28 : decode cX5_reason 28 = .ok (.iload_n 2, 1) := by decide +kernel
theorem dX5_reason_29 : decode cX5_reason 29 = .ok (.invokevirtual 204, 3) := by decide +kernel
theorem dX5_reason_32 : decode cX5_reason 32 = .ok (.ireturn, 1) := by decide +kernel
theorem dX5_isBetter_0 : decode cX5_isBetter 0 = .ok (.aload_n 0, 1) := by decide +kernel
theorem dX5_isBetter_1 : decode cX5_isBetter 1 = .ok (.iload_n 1, 1) := by decide +kernel
theorem dX5_isBetter_2 : decode cX5_isBetter 2 = .ok (.invokevirtual 198, 3) := by decide +kernel
theorem dX5_isBetter_5 : decode cX5_isBetter 5 = .ok (.aload_n 0, 1) := by decide +kernel
theorem dX5_isBetter_6 : decode cX5_isBetter 6 = .ok (.iload_n 2, 1) := by decide +kernel
theorem dX5_isBetter_7 : decode cX5_isBetter 7 = .ok (.invokevirtual 198, 3) := by decide +kernel
theorem dX5_isBetter_10 : decode cX5_isBetter 10 = .ok (.isub, 1) := by decide +kernel
theorem dX5_isBetter_11 : decode cX5_isBetter 11 = .ok (.istore_n 3, 1) := by decide +kernel
theorem dX5_isBetter_12 : decode cX5_isBetter 12 = .ok (.iload_n 3, 1) := by decide +kernel
theorem dX5_isBetter_13 : decode cX5_isBetter 13 = .ok (.ifCond .ne 25, 3) := by decide +kernel
theorem dX5_isBetter_16 : decode cX5_isBetter 16 = .ok (.aload_n 0, 1) := by decide +kernel
theorem dX5_isBetter_17 : decode cX5_isBetter 17 = .ok (.getfield 7, 3) := by decide +kernel
theorem dX5_isBetter_20 : decode cX5_isBetter 20 = .ok (.bipush 28, 2) := by decide +kernel
theorem dX5_isBetter_22 : decode cX5_isBetter 22 = .ok (.iload_n 1, 1) := by decide +kernel
theorem dX5_isBetter_23 : decode cX5_isBetter 23 = .ok (.iadd, 1) := by decide +kernel
theorem dX5_isBetter_24 : decode cX5_isBetter 24 = .ok (.iaload, 1) := by decide +kernel
theorem dX5_isBetter_25 : decode cX5_isBetter 25 = .ok (.aload_n 0, 1) := by decide +kernel
theorem dX5_isBetter_26 : decode cX5_isBetter 26 = .ok (.getfield 7, 3) := by decide +kernel
theorem dX5_isBetter_29 : decode cX5_isBetter 29 = .ok (.bipush 28, 2) := by decide +kernel
theorem dX5_isBetter_31 : decode cX5_isBetter 31 = .ok (.iload_n 2, 1) := by decide +kernel
theorem dX5_isBetter_32 : decode cX5_isBetter 32 = .ok (.iadd, 1) := by decide +kernel
theorem dX5_isBetter_33 : decode cX5_isBetter 33 = .ok (.iaload, 1) := by decide +kernel
theorem dX5_isBetter_34 : decode cX5_isBetter 34 = .ok (.isub, 1) := by decide +kernel
theorem dX5_isBetter_35 : decode cX5_isBetter 35 = .ok (.goto 4, 3) := by decide +kernel
theorem dX5_isBetter_38 : decode cX5_isBetter 38 = .ok (.iload_n 3, 1) := by decide +kernel
theorem dX5_isBetter_39 : decode cX5_isBetter 39 = .ok (.istore_n 3, 1) := by decide +kernel
theorem dX5_isBetter_40 : decode cX5_isBetter 40 = .ok (.iload_n 3, 1) := by decide +kernel
theorem dX5_isBetter_41 : decode cX5_isBetter 41 = .ok (.ifCond .ne 19, 3) := by decide +kernel
theorem dX5_isBetter_44 : decode cX5_isBetter 44 = .ok (.aload_n 0, 1) := by decide +kernel
theorem dX5_isBetter_45 : decode cX5_isBetter 45 = .ok (.getfield 31, 3) := by decide +kernel
theorem dX5_isBetter_48 : decode cX5_isBetter 48 = .ok (.iload_n 2, 1) := by decide +kernel
theorem dX5_isBetter_49 : decode cX5_isBetter 49 = .ok (.iaload, 1) := by decide +kernel
theorem dX5_isBetter_50 : decode cX5_isBetter 50 = .ok (.aload_n 0, 1) := by decide +kernel
theorem dX5_isBetter_51 : decode cX5_isBetter 51 = .ok (.getfield 31, 3) := by decide +kernel
theorem dX5_isBetter_54 : decode cX5_isBetter 54 = .ok (.iload_n 1, 1) := by decide +kernel
theorem dX5_isBetter_55 : decode cX5_isBetter 55 = .ok (.iaload, 1) := by decide +kernel
theorem dX5_isBetter_56 : decode cX5_isBetter 56 = .ok (.isub, 1) := by decide +kernel
theorem dX5_isBetter_57 : decode cX5_isBetter 57 = .ok (.goto 4, 3) := by decide +kernel
theorem dX5_isBetter_60 : decode cX5_isBetter 60 = .ok (.iload_n 3, 1) := by decide +kernel
theorem dX5_isBetter_61 : decode cX5_isBetter 61 = .ok (.istore_n 3, 1) := by decide +kernel
theorem dX5_isBetter_62 : decode cX5_isBetter 62 = .ok (.iload_n 3, 1) := by decide +kernel
theorem dX5_isBetter_63 : decode cX5_isBetter 63 = .ok (.ifCond .le 7, 3) := by decide +kernel
theorem dX5_isBetter_66 : decode cX5_isBetter 66 = .ok (.iconst 1, 1) := by decide +kernel
theorem dX5_isBetter_67 : decode cX5_isBetter 67 = .ok (.goto 4, 3) := by decide +kernel
theorem dX5_isBetter_70 : decode cX5_isBetter 70 = .ok (.iconst 0, 1) := by decide +kernel
theorem dX5_isBetter_71 : decode cX5_isBetter 71 = .ok (.ireturn, 1) := by decide +kernel
theorem dX5_best_0 : decode cX5_best 0 = .ok (.iload_n 1, 1) := by decide +kernel
theorem dX5_best_1 : decode cX5_best 1 = .ok (.invokestatic 123, 3) := by decide +kernel
theorem dX5_best_4 : decode cX5_best 4 = .ok (.ifCond .ne 5, 3) := by decide +kernel
theorem dX5_best_7 : decode cX5_best 7 = .ok (.iconst (-1), 1) := by decide +kernel
theorem dX5_best_8 : decode cX5_best 8 = .ok (.ireturn, 1) := by decide +kernel
theorem dX5_best_9 : decode cX5_best 9 = .ok (.aload_n 0, 1) := by decide +kernel
theorem dX5_best_10 : decode cX5_best 10 = .ok (.aload_n 0, 1) := by decide +kernel
theorem dX5_best_11 : decode cX5_best 11 = .ok (.iload_n 1, 1) := by decide +kernel
theorem dX5_best_12 : decode cX5_best 12 = .ok (.iconst 0, 1) := by decide +kernel
theorem dX5_best_13 : decode cX5_best 13 = .ok (.invokevirtual 116, 3) := by decide +kernel
theorem dX5_best_16 : decode cX5_best 16 = .ok (.invokevirtual 119, 3) := by decide +kernel
theorem dX5_best_19 : decode cX5_best 19 = .ok (.aload_n 0, 1) := by decide +kernel
theorem dX5_best_20 : decode cX5_best 20 = .ok (.invokevirtual 78, 3) := by decide +kernel
theorem dX5_best_23 : decode cX5_best 23 = .ok (.bipush (-5), 2) := by decide +kernel
theorem dX5_best_25 : decode cX5_best 25 = .ok (.istore_n 2, 1) := by decide +kernel
theorem dX5_best_26 : decode cX5_best 26 = .ok (.iconst 0, 1) := by decide +kernel
theorem dX5_best_27 : decode cX5_best 27 = .ok (.istore_n 3, 1) := by decide +kernel
theorem dX5_best_28 : decode cX5_best 28 = .ok (.iload_n 3, 1) := by decide +kernel
theorem dX5_best_29 : decode cX5_best 29 = .ok (.bipush 64, 2) := by decide +kernel
theorem dX5_best_31 : decode cX5_best 31 = .ok (.if_icmp .ge 51, 3) := by decide +kernel
theorem dX5_best_34 : decode cX5_best 34 = .ok (.aload_n 0, 1) := by decide +kernel
theorem dX5_best_35 : decode cX5_best 35 = .ok (.iload_n 1, 1) := by decide +kernel
theorem dX5_best_36 : decode cX5_best 36 = .ok (.iload_n 3, 1) := by decide +kernel
theorem dX5_best_37 : decode cX5_best 37 = .ok (.invokevirtual 204, 3) := by decide +kernel
theorem dX5_best_40 : decode cX5_best 40 = .ok (.ifCond .ne 7, 3) := by decide +kernel
theorem dX5_best_43 : decode cX5_best 43 = .ok (.iconst 1, 1) := by decide +kernel
theorem dX5_best_44 : decode cX5_best 44 = .ok (.goto 4, 3) := by decide +kernel
theorem dX5_best_47 : decode cX5_best 47 = .ok (.iconst 0, 1) := by decide +kernel
theorem dX5_best_48 : decode cX5_best 48 = .ok (.istore 4, 2) := by decide +kernel
theorem dX5_best_50 : decode cX5_best 50 = .ok (.iload 4, 2) := by decide +kernel
theorem dX5_best_52 : decode cX5_best 52 = .ok (.ifCond .eq 22, 3) := by decide +kernel
theorem dX5_best_55 : decode cX5_best 55 = .ok (.iload_n 2, 1) := by decide +kernel
theorem dX5_best_56 : decode cX5_best 56 = .ok (.bipush (-5), 2) := by decide +kernel
theorem dX5_best_58 : decode cX5_best 58 = .ok (.if_icmp .eq 12, 3) := by decide +kernel
theorem dX5_best_61 : decode cX5_best 61 = .ok (.aload_n 0, 1) := by decide +kernel
theorem dX5_best_62 : decode cX5_best 62 = .ok (.iload_n 3, 1) := by decide +kernel
theorem dX5_best_63 : decode cX5_best 63 = .ok (.iload_n 2, 1) := by decide +kernel
theorem dX5_best_64 : decode cX5_best 64 = .ok (.invokevirtual 207, 3) := by decide +kernel
theorem dX5_best_67 : decode cX5_best 67 = .ok (.ifCond .eq 7, 3) := by decide +kernel
theorem dX5_best_70 : decode cX5_best 70 = .ok (.iload_n 3, 1) := by decide +kernel
theorem dX5_best_71 : decode cX5_best 71 = .ok (.goto 4, 3) := by decide +kernel
theorem dX5_best_74 : decode cX5_best 74 = .ok (.iload_n 2, 1) := by decide +kernel
theorem dX5_best_75 : decode cX5_best 75 = .ok (.istore_n 2, 1) := by decide +kernel
theorem dX5_best_76 : decode cX5_best 76 = .ok (.iinc 3 1, 3) := by decide +kernel
theorem dX5_best_79 : decode cX5_best 79 = .ok (.goto (-51), 3) := by decide +kernel
theorem dX5_best_82 : decode cX5_best 82 = .ok (.iload_n 2, 1) := by decide +kernel
theorem dX5_best_83 : decode cX5_best 83 = .ok (.ireturn, 1) := by decide +kernel
theorem dX5_openRow_0 : decode cX5_openRow 0 = .ok (.aload_n 0, 1) := by decide +kernel
theorem dX5_openRow_1 : decode cX5_openRow 1 = .ok (.invokevirtual 151, 3) := by decide +kernel
theorem dX5_openRow_4 : decode cX5_openRow 4 = .ok (.iconst 1, 1) := by decide +kernel
theorem dX5_openRow_5 : decode cX5_openRow 5 = .ok (.if_icmp .ne 6, 3) := by decide +kernel
theorem dX5_openRow_8 : decode cX5_openRow 8 = .ok (.bipush (-5), 2) := by decide +kernel
theorem dX5_openRow_10 : decode cX5_openRow 10 = .ok (.ireturn, 1) := by decide +kernel
theorem dX5_openRow_11 : decode cX5_openRow 11 = .ok (.iconst 0, 1) := by decide +kernel
theorem dX5_openRow_12 : decode cX5_openRow 12 = .ok (.istore_n 1, 1) := by decide +kernel
theorem dX5_openRow_13 : decode cX5_openRow 13 = .ok (.iconst 1, 1) := by decide +kernel
theorem dX5_openRow_14 : decode cX5_openRow 14 = .ok (.istore_n 2, 1) := by decide +kernel
theorem dX5_openRow_15 : decode cX5_openRow 15 = .ok (.iload_n 2, 1) := by decide +kernel
theorem dX5_openRow_16 : decode cX5_openRow 16 = .ok (.bipush 8, 2) := by decide +kernel
theorem dX5_openRow_18 : decode cX5_openRow 18 = .ok (.if_icmp .ge 30, 3) := by decide +kernel
theorem dX5_openRow_21 : decode cX5_openRow 21 = .ok (.aload_n 0, 1) := by decide +kernel
theorem dX5_openRow_22 : decode cX5_openRow 22 = .ok (.iload_n 2, 1) := by decide +kernel
theorem dX5_openRow_23 : decode cX5_openRow 23 = .ok (.iconst 0, 1) := by decide +kernel
theorem dX5_openRow_24 : decode cX5_openRow 24 = .ok (.invokevirtual 201, 3) := by decide +kernel
theorem dX5_openRow_27 : decode cX5_openRow 27 = .ok (.aload_n 0, 1) := by decide +kernel
theorem dX5_openRow_28 : decode cX5_openRow 28 = .ok (.iload_n 1, 1) := by decide +kernel
theorem dX5_openRow_29 : decode cX5_openRow 29 = .ok (.iconst 0, 1) := by decide +kernel
theorem dX5_openRow_30 : decode cX5_openRow 30 = .ok (.invokevirtual 201, 3) := by decide +kernel
theorem dX5_openRow_33 : decode cX5_openRow 33 = .ok (.if_icmp .le 7, 3) := by decide +kernel
theorem dX5_openRow_36 : decode cX5_openRow 36 = .ok (.iload_n 2, 1) := by decide +kernel
theorem dX5_openRow_37 : decode cX5_openRow 37 = .ok (.goto 4, 3) := by decide +kernel
theorem dX5_openRow_40 : decode cX5_openRow 40 = .ok (.iload_n 1, 1) := by decide +kernel
theorem dX5_openRow_41 : decode cX5_openRow 41 = .ok (.istore_n 1, 1) := by decide +kernel
theorem dX5_openRow_42 : decode cX5_openRow 42 = .ok (.iinc 2 1, 3) := by decide +kernel
theorem dX5_openRow_45 : decode cX5_openRow 45 = .ok (.goto (-30), 3) := by decide +kernel
theorem dX5_openRow_48 : decode cX5_openRow 48 = .ok (.iload_n 1, 1) := by decide +kernel
theorem dX5_openRow_49 : decode cX5_openRow 49 = .ok (.ireturn, 1) := by decide +kernel
theorem dX5_ifTold_0 : decode cX5_ifTold 0 = .ok (.iload_n 1, 1) := by decide +kernel
theorem dX5_ifTold_1 : decode cX5_ifTold 1 = .ok (.invokestatic 142, 3) := by decide +kernel
theorem dX5_ifTold_4 : decode cX5_ifTold 4 = .ok (.ifCond .ne 7, 3) := by decide +kernel
theorem dX5_ifTold_7 : decode cX5_ifTold 7 = .ok (.iconst (-1), 1) := by decide +kernel
theorem dX5_ifTold_8 : decode cX5_ifTold 8 = .ok (.goto 21, 3) := by decide +kernel
theorem dX5_ifTold_11 : decode cX5_ifTold 11 = .ok (.iload_n 2, 1) := by decide +kernel
theorem dX5_ifTold_12 : decode cX5_ifTold 12 = .ok (.invokestatic 142, 3) := by decide +kernel
theorem dX5_ifTold_15 : decode cX5_ifTold 15 = .ok (.ifCond .eq 12, 3) := by decide +kernel
theorem dX5_ifTold_18 : decode cX5_ifTold 18 = .ok (.aload_n 0, 1) := by decide +kernel
theorem dX5_ifTold_19 : decode cX5_ifTold 19 = .ok (.iload_n 1, 1) := by decide +kernel
theorem dX5_ifTold_20 : decode cX5_ifTold 20 = .ok (.iload_n 2, 1) := by decide +kernel
theorem dX5_ifTold_21 : decode cX5_ifTold 21 = .ok (.invokevirtual 145, 3) := by decide +kernel
theorem dX5_ifTold_24 : decode cX5_ifTold 24 = .ok (.goto 5, 3) := by decide +kernel
theorem dX5_ifTold_27 : decode cX5_ifTold 27 = .ok (.bipush (-2), 2) := by decide +kernel
theorem dX5_ifTold_29 : decode cX5_ifTold 29 = .ok (.ireturn, 1) := by decide +kernel
theorem dX5_sum_0 : decode cX5_sum 0 = .ok (.iconst 0, 1) := by decide +kernel
theorem dX5_sum_1 : decode cX5_sum 1 = .ok (.istore_n 3, 1) := by decide +kernel
theorem dX5_sum_2 : decode cX5_sum 2 = .ok (.iconst 0, 1) := by decide +kernel
theorem dX5_sum_3 : decode cX5_sum 3 = .ok (.istore 4, 2) := by decide +kernel
theorem dX5_sum_5 : decode cX5_sum 5 = .ok (.iload 4, 2) := by decide +kernel
theorem dX5_sum_7 : decode cX5_sum 7 = .ok (.iload_n 2, 1) := by decide +kernel
theorem dX5_sum_8 : decode cX5_sum 8 = .ok (.if_icmp .ge 21, 3) := by decide +kernel
theorem dX5_sum_11 : decode cX5_sum 11 = .ok (.iload_n 3, 1) := by decide +kernel
theorem dX5_sum_12 : decode cX5_sum 12 = .ok (.aload_n 0, 1) := by decide +kernel
theorem dX5_sum_13 : decode cX5_sum 13 = .ok (.getfield 7, 3) := by decide +kernel
theorem dX5_sum_16 : decode cX5_sum 16 = .ok (.iload_n 1, 1) := by decide +kernel
theorem dX5_sum_17 : decode cX5_sum 17 = .ok (.iload 4, 2) := by decide +kernel
theorem dX5_sum_19 : decode cX5_sum 19 = .ok (.iadd, 1) := by decide +kernel
theorem dX5_sum_20 : decode cX5_sum 20 = .ok (.iaload, 1) := by decide +kernel
theorem dX5_sum_21 : decode cX5_sum 21 = .ok (.iadd, 1) := by decide +kernel
theorem dX5_sum_22 : decode cX5_sum 22 = .ok (.istore_n 3, 1) := by decide +kernel
theorem dX5_sum_23 : decode cX5_sum 23 = .ok (.iinc 4 1, 3) := by decide +kernel
theorem dX5_sum_26 : decode cX5_sum 26 = .ok (.goto (-21), 3) := by decide +kernel
theorem dX5_sum_29 : decode cX5_sum 29 = .ok (.iload_n 3, 1) := by decide +kernel
theorem dX5_sum_30 : decode cX5_sum 30 = .ok (.ireturn, 1) := by decide +kernel
theorem dX5_plotsHit_0 : decode cX5_plotsHit 0 = .ok (.iconst 0, 1) := by decide +kernel
theorem dX5_plotsHit_1 : decode cX5_plotsHit 1 = .ok (.istore_n 2, 1) := by decide +kernel
theorem dX5_plotsHit_2 : decode cX5_plotsHit 2 = .ok (.iconst 0, 1) := by decide +kernel
theorem dX5_plotsHit_3 : decode cX5_plotsHit 3 = .ok (.istore_n 3, 1) := by decide +kernel
theorem dX5_plotsHit_4 : decode cX5_plotsHit 4 = .ok (.iload_n 3, 1) := by decide +kernel
theorem dX5_plotsHit_5 : decode cX5_plotsHit 5 = .ok (.bipush 64, 2) := by decide +kernel
theorem dX5_plotsHit_7 : decode cX5_plotsHit 7 = .ok (.if_icmp .ge 49, 3) := by decide +kernel
theorem dX5_plotsHit_10 : decode cX5_plotsHit 10 = .ok (.iload_n 2, 1) := by decide +kernel
theorem dX5_plotsHit_11 : decode cX5_plotsHit 11 = .ok (.iload_n 1, 1) := by decide +kernel
theorem dX5_plotsHit_12 : decode cX5_plotsHit 12 = .ok (.ifCond .eq 23, 3) := by decide +kernel
theorem dX5_plotsHit_15 : decode cX5_plotsHit 15 = .ok (.aload_n 0, 1) := by decide +kernel
theorem dX5_plotsHit_16 : decode cX5_plotsHit 16 = .ok (.iload_n 3, 1) := by decide +kernel
theorem dX5_plotsHit_17 : decode cX5_plotsHit 17 = .ok (.invokevirtual 85, 3) := by decide +kernel
theorem dX5_plotsHit_20 : decode cX5_plotsHit 20 = .ok (.aload_n 0, 1) := by decide +kernel
theorem dX5_plotsHit_21 : decode cX5_plotsHit 21 = .ok (.invokevirtual 81, 3) := by decide +kernel
theorem dX5_plotsHit_24 : decode cX5_plotsHit 24 = .ok (.if_icmp .ne 7, 3) := by decide +kernel
theorem dX5_plotsHit_27 : decode cX5_plotsHit 27 = .ok (.iconst 1, 1) := by decide +kernel
theorem dX5_plotsHit_28 : decode cX5_plotsHit 28 = .ok (.goto 20, 3) := by decide +kernel
theorem dX5_plotsHit_31 : decode cX5_plotsHit 31 = .ok (.iconst 0, 1) := by decide +kernel
theorem dX5_plotsHit_32 : decode cX5_plotsHit 32 = .ok (.goto 16, 3) := by decide +kernel
theorem dX5_plotsHit_35 : decode cX5_plotsHit 35 = .ok (.aload_n 0, 1) := by decide +kernel
theorem dX5_plotsHit_36 : decode cX5_plotsHit 36 = .ok (.iload_n 3, 1) := by decide +kernel
theorem dX5_plotsHit_37 : decode cX5_plotsHit 37 = .ok (.invokevirtual 85, 3) := by decide +kernel
theorem dX5_plotsHit_40 : decode cX5_plotsHit 40 = .ok (.ifCond .le 7, 3) := by decide +kernel
theorem dX5_plotsHit_43 : decode cX5_plotsHit 43 = .ok (.iconst 1, 1) := by decide +kernel
theorem dX5_plotsHit_44 : decode cX5_plotsHit 44 = .ok (.goto 4, 3) := by decide +kernel
theorem dX5_plotsHit_47 : decode cX5_plotsHit 47 = .ok (.iconst 0, 1) := by decide +kernel
theorem dX5_plotsHit_48 : decode cX5_plotsHit 48 = .ok (.iadd, 1) := by decide +kernel
theorem dX5_plotsHit_49 : decode cX5_plotsHit 49 = .ok (.istore_n 2, 1) := by decide +kernel
theorem dX5_plotsHit_50 : decode cX5_plotsHit 50 = .ok (.iinc 3 1, 3) := by decide +kernel
theorem dX5_plotsHit_53 : decode cX5_plotsHit 53 = .ok (.goto (-49), 3) := by decide +kernel
theorem dX5_plotsHit_56 : decode cX5_plotsHit 56 = .ok (.iload_n 2, 1) := by decide +kernel
theorem dX5_plotsHit_57 : decode cX5_plotsHit 57 = .ok (.ireturn, 1) := by decide +kernel
theorem dX5_allToLose_0 : decode cX5_allToLose 0 = .ok (.iconst 0, 1) := by decide +kernel
theorem dX5_allToLose_1 : decode cX5_allToLose 1 = .ok (.istore_n 1, 1) := by decide +kernel
theorem dX5_allToLose_2 : decode cX5_allToLose 2 = .ok (.iconst 0, 1) := by decide +kernel
theorem dX5_allToLose_3 : decode cX5_allToLose 3 = .ok (.istore_n 2, 1) := by decide +kernel
theorem dX5_allToLose_4 : decode cX5_allToLose 4 = .ok (.iload_n 2, 1) := by decide +kernel
theorem dX5_allToLose_5 : decode cX5_allToLose 5 = .ok (.bipush 64, 2) := by decide +kernel
theorem dX5_allToLose_7 : decode cX5_allToLose 7 = .ok (.if_icmp .ge 17, 3) := by decide +kernel
theorem dX5_allToLose_10 : decode cX5_allToLose 10 = .ok (.iload_n 1, 1) := by decide +kernel
theorem dX5_allToLose_11 : decode cX5_allToLose 11 = .ok (.aload_n 0, 1) := by decide +kernel
theorem dX5_allToLose_12 : decode cX5_allToLose 12 = .ok (.iload_n 2, 1) := by decide +kernel
theorem dX5_allToLose_13 : decode cX5_allToLose 13 = .ok (.invokevirtual 198, 3) := by decide +kernel
theorem dX5_allToLose_16 : decode cX5_allToLose 16 = .ok (.iadd, 1) := by decide +kernel
theorem dX5_allToLose_17 : decode cX5_allToLose 17 = .ok (.istore_n 1, 1) := by decide +kernel
theorem dX5_allToLose_18 : decode cX5_allToLose 18 = .ok (.iinc 2 1, 3) := by decide +kernel
theorem dX5_allToLose_21 : decode cX5_allToLose 21 = .ok (.goto (-17), 3) := by decide +kernel
theorem dX5_allToLose_24 : decode cX5_allToLose 24 = .ok (.iload_n 1, 1) := by decide +kernel
theorem dX5_allToLose_25 : decode cX5_allToLose 25 = .ok (.ireturn, 1) := by decide +kernel
theorem dX5_hints_0 : decode cX5_hints 0 = .ok (.iconst 0, 1) := by decide +kernel
theorem dX5_hints_1 : decode cX5_hints 1 = .ok (.istore_n 1, 1) := by decide +kernel
theorem dX5_hints_2 : decode cX5_hints 2 = .ok (.iconst 0, 1) := by decide +kernel
theorem dX5_hints_3 : decode cX5_hints 3 = .ok (.istore_n 2, 1) := by decide +kernel
theorem dX5_hints_4 : decode cX5_hints 4 = .ok (.iload_n 2, 1) := by decide +kernel
theorem dX5_hints_5 : decode cX5_hints 5 = .ok (.bipush 8, 2) := by decide +kernel
theorem dX5_hints_7 : decode cX5_hints 7 = .ok (.if_icmp .ge 31, 3) := by decide +kernel
theorem dX5_hints_10 : decode cX5_hints 10 = .ok (.iload_n 1, 1) := by decide +kernel
theorem dX5_hints_11 : decode cX5_hints 11 = .ok (.aload_n 0, 1) := by decide +kernel
theorem dX5_hints_12 : decode cX5_hints 12 = .ok (.getfield 7, 3) := by decide +kernel
theorem dX5_hints_15 : decode cX5_hints 15 = .ok (.bipush 7, 2) := by decide +kernel
theorem dX5_hints_17 : decode cX5_hints 17 = .ok (.iload_n 2, 1) := by decide +kernel
theorem dX5_hints_18 : decode cX5_hints 18 = .ok (.iadd, 1) := by decide +kernel
theorem dX5_hints_19 : decode cX5_hints 19 = .ok (.iaload, 1) := by decide +kernel
theorem dX5_hints_20 : decode cX5_hints 20 = .ok (.bipush (-5), 2) := by decide +kernel
theorem dX5_hints_22 : decode cX5_hints 22 = .ok (.if_icmp .ne 7, 3) := by decide +kernel
theorem dX5_hints_25 : decode cX5_hints 25 = .ok (.iconst 0, 1) := by decide +kernel
theorem dX5_hints_26 : decode cX5_hints 26 = .ok (.goto 4, 3) := by decide +kernel
theorem dX5_hints_29 : decode cX5_hints 29 = .ok (.iconst 1, 1) := by decide +kernel
theorem dX5_hints_30 : decode cX5_hints 30 = .ok (.iadd, 1) := by decide +kernel
theorem dX5_hints_31 : decode cX5_hints 31 = .ok (.istore_n 1, 1) := by decide +kernel
theorem dX5_hints_32 : decode cX5_hints 32 = .ok (.iinc 2 1, 3) := by decide +kernel
theorem dX5_hints_35 : decode cX5_hints 35 = .ok (.goto (-31), 3) := by decide +kernel
theorem dX5_hints_38 : decode cX5_hints 38 = .ok (.iload_n 1, 1) := by decide +kernel
theorem dX5_hints_39 : decode cX5_hints 39 = .ok (.ireturn, 1) := by decide +kernel
theorem dX5_count_0 : decode cX5_count 0 = .ok (.aload_n 0, 1) := by decide +kernel
theorem dX5_count_1 : decode cX5_count 1 = .ok (.invokevirtual 78, 3) := by decide +kernel
theorem dX5_count_4 : decode cX5_count 4 = .ok (.iload_n 1, 1) := by decide +kernel
theorem dX5_count_5 : decode cX5_count 5 = .ok (.tableswitch 199 0 16 #[83, 90, 99, 105, 111, 116, 121, 126, 147, 154, 161, 169, 179, 179, 179, 189, 194], 83) := by decide +kernel
theorem dX5_count_88 : decode cX5_count 88 = .ok (.aload_n 0, 1) := by decide +kernel
theorem dX5_count_89 : decode cX5_count 89 = .ok (.getfield 7, 3) := by decide +kernel
theorem dX5_count_92 : decode cX5_count 92 = .ok (.iconst 3, 1) := by decide +kernel
theorem dX5_count_93 : decode cX5_count 93 = .ok (.iaload, 1) := by decide +kernel
theorem dX5_count_94 : decode cX5_count 94 = .ok (.ireturn, 1) := by decide +kernel
theorem dX5_count_95 : decode cX5_count 95 = .ok (.aload_n 0, 1) := by decide +kernel
theorem dX5_count_96 : decode cX5_count 96 = .ok (.bipush 28, 2) := by decide +kernel
theorem dX5_count_98 : decode cX5_count 98 = .ok (.bipush 64, 2) := by decide +kernel
theorem dX5_count_100 : decode cX5_count 100 = .ok (.invokevirtual 210, 3) := by decide +kernel
theorem dX5_count_103 : decode cX5_count 103 = .ok (.ireturn, 1) := by decide +kernel
theorem dX5_count_104 : decode cX5_count 104 = .ok (.aload_n 0, 1) := by decide +kernel
theorem dX5_count_105 : decode cX5_count 105 = .ok (.iconst 0, 1) := by decide +kernel
theorem dX5_count_106 : decode cX5_count 106 = .ok (.invokevirtual 213, 3) := by decide +kernel
theorem dX5_count_109 : decode cX5_count 109 = .ok (.ireturn, 1) := by decide +kernel
theorem dX5_count_110 : decode cX5_count 110 = .ok (.aload_n 0, 1) := by decide +kernel
theorem dX5_count_111 : decode cX5_count 111 = .ok (.iconst 1, 1) := by decide +kernel
theorem dX5_count_112 : decode cX5_count 112 = .ok (.invokevirtual 213, 3) := by decide +kernel
theorem dX5_count_115 : decode cX5_count 115 = .ok (.ireturn, 1) := by decide +kernel
theorem dX5_count_116 : decode cX5_count 116 = .ok (.aload_n 0, 1) := by decide +kernel
theorem dX5_count_117 : decode cX5_count 117 = .ok (.invokevirtual 217, 3) := by decide +kernel
theorem dX5_count_120 : decode cX5_count 120 = .ok (.ireturn, 1) := by decide +kernel
theorem dX5_count_121 : decode cX5_count 121 = .ok (.aload_n 0, 1) := by decide +kernel
theorem dX5_count_122 : decode cX5_count 122 = .ok (.invokevirtual 81, 3) := by decide +kernel
theorem dX5_count_125 : decode cX5_count 125 = .ok (.ireturn, 1) := by decide +kernel
theorem dX5_count_126 : decode cX5_count 126 = .ok (.aload_n 0, 1) := by decide +kernel
theorem dX5_count_127 : decode cX5_count 127 = .ok (.invokevirtual 220, 3) := by decide +kernel
theorem dX5_count_130 : decode cX5_count 130 = .ok (.ireturn, 1) := by decide +kernel
theorem dX5_count_131 : decode cX5_count 131 = .ok (.aload_n 0, 1) := by decide +kernel
theorem dX5_count_132 : decode cX5_count 132 = .ok (.iconst 0, 1) := by decide +kernel
theorem dX5_count_133 : decode cX5_count 133 = .ok (.iconst 2, 1) := by decide +kernel
theorem dX5_count_134 : decode cX5_count 134 = .ok (.invokevirtual 116, 3) := by decide +kernel
theorem dX5_count_137 : decode cX5_count 137 = .ok (.aload_n 0, 1) := by decide +kernel
theorem dX5_count_138 : decode cX5_count 138 = .ok (.iconst 1, 1) := by decide +kernel
theorem dX5_count_139 : decode cX5_count 139 = .ok (.iconst 2, 1) := by decide +kernel
theorem dX5_count_140 : decode cX5_count 140 = .ok (.invokevirtual 116, 3) := by decide +kernel
theorem dX5_count_143 : decode cX5_count 143 = .ok (.iadd, 1) := by decide +kernel
theorem dX5_count_144 : decode cX5_count 144 = .ok (.aload_n 0, 1) := by decide +kernel
theorem dX5_count_145 : decode cX5_count 145 = .ok (.iconst 2, 1) := by decide +kernel
theorem dX5_count_146 : decode cX5_count 146 = .ok (.iconst 2, 1) := by decide +kernel
theorem dX5_count_147 : decode cX5_count 147 = .ok (.invokevirtual 116, 3) := by decide +kernel
theorem dX5_count_150 : decode cX5_count 150 = .ok (.iadd, 1) := by decide +kernel
theorem dX5_count_151 : decode cX5_count 151 = .ok (.ireturn, 1) := by decide +kernel
theorem dX5_count_152 : decode cX5_count 152 = .ok (.aload_n 0, 1) := by decide +kernel
theorem dX5_count_153 : decode cX5_count 153 = .ok (.getfield 7, 3) := by decide +kernel
theorem dX5_count_156 : decode cX5_count 156 = .ok (.iconst 4, 1) := by decide +kernel
theorem dX5_count_157 : decode cX5_count 157 = .ok (.iaload, 1) := by decide +kernel
theorem dX5_count_158 : decode cX5_count 158 = .ok (.ireturn, 1) := by decide +kernel
theorem dX5_count_159 : decode cX5_count 159 = .ok (.aload_n 0, 1) := by decide +kernel
theorem dX5_count_160 : decode cX5_count 160 = .ok (.getfield 7, 3) := by decide +kernel
theorem dX5_count_163 : decode cX5_count 163 = .ok (.iconst 5, 1) := by decide +kernel
theorem dX5_count_164 : decode cX5_count 164 = .ok (.iaload, 1) := by decide +kernel
theorem dX5_count_165 : decode cX5_count 165 = .ok (.ireturn, 1) := by decide +kernel
theorem dX5_count_166 : decode cX5_count 166 = .ok (.aload_n 0, 1) := by decide +kernel
theorem dX5_count_167 : decode cX5_count 167 = .ok (.getfield 7, 3) := by decide +kernel
theorem dX5_count_170 : decode cX5_count 170 = .ok (.bipush 6, 2) := by decide +kernel
theorem dX5_count_172 : decode cX5_count 172 = .ok (.iaload, 1) := by decide +kernel
theorem dX5_count_173 : decode cX5_count 173 = .ok (.ireturn, 1) := by decide +kernel
theorem dX5_count_174 : decode cX5_count 174 = .ok (.aload_n 0, 1) := by decide +kernel
theorem dX5_count_175 : decode cX5_count 175 = .ok (.sipush 156, 3) := by decide +kernel
theorem dX5_count_178 : decode cX5_count 178 = .ok (.bipush 64, 2) := by decide +kernel
theorem dX5_count_180 : decode cX5_count 180 = .ok (.invokevirtual 210, 3) := by decide +kernel
theorem dX5_count_183 : decode cX5_count 183 = .ok (.ireturn, 1) := by decide +kernel
theorem dX5_count_184 : decode cX5_count 184 = .ok (.aload_n 0, 1) := by decide +kernel
theorem dX5_count_185 : decode cX5_count 185 = .ok (.getfield 7, 3) := by decide +kernel
theorem dX5_count_188 : decode cX5_count 188 = .ok (.iload_n 1, 1) := by decide +kernel
theorem dX5_count_189 : decode cX5_count 189 = .ok (.bipush 12, 2) := by decide +kernel
theorem dX5_count_191 : decode cX5_count 191 = .ok (.isub, 1) := by decide +kernel
theorem dX5_count_192 : decode cX5_count 192 = .ok (.iaload, 1) := by decide +kernel
theorem dX5_count_193 : decode cX5_count 193 = .ok (.ireturn, 1) := by decide +kernel
theorem dX5_count_194 : decode cX5_count 194 = .ok (.aload_n 0, 1) := by decide +kernel
theorem dX5_count_195 : decode cX5_count 195 = .ok (.getfield 51, 3) := by decide +kernel
theorem dX5_count_198 : decode cX5_count 198 = .ok (.ireturn, 1) := by decide +kernel
theorem dX5_count_199 : decode cX5_count 199 = .ok (.aload_n 0, 1) := by decide +kernel
theorem dX5_count_200 : decode cX5_count 200 = .ok (.getfield 157, 3) := by decide +kernel
theorem dX5_count_203 : decode cX5_count 203 = .ok (.ireturn, 1) := by decide +kernel
theorem dX5_count_204 : decode cX5_count 204 = .ok (.bipush (-2), 2) := by decide +kernel
theorem dX5_count_206 : decode cX5_count 206 = .ok (.ireturn, 1) := by decide +kernel
theorem dJ9_abs_0f7a4_0 : decode cJ9_abs_0f7a4 0 = .ok (.iload_n 0, 1) := by decide +kernel
theorem dJ9_abs_0f7a4_1 : decode cJ9_abs_0f7a4 1 = .ok (.ifCond .ge 8, 3) := by decide +kernel
theorem dJ9_abs_0f7a4_4 : decode cJ9_abs_0f7a4 4 = .ok (.iload_n 0, 1) := by decide +kernel
theorem dJ9_abs_0f7a4_5 : decode cJ9_abs_0f7a4 5 = .ok (.ineg, 1) := by decide +kernel
theorem dJ9_abs_0f7a4_6 : decode cJ9_abs_0f7a4 6 = .ok (.goto 4, 3) := by decide +kernel
theorem dJ9_abs_0f7a4_9 : decode cJ9_abs_0f7a4 9 = .ok (.iload_n 0, 1) := by decide +kernel
theorem dJ9_abs_0f7a4_10 : decode cJ9_abs_0f7a4 10 = .ok (.ireturn, 1) := by decide +kernel
theorem dJ9_max_7cf53_0 : decode cJ9_max_7cf53 0 = .ok (.iload_n 0, 1) := by decide +kernel
theorem dJ9_max_7cf53_1 : decode cJ9_max_7cf53 1 = .ok (.iload_n 1, 1) := by decide +kernel
theorem dJ9_max_7cf53_2 : decode cJ9_max_7cf53 2 = .ok (.if_icmp .lt 7, 3) := by decide +kernel
theorem dJ9_max_7cf53_5 : decode cJ9_max_7cf53 5 = .ok (.iload_n 0, 1) := by decide +kernel
theorem dJ9_max_7cf53_6 : decode cJ9_max_7cf53 6 = .ok (.goto 4, 3) := by decide +kernel
theorem dJ9_max_7cf53_9 : decode cJ9_max_7cf53 9 = .ok (.iload_n 1, 1) := by decide +kernel
theorem dJ9_max_7cf53_10 : decode cJ9_max_7cf53 10 = .ok (.ireturn, 1) := by decide +kernel
theorem dJ9_min_7cf53_0 : decode cJ9_min_7cf53 0 = .ok (.iload_n 0, 1) := by decide +kernel
theorem dJ9_min_7cf53_1 : decode cJ9_min_7cf53 1 = .ok (.iload_n 1, 1) := by decide +kernel
theorem dJ9_min_7cf53_2 : decode cJ9_min_7cf53 2 = .ok (.if_icmp .gt 7, 3) := by decide +kernel
theorem dJ9_min_7cf53_5 : decode cJ9_min_7cf53 5 = .ok (.iload_n 0, 1) := by decide +kernel
theorem dJ9_min_7cf53_6 : decode cJ9_min_7cf53 6 = .ok (.goto 4, 3) := by decide +kernel
theorem dJ9_min_7cf53_9 : decode cJ9_min_7cf53 9 = .ok (.iload_n 1, 1) := by decide +kernel
theorem dJ9_min_7cf53_10 : decode cJ9_min_7cf53 10 = .ok (.ireturn, 1) := by decide +kernel
