theorem dX3_takeStorm_0 : decode cX3_takeStorm 0 = .ok (.aload_n 1, 1) := by decide +kernel
theorem dX3_takeStorm_1 : decode cX3_takeStorm 1 = .ok (.getfield 94, 3) := by decide +kernel
theorem dX3_takeStorm_4 : decode cX3_takeStorm 4 = .ok (.iconst 1, 1) := by decide +kernel
theorem dX3_takeStorm_5 : decode cX3_takeStorm 5 = .ok (.if_icmp .le 6, 3) := by decide +kernel
theorem dX3_takeStorm_8 : decode cX3_takeStorm 8 = .ok (.bipush (-4), 2) := by decide +kernel
theorem dX3_takeStorm_10 : decode cX3_takeStorm 10 = .ok (.ireturn, 1) := by decide +kernel
theorem dX3_takeStorm_11 : decode cX3_takeStorm 11 = .ok (.aload_n 0, 1) := by decide +kernel
theorem dX3_takeStorm_12 : decode cX3_takeStorm 12 = .ok (.dup, 1) := by decide +kernel
theorem dX3_takeStorm_13 : decode cX3_takeStorm 13 = .ok (.getfield 56, 3) := by decide +kernel
theorem dX3_takeStorm_16 : decode cX3_takeStorm 16 = .ok (.aload_n 0, 1) := by decide +kernel
theorem dX3_takeStorm_17 : decode cX3_takeStorm 17 = .ok (.aload_n 1, 1) := by decide +kernel
theorem dX3_takeStorm_18 : decode cX3_takeStorm 18 = .ok (.aload_n 0, 1) := by decide +kernel
theorem dX3_takeStorm_19 : decode cX3_takeStorm 19 = .ok (.aload_n 1, 1) := by decide +kernel
theorem dX3_takeStorm_20 : decode cX3_takeStorm 20 = .ok (.invokevirtual 97, 3) := by decide +kernel
theorem dX3_takeStorm_23 : decode cX3_takeStorm 23 = .ok (.invokevirtual 101, 3) := by decide +kernel
theorem dX3_takeStorm_26 : decode cX3_takeStorm 26 = .ok (.iadd, 1) := by decide +kernel
theorem dX3_takeStorm_27 : decode cX3_takeStorm 27 = .ok (.putfield 56, 3) := by decide +kernel
theorem dX3_takeStorm_30 : decode cX3_takeStorm 30 = .ok (.aload_n 0, 1) := by decide +kernel
theorem dX3_takeStorm_31 : decode cX3_takeStorm 31 = .ok (.aload_n 1, 1) := by decide +kernel
theorem dX3_takeStorm_32 : decode cX3_takeStorm 32 = .ok (.invokevirtual 105, 3) := by decide +kernel
theorem dX3_takeStorm_35 : decode cX3_takeStorm 35 = .ok (.istore_n 2, 1) := by decide +kernel
theorem dX3_takeStorm_36 : decode cX3_takeStorm 36 = .ok (.aload_n 0, 1) := by decide +kernel
theorem dX3_takeStorm_37 : decode cX3_takeStorm 37 = .ok (.dup, 1) := by decide +kernel
theorem dX3_takeStorm_38 : decode cX3_takeStorm 38 = .ok (.getfield 53, 3) := by decide +kernel
theorem dX3_takeStorm_41 : decode cX3_takeStorm 41 = .ok (.iload_n 2, 1) := by decide +kernel
theorem dX3_takeStorm_42 : decode cX3_takeStorm 42 = .ok (.iadd, 1) := by decide +kernel
theorem dX3_takeStorm_43 : decode cX3_takeStorm 43 = .ok (.putfield 53, 3) := by decide +kernel
theorem dX3_takeStorm_46 : decode cX3_takeStorm 46 = .ok (.aload_n 0, 1) := by decide +kernel
theorem dX3_takeStorm_47 : decode cX3_takeStorm 47 = .ok (.dup, 1) := by decide +kernel
theorem dX3_takeStorm_48 : decode cX3_takeStorm 48 = .ok (.getfield 59, 3) := by decide +kernel
theorem dX3_takeStorm_51 : decode cX3_takeStorm 51 = .ok (.iconst 1, 1) := by decide +kernel
theorem dX3_takeStorm_52 : decode cX3_takeStorm 52 = .ok (.iadd, 1) := by decide +kernel
theorem dX3_takeStorm_53 : decode cX3_takeStorm 53 = .ok (.putfield 59, 3) := by decide +kernel
theorem dX3_takeStorm_56 : decode cX3_takeStorm 56 = .ok (.iconst 0, 1) := by decide +kernel
theorem dX3_takeStorm_57 : decode cX3_takeStorm 57 = .ok (.istore_n 3, 1) := by decide +kernel
theorem dX3_takeStorm_58 : decode cX3_takeStorm 58 = .ok (.iload_n 3, 1) := by decide +kernel
theorem dX3_takeStorm_59 : decode cX3_takeStorm 59 = .ok (.bipush 64, 2) := by decide +kernel
theorem dX3_takeStorm_61 : decode cX3_takeStorm 61 = .ok (.if_icmp .ge 16, 3) := by decide +kernel
theorem dX3_takeStorm_64 : decode cX3_takeStorm 64 = .ok (.aload_n 0, 1) := by decide +kernel
theorem dX3_takeStorm_65 : decode cX3_takeStorm 65 = .ok (.getfield 15, 3) := by decide +kernel
theorem dX3_takeStorm_68 : decode cX3_takeStorm 68 = .ok (.iload_n 3, 1) := by decide +kernel
theorem dX3_takeStorm_69 : decode cX3_takeStorm 69 = .ok (.iconst 0, 1) := by decide +kernel
theorem dX3_takeStorm_70 : decode cX3_takeStorm 70 = .ok (.bastore, 1) := by decide +kernel
theorem dX3_takeStorm_71 : decode cX3_takeStorm 71 = .ok (.iinc 3 1, 3) := by decide +kernel
theorem dX3_takeStorm_74 : decode cX3_takeStorm 74 = .ok (.goto (-16), 3) := by decide +kernel
theorem dX3_takeStorm_77 : decode cX3_takeStorm 77 = .ok (.iconst 0, 1) := by decide +kernel
theorem dX3_takeStorm_78 : decode cX3_takeStorm 78 = .ok (.istore_n 3, 1) := by decide +kernel
theorem dX3_takeStorm_79 : decode cX3_takeStorm 79 = .ok (.iload_n 3, 1) := by decide +kernel
theorem dX3_takeStorm_80 : decode cX3_takeStorm 80 = .ok (.bipush 8, 2) := by decide +kernel
theorem dX3_takeStorm_82 : decode cX3_takeStorm 82 = .ok (.if_icmp .ge 17, 3) := by decide +kernel
theorem dX3_takeStorm_85 : decode cX3_takeStorm 85 = .ok (.aload_n 0, 1) := by decide +kernel
theorem dX3_takeStorm_86 : decode cX3_takeStorm 86 = .ok (.getfield 31, 3) := by decide +kernel
theorem dX3_takeStorm_89 : decode cX3_takeStorm 89 = .ok (.iload_n 3, 1) := by decide +kernel
theorem dX3_takeStorm_90 : decode cX3_takeStorm 90 = .ok (.bipush (-5), 2) := by decide +kernel
theorem dX3_takeStorm_92 : decode cX3_takeStorm 92 = .ok (.iastore, 1) := by decide +kernel
theorem dX3_takeStorm_93 : decode cX3_takeStorm 93 = .ok (.iinc 3 1, 3) := by decide +kernel
theorem dX3_takeStorm_96 : decode cX3_takeStorm 96 = .ok (.goto (-17), 3) := by decide +kernel
theorem dX3_takeStorm_99 : decode cX3_takeStorm 99 = .ok (.iload_n 2, 1) := by decide +kernel
theorem dX3_takeStorm_100 : decode cX3_takeStorm 100 = .ok (.ireturn, 1) := by decide +kernel
theorem dX3_felledInVain_0 : decode cX3_felledInVain 0 = .ok (.iconst 0, 1) := by decide +kernel
theorem dX3_felledInVain_1 : decode cX3_felledInVain 1 = .ok (.istore_n 2, 1) := by decide +kernel
theorem dX3_felledInVain_2 : decode cX3_felledInVain 2 = .ok (.iconst 0, 1) := by decide +kernel
theorem dX3_felledInVain_3 : decode cX3_felledInVain 3 = .ok (.istore_n 3, 1) := by decide +kernel
theorem dX3_felledInVain_4 : decode cX3_felledInVain 4 = .ok (.iload_n 3, 1) := by decide +kernel
theorem dX3_felledInVain_5 : decode cX3_felledInVain 5 = .ok (.bipush 64, 2) := by decide +kernel
theorem dX3_felledInVain_7 : decode cX3_felledInVain 7 = .ok (.if_icmp .ge 30, 3) := by decide +kernel
theorem dX3_felledInVain_10 : decode cX3_felledInVain 10 = .ok (.aload_n 0, 1) := by decide +kernel
theorem dX3_felledInVain_11 : decode cX3_felledInVain 11 = .ok (.getfield 15, 3) := by decide +kernel
theorem dX3_felledInVain_14 : decode cX3_felledInVain 14 = .ok (.iload_n 3, 1) := by decide +kernel
theorem dX3_felledInVain_15 : decode cX3_felledInVain 15 = .ok (.baload, 1) := by decide +kernel
theorem dX3_felledInVain_16 : decode cX3_felledInVain 16 = .ok (.ifCond .eq 15, 3) := by decide +kernel
theorem dX3_felledInVain_19 : decode cX3_felledInVain 19 = .ok (.aload_n 0, 1) := by decide +kernel
theorem dX3_felledInVain_20 : decode cX3_felledInVain 20 = .ok (.aload_n 1, 1) := by decide +kernel
theorem dX3_felledInVain_21 : decode cX3_felledInVain 21 = .ok (.iload_n 3, 1) := by decide +kernel
theorem dX3_felledInVain_22 : decode cX3_felledInVain 22 = .ok (.invokevirtual 108, 3) := by decide +kernel
theorem dX3_felledInVain_25 : decode cX3_felledInVain 25 = .ok (.ifCond .ne 6, 3) := by decide +kernel
theorem dX3_felledInVain_28 : decode cX3_felledInVain 28 = .ok (.iinc 2 1, 3) := by decide +kernel
theorem dX3_felledInVain_31 : decode cX3_felledInVain 31 = .ok (.iinc 3 1, 3) := by decide +kernel
theorem dX3_felledInVain_34 : decode cX3_felledInVain 34 = .ok (.goto (-30), 3) := by decide +kernel
theorem dX3_felledInVain_37 : decode cX3_felledInVain 37 = .ok (.iload_n 2, 1) := by decide +kernel
theorem dX3_felledInVain_38 : decode cX3_felledInVain 38 = .ok (.ireturn, 1) := by decide +kernel
theorem dX3_regret_0 : decode cX3_regret 0 = .ok (.iconst 0, 1) := by decide +kernel
theorem dX3_regret_1 : decode cX3_regret 1 = .ok (.istore_n 3, 1) := by decide +kernel
theorem dX3_regret_2 : decode cX3_regret 2 = .ok (.iload_n 2, 1) := by decide +kernel
theorem dX3_regret_3 : decode cX3_regret 3 = .ok (.istore 4, 2) := by decide +kernel
theorem dX3_regret_5 : decode cX3_regret 5 = .ok (.bipush 99, 2) := by decide +kernel
theorem dX3_regret_7 : decode cX3_regret 7 = .ok (.istore 5, 2) := by decide +kernel
theorem dX3_regret_9 : decode cX3_regret 9 = .ok (.iload 5, 2) := by decide +kernel
theorem dX3_regret_11 : decode cX3_regret 11 = .ok (.ifCond .le 60, 3) := by decide +kernel
theorem dX3_regret_14 : decode cX3_regret 14 = .ok (.iconst 0, 1) := by decide +kernel
theorem dX3_regret_15 : decode cX3_regret 15 = .ok (.istore 6, 2) := by decide +kernel
theorem dX3_regret_17 : decode cX3_regret 17 = .ok (.iload 6, 2) := by decide +kernel
theorem dX3_regret_19 : decode cX3_regret 19 = .ok (.bipush 64, 2) := by decide +kernel
theorem dX3_regret_21 : decode cX3_regret 21 = .ok (.if_icmp .ge 44, 3) := by decide +kernel
theorem dX3_regret_24 : decode cX3_regret 24 = .ok (.iload 4, 2) := by decide +kernel
theorem dX3_regret_26 : decode cX3_regret 26 = .ok (.ifCond .le 33, 3) := by decide +kernel
theorem dX3_regret_29 : decode cX3_regret 29 = .ok (.aload_n 0, 1) := by decide +kernel
theorem dX3_regret_30 : decode cX3_regret 30 = .ok (.getfield 9, 3) := by decide +kernel
theorem dX3_regret_33 : decode cX3_regret 33 = .ok (.iload 6, 2) := by decide +kernel
theorem dX3_regret_35 : decode cX3_regret 35 = .ok (.iaload, 1) := by decide +kernel
theorem dX3_regret_36 : decode cX3_regret 36 = .ok (.iload 5, 2) := by decide +kernel
theorem dX3_regret_38 : decode cX3_regret 38 = .ok (.if_icmp .ne 21, 3) := by decide +kernel
theorem dX3_regret_41 : decode cX3_regret 41 = .ok (.aload_n 0, 1) := by decide +kernel
theorem dX3_regret_42 : decode cX3_regret 42 = .ok (.aload_n 1, 1) := by decide +kernel
theorem dX3_regret_43 : decode cX3_regret 43 = .ok (.iload 6, 2) := by decide +kernel
theorem dX3_regret_45 : decode cX3_regret 45 = .ok (.invokevirtual 108, 3) := by decide +kernel
theorem dX3_regret_48 : decode cX3_regret 48 = .ok (.ifCond .eq 11, 3) := by decide +kernel
theorem dX3_regret_51 : decode cX3_regret 51 = .ok (.iload_n 3, 1) := by decide +kernel
theorem dX3_regret_52 : decode cX3_regret 52 = .ok (.iload 5, 2) := by decide +kernel
theorem dX3_regret_54 : decode cX3_regret 54 = .ok (.iadd, 1) := by decide +kernel
theorem dX3_regret_55 : decode cX3_regret 55 = .ok (.istore_n 3, 1) := by decide +kernel
theorem dX3_regret_56 : decode cX3_regret 56 = .ok (.iinc 4 (-1), 3) := by decide +kernel
theorem dX3_regret_59 : decode cX3_regret 59 = .ok (.iinc 6 1, 3) := by decide +kernel
theorem dX3_regret_62 : decode cX3_regret 62 = .ok (.goto (-45), 3) := by decide +kernel
theorem dX3_regret_65 : decode cX3_regret 65 = .ok (.iinc 5 (-1), 3) := by decide +kernel
theorem dX3_regret_68 : decode cX3_regret 68 = .ok (.goto (-59), 3) := by decide +kernel
theorem dX3_regret_71 : decode cX3_regret 71 = .ok (.iload_n 3, 1) := by decide +kernel
theorem dX3_regret_72 : decode cX3_regret 72 = .ok (.ireturn, 1) := by decide +kernel
theorem dX3_loseWorths_0 : decode cX3_loseWorths 0 = .ok (.iconst 0, 1) := by decide +kernel
theorem dX3_loseWorths_1 : decode cX3_loseWorths 1 = .ok (.istore_n 2, 1) := by decide +kernel
theorem dX3_loseWorths_2 : decode cX3_loseWorths 2 = .ok (.iconst 0, 1) := by decide +kernel
theorem dX3_loseWorths_3 : decode cX3_loseWorths 3 = .ok (.istore_n 3, 1) := by decide +kernel
theorem dX3_loseWorths_4 : decode cX3_loseWorths 4 = .ok (.iload_n 3, 1) := by decide +kernel
theorem dX3_loseWorths_5 : decode cX3_loseWorths 5 = .ok (.bipush 64, 2) := by decide +kernel
theorem dX3_loseWorths_7 : decode cX3_loseWorths 7 = .ok (.if_icmp .ge 34, 3) := by decide +kernel
theorem dX3_loseWorths_10 : decode cX3_loseWorths 10 = .ok (.aload_n 0, 1) := by decide +kernel
theorem dX3_loseWorths_11 : decode cX3_loseWorths 11 = .ok (.aload_n 1, 1) := by decide +kernel
theorem dX3_loseWorths_12 : decode cX3_loseWorths 12 = .ok (.iload_n 3, 1) := by decide +kernel
theorem dX3_loseWorths_13 : decode cX3_loseWorths 13 = .ok (.invokevirtual 108, 3) := by decide +kernel
theorem dX3_loseWorths_16 : decode cX3_loseWorths 16 = .ok (.ifCond .eq 19, 3) := by decide +kernel
theorem dX3_loseWorths_19 : decode cX3_loseWorths 19 = .ok (.iload_n 2, 1) := by decide +kernel
theorem dX3_loseWorths_20 : decode cX3_loseWorths 20 = .ok (.aload_n 0, 1) := by decide +kernel
theorem dX3_loseWorths_21 : decode cX3_loseWorths 21 = .ok (.getfield 9, 3) := by decide +kernel
theorem dX3_loseWorths_24 : decode cX3_loseWorths 24 = .ok (.iload_n 3, 1) := by decide +kernel
theorem dX3_loseWorths_25 : decode cX3_loseWorths 25 = .ok (.iaload, 1) := by decide +kernel
theorem dX3_loseWorths_26 : decode cX3_loseWorths 26 = .ok (.iadd, 1) := by decide +kernel
theorem dX3_loseWorths_27 : decode cX3_loseWorths 27 = .ok (.istore_n 2, 1) := by decide +kernel
theorem dX3_loseWorths_28 : decode cX3_loseWorths 28 = .ok (.aload_n 0, 1) := by decide +kernel
theorem dX3_loseWorths_29 : decode cX3_loseWorths 29 = .ok (.getfield 9, 3) := by decide +kernel
theorem dX3_loseWorths_32 : decode cX3_loseWorths 32 = .ok (.iload_n 3, 1) := by decide +kernel
theorem dX3_loseWorths_33 : decode cX3_loseWorths 33 = .ok (.iconst 0, 1) := by decide +kernel
theorem dX3_loseWorths_34 : decode cX3_loseWorths 34 = .ok (.iastore, 1) := by decide +kernel
theorem dX3_loseWorths_35 : decode cX3_loseWorths 35 = .ok (.iinc 3 1, 3) := by decide +kernel
theorem dX3_loseWorths_38 : decode cX3_loseWorths 38 = .ok (.goto (-34), 3) := by decide +kernel
theorem dX3_loseWorths_41 : decode cX3_loseWorths 41 = .ok (.iload_n 2, 1) := by decide +kernel
theorem dX3_loseWorths_42 : decode cX3_loseWorths 42 = .ok (.ireturn, 1) := by decide +kernel
theorem dX3_stepsTo_0 : decode cX3_stepsTo 0 = .ok (.aload_n 0, 1) := by decide +kernel
theorem dX3_stepsTo_1 : decode cX3_stepsTo 1 = .ok (.getfield 19, 3) := by decide +kernel
theorem dX3_stepsTo_4 : decode cX3_stepsTo 4 = .ok (.iload_n 1, 1) := by decide +kernel
theorem dX3_stepsTo_5 : decode cX3_stepsTo 5 = .ok (.iaload, 1) := by decide +kernel
theorem dX3_stepsTo_6 : decode cX3_stepsTo 6 = .ok (.istore_n 3, 1) := by decide +kernel
theorem dX3_stepsTo_7 : decode cX3_stepsTo 7 = .ok (.iload_n 3, 1) := by decide +kernel
theorem dX3_stepsTo_8 : decode cX3_stepsTo 8 = .ok (.bipush 8, 2) := by decide +kernel
theorem dX3_stepsTo_10 : decode cX3_stepsTo 10 = .ok (.idiv, 1) := by decide +kernel
theorem dX3_stepsTo_11 : decode cX3_stepsTo 11 = .ok (.iload_n 2, 1) := by decide +kernel
theorem dX3_stepsTo_12 : decode cX3_stepsTo 12 = .ok (.bipush 8, 2) := by decide +kernel
theorem dX3_stepsTo_14 : decode cX3_stepsTo 14 = .ok (.idiv, 1) := by decide +kernel
theorem dX3_stepsTo_15 : decode cX3_stepsTo 15 = .ok (.isub, 1) := by decide +kernel
theorem dX3_stepsTo_16 : decode cX3_stepsTo 16 = .ok (.invokestatic 112, 3) := by decide +kernel
theorem dX3_stepsTo_19 : decode cX3_stepsTo 19 = .ok (.istore 4, 2) := by decide +kernel
theorem dX3_stepsTo_21 : decode cX3_stepsTo 21 = .ok (.iload_n 3, 1) := by decide +kernel
theorem dX3_stepsTo_22 : decode cX3_stepsTo 22 = .ok (.bipush 8, 2) := by decide +kernel
theorem dX3_stepsTo_24 : decode cX3_stepsTo 24 = .ok (.irem, 1) := by decide +kernel
theorem dX3_stepsTo_25 : decode cX3_stepsTo 25 = .ok (.iload_n 2, 1) := by decide +kernel
theorem dX3_stepsTo_26 : decode cX3_stepsTo 26 = .ok (.bipush 8, 2) := by decide +kernel
theorem dX3_stepsTo_28 : decode cX3_stepsTo 28 = .ok (.irem, 1) := by decide +kernel
theorem dX3_stepsTo_29 : decode cX3_stepsTo 29 = .ok (.isub, 1) := by decide +kernel
theorem dX3_stepsTo_30 : decode cX3_stepsTo 30 = .ok (.invokestatic 112, 3) := by decide +kernel
theorem dX3_stepsTo_33 : decode cX3_stepsTo 33 = .ok (.istore 5, 2) := by decide +kernel
theorem dX3_stepsTo_35 : decode cX3_stepsTo 35 = .ok (.iload 4, 2) := by decide +kernel
theorem dX3_stepsTo_37 : decode cX3_stepsTo 37 = .ok (.iload 5, 2) := by decide +kernel
theorem dX3_stepsTo_39 : decode cX3_stepsTo 39 = .ok (.iadd, 1) := by decide +kernel
theorem dX3_stepsTo_40 : decode cX3_stepsTo 40 = .ok (.iconst 1, 1) := by decide +kernel
theorem dX3_stepsTo_41 : decode cX3_stepsTo 41 = .ok (.aload_n 0, 1) := by decide +kernel
theorem dX3_stepsTo_42 : decode cX3_stepsTo 42 = .ok (.getfield 46, 3) := by decide +kernel
theorem dX3_stepsTo_45 : decode cX3_stepsTo 45 = .ok (.iconst 3, 1) := by decide +kernel
theorem dX3_stepsTo_46 : decode cX3_stepsTo 46 = .ok (.idiv, 1) := by decide +kernel
theorem dX3_stepsTo_47 : decode cX3_stepsTo 47 = .ok (.iadd, 1) := by decide +kernel
theorem dX3_stepsTo_48 : decode cX3_stepsTo 48 = .ok (.imul, 1) := by decide +kernel
theorem dX3_stepsTo_49 : decode cX3_stepsTo 49 = .ok (.ireturn, 1) := by decide +kernel
theorem dX3_whyNot_0 : decode cX3_whyNot 0 = .ok (.aload_n 0, 1) := by decide +kernel
theorem dX3_whyNot_1 : decode cX3_whyNot 1 = .ok (.getfield 9, 3) := by decide +kernel
theorem dX3_whyNot_4 : decode cX3_whyNot 4 = .ok (.iload_n 2, 1) := by decide +kernel
theorem dX3_whyNot_5 : decode cX3_whyNot 5 = .ok (.iaload, 1) := by decide +kernel
theorem dX3_whyNot_6 : decode cX3_whyNot 6 = .ok (.ifCond .ne 5, 3) := by decide +kernel
theorem dX3_whyNot_9 : decode cX3_whyNot 9 = .ok (.iconst 1, 1) := by decide +kernel
theorem dX3_whyNot_10 : decode cX3_whyNot 10 = .ok (.ireturn, 1) := by decide +kernel
theorem dX3_whyNot_11 : decode cX3_whyNot 11 = .ok (.aload_n 0, 1) := by decide +kernel
theorem dX3_whyNot_12 : decode cX3_whyNot 12 = .ok (.getfield 22, 3) := by decide +kernel
theorem dX3_whyNot_15 : decode cX3_whyNot 15 = .ok (.iload_n 1, 1) := by decide +kernel
theorem dX3_whyNot_16 : decode cX3_whyNot 16 = .ok (.iaload, 1) := by decide +kernel
theorem dX3_whyNot_17 : decode cX3_whyNot 17 = .ok (.aload_n 0, 1) := by decide +kernel
theorem dX3_whyNot_18 : decode cX3_whyNot 18 = .ok (.iload_n 1, 1) := by decide +kernel
theorem dX3_whyNot_19 : decode cX3_whyNot 19 = .ok (.iload_n 2, 1) := by decide +kernel
theorem dX3_whyNot_20 : decode cX3_whyNot 20 = .ok (.invokevirtual 81, 3) := by decide +kernel
theorem dX3_whyNot_23 : decode cX3_whyNot 23 = .ok (.isub, 1) := by decide +kernel
theorem dX3_whyNot_24 : decode cX3_whyNot 24 = .ok (.istore_n 3, 1) := by decide +kernel
theorem dX3_whyNot_25 : decode cX3_whyNot 25 = .ok (.iload_n 3, 1) := by decide +kernel
theorem dX3_whyNot_26 : decode cX3_whyNot 26 = .ok (.ifCond .ge 5, 3) := by decide +kernel
theorem dX3_whyNot_29 : decode cX3_whyNot 29 = .ok (.iconst 2, 1) := by decide +kernel
theorem dX3_whyNot_30 : decode cX3_whyNot 30 = .ok (.ireturn, 1) := by decide +kernel
theorem dX3_whyNot_31 : decode cX3_whyNot 31 = .ok (.iload_n 3, 1) := by decide +kernel
theorem dX3_whyNot_32 : decode cX3_whyNot 32 = .ok (.aload_n 0, 1) := by decide +kernel
theorem dX3_whyNot_33 : decode cX3_whyNot 33 = .ok (.getfield 34, 3) := by decide +kernel
theorem dX3_whyNot_36 : decode cX3_whyNot 36 = .ok (.iconst 2, 1) := by decide +kernel
theorem dX3_whyNot_37 : decode cX3_whyNot 37 = .ok (.iaload, 1) := by decide +kernel
theorem dX3_whyNot_38 : decode cX3_whyNot 38 = .ok (.if_icmp .ge 7, 3) := by decide +kernel
theorem dX3_whyNot_41 : decode cX3_whyNot 41 = .ok (.iconst 3, 1) := by decide +kernel
theorem dX3_whyNot_42 : decode cX3_whyNot 42 = .ok (.goto 4, 3) := by decide +kernel
theorem dX3_whyNot_45 : decode cX3_whyNot 45 = .ok (.iconst 0, 1) := by decide +kernel
theorem dX3_whyNot_46 : decode cX3_whyNot 46 = .ok (.ireturn, 1) := by decide +kernel
theorem dX3_bestPlot_0 : decode cX3_bestPlot 0 = .ok (.bipush (-5), 2) := by decide +kernel
theorem dX3_bestPlot_2 : decode cX3_bestPlot 2 = .ok (.istore_n 3, 1) := by decide +kernel
theorem dX3_bestPlot_3 : decode cX3_bestPlot 3 = .ok (.iconst 0, 1) := by decide +kernel
theorem dX3_bestPlot_4 : decode cX3_bestPlot 4 = .ok (.istore 4, 2) := by decide +kernel
theorem dX3_bestPlot_6 : decode cX3_bestPlot 6 = .ok (.iload 4, 2) := by decide +kernel
theorem dX3_bestPlot_8 : decode cX3_bestPlot 8 = .ok (.bipush 64, 2) := by decide +kernel
theorem dX3_bestPlot_10 : decode cX3_bestPlot 10 = .ok (.if_icmp .ge 40, 3) := by decide +kernel
theorem dX3_bestPlot_13 : decode cX3_bestPlot 13 = .ok (.aload_n 0, 1) := by decide +kernel
theorem dX3_bestPlot_14 : decode cX3_bestPlot 14 = .ok (.iload_n 2, 1) := by decide +kernel
theorem dX3_bestPlot_15 : decode cX3_bestPlot 15 = .ok (.iload 4, 2) := by decide +kernel
theorem dX3_bestPlot_17 : decode cX3_bestPlot 17 = .ok (.invokevirtual 115, 3) := by decide +kernel
theorem dX3_bestPlot_20 : decode cX3_bestPlot 20 = .ok (.ifCond .ne 24, 3) := by decide +kernel
theorem dX3_bestPlot_23 : decode cX3_bestPlot 23 = .ok (.iload_n 3, 1) := by decide +kernel
theorem dX3_bestPlot_24 : decode cX3_bestPlot 24 = .ok (.bipush (-5), 2) := by decide +kernel
theorem dX3_bestPlot_26 : decode cX3_bestPlot 26 = .ok (.if_icmp .eq 15, 3) := by decide +kernel
theorem dX3_bestPlot_29 : decode cX3_bestPlot 29 = .ok (.aload_n 0, 1) := by decide +kernel
theorem dX3_bestPlot_30 : decode cX3_bestPlot 30 = .ok (.aload_n 1, 1) := by decide +kernel
theorem dX3_bestPlot_31 : decode cX3_bestPlot 31 = .ok (.iload_n 2, 1) := by decide +kernel
theorem dX3_bestPlot_32 : decode cX3_bestPlot 32 = .ok (.iload 4, 2) := by decide +kernel
theorem dX3_bestPlot_34 : decode cX3_bestPlot 34 = .ok (.iload_n 3, 1) := by decide +kernel
theorem dX3_bestPlot_35 : decode cX3_bestPlot 35 = .ok (.invokevirtual 118, 3) := by decide +kernel
theorem dX3_bestPlot_38 : decode cX3_bestPlot 38 = .ok (.ifCond .eq 6, 3) := by decide +kernel
theorem dX3_bestPlot_41 : decode cX3_bestPlot 41 = .ok (.iload 4, 2) := by decide +kernel
theorem dX3_bestPlot_43 : decode cX3_bestPlot 43 = .ok (.istore_n 3, 1) := by decide +kernel
theorem dX3_bestPlot_44 : decode cX3_bestPlot 44 = .ok (.iinc 4 1, 3) := by decide +kernel
theorem dX3_bestPlot_47 : decode cX3_bestPlot 47 = .ok (.goto (-41), 3) := by decide +kernel
theorem dX3_bestPlot_50 : decode cX3_bestPlot 50 = .ok (.iload_n 3, 1) := by decide +kernel
theorem dX3_bestPlot_51 : decode cX3_bestPlot 51 = .ok (.ireturn, 1) := by decide +kernel
theorem dX3_isBetter_0 : decode cX3_isBetter 0 = .ok (.aload_n 0, 1) := by decide +kernel
theorem dX3_isBetter_1 : decode cX3_isBetter 1 = .ok (.aload_n 1, 1) := by decide +kernel
theorem dX3_isBetter_2 : decode cX3_isBetter 2 = .ok (.iload_n 3, 1) := by decide +kernel
theorem dX3_isBetter_3 : decode cX3_isBetter 3 = .ok (.invokevirtual 122, 3) := by decide +kernel
theorem dX3_isBetter_6 : decode cX3_isBetter 6 = .ok (.aload_n 0, 1) := by decide +kernel
theorem dX3_isBetter_7 : decode cX3_isBetter 7 = .ok (.aload_n 1, 1) := by decide +kernel
theorem dX3_isBetter_8 : decode cX3_isBetter 8 = .ok (.iload 4, 2) := by decide +kernel
theorem dX3_isBetter_10 : decode cX3_isBetter 10 = .ok (.invokevirtual 122, 3) := by decide +kernel
theorem dX3_isBetter_13 : decode cX3_isBetter 13 = .ok (.isub, 1) := by decide +kernel
theorem dX3_isBetter_14 : decode cX3_isBetter 14 = .ok (.istore 5, 2) := by decide +kernel
theorem dX3_isBetter_16 : decode cX3_isBetter 16 = .ok (.iload 5, 2) := by decide +kernel
theorem dX3_isBetter_18 : decode cX3_isBetter 18 = .ok (.ifCond .eq 14, 3) := by decide +kernel
theorem dX3_isBetter_21 : decode cX3_isBetter 21 = .ok (.iload 5, 2) := by decide +kernel
theorem dX3_isBetter_23 : decode cX3_isBetter 23 = .ok (.ifCond .le 7, 3) := by decide +kernel
theorem dX3_isBetter_26 : decode cX3_isBetter 26 = .ok (.iconst 1, 1) := by decide +kernel
theorem dX3_isBetter_27 : decode cX3_isBetter 27 = .ok (.goto 4, 3) := by decide +kernel
theorem dX3_isBetter_30 : decode cX3_isBetter 30 = .ok (.iconst 0, 1) := by decide +kernel
theorem dX3_isBetter_31 : decode cX3_isBetter 31 = .ok (.ireturn, 1) := by decide +kernel
theorem dX3_isBetter_32 : decode cX3_isBetter 32 = .ok (.aload_n 0, 1) := by decide +kernel
theorem dX3_isBetter_33 : decode cX3_isBetter 33 = .ok (.getfield 9, 3) := by decide +kernel
theorem dX3_isBetter_36 : decode cX3_isBetter 36 = .ok (.iload_n 3, 1) := by decide +kernel
theorem dX3_isBetter_37 : decode cX3_isBetter 37 = .ok (.iaload, 1) := by decide +kernel
theorem dX3_isBetter_38 : decode cX3_isBetter 38 = .ok (.aload_n 0, 1) := by decide +kernel
theorem dX3_isBetter_39 : decode cX3_isBetter 39 = .ok (.getfield 9, 3) := by decide +kernel
theorem dX3_isBetter_42 : decode cX3_isBetter 42 = .ok (.iload 4, 2) := by decide +kernel
theorem dX3_isBetter_44 : decode cX3_isBetter 44 = .ok (.iaload, 1) := by decide +kernel
theorem dX3_isBetter_45 : decode cX3_isBetter 45 = .ok (.if_icmp .eq 25, 3) := by decide +kernel
theorem dX3_isBetter_48 : decode cX3_isBetter 48 = .ok (.aload_n 0, 1) := by decide +kernel
theorem dX3_isBetter_49 : decode cX3_isBetter 49 = .ok (.getfield 9, 3) := by decide +kernel
theorem dX3_isBetter_52 : decode cX3_isBetter 52 = .ok (.iload_n 3, 1) := by decide +kernel
theorem dX3_isBetter_53 : decode cX3_isBetter 53 = .ok (.iaload, 1) := by decide +kernel
theorem dX3_isBetter_54 : decode cX3_isBetter 54 = .ok (.aload_n 0, 1) := by decide +kernel
theorem dX3_isBetter_55 : decode cX3_isBetter 55 = .ok (.getfield 9, 3) := by decide +kernel
theorem dX3_isBetter_58 : decode cX3_isBetter 58 = .ok (.iload 4, 2) := by decide +kernel
theorem dX3_isBetter_60 : decode cX3_isBetter 60 = .ok (.iaload, 1) := by decide +kernel
theorem dX3_isBetter_61 : decode cX3_isBetter 61 = .ok (.if_icmp .le 7, 3) := by decide +kernel
theorem dX3_isBetter_64 : decode cX3_isBetter 64 = .ok (.iconst 1, 1) := by decide +kernel
theorem dX3_isBetter_65 : decode cX3_isBetter 65 = .ok (.goto 4, 3) := by decide +kernel
theorem dX3_isBetter_68 : decode cX3_isBetter 68 = .ok (.iconst 0, 1) := by decide +kernel
theorem dX3_isBetter_69 : decode cX3_isBetter 69 = .ok (.ireturn, 1) := by decide +kernel
theorem dX3_isBetter_70 : decode cX3_isBetter 70 = .ok (.aload_n 0, 1) := by decide +kernel
theorem dX3_isBetter_71 : decode cX3_isBetter 71 = .ok (.iload_n 2, 1) := by decide +kernel
theorem dX3_isBetter_72 : decode cX3_isBetter 72 = .ok (.iload_n 3, 1) := by decide +kernel
theorem dX3_isBetter_73 : decode cX3_isBetter 73 = .ok (.invokevirtual 81, 3) := by decide +kernel
theorem dX3_isBetter_76 : decode cX3_isBetter 76 = .ok (.aload_n 0, 1) := by decide +kernel
theorem dX3_isBetter_77 : decode cX3_isBetter 77 = .ok (.iload_n 2, 1) := by decide +kernel
theorem dX3_isBetter_78 : decode cX3_isBetter 78 = .ok (.iload 4, 2) := by decide +kernel
theorem dX3_isBetter_80 : decode cX3_isBetter 80 = .ok (.invokevirtual 81, 3) := by decide +kernel
theorem dX3_isBetter_83 : decode cX3_isBetter 83 = .ok (.if_icmp .ge 7, 3) := by decide +kernel
theorem dX3_isBetter_86 : decode cX3_isBetter 86 = .ok (.iconst 1, 1) := by decide +kernel
theorem dX3_isBetter_87 : decode cX3_isBetter 87 = .ok (.goto 4, 3) := by decide +kernel
theorem dX3_isBetter_90 : decode cX3_isBetter 90 = .ok (.iconst 0, 1) := by decide +kernel
theorem dX3_isBetter_91 : decode cX3_isBetter 91 = .ok (.ireturn, 1) := by decide +kernel
theorem dX3_hits_0 : decode cX3_hits 0 = .ok (.aload_n 1, 1) := by decide +kernel
theorem dX3_hits_1 : decode cX3_hits 1 = .ok (.iload_n 2, 1) := by decide +kernel
theorem dX3_hits_2 : decode cX3_hits 2 = .ok (.aload_n 0, 1) := by decide +kernel
theorem dX3_hits_3 : decode cX3_hits 3 = .ok (.getfield 34, 3) := by decide +kernel
theorem dX3_hits_6 : decode cX3_hits 6 = .ok (.iconst 1, 1) := by decide +kernel
theorem dX3_hits_7 : decode cX3_hits 7 = .ok (.iaload, 1) := by decide +kernel
theorem dX3_hits_8 : decode cX3_hits 8 = .ok (.invokevirtual 125, 3) := by decide +kernel
theorem dX3_hits_11 : decode cX3_hits 11 = .ok (.ireturn, 1) := by decide +kernel
theorem dX3_isEndangered_0 : decode cX3_isEndangered 0 = .ok (.aload_n 0, 1) := by decide +kernel
theorem dX3_isEndangered_1 : decode cX3_isEndangered 1 = .ok (.aload_n 1, 1) := by decide +kernel
theorem dX3_isEndangered_2 : decode cX3_isEndangered 2 = .ok (.iload_n 2, 1) := by decide +kernel
theorem dX3_isEndangered_3 : decode cX3_isEndangered 3 = .ok (.invokevirtual 128, 3) := by decide +kernel
theorem dX3_isEndangered_6 : decode cX3_isEndangered 6 = .ok (.ifCond .le 7, 3) := by decide +kernel
theorem dX3_isEndangered_9 : decode cX3_isEndangered 9 = .ok (.iconst 1, 1) := by decide +kernel
theorem dX3_isEndangered_10 : decode cX3_isEndangered 10 = .ok (.goto 4, 3) := by decide +kernel
theorem dX3_isEndangered_13 : decode cX3_isEndangered 13 = .ok (.iconst 0, 1) := by decide +kernel
theorem dX3_isEndangered_14 : decode cX3_isEndangered 14 = .ok (.ireturn, 1) := by decide +kernel
theorem dX3_isDoomed_0 : decode cX3_isDoomed 0 = .ok (.aload_n 0, 1) := by decide +kernel
theorem dX3_isDoomed_1 : decode cX3_isDoomed 1 = .ok (.aload_n 1, 1) := by decide +kernel
theorem dX3_isDoomed_2 : decode cX3_isDoomed 2 = .ok (.iload_n 2, 1) := by decide +kernel
theorem dX3_isDoomed_3 : decode cX3_isDoomed 3 = .ok (.invokevirtual 128, 3) := by decide +kernel
theorem dX3_isDoomed_6 : decode cX3_isDoomed 6 = .ok (.aload_n 1, 1) := by decide +kernel
theorem dX3_isDoomed_7 : decode cX3_isDoomed 7 = .ok (.getfield 94, 3) := by decide +kernel
theorem dX3_isDoomed_10 : decode cX3_isDoomed 10 = .ok (.if_icmp .ne 7, 3) := by decide +kernel
theorem dX3_isDoomed_13 : decode cX3_isDoomed 13 = .ok (.iconst 1, 1) := by decide +kernel
theorem dX3_isDoomed_14 : decode cX3_isDoomed 14 = .ok (.goto 4, 3) := by decide +kernel
theorem dX3_isDoomed_17 : decode cX3_isDoomed 17 = .ok (.iconst 0, 1) := by decide +kernel
theorem dX3_isDoomed_18 : decode cX3_isDoomed 18 = .ok (.ireturn, 1) := by decide +kernel
theorem dX3_standsToLose_0 : decode cX3_standsToLose 0 = .ok (.aload_n 1, 1) := by decide +kernel
theorem dX3_standsToLose_1 : decode cX3_standsToLose 1 = .ok (.getfield 94, 3) := by decide +kernel
theorem dX3_standsToLose_4 : decode cX3_standsToLose 4 = .ok (.ifCond .ne 5, 3) := by decide +kernel
theorem dX3_standsToLose_7 : decode cX3_standsToLose 7 = .ok (.iconst 0, 1) := by decide +kernel
theorem dX3_standsToLose_8 : decode cX3_standsToLose 8 = .ok (.ireturn, 1) := by decide +kernel
theorem dX3_standsToLose_9 : decode cX3_standsToLose 9 = .ok (.aload_n 0, 1) := by decide +kernel
theorem dX3_standsToLose_10 : decode cX3_standsToLose 10 = .ok (.getfield 9, 3) := by decide +kernel
theorem dX3_standsToLose_13 : decode cX3_standsToLose 13 = .ok (.iload_n 2, 1) := by decide +kernel
theorem dX3_standsToLose_14 : decode cX3_standsToLose 14 = .ok (.iaload, 1) := by decide +kernel
theorem dX3_standsToLose_15 : decode cX3_standsToLose 15 = .ok (.aload_n 0, 1) := by decide +kernel
theorem dX3_standsToLose_16 : decode cX3_standsToLose 16 = .ok (.aload_n 1, 1) := by decide +kernel
theorem dX3_standsToLose_17 : decode cX3_standsToLose 17 = .ok (.iload_n 2, 1) := by decide +kernel
theorem dX3_standsToLose_18 : decode cX3_standsToLose 18 = .ok (.invokevirtual 128, 3) := by decide +kernel
theorem dX3_standsToLose_21 : decode cX3_standsToLose 21 = .ok (.imul, 1) := by decide +kernel
theorem dX3_standsToLose_22 : decode cX3_standsToLose 22 = .ok (.aload_n 1, 1) := by decide +kernel
theorem dX3_standsToLose_23 : decode cX3_standsToLose 23 = .ok (.getfield 94, 3) := by decide +kernel
theorem dX3_standsToLose_26 : decode cX3_standsToLose 26 = .ok (.idiv, 1) := by decide +kernel
theorem dX3_standsToLose_27 : decode cX3_standsToLose 27 = .ok (.ireturn, 1) := by decide +kernel
theorem dX3_worthOfAll_0 : decode cX3_worthOfAll 0 = .ok (.iconst 0, 1) := by decide +kernel
theorem dX3_worthOfAll_1 : decode cX3_worthOfAll 1 = .ok (.istore_n 1, 1) := by decide +kernel
theorem dX3_worthOfAll_2 : decode cX3_worthOfAll 2 = .ok (.iconst 0, 1) := by decide +kernel
theorem dX3_worthOfAll_3 : decode cX3_worthOfAll 3 = .ok (.istore_n 2, 1) := by decide +kernel
theorem dX3_worthOfAll_4 : decode cX3_worthOfAll 4 = .ok (.iload_n 2, 1) := by decide +kernel
theorem dX3_worthOfAll_5 : decode cX3_worthOfAll 5 = .ok (.bipush 64, 2) := by decide +kernel
theorem dX3_worthOfAll_7 : decode cX3_worthOfAll 7 = .ok (.if_icmp .ge 18, 3) := by decide +kernel
theorem dX3_worthOfAll_10 : decode cX3_worthOfAll 10 = .ok (.iload_n 1, 1) := by decide +kernel
theorem dX3_worthOfAll_11 : decode cX3_worthOfAll 11 = .ok (.aload_n 0, 1) := by decide +kernel
theorem dX3_worthOfAll_12 : decode cX3_worthOfAll 12 = .ok (.getfield 9, 3) := by decide +kernel
theorem dX3_worthOfAll_15 : decode cX3_worthOfAll 15 = .ok (.iload_n 2, 1) := by decide +kernel
theorem dX3_worthOfAll_16 : decode cX3_worthOfAll 16 = .ok (.iaload, 1) := by decide +kernel
theorem dX3_worthOfAll_17 : decode cX3_worthOfAll 17 = .ok (.iadd, 1) := by decide +kernel
theorem dX3_worthOfAll_18 : decode cX3_worthOfAll 18 = .ok (.istore_n 1, 1) := by decide +kernel
theorem dX3_worthOfAll_19 : decode cX3_worthOfAll 19 = .ok (.iinc 2 1, 3) := by decide +kernel
theorem dX3_worthOfAll_22 : decode cX3_worthOfAll 22 = .ok (.goto (-18), 3) := by decide +kernel
theorem dX3_worthOfAll_25 : decode cX3_worthOfAll 25 = .ok (.iload_n 1, 1) := by decide +kernel
theorem dX3_worthOfAll_26 : decode cX3_worthOfAll 26 = .ok (.ireturn, 1) := by decide +kernel
theorem dX3_endangeredPlots_0 : decode cX3_endangeredPlots 0 = .ok (.iconst 0, 1) := by decide +kernel
theorem dX3_endangeredPlots_1 : decode cX3_endangeredPlots 1 = .ok (.istore_n 2, 1) := by decide +kernel
theorem dX3_endangeredPlots_2 : decode cX3_endangeredPlots 2 = .ok (.iconst 0, 1) := by decide +kernel
theorem dX3_endangeredPlots_3 : decode cX3_endangeredPlots 3 = .ok (.istore_n 3, 1) := by decide +kernel
theorem dX3_endangeredPlots_4 : decode cX3_endangeredPlots 4 = .ok (.iload_n 3, 1) := by decide +kernel
theorem dX3_endangeredPlots_5 : decode cX3_endangeredPlots 5 = .ok (.bipush 64, 2) := by decide +kernel
theorem dX3_endangeredPlots_7 : decode cX3_endangeredPlots 7 = .ok (.if_icmp .ge 21, 3) := by decide +kernel
theorem dX3_endangeredPlots_10 : decode cX3_endangeredPlots 10 = .ok (.aload_n 0, 1) := by decide +kernel
theorem dX3_endangeredPlots_11 : decode cX3_endangeredPlots 11 = .ok (.aload_n 1, 1) := by decide +kernel
theorem dX3_endangeredPlots_12 : decode cX3_endangeredPlots 12 = .ok (.iload_n 3, 1) := by decide +kernel
theorem dX3_endangeredPlots_13 : decode cX3_endangeredPlots 13 = .ok (.invokevirtual 108, 3) := by decide +kernel
theorem dX3_endangeredPlots_16 : decode cX3_endangeredPlots 16 = .ok (.ifCond .eq 6, 3) := by decide +kernel
theorem dX3_endangeredPlots_19 : decode cX3_endangeredPlots 19 = .ok (.iinc 2 1, 3) := by decide +kernel
theorem dX3_endangeredPlots_22 : decode cX3_endangeredPlots 22 = .ok (.iinc 3 1, 3) := by decide +kernel
theorem dX3_endangeredPlots_25 : decode cX3_endangeredPlots 25 = .ok (.goto (-21), 3) := by decide +kernel
theorem dX3_endangeredPlots_28 : decode cX3_endangeredPlots 28 = .ok (.iload_n 2, 1) := by decide +kernel
theorem dX3_endangeredPlots_29 : decode cX3_endangeredPlots 29 = .ok (.ireturn, 1) := by decide +kernel
theorem dX3_doomedPlots_0 : decode cX3_doomedPlots 0 = .ok (.iconst 0, 1) := by decide +kernel
theorem dX3_doomedPlots_1 : decode cX3_doomedPlots 1 = .ok (.istore_n 2, 1) := by decide +kernel
theorem dX3_doomedPlots_2 : decode cX3_doomedPlots 2 = .ok (.iconst 0, 1) := by decide +kernel
theorem dX3_doomedPlots_3 : decode cX3_doomedPlots 3 = .ok (.istore_n 3, 1) := by decide +kernel
theorem dX3_doomedPlots_4 : decode cX3_doomedPlots 4 = .ok (.iload_n 3, 1) := by decide +kernel
theorem dX3_doomedPlots_5 : decode cX3_doomedPlots 5 = .ok (.bipush 64, 2) := by decide +kernel
theorem dX3_doomedPlots_7 : decode cX3_doomedPlots 7 = .ok (.if_icmp .ge 21, 3) := by decide +kernel
theorem dX3_doomedPlots_10 : decode cX3_doomedPlots 10 = .ok (.aload_n 0, 1) := by decide +kernel
theorem dX3_doomedPlots_11 : decode cX3_doomedPlots 11 = .ok (.aload_n 1, 1) := by decide +kernel
theorem dX3_doomedPlots_12 : decode cX3_doomedPlots 12 = .ok (.iload_n 3, 1) := by decide +kernel
theorem dX3_doomedPlots_13 : decode cX3_doomedPlots 13 = .ok (.invokevirtual 131, 3) := by decide +kernel
theorem dX3_doomedPlots_16 : decode cX3_doomedPlots 16 = .ok (.ifCond .eq 6, 3) := by decide +kernel
theorem dX3_doomedPlots_19 : decode cX3_doomedPlots 19 = .ok (.iinc 2 1, 3) := by decide +kernel
theorem dX3_doomedPlots_22 : decode cX3_doomedPlots 22 = .ok (.iinc 3 1, 3) := by decide +kernel
theorem dX3_doomedPlots_25 : decode cX3_doomedPlots 25 = .ok (.goto (-21), 3) := by decide +kernel
theorem dX3_doomedPlots_28 : decode cX3_doomedPlots 28 = .ok (.iload_n 2, 1) := by decide +kernel
theorem dX3_doomedPlots_29 : decode cX3_doomedPlots 29 = .ok (.ireturn, 1) := by decide +kernel
theorem dX3_allStandToLose_0 : decode cX3_allStandToLose 0 = .ok (.iconst 0, 1) := by decide +kernel
theorem dX3_allStandToLose_1 : decode cX3_allStandToLose 1 = .ok (.istore_n 2, 1) := by decide +kernel
theorem dX3_allStandToLose_2 : decode cX3_allStandToLose 2 = .ok (.iconst 0, 1) := by decide +kernel
theorem dX3_allStandToLose_3 : decode cX3_allStandToLose 3 = .ok (.istore_n 3, 1) := by decide +kernel
theorem dX3_allStandToLose_4 : decode cX3_allStandToLose 4 = .ok (.iload_n 3, 1) := by decide +kernel
theorem dX3_allStandToLose_5 : decode cX3_allStandToLose 5 = .ok (.bipush 64, 2) := by decide +kernel
theorem dX3_allStandToLose_7 : decode cX3_allStandToLose 7 = .ok (.if_icmp .ge 18, 3) := by decide +kernel
theorem dX3_allStandToLose_10 : decode cX3_allStandToLose 10 = .ok (.iload_n 2, 1) := by decide +kernel
theorem dX3_allStandToLose_11 : decode cX3_allStandToLose 11 = .ok (.aload_n 0, 1) := by decide +kernel
theorem dX3_allStandToLose_12 : decode cX3_allStandToLose 12 = .ok (.aload_n 1, 1) := by decide +kernel
theorem dX3_allStandToLose_13 : decode cX3_allStandToLose 13 = .ok (.iload_n 3, 1) := by decide +kernel
theorem dX3_allStandToLose_14 : decode cX3_allStandToLose 14 = .ok (.invokevirtual 122, 3) := by decide +kernel
theorem dX3_allStandToLose_17 : decode cX3_allStandToLose 17 = .ok (.iadd, 1) := by decide +kernel
theorem dX3_allStandToLose_18 : decode cX3_allStandToLose 18 = .ok (.istore_n 2, 1) := by decide +kernel
theorem dX3_allStandToLose_19 : decode cX3_allStandToLose 19 = .ok (.iinc 3 1, 3) := by decide +kernel
theorem dX3_allStandToLose_22 : decode cX3_allStandToLose 22 = .ok (.goto (-18), 3) := by decide +kernel
theorem dX3_allStandToLose_25 : decode cX3_allStandToLose 25 = .ok (.iload_n 2, 1) := by decide +kernel
theorem dX3_allStandToLose_26 : decode cX3_allStandToLose 26 = .ok (.ireturn, 1) := by decide +kernel
theorem dX3_felledPlots_0 : decode cX3_felledPlots 0 = .ok (.iconst 0, 1) := by decide +kernel
theorem dX3_felledPlots_1 : decode cX3_felledPlots 1 = .ok (.istore_n 1, 1) := by decide +kernel
theorem dX3_felledPlots_2 : decode cX3_felledPlots 2 = .ok (.iconst 0, 1) := by decide +kernel
theorem dX3_felledPlots_3 : decode cX3_felledPlots 3 = .ok (.istore_n 2, 1) := by decide +kernel
theorem dX3_felledPlots_4 : decode cX3_felledPlots 4 = .ok (.iload_n 2, 1) := by decide +kernel
theorem dX3_felledPlots_5 : decode cX3_felledPlots 5 = .ok (.bipush 64, 2) := by decide +kernel
theorem dX3_felledPlots_7 : decode cX3_felledPlots 7 = .ok (.if_icmp .ge 21, 3) := by decide +kernel
theorem dX3_felledPlots_10 : decode cX3_felledPlots 10 = .ok (.aload_n 0, 1) := by decide +kernel
theorem dX3_felledPlots_11 : decode cX3_felledPlots 11 = .ok (.getfield 15, 3) := by decide +kernel
theorem dX3_felledPlots_14 : decode cX3_felledPlots 14 = .ok (.iload_n 2, 1) := by decide +kernel
theorem dX3_felledPlots_15 : decode cX3_felledPlots 15 = .ok (.baload, 1) := by decide +kernel
theorem dX3_felledPlots_16 : decode cX3_felledPlots 16 = .ok (.ifCond .eq 6, 3) := by decide +kernel
theorem dX3_felledPlots_19 : decode cX3_felledPlots 19 = .ok (.iinc 1 1, 3) := by decide +kernel
theorem dX3_felledPlots_22 : decode cX3_felledPlots 22 = .ok (.iinc 2 1, 3) := by decide +kernel
theorem dX3_felledPlots_25 : decode cX3_felledPlots 25 = .ok (.goto (-21), 3) := by decide +kernel
theorem dX3_felledPlots_28 : decode cX3_felledPlots 28 = .ok (.iload_n 1, 1) := by decide +kernel
theorem dX3_felledPlots_29 : decode cX3_felledPlots 29 = .ok (.ireturn, 1) := by decide +kernel
theorem dX3_hintsTold_0 : decode cX3_hintsTold 0 = .ok (.iconst 0, 1) := by decide +kernel
theorem dX3_hintsTold_1 : decode cX3_hintsTold 1 = .ok (.istore_n 1, 1) := by decide +kernel
theorem dX3_hintsTold_2 : decode cX3_hintsTold 2 = .ok (.iconst 0, 1) := by decide +kernel
theorem dX3_hintsTold_3 : decode cX3_hintsTold 3 = .ok (.istore_n 2, 1) := by decide +kernel
theorem dX3_hintsTold_4 : decode cX3_hintsTold 4 = .ok (.iload_n 2, 1) := by decide +kernel
theorem dX3_hintsTold_5 : decode cX3_hintsTold 5 = .ok (.bipush 8, 2) := by decide +kernel
theorem dX3_hintsTold_7 : decode cX3_hintsTold 7 = .ok (.if_icmp .ge 23, 3) := by decide +kernel
theorem dX3_hintsTold_10 : decode cX3_hintsTold 10 = .ok (.aload_n 0, 1) := by decide +kernel
theorem dX3_hintsTold_11 : decode cX3_hintsTold 11 = .ok (.getfield 31, 3) := by decide +kernel
theorem dX3_hintsTold_14 : decode cX3_hintsTold 14 = .ok (.iload_n 2, 1) := by decide +kernel
theorem dX3_hintsTold_15 : decode cX3_hintsTold 15 = .ok (.iaload, 1) := by decide +kernel
theorem dX3_hintsTold_16 : decode cX3_hintsTold 16 = .ok (.bipush (-5), 2) := by decide +kernel
theorem dX3_hintsTold_18 : decode cX3_hintsTold 18 = .ok (.if_icmp .eq 6, 3) := by decide +kernel
theorem dX3_hintsTold_21 : decode cX3_hintsTold 21 = .ok (.iinc 1 1, 3) := by decide +kernel
theorem dX3_hintsTold_24 : decode cX3_hintsTold 24 = .ok (.iinc 2 1, 3) := by decide +kernel
theorem dX3_hintsTold_27 : decode cX3_hintsTold 27 = .ok (.goto (-23), 3) := by decide +kernel
theorem dX3_hintsTold_30 : decode cX3_hintsTold 30 = .ok (.iload_n 1, 1) := by decide +kernel
theorem dX3_hintsTold_31 : decode cX3_hintsTold 31 = .ok (.ireturn, 1) := by decide +kernel
theorem dX3_savedByAll_0 : decode cX3_savedByAll 0 = .ok (.iconst 0, 1) := by decide +kernel
theorem dX3_savedByAll_1 : decode cX3_savedByAll 1 = .ok (.istore_n 1, 1) := by decide +kernel
theorem dX3_savedByAll_2 : decode cX3_savedByAll 2 = .ok (.iconst 0, 1) := by decide +kernel
theorem dX3_savedByAll_3 : decode cX3_savedByAll 3 = .ok (.istore_n 2, 1) := by decide +kernel
theorem dX3_savedByAll_4 : decode cX3_savedByAll 4 = .ok (.iload_n 2, 1) := by decide +kernel
theorem dX3_savedByAll_5 : decode cX3_savedByAll 5 = .ok (.iconst 3, 1) := by decide +kernel
theorem dX3_savedByAll_6 : decode cX3_savedByAll 6 = .ok (.if_icmp .ge 18, 3) := by decide +kernel
theorem dX3_savedByAll_9 : decode cX3_savedByAll 9 = .ok (.iload_n 1, 1) := by decide +kernel
theorem dX3_savedByAll_10 : decode cX3_savedByAll 10 = .ok (.aload_n 0, 1) := by decide +kernel
theorem dX3_savedByAll_11 : decode cX3_savedByAll 11 = .ok (.getfield 25, 3) := by decide +kernel
theorem dX3_savedByAll_14 : decode cX3_savedByAll 14 = .ok (.iload_n 2, 1) := by decide +kernel
theorem dX3_savedByAll_15 : decode cX3_savedByAll 15 = .ok (.iaload, 1) := by decide +kernel
theorem dX3_savedByAll_16 : decode cX3_savedByAll 16 = .ok (.iadd, 1) := by decide +kernel
theorem dX3_savedByAll_17 : decode cX3_savedByAll 17 = .ok (.istore_n 1, 1) := by decide +kernel
theorem dX3_savedByAll_18 : decode cX3_savedByAll 18 = .ok (.iinc 2 1, 3) := by decide +kernel
theorem dX3_savedByAll_21 : decode cX3_savedByAll 21 = .ok (.goto (-17), 3) := by decide +kernel
theorem dX3_savedByAll_24 : decode cX3_savedByAll 24 = .ok (.iload_n 1, 1) := by decide +kernel
theorem dX3_savedByAll_25 : decode cX3_savedByAll 25 = .ok (.ireturn, 1) := by decide +kernel
theorem dX4_init_0 : decode cX4_init 0 = .ok (.aload_n 0, 1) := by decide +kernel
theorem dX4_init_1 : decode cX4_init 1 = .ok (.invokespecial 1, 3) := by decide +kernel
theorem dX4_init_4 : decode cX4_init 4 = .ok (.aload_n 0, 1) := by decide +kernel
theorem dX4_init_5 : decode cX4_init 5 = .ok (.new 7, 3) := by decide +kernel
theorem dX4_init_8 : decode cX4_init 8 = .ok (.dup, 1) := by decide +kernel
theorem dX4_init_9 : decode cX4_init 9 = .ok (.invokespecial 9, 3) := by decide +kernel
theorem dX4_init_12 : decode cX4_init 12 = .ok (.putfield 10, 3) := by decide +kernel
theorem dX4_init_15 : decode cX4_init 15 = .ok (.aload_n 0, 1) := by decide +kernel
theorem dX4_init_16 : decode cX4_init 16 = .ok (.new 7, 3) := by decide +kernel
theorem dX4_init_19 : decode cX4_init 19 = .ok (.dup, 1) := by decide +kernel
theorem dX4_init_20 : decode cX4_init 20 = .ok (.invokespecial 9, 3) := by decide +kernel
theorem dX4_init_23 : decode cX4_init 23 = .ok (.putfield 16, 3) := by decide +kernel
theorem dX4_init_26 : decode cX4_init 26 = .ok (.aload_n 0, 1) := by decide +kernel
theorem dX4_init_27 : decode cX4_init 27 = .ok (.new 7, 3) := by decide +kernel
theorem dX4_init_30 : decode cX4_init 30 = .ok (.dup, 1) := by decide +kernel
theorem dX4_init_31 : decode cX4_init 31 = .ok (.invokespecial 9, 3) := by decide +kernel
theorem dX4_init_34 : decode cX4_init 34 = .ok (.putfield 19, 3) := by decide +kernel
theorem dX4_init_37 : decode cX4_init 37 = .ok (.aload_n 0, 1) := by decide +kernel
theorem dX4_init_38 : decode cX4_init 38 = .ok (.new 22, 3) := by decide +kernel
theorem dX4_init_41 : decode cX4_init 41 = .ok (.dup, 1) := by decide +kernel
theorem dX4_init_42 : decode cX4_init 42 = .ok (.invokespecial 24, 3) := by decide +kernel
theorem dX4_init_45 : decode cX4_init 45 = .ok (.putfield 25, 3) := by decide +kernel
theorem dX4_init_48 : decode cX4_init 48 = .ok (.aload_n 0, 1) := by decide +kernel
theorem dX4_init_49 : decode cX4_init 49 = .ok (.new 29, 3) := by decide +kernel
theorem dX4_init_52 : decode cX4_init 52 = .ok (.dup, 1) := by decide +kernel
theorem dX4_init_53 : decode cX4_init 53 = .ok (.invokespecial 31, 3) := by decide +kernel
theorem dX4_init_56 : decode cX4_init 56 = .ok (.putfield 32, 3) := by decide +kernel
theorem dX4_init_59 : decode cX4_init 59 = .ok (.aload_n 0, 1) := by decide +kernel
theorem dX4_init_60 : decode cX4_init 60 = .ok (.new 36, 3) := by decide +kernel
theorem dX4_init_63 : decode cX4_init 63 = .ok (.dup, 1) := by decide +kernel
theorem dX4_init_64 : decode cX4_init 64 = .ok (.invokespecial 38, 3) := by decide +kernel
theorem dX4_init_67 : decode cX4_init 67 = .ok (.putfield 39, 3) := by decide +kernel
theorem dX4_init_70 : decode cX4_init 70 = .ok (.return_, 1) := by decide +kernel
theorem dX4_grow_0 : decode cX4_grow 0 = .ok (.aload_n 0, 1) := by decide +kernel
theorem dX4_grow_1 : decode cX4_grow 1 = .ok (.getfield 16, 3) := by decide +kernel
theorem dX4_grow_4 : decode cX4_grow 4 = .ok (.aload_n 0, 1) := by decide +kernel
theorem dX4_grow_5 : decode cX4_grow 5 = .ok (.getfield 10, 3) := by decide +kernel
theorem dX4_grow_8 : decode cX4_grow 8 = .ok (.invokevirtual 43, 3) := by decide +kernel
theorem dX4_grow_11 : decode cX4_grow 11 = .ok (.aload_n 0, 1) := by decide +kernel
theorem dX4_grow_12 : decode cX4_grow 12 = .ok (.aload_n 0, 1) := by decide +kernel
theorem dX4_grow_13 : decode cX4_grow 13 = .ok (.getfield 10, 3) := by decide +kernel
theorem dX4_grow_16 : decode cX4_grow 16 = .ok (.iload_n 1, 1) := by decide +kernel
theorem dX4_grow_17 : decode cX4_grow 17 = .ok (.iload_n 2, 1) := by decide +kernel
theorem dX4_grow_18 : decode cX4_grow 18 = .ok (.invokevirtual 47, 3) := by decide +kernel
theorem dX4_grow_21 : decode cX4_grow 21 = .ok (.invokevirtual 51, 3) := by decide +kernel
theorem dX4_grow_24 : decode cX4_grow 24 = .ok (.ireturn, 1) := by decide +kernel
theorem dX4_rain_0 : decode cX4_rain 0 = .ok (.aload_n 0, 1) := by decide +kernel
theorem dX4_rain_1 : decode cX4_rain 1 = .ok (.getfield 16, 3) := by decide +kernel
theorem dX4_rain_4 : decode cX4_rain 4 = .ok (.aload_n 0, 1) := by decide +kernel
theorem dX4_rain_5 : decode cX4_rain 5 = .ok (.getfield 10, 3) := by decide +kernel
theorem dX4_rain_8 : decode cX4_rain 8 = .ok (.invokevirtual 43, 3) := by decide +kernel
theorem dX4_rain_11 : decode cX4_rain 11 = .ok (.aload_n 0, 1) := by decide +kernel
theorem dX4_rain_12 : decode cX4_rain 12 = .ok (.aload_n 0, 1) := by decide +kernel
theorem dX4_rain_13 : decode cX4_rain 13 = .ok (.getfield 10, 3) := by decide +kernel
theorem dX4_rain_16 : decode cX4_rain 16 = .ok (.iload_n 1, 1) := by decide +kernel
theorem dX4_rain_17 : decode cX4_rain 17 = .ok (.invokevirtual 55, 3) := by decide +kernel
theorem dX4_rain_20 : decode cX4_rain 20 = .ok (.invokevirtual 51, 3) := by decide +kernel
theorem dX4_rain_23 : decode cX4_rain 23 = .ok (.ireturn, 1) := by decide +kernel
theorem dX4_endDays_0 : decode cX4_endDays 0 = .ok (.aload_n 0, 1) := by decide +kernel
theorem dX4_endDays_1 : decode cX4_endDays 1 = .ok (.getfield 16, 3) := by decide +kernel
theorem dX4_endDays_4 : decode cX4_endDays 4 = .ok (.aload_n 0, 1) := by decide +kernel
theorem dX4_endDays_5 : decode cX4_endDays 5 = .ok (.getfield 10, 3) := by decide +kernel
theorem dX4_endDays_8 : decode cX4_endDays 8 = .ok (.invokevirtual 43, 3) := by decide +kernel
theorem dX4_endDays_11 : decode cX4_endDays 11 = .ok (.aload_n 0, 1) := by decide +kernel
theorem dX4_endDays_12 : decode cX4_endDays 12 = .ok (.aload_n 0, 1) := by decide +kernel
theorem dX4_endDays_13 : decode cX4_endDays 13 = .ok (.getfield 10, 3) := by decide +kernel
theorem dX4_endDays_16 : decode cX4_endDays 16 = .ok (.iload_n 1, 1) := by decide +kernel
theorem dX4_endDays_17 : decode cX4_endDays 17 = .ok (.invokevirtual 58, 3) := by decide +kernel
theorem dX4_endDays_20 : decode cX4_endDays 20 = .ok (.invokevirtual 51, 3) := by decide +kernel
theorem dX4_endDays_23 : decode cX4_endDays 23 = .ok (.ireturn, 1) := by decide +kernel
theorem dX4_set_0 : decode cX4_set 0 = .ok (.aload_n 0, 1) := by decide +kernel
theorem dX4_set_1 : decode cX4_set 1 = .ok (.getfield 16, 3) := by decide +kernel
theorem dX4_set_4 : decode cX4_set 4 = .ok (.aload_n 0, 1) := by decide +kernel
theorem dX4_set_5 : decode cX4_set 5 = .ok (.getfield 10, 3) := by decide +kernel
theorem dX4_set_8 : decode cX4_set 8 = .ok (.invokevirtual 43, 3) := by decide +kernel
theorem dX4_set_11 : decode cX4_set 11 = .ok (.aload_n 0, 1) := by decide +kernel
theorem dX4_set_12 : decode cX4_set 12 = .ok (.aload_n 0, 1) := by decide +kernel
theorem dX4_set_13 : decode cX4_set 13 = .ok (.getfield 10, 3) := by decide +kernel
theorem dX4_set_16 : decode cX4_set 16 = .ok (.iload_n 1, 1) := by decide +kernel
theorem dX4_set_17 : decode cX4_set 17 = .ok (.iload_n 2, 1) := by decide +kernel
theorem dX4_set_18 : decode cX4_set 18 = .ok (.invokevirtual 61, 3) := by decide +kernel
theorem dX4_set_21 : decode cX4_set 21 = .ok (.invokevirtual 51, 3) := by decide +kernel
theorem dX4_set_24 : decode cX4_set 24 = .ok (.ireturn, 1) := by decide +kernel
theorem dX4_go_0 : decode cX4_go 0 = .ok (.aload_n 0, 1) := by decide +kernel
theorem dX4_go_1 : decode cX4_go 1 = .ok (.getfield 16, 3) := by decide +kernel
theorem dX4_go_4 : decode cX4_go 4 = .ok (.aload_n 0, 1) := by decide +kernel
theorem dX4_go_5 : decode cX4_go 5 = .ok (.getfield 10, 3) := by decide +kernel
theorem dX4_go_8 : decode cX4_go 8 = .ok (.invokevirtual 43, 3) := by decide +kernel
theorem dX4_go_11 : decode cX4_go 11 = .ok (.aload_n 0, 1) := by decide +kernel
theorem dX4_go_12 : decode cX4_go 12 = .ok (.aload_n 0, 1) := by decide +kernel
theorem dX4_go_13 : decode cX4_go 13 = .ok (.getfield 10, 3) := by decide +kernel
theorem dX4_go_16 : decode cX4_go 16 = .ok (.iload_n 1, 1) := by decide +kernel
theorem dX4_go_17 : decode cX4_go 17 = .ok (.iload_n 2, 1) := by decide +kernel
theorem dX4_go_18 : decode cX4_go 18 = .ok (.invokevirtual 64, 3) := by decide +kernel
theorem dX4_go_21 : decode cX4_go 21 = .ok (.invokevirtual 51, 3) := by decide +kernel
theorem dX4_go_24 : decode cX4_go 24 = .ok (.ireturn, 1) := by decide +kernel
theorem dX4_fell_0 : decode cX4_fell 0 = .ok (.aload_n 0, 1) := by decide +kernel
theorem dX4_fell_1 : decode cX4_fell 1 = .ok (.getfield 16, 3) := by decide +kernel
theorem dX4_fell_4 : decode cX4_fell 4 = .ok (.aload_n 0, 1) := by decide +kernel
theorem dX4_fell_5 : decode cX4_fell 5 = .ok (.getfield 10, 3) := by decide +kernel
theorem dX4_fell_8 : decode cX4_fell 8 = .ok (.invokevirtual 43, 3) := by decide +kernel
theorem dX4_fell_11 : decode cX4_fell 11 = .ok (.aload_n 0, 1) := by decide +kernel
theorem dX4_fell_12 : decode cX4_fell 12 = .ok (.aload_n 0, 1) := by decide +kernel
theorem dX4_fell_13 : decode cX4_fell 13 = .ok (.getfield 10, 3) := by decide +kernel
theorem dX4_fell_16 : decode cX4_fell 16 = .ok (.iload_n 1, 1) := by decide +kernel
theorem dX4_fell_17 : decode cX4_fell 17 = .ok (.invokevirtual 67, 3) := by decide +kernel
theorem dX4_fell_20 : decode cX4_fell 20 = .ok (.invokevirtual 51, 3) := by decide +kernel
theorem dX4_fell_23 : decode cX4_fell 23 = .ok (.ireturn, 1) := by decide +kernel
theorem dX4_hint_0 : decode cX4_hint 0 = .ok (.aload_n 0, 1) := by decide +kernel
theorem dX4_hint_1 : decode cX4_hint 1 = .ok (.getfield 16, 3) := by decide +kernel
theorem dX4_hint_4 : decode cX4_hint 4 = .ok (.aload_n 0, 1) := by decide +kernel
theorem dX4_hint_5 : decode cX4_hint 5 = .ok (.getfield 10, 3) := by decide +kernel
theorem dX4_hint_8 : decode cX4_hint 8 = .ok (.invokevirtual 43, 3) := by decide +kernel
theorem dX4_hint_11 : decode cX4_hint 11 = .ok (.aload_n 0, 1) := by decide +kernel
theorem dX4_hint_12 : decode cX4_hint 12 = .ok (.aload_n 0, 1) := by decide +kernel
theorem dX4_hint_13 : decode cX4_hint 13 = .ok (.getfield 10, 3) := by decide +kernel
theorem dX4_hint_16 : decode cX4_hint 16 = .ok (.aload_n 0, 1) := by decide +kernel
theorem dX4_hint_17 : decode cX4_hint 17 = .ok (.invokevirtual 70, 3) := by decide +kernel
theorem dX4_hint_20 : decode cX4_hint 20 = .ok (.iload_n 1, 1) := by decide +kernel
theorem dX4_hint_21 : decode cX4_hint 21 = .ok (.iload_n 2, 1) := by decide +kernel
theorem dX4_hint_22 : decode cX4_hint 22 = .ok (.invokevirtual 74, 3) := by decide +kernel
theorem dX4_hint_25 : decode cX4_hint 25 = .ok (.invokevirtual 51, 3) := by decide +kernel
theorem dX4_hint_28 : decode cX4_hint 28 = .ok (.ireturn, 1) := by decide +kernel
theorem dX4_takeBack_0 : decode cX4_takeBack 0 = .ok (.aload_n 0, 1) := by decide +kernel
theorem dX4_takeBack_1 : decode cX4_takeBack 1 = .ok (.getfield 16, 3) := by decide +kernel
theorem dX4_takeBack_4 : decode cX4_takeBack 4 = .ok (.aload_n 0, 1) := by decide +kernel
theorem dX4_takeBack_5 : decode cX4_takeBack 5 = .ok (.getfield 10, 3) := by decide +kernel
theorem dX4_takeBack_8 : decode cX4_takeBack 8 = .ok (.invokevirtual 43, 3) := by decide +kernel
theorem dX4_takeBack_11 : decode cX4_takeBack 11 = .ok (.aload_n 0, 1) := by decide +kernel
theorem dX4_takeBack_12 : decode cX4_takeBack 12 = .ok (.aload_n 0, 1) := by decide +kernel
theorem dX4_takeBack_13 : decode cX4_takeBack 13 = .ok (.getfield 10, 3) := by decide +kernel
theorem dX4_takeBack_16 : decode cX4_takeBack 16 = .ok (.aload_n 0, 1) := by decide +kernel
theorem dX4_takeBack_17 : decode cX4_takeBack 17 = .ok (.getfield 32, 3) := by decide +kernel
theorem dX4_takeBack_20 : decode cX4_takeBack 20 = .ok (.iload_n 1, 1) := by decide +kernel
theorem dX4_takeBack_21 : decode cX4_takeBack 21 = .ok (.invokevirtual 78, 3) := by decide +kernel
theorem dX4_takeBack_24 : decode cX4_takeBack 24 = .ok (.invokevirtual 51, 3) := by decide +kernel
theorem dX4_takeBack_27 : decode cX4_takeBack 27 = .ok (.ireturn, 1) := by decide +kernel
theorem dX4_storm_0 : decode cX4_storm 0 = .ok (.aload_n 0, 1) := by decide +kernel
theorem dX4_storm_1 : decode cX4_storm 1 = .ok (.getfield 16, 3) := by decide +kernel
theorem dX4_storm_4 : decode cX4_storm 4 = .ok (.aload_n 0, 1) := by decide +kernel
theorem dX4_storm_5 : decode cX4_storm 5 = .ok (.getfield 10, 3) := by decide +kernel
theorem dX4_storm_8 : decode cX4_storm 8 = .ok (.invokevirtual 43, 3) := by decide +kernel
theorem dX4_storm_11 : decode cX4_storm 11 = .ok (.aload_n 0, 1) := by decide +kernel
theorem dX4_storm_12 : decode cX4_storm 12 = .ok (.aload_n 0, 1) := by decide +kernel
theorem dX4_storm_13 : decode cX4_storm 13 = .ok (.getfield 10, 3) := by decide +kernel
theorem dX4_storm_16 : decode cX4_storm 16 = .ok (.aload_n 0, 1) := by decide +kernel
theorem dX4_storm_17 : decode cX4_storm 17 = .ok (.invokevirtual 70, 3) := by decide +kernel
theorem dX4_storm_20 : decode cX4_storm 20 = .ok (.invokevirtual 82, 3) := by decide +kernel
theorem dX4_storm_23 : decode cX4_storm 23 = .ok (.invokevirtual 51, 3) := by decide +kernel
theorem dX4_storm_26 : decode cX4_storm 26 = .ok (.ireturn, 1) := by decide +kernel
theorem dX4_clearText_0 : decode cX4_clearText 0 = .ok (.aload_n 0, 1) := by decide +kernel
theorem dX4_clearText_1 : decode cX4_clearText 1 = .ok (.getfield 39, 3) := by decide +kernel
theorem dX4_clearText_4 : decode cX4_clearText 4 = .ok (.invokevirtual 90, 3) := by decide +kernel
theorem dX4_clearText_7 : decode cX4_clearText 7 = .ok (.ireturn, 1) := by decide +kernel
theorem dX4_perform_0 : decode cX4_perform 0 = .ok (.aload_n 0, 1) := by decide +kernel
theorem dX4_perform_1 : decode cX4_perform 1 = .ok (.getfield 39, 3) := by decide +kernel
theorem dX4_perform_4 : decode cX4_perform 4 = .ok (.invokevirtual 94, 3) := by decide +kernel
theorem dX4_perform_7 : decode cX4_perform 7 = .ok (.istore_n 1, 1) := by decide +kernel
theorem dX4_perform_8 : decode cX4_perform 8 = .ok (.iload_n 1, 1) := by decide +kernel
theorem dX4_perform_9 : decode cX4_perform 9 = .ok (.ifCond .ge 5, 3) := by decide +kernel
theorem dX4_perform_12 : decode cX4_perform 12 = .ok (.iload_n 1, 1) := by decide +kernel
theorem dX4_perform_13 : decode cX4_perform 13 = .ok (.ireturn, 1) := by decide +kernel
theorem dX4_perform_14 : decode cX4_perform 14 = .ok (.aload_n 0, 1) := by decide +kernel
theorem dX4_perform_15 : decode cX4_perform 15 = .ok (.getfield 16, 3) := by decide +kernel
theorem dX4_perform_18 : decode cX4_perform 18 = .ok (.aload_n 0, 1) := by decide +kernel
theorem dX4_perform_19 : decode cX4_perform 19 = .ok (.getfield 10, 3) := by decide +kernel
theorem dX4_perform_22 : decode cX4_perform 22 = .ok (.invokevirtual 43, 3) := by decide +kernel
theorem dX4_perform_25 : decode cX4_perform 25 = .ok (.aload_n 0, 1) := by decide +kernel
theorem dX4_perform_26 : decode cX4_perform 26 = .ok (.getfield 39, 3) := by decide +kernel
theorem dX4_perform_29 : decode cX4_perform 29 = .ok (.invokevirtual 97, 3) := by decide +kernel
theorem dX4_perform_32 : decode cX4_perform 32 = .ok (.iconst 0, 1) := by decide +kernel
theorem dX4_perform_33 : decode cX4_perform 33 = .ok (.istore_n 2, 1) := by decide +kernel
theorem dX4_perform_34 : decode cX4_perform 34 = .ok (.iload_n 2, 1) := by decide +kernel
theorem dX4_perform_35 : decode cX4_perform 35 = .ok (.iload_n 1, 1) := by decide +kernel
theorem dX4_perform_36 : decode cX4_perform 36 = .ok (.if_icmp .ge 52, 3) := by decide +kernel
theorem dX4_perform_39 : decode cX4_perform 39 = .ok (.aload_n 0, 1) := by decide +kernel
theorem dX4_perform_40 : decode cX4_perform 40 = .ok (.getfield 39, 3) := by decide +kernel
theorem dX4_perform_43 : decode cX4_perform 43 = .ok (.invokevirtual 100, 3) := by decide +kernel
theorem dX4_perform_46 : decode cX4_perform 46 = .ok (.aload_n 0, 1) := by decide +kernel
theorem dX4_perform_47 : decode cX4_perform 47 = .ok (.invokevirtual 103, 3) := by decide +kernel
theorem dX4_perform_50 : decode cX4_perform 50 = .ok (.istore_n 3, 1) := by decide +kernel
theorem dX4_perform_51 : decode cX4_perform 51 = .ok (.iload_n 3, 1) := by decide +kernel
theorem dX4_perform_52 : decode cX4_perform 52 = .ok (.invokestatic 106, 3) := by decide +kernel
theorem dX4_perform_55 : decode cX4_perform 55 = .ok (.ifCond .eq 27, 3) := by decide +kernel
theorem dX4_perform_58 : decode cX4_perform 58 = .ok (.aload_n 0, 1) := by decide +kernel
theorem dX4_perform_59 : decode cX4_perform 59 = .ok (.getfield 10, 3) := by decide +kernel
theorem dX4_perform_62 : decode cX4_perform 62 = .ok (.aload_n 0, 1) := by decide +kernel
theorem dX4_perform_63 : decode cX4_perform 63 = .ok (.getfield 16, 3) := by decide +kernel
theorem dX4_perform_66 : decode cX4_perform 66 = .ok (.invokevirtual 43, 3) := by decide +kernel
theorem dX4_perform_69 : decode cX4_perform 69 = .ok (.aload_n 0, 1) := by decide +kernel
theorem dX4_perform_70 : decode cX4_perform 70 = .ok (.iload_n 2, 1) := by decide +kernel
theorem dX4_perform_71 : decode cX4_perform 71 = .ok (.putfield 110, 3) := by decide +kernel
theorem dX4_perform_74 : decode cX4_perform 74 = .ok (.aload_n 0, 1) := by decide +kernel
theorem dX4_perform_75 : decode cX4_perform 75 = .ok (.iload_n 3, 1) := by decide +kernel
theorem dX4_perform_76 : decode cX4_perform 76 = .ok (.putfield 114, 3) := by decide +kernel
theorem dX4_perform_79 : decode cX4_perform 79 = .ok (.bipush (-4), 2) := by decide +kernel
theorem dX4_perform_81 : decode cX4_perform 81 = .ok (.ireturn, 1) := by decide +kernel
theorem dX4_perform_82 : decode cX4_perform 82 = .ok (.iinc 2 1, 3) := by decide +kernel
theorem dX4_perform_85 : decode cX4_perform 85 = .ok (.goto (-51), 3) := by decide +kernel
theorem dX4_perform_88 : decode cX4_perform 88 = .ok (.aload_n 0, 1) := by decide +kernel
theorem dX4_perform_89 : decode cX4_perform 89 = .ok (.iload_n 1, 1) := by decide +kernel
theorem dX4_perform_90 : decode cX4_perform 90 = .ok (.invokevirtual 51, 3) := by decide +kernel
theorem dX4_perform_93 : decode cX4_perform 93 = .ok (.ireturn, 1) := by decide +kernel
theorem dX4_stopped_0 : decode cX4_stopped 0 = .ok (.iload_n 1, 1) := by decide +kernel
theorem dX4_stopped_1 : decode cX4_stopped 1 = .ok (.iconst 0, 1) := by decide +kernel
theorem dX4_stopped_2 : decode cX4_stopped 2 = .ok (.iconst 1, 1) := by decide +kernel
theorem dX4_stopped_3 : decode cX4_stopped 3 = .ok (.invokestatic 117, 3) := by decide +kernel
theorem dX4_stopped_6 : decode cX4_stopped 6 = .ok (.ifCond .ne 6, 3) := by decide +kernel
theorem dX4_stopped_9 : decode cX4_stopped 9 = .ok (.bipush (-2), 2) := by decide +kernel
theorem dX4_stopped_11 : decode cX4_stopped 11 = .ok (.ireturn, 1) := by decide +kernel
theorem dX4_stopped_12 : decode cX4_stopped 12 = .ok (.aload_n 0, 1) := by decide +kernel
theorem dX4_stopped_13 : decode cX4_stopped 13 = .ok (.getfield 114, 3) := by decide +kernel
theorem dX4_stopped_16 : decode cX4_stopped 16 = .ok (.ifCond .ne 6, 3) := by decide +kernel
theorem dX4_stopped_19 : decode cX4_stopped 19 = .ok (.bipush (-5), 2) := by decide +kernel
theorem dX4_stopped_21 : decode cX4_stopped 21 = .ok (.ireturn, 1) := by decide +kernel
theorem dX4_stopped_22 : decode cX4_stopped 22 = .ok (.iload_n 1, 1) := by decide +kernel
theorem dX4_stopped_23 : decode cX4_stopped 23 = .ok (.ifCond .ne 10, 3) := by decide +kernel
theorem dX4_stopped_26 : decode cX4_stopped 26 = .ok (.aload_n 0, 1) := by decide +kernel
theorem dX4_stopped_27 : decode cX4_stopped 27 = .ok (.getfield 110, 3) := by decide +kernel
theorem dX4_stopped_30 : decode cX4_stopped 30 = .ok (.goto 7, 3) := by decide +kernel
theorem dX4_stopped_33 : decode cX4_stopped 33 = .ok (.aload_n 0, 1) := by decide +kernel
theorem dX4_stopped_34 : decode cX4_stopped 34 = .ok (.getfield 114, 3) := by decide +kernel
theorem dX4_stopped_37 : decode cX4_stopped 37 = .ok (.ireturn, 1) := by decide +kernel
theorem dX4_undo_0 : decode cX4_undo 0 = .ok (.aload_n 0, 1) := by decide +kernel
theorem dX4_undo_1 : decode cX4_undo 1 = .ok (.getfield 25, 3) := by decide +kernel
theorem dX4_undo_4 : decode cX4_undo 4 = .ok (.aload_n 0, 1) := by decide +kernel
theorem dX4_undo_5 : decode cX4_undo 5 = .ok (.getfield 10, 3) := by decide +kernel
theorem dX4_undo_8 : decode cX4_undo 8 = .ok (.invokevirtual 121, 3) := by decide +kernel
theorem dX4_undo_11 : decode cX4_undo 11 = .ok (.ifCond .eq 13, 3) := by decide +kernel
theorem dX4_undo_14 : decode cX4_undo 14 = .ok (.aload_n 0, 1) := by decide +kernel
theorem dX4_undo_15 : decode cX4_undo 15 = .ok (.getfield 25, 3) := by decide +kernel
theorem dX4_undo_18 : decode cX4_undo 18 = .ok (.getfield 125, 3) := by decide +kernel
theorem dX4_undo_21 : decode cX4_undo 21 = .ok (.goto 5, 3) := by decide +kernel
theorem dX4_undo_24 : decode cX4_undo 24 = .ok (.bipush (-5), 2) := by decide +kernel
theorem dX4_undo_26 : decode cX4_undo 26 = .ok (.ireturn, 1) := by decide +kernel
theorem dX4_keep_0 : decode cX4_keep 0 = .ok (.aload_n 0, 1) := by decide +kernel
theorem dX4_keep_1 : decode cX4_keep 1 = .ok (.getfield 19, 3) := by decide +kernel
theorem dX4_keep_4 : decode cX4_keep 4 = .ok (.aload_n 0, 1) := by decide +kernel
theorem dX4_keep_5 : decode cX4_keep 5 = .ok (.getfield 10, 3) := by decide +kernel
theorem dX4_keep_8 : decode cX4_keep 8 = .ok (.invokevirtual 43, 3) := by decide +kernel
theorem dX4_keep_11 : decode cX4_keep 11 = .ok (.aload_n 0, 1) := by decide +kernel
theorem dX4_keep_12 : decode cX4_keep 12 = .ok (.iconst 1, 1) := by decide +kernel
theorem dX4_keep_13 : decode cX4_keep 13 = .ok (.putfield 128, 3) := by decide +kernel
theorem dX4_keep_16 : decode cX4_keep 16 = .ok (.aload_n 0, 1) := by decide +kernel
theorem dX4_keep_17 : decode cX4_keep 17 = .ok (.getfield 10, 3) := by decide +kernel
theorem dX4_keep_20 : decode cX4_keep 20 = .ok (.getfield 132, 3) := by decide +kernel
theorem dX4_keep_23 : decode cX4_keep 23 = .ok (.ireturn, 1) := by decide +kernel
theorem dX4_restore_0 : decode cX4_restore 0 = .ok (.aload_n 0, 1) := by decide +kernel
theorem dX4_restore_1 : decode cX4_restore 1 = .ok (.getfield 128, 3) := by decide +kernel
theorem dX4_restore_4 : decode cX4_restore 4 = .ok (.ifCond .ne 6, 3) := by decide +kernel
theorem dX4_restore_7 : decode cX4_restore 7 = .ok (.bipush (-5), 2) := by decide +kernel
theorem dX4_restore_9 : decode cX4_restore 9 = .ok (.ireturn, 1) := by decide +kernel
theorem dX4_restore_10 : decode cX4_restore 10 = .ok (.aload_n 0, 1) := by decide +kernel
theorem dX4_restore_11 : decode cX4_restore 11 = .ok (.getfield 16, 3) := by decide +kernel
theorem dX4_restore_14 : decode cX4_restore 14 = .ok (.aload_n 0, 1) := by decide +kernel
theorem dX4_restore_15 : decode cX4_restore 15 = .ok (.getfield 10, 3) := by decide +kernel
theorem dX4_restore_18 : decode cX4_restore 18 = .ok (.invokevirtual 43, 3) := by decide +kernel
theorem dX4_restore_21 : decode cX4_restore 21 = .ok (.aload_n 0, 1) := by decide +kernel
theorem dX4_restore_22 : decode cX4_restore 22 = .ok (.getfield 10, 3) := by decide +kernel
theorem dX4_restore_25 : decode cX4_restore 25 = .ok (.aload_n 0, 1) := by decide +kernel
theorem dX4_restore_26 : decode cX4_restore 26 = .ok (.getfield 19, 3) := by decide +kernel
theorem dX4_restore_29 : decode cX4_restore 29 = .ok (.invokevirtual 43, 3) := by decide +kernel
theorem dX4_restore_32 : decode cX4_restore 32 = .ok (.aload_n 0, 1) := by decide +kernel
theorem dX4_restore_33 : decode cX4_restore 33 = .ok (.aload_n 0, 1) := by decide +kernel
theorem dX4_restore_34 : decode cX4_restore 34 = .ok (.getfield 10, 3) := by decide +kernel
theorem dX4_restore_37 : decode cX4_restore 37 = .ok (.getfield 132, 3) := by decide +kernel
theorem dX4_restore_40 : decode cX4_restore 40 = .ok (.invokevirtual 51, 3) := by decide +kernel
theorem dX4_restore_43 : decode cX4_restore 43 = .ok (.ireturn, 1) := by decide +kernel
theorem dX4_plot_0 : decode cX4_plot 0 = .ok (.iload_n 1, 1) := by decide +kernel
theorem dX4_plot_1 : decode cX4_plot 1 = .ok (.iconst 0, 1) := by decide +kernel
theorem dX4_plot_2 : decode cX4_plot 2 = .ok (.bipush 63, 2) := by decide +kernel
theorem dX4_plot_4 : decode cX4_plot 4 = .ok (.invokestatic 117, 3) := by decide +kernel
theorem dX4_plot_7 : decode cX4_plot 7 = .ok (.ifCond .ne 5, 3) := by decide +kernel
theorem dX4_plot_10 : decode cX4_plot 10 = .ok (.iconst (-1), 1) := by decide +kernel
theorem dX4_plot_11 : decode cX4_plot 11 = .ok (.ireturn, 1) := by decide +kernel
theorem dX4_plot_12 : decode cX4_plot 12 = .ok (.iload_n 2, 1) := by decide +kernel
theorem dX4_plot_13 : decode cX4_plot 13 = .ok (.tableswitch 147 0 6 #[43, 53, 61, 74, 95, 116, 129], 43) := by decide +kernel
theorem dX4_plot_56 : decode cX4_plot 56 = .ok (.aload_n 0, 1) := by decide +kernel
theorem dX4_plot_57 : decode cX4_plot 57 = .ok (.getfield 10, 3) := by decide +kernel
theorem dX4_plot_60 : decode cX4_plot 60 = .ok (.getfield 135, 3) := by decide +kernel
theorem dX4_plot_63 : decode cX4_plot 63 = .ok (.iload_n 1, 1) := by decide +kernel
theorem dX4_plot_64 : decode cX4_plot 64 = .ok (.iaload, 1) := by decide +kernel
theorem dX4_plot_65 : decode cX4_plot 65 = .ok (.ireturn, 1) := by decide +kernel
theorem dX4_plot_66 : decode cX4_plot 66 = .ok (.aload_n 0, 1) := by decide +kernel
theorem dX4_plot_67 : decode cX4_plot 67 = .ok (.getfield 10, 3) := by decide +kernel
theorem dX4_plot_70 : decode cX4_plot 70 = .ok (.getfield 139, 3) := by decide +kernel
theorem dX4_plot_73 : decode cX4_plot 73 = .ok (.ireturn, 1) := by decide +kernel
theorem dX4_plot_74 : decode cX4_plot 74 = .ok (.aload_n 0, 1) := by decide +kernel
theorem dX4_plot_75 : decode cX4_plot 75 = .ok (.getfield 10, 3) := by decide +kernel
theorem dX4_plot_78 : decode cX4_plot 78 = .ok (.aload_n 0, 1) := by decide +kernel
theorem dX4_plot_79 : decode cX4_plot 79 = .ok (.invokevirtual 70, 3) := by decide +kernel
theorem dX4_plot_82 : decode cX4_plot 82 = .ok (.iload_n 1, 1) := by decide +kernel
theorem dX4_plot_83 : decode cX4_plot 83 = .ok (.invokevirtual 142, 3) := by decide +kernel
theorem dX4_plot_86 : decode cX4_plot 86 = .ok (.ireturn, 1) := by decide +kernel
theorem dX4_plot_87 : decode cX4_plot 87 = .ok (.aload_n 0, 1) := by decide +kernel
theorem dX4_plot_88 : decode cX4_plot 88 = .ok (.getfield 10, 3) := by decide +kernel
theorem dX4_plot_91 : decode cX4_plot 91 = .ok (.aload_n 0, 1) := by decide +kernel
theorem dX4_plot_92 : decode cX4_plot 92 = .ok (.invokevirtual 70, 3) := by decide +kernel
theorem dX4_plot_95 : decode cX4_plot 95 = .ok (.iload_n 1, 1) := by decide +kernel
theorem dX4_plot_96 : decode cX4_plot 96 = .ok (.invokevirtual 145, 3) := by decide +kernel
theorem dX4_plot_99 : decode cX4_plot 99 = .ok (.ifCond .eq 7, 3) := by decide +kernel
theorem dX4_plot_102 : decode cX4_plot 102 = .ok (.iconst 1, 1) := by decide +kernel
theorem dX4_plot_103 : decode cX4_plot 103 = .ok (.goto 4, 3) := by decide +kernel
theorem dX4_plot_106 : decode cX4_plot 106 = .ok (.iconst 0, 1) := by decide +kernel
theorem dX4_plot_107 : decode cX4_plot 107 = .ok (.ireturn, 1) := by decide +kernel
theorem dX4_plot_108 : decode cX4_plot 108 = .ok (.aload_n 0, 1) := by decide +kernel
theorem dX4_plot_109 : decode cX4_plot 109 = .ok (.getfield 10, 3) := by decide +kernel
theorem dX4_plot_112 : decode cX4_plot 112 = .ok (.aload_n 0, 1) := by decide +kernel
theorem dX4_plot_113 : decode cX4_plot 113 = .ok (.invokevirtual 70, 3) := by decide +kernel
theorem dX4_plot_116 : decode cX4_plot 116 = .ok (.iload_n 1, 1) := by decide +kernel
theorem dX4_plot_117 : decode cX4_plot 117 = .ok (.invokevirtual 149, 3) := by decide +kernel
theorem dX4_plot_120 : decode cX4_plot 120 = .ok (.ifCond .eq 7, 3) := by decide +kernel
theorem dX4_plot_123 : decode cX4_plot 123 = .ok (.iconst 1, 1) := by decide +kernel
theorem dX4_plot_124 : decode cX4_plot 124 = .ok (.goto 4, 3) := by decide +kernel
theorem dX4_plot_127 : decode cX4_plot 127 = .ok (.iconst 0, 1) := by decide +kernel
theorem dX4_plot_128 : decode cX4_plot 128 = .ok (.ireturn, 1) := by decide +kernel
theorem dX4_plot_129 : decode cX4_plot 129 = .ok (.aload_n 0, 1) := by decide +kernel
theorem dX4_plot_130 : decode cX4_plot 130 = .ok (.getfield 10, 3) := by decide +kernel
theorem dX4_plot_133 : decode cX4_plot 133 = .ok (.aload_n 0, 1) := by decide +kernel
theorem dX4_plot_134 : decode cX4_plot 134 = .ok (.invokevirtual 70, 3) := by decide +kernel
theorem dX4_plot_137 : decode cX4_plot 137 = .ok (.iload_n 1, 1) := by decide +kernel
theorem dX4_plot_138 : decode cX4_plot 138 = .ok (.invokevirtual 152, 3) := by decide +kernel
theorem dX4_plot_141 : decode cX4_plot 141 = .ok (.ireturn, 1) := by decide +kernel
theorem dX4_plot_142 : decode cX4_plot 142 = .ok (.aload_n 0, 1) := by decide +kernel
theorem dX4_plot_143 : decode cX4_plot 143 = .ok (.getfield 10, 3) := by decide +kernel
theorem dX4_plot_146 : decode cX4_plot 146 = .ok (.getfield 155, 3) := by decide +kernel
theorem dX4_plot_149 : decode cX4_plot 149 = .ok (.iload_n 1, 1) := by decide +kernel
theorem dX4_plot_150 : decode cX4_plot 150 = .ok (.baload, 1) := by decide +kernel
theorem dX4_plot_151 : decode cX4_plot 151 = .ok (.ifCond .eq 7, 3) := by decide +kernel
theorem dX4_plot_154 : decode cX4_plot 154 = .ok (.iconst 1, 1) := by decide +kernel
theorem dX4_plot_155 : decode cX4_plot 155 = .ok (.goto 4, 3) := by decide +kernel
theorem dX4_plot_158 : decode cX4_plot 158 = .ok (.iconst 0, 1) := by decide +kernel
theorem dX4_plot_159 : decode cX4_plot 159 = .ok (.ireturn, 1) := by decide +kernel
theorem dX4_plot_160 : decode cX4_plot 160 = .ok (.bipush (-2), 2) := by decide +kernel
theorem dX4_plot_162 : decode cX4_plot 162 = .ok (.ireturn, 1) := by decide +kernel
theorem dX4_crew_0 : decode cX4_crew 0 = .ok (.iload_n 1, 1) := by decide +kernel
theorem dX4_crew_1 : decode cX4_crew 1 = .ok (.iconst 0, 1) := by decide +kernel
theorem dX4_crew_2 : decode cX4_crew 2 = .ok (.iconst 2, 1) := by decide +kernel
theorem dX4_crew_3 : decode cX4_crew 3 = .ok (.invokestatic 117, 3) := by decide +kernel
theorem dX4_crew_6 : decode cX4_crew 6 = .ok (.ifCond .ne 5, 3) := by decide +kernel
theorem dX4_crew_9 : decode cX4_crew 9 = .ok (.iconst (-1), 1) := by decide +kernel
theorem dX4_crew_10 : decode cX4_crew 10 = .ok (.ireturn, 1) := by decide +kernel
theorem dX4_crew_11 : decode cX4_crew 11 = .ok (.iload_n 2, 1) := by decide +kernel
theorem dX4_crew_12 : decode cX4_crew 12 = .ok (.tableswitch 72 0 3 #[32, 42, 52, 62], 32) := by decide +kernel
theorem dX4_crew_44 : decode cX4_crew 44 = .ok (.aload_n 0, 1) := by decide +kernel
theorem dX4_crew_45 : decode cX4_crew 45 = .ok (.getfield 10, 3) := by decide +kernel
theorem dX4_crew_48 : decode cX4_crew 48 = .ok (.getfield 159, 3) := by decide +kernel
theorem dX4_crew_51 : decode cX4_crew 51 = .ok (.iload_n 1, 1) := by decide +kernel
theorem dX4_crew_52 : decode cX4_crew 52 = .ok (.iaload, 1) := by decide +kernel
theorem dX4_crew_53 : decode cX4_crew 53 = .ok (.ireturn, 1) := by decide +kernel
theorem dX4_crew_54 : decode cX4_crew 54 = .ok (.aload_n 0, 1) := by decide +kernel
theorem dX4_crew_55 : decode cX4_crew 55 = .ok (.getfield 10, 3) := by decide +kernel
theorem dX4_crew_58 : decode cX4_crew 58 = .ok (.getfield 162, 3) := by decide +kernel
theorem dX4_crew_61 : decode cX4_crew 61 = .ok (.iload_n 1, 1) := by decide +kernel
theorem dX4_crew_62 : decode cX4_crew 62 = .ok (.iaload, 1) := by decide +kernel
theorem dX4_crew_63 : decode cX4_crew 63 = .ok (.ireturn, 1) := by decide +kernel
theorem dX4_crew_64 : decode cX4_crew 64 = .ok (.aload_n 0, 1) := by decide +kernel
theorem dX4_crew_65 : decode cX4_crew 65 = .ok (.getfield 10, 3) := by decide +kernel
theorem dX4_crew_68 : decode cX4_crew 68 = .ok (.getfield 165, 3) := by decide +kernel
theorem dX4_crew_71 : decode cX4_crew 71 = .ok (.iload_n 1, 1) := by decide +kernel
theorem dX4_crew_72 : decode cX4_crew 72 = .ok (.iaload, 1) := by decide +kernel
theorem dX4_crew_73 : decode cX4_crew 73 = .ok (.ireturn, 1) := by decide +kernel
theorem dX4_crew_74 : decode cX4_crew 74 = .ok (.aload_n 0, 1) := by decide +kernel
theorem dX4_crew_75 : decode cX4_crew 75 = .ok (.getfield 10, 3) := by decide +kernel
theorem dX4_crew_78 : decode cX4_crew 78 = .ok (.getfield 168, 3) := by decide +kernel
theorem dX4_crew_81 : decode cX4_crew 81 = .ok (.iload_n 1, 1) := by decide +kernel
theorem dX4_crew_82 : decode cX4_crew 82 = .ok (.iaload, 1) := by decide +kernel
theorem dX4_crew_83 : decode cX4_crew 83 = .ok (.ireturn, 1) := by decide +kernel
theorem dX4_crew_84 : decode cX4_crew 84 = .ok (.bipush (-2), 2) := by decide +kernel
theorem dX4_crew_86 : decode cX4_crew 86 = .ok (.ireturn, 1) := by decide +kernel
theorem dX4_row_0 : decode cX4_row 0 = .ok (.iload_n 1, 1) := by decide +kernel
theorem dX4_row_1 : decode cX4_row 1 = .ok (.iconst 0, 1) := by decide +kernel
theorem dX4_row_2 : decode cX4_row 2 = .ok (.bipush 7, 2) := by decide +kernel
theorem dX4_row_4 : decode cX4_row 4 = .ok (.invokestatic 117, 3) := by decide +kernel
theorem dX4_row_7 : decode cX4_row 7 = .ok (.ifCond .ne 5, 3) := by decide +kernel
theorem dX4_row_10 : decode cX4_row 10 = .ok (.iconst (-1), 1) := by decide +kernel
theorem dX4_row_11 : decode cX4_row 11 = .ok (.ireturn, 1) := by decide +kernel
theorem dX4_row_12 : decode cX4_row 12 = .ok (.iload_n 2, 1) := by decide +kernel
theorem dX4_row_13 : decode cX4_row 13 = .ok (.tableswitch 55 0 2 #[27, 37, 46], 27) := by decide +kernel
theorem dX4_row_40 : decode cX4_row 40 = .ok (.aload_n 0, 1) := by decide +kernel
theorem dX4_row_41 : decode cX4_row 41 = .ok (.getfield 10, 3) := by decide +kernel
theorem dX4_row_44 : decode cX4_row 44 = .ok (.getfield 171, 3) := by decide +kernel
theorem dX4_row_47 : decode cX4_row 47 = .ok (.iload_n 1, 1) := by decide +kernel
theorem dX4_row_48 : decode cX4_row 48 = .ok (.iaload, 1) := by decide +kernel
theorem dX4_row_49 : decode cX4_row 49 = .ok (.ireturn, 1) := by decide +kernel
theorem dX4_row_50 : decode cX4_row 50 = .ok (.aload_n 0, 1) := by decide +kernel
theorem dX4_row_51 : decode cX4_row 51 = .ok (.invokevirtual 70, 3) := by decide +kernel
theorem dX4_row_54 : decode cX4_row 54 = .ok (.iload_n 1, 1) := by decide +kernel
theorem dX4_row_55 : decode cX4_row 55 = .ok (.invokevirtual 174, 3) := by decide +kernel
theorem dX4_row_58 : decode cX4_row 58 = .ok (.ireturn, 1) := by decide +kernel
theorem dX4_row_59 : decode cX4_row 59 = .ok (.aload_n 0, 1) := by decide +kernel
theorem dX4_row_60 : decode cX4_row 60 = .ok (.invokevirtual 70, 3) := by decide +kernel
theorem dX4_row_63 : decode cX4_row 63 = .ok (.iload_n 1, 1) := by decide +kernel
theorem dX4_row_64 : decode cX4_row 64 = .ok (.invokevirtual 177, 3) := by decide +kernel
theorem dX4_row_67 : decode cX4_row 67 = .ok (.ireturn, 1) := by decide +kernel
theorem dX4_row_68 : decode cX4_row 68 = .ok (.bipush (-2), 2) := by decide +kernel
theorem dX4_row_70 : decode cX4_row 70 = .ok (.ireturn, 1) := by decide +kernel
theorem dX4_way_0 : decode cX4_way 0 = .ok (.iload_n 1, 1) := by decide +kernel
theorem dX4_way_1 : decode cX4_way 1 = .ok (.iconst 0, 1) := by decide +kernel
theorem dX4_way_2 : decode cX4_way 2 = .ok (.iconst 2, 1) := by decide +kernel
theorem dX4_way_3 : decode cX4_way 3 = .ok (.invokestatic 117, 3) := by decide +kernel
theorem dX4_way_6 : decode cX4_way 6 = .ok (.ifCond .eq 13, 3) := by decide +kernel
theorem dX4_way_9 : decode cX4_way 9 = .ok (.iload_n 2, 1) := by decide +kernel
theorem dX4_way_10 : decode cX4_way 10 = .ok (.iconst 0, 1) := by decide +kernel
theorem dX4_way_11 : decode cX4_way 11 = .ok (.bipush 63, 2) := by decide +kernel
theorem dX4_way_13 : decode cX4_way 13 = .ok (.invokestatic 117, 3) := by decide +kernel
theorem dX4_way_16 : decode cX4_way 16 = .ok (.ifCond .ne 5, 3) := by decide +kernel
theorem dX4_way_19 : decode cX4_way 19 = .ok (.iconst (-1), 1) := by decide +kernel
theorem dX4_way_20 : decode cX4_way 20 = .ok (.ireturn, 1) := by decide +kernel
theorem dX4_way_21 : decode cX4_way 21 = .ok (.aload_n 0, 1) := by decide +kernel
theorem dX4_way_22 : decode cX4_way 22 = .ok (.getfield 10, 3) := by decide +kernel
theorem dX4_way_25 : decode cX4_way 25 = .ok (.iload_n 1, 1) := by decide +kernel
theorem dX4_way_26 : decode cX4_way 26 = .ok (.iload_n 2, 1) := by decide +kernel
theorem dX4_way_27 : decode cX4_way 27 = .ok (.invokevirtual 180, 3) := by decide +kernel
theorem dX4_way_30 : decode cX4_way 30 = .ok (.ireturn, 1) := by decide +kernel
theorem dX4_reason_0 : decode cX4_reason 0 = .ok (.iload_n 1, 1) := by decide +kernel
theorem dX4_reason_1 : decode cX4_reason 1 = .ok (.iconst 0, 1) := by decide +kernel
theorem dX4_reason_2 : decode cX4_reason 2 = .ok (.iconst 2, 1) := by decide +kernel
theorem dX4_reason_3 : decode cX4_reason 3 = .ok (.invokestatic 117, 3) := by decide +kernel
theorem dX4_reason_6 : decode cX4_reason 6 = .ok (.ifCond .eq 13, 3) := by decide +kernel
theorem dX4_reason_9 : decode cX4_reason 9 = .ok (.iload_n 2, 1) := by decide +kernel
theorem dX4_reason_10 : decode cX4_reason 10 = .ok (.iconst 0, 1) := by decide +kernel
theorem dX4_reason_11 : decode cX4_reason 11 = .ok (.bipush 63, 2) := by decide +kernel
theorem dX4_reason_13 : decode cX4_reason 13 = .ok (.invokestatic 117, 3) := by decide +kernel
theorem dX4_reason_16 : decode cX4_reason 16 = .ok (.ifCond .ne 5, 3) := by decide +kernel
theorem dX4_reason_19 : decode cX4_reason 19 = .ok (.iconst (-1), 1) := by decide +kernel
theorem dX4_reason_20 : decode cX4_reason 20 = .ok (.ireturn, 1) := by decide +kernel
theorem dX4_reason_21 : decode cX4_reason 21 = .ok (.aload_n 0, 1) := by decide +kernel
theorem dX4_reason_22 : decode cX4_reason 22 = .ok (.getfield 10, 3) := by decide +kernel
theorem dX4_reason_25 : decode cX4_reason 25 = .ok (.iload_n 1, 1) := by decide +kernel
theorem dX4_reason_26 : decode cX4_reason 26 = .ok (.iload_n 2, 1) := by decide +kernel
theorem dX4_reason_27 : decode cX4_reason 27 = .ok (.invokevirtual 183, 3) := by decide +kernel
theorem dX4_reason_30 : decode cX4_reason 30 = .ok (.ireturn, 1) := by decide +kernel
theorem dX4_best_0 : decode cX4_best 0 = .ok (.iload_n 1, 1) := by decide +kernel
theorem dX4_best_1 : decode cX4_best 1 = .ok (.iconst 0, 1) := by decide +kernel
theorem dX4_best_2 : decode cX4_best 2 = .ok (.iconst 2, 1) := by decide +kernel
theorem dX4_best_3 : decode cX4_best 3 = .ok (.invokestatic 117, 3) := by decide +kernel
theorem dX4_best_6 : decode cX4_best 6 = .ok (.ifCond .ne 5, 3) := by decide +kernel
theorem dX4_best_9 : decode cX4_best 9 = .ok (.iconst (-1), 1) := by decide +kernel
theorem dX4_best_10 : decode cX4_best 10 = .ok (.ireturn, 1) := by decide +kernel
theorem dX4_best_11 : decode cX4_best 11 = .ok (.aload_n 0, 1) := by decide +kernel
theorem dX4_best_12 : decode cX4_best 12 = .ok (.getfield 10, 3) := by decide +kernel
theorem dX4_best_15 : decode cX4_best 15 = .ok (.aload_n 0, 1) := by decide +kernel
theorem dX4_best_16 : decode cX4_best 16 = .ok (.invokevirtual 70, 3) := by decide +kernel
theorem dX4_best_19 : decode cX4_best 19 = .ok (.iload_n 1, 1) := by decide +kernel
theorem dX4_best_20 : decode cX4_best 20 = .ok (.invokevirtual 186, 3) := by decide +kernel
theorem dX4_best_23 : decode cX4_best 23 = .ok (.ireturn, 1) := by decide +kernel
theorem dX4_openRow_0 : decode cX4_openRow 0 = .ok (.aload_n 0, 1) := by decide +kernel
theorem dX4_openRow_1 : decode cX4_openRow 1 = .ok (.invokevirtual 70, 3) := by decide +kernel
theorem dX4_openRow_4 : decode cX4_openRow 4 = .ok (.invokevirtual 189, 3) := by decide +kernel
theorem dX4_openRow_7 : decode cX4_openRow 7 = .ok (.ireturn, 1) := by decide +kernel
theorem dX4_ifTold_0 : decode cX4_ifTold 0 = .ok (.iload_n 1, 1) := by decide +kernel
theorem dX4_ifTold_1 : decode cX4_ifTold 1 = .ok (.iconst 0, 1) := by decide +kernel
theorem dX4_ifTold_2 : decode cX4_ifTold 2 = .ok (.bipush 7, 2) := by decide +kernel
theorem dX4_ifTold_4 : decode cX4_ifTold 4 = .ok (.invokestatic 117, 3) := by decide +kernel
theorem dX4_ifTold_7 : decode cX4_ifTold 7 = .ok (.ifCond .ne 5, 3) := by decide +kernel
theorem dX4_ifTold_10 : decode cX4_ifTold 10 = .ok (.iconst (-1), 1) := by decide +kernel
theorem dX4_ifTold_11 : decode cX4_ifTold 11 = .ok (.ireturn, 1) := by decide +kernel
theorem dX4_ifTold_12 : decode cX4_ifTold 12 = .ok (.iload_n 2, 1) := by decide +kernel
theorem dX4_ifTold_13 : decode cX4_ifTold 13 = .ok (.iconst 0, 1) := by decide +kernel
theorem dX4_ifTold_14 : decode cX4_ifTold 14 = .ok (.bipush 7, 2) := by decide +kernel
theorem dX4_ifTold_16 : decode cX4_ifTold 16 = .ok (.invokestatic 117, 3) := by decide +kernel
theorem dX4_ifTold_19 : decode cX4_ifTold 19 = .ok (.ifCond .ne 6, 3) := by decide +kernel
theorem dX4_ifTold_22 : decode cX4_ifTold 22 = .ok (.bipush (-2), 2) := by decide +kernel
theorem dX4_ifTold_24 : decode cX4_ifTold 24 = .ok (.ireturn, 1) := by decide +kernel
theorem dX4_ifTold_25 : decode cX4_ifTold 25 = .ok (.aload_n 0, 1) := by decide +kernel
theorem dX4_ifTold_26 : decode cX4_ifTold 26 = .ok (.invokevirtual 70, 3) := by decide +kernel
theorem dX4_ifTold_29 : decode cX4_ifTold 29 = .ok (.iload_n 1, 1) := by decide +kernel
theorem dX4_ifTold_30 : decode cX4_ifTold 30 = .ok (.bipush 8, 2) := by decide +kernel
theorem dX4_ifTold_32 : decode cX4_ifTold 32 = .ok (.imul, 1) := by decide +kernel
theorem dX4_ifTold_33 : decode cX4_ifTold 33 = .ok (.iload_n 2, 1) := by decide +kernel
theorem dX4_ifTold_34 : decode cX4_ifTold 34 = .ok (.iadd, 1) := by decide +kernel
theorem dX4_ifTold_35 : decode cX4_ifTold 35 = .ok (.invokevirtual 192, 3) := by decide +kernel
theorem dX4_ifTold_38 : decode cX4_ifTold 38 = .ok (.ireturn, 1) := by decide +kernel
theorem dX4_count_0 : decode cX4_count 0 = .ok (.iload_n 1, 1) := by decide +kernel
theorem dX4_count_1 : decode cX4_count 1 = .ok (.tableswitch 237 0 16 #[83, 91, 99, 111, 123, 135, 143, 151, 159, 167, 175, 183, 191, 201, 211, 221, 229], 83) := by decide +kernel
theorem dX4_count_84 : decode cX4_count 84 = .ok (.aload_n 0, 1) := by decide +kernel
theorem dX4_count_85 : decode cX4_count 85 = .ok (.getfield 10, 3) := by decide +kernel
theorem dX4_count_88 : decode cX4_count 88 = .ok (.getfield 132, 3) := by decide +kernel
theorem dX4_count_91 : decode cX4_count 91 = .ok (.ireturn, 1) := by decide +kernel
theorem dX4_count_92 : decode cX4_count 92 = .ok (.aload_n 0, 1) := by decide +kernel
theorem dX4_count_93 : decode cX4_count 93 = .ok (.getfield 10, 3) := by decide +kernel
theorem dX4_count_96 : decode cX4_count 96 = .ok (.invokevirtual 195, 3) := by decide +kernel
theorem dX4_count_99 : decode cX4_count 99 = .ok (.ireturn, 1) := by decide +kernel
theorem dX4_count_100 : decode cX4_count 100 = .ok (.aload_n 0, 1) := by decide +kernel
theorem dX4_count_101 : decode cX4_count 101 = .ok (.getfield 10, 3) := by decide +kernel
theorem dX4_count_104 : decode cX4_count 104 = .ok (.aload_n 0, 1) := by decide +kernel
theorem dX4_count_105 : decode cX4_count 105 = .ok (.invokevirtual 70, 3) := by decide +kernel
theorem dX4_count_108 : decode cX4_count 108 = .ok (.invokevirtual 198, 3) := by decide +kernel
theorem dX4_count_111 : decode cX4_count 111 = .ok (.ireturn, 1) := by decide +kernel
theorem dX4_count_112 : decode cX4_count 112 = .ok (.aload_n 0, 1) := by decide +kernel
theorem dX4_count_113 : decode cX4_count 113 = .ok (.getfield 10, 3) := by decide +kernel
theorem dX4_count_116 : decode cX4_count 116 = .ok (.aload_n 0, 1) := by decide +kernel
theorem dX4_count_117 : decode cX4_count 117 = .ok (.invokevirtual 70, 3) := by decide +kernel
theorem dX4_count_120 : decode cX4_count 120 = .ok (.invokevirtual 201, 3) := by decide +kernel
theorem dX4_count_123 : decode cX4_count 123 = .ok (.ireturn, 1) := by decide +kernel
theorem dX4_count_124 : decode cX4_count 124 = .ok (.aload_n 0, 1) := by decide +kernel
theorem dX4_count_125 : decode cX4_count 125 = .ok (.getfield 10, 3) := by decide +kernel
theorem dX4_count_128 : decode cX4_count 128 = .ok (.aload_n 0, 1) := by decide +kernel
theorem dX4_count_129 : decode cX4_count 129 = .ok (.invokevirtual 70, 3) := by decide +kernel
theorem dX4_count_132 : decode cX4_count 132 = .ok (.invokevirtual 204, 3) := by decide +kernel
theorem dX4_count_135 : decode cX4_count 135 = .ok (.ireturn, 1) := by decide +kernel
theorem dX4_count_136 : decode cX4_count 136 = .ok (.aload_n 0, 1) := by decide +kernel
theorem dX4_count_137 : decode cX4_count 137 = .ok (.invokevirtual 70, 3) := by decide +kernel
theorem dX4_count_140 : decode cX4_count 140 = .ok (.getfield 207, 3) := by decide +kernel
theorem dX4_count_143 : decode cX4_count 143 = .ok (.ireturn, 1) := by decide +kernel
theorem dX4_count_144 : decode cX4_count 144 = .ok (.aload_n 0, 1) := by decide +kernel
theorem dX4_count_145 : decode cX4_count 145 = .ok (.getfield 10, 3) := by decide +kernel
theorem dX4_count_148 : decode cX4_count 148 = .ok (.invokevirtual 210, 3) := by decide +kernel
theorem dX4_count_151 : decode cX4_count 151 = .ok (.ireturn, 1) := by decide +kernel
theorem dX4_count_152 : decode cX4_count 152 = .ok (.aload_n 0, 1) := by decide +kernel
theorem dX4_count_153 : decode cX4_count 153 = .ok (.getfield 10, 3) := by decide +kernel
theorem dX4_count_156 : decode cX4_count 156 = .ok (.invokevirtual 213, 3) := by decide +kernel
theorem dX4_count_159 : decode cX4_count 159 = .ok (.ireturn, 1) := by decide +kernel
theorem dX4_count_160 : decode cX4_count 160 = .ok (.aload_n 0, 1) := by decide +kernel
theorem dX4_count_161 : decode cX4_count 161 = .ok (.getfield 10, 3) := by decide +kernel
theorem dX4_count_164 : decode cX4_count 164 = .ok (.getfield 216, 3) := by decide +kernel
theorem dX4_count_167 : decode cX4_count 167 = .ok (.ireturn, 1) := by decide +kernel
theorem dX4_count_168 : decode cX4_count 168 = .ok (.aload_n 0, 1) := by decide +kernel
theorem dX4_count_169 : decode cX4_count 169 = .ok (.getfield 10, 3) := by decide +kernel
theorem dX4_count_172 : decode cX4_count 172 = .ok (.getfield 219, 3) := by decide +kernel
theorem dX4_count_175 : decode cX4_count 175 = .ok (.ireturn, 1) := by decide +kernel
theorem dX4_count_176 : decode cX4_count 176 = .ok (.aload_n 0, 1) := by decide +kernel
theorem dX4_count_177 : decode cX4_count 177 = .ok (.getfield 10, 3) := by decide +kernel
theorem dX4_count_180 : decode cX4_count 180 = .ok (.getfield 222, 3) := by decide +kernel
theorem dX4_count_183 : decode cX4_count 183 = .ok (.ireturn, 1) := by decide +kernel
theorem dX4_count_184 : decode cX4_count 184 = .ok (.aload_n 0, 1) := by decide +kernel
theorem dX4_count_185 : decode cX4_count 185 = .ok (.getfield 10, 3) := by decide +kernel
theorem dX4_count_188 : decode cX4_count 188 = .ok (.invokevirtual 225, 3) := by decide +kernel
theorem dX4_count_191 : decode cX4_count 191 = .ok (.ireturn, 1) := by decide +kernel
theorem dX4_count_192 : decode cX4_count 192 = .ok (.aload_n 0, 1) := by decide +kernel
theorem dX4_count_193 : decode cX4_count 193 = .ok (.getfield 10, 3) := by decide +kernel
theorem dX4_count_196 : decode cX4_count 196 = .ok (.getfield 228, 3) := by decide +kernel
theorem dX4_count_199 : decode cX4_count 199 = .ok (.iconst 0, 1) := by decide +kernel
theorem dX4_count_200 : decode cX4_count 200 = .ok (.iaload, 1) := by decide +kernel
theorem dX4_count_201 : decode cX4_count 201 = .ok (.ireturn, 1) := by decide +kernel
theorem dX4_count_202 : decode cX4_count 202 = .ok (.aload_n 0, 1) := by decide +kernel
theorem dX4_count_203 : decode cX4_count 203 = .ok (.getfield 10, 3) := by decide +kernel
theorem dX4_count_206 : decode cX4_count 206 = .ok (.getfield 228, 3) := by decide +kernel
theorem dX4_count_209 : decode cX4_count 209 = .ok (.iconst 1, 1) := by decide +kernel
theorem dX4_count_210 : decode cX4_count 210 = .ok (.iaload, 1) := by decide +kernel
theorem dX4_count_211 : decode cX4_count 211 = .ok (.ireturn, 1) := by decide +kernel
theorem dX4_count_212 : decode cX4_count 212 = .ok (.aload_n 0, 1) := by decide +kernel
theorem dX4_count_213 : decode cX4_count 213 = .ok (.getfield 10, 3) := by decide +kernel
theorem dX4_count_216 : decode cX4_count 216 = .ok (.getfield 228, 3) := by decide +kernel
theorem dX4_count_219 : decode cX4_count 219 = .ok (.iconst 2, 1) := by decide +kernel
theorem dX4_count_220 : decode cX4_count 220 = .ok (.iaload, 1) := by decide +kernel
theorem dX4_count_221 : decode cX4_count 221 = .ok (.ireturn, 1) := by decide +kernel
theorem dX4_count_222 : decode cX4_count 222 = .ok (.aload_n 0, 1) := by decide +kernel
theorem dX4_count_223 : decode cX4_count 223 = .ok (.getfield 25, 3) := by decide +kernel
theorem dX4_count_226 : decode cX4_count 226 = .ok (.getfield 125, 3) := by decide +kernel
theorem dX4_count_229 : decode cX4_count 229 = .ok (.ireturn, 1) := by decide +kernel
theorem dX4_count_230 : decode cX4_count 230 = .ok (.aload_n 0, 1) := by decide +kernel
theorem dX4_count_231 : decode cX4_count 231 = .ok (.getfield 39, 3) := by decide +kernel
theorem dX4_count_234 : decode cX4_count 234 = .ok (.getfield 231, 3) := by decide +kernel
theorem dX4_count_237 : decode cX4_count 237 = .ok (.ireturn, 1) := by decide +kernel
theorem dX4_count_238 : decode cX4_count 238 = .ok (.bipush (-2), 2) := by decide +kernel
theorem dX4_count_240 : decode cX4_count 240 = .ok (.ireturn, 1) := by decide +kernel
theorem dX4_isIn_0 : decode cX4_isIn 0 = .ok (.iload_n 0, 1) := by decide +kernel
theorem dX4_isIn_1 : decode cX4_isIn 1 = .ok (.iload_n 1, 1) := by decide +kernel
theorem dX4_isIn_2 : decode cX4_isIn 2 = .ok (.if_icmp .lt 12, 3) := by decide +kernel
theorem dX4_isIn_5 : decode cX4_isIn 5 = .ok (.iload_n 0, 1) := by decide +kernel
theorem dX4_isIn_6 : decode cX4_isIn 6 = .ok (.iload_n 2, 1) := by decide +kernel
theorem dX4_isIn_7 : decode cX4_isIn 7 = .ok (.if_icmp .gt 7, 3) := by decide +kernel
theorem dX4_isIn_10 : decode cX4_isIn 10 = .ok (.iconst 1, 1) := by decide +kernel
theorem dX4_isIn_11 : decode cX4_isIn 11 = .ok (.goto 4, 3) := by decide +kernel
theorem dX4_isIn_14 : decode cX4_isIn 14 = .ok (.iconst 0, 1) := by decide +kernel
theorem dX4_isIn_15 : decode cX4_isIn 15 = .ok (.ireturn, 1) := by decide +kernel
theorem dX4_isError_0 : decode cX4_isError 0 = .ok (.iload_n 0, 1) := by decide +kernel
theorem dX4_isError_1 : decode cX4_isError 1 = .ok (.ifCond .ge 13, 3) := by decide +kernel
theorem dX4_isError_4 : decode cX4_isError 4 = .ok (.iload_n 0, 1) := by decide +kernel
theorem dX4_isError_5 : decode cX4_isError 5 = .ok (.bipush (-5), 2) := by decide +kernel
theorem dX4_isError_7 : decode cX4_isError 7 = .ok (.if_icmp .eq 7, 3) := by decide +kernel
theorem dX4_isError_10 : decode cX4_isError 10 = .ok (.iconst 1, 1) := by decide +kernel
theorem dX4_isError_11 : decode cX4_isError 11 = .ok (.goto 4, 3) := by decide +kernel
theorem dX4_isError_14 : decode cX4_isError 14 = .ok (.iconst 0, 1) := by decide +kernel
theorem dX4_isError_15 : decode cX4_isError 15 = .ok (.ireturn, 1) := by decide +kernel
theorem dX4_recorded_0 : decode cX4_recorded 0 = .ok (.iload_n 1, 1) := by decide +kernel
theorem dX4_recorded_1 : decode cX4_recorded 1 = .ok (.ifCond .lt 14, 3) := by decide +kernel
theorem dX4_recorded_4 : decode cX4_recorded 4 = .ok (.aload_n 0, 1) := by decide +kernel
theorem dX4_recorded_5 : decode cX4_recorded 5 = .ok (.getfield 25, 3) := by decide +kernel
theorem dX4_recorded_8 : decode cX4_recorded 8 = .ok (.aload_n 0, 1) := by decide +kernel
theorem dX4_recorded_9 : decode cX4_recorded 9 = .ok (.getfield 16, 3) := by decide +kernel
theorem dX4_recorded_12 : decode cX4_recorded 12 = .ok (.invokevirtual 234, 3) := by decide +kernel
theorem dX4_recorded_15 : decode cX4_recorded 15 = .ok (.iload_n 1, 1) := by decide +kernel
theorem dX4_recorded_16 : decode cX4_recorded 16 = .ok (.ireturn, 1) := by decide +kernel
theorem dX4_pathsLeft_0 : decode cX4_pathsLeft 0 = .ok (.aload_n 0, 1) := by decide +kernel
theorem dX4_pathsLeft_1 : decode cX4_pathsLeft 1 = .ok (.getfield 32, 3) := by decide +kernel
theorem dX4_pathsLeft_4 : decode cX4_pathsLeft 4 = .ok (.aload_n 0, 1) := by decide +kernel
theorem dX4_pathsLeft_5 : decode cX4_pathsLeft 5 = .ok (.getfield 10, 3) := by decide +kernel
theorem dX4_pathsLeft_8 : decode cX4_pathsLeft 8 = .ok (.getfield 171, 3) := by decide +kernel
theorem dX4_pathsLeft_11 : decode cX4_pathsLeft 11 = .ok (.invokevirtual 237, 3) := by decide +kernel
theorem dX4_pathsLeft_14 : decode cX4_pathsLeft 14 = .ok (.aload_n 0, 1) := by decide +kernel
theorem dX4_pathsLeft_15 : decode cX4_pathsLeft 15 = .ok (.getfield 32, 3) := by decide +kernel
theorem dX4_pathsLeft_18 : decode cX4_pathsLeft 18 = .ok (.areturn, 1) := by decide +kernel
theorem dX4_doThing_0 : decode cX4_doThing 0 = .ok (.aload_n 0, 1) := by decide +kernel
theorem dX4_doThing_1 : decode cX4_doThing 1 = .ok (.getfield 39, 3) := by decide +kernel
theorem dX4_doThing_4 : decode cX4_doThing 4 = .ok (.getfield 241, 3) := by decide +kernel
theorem dX4_doThing_7 : decode cX4_doThing 7 = .ok (.istore_n 1, 1) := by decide +kernel
theorem dX4_doThing_8 : decode cX4_doThing 8 = .ok (.aload_n 0, 1) := by decide +kernel
theorem dX4_doThing_9 : decode cX4_doThing 9 = .ok (.getfield 39, 3) := by decide +kernel
theorem dX4_doThing_12 : decode cX4_doThing 12 = .ok (.getfield 244, 3) := by decide +kernel
theorem dX4_doThing_15 : decode cX4_doThing 15 = .ok (.istore_n 2, 1) := by decide +kernel
theorem dX4_doThing_16 : decode cX4_doThing 16 = .ok (.aload_n 0, 1) := by decide +kernel
theorem dX4_doThing_17 : decode cX4_doThing 17 = .ok (.getfield 39, 3) := by decide +kernel
theorem dX4_doThing_20 : decode cX4_doThing 20 = .ok (.getfield 247, 3) := by decide +kernel
theorem dX4_doThing_23 : decode cX4_doThing 23 = .ok (.bipush 116, 2) := by decide +kernel
theorem dX4_doThing_25 : decode cX4_doThing 25 = .ok (.if_icmp .ne 13, 3) := by decide +kernel
theorem dX4_doThing_28 : decode cX4_doThing 28 = .ok (.aload_n 0, 1) := by decide +kernel
theorem dX4_doThing_29 : decode cX4_doThing 29 = .ok (.getfield 10, 3) := by decide +kernel
theorem dX4_doThing_32 : decode cX4_doThing 32 = .ok (.iload_n 1, 1) := by decide +kernel
theorem dX4_doThing_33 : decode cX4_doThing 33 = .ok (.iload_n 2, 1) := by decide +kernel
theorem dX4_doThing_34 : decode cX4_doThing 34 = .ok (.invokevirtual 47, 3) := by decide +kernel
theorem dX4_doThing_37 : decode cX4_doThing 37 = .ok (.ireturn, 1) := by decide +kernel
theorem dX4_doThing_38 : decode cX4_doThing 38 = .ok (.aload_n 0, 1) := by decide +kernel
theorem dX4_doThing_39 : decode cX4_doThing 39 = .ok (.getfield 39, 3) := by decide +kernel
theorem dX4_doThing_42 : decode cX4_doThing 42 = .ok (.getfield 247, 3) := by decide +kernel
theorem dX4_doThing_45 : decode cX4_doThing 45 = .ok (.bipush 114, 2) := by decide +kernel
theorem dX4_doThing_47 : decode cX4_doThing 47 = .ok (.if_icmp .ne 12, 3) := by decide +kernel
theorem dX4_doThing_50 : decode cX4_doThing 50 = .ok (.aload_n 0, 1) := by decide +kernel
theorem dX4_doThing_51 : decode cX4_doThing 51 = .ok (.getfield 10, 3) := by decide +kernel
theorem dX4_doThing_54 : decode cX4_doThing 54 = .ok (.iload_n 1, 1) := by decide +kernel
theorem dX4_doThing_55 : decode cX4_doThing 55 = .ok (.invokevirtual 55, 3) := by decide +kernel
theorem dX4_doThing_58 : decode cX4_doThing 58 = .ok (.ireturn, 1) := by decide +kernel
theorem dX4_doThing_59 : decode cX4_doThing 59 = .ok (.aload_n 0, 1) := by decide +kernel
theorem dX4_doThing_60 : decode cX4_doThing 60 = .ok (.getfield 39, 3) := by decide +kernel
theorem dX4_doThing_63 : decode cX4_doThing 63 = .ok (.getfield 247, 3) := by decide +kernel
theorem dX4_doThing_66 : decode cX4_doThing 66 = .ok (.bipush 104, 2) := by decide +kernel
theorem dX4_doThing_68 : decode cX4_doThing 68 = .ok (.if_icmp .ne 17, 3) := by decide +kernel
theorem dX4_doThing_71 : decode cX4_doThing 71 = .ok (.aload_n 0, 1) := by decide +kernel
theorem dX4_doThing_72 : decode cX4_doThing 72 = .ok (.getfield 10, 3) := by decide +kernel
theorem dX4_doThing_75 : decode cX4_doThing 75 = .ok (.aload_n 0, 1) := by decide +kernel
theorem dX4_doThing_76 : decode cX4_doThing 76 = .ok (.invokevirtual 70, 3) := by decide +kernel
theorem dX4_doThing_79 : decode cX4_doThing 79 = .ok (.iload_n 1, 1) := by decide +kernel
theorem dX4_doThing_80 : decode cX4_doThing 80 = .ok (.iload_n 2, 1) := by decide +kernel
theorem dX4_doThing_81 : decode cX4_doThing 81 = .ok (.invokevirtual 74, 3) := by decide +kernel
theorem dX4_doThing_84 : decode cX4_doThing 84 = .ok (.ireturn, 1) := by decide +kernel
theorem dX4_doThing_85 : decode cX4_doThing 85 = .ok (.aload_n 0, 1) := by decide +kernel
theorem dX4_doThing_86 : decode cX4_doThing 86 = .ok (.getfield 39, 3) := by decide +kernel
theorem dX4_doThing_89 : decode cX4_doThing 89 = .ok (.getfield 247, 3) := by decide +kernel
theorem dX4_doThing_92 : decode cX4_doThing 92 = .ok (.bipush 103, 2) := by decide +kernel
theorem dX4_doThing_94 : decode cX4_doThing 94 = .ok (.if_icmp .ne 13, 3) := by decide +kernel
theorem dX4_doThing_97 : decode cX4_doThing 97 = .ok (.aload_n 0, 1) := by decide +kernel
theorem dX4_doThing_98 : decode cX4_doThing 98 = .ok (.getfield 10, 3) := by decide +kernel
theorem dX4_doThing_101 : decode cX4_doThing 101 = .ok (.iload_n 1, 1) := by decide +kernel
theorem dX4_doThing_102 : decode cX4_doThing 102 = .ok (.iload_n 2, 1) := by decide +kernel
theorem dX4_doThing_103 : decode cX4_doThing 103 = .ok (.invokevirtual 64, 3) := by decide +kernel
theorem dX4_doThing_106 : decode cX4_doThing 106 = .ok (.ireturn, 1) := by decide +kernel
theorem dX4_doThing_107 : decode cX4_doThing 107 = .ok (.aload_n 0, 1) := by decide +kernel
theorem dX4_doThing_108 : decode cX4_doThing 108 = .ok (.getfield 39, 3) := by decide +kernel
theorem dX4_doThing_111 : decode cX4_doThing 111 = .ok (.getfield 247, 3) := by decide +kernel
theorem dX4_doThing_114 : decode cX4_doThing 114 = .ok (.bipush 102, 2) := by decide +kernel
theorem dX4_doThing_116 : decode cX4_doThing 116 = .ok (.if_icmp .ne 12, 3) := by decide +kernel
theorem dX4_doThing_119 : decode cX4_doThing 119 = .ok (.aload_n 0, 1) := by decide +kernel
theorem dX4_doThing_120 : decode cX4_doThing 120 = .ok (.getfield 10, 3) := by decide +kernel
theorem dX4_doThing_123 : decode cX4_doThing 123 = .ok (.iload_n 1, 1) := by decide +kernel
theorem dX4_doThing_124 : decode cX4_doThing 124 = .ok (.invokevirtual 67, 3) := by decide +kernel
theorem dX4_doThing_127 : decode cX4_doThing 127 = .ok (.ireturn, 1) := by decide +kernel
theorem dX4_doThing_128 : decode cX4_doThing 128 = .ok (.aload_n 0, 1) := by decide +kernel
theorem dX4_doThing_129 : decode cX4_doThing 129 = .ok (.getfield 10, 3) := by decide +kernel
theorem dX4_doThing_132 : decode cX4_doThing 132 = .ok (.iload_n 1, 1) := by decide +kernel
theorem dX4_doThing_133 : decode cX4_doThing 133 = .ok (.invokevirtual 58, 3) := by decide +kernel
theorem dX4_doThing_136 : decode cX4_doThing 136 = .ok (.ireturn, 1) := by decide +kernel
theorem dJ9_abs_0f7a4_0 : decode cJ9_abs_0f7a4 0 = .ok (.iload_n 0, 1) := by decide +kernel
theorem dJ9_abs_0f7a4_1 : decode cJ9_abs_0f7a4 1 = .ok (.ifCond .ge 8, 3) := by decide +kernel
theorem dJ9_abs_0f7a4_4 : decode cJ9_abs_0f7a4 4 = .ok (.iload_n 0, 1) := by decide +kernel
theorem dJ9_abs_0f7a4_5 : decode cJ9_abs_0f7a4 5 = .ok (.ineg, 1) := by decide +kernel
theorem dJ9_abs_0f7a4_6 : decode cJ9_abs_0f7a4 6 = .ok (.goto 4, 3) := by decide +kernel
theorem dJ9_abs_0f7a4_9 : decode cJ9_abs_0f7a4 9 = .ok (.iload_n 0, 1) := by decide +kernel
theorem dJ9_abs_0f7a4_10 : decode cJ9_abs_0f7a4 10 = .ok (.ireturn, 1) := by decide +kernel
theorem dJ9_max_7cf53_0 : decode cJ9_max_7cf53 0 = .ok (.iload_n 0, 1) := by decide +kernel
theorem dJ9_max_7cf53_1 : decode cJ9_max_7cf53 1 = .ok (.iload_n 1, 1) := by decide +kernel
theorem dJ9_max_7cf53_2 : decode cJ9_max_7cf53 2 = .ok (.if_icmp .lt 7, 3) := by decide +kernel
theorem dJ9_max_7cf53_5 : decode cJ9_max_7cf53 5 = .ok (.iload_n 0, 1) := by decide +kernel
theorem dJ9_max_7cf53_6 : decode cJ9_max_7cf53 6 = .ok (.goto 4, 3) := by decide +kernel
theorem dJ9_max_7cf53_9 : decode cJ9_max_7cf53 9 = .ok (.iload_n 1, 1) := by decide +kernel
theorem dJ9_max_7cf53_10 : decode cJ9_max_7cf53 10 = .ok (.ireturn, 1) := by decide +kernel
theorem dJ9_min_7cf53_0 : decode cJ9_min_7cf53 0 = .ok (.iload_n 0, 1) := by decide +kernel
theorem dJ9_min_7cf53_1 : decode cJ9_min_7cf53 1 = .ok (.iload_n 1, 1) := by decide +kernel
theorem dJ9_min_7cf53_2 : decode cJ9_min_7cf53 2 = .ok (.if_icmp .gt 7, 3) := by decide +kernel
theorem dJ9_min_7cf53_5 : decode cJ9_min_7cf53 5 = .ok (.iload_n 0, 1) := by decide +kernel
theorem dJ9_min_7cf53_6 : decode cJ9_min_7cf53 6 = .ok (.goto 4, 3) := by decide +kernel
theorem dJ9_min_7cf53_9 : decode cJ9_min_7cf53 9 = .ok (.iload_n 1, 1) := by decide +kernel
theorem dJ9_min_7cf53_10 : decode cJ9_min_7cf53 10 = .ok (.ireturn, 1) := by decide +kernel
