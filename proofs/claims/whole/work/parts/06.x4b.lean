theorem dX4_view_53 : decode cX4_view 53 = .ok (.aload_n 0, 1) := by decide +kernel
theorem dX4_view_54 : decode cX4_view 54 = .ok (.getfield 38, 3) := by decide +kernel
theorem dX4_view_57 : decode cX4_view 57 = .ok (.iload 6, 2) := by decide +kernel
theorem dX4_view_59 : decode cX4_view 59 = .ok (.iload_n 3, 1) := by decide +kernel
theorem dX4_view_60 : decode cX4_view 60 = .ok (.iastore, 1) := by decide +kernel
theorem dX4_view_61 : decode cX4_view 61 = .ok (.aload_n 0, 1) := by decide +kernel
theorem dX4_view_62 : decode cX4_view 62 = .ok (.getfield 41, 3) := by decide +kernel
theorem dX4_view_65 : decode cX4_view 65 = .ok (.iload 6, 2) := by decide +kernel
theorem dX4_view_67 : decode cX4_view 67 = .ok (.iload 4, 2) := by decide +kernel
theorem dX4_view_69 : decode cX4_view 69 = .ok (.iastore, 1) := by decide +kernel
theorem dX4_view_70 : decode cX4_view 70 = .ok (.iload 6, 2) := by decide +kernel
theorem dX4_view_72 : decode cX4_view 72 = .ok (.ireturn, 1) := by decide +kernel
theorem dX4_sell_0 : decode cX4_sell 0 = .ok (.aload_n 0, 1) := by decide +kernel
theorem dX4_sell_1 : decode cX4_sell 1 = .ok (.iload_n 1, 1) := by decide +kernel
theorem dX4_sell_2 : decode cX4_sell 2 = .ok (.iload_n 2, 1) := by decide +kernel
theorem dX4_sell_3 : decode cX4_sell 3 = .ok (.iload_n 3, 1) := by decide +kernel
theorem dX4_sell_4 : decode cX4_sell 4 = .ok (.invokestatic 110, 3) := by decide +kernel
theorem dX4_sell_7 : decode cX4_sell 7 = .ok (.ifCond .eq 32, 3) := by decide +kernel
theorem dX4_sell_10 : decode cX4_sell 10 = .ok (.iload 4, 2) := by decide +kernel
theorem dX4_sell_12 : decode cX4_sell 12 = .ok (.invokestatic 110, 3) := by decide +kernel
theorem dX4_sell_15 : decode cX4_sell 15 = .ok (.ifCond .eq 24, 3) := by decide +kernel
theorem dX4_sell_18 : decode cX4_sell 18 = .ok (.iload_n 3, 1) := by decide +kernel
theorem dX4_sell_19 : decode cX4_sell 19 = .ok (.iload 4, 2) := by decide +kernel
theorem dX4_sell_21 : decode cX4_sell 21 = .ok (.if_icmp .eq 18, 3) := by decide +kernel
theorem dX4_sell_24 : decode cX4_sell 24 = .ok (.iload 5, 2) := by decide +kernel
theorem dX4_sell_26 : decode cX4_sell 26 = .ok (.iconst 1, 1) := by decide +kernel
theorem dX4_sell_27 : decode cX4_sell 27 = .ok (.bipush 24, 2) := by decide +kernel
theorem dX4_sell_29 : decode cX4_sell 29 = .ok (.invokestatic 93, 3) := by decide +kernel
theorem dX4_sell_32 : decode cX4_sell 32 = .ok (.ifCond .eq 7, 3) := by decide +kernel
theorem dX4_sell_35 : decode cX4_sell 35 = .ok (.iconst 1, 1) := by decide +kernel
theorem dX4_sell_36 : decode cX4_sell 36 = .ok (.goto 4, 3) := by decide +kernel
theorem dX4_sell_39 : decode cX4_sell 39 = .ok (.iconst 0, 1) := by decide +kernel
theorem dX4_sell_40 : decode cX4_sell 40 = .ok (.invokevirtual 123, 3) := by decide +kernel
theorem dX4_sell_43 : decode cX4_sell 43 = .ok (.istore 6, 2) := by decide +kernel
theorem dX4_sell_45 : decode cX4_sell 45 = .ok (.iload 6, 2) := by decide +kernel
theorem dX4_sell_47 : decode cX4_sell 47 = .ok (.ifCond .ge 6, 3) := by decide +kernel
theorem dX4_sell_50 : decode cX4_sell 50 = .ok (.iload 6, 2) := by decide +kernel
theorem dX4_sell_52 : decode cX4_sell 52 = .ok (.ireturn, 1) := by decide +kernel
theorem dX4_sell_53 : decode cX4_sell 53 = .ok (.aload_n 0, 1) := by decide +kernel
theorem dX4_sell_54 : decode cX4_sell 54 = .ok (.iconst 5, 1) := by decide +kernel
theorem dX4_sell_55 : decode cX4_sell 55 = .ok (.iload_n 1, 1) := by decide +kernel
theorem dX4_sell_56 : decode cX4_sell 56 = .ok (.iload_n 2, 1) := by decide +kernel
theorem dX4_sell_57 : decode cX4_sell 57 = .ok (.iload_n 3, 1) := by decide +kernel
theorem dX4_sell_58 : decode cX4_sell 58 = .ok (.invokevirtual 116, 3) := by decide +kernel
theorem dX4_sell_61 : decode cX4_sell 61 = .ok (.istore 7, 2) := by decide +kernel
theorem dX4_sell_63 : decode cX4_sell 63 = .ok (.aload_n 0, 1) := by decide +kernel
theorem dX4_sell_64 : decode cX4_sell 64 = .ok (.getfield 35, 3) := by decide +kernel
theorem dX4_sell_67 : decode cX4_sell 67 = .ok (.iload 7, 2) := by decide +kernel
theorem dX4_sell_69 : decode cX4_sell 69 = .ok (.iload 4, 2) := by decide +kernel
theorem dX4_sell_71 : decode cX4_sell 71 = .ok (.iastore, 1) := by decide +kernel
theorem dX4_sell_72 : decode cX4_sell 72 = .ok (.aload_n 0, 1) := by decide +kernel
theorem dX4_sell_73 : decode cX4_sell 73 = .ok (.getfield 44, 3) := by decide +kernel
theorem dX4_sell_76 : decode cX4_sell 76 = .ok (.iload 7, 2) := by decide +kernel
theorem dX4_sell_78 : decode cX4_sell 78 = .ok (.iload 5, 2) := by decide +kernel
theorem dX4_sell_80 : decode cX4_sell 80 = .ok (.iastore, 1) := by decide +kernel
theorem dX4_sell_81 : decode cX4_sell 81 = .ok (.iload 7, 2) := by decide +kernel
theorem dX4_sell_83 : decode cX4_sell 83 = .ok (.ireturn, 1) := by decide +kernel
theorem dX4_dig_0 : decode cX4_dig 0 = .ok (.iload_n 1, 1) := by decide +kernel
theorem dX4_dig_1 : decode cX4_dig 1 = .ok (.iconst 0, 1) := by decide +kernel
theorem dX4_dig_2 : decode cX4_dig 2 = .ok (.aload_n 0, 1) := by decide +kernel
theorem dX4_dig_3 : decode cX4_dig 3 = .ok (.getfield 100, 3) := by decide +kernel
theorem dX4_dig_6 : decode cX4_dig 6 = .ok (.invokestatic 93, 3) := by decide +kernel
theorem dX4_dig_9 : decode cX4_dig 9 = .ok (.ifCond .eq 29, 3) := by decide +kernel
theorem dX4_dig_12 : decode cX4_dig 12 = .ok (.iload_n 2, 1) := by decide +kernel
theorem dX4_dig_13 : decode cX4_dig 13 = .ok (.invokestatic 103, 3) := by decide +kernel
theorem dX4_dig_16 : decode cX4_dig 16 = .ok (.ifCond .eq 22, 3) := by decide +kernel
theorem dX4_dig_19 : decode cX4_dig 19 = .ok (.iload_n 3, 1) := by decide +kernel
theorem dX4_dig_20 : decode cX4_dig 20 = .ok (.invokestatic 107, 3) := by decide +kernel
theorem dX4_dig_23 : decode cX4_dig 23 = .ok (.ifCond .eq 15, 3) := by decide +kernel
theorem dX4_dig_26 : decode cX4_dig 26 = .ok (.iload 4, 2) := by decide +kernel
theorem dX4_dig_28 : decode cX4_dig 28 = .ok (.iconst 1, 1) := by decide +kernel
theorem dX4_dig_29 : decode cX4_dig 29 = .ok (.sipush 1000, 3) := by decide +kernel
theorem dX4_dig_32 : decode cX4_dig 32 = .ok (.invokestatic 93, 3) := by decide +kernel
theorem dX4_dig_35 : decode cX4_dig 35 = .ok (.ifCond .ne 5, 3) := by decide +kernel
theorem dX4_dig_38 : decode cX4_dig 38 = .ok (.iconst (-1), 1) := by decide +kernel
theorem dX4_dig_39 : decode cX4_dig 39 = .ok (.ireturn, 1) := by decide +kernel
theorem dX4_dig_40 : decode cX4_dig 40 = .ok (.aload_n 0, 1) := by decide +kernel
theorem dX4_dig_41 : decode cX4_dig 41 = .ok (.getfield 97, 3) := by decide +kernel
theorem dX4_dig_44 : decode cX4_dig 44 = .ok (.bipush 90, 2) := by decide +kernel
theorem dX4_dig_46 : decode cX4_dig 46 = .ok (.if_icmp .ne 6, 3) := by decide +kernel
theorem dX4_dig_49 : decode cX4_dig 49 = .ok (.bipush (-2), 2) := by decide +kernel
theorem dX4_dig_51 : decode cX4_dig 51 = .ok (.ireturn, 1) := by decide +kernel
theorem dX4_dig_52 : decode cX4_dig 52 = .ok (.aload_n 0, 1) := by decide +kernel
theorem dX4_dig_53 : decode cX4_dig 53 = .ok (.bipush 6, 2) := by decide +kernel
theorem dX4_dig_55 : decode cX4_dig 55 = .ok (.iload_n 1, 1) := by decide +kernel
theorem dX4_dig_56 : decode cX4_dig 56 = .ok (.bipush (-4), 2) := by decide +kernel
theorem dX4_dig_58 : decode cX4_dig 58 = .ok (.bipush (-4), 2) := by decide +kernel
theorem dX4_dig_60 : decode cX4_dig 60 = .ok (.invokevirtual 116, 3) := by decide +kernel
theorem dX4_dig_63 : decode cX4_dig 63 = .ok (.istore 5, 2) := by decide +kernel
theorem dX4_dig_65 : decode cX4_dig 65 = .ok (.aload_n 0, 1) := by decide +kernel
theorem dX4_dig_66 : decode cX4_dig 66 = .ok (.getfield 29, 3) := by decide +kernel
theorem dX4_dig_69 : decode cX4_dig 69 = .ok (.iload 5, 2) := by decide +kernel
theorem dX4_dig_71 : decode cX4_dig 71 = .ok (.iload_n 2, 1) := by decide +kernel
theorem dX4_dig_72 : decode cX4_dig 72 = .ok (.iastore, 1) := by decide +kernel
theorem dX4_dig_73 : decode cX4_dig 73 = .ok (.aload_n 0, 1) := by decide +kernel
theorem dX4_dig_74 : decode cX4_dig 74 = .ok (.getfield 38, 3) := by decide +kernel
theorem dX4_dig_77 : decode cX4_dig 77 = .ok (.iload 5, 2) := by decide +kernel
theorem dX4_dig_79 : decode cX4_dig 79 = .ok (.iload_n 3, 1) := by decide +kernel
theorem dX4_dig_80 : decode cX4_dig 80 = .ok (.iastore, 1) := by decide +kernel
theorem dX4_dig_81 : decode cX4_dig 81 = .ok (.aload_n 0, 1) := by decide +kernel
theorem dX4_dig_82 : decode cX4_dig 82 = .ok (.getfield 41, 3) := by decide +kernel
theorem dX4_dig_85 : decode cX4_dig 85 = .ok (.iload 5, 2) := by decide +kernel
theorem dX4_dig_87 : decode cX4_dig 87 = .ok (.iload_n 3, 1) := by decide +kernel
theorem dX4_dig_88 : decode cX4_dig 88 = .ok (.iastore, 1) := by decide +kernel
theorem dX4_dig_89 : decode cX4_dig 89 = .ok (.aload_n 0, 1) := by decide +kernel
theorem dX4_dig_90 : decode cX4_dig 90 = .ok (.getfield 44, 3) := by decide +kernel
theorem dX4_dig_93 : decode cX4_dig 93 = .ok (.iload 5, 2) := by decide +kernel
theorem dX4_dig_95 : decode cX4_dig 95 = .ok (.iload 4, 2) := by decide +kernel
theorem dX4_dig_97 : decode cX4_dig 97 = .ok (.iastore, 1) := by decide +kernel
theorem dX4_dig_98 : decode cX4_dig 98 = .ok (.iload 5, 2) := by decide +kernel
theorem dX4_dig_100 : decode cX4_dig 100 = .ok (.ireturn, 1) := by decide +kernel
theorem dX4_withdraw_0 : decode cX4_withdraw 0 = .ok (.aload_n 0, 1) := by decide +kernel
theorem dX4_withdraw_1 : decode cX4_withdraw 1 = .ok (.iload_n 1, 1) := by decide +kernel
theorem dX4_withdraw_2 : decode cX4_withdraw 2 = .ok (.invokevirtual 120, 3) := by decide +kernel
theorem dX4_withdraw_5 : decode cX4_withdraw 5 = .ok (.ifCond .ne 5, 3) := by decide +kernel
theorem dX4_withdraw_8 : decode cX4_withdraw 8 = .ok (.iconst (-1), 1) := by decide +kernel
theorem dX4_withdraw_9 : decode cX4_withdraw 9 = .ok (.ireturn, 1) := by decide +kernel
theorem dX4_withdraw_10 : decode cX4_withdraw 10 = .ok (.aload_n 0, 1) := by decide +kernel
theorem dX4_withdraw_11 : decode cX4_withdraw 11 = .ok (.getfield 26, 3) := by decide +kernel
theorem dX4_withdraw_14 : decode cX4_withdraw 14 = .ok (.iload_n 1, 1) := by decide +kernel
theorem dX4_withdraw_15 : decode cX4_withdraw 15 = .ok (.iaload, 1) := by decide +kernel
theorem dX4_withdraw_16 : decode cX4_withdraw 16 = .ok (.bipush (-4), 2) := by decide +kernel
theorem dX4_withdraw_18 : decode cX4_withdraw 18 = .ok (.if_icmp .eq 6, 3) := by decide +kernel
theorem dX4_withdraw_21 : decode cX4_withdraw 21 = .ok (.bipush (-5), 2) := by decide +kernel
theorem dX4_withdraw_23 : decode cX4_withdraw 23 = .ok (.ireturn, 1) := by decide +kernel
theorem dX4_withdraw_24 : decode cX4_withdraw 24 = .ok (.aload_n 0, 1) := by decide +kernel
theorem dX4_withdraw_25 : decode cX4_withdraw 25 = .ok (.getfield 26, 3) := by decide +kernel
theorem dX4_withdraw_28 : decode cX4_withdraw 28 = .ok (.iload_n 1, 1) := by decide +kernel
theorem dX4_withdraw_29 : decode cX4_withdraw 29 = .ok (.aload_n 0, 1) := by decide +kernel
theorem dX4_withdraw_30 : decode cX4_withdraw 30 = .ok (.getfield 100, 3) := by decide +kernel
theorem dX4_withdraw_33 : decode cX4_withdraw 33 = .ok (.iastore, 1) := by decide +kernel
theorem dX4_withdraw_34 : decode cX4_withdraw 34 = .ok (.iconst 1, 1) := by decide +kernel
theorem dX4_withdraw_35 : decode cX4_withdraw 35 = .ok (.ireturn, 1) := by decide +kernel
theorem dX4_fact_0 : decode cX4_fact 0 = .ok (.aload_n 0, 1) := by decide +kernel
theorem dX4_fact_1 : decode cX4_fact 1 = .ok (.iload_n 1, 1) := by decide +kernel
theorem dX4_fact_2 : decode cX4_fact 2 = .ok (.invokevirtual 120, 3) := by decide +kernel
theorem dX4_fact_5 : decode cX4_fact 5 = .ok (.ifCond .eq 13, 3) := by decide +kernel
theorem dX4_fact_8 : decode cX4_fact 8 = .ok (.iload_n 2, 1) := by decide +kernel
theorem dX4_fact_9 : decode cX4_fact 9 = .ok (.iconst 0, 1) := by decide +kernel
theorem dX4_fact_10 : decode cX4_fact 10 = .ok (.bipush 9, 2) := by decide +kernel
theorem dX4_fact_12 : decode cX4_fact 12 = .ok (.invokestatic 93, 3) := by decide +kernel
theorem dX4_fact_15 : decode cX4_fact 15 = .ok (.ifCond .ne 5, 3) := by decide +kernel
theorem dX4_fact_18 : decode cX4_fact 18 = .ok (.iconst (-1), 1) := by decide +kernel
theorem dX4_fact_19 : decode cX4_fact 19 = .ok (.ireturn, 1) := by decide +kernel
theorem dX4_fact_20 : decode cX4_fact 20 = .ok (.iload_n 2, 1) := by decide +kernel
theorem dX4_fact_21 : decode cX4_fact 21 = .ok (.tableswitch 114 0 8 #[51, 58, 65, 72, 79, 86, 93, 100, 107], 51) := by decide +kernel
theorem dX4_fact_72 : decode cX4_fact 72 = .ok (.aload_n 0, 1) := by decide +kernel
theorem dX4_fact_73 : decode cX4_fact 73 = .ok (.getfield 16, 3) := by decide +kernel
theorem dX4_fact_76 : decode cX4_fact 76 = .ok (.iload_n 1, 1) := by decide +kernel
theorem dX4_fact_77 : decode cX4_fact 77 = .ok (.iaload, 1) := by decide +kernel
theorem dX4_fact_78 : decode cX4_fact 78 = .ok (.ireturn, 1) := by decide +kernel
theorem dX4_fact_79 : decode cX4_fact 79 = .ok (.aload_n 0, 1) := by decide +kernel
theorem dX4_fact_80 : decode cX4_fact 80 = .ok (.getfield 20, 3) := by decide +kernel
theorem dX4_fact_83 : decode cX4_fact 83 = .ok (.iload_n 1, 1) := by decide +kernel
theorem dX4_fact_84 : decode cX4_fact 84 = .ok (.iaload, 1) := by decide +kernel
theorem dX4_fact_85 : decode cX4_fact 85 = .ok (.ireturn, 1) := by decide +kernel
theorem dX4_fact_86 : decode cX4_fact 86 = .ok (.aload_n 0, 1) := by decide +kernel
theorem dX4_fact_87 : decode cX4_fact 87 = .ok (.getfield 23, 3) := by decide +kernel
theorem dX4_fact_90 : decode cX4_fact 90 = .ok (.iload_n 1, 1) := by decide +kernel
theorem dX4_fact_91 : decode cX4_fact 91 = .ok (.iaload, 1) := by decide +kernel
theorem dX4_fact_92 : decode cX4_fact 92 = .ok (.ireturn, 1) := by decide +kernel
theorem dX4_fact_93 : decode cX4_fact 93 = .ok (.aload_n 0, 1) := by decide +kernel
theorem dX4_fact_94 : decode cX4_fact 94 = .ok (.getfield 26, 3) := by decide +kernel
theorem dX4_fact_97 : decode cX4_fact 97 = .ok (.iload_n 1, 1) := by decide +kernel
theorem dX4_fact_98 : decode cX4_fact 98 = .ok (.iaload, 1) := by decide +kernel
theorem dX4_fact_99 : decode cX4_fact 99 = .ok (.ireturn, 1) := by decide +kernel
theorem dX4_fact_100 : decode cX4_fact 100 = .ok (.aload_n 0, 1) := by decide +kernel
theorem dX4_fact_101 : decode cX4_fact 101 = .ok (.getfield 29, 3) := by decide +kernel
theorem dX4_fact_104 : decode cX4_fact 104 = .ok (.iload_n 1, 1) := by decide +kernel
theorem dX4_fact_105 : decode cX4_fact 105 = .ok (.iaload, 1) := by decide +kernel
theorem dX4_fact_106 : decode cX4_fact 106 = .ok (.ireturn, 1) := by decide +kernel
theorem dX4_fact_107 : decode cX4_fact 107 = .ok (.aload_n 0, 1) := by decide +kernel
theorem dX4_fact_108 : decode cX4_fact 108 = .ok (.getfield 32, 3) := by decide +kernel
theorem dX4_fact_111 : decode cX4_fact 111 = .ok (.iload_n 1, 1) := by decide +kernel
theorem dX4_fact_112 : decode cX4_fact 112 = .ok (.iaload, 1) := by decide +kernel
theorem dX4_fact_113 : decode cX4_fact 113 = .ok (.ireturn, 1) := by decide +kernel
theorem dX4_fact_114 : decode cX4_fact 114 = .ok (.aload_n 0, 1) := by decide +kernel
theorem dX4_fact_115 : decode cX4_fact 115 = .ok (.getfield 38, 3) := by decide +kernel
theorem dX4_fact_118 : decode cX4_fact 118 = .ok (.iload_n 1, 1) := by decide +kernel
theorem dX4_fact_119 : decode cX4_fact 119 = .ok (.iaload, 1) := by decide +kernel
theorem dX4_fact_120 : decode cX4_fact 120 = .ok (.ireturn, 1) := by decide +kernel
theorem dX4_fact_121 : decode cX4_fact 121 = .ok (.aload_n 0, 1) := by decide +kernel
theorem dX4_fact_122 : decode cX4_fact 122 = .ok (.getfield 41, 3) := by decide +kernel
theorem dX4_fact_125 : decode cX4_fact 125 = .ok (.iload_n 1, 1) := by decide +kernel
theorem dX4_fact_126 : decode cX4_fact 126 = .ok (.iaload, 1) := by decide +kernel
theorem dX4_fact_127 : decode cX4_fact 127 = .ok (.ireturn, 1) := by decide +kernel
theorem dX4_fact_128 : decode cX4_fact 128 = .ok (.aload_n 0, 1) := by decide +kernel
theorem dX4_fact_129 : decode cX4_fact 129 = .ok (.getfield 44, 3) := by decide +kernel
theorem dX4_fact_132 : decode cX4_fact 132 = .ok (.iload_n 1, 1) := by decide +kernel
theorem dX4_fact_133 : decode cX4_fact 133 = .ok (.iaload, 1) := by decide +kernel
theorem dX4_fact_134 : decode cX4_fact 134 = .ok (.ireturn, 1) := by decide +kernel
theorem dX4_fact_135 : decode cX4_fact 135 = .ok (.aload_n 0, 1) := by decide +kernel
theorem dX4_fact_136 : decode cX4_fact 136 = .ok (.getfield 47, 3) := by decide +kernel
theorem dX4_fact_139 : decode cX4_fact 139 = .ok (.iload_n 1, 1) := by decide +kernel
theorem dX4_fact_140 : decode cX4_fact 140 = .ok (.iaload, 1) := by decide +kernel
theorem dX4_fact_141 : decode cX4_fact 141 = .ok (.ireturn, 1) := by decide +kernel
theorem dX4_isKnown_0 : decode cX4_isKnown 0 = .ok (.aload_n 0, 1) := by decide +kernel
theorem dX4_isKnown_1 : decode cX4_isKnown 1 = .ok (.getfield 23, 3) := by decide +kernel
theorem dX4_isKnown_4 : decode cX4_isKnown 4 = .ok (.iload_n 1, 1) := by decide +kernel
theorem dX4_isKnown_5 : decode cX4_isKnown 5 = .ok (.iaload, 1) := by decide +kernel
theorem dX4_isKnown_6 : decode cX4_isKnown 6 = .ok (.iload_n 2, 1) := by decide +kernel
theorem dX4_isKnown_7 : decode cX4_isKnown 7 = .ok (.if_icmp .gt 28, 3) := by decide +kernel
theorem dX4_isKnown_10 : decode cX4_isKnown 10 = .ok (.aload_n 0, 1) := by decide +kernel
theorem dX4_isKnown_11 : decode cX4_isKnown 11 = .ok (.getfield 26, 3) := by decide +kernel
theorem dX4_isKnown_14 : decode cX4_isKnown 14 = .ok (.iload_n 1, 1) := by decide +kernel
theorem dX4_isKnown_15 : decode cX4_isKnown 15 = .ok (.iaload, 1) := by decide +kernel
theorem dX4_isKnown_16 : decode cX4_isKnown 16 = .ok (.bipush (-4), 2) := by decide +kernel
theorem dX4_isKnown_18 : decode cX4_isKnown 18 = .ok (.if_icmp .eq 13, 3) := by decide +kernel
theorem dX4_isKnown_21 : decode cX4_isKnown 21 = .ok (.aload_n 0, 1) := by decide +kernel
theorem dX4_isKnown_22 : decode cX4_isKnown 22 = .ok (.getfield 26, 3) := by decide +kernel
theorem dX4_isKnown_25 : decode cX4_isKnown 25 = .ok (.iload_n 1, 1) := by decide +kernel
theorem dX4_isKnown_26 : decode cX4_isKnown 26 = .ok (.iaload, 1) := by decide +kernel
theorem dX4_isKnown_27 : decode cX4_isKnown 27 = .ok (.iload_n 2, 1) := by decide +kernel
theorem dX4_isKnown_28 : decode cX4_isKnown 28 = .ok (.if_icmp .le 7, 3) := by decide +kernel
theorem dX4_isKnown_31 : decode cX4_isKnown 31 = .ok (.iconst 1, 1) := by decide +kernel
theorem dX4_isKnown_32 : decode cX4_isKnown 32 = .ok (.goto 4, 3) := by decide +kernel
theorem dX4_isKnown_35 : decode cX4_isKnown 35 = .ok (.iconst 0, 1) := by decide +kernel
theorem dX4_isKnown_36 : decode cX4_isKnown 36 = .ok (.ireturn, 1) := by decide +kernel
theorem dX4_go_0 : decode cX4_go 0 = .ok (.iconst 0, 1) := by decide +kernel
theorem dX4_go_1 : decode cX4_go 1 = .ok (.istore_n 3, 1) := by decide +kernel
theorem dX4_go_2 : decode cX4_go 2 = .ok (.iload_n 3, 1) := by decide +kernel
theorem dX4_go_3 : decode cX4_go 3 = .ok (.bipush 90, 2) := by decide +kernel
theorem dX4_go_5 : decode cX4_go 5 = .ok (.if_icmp .ge 16, 3) := by decide +kernel
theorem dX4_go_8 : decode cX4_go 8 = .ok (.aload_n 0, 1) := by decide +kernel
theorem dX4_go_9 : decode cX4_go 9 = .ok (.getfield 56, 3) := by decide +kernel
theorem dX4_go_12 : decode cX4_go 12 = .ok (.iload_n 3, 1) := by decide +kernel
theorem dX4_go_13 : decode cX4_go 13 = .ok (.iconst 0, 1) := by decide +kernel
theorem dX4_go_14 : decode cX4_go 14 = .ok (.bastore, 1) := by decide +kernel
theorem dX4_go_15 : decode cX4_go 15 = .ok (.iinc 3 1, 3) := by decide +kernel
theorem dX4_go_18 : decode cX4_go 18 = .ok (.goto (-16), 3) := by decide +kernel
theorem dX4_go_21 : decode cX4_go 21 = .ok (.iconst 0, 1) := by decide +kernel
theorem dX4_go_22 : decode cX4_go 22 = .ok (.istore_n 3, 1) := by decide +kernel
theorem dX4_go_23 : decode cX4_go 23 = .ok (.iload_n 3, 1) := by decide +kernel
theorem dX4_go_24 : decode cX4_go 24 = .ok (.bipush 11, 2) := by decide +kernel
theorem dX4_go_26 : decode cX4_go 26 = .ok (.if_icmp .ge 16, 3) := by decide +kernel
theorem dX4_go_29 : decode cX4_go 29 = .ok (.aload_n 0, 1) := by decide +kernel
theorem dX4_go_30 : decode cX4_go 30 = .ok (.getfield 87, 3) := by decide +kernel
theorem dX4_go_33 : decode cX4_go 33 = .ok (.iload_n 3, 1) := by decide +kernel
theorem dX4_go_34 : decode cX4_go 34 = .ok (.iconst 0, 1) := by decide +kernel
theorem dX4_go_35 : decode cX4_go 35 = .ok (.iastore, 1) := by decide +kernel
theorem dX4_go_36 : decode cX4_go 36 = .ok (.iinc 3 1, 3) := by decide +kernel
theorem dX4_go_39 : decode cX4_go 39 = .ok (.goto (-16), 3) := by decide +kernel
theorem dX4_go_42 : decode cX4_go 42 = .ok (.iconst (-1), 1) := by decide +kernel
theorem dX4_go_43 : decode cX4_go 43 = .ok (.istore_n 3, 1) := by decide +kernel
theorem dX4_go_44 : decode cX4_go 44 = .ok (.iconst (-1), 1) := by decide +kernel
theorem dX4_go_45 : decode cX4_go 45 = .ok (.istore 4, 2) := by decide +kernel
theorem dX4_go_47 : decode cX4_go 47 = .ok (.iconst 1, 1) := by decide +kernel
theorem dX4_go_48 : decode cX4_go 48 = .ok (.istore 5, 2) := by decide +kernel
theorem dX4_go_50 : decode cX4_go 50 = .ok (.iload 5, 2) := by decide +kernel
theorem dX4_go_52 : decode cX4_go 52 = .ok (.ifCond .eq 150, 3) := by decide +kernel
theorem dX4_go_55 : decode cX4_go 55 = .ok (.iconst (-1), 1) := by decide +kernel
theorem dX4_go_56 : decode cX4_go 56 = .ok (.istore 6, 2) := by decide +kernel
theorem dX4_go_58 : decode cX4_go 58 = .ok (.iconst 0, 1) := by decide +kernel
theorem dX4_go_59 : decode cX4_go 59 = .ok (.istore 7, 2) := by decide +kernel
theorem dX4_go_61 : decode cX4_go 61 = .ok (.iload 7, 2) := by decide +kernel
theorem dX4_go_63 : decode cX4_go 63 = .ok (.aload_n 0, 1) := by decide +kernel
theorem dX4_go_64 : decode cX4_go 64 = .ok (.getfield 97, 3) := by decide +kernel
theorem dX4_go_67 : decode cX4_go 67 = .ok (.if_icmp .ge 97, 3) := by decide +kernel
theorem dX4_go_70 : decode cX4_go 70 = .ok (.aload_n 0, 1) := by decide +kernel
theorem dX4_go_71 : decode cX4_go 71 = .ok (.getfield 20, 3) := by decide +kernel
theorem dX4_go_74 : decode cX4_go 74 = .ok (.iload 7, 2) := by decide +kernel
theorem dX4_go_76 : decode cX4_go 76 = .ok (.iaload, 1) := by decide +kernel
theorem dX4_go_77 : decode cX4_go 77 = .ok (.iload_n 3, 1) := by decide +kernel
theorem dX4_go_78 : decode cX4_go 78 = .ok (.if_icmp .gt 21, 3) := by decide +kernel
theorem dX4_go_81 : decode cX4_go 81 = .ok (.aload_n 0, 1) := by decide +kernel
theorem dX4_go_82 : decode cX4_go 82 = .ok (.getfield 20, 3) := by decide +kernel
theorem dX4_go_85 : decode cX4_go 85 = .ok (.iload 7, 2) := by decide +kernel
theorem dX4_go_87 : decode cX4_go 87 = .ok (.iaload, 1) := by decide +kernel
theorem dX4_go_88 : decode cX4_go 88 = .ok (.iload_n 3, 1) := by decide +kernel
theorem dX4_go_89 : decode cX4_go 89 = .ok (.if_icmp .ne 14, 3) := by decide +kernel
theorem dX4_go_92 : decode cX4_go 92 = .ok (.iload 7, 2) := by decide +kernel
theorem dX4_go_94 : decode cX4_go 94 = .ok (.iload 4, 2) := by decide +kernel
theorem dX4_go_96 : decode cX4_go 96 = .ok (.if_icmp .le 7, 3) := by decide +kernel
theorem dX4_go_99 : decode cX4_go 99 = .ok (.iconst 1, 1) := by decide +kernel
theorem dX4_go_100 : decode cX4_go 100 = .ok (.goto 4, 3) := by decide +kernel
theorem dX4_go_103 : decode cX4_go 103 = .ok (.iconst 0, 1) := by decide +kernel
theorem dX4_go_104 : decode cX4_go 104 = .ok (.istore 8, 2) := by decide +kernel
theorem dX4_go_106 : decode cX4_go 106 = .ok (.iload 8, 2) := by decide +kernel
theorem dX4_go_108 : decode cX4_go 108 = .ok (.ifCond .eq 50, 3) := by decide +kernel
theorem dX4_go_111 : decode cX4_go 111 = .ok (.aload_n 0, 1) := by decide +kernel
theorem dX4_go_112 : decode cX4_go 112 = .ok (.getfield 20, 3) := by decide +kernel
theorem dX4_go_115 : decode cX4_go 115 = .ok (.iload 7, 2) := by decide +kernel
theorem dX4_go_117 : decode cX4_go 117 = .ok (.iaload, 1) := by decide +kernel
theorem dX4_go_118 : decode cX4_go 118 = .ok (.iload_n 1, 1) := by decide +kernel
theorem dX4_go_119 : decode cX4_go 119 = .ok (.if_icmp .gt 39, 3) := by decide +kernel
theorem dX4_go_122 : decode cX4_go 122 = .ok (.aload_n 0, 1) := by decide +kernel
theorem dX4_go_123 : decode cX4_go 123 = .ok (.iload 7, 2) := by decide +kernel
theorem dX4_go_125 : decode cX4_go 125 = .ok (.iload_n 2, 1) := by decide +kernel
theorem dX4_go_126 : decode cX4_go 126 = .ok (.invokevirtual 127, 3) := by decide +kernel
theorem dX4_go_129 : decode cX4_go 129 = .ok (.ifCond .eq 29, 3) := by decide +kernel
theorem dX4_go_132 : decode cX4_go 132 = .ok (.iload 6, 2) := by decide +kernel
theorem dX4_go_134 : decode cX4_go 134 = .ok (.ifCond .lt 20, 3) := by decide +kernel
theorem dX4_go_137 : decode cX4_go 137 = .ok (.aload_n 0, 1) := by decide +kernel
theorem dX4_go_138 : decode cX4_go 138 = .ok (.getfield 20, 3) := by decide +kernel
theorem dX4_go_141 : decode cX4_go 141 = .ok (.iload 7, 2) := by decide +kernel
theorem dX4_go_143 : decode cX4_go 143 = .ok (.iaload, 1) := by decide +kernel
theorem dX4_go_144 : decode cX4_go 144 = .ok (.aload_n 0, 1) := by decide +kernel
theorem dX4_go_145 : decode cX4_go 145 = .ok (.getfield 20, 3) := by decide +kernel
theorem dX4_go_148 : decode cX4_go 148 = .ok (.iload 6, 2) := by decide +kernel
theorem dX4_go_150 : decode cX4_go 150 = .ok (.iaload, 1) := by decide +kernel
theorem dX4_go_151 : decode cX4_go 151 = .ok (.if_icmp .ge 7, 3) := by decide +kernel
theorem dX4_go_154 : decode cX4_go 154 = .ok (.iload 7, 2) := by decide +kernel
theorem dX4_go_156 : decode cX4_go 156 = .ok (.istore 6, 2) := by decide +kernel
theorem dX4_go_158 : decode cX4_go 158 = .ok (.iinc 7 1, 3) := by decide +kernel
theorem dX4_go_161 : decode cX4_go 161 = .ok (.goto (-100), 3) := by decide +kernel
theorem dX4_go_164 : decode cX4_go 164 = .ok (.iload 6, 2) := by decide +kernel
theorem dX4_go_166 : decode cX4_go 166 = .ok (.ifCond .lt 7, 3) := by decide +kernel
theorem dX4_go_169 : decode cX4_go 169 = .ok (.iconst 1, 1) := by decide +kernel
theorem dX4_go_170 : decode cX4_go 170 = .ok (.goto 4, 3) := by decide +kernel
theorem dX4_go_173 : decode cX4_go 173 = .ok (.iconst 0, 1) := by decide +kernel
theorem dX4_go_174 : decode cX4_go 174 = .ok (.istore 5, 2) := by decide +kernel
theorem dX4_go_176 : decode cX4_go 176 = .ok (.iload 5, 2) := by decide +kernel
theorem dX4_go_178 : decode cX4_go 178 = .ok (.ifCond .eq 21, 3) := by decide +kernel
theorem dX4_go_181 : decode cX4_go 181 = .ok (.aload_n 0, 1) := by decide +kernel
theorem dX4_go_182 : decode cX4_go 182 = .ok (.getfield 20, 3) := by decide +kernel
theorem dX4_go_185 : decode cX4_go 185 = .ok (.iload 6, 2) := by decide +kernel
theorem dX4_go_187 : decode cX4_go 187 = .ok (.iaload, 1) := by decide +kernel
theorem dX4_go_188 : decode cX4_go 188 = .ok (.istore_n 3, 1) := by decide +kernel
theorem dX4_go_189 : decode cX4_go 189 = .ok (.iload 6, 2) := by decide +kernel
theorem dX4_go_191 : decode cX4_go 191 = .ok (.istore 4, 2) := by decide +kernel
theorem dX4_go_193 : decode cX4_go 193 = .ok (.aload_n 0, 1) := by decide +kernel
theorem dX4_go_194 : decode cX4_go 194 = .ok (.iload 6, 2) := by decide +kernel
theorem dX4_go_196 : decode cX4_go 196 = .ok (.invokevirtual 131, 3) := by decide +kernel
theorem dX4_go_199 : decode cX4_go 199 = .ok (.goto (-149), 3) := by decide +kernel
theorem dX4_go_202 : decode cX4_go 202 = .ok (.return_, 1) := by decide +kernel
theorem dX4_holds_0 : decode cX4_holds 0 = .ok (.aload_n 0, 1) := by decide +kernel
theorem dX4_holds_1 : decode cX4_holds 1 = .ok (.getfield 60, 3) := by decide +kernel
theorem dX4_holds_4 : decode cX4_holds 4 = .ok (.iload_n 1, 1) := by decide +kernel
theorem dX4_holds_5 : decode cX4_holds 5 = .ok (.iload_n 2, 1) := by decide +kernel
theorem dX4_holds_6 : decode cX4_holds 6 = .ok (.iastore, 1) := by decide +kernel
theorem dX4_holds_7 : decode cX4_holds 7 = .ok (.iconst 0, 1) := by decide +kernel
theorem dX4_holds_8 : decode cX4_holds 8 = .ok (.istore 4, 2) := by decide +kernel
theorem dX4_holds_10 : decode cX4_holds 10 = .ok (.iload 4, 2) := by decide +kernel
theorem dX4_holds_12 : decode cX4_holds 12 = .ok (.bipush 10, 2) := by decide +kernel
theorem dX4_holds_14 : decode cX4_holds 14 = .ok (.if_icmp .ge 33, 3) := by decide +kernel
theorem dX4_holds_17 : decode cX4_holds 17 = .ok (.aload_n 0, 1) := by decide +kernel
theorem dX4_holds_18 : decode cX4_holds 18 = .ok (.getfield 63, 3) := by decide +kernel
theorem dX4_holds_21 : decode cX4_holds 21 = .ok (.bipush 10, 2) := by decide +kernel
theorem dX4_holds_23 : decode cX4_holds 23 = .ok (.iload_n 1, 1) := by decide +kernel
theorem dX4_holds_24 : decode cX4_holds 24 = .ok (.imul, 1) := by decide +kernel
theorem dX4_holds_25 : decode cX4_holds 25 = .ok (.iload 4, 2) := by decide +kernel
theorem dX4_holds_27 : decode cX4_holds 27 = .ok (.iadd, 1) := by decide +kernel
theorem dX4_holds_28 : decode cX4_holds 28 = .ok (.iload 4, 2) := by decide +kernel
theorem dX4_holds_30 : decode cX4_holds 30 = .ok (.iload_n 2, 1) := by decide +kernel
theorem dX4_holds_31 : decode cX4_holds 31 = .ok (.if_icmp .ne 8, 3) := by decide +kernel
theorem dX4_holds_34 : decode cX4_holds 34 = .ok (.bipush 24, 2) := by decide +kernel
theorem dX4_holds_36 : decode cX4_holds 36 = .ok (.goto 4, 3) := by decide +kernel
theorem dX4_holds_39 : decode cX4_holds 39 = .ok (.iconst 0, 1) := by decide +kernel
theorem dX4_holds_40 : decode cX4_holds 40 = .ok (.iastore, 1) := by decide +kernel
theorem dX4_holds_41 : decode cX4_holds 41 = .ok (.iinc 4 1, 3) := by decide +kernel
theorem dX4_holds_44 : decode cX4_holds 44 = .ok (.goto (-34), 3) := by decide +kernel
theorem dX4_holds_47 : decode cX4_holds 47 = .ok (.aload_n 0, 1) := by decide +kernel
theorem dX4_holds_48 : decode cX4_holds 48 = .ok (.getfield 66, 3) := by decide +kernel
theorem dX4_holds_51 : decode cX4_holds 51 = .ok (.iload_n 1, 1) := by decide +kernel
theorem dX4_holds_52 : decode cX4_holds 52 = .ok (.iload_n 3, 1) := by decide +kernel
theorem dX4_holds_53 : decode cX4_holds 53 = .ok (.iastore, 1) := by decide +kernel
theorem dX4_holds_54 : decode cX4_holds 54 = .ok (.aload_n 0, 1) := by decide +kernel
theorem dX4_holds_55 : decode cX4_holds 55 = .ok (.getfield 78, 3) := by decide +kernel
theorem dX4_holds_58 : decode cX4_holds 58 = .ok (.iload_n 1, 1) := by decide +kernel
theorem dX4_holds_59 : decode cX4_holds 59 = .ok (.iconst 0, 1) := by decide +kernel
theorem dX4_holds_60 : decode cX4_holds 60 = .ok (.iastore, 1) := by decide +kernel
theorem dX4_holds_61 : decode cX4_holds 61 = .ok (.return_, 1) := by decide +kernel
theorem dX4_comes_0 : decode cX4_comes 0 = .ok (.aload_n 0, 1) := by decide +kernel
theorem dX4_comes_1 : decode cX4_comes 1 = .ok (.getfield 47, 3) := by decide +kernel
theorem dX4_comes_4 : decode cX4_comes 4 = .ok (.iload_n 1, 1) := by decide +kernel
theorem dX4_comes_5 : decode cX4_comes 5 = .ok (.iaload, 1) := by decide +kernel
theorem dX4_comes_6 : decode cX4_comes 6 = .ok (.istore_n 2, 1) := by decide +kernel
theorem dX4_comes_7 : decode cX4_comes 7 = .ok (.aload_n 0, 1) := by decide +kernel
theorem dX4_comes_8 : decode cX4_comes 8 = .ok (.getfield 20, 3) := by decide +kernel
theorem dX4_comes_11 : decode cX4_comes 11 = .ok (.iload_n 1, 1) := by decide +kernel
theorem dX4_comes_12 : decode cX4_comes 12 = .ok (.iaload, 1) := by decide +kernel
theorem dX4_comes_13 : decode cX4_comes 13 = .ok (.istore_n 3, 1) := by decide +kernel
theorem dX4_comes_14 : decode cX4_comes 14 = .ok (.aload_n 0, 1) := by decide +kernel
theorem dX4_comes_15 : decode cX4_comes 15 = .ok (.getfield 16, 3) := by decide +kernel
theorem dX4_comes_18 : decode cX4_comes 18 = .ok (.iload_n 1, 1) := by decide +kernel
theorem dX4_comes_19 : decode cX4_comes 19 = .ok (.iaload, 1) := by decide +kernel
theorem dX4_comes_20 : decode cX4_comes 20 = .ok (.lookupswitch 82 #[(0, 28), (6, 74)], 28) := by decide +kernel
theorem dX4_comes_48 : decode cX4_comes 48 = .ok (.aload_n 0, 1) := by decide +kernel
theorem dX4_comes_49 : decode cX4_comes 49 = .ok (.getfield 56, 3) := by decide +kernel
theorem dX4_comes_52 : decode cX4_comes 52 = .ok (.iload_n 2, 1) := by decide +kernel
theorem dX4_comes_53 : decode cX4_comes 53 = .ok (.iconst 1, 1) := by decide +kernel
theorem dX4_comes_54 : decode cX4_comes 54 = .ok (.bastore, 1) := by decide +kernel
theorem dX4_comes_55 : decode cX4_comes 55 = .ok (.aload_n 0, 1) := by decide +kernel
theorem dX4_comes_56 : decode cX4_comes 56 = .ok (.getfield 69, 3) := by decide +kernel
theorem dX4_comes_59 : decode cX4_comes 59 = .ok (.iload_n 2, 1) := by decide +kernel
theorem dX4_comes_60 : decode cX4_comes 60 = .ok (.aload_n 0, 1) := by decide +kernel
theorem dX4_comes_61 : decode cX4_comes 61 = .ok (.getfield 38, 3) := by decide +kernel
theorem dX4_comes_64 : decode cX4_comes 64 = .ok (.iload_n 1, 1) := by decide +kernel
theorem dX4_comes_65 : decode cX4_comes 65 = .ok (.iaload, 1) := by decide +kernel
theorem dX4_comes_66 : decode cX4_comes 66 = .ok (.iastore, 1) := by decide +kernel
theorem dX4_comes_67 : decode cX4_comes 67 = .ok (.aload_n 0, 1) := by decide +kernel
theorem dX4_comes_68 : decode cX4_comes 68 = .ok (.getfield 72, 3) := by decide +kernel
theorem dX4_comes_71 : decode cX4_comes 71 = .ok (.iload_n 2, 1) := by decide +kernel
theorem dX4_comes_72 : decode cX4_comes 72 = .ok (.aload_n 0, 1) := by decide +kernel
theorem dX4_comes_73 : decode cX4_comes 73 = .ok (.getfield 41, 3) := by decide +kernel
theorem dX4_comes_76 : decode cX4_comes 76 = .ok (.iload_n 1, 1) := by decide +kernel
theorem dX4_comes_77 : decode cX4_comes 77 = .ok (.iaload, 1) := by decide +kernel
theorem dX4_comes_78 : decode cX4_comes 78 = .ok (.iastore, 1) := by decide +kernel
theorem dX4_comes_79 : decode cX4_comes 79 = .ok (.aload_n 0, 1) := by decide +kernel
theorem dX4_comes_80 : decode cX4_comes 80 = .ok (.iload_n 2, 1) := by decide +kernel
theorem dX4_comes_81 : decode cX4_comes 81 = .ok (.aload_n 0, 1) := by decide +kernel
theorem dX4_comes_82 : decode cX4_comes 82 = .ok (.getfield 32, 3) := by decide +kernel
theorem dX4_comes_85 : decode cX4_comes 85 = .ok (.iload_n 1, 1) := by decide +kernel
theorem dX4_comes_86 : decode cX4_comes 86 = .ok (.iaload, 1) := by decide +kernel
theorem dX4_comes_87 : decode cX4_comes 87 = .ok (.iload_n 3, 1) := by decide +kernel
theorem dX4_comes_88 : decode cX4_comes 88 = .ok (.invokevirtual 135, 3) := by decide +kernel
theorem dX4_comes_91 : decode cX4_comes 91 = .ok (.goto 27, 3) := by decide +kernel
theorem dX4_comes_94 : decode cX4_comes 94 = .ok (.aload_n 0, 1) := by decide +kernel
theorem dX4_comes_95 : decode cX4_comes 95 = .ok (.iload_n 1, 1) := by decide +kernel
theorem dX4_comes_96 : decode cX4_comes 96 = .ok (.invokevirtual 139, 3) := by decide +kernel
theorem dX4_comes_99 : decode cX4_comes 99 = .ok (.goto 19, 3) := by decide +kernel
theorem dX4_comes_102 : decode cX4_comes 102 = .ok (.aload_n 0, 1) := by decide +kernel
theorem dX4_comes_103 : decode cX4_comes 103 = .ok (.getfield 56, 3) := by decide +kernel
theorem dX4_comes_106 : decode cX4_comes 106 = .ok (.iload_n 2, 1) := by decide +kernel
theorem dX4_comes_107 : decode cX4_comes 107 = .ok (.baload, 1) := by decide +kernel
theorem dX4_comes_108 : decode cX4_comes 108 = .ok (.ifCond .eq 10, 3) := by decide +kernel
theorem dX4_comes_111 : decode cX4_comes 111 = .ok (.aload_n 0, 1) := by decide +kernel
theorem dX4_comes_112 : decode cX4_comes 112 = .ok (.iload_n 1, 1) := by decide +kernel
theorem dX4_comes_113 : decode cX4_comes 113 = .ok (.iload_n 2, 1) := by decide +kernel
theorem dX4_comes_114 : decode cX4_comes 114 = .ok (.iload_n 3, 1) := by decide +kernel
theorem dX4_comes_115 : decode cX4_comes 115 = .ok (.invokevirtual 142, 3) := by decide +kernel
theorem dX4_comes_118 : decode cX4_comes 118 = .ok (.return_, 1) := by decide +kernel
theorem dX4_comesTo_0 : decode cX4_comesTo 0 = .ok (.aload_n 0, 1) := by decide +kernel
theorem dX4_comesTo_1 : decode cX4_comesTo 1 = .ok (.getfield 16, 3) := by decide +kernel
theorem dX4_comesTo_4 : decode cX4_comesTo 4 = .ok (.iload_n 1, 1) := by decide +kernel
theorem dX4_comesTo_5 : decode cX4_comesTo 5 = .ok (.iaload, 1) := by decide +kernel
theorem dX4_comesTo_6 : decode cX4_comesTo 6 = .ok (.tableswitch 99 1 4 #[30, 47, 62, 72], 30) := by decide +kernel
theorem dX4_comesTo_36 : decode cX4_comesTo 36 = .ok (.aload_n 0, 1) := by decide +kernel
theorem dX4_comesTo_37 : decode cX4_comesTo 37 = .ok (.getfield 66, 3) := by decide +kernel
theorem dX4_comesTo_40 : decode cX4_comesTo 40 = .ok (.iload_n 2, 1) := by decide +kernel
theorem dX4_comesTo_41 : decode cX4_comesTo 41 = .ok (.iload_n 3, 1) := by decide +kernel
theorem dX4_comesTo_42 : decode cX4_comesTo 42 = .ok (.iastore, 1) := by decide +kernel
theorem dX4_comesTo_43 : decode cX4_comesTo 43 = .ok (.aload_n 0, 1) := by decide +kernel
theorem dX4_comesTo_44 : decode cX4_comesTo 44 = .ok (.getfield 78, 3) := by decide +kernel
theorem dX4_comesTo_47 : decode cX4_comesTo 47 = .ok (.iload_n 2, 1) := by decide +kernel
theorem dX4_comesTo_48 : decode cX4_comesTo 48 = .ok (.iconst 0, 1) := by decide +kernel
theorem dX4_comesTo_49 : decode cX4_comesTo 49 = .ok (.iastore, 1) := by decide +kernel
theorem dX4_comesTo_50 : decode cX4_comesTo 50 = .ok (.goto 130, 3) := by decide +kernel
theorem dX4_comesTo_53 : decode cX4_comesTo 53 = .ok (.aload_n 0, 1) := by decide +kernel
theorem dX4_comesTo_54 : decode cX4_comesTo 54 = .ok (.iload_n 2, 1) := by decide +kernel
theorem dX4_comesTo_55 : decode cX4_comesTo 55 = .ok (.aload_n 0, 1) := by decide +kernel
theorem dX4_comesTo_56 : decode cX4_comesTo 56 = .ok (.getfield 32, 3) := by decide +kernel
theorem dX4_comesTo_59 : decode cX4_comesTo 59 = .ok (.iload_n 1, 1) := by decide +kernel
theorem dX4_comesTo_60 : decode cX4_comesTo 60 = .ok (.iaload, 1) := by decide +kernel
theorem dX4_comesTo_61 : decode cX4_comesTo 61 = .ok (.iload_n 3, 1) := by decide +kernel
theorem dX4_comesTo_62 : decode cX4_comesTo 62 = .ok (.invokevirtual 145, 3) := by decide +kernel
theorem dX4_comesTo_65 : decode cX4_comesTo 65 = .ok (.goto 115, 3) := by decide +kernel
theorem dX4_comesTo_68 : decode cX4_comesTo 68 = .ok (.aload_n 0, 1) := by decide +kernel
theorem dX4_comesTo_69 : decode cX4_comesTo 69 = .ok (.getfield 56, 3) := by decide +kernel
theorem dX4_comesTo_72 : decode cX4_comesTo 72 = .ok (.iload_n 2, 1) := by decide +kernel
theorem dX4_comesTo_73 : decode cX4_comesTo 73 = .ok (.iconst 0, 1) := by decide +kernel
theorem dX4_comesTo_74 : decode cX4_comesTo 74 = .ok (.bastore, 1) := by decide +kernel
theorem dX4_comesTo_75 : decode cX4_comesTo 75 = .ok (.goto 105, 3) := by decide +kernel
theorem dX4_comesTo_78 : decode cX4_comesTo 78 = .ok (.aload_n 0, 1) := by decide +kernel
theorem dX4_comesTo_79 : decode cX4_comesTo 79 = .ok (.getfield 69, 3) := by decide +kernel
theorem dX4_comesTo_82 : decode cX4_comesTo 82 = .ok (.iload_n 2, 1) := by decide +kernel
theorem dX4_comesTo_83 : decode cX4_comesTo 83 = .ok (.aload_n 0, 1) := by decide +kernel
theorem dX4_comesTo_84 : decode cX4_comesTo 84 = .ok (.getfield 38, 3) := by decide +kernel
theorem dX4_comesTo_87 : decode cX4_comesTo 87 = .ok (.iload_n 1, 1) := by decide +kernel
theorem dX4_comesTo_88 : decode cX4_comesTo 88 = .ok (.iaload, 1) := by decide +kernel
theorem dX4_comesTo_89 : decode cX4_comesTo 89 = .ok (.iastore, 1) := by decide +kernel
theorem dX4_comesTo_90 : decode cX4_comesTo 90 = .ok (.aload_n 0, 1) := by decide +kernel
theorem dX4_comesTo_91 : decode cX4_comesTo 91 = .ok (.getfield 72, 3) := by decide +kernel
theorem dX4_comesTo_94 : decode cX4_comesTo 94 = .ok (.iload_n 2, 1) := by decide +kernel
theorem dX4_comesTo_95 : decode cX4_comesTo 95 = .ok (.aload_n 0, 1) := by decide +kernel
theorem dX4_comesTo_96 : decode cX4_comesTo 96 = .ok (.getfield 41, 3) := by decide +kernel
theorem dX4_comesTo_99 : decode cX4_comesTo 99 = .ok (.iload_n 1, 1) := by decide +kernel
theorem dX4_comesTo_100 : decode cX4_comesTo 100 = .ok (.iaload, 1) := by decide +kernel
theorem dX4_comesTo_101 : decode cX4_comesTo 101 = .ok (.iastore, 1) := by decide +kernel
theorem dX4_comesTo_102 : decode cX4_comesTo 102 = .ok (.goto 78, 3) := by decide +kernel
theorem dX4_comesTo_105 : decode cX4_comesTo 105 = .ok (.aload_n 0, 1) := by decide +kernel
theorem dX4_comesTo_106 : decode cX4_comesTo 106 = .ok (.getfield 63, 3) := by decide +kernel
theorem dX4_comesTo_109 : decode cX4_comesTo 109 = .ok (.bipush 10, 2) := by decide +kernel
theorem dX4_comesTo_111 : decode cX4_comesTo 111 = .ok (.iload_n 2, 1) := by decide +kernel
theorem dX4_comesTo_112 : decode cX4_comesTo 112 = .ok (.imul, 1) := by decide +kernel
theorem dX4_comesTo_113 : decode cX4_comesTo 113 = .ok (.aload_n 0, 1) := by decide +kernel
theorem dX4_comesTo_114 : decode cX4_comesTo 114 = .ok (.getfield 32, 3) := by decide +kernel
theorem dX4_comesTo_117 : decode cX4_comesTo 117 = .ok (.iload_n 1, 1) := by decide +kernel
theorem dX4_comesTo_118 : decode cX4_comesTo 118 = .ok (.iaload, 1) := by decide +kernel
theorem dX4_comesTo_119 : decode cX4_comesTo 119 = .ok (.iadd, 1) := by decide +kernel
theorem dX4_comesTo_120 : decode cX4_comesTo 120 = .ok (.iaload, 1) := by decide +kernel
theorem dX4_comesTo_121 : decode cX4_comesTo 121 = .ok (.aload_n 0, 1) := by decide +kernel
theorem dX4_comesTo_122 : decode cX4_comesTo 122 = .ok (.getfield 44, 3) := by decide +kernel
theorem dX4_comesTo_125 : decode cX4_comesTo 125 = .ok (.iload_n 1, 1) := by decide +kernel
theorem dX4_comesTo_126 : decode cX4_comesTo 126 = .ok (.iaload, 1) := by decide +kernel
theorem dX4_comesTo_127 : decode cX4_comesTo 127 = .ok (.if_icmp .lt 53, 3) := by decide +kernel
theorem dX4_comesTo_130 : decode cX4_comesTo 130 = .ok (.aload_n 0, 1) := by decide +kernel
theorem dX4_comesTo_131 : decode cX4_comesTo 131 = .ok (.getfield 63, 3) := by decide +kernel
theorem dX4_comesTo_134 : decode cX4_comesTo 134 = .ok (.bipush 10, 2) := by decide +kernel
