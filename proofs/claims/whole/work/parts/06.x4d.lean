theorem dX4_contested_7 : decode cX4_contested 7 = .ok (.iload_n 2, 1) := by decide +kernel
theorem dX4_contested_8 : decode cX4_contested 8 = .ok (.invokestatic 155, 3) := by decide +kernel
theorem dX4_contested_11 : decode cX4_contested 11 = .ok (.ifCond .eq 10, 3) := by decide +kernel
theorem dX4_contested_14 : decode cX4_contested 14 = .ok (.iload_n 3, 1) := by decide +kernel
theorem dX4_contested_15 : decode cX4_contested 15 = .ok (.invokestatic 155, 3) := by decide +kernel
theorem dX4_contested_18 : decode cX4_contested 18 = .ok (.ifCond .ne 5, 3) := by decide +kernel
theorem dX4_contested_21 : decode cX4_contested 21 = .ok (.iconst (-1), 1) := by decide +kernel
theorem dX4_contested_22 : decode cX4_contested 22 = .ok (.ireturn, 1) := by decide +kernel
theorem dX4_contested_23 : decode cX4_contested 23 = .ok (.aload_n 0, 1) := by decide +kernel
theorem dX4_contested_24 : decode cX4_contested 24 = .ok (.iload_n 2, 1) := by decide +kernel
theorem dX4_contested_25 : decode cX4_contested 25 = .ok (.iload_n 3, 1) := by decide +kernel
theorem dX4_contested_26 : decode cX4_contested 26 = .ok (.invokevirtual 158, 3) := by decide +kernel
theorem dX4_contested_29 : decode cX4_contested 29 = .ok (.iconst 0, 1) := by decide +kernel
theorem dX4_contested_30 : decode cX4_contested 30 = .ok (.istore 4, 2) := by decide +kernel
theorem dX4_contested_32 : decode cX4_contested 32 = .ok (.iconst 0, 1) := by decide +kernel
theorem dX4_contested_33 : decode cX4_contested 33 = .ok (.istore 5, 2) := by decide +kernel
theorem dX4_contested_35 : decode cX4_contested 35 = .ok (.iload 5, 2) := by decide +kernel
theorem dX4_contested_37 : decode cX4_contested 37 = .ok (.bipush 60, 2) := by decide +kernel
theorem dX4_contested_39 : decode cX4_contested 39 = .ok (.if_icmp .ge 101, 3) := by decide +kernel
theorem dX4_contested_42 : decode cX4_contested 42 = .ok (.iconst 0, 1) := by decide +kernel
theorem dX4_contested_43 : decode cX4_contested 43 = .ok (.istore 6, 2) := by decide +kernel
theorem dX4_contested_45 : decode cX4_contested 45 = .ok (.iconst 0, 1) := by decide +kernel
theorem dX4_contested_46 : decode cX4_contested 46 = .ok (.istore 7, 2) := by decide +kernel
theorem dX4_contested_48 : decode cX4_contested 48 = .ok (.iload 7, 2) := by decide +kernel
theorem dX4_contested_50 : decode cX4_contested 50 = .ok (.aload_n 0, 1) := by decide +kernel
theorem dX4_contested_51 : decode cX4_contested 51 = .ok (.getfield 97, 3) := by decide +kernel
theorem dX4_contested_54 : decode cX4_contested 54 = .ok (.if_icmp .ge 64, 3) := by decide +kernel
theorem dX4_contested_57 : decode cX4_contested 57 = .ok (.iload 6, 2) := by decide +kernel
theorem dX4_contested_59 : decode cX4_contested 59 = .ok (.aload_n 0, 1) := by decide +kernel
theorem dX4_contested_60 : decode cX4_contested 60 = .ok (.getfield 56, 3) := by decide +kernel
theorem dX4_contested_63 : decode cX4_contested 63 = .ok (.iload 7, 2) := by decide +kernel
theorem dX4_contested_65 : decode cX4_contested 65 = .ok (.baload, 1) := by decide +kernel
theorem dX4_contested_66 : decode cX4_contested 66 = .ok (.ifCond .eq 42, 3) := by decide +kernel
theorem dX4_contested_69 : decode cX4_contested 69 = .ok (.aload_n 0, 1) := by decide +kernel
theorem dX4_contested_70 : decode cX4_contested 70 = .ok (.getfield 29, 3) := by decide +kernel
theorem dX4_contested_73 : decode cX4_contested 73 = .ok (.iload 7, 2) := by decide +kernel
theorem dX4_contested_75 : decode cX4_contested 75 = .ok (.iaload, 1) := by decide +kernel
theorem dX4_contested_76 : decode cX4_contested 76 = .ok (.iload_n 1, 1) := by decide +kernel
theorem dX4_contested_77 : decode cX4_contested 77 = .ok (.if_icmp .ne 31, 3) := by decide +kernel
theorem dX4_contested_80 : decode cX4_contested 80 = .ok (.iload 5, 2) := by decide +kernel
theorem dX4_contested_82 : decode cX4_contested 82 = .ok (.aload_n 0, 1) := by decide +kernel
theorem dX4_contested_83 : decode cX4_contested 83 = .ok (.getfield 69, 3) := by decide +kernel
theorem dX4_contested_86 : decode cX4_contested 86 = .ok (.iload 7, 2) := by decide +kernel
theorem dX4_contested_88 : decode cX4_contested 88 = .ok (.iaload, 1) := by decide +kernel
theorem dX4_contested_89 : decode cX4_contested 89 = .ok (.if_icmp .lt 19, 3) := by decide +kernel
theorem dX4_contested_92 : decode cX4_contested 92 = .ok (.iload 5, 2) := by decide +kernel
theorem dX4_contested_94 : decode cX4_contested 94 = .ok (.aload_n 0, 1) := by decide +kernel
theorem dX4_contested_95 : decode cX4_contested 95 = .ok (.getfield 72, 3) := by decide +kernel
theorem dX4_contested_98 : decode cX4_contested 98 = .ok (.iload 7, 2) := by decide +kernel
theorem dX4_contested_100 : decode cX4_contested 100 = .ok (.iaload, 1) := by decide +kernel
theorem dX4_contested_101 : decode cX4_contested 101 = .ok (.if_icmp .gt 7, 3) := by decide +kernel
theorem dX4_contested_104 : decode cX4_contested 104 = .ok (.iconst 1, 1) := by decide +kernel
theorem dX4_contested_105 : decode cX4_contested 105 = .ok (.goto 4, 3) := by decide +kernel
theorem dX4_contested_108 : decode cX4_contested 108 = .ok (.iconst 0, 1) := by decide +kernel
theorem dX4_contested_109 : decode cX4_contested 109 = .ok (.iadd, 1) := by decide +kernel
theorem dX4_contested_110 : decode cX4_contested 110 = .ok (.istore 6, 2) := by decide +kernel
theorem dX4_contested_112 : decode cX4_contested 112 = .ok (.iinc 7 1, 3) := by decide +kernel
theorem dX4_contested_115 : decode cX4_contested 115 = .ok (.goto (-67), 3) := by decide +kernel
theorem dX4_contested_118 : decode cX4_contested 118 = .ok (.iload 4, 2) := by decide +kernel
theorem dX4_contested_120 : decode cX4_contested 120 = .ok (.iload 6, 2) := by decide +kernel
theorem dX4_contested_122 : decode cX4_contested 122 = .ok (.iconst 1, 1) := by decide +kernel
theorem dX4_contested_123 : decode cX4_contested 123 = .ok (.if_icmp .le 7, 3) := by decide +kernel
theorem dX4_contested_126 : decode cX4_contested 126 = .ok (.iconst 1, 1) := by decide +kernel
theorem dX4_contested_127 : decode cX4_contested 127 = .ok (.goto 4, 3) := by decide +kernel
theorem dX4_contested_130 : decode cX4_contested 130 = .ok (.iconst 0, 1) := by decide +kernel
theorem dX4_contested_131 : decode cX4_contested 131 = .ok (.iadd, 1) := by decide +kernel
theorem dX4_contested_132 : decode cX4_contested 132 = .ok (.istore 4, 2) := by decide +kernel
theorem dX4_contested_134 : decode cX4_contested 134 = .ok (.iinc 5 1, 3) := by decide +kernel
theorem dX4_contested_137 : decode cX4_contested 137 = .ok (.goto (-102), 3) := by decide +kernel
theorem dX4_contested_140 : decode cX4_contested 140 = .ok (.iload 4, 2) := by decide +kernel
theorem dX4_contested_142 : decode cX4_contested 142 = .ok (.ireturn, 1) := by decide +kernel
theorem dX4_dug_0 : decode cX4_dug 0 = .ok (.iload_n 1, 1) := by decide +kernel
theorem dX4_dug_1 : decode cX4_dug 1 = .ok (.iconst 0, 1) := by decide +kernel
theorem dX4_dug_2 : decode cX4_dug 2 = .ok (.bipush 10, 2) := by decide +kernel
theorem dX4_dug_4 : decode cX4_dug 4 = .ok (.invokestatic 93, 3) := by decide +kernel
theorem dX4_dug_7 : decode cX4_dug 7 = .ok (.ifCond .eq 17, 3) := by decide +kernel
theorem dX4_dug_10 : decode cX4_dug 10 = .ok (.iload_n 2, 1) := by decide +kernel
theorem dX4_dug_11 : decode cX4_dug 11 = .ok (.invokestatic 155, 3) := by decide +kernel
theorem dX4_dug_14 : decode cX4_dug 14 = .ok (.ifCond .eq 10, 3) := by decide +kernel
theorem dX4_dug_17 : decode cX4_dug 17 = .ok (.iload_n 3, 1) := by decide +kernel
theorem dX4_dug_18 : decode cX4_dug 18 = .ok (.invokestatic 155, 3) := by decide +kernel
theorem dX4_dug_21 : decode cX4_dug 21 = .ok (.ifCond .ne 5, 3) := by decide +kernel
theorem dX4_dug_24 : decode cX4_dug 24 = .ok (.iconst (-1), 1) := by decide +kernel
theorem dX4_dug_25 : decode cX4_dug 25 = .ok (.ireturn, 1) := by decide +kernel
theorem dX4_dug_26 : decode cX4_dug 26 = .ok (.aload_n 0, 1) := by decide +kernel
theorem dX4_dug_27 : decode cX4_dug 27 = .ok (.iload_n 2, 1) := by decide +kernel
theorem dX4_dug_28 : decode cX4_dug 28 = .ok (.iload_n 3, 1) := by decide +kernel
theorem dX4_dug_29 : decode cX4_dug 29 = .ok (.invokevirtual 158, 3) := by decide +kernel
theorem dX4_dug_32 : decode cX4_dug 32 = .ok (.aload_n 0, 1) := by decide +kernel
theorem dX4_dug_33 : decode cX4_dug 33 = .ok (.getfield 87, 3) := by decide +kernel
theorem dX4_dug_36 : decode cX4_dug 36 = .ok (.iload_n 1, 1) := by decide +kernel
theorem dX4_dug_37 : decode cX4_dug 37 = .ok (.iaload, 1) := by decide +kernel
theorem dX4_dug_38 : decode cX4_dug 38 = .ok (.ireturn, 1) := by decide +kernel
theorem dX4_due_0 : decode cX4_due 0 = .ok (.iload_n 1, 1) := by decide +kernel
theorem dX4_due_1 : decode cX4_due 1 = .ok (.invokestatic 110, 3) := by decide +kernel
theorem dX4_due_4 : decode cX4_due 4 = .ok (.ifCond .eq 17, 3) := by decide +kernel
theorem dX4_due_7 : decode cX4_due 7 = .ok (.iload_n 2, 1) := by decide +kernel
theorem dX4_due_8 : decode cX4_due 8 = .ok (.invokestatic 155, 3) := by decide +kernel
theorem dX4_due_11 : decode cX4_due 11 = .ok (.ifCond .eq 10, 3) := by decide +kernel
theorem dX4_due_14 : decode cX4_due 14 = .ok (.iload_n 3, 1) := by decide +kernel
theorem dX4_due_15 : decode cX4_due 15 = .ok (.invokestatic 155, 3) := by decide +kernel
theorem dX4_due_18 : decode cX4_due 18 = .ok (.ifCond .ne 5, 3) := by decide +kernel
theorem dX4_due_21 : decode cX4_due 21 = .ok (.iconst (-1), 1) := by decide +kernel
theorem dX4_due_22 : decode cX4_due 22 = .ok (.ireturn, 1) := by decide +kernel
theorem dX4_due_23 : decode cX4_due 23 = .ok (.aload_n 0, 1) := by decide +kernel
theorem dX4_due_24 : decode cX4_due 24 = .ok (.iload_n 2, 1) := by decide +kernel
theorem dX4_due_25 : decode cX4_due 25 = .ok (.iload_n 3, 1) := by decide +kernel
theorem dX4_due_26 : decode cX4_due 26 = .ok (.invokevirtual 158, 3) := by decide +kernel
theorem dX4_due_29 : decode cX4_due 29 = .ok (.aload_n 0, 1) := by decide +kernel
theorem dX4_due_30 : decode cX4_due 30 = .ok (.getfield 87, 3) := by decide +kernel
theorem dX4_due_33 : decode cX4_due 33 = .ok (.iload_n 1, 1) := by decide +kernel
theorem dX4_due_34 : decode cX4_due 34 = .ok (.iaload, 1) := by decide +kernel
theorem dX4_due_35 : decode cX4_due 35 = .ok (.sipush 240, 3) := by decide +kernel
theorem dX4_due_38 : decode cX4_due 38 = .ok (.idiv, 1) := by decide +kernel
theorem dX4_due_39 : decode cX4_due 39 = .ok (.ireturn, 1) := by decide +kernel
theorem dX4_changed_0 : decode cX4_changed 0 = .ok (.iload_n 1, 1) := by decide +kernel
theorem dX4_changed_1 : decode cX4_changed 1 = .ok (.invokestatic 155, 3) := by decide +kernel
theorem dX4_changed_4 : decode cX4_changed 4 = .ok (.ifCond .eq 17, 3) := by decide +kernel
theorem dX4_changed_7 : decode cX4_changed 7 = .ok (.iload_n 2, 1) := by decide +kernel
theorem dX4_changed_8 : decode cX4_changed 8 = .ok (.invokestatic 155, 3) := by decide +kernel
theorem dX4_changed_11 : decode cX4_changed 11 = .ok (.ifCond .eq 10, 3) := by decide +kernel
theorem dX4_changed_14 : decode cX4_changed 14 = .ok (.iload_n 3, 1) := by decide +kernel
theorem dX4_changed_15 : decode cX4_changed 15 = .ok (.invokestatic 155, 3) := by decide +kernel
theorem dX4_changed_18 : decode cX4_changed 18 = .ok (.ifCond .ne 5, 3) := by decide +kernel
theorem dX4_changed_21 : decode cX4_changed 21 = .ok (.iconst (-1), 1) := by decide +kernel
theorem dX4_changed_22 : decode cX4_changed 22 = .ok (.ireturn, 1) := by decide +kernel
theorem dX4_changed_23 : decode cX4_changed 23 = .ok (.aload_n 0, 1) := by decide +kernel
theorem dX4_changed_24 : decode cX4_changed 24 = .ok (.iload_n 1, 1) := by decide +kernel
theorem dX4_changed_25 : decode cX4_changed 25 = .ok (.iload_n 2, 1) := by decide +kernel
theorem dX4_changed_26 : decode cX4_changed 26 = .ok (.invokevirtual 158, 3) := by decide +kernel
theorem dX4_changed_29 : decode cX4_changed 29 = .ok (.iconst 0, 1) := by decide +kernel
theorem dX4_changed_30 : decode cX4_changed 30 = .ok (.istore 4, 2) := by decide +kernel
theorem dX4_changed_32 : decode cX4_changed 32 = .ok (.iload 4, 2) := by decide +kernel
theorem dX4_changed_34 : decode cX4_changed 34 = .ok (.sipush 240, 3) := by decide +kernel
theorem dX4_changed_37 : decode cX4_changed 37 = .ok (.if_icmp .ge 49, 3) := by decide +kernel
theorem dX4_changed_40 : decode cX4_changed 40 = .ok (.aload_n 0, 1) := by decide +kernel
theorem dX4_changed_41 : decode cX4_changed 41 = .ok (.iload 4, 2) := by decide +kernel
theorem dX4_changed_43 : decode cX4_changed 43 = .ok (.bipush 60, 2) := by decide +kernel
theorem dX4_changed_45 : decode cX4_changed 45 = .ok (.idiv, 1) := by decide +kernel
theorem dX4_changed_46 : decode cX4_changed 46 = .ok (.iload 4, 2) := by decide +kernel
theorem dX4_changed_48 : decode cX4_changed 48 = .ok (.bipush 60, 2) := by decide +kernel
theorem dX4_changed_50 : decode cX4_changed 50 = .ok (.irem, 1) := by decide +kernel
theorem dX4_changed_51 : decode cX4_changed 51 = .ok (.invokevirtual 148, 3) := by decide +kernel
theorem dX4_changed_54 : decode cX4_changed 54 = .ok (.istore 5, 2) := by decide +kernel
theorem dX4_changed_56 : decode cX4_changed 56 = .ok (.aload_n 0, 1) := by decide +kernel
theorem dX4_changed_57 : decode cX4_changed 57 = .ok (.getfield 90, 3) := by decide +kernel
theorem dX4_changed_60 : decode cX4_changed 60 = .ok (.iload 4, 2) := by decide +kernel
theorem dX4_changed_62 : decode cX4_changed 62 = .ok (.iload 5, 2) := by decide +kernel
theorem dX4_changed_64 : decode cX4_changed 64 = .ok (.ifCond .ge 8, 3) := by decide +kernel
theorem dX4_changed_67 : decode cX4_changed 67 = .ok (.bipush (-4), 2) := by decide +kernel
theorem dX4_changed_69 : decode cX4_changed 69 = .ok (.goto 10, 3) := by decide +kernel
theorem dX4_changed_72 : decode cX4_changed 72 = .ok (.aload_n 0, 1) := by decide +kernel
theorem dX4_changed_73 : decode cX4_changed 73 = .ok (.getfield 60, 3) := by decide +kernel
theorem dX4_changed_76 : decode cX4_changed 76 = .ok (.iload 5, 2) := by decide +kernel
theorem dX4_changed_78 : decode cX4_changed 78 = .ok (.iaload, 1) := by decide +kernel
theorem dX4_changed_79 : decode cX4_changed 79 = .ok (.iastore, 1) := by decide +kernel
theorem dX4_changed_80 : decode cX4_changed 80 = .ok (.iinc 4 1, 3) := by decide +kernel
theorem dX4_changed_83 : decode cX4_changed 83 = .ok (.goto (-51), 3) := by decide +kernel
theorem dX4_changed_86 : decode cX4_changed 86 = .ok (.aload_n 0, 1) := by decide +kernel
theorem dX4_changed_87 : decode cX4_changed 87 = .ok (.iload_n 1, 1) := by decide +kernel
theorem dX4_changed_88 : decode cX4_changed 88 = .ok (.iload_n 3, 1) := by decide +kernel
theorem dX4_changed_89 : decode cX4_changed 89 = .ok (.invokevirtual 158, 3) := by decide +kernel
theorem dX4_changed_92 : decode cX4_changed 92 = .ok (.iconst 0, 1) := by decide +kernel
theorem dX4_changed_93 : decode cX4_changed 93 = .ok (.istore 4, 2) := by decide +kernel
theorem dX4_changed_95 : decode cX4_changed 95 = .ok (.iconst 0, 1) := by decide +kernel
theorem dX4_changed_96 : decode cX4_changed 96 = .ok (.istore 5, 2) := by decide +kernel
theorem dX4_changed_98 : decode cX4_changed 98 = .ok (.iload 5, 2) := by decide +kernel
theorem dX4_changed_100 : decode cX4_changed 100 = .ok (.sipush 240, 3) := by decide +kernel
theorem dX4_changed_103 : decode cX4_changed 103 = .ok (.if_icmp .ge 62, 3) := by decide +kernel
theorem dX4_changed_106 : decode cX4_changed 106 = .ok (.aload_n 0, 1) := by decide +kernel
theorem dX4_changed_107 : decode cX4_changed 107 = .ok (.iload 5, 2) := by decide +kernel
theorem dX4_changed_109 : decode cX4_changed 109 = .ok (.bipush 60, 2) := by decide +kernel
theorem dX4_changed_111 : decode cX4_changed 111 = .ok (.idiv, 1) := by decide +kernel
theorem dX4_changed_112 : decode cX4_changed 112 = .ok (.iload 5, 2) := by decide +kernel
theorem dX4_changed_114 : decode cX4_changed 114 = .ok (.bipush 60, 2) := by decide +kernel
theorem dX4_changed_116 : decode cX4_changed 116 = .ok (.irem, 1) := by decide +kernel
theorem dX4_changed_117 : decode cX4_changed 117 = .ok (.invokevirtual 148, 3) := by decide +kernel
theorem dX4_changed_120 : decode cX4_changed 120 = .ok (.istore 6, 2) := by decide +kernel
theorem dX4_changed_122 : decode cX4_changed 122 = .ok (.iload 4, 2) := by decide +kernel
theorem dX4_changed_124 : decode cX4_changed 124 = .ok (.aload_n 0, 1) := by decide +kernel
theorem dX4_changed_125 : decode cX4_changed 125 = .ok (.getfield 90, 3) := by decide +kernel
theorem dX4_changed_128 : decode cX4_changed 128 = .ok (.iload 5, 2) := by decide +kernel
theorem dX4_changed_130 : decode cX4_changed 130 = .ok (.iaload, 1) := by decide +kernel
theorem dX4_changed_131 : decode cX4_changed 131 = .ok (.iload 6, 2) := by decide +kernel
theorem dX4_changed_133 : decode cX4_changed 133 = .ok (.ifCond .ge 8, 3) := by decide +kernel
theorem dX4_changed_136 : decode cX4_changed 136 = .ok (.bipush (-4), 2) := by decide +kernel
theorem dX4_changed_138 : decode cX4_changed 138 = .ok (.goto 10, 3) := by decide +kernel
theorem dX4_changed_141 : decode cX4_changed 141 = .ok (.aload_n 0, 1) := by decide +kernel
theorem dX4_changed_142 : decode cX4_changed 142 = .ok (.getfield 60, 3) := by decide +kernel
theorem dX4_changed_145 : decode cX4_changed 145 = .ok (.iload 6, 2) := by decide +kernel
theorem dX4_changed_147 : decode cX4_changed 147 = .ok (.iaload, 1) := by decide +kernel
theorem dX4_changed_148 : decode cX4_changed 148 = .ok (.if_icmp .eq 7, 3) := by decide +kernel
theorem dX4_changed_151 : decode cX4_changed 151 = .ok (.iconst 1, 1) := by decide +kernel
theorem dX4_changed_152 : decode cX4_changed 152 = .ok (.goto 4, 3) := by decide +kernel
theorem dX4_changed_155 : decode cX4_changed 155 = .ok (.iconst 0, 1) := by decide +kernel
theorem dX4_changed_156 : decode cX4_changed 156 = .ok (.iadd, 1) := by decide +kernel
theorem dX4_changed_157 : decode cX4_changed 157 = .ok (.istore 4, 2) := by decide +kernel
theorem dX4_changed_159 : decode cX4_changed 159 = .ok (.iinc 5 1, 3) := by decide +kernel
theorem dX4_changed_162 : decode cX4_changed 162 = .ok (.goto (-64), 3) := by decide +kernel
theorem dX4_changed_165 : decode cX4_changed 165 = .ok (.iload 4, 2) := by decide +kernel
theorem dX4_changed_167 : decode cX4_changed 167 = .ok (.ireturn, 1) := by decide +kernel
theorem dX4_withdrawn_0 : decode cX4_withdrawn 0 = .ok (.iconst 0, 1) := by decide +kernel
theorem dX4_withdrawn_1 : decode cX4_withdrawn 1 = .ok (.istore_n 1, 1) := by decide +kernel
theorem dX4_withdrawn_2 : decode cX4_withdrawn 2 = .ok (.iconst 0, 1) := by decide +kernel
theorem dX4_withdrawn_3 : decode cX4_withdrawn 3 = .ok (.istore_n 2, 1) := by decide +kernel
theorem dX4_withdrawn_4 : decode cX4_withdrawn 4 = .ok (.iload_n 2, 1) := by decide +kernel
theorem dX4_withdrawn_5 : decode cX4_withdrawn 5 = .ok (.aload_n 0, 1) := by decide +kernel
theorem dX4_withdrawn_6 : decode cX4_withdrawn 6 = .ok (.getfield 97, 3) := by decide +kernel
theorem dX4_withdrawn_9 : decode cX4_withdrawn 9 = .ok (.if_icmp .ge 28, 3) := by decide +kernel
theorem dX4_withdrawn_12 : decode cX4_withdrawn 12 = .ok (.iload_n 1, 1) := by decide +kernel
theorem dX4_withdrawn_13 : decode cX4_withdrawn 13 = .ok (.aload_n 0, 1) := by decide +kernel
theorem dX4_withdrawn_14 : decode cX4_withdrawn 14 = .ok (.getfield 26, 3) := by decide +kernel
theorem dX4_withdrawn_17 : decode cX4_withdrawn 17 = .ok (.iload_n 2, 1) := by decide +kernel
theorem dX4_withdrawn_18 : decode cX4_withdrawn 18 = .ok (.iaload, 1) := by decide +kernel
theorem dX4_withdrawn_19 : decode cX4_withdrawn 19 = .ok (.bipush (-4), 2) := by decide +kernel
theorem dX4_withdrawn_21 : decode cX4_withdrawn 21 = .ok (.if_icmp .ne 7, 3) := by decide +kernel
theorem dX4_withdrawn_24 : decode cX4_withdrawn 24 = .ok (.iconst 0, 1) := by decide +kernel
theorem dX4_withdrawn_25 : decode cX4_withdrawn 25 = .ok (.goto 4, 3) := by decide +kernel
theorem dX4_withdrawn_28 : decode cX4_withdrawn 28 = .ok (.iconst 1, 1) := by decide +kernel
theorem dX4_withdrawn_29 : decode cX4_withdrawn 29 = .ok (.iadd, 1) := by decide +kernel
theorem dX4_withdrawn_30 : decode cX4_withdrawn 30 = .ok (.istore_n 1, 1) := by decide +kernel
theorem dX4_withdrawn_31 : decode cX4_withdrawn 31 = .ok (.iinc 2 1, 3) := by decide +kernel
theorem dX4_withdrawn_34 : decode cX4_withdrawn 34 = .ok (.goto (-30), 3) := by decide +kernel
theorem dX4_withdrawn_37 : decode cX4_withdrawn 37 = .ok (.iload_n 1, 1) := by decide +kernel
theorem dX4_withdrawn_38 : decode cX4_withdrawn 38 = .ok (.ireturn, 1) := by decide +kernel
theorem dX4_many_0 : decode cX4_many 0 = .ok (.iload_n 1, 1) := by decide +kernel
theorem dX4_many_1 : decode cX4_many 1 = .ok (.tableswitch 69 0 5 #[39, 44, 49, 54, 59, 64], 39) := by decide +kernel
theorem dX4_many_40 : decode cX4_many 40 = .ok (.aload_n 0, 1) := by decide +kernel
theorem dX4_many_41 : decode cX4_many 41 = .ok (.getfield 97, 3) := by decide +kernel
theorem dX4_many_44 : decode cX4_many 44 = .ok (.ireturn, 1) := by decide +kernel
theorem dX4_many_45 : decode cX4_many 45 = .ok (.aload_n 0, 1) := by decide +kernel
theorem dX4_many_46 : decode cX4_many 46 = .ok (.getfield 113, 3) := by decide +kernel
theorem dX4_many_49 : decode cX4_many 49 = .ok (.ireturn, 1) := by decide +kernel
theorem dX4_many_50 : decode cX4_many 50 = .ok (.aload_n 0, 1) := by decide +kernel
theorem dX4_many_51 : decode cX4_many 51 = .ok (.invokevirtual 166, 3) := by decide +kernel
theorem dX4_many_54 : decode cX4_many 54 = .ok (.ireturn, 1) := by decide +kernel
theorem dX4_many_55 : decode cX4_many 55 = .ok (.aload_n 0, 1) := by decide +kernel
theorem dX4_many_56 : decode cX4_many 56 = .ok (.getfield 100, 3) := by decide +kernel
theorem dX4_many_59 : decode cX4_many 59 = .ok (.ireturn, 1) := by decide +kernel
theorem dX4_many_60 : decode cX4_many 60 = .ok (.aload_n 0, 1) := by decide +kernel
theorem dX4_many_61 : decode cX4_many 61 = .ok (.getfield 7, 3) := by decide +kernel
theorem dX4_many_64 : decode cX4_many 64 = .ok (.ireturn, 1) := by decide +kernel
theorem dX4_many_65 : decode cX4_many 65 = .ok (.aload_n 0, 1) := by decide +kernel
theorem dX4_many_66 : decode cX4_many 66 = .ok (.getfield 13, 3) := by decide +kernel
theorem dX4_many_69 : decode cX4_many 69 = .ok (.ireturn, 1) := by decide +kernel
theorem dX4_many_70 : decode cX4_many 70 = .ok (.iconst (-1), 1) := by decide +kernel
theorem dX4_many_71 : decode cX4_many 71 = .ok (.ireturn, 1) := by decide +kernel
theorem dX4_copy_0 : decode cX4_copy 0 = .ok (.iconst 0, 1) := by decide +kernel
theorem dX4_copy_1 : decode cX4_copy 1 = .ok (.istore 5, 2) := by decide +kernel
theorem dX4_copy_3 : decode cX4_copy 3 = .ok (.iload 5, 2) := by decide +kernel
theorem dX4_copy_5 : decode cX4_copy 5 = .ok (.iload 4, 2) := by decide +kernel
theorem dX4_copy_7 : decode cX4_copy 7 = .ok (.if_icmp .ge 21, 3) := by decide +kernel
theorem dX4_copy_10 : decode cX4_copy 10 = .ok (.aload_n 2, 1) := by decide +kernel
theorem dX4_copy_11 : decode cX4_copy 11 = .ok (.iload_n 3, 1) := by decide +kernel
theorem dX4_copy_12 : decode cX4_copy 12 = .ok (.iload 5, 2) := by decide +kernel
theorem dX4_copy_14 : decode cX4_copy 14 = .ok (.iadd, 1) := by decide +kernel
theorem dX4_copy_15 : decode cX4_copy 15 = .ok (.aload_n 0, 1) := by decide +kernel
theorem dX4_copy_16 : decode cX4_copy 16 = .ok (.iload_n 1, 1) := by decide +kernel
theorem dX4_copy_17 : decode cX4_copy 17 = .ok (.iload 5, 2) := by decide +kernel
theorem dX4_copy_19 : decode cX4_copy 19 = .ok (.iadd, 1) := by decide +kernel
theorem dX4_copy_20 : decode cX4_copy 20 = .ok (.iaload, 1) := by decide +kernel
theorem dX4_copy_21 : decode cX4_copy 21 = .ok (.iastore, 1) := by decide +kernel
theorem dX4_copy_22 : decode cX4_copy 22 = .ok (.iinc 5 1, 3) := by decide +kernel
theorem dX4_copy_25 : decode cX4_copy 25 = .ok (.goto (-22), 3) := by decide +kernel
theorem dX4_copy_28 : decode cX4_copy 28 = .ok (.return_, 1) := by decide +kernel
theorem dX4_keep_0 : decode cX4_keep 0 = .ok (.aload_n 0, 1) := by decide +kernel
theorem dX4_keep_1 : decode cX4_keep 1 = .ok (.iconst 1, 1) := by decide +kernel
theorem dX4_keep_2 : decode cX4_keep 2 = .ok (.putfield 170, 3) := by decide +kernel
theorem dX4_keep_5 : decode cX4_keep 5 = .ok (.aload_n 0, 1) := by decide +kernel
theorem dX4_keep_6 : decode cX4_keep 6 = .ok (.getfield 50, 3) := by decide +kernel
theorem dX4_keep_9 : decode cX4_keep 9 = .ok (.iconst 0, 1) := by decide +kernel
theorem dX4_keep_10 : decode cX4_keep 10 = .ok (.aload_n 0, 1) := by decide +kernel
theorem dX4_keep_11 : decode cX4_keep 11 = .ok (.getfield 100, 3) := by decide +kernel
theorem dX4_keep_14 : decode cX4_keep 14 = .ok (.iastore, 1) := by decide +kernel
theorem dX4_keep_15 : decode cX4_keep 15 = .ok (.aload_n 0, 1) := by decide +kernel
theorem dX4_keep_16 : decode cX4_keep 16 = .ok (.getfield 50, 3) := by decide +kernel
theorem dX4_keep_19 : decode cX4_keep 19 = .ok (.iconst 1, 1) := by decide +kernel
theorem dX4_keep_20 : decode cX4_keep 20 = .ok (.aload_n 0, 1) := by decide +kernel
theorem dX4_keep_21 : decode cX4_keep 21 = .ok (.getfield 97, 3) := by decide +kernel
theorem dX4_keep_24 : decode cX4_keep 24 = .ok (.iastore, 1) := by decide +kernel
theorem dX4_keep_25 : decode cX4_keep 25 = .ok (.aload_n 0, 1) := by decide +kernel
theorem dX4_keep_26 : decode cX4_keep 26 = .ok (.getfield 50, 3) := by decide +kernel
theorem dX4_keep_29 : decode cX4_keep 29 = .ok (.iconst 2, 1) := by decide +kernel
theorem dX4_keep_30 : decode cX4_keep 30 = .ok (.aload_n 0, 1) := by decide +kernel
theorem dX4_keep_31 : decode cX4_keep 31 = .ok (.getfield 113, 3) := by decide +kernel
theorem dX4_keep_34 : decode cX4_keep 34 = .ok (.iastore, 1) := by decide +kernel
theorem dX4_keep_35 : decode cX4_keep 35 = .ok (.aload_n 0, 1) := by decide +kernel
theorem dX4_keep_36 : decode cX4_keep 36 = .ok (.getfield 16, 3) := by decide +kernel
theorem dX4_keep_39 : decode cX4_keep 39 = .ok (.iconst 0, 1) := by decide +kernel
theorem dX4_keep_40 : decode cX4_keep 40 = .ok (.aload_n 0, 1) := by decide +kernel
theorem dX4_keep_41 : decode cX4_keep 41 = .ok (.getfield 53, 3) := by decide +kernel
theorem dX4_keep_44 : decode cX4_keep 44 = .ok (.iconst 0, 1) := by decide +kernel
theorem dX4_keep_45 : decode cX4_keep 45 = .ok (.bipush 90, 2) := by decide +kernel
theorem dX4_keep_47 : decode cX4_keep 47 = .ok (.invokestatic 174, 3) := by decide +kernel
theorem dX4_keep_50 : decode cX4_keep 50 = .ok (.aload_n 0, 1) := by decide +kernel
theorem dX4_keep_51 : decode cX4_keep 51 = .ok (.getfield 20, 3) := by decide +kernel
theorem dX4_keep_54 : decode cX4_keep 54 = .ok (.iconst 0, 1) := by decide +kernel
theorem dX4_keep_55 : decode cX4_keep 55 = .ok (.aload_n 0, 1) := by decide +kernel
theorem dX4_keep_56 : decode cX4_keep 56 = .ok (.getfield 53, 3) := by decide +kernel
theorem dX4_keep_59 : decode cX4_keep 59 = .ok (.bipush 90, 2) := by decide +kernel
theorem dX4_keep_61 : decode cX4_keep 61 = .ok (.bipush 90, 2) := by decide +kernel
theorem dX4_keep_63 : decode cX4_keep 63 = .ok (.invokestatic 174, 3) := by decide +kernel
theorem dX4_keep_66 : decode cX4_keep 66 = .ok (.aload_n 0, 1) := by decide +kernel
theorem dX4_keep_67 : decode cX4_keep 67 = .ok (.getfield 23, 3) := by decide +kernel
theorem dX4_keep_70 : decode cX4_keep 70 = .ok (.iconst 0, 1) := by decide +kernel
theorem dX4_keep_71 : decode cX4_keep 71 = .ok (.aload_n 0, 1) := by decide +kernel
theorem dX4_keep_72 : decode cX4_keep 72 = .ok (.getfield 53, 3) := by decide +kernel
theorem dX4_keep_75 : decode cX4_keep 75 = .ok (.sipush 180, 3) := by decide +kernel
theorem dX4_keep_78 : decode cX4_keep 78 = .ok (.bipush 90, 2) := by decide +kernel
theorem dX4_keep_80 : decode cX4_keep 80 = .ok (.invokestatic 174, 3) := by decide +kernel
theorem dX4_keep_83 : decode cX4_keep 83 = .ok (.aload_n 0, 1) := by decide +kernel
theorem dX4_keep_84 : decode cX4_keep 84 = .ok (.getfield 26, 3) := by decide +kernel
theorem dX4_keep_87 : decode cX4_keep 87 = .ok (.iconst 0, 1) := by decide +kernel
theorem dX4_keep_88 : decode cX4_keep 88 = .ok (.aload_n 0, 1) := by decide +kernel
theorem dX4_keep_89 : decode cX4_keep 89 = .ok (.getfield 53, 3) := by decide +kernel
theorem dX4_keep_92 : decode cX4_keep 92 = .ok (.sipush 270, 3) := by decide +kernel
theorem dX4_keep_95 : decode cX4_keep 95 = .ok (.bipush 90, 2) := by decide +kernel
theorem dX4_keep_97 : decode cX4_keep 97 = .ok (.invokestatic 174, 3) := by decide +kernel
theorem dX4_keep_100 : decode cX4_keep 100 = .ok (.aload_n 0, 1) := by decide +kernel
theorem dX4_keep_101 : decode cX4_keep 101 = .ok (.getfield 29, 3) := by decide +kernel
theorem dX4_keep_104 : decode cX4_keep 104 = .ok (.iconst 0, 1) := by decide +kernel
theorem dX4_keep_105 : decode cX4_keep 105 = .ok (.aload_n 0, 1) := by decide +kernel
theorem dX4_keep_106 : decode cX4_keep 106 = .ok (.getfield 53, 3) := by decide +kernel
theorem dX4_keep_109 : decode cX4_keep 109 = .ok (.sipush 360, 3) := by decide +kernel
theorem dX4_keep_112 : decode cX4_keep 112 = .ok (.bipush 90, 2) := by decide +kernel
theorem dX4_keep_114 : decode cX4_keep 114 = .ok (.invokestatic 174, 3) := by decide +kernel
theorem dX4_keep_117 : decode cX4_keep 117 = .ok (.aload_n 0, 1) := by decide +kernel
theorem dX4_keep_118 : decode cX4_keep 118 = .ok (.getfield 32, 3) := by decide +kernel
theorem dX4_keep_121 : decode cX4_keep 121 = .ok (.iconst 0, 1) := by decide +kernel
theorem dX4_keep_122 : decode cX4_keep 122 = .ok (.aload_n 0, 1) := by decide +kernel
theorem dX4_keep_123 : decode cX4_keep 123 = .ok (.getfield 53, 3) := by decide +kernel
theorem dX4_keep_126 : decode cX4_keep 126 = .ok (.sipush 450, 3) := by decide +kernel
theorem dX4_keep_129 : decode cX4_keep 129 = .ok (.bipush 90, 2) := by decide +kernel
theorem dX4_keep_131 : decode cX4_keep 131 = .ok (.invokestatic 174, 3) := by decide +kernel
theorem dX4_keep_134 : decode cX4_keep 134 = .ok (.aload_n 0, 1) := by decide +kernel
theorem dX4_keep_135 : decode cX4_keep 135 = .ok (.getfield 35, 3) := by decide +kernel
theorem dX4_keep_138 : decode cX4_keep 138 = .ok (.iconst 0, 1) := by decide +kernel
theorem dX4_keep_139 : decode cX4_keep 139 = .ok (.aload_n 0, 1) := by decide +kernel
theorem dX4_keep_140 : decode cX4_keep 140 = .ok (.getfield 53, 3) := by decide +kernel
theorem dX4_keep_143 : decode cX4_keep 143 = .ok (.sipush 540, 3) := by decide +kernel
theorem dX4_keep_146 : decode cX4_keep 146 = .ok (.bipush 90, 2) := by decide +kernel
theorem dX4_keep_148 : decode cX4_keep 148 = .ok (.invokestatic 174, 3) := by decide +kernel
theorem dX4_keep_151 : decode cX4_keep 151 = .ok (.aload_n 0, 1) := by decide +kernel
theorem dX4_keep_152 : decode cX4_keep 152 = .ok (.getfield 38, 3) := by decide +kernel
theorem dX4_keep_155 : decode cX4_keep 155 = .ok (.iconst 0, 1) := by decide +kernel
theorem dX4_keep_156 : decode cX4_keep 156 = .ok (.aload_n 0, 1) := by decide +kernel
theorem dX4_keep_157 : decode cX4_keep 157 = .ok (.getfield 53, 3) := by decide +kernel
theorem dX4_keep_160 : decode cX4_keep 160 = .ok (.sipush 630, 3) := by decide +kernel
theorem dX4_keep_163 : decode cX4_keep 163 = .ok (.bipush 90, 2) := by decide +kernel
theorem dX4_keep_165 : decode cX4_keep 165 = .ok (.invokestatic 174, 3) := by decide +kernel
theorem dX4_keep_168 : decode cX4_keep 168 = .ok (.aload_n 0, 1) := by decide +kernel
theorem dX4_keep_169 : decode cX4_keep 169 = .ok (.getfield 41, 3) := by decide +kernel
theorem dX4_keep_172 : decode cX4_keep 172 = .ok (.iconst 0, 1) := by decide +kernel
theorem dX4_keep_173 : decode cX4_keep 173 = .ok (.aload_n 0, 1) := by decide +kernel
theorem dX4_keep_174 : decode cX4_keep 174 = .ok (.getfield 53, 3) := by decide +kernel
theorem dX4_keep_177 : decode cX4_keep 177 = .ok (.sipush 720, 3) := by decide +kernel
theorem dX4_keep_180 : decode cX4_keep 180 = .ok (.bipush 90, 2) := by decide +kernel
theorem dX4_keep_182 : decode cX4_keep 182 = .ok (.invokestatic 174, 3) := by decide +kernel
theorem dX4_keep_185 : decode cX4_keep 185 = .ok (.aload_n 0, 1) := by decide +kernel
theorem dX4_keep_186 : decode cX4_keep 186 = .ok (.getfield 44, 3) := by decide +kernel
theorem dX4_keep_189 : decode cX4_keep 189 = .ok (.iconst 0, 1) := by decide +kernel
theorem dX4_keep_190 : decode cX4_keep 190 = .ok (.aload_n 0, 1) := by decide +kernel
theorem dX4_keep_191 : decode cX4_keep 191 = .ok (.getfield 53, 3) := by decide +kernel
theorem dX4_keep_194 : decode cX4_keep 194 = .ok (.sipush 810, 3) := by decide +kernel
theorem dX4_keep_197 : decode cX4_keep 197 = .ok (.bipush 90, 2) := by decide +kernel
theorem dX4_keep_199 : decode cX4_keep 199 = .ok (.invokestatic 174, 3) := by decide +kernel
theorem dX4_keep_202 : decode cX4_keep 202 = .ok (.aload_n 0, 1) := by decide +kernel
theorem dX4_keep_203 : decode cX4_keep 203 = .ok (.getfield 47, 3) := by decide +kernel
theorem dX4_keep_206 : decode cX4_keep 206 = .ok (.iconst 0, 1) := by decide +kernel
theorem dX4_keep_207 : decode cX4_keep 207 = .ok (.aload_n 0, 1) := by decide +kernel
theorem dX4_keep_208 : decode cX4_keep 208 = .ok (.getfield 53, 3) := by decide +kernel
theorem dX4_keep_211 : decode cX4_keep 211 = .ok (.sipush 900, 3) := by decide +kernel
theorem dX4_keep_214 : decode cX4_keep 214 = .ok (.bipush 90, 2) := by decide +kernel
theorem dX4_keep_216 : decode cX4_keep 216 = .ok (.invokestatic 174, 3) := by decide +kernel
theorem dX4_keep_219 : decode cX4_keep 219 = .ok (.iconst 1, 1) := by decide +kernel
theorem dX4_keep_220 : decode cX4_keep 220 = .ok (.ireturn, 1) := by decide +kernel
theorem dX4_back_0 : decode cX4_back 0 = .ok (.aload_n 0, 1) := by decide +kernel
theorem dX4_back_1 : decode cX4_back 1 = .ok (.getfield 170, 3) := by decide +kernel
theorem dX4_back_4 : decode cX4_back 4 = .ok (.ifCond .ne 6, 3) := by decide +kernel
theorem dX4_back_7 : decode cX4_back 7 = .ok (.bipush (-4), 2) := by decide +kernel
theorem dX4_back_9 : decode cX4_back 9 = .ok (.ireturn, 1) := by decide +kernel
theorem dX4_back_10 : decode cX4_back 10 = .ok (.aload_n 0, 1) := by decide +kernel
theorem dX4_back_11 : decode cX4_back 11 = .ok (.aload_n 0, 1) := by decide +kernel
theorem dX4_back_12 : decode cX4_back 12 = .ok (.getfield 50, 3) := by decide +kernel
theorem dX4_back_15 : decode cX4_back 15 = .ok (.iconst 0, 1) := by decide +kernel
theorem dX4_back_16 : decode cX4_back 16 = .ok (.iaload, 1) := by decide +kernel
theorem dX4_back_17 : decode cX4_back 17 = .ok (.putfield 100, 3) := by decide +kernel
theorem dX4_back_20 : decode cX4_back 20 = .ok (.aload_n 0, 1) := by decide +kernel
theorem dX4_back_21 : decode cX4_back 21 = .ok (.aload_n 0, 1) := by decide +kernel
theorem dX4_back_22 : decode cX4_back 22 = .ok (.getfield 50, 3) := by decide +kernel
theorem dX4_back_25 : decode cX4_back 25 = .ok (.iconst 1, 1) := by decide +kernel
theorem dX4_back_26 : decode cX4_back 26 = .ok (.iaload, 1) := by decide +kernel
theorem dX4_back_27 : decode cX4_back 27 = .ok (.putfield 97, 3) := by decide +kernel
theorem dX4_back_30 : decode cX4_back 30 = .ok (.aload_n 0, 1) := by decide +kernel
theorem dX4_back_31 : decode cX4_back 31 = .ok (.aload_n 0, 1) := by decide +kernel
theorem dX4_back_32 : decode cX4_back 32 = .ok (.getfield 50, 3) := by decide +kernel
theorem dX4_back_35 : decode cX4_back 35 = .ok (.iconst 2, 1) := by decide +kernel
theorem dX4_back_36 : decode cX4_back 36 = .ok (.iaload, 1) := by decide +kernel
theorem dX4_back_37 : decode cX4_back 37 = .ok (.putfield 113, 3) := by decide +kernel
theorem dX4_back_40 : decode cX4_back 40 = .ok (.aload_n 0, 1) := by decide +kernel
theorem dX4_back_41 : decode cX4_back 41 = .ok (.getfield 53, 3) := by decide +kernel
theorem dX4_back_44 : decode cX4_back 44 = .ok (.iconst 0, 1) := by decide +kernel
theorem dX4_back_45 : decode cX4_back 45 = .ok (.aload_n 0, 1) := by decide +kernel
theorem dX4_back_46 : decode cX4_back 46 = .ok (.getfield 16, 3) := by decide +kernel
theorem dX4_back_49 : decode cX4_back 49 = .ok (.iconst 0, 1) := by decide +kernel
theorem dX4_back_50 : decode cX4_back 50 = .ok (.bipush 90, 2) := by decide +kernel
theorem dX4_back_52 : decode cX4_back 52 = .ok (.invokestatic 174, 3) := by decide +kernel
theorem dX4_back_55 : decode cX4_back 55 = .ok (.aload_n 0, 1) := by decide +kernel
theorem dX4_back_56 : decode cX4_back 56 = .ok (.getfield 53, 3) := by decide +kernel
theorem dX4_back_59 : decode cX4_back 59 = .ok (.bipush 90, 2) := by decide +kernel
theorem dX4_back_61 : decode cX4_back 61 = .ok (.aload_n 0, 1) := by decide +kernel
theorem dX4_back_62 : decode cX4_back 62 = .ok (.getfield 20, 3) := by decide +kernel
theorem dX4_back_65 : decode cX4_back 65 = .ok (.iconst 0, 1) := by decide +kernel
theorem dX4_back_66 : decode cX4_back 66 = .ok (.bipush 90, 2) := by decide +kernel
theorem dX4_back_68 : decode cX4_back 68 = .ok (.invokestatic 174, 3) := by decide +kernel
theorem dX4_back_71 : decode cX4_back 71 = .ok (.aload_n 0, 1) := by decide +kernel
theorem dX4_back_72 : decode cX4_back 72 = .ok (.getfield 53, 3) := by decide +kernel
theorem dX4_back_75 : decode cX4_back 75 = .ok (.sipush 180, 3) := by decide +kernel
theorem dX4_back_78 : decode cX4_back 78 = .ok (.aload_n 0, 1) := by decide +kernel
theorem dX4_back_79 : decode cX4_back 79 = .ok (.getfield 23, 3) := by decide +kernel
theorem dX4_back_82 : decode cX4_back 82 = .ok (.iconst 0, 1) := by decide +kernel
theorem dX4_back_83 : decode cX4_back 83 = .ok (.bipush 90, 2) := by decide +kernel
theorem dX4_back_85 : decode cX4_back 85 = .ok (.invokestatic 174, 3) := by decide +kernel
theorem dX4_back_88 : decode cX4_back 88 = .ok (.aload_n 0, 1) := by decide +kernel
theorem dX4_back_89 : decode cX4_back 89 = .ok (.getfield 53, 3) := by decide +kernel
theorem dX4_back_92 : decode cX4_back 92 = .ok (.sipush 270, 3) := by decide +kernel
theorem dX4_back_95 : decode cX4_back 95 = .ok (.aload_n 0, 1) := by decide +kernel
theorem dX4_back_96 : decode cX4_back 96 = .ok (.getfield 26, 3) := by decide +kernel
theorem dX4_back_99 : decode cX4_back 99 = .ok (.iconst 0, 1) := by decide +kernel
theorem dX4_back_100 : decode cX4_back 100 = .ok (.bipush 90, 2) := by decide +kernel
theorem dX4_back_102 : decode cX4_back 102 = .ok (.invokestatic 174, 3) := by decide +kernel
theorem dX4_back_105 : decode cX4_back 105 = .ok (.aload_n 0, 1) := by decide +kernel
theorem dX4_back_106 : decode cX4_back 106 = .ok (.getfield 53, 3) := by decide +kernel
theorem dX4_back_109 : decode cX4_back 109 = .ok (.sipush 360, 3) := by decide +kernel
theorem dX4_back_112 : decode cX4_back 112 = .ok (.aload_n 0, 1) := by decide +kernel
theorem dX4_back_113 : decode cX4_back 113 = .ok (.getfield 29, 3) := by decide +kernel
theorem dX4_back_116 : decode cX4_back 116 = .ok (.iconst 0, 1) := by decide +kernel
theorem dX4_back_117 : decode cX4_back 117 = .ok (.bipush 90, 2) := by decide +kernel
theorem dX4_back_119 : decode cX4_back 119 = .ok (.invokestatic 174, 3) := by decide +kernel
theorem dX4_back_122 : decode cX4_back 122 = .ok (.aload_n 0, 1) := by decide +kernel
theorem dX4_back_123 : decode cX4_back 123 = .ok (.getfield 53, 3) := by decide +kernel
theorem dX4_back_126 : decode cX4_back 126 = .ok (.sipush 450, 3) := by decide +kernel
theorem dX4_back_129 : decode cX4_back 129 = .ok (.aload_n 0, 1) := by decide +kernel
theorem dX4_back_130 : decode cX4_back 130 = .ok (.getfield 32, 3) := by decide +kernel
theorem dX4_back_133 : decode cX4_back 133 = .ok (.iconst 0, 1) := by decide +kernel
theorem dX4_back_134 : decode cX4_back 134 = .ok (.bipush 90, 2) := by decide +kernel
theorem dX4_back_136 : decode cX4_back 136 = .ok (.invokestatic 174, 3) := by decide +kernel
theorem dX4_back_139 : decode cX4_back 139 = .ok (.aload_n 0, 1) := by decide +kernel
theorem dX4_back_140 : decode cX4_back 140 = .ok (.getfield 53, 3) := by decide +kernel
theorem dX4_back_143 : decode cX4_back 143 = .ok (.sipush 540, 3) := by decide +kernel
theorem dX4_back_146 : decode cX4_back 146 = .ok (.aload_n 0, 1) := by decide +kernel
theorem dX4_back_147 : decode cX4_back 147 = .ok (.getfield 35, 3) := by decide +kernel
theorem dX4_back_150 : decode cX4_back 150 = .ok (.iconst 0, 1) := by decide +kernel
theorem dX4_back_151 : decode cX4_back 151 = .ok (.bipush 90, 2) := by decide +kernel
theorem dX4_back_153 : decode cX4_back 153 = .ok (.invokestatic 174, 3) := by decide +kernel
theorem dX4_back_156 : decode cX4_back 156 = .ok (.aload_n 0, 1) := by decide +kernel
theorem dX4_back_157 : decode cX4_back 157 = .ok (.getfield 53, 3) := by decide +kernel
theorem dX4_back_160 : decode cX4_back 160 = .ok (.sipush 630, 3) := by decide +kernel
theorem dX4_back_163 : decode cX4_back 163 = .ok (.aload_n 0, 1) := by decide +kernel
theorem dX4_back_164 : decode cX4_back 164 = .ok (.getfield 38, 3) := by decide +kernel
theorem dX4_back_167 : decode cX4_back 167 = .ok (.iconst 0, 1) := by decide +kernel
theorem dX4_back_168 : decode cX4_back 168 = .ok (.bipush 90, 2) := by decide +kernel
theorem dX4_back_170 : decode cX4_back 170 = .ok (.invokestatic 174, 3) := by decide +kernel
theorem dX4_back_173 : decode cX4_back 173 = .ok (.aload_n 0, 1) := by decide +kernel
theorem dX4_back_174 : decode cX4_back 174 = .ok (.getfield 53, 3) := by decide +kernel
theorem dX4_back_177 : decode cX4_back 177 = .ok (.sipush 720, 3) := by decide +kernel
theorem dX4_back_180 : decode cX4_back 180 = .ok (.aload_n 0, 1) := by decide +kernel
theorem dX4_back_181 : decode cX4_back 181 = .ok (.getfield 41, 3) := by decide +kernel
theorem dX4_back_184 : decode cX4_back 184 = .ok (.iconst 0, 1) := by decide +kernel
theorem dX4_back_185 : decode cX4_back 185 = .ok (.bipush 90, 2) := by decide +kernel
theorem dX4_back_187 : decode cX4_back 187 = .ok (.invokestatic 174, 3) := by decide +kernel
theorem dX4_back_190 : decode cX4_back 190 = .ok (.aload_n 0, 1) := by decide +kernel
theorem dX4_back_191 : decode cX4_back 191 = .ok (.getfield 53, 3) := by decide +kernel
theorem dX4_back_194 : decode cX4_back 194 = .ok (.sipush 810, 3) := by decide +kernel
theorem dX4_back_197 : decode cX4_back 197 = .ok (.aload_n 0, 1) := by decide +kernel
theorem dX4_back_198 : decode cX4_back 198 = .ok (.getfield 44, 3) := by decide +kernel
theorem dX4_back_201 : decode cX4_back 201 = .ok (.iconst 0, 1) := by decide +kernel
theorem dX4_back_202 : decode cX4_back 202 = .ok (.bipush 90, 2) := by decide +kernel
theorem dX4_back_204 : decode cX4_back 204 = .ok (.invokestatic 174, 3) := by decide +kernel
theorem dX4_back_207 : decode cX4_back 207 = .ok (.aload_n 0, 1) := by decide +kernel
theorem dX4_back_208 : decode cX4_back 208 = .ok (.getfield 53, 3) := by decide +kernel
theorem dX4_back_211 : decode cX4_back 211 = .ok (.sipush 900, 3) := by decide +kernel
theorem dX4_back_214 : decode cX4_back 214 = .ok (.aload_n 0, 1) := by decide +kernel
theorem dX4_back_215 : decode cX4_back 215 = .ok (.getfield 47, 3) := by decide +kernel
theorem dX4_back_218 : decode cX4_back 218 = .ok (.iconst 0, 1) := by decide +kernel
theorem dX4_back_219 : decode cX4_back 219 = .ok (.bipush 90, 2) := by decide +kernel
theorem dX4_back_221 : decode cX4_back 221 = .ok (.invokestatic 174, 3) := by decide +kernel
theorem dX4_back_224 : decode cX4_back 224 = .ok (.iconst 1, 1) := by decide +kernel
theorem dX4_back_225 : decode cX4_back 225 = .ok (.ireturn, 1) := by decide +kernel
