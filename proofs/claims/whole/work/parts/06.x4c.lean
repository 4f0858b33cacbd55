theorem dX4_comesTo_136 : decode cX4_comesTo 136 = .ok (.iload_n 2, 1) := by decide +kernel
theorem dX4_comesTo_137 : decode cX4_comesTo 137 = .ok (.imul, 1) := by decide +kernel
theorem dX4_comesTo_138 : decode cX4_comesTo 138 = .ok (.aload_n 0, 1) := by decide +kernel
theorem dX4_comesTo_139 : decode cX4_comesTo 139 = .ok (.getfield 32, 3) := by decide +kernel
theorem dX4_comesTo_142 : decode cX4_comesTo 142 = .ok (.iload_n 1, 1) := by decide +kernel
theorem dX4_comesTo_143 : decode cX4_comesTo 143 = .ok (.iaload, 1) := by decide +kernel
theorem dX4_comesTo_144 : decode cX4_comesTo 144 = .ok (.iadd, 1) := by decide +kernel
theorem dX4_comesTo_145 : decode cX4_comesTo 145 = .ok (.dup2, 1) := by decide +kernel
theorem dX4_comesTo_146 : decode cX4_comesTo 146 = .ok (.iaload, 1) := by decide +kernel
theorem dX4_comesTo_147 : decode cX4_comesTo 147 = .ok (.aload_n 0, 1) := by decide +kernel
theorem dX4_comesTo_148 : decode cX4_comesTo 148 = .ok (.getfield 44, 3) := by decide +kernel
theorem dX4_comesTo_151 : decode cX4_comesTo 151 = .ok (.iload_n 1, 1) := by decide +kernel
theorem dX4_comesTo_152 : decode cX4_comesTo 152 = .ok (.iaload, 1) := by decide +kernel
theorem dX4_comesTo_153 : decode cX4_comesTo 153 = .ok (.isub, 1) := by decide +kernel
theorem dX4_comesTo_154 : decode cX4_comesTo 154 = .ok (.iastore, 1) := by decide +kernel
theorem dX4_comesTo_155 : decode cX4_comesTo 155 = .ok (.aload_n 0, 1) := by decide +kernel
theorem dX4_comesTo_156 : decode cX4_comesTo 156 = .ok (.getfield 63, 3) := by decide +kernel
theorem dX4_comesTo_159 : decode cX4_comesTo 159 = .ok (.bipush 10, 2) := by decide +kernel
theorem dX4_comesTo_161 : decode cX4_comesTo 161 = .ok (.iload_n 2, 1) := by decide +kernel
theorem dX4_comesTo_162 : decode cX4_comesTo 162 = .ok (.imul, 1) := by decide +kernel
theorem dX4_comesTo_163 : decode cX4_comesTo 163 = .ok (.aload_n 0, 1) := by decide +kernel
theorem dX4_comesTo_164 : decode cX4_comesTo 164 = .ok (.getfield 35, 3) := by decide +kernel
theorem dX4_comesTo_167 : decode cX4_comesTo 167 = .ok (.iload_n 1, 1) := by decide +kernel
theorem dX4_comesTo_168 : decode cX4_comesTo 168 = .ok (.iaload, 1) := by decide +kernel
theorem dX4_comesTo_169 : decode cX4_comesTo 169 = .ok (.iadd, 1) := by decide +kernel
theorem dX4_comesTo_170 : decode cX4_comesTo 170 = .ok (.dup2, 1) := by decide +kernel
theorem dX4_comesTo_171 : decode cX4_comesTo 171 = .ok (.iaload, 1) := by decide +kernel
theorem dX4_comesTo_172 : decode cX4_comesTo 172 = .ok (.aload_n 0, 1) := by decide +kernel
theorem dX4_comesTo_173 : decode cX4_comesTo 173 = .ok (.getfield 44, 3) := by decide +kernel
theorem dX4_comesTo_176 : decode cX4_comesTo 176 = .ok (.iload_n 1, 1) := by decide +kernel
theorem dX4_comesTo_177 : decode cX4_comesTo 177 = .ok (.iaload, 1) := by decide +kernel
theorem dX4_comesTo_178 : decode cX4_comesTo 178 = .ok (.iadd, 1) := by decide +kernel
theorem dX4_comesTo_179 : decode cX4_comesTo 179 = .ok (.iastore, 1) := by decide +kernel
theorem dX4_comesTo_180 : decode cX4_comesTo 180 = .ok (.return_, 1) := by decide +kernel
theorem dX4_nicked_0 : decode cX4_nicked 0 = .ok (.iload_n 3, 1) := by decide +kernel
theorem dX4_nicked_1 : decode cX4_nicked 1 = .ok (.aload_n 0, 1) := by decide +kernel
theorem dX4_nicked_2 : decode cX4_nicked 2 = .ok (.getfield 66, 3) := by decide +kernel
theorem dX4_nicked_5 : decode cX4_nicked 5 = .ok (.iload_n 1, 1) := by decide +kernel
theorem dX4_nicked_6 : decode cX4_nicked 6 = .ok (.iaload, 1) := by decide +kernel
theorem dX4_nicked_7 : decode cX4_nicked 7 = .ok (.isub, 1) := by decide +kernel
theorem dX4_nicked_8 : decode cX4_nicked 8 = .ok (.aload_n 0, 1) := by decide +kernel
theorem dX4_nicked_9 : decode cX4_nicked 9 = .ok (.getfield 13, 3) := by decide +kernel
theorem dX4_nicked_12 : decode cX4_nicked 12 = .ok (.if_icmp .le 13, 3) := by decide +kernel
theorem dX4_nicked_15 : decode cX4_nicked 15 = .ok (.iload_n 2, 1) := by decide +kernel
theorem dX4_nicked_16 : decode cX4_nicked 16 = .ok (.aload_n 0, 1) := by decide +kernel
theorem dX4_nicked_17 : decode cX4_nicked 17 = .ok (.getfield 60, 3) := by decide +kernel
theorem dX4_nicked_20 : decode cX4_nicked 20 = .ok (.iload_n 1, 1) := by decide +kernel
theorem dX4_nicked_21 : decode cX4_nicked 21 = .ok (.iaload, 1) := by decide +kernel
theorem dX4_nicked_22 : decode cX4_nicked 22 = .ok (.if_icmp .ne 4, 3) := by decide +kernel
theorem dX4_nicked_25 : decode cX4_nicked 25 = .ok (.return_, 1) := by decide +kernel
theorem dX4_nicked_26 : decode cX4_nicked 26 = .ok (.aload_n 0, 1) := by decide +kernel
theorem dX4_nicked_27 : decode cX4_nicked 27 = .ok (.getfield 78, 3) := by decide +kernel
theorem dX4_nicked_30 : decode cX4_nicked 30 = .ok (.iload_n 1, 1) := by decide +kernel
theorem dX4_nicked_31 : decode cX4_nicked 31 = .ok (.iaload, 1) := by decide +kernel
theorem dX4_nicked_32 : decode cX4_nicked 32 = .ok (.ifCond .le 33, 3) := by decide +kernel
theorem dX4_nicked_35 : decode cX4_nicked 35 = .ok (.aload_n 0, 1) := by decide +kernel
theorem dX4_nicked_36 : decode cX4_nicked 36 = .ok (.getfield 75, 3) := by decide +kernel
theorem dX4_nicked_39 : decode cX4_nicked 39 = .ok (.iload_n 1, 1) := by decide +kernel
theorem dX4_nicked_40 : decode cX4_nicked 40 = .ok (.iaload, 1) := by decide +kernel
theorem dX4_nicked_41 : decode cX4_nicked 41 = .ok (.iload_n 2, 1) := by decide +kernel
theorem dX4_nicked_42 : decode cX4_nicked 42 = .ok (.if_icmp .ne 16, 3) := by decide +kernel
theorem dX4_nicked_45 : decode cX4_nicked 45 = .ok (.iload_n 3, 1) := by decide +kernel
theorem dX4_nicked_46 : decode cX4_nicked 46 = .ok (.aload_n 0, 1) := by decide +kernel
theorem dX4_nicked_47 : decode cX4_nicked 47 = .ok (.getfield 81, 3) := by decide +kernel
theorem dX4_nicked_50 : decode cX4_nicked 50 = .ok (.iload_n 1, 1) := by decide +kernel
theorem dX4_nicked_51 : decode cX4_nicked 51 = .ok (.iaload, 1) := by decide +kernel
theorem dX4_nicked_52 : decode cX4_nicked 52 = .ok (.isub, 1) := by decide +kernel
theorem dX4_nicked_53 : decode cX4_nicked 53 = .ok (.bipush 10, 2) := by decide +kernel
theorem dX4_nicked_55 : decode cX4_nicked 55 = .ok (.if_icmp .le 10, 3) := by decide +kernel
theorem dX4_nicked_58 : decode cX4_nicked 58 = .ok (.aload_n 0, 1) := by decide +kernel
theorem dX4_nicked_59 : decode cX4_nicked 59 = .ok (.getfield 78, 3) := by decide +kernel
theorem dX4_nicked_62 : decode cX4_nicked 62 = .ok (.iload_n 1, 1) := by decide +kernel
theorem dX4_nicked_63 : decode cX4_nicked 63 = .ok (.iconst 0, 1) := by decide +kernel
theorem dX4_nicked_64 : decode cX4_nicked 64 = .ok (.iastore, 1) := by decide +kernel
theorem dX4_nicked_65 : decode cX4_nicked 65 = .ok (.aload_n 0, 1) := by decide +kernel
theorem dX4_nicked_66 : decode cX4_nicked 66 = .ok (.getfield 78, 3) := by decide +kernel
theorem dX4_nicked_69 : decode cX4_nicked 69 = .ok (.iload_n 1, 1) := by decide +kernel
theorem dX4_nicked_70 : decode cX4_nicked 70 = .ok (.iaload, 1) := by decide +kernel
theorem dX4_nicked_71 : decode cX4_nicked 71 = .ok (.ifCond .le 14, 3) := by decide +kernel
theorem dX4_nicked_74 : decode cX4_nicked 74 = .ok (.aload_n 0, 1) := by decide +kernel
theorem dX4_nicked_75 : decode cX4_nicked 75 = .ok (.getfield 84, 3) := by decide +kernel
theorem dX4_nicked_78 : decode cX4_nicked 78 = .ok (.iload_n 1, 1) := by decide +kernel
theorem dX4_nicked_79 : decode cX4_nicked 79 = .ok (.iaload, 1) := by decide +kernel
theorem dX4_nicked_80 : decode cX4_nicked 80 = .ok (.iload_n 3, 1) := by decide +kernel
theorem dX4_nicked_81 : decode cX4_nicked 81 = .ok (.if_icmp .ne 4, 3) := by decide +kernel
theorem dX4_nicked_84 : decode cX4_nicked 84 = .ok (.return_, 1) := by decide +kernel
theorem dX4_nicked_85 : decode cX4_nicked 85 = .ok (.aload_n 0, 1) := by decide +kernel
theorem dX4_nicked_86 : decode cX4_nicked 86 = .ok (.getfield 81, 3) := by decide +kernel
theorem dX4_nicked_89 : decode cX4_nicked 89 = .ok (.iload_n 1, 1) := by decide +kernel
theorem dX4_nicked_90 : decode cX4_nicked 90 = .ok (.aload_n 0, 1) := by decide +kernel
theorem dX4_nicked_91 : decode cX4_nicked 91 = .ok (.getfield 78, 3) := by decide +kernel
theorem dX4_nicked_94 : decode cX4_nicked 94 = .ok (.iload_n 1, 1) := by decide +kernel
theorem dX4_nicked_95 : decode cX4_nicked 95 = .ok (.iaload, 1) := by decide +kernel
theorem dX4_nicked_96 : decode cX4_nicked 96 = .ok (.ifCond .ne 7, 3) := by decide +kernel
theorem dX4_nicked_99 : decode cX4_nicked 99 = .ok (.iload_n 3, 1) := by decide +kernel
theorem dX4_nicked_100 : decode cX4_nicked 100 = .ok (.goto 9, 3) := by decide +kernel
theorem dX4_nicked_103 : decode cX4_nicked 103 = .ok (.aload_n 0, 1) := by decide +kernel
theorem dX4_nicked_104 : decode cX4_nicked 104 = .ok (.getfield 81, 3) := by decide +kernel
theorem dX4_nicked_107 : decode cX4_nicked 107 = .ok (.iload_n 1, 1) := by decide +kernel
theorem dX4_nicked_108 : decode cX4_nicked 108 = .ok (.iaload, 1) := by decide +kernel
theorem dX4_nicked_109 : decode cX4_nicked 109 = .ok (.iastore, 1) := by decide +kernel
theorem dX4_nicked_110 : decode cX4_nicked 110 = .ok (.aload_n 0, 1) := by decide +kernel
theorem dX4_nicked_111 : decode cX4_nicked 111 = .ok (.getfield 84, 3) := by decide +kernel
theorem dX4_nicked_114 : decode cX4_nicked 114 = .ok (.iload_n 1, 1) := by decide +kernel
theorem dX4_nicked_115 : decode cX4_nicked 115 = .ok (.iload_n 3, 1) := by decide +kernel
theorem dX4_nicked_116 : decode cX4_nicked 116 = .ok (.iastore, 1) := by decide +kernel
theorem dX4_nicked_117 : decode cX4_nicked 117 = .ok (.aload_n 0, 1) := by decide +kernel
theorem dX4_nicked_118 : decode cX4_nicked 118 = .ok (.getfield 75, 3) := by decide +kernel
theorem dX4_nicked_121 : decode cX4_nicked 121 = .ok (.iload_n 1, 1) := by decide +kernel
theorem dX4_nicked_122 : decode cX4_nicked 122 = .ok (.iload_n 2, 1) := by decide +kernel
theorem dX4_nicked_123 : decode cX4_nicked 123 = .ok (.iastore, 1) := by decide +kernel
theorem dX4_nicked_124 : decode cX4_nicked 124 = .ok (.aload_n 0, 1) := by decide +kernel
theorem dX4_nicked_125 : decode cX4_nicked 125 = .ok (.getfield 78, 3) := by decide +kernel
theorem dX4_nicked_128 : decode cX4_nicked 128 = .ok (.iload_n 1, 1) := by decide +kernel
theorem dX4_nicked_129 : decode cX4_nicked 129 = .ok (.dup2, 1) := by decide +kernel
theorem dX4_nicked_130 : decode cX4_nicked 130 = .ok (.iaload, 1) := by decide +kernel
theorem dX4_nicked_131 : decode cX4_nicked 131 = .ok (.iconst 1, 1) := by decide +kernel
theorem dX4_nicked_132 : decode cX4_nicked 132 = .ok (.iadd, 1) := by decide +kernel
theorem dX4_nicked_133 : decode cX4_nicked 133 = .ok (.iastore, 1) := by decide +kernel
theorem dX4_nicked_134 : decode cX4_nicked 134 = .ok (.aload_n 0, 1) := by decide +kernel
theorem dX4_nicked_135 : decode cX4_nicked 135 = .ok (.getfield 78, 3) := by decide +kernel
theorem dX4_nicked_138 : decode cX4_nicked 138 = .ok (.iload_n 1, 1) := by decide +kernel
theorem dX4_nicked_139 : decode cX4_nicked 139 = .ok (.iaload, 1) := by decide +kernel
theorem dX4_nicked_140 : decode cX4_nicked 140 = .ok (.iconst 3, 1) := by decide +kernel
theorem dX4_nicked_141 : decode cX4_nicked 141 = .ok (.if_icmp .ne 10, 3) := by decide +kernel
theorem dX4_nicked_144 : decode cX4_nicked 144 = .ok (.aload_n 0, 1) := by decide +kernel
theorem dX4_nicked_145 : decode cX4_nicked 145 = .ok (.iload_n 1, 1) := by decide +kernel
theorem dX4_nicked_146 : decode cX4_nicked 146 = .ok (.iload_n 2, 1) := by decide +kernel
theorem dX4_nicked_147 : decode cX4_nicked 147 = .ok (.iload_n 3, 1) := by decide +kernel
theorem dX4_nicked_148 : decode cX4_nicked 148 = .ok (.invokevirtual 135, 3) := by decide +kernel
theorem dX4_nicked_151 : decode cX4_nicked 151 = .ok (.return_, 1) := by decide +kernel
theorem dX4_ownerOf_0 : decode cX4_ownerOf 0 = .ok (.iconst (-1), 1) := by decide +kernel
theorem dX4_ownerOf_1 : decode cX4_ownerOf 1 = .ok (.istore_n 3, 1) := by decide +kernel
theorem dX4_ownerOf_2 : decode cX4_ownerOf 2 = .ok (.iconst 0, 1) := by decide +kernel
theorem dX4_ownerOf_3 : decode cX4_ownerOf 3 = .ok (.istore 4, 2) := by decide +kernel
theorem dX4_ownerOf_5 : decode cX4_ownerOf 5 = .ok (.iload 4, 2) := by decide +kernel
theorem dX4_ownerOf_7 : decode cX4_ownerOf 7 = .ok (.aload_n 0, 1) := by decide +kernel
theorem dX4_ownerOf_8 : decode cX4_ownerOf 8 = .ok (.getfield 97, 3) := by decide +kernel
theorem dX4_ownerOf_11 : decode cX4_ownerOf 11 = .ok (.if_icmp .ge 91, 3) := by decide +kernel
theorem dX4_ownerOf_14 : decode cX4_ownerOf 14 = .ok (.aload_n 0, 1) := by decide +kernel
theorem dX4_ownerOf_15 : decode cX4_ownerOf 15 = .ok (.getfield 56, 3) := by decide +kernel
theorem dX4_ownerOf_18 : decode cX4_ownerOf 18 = .ok (.iload 4, 2) := by decide +kernel
theorem dX4_ownerOf_20 : decode cX4_ownerOf 20 = .ok (.baload, 1) := by decide +kernel
theorem dX4_ownerOf_21 : decode cX4_ownerOf 21 = .ok (.ifCond .eq 40, 3) := by decide +kernel
theorem dX4_ownerOf_24 : decode cX4_ownerOf 24 = .ok (.aload_n 0, 1) := by decide +kernel
theorem dX4_ownerOf_25 : decode cX4_ownerOf 25 = .ok (.getfield 29, 3) := by decide +kernel
theorem dX4_ownerOf_28 : decode cX4_ownerOf 28 = .ok (.iload 4, 2) := by decide +kernel
theorem dX4_ownerOf_30 : decode cX4_ownerOf 30 = .ok (.iaload, 1) := by decide +kernel
theorem dX4_ownerOf_31 : decode cX4_ownerOf 31 = .ok (.iload_n 1, 1) := by decide +kernel
theorem dX4_ownerOf_32 : decode cX4_ownerOf 32 = .ok (.if_icmp .ne 29, 3) := by decide +kernel
theorem dX4_ownerOf_35 : decode cX4_ownerOf 35 = .ok (.iload_n 2, 1) := by decide +kernel
theorem dX4_ownerOf_36 : decode cX4_ownerOf 36 = .ok (.aload_n 0, 1) := by decide +kernel
theorem dX4_ownerOf_37 : decode cX4_ownerOf 37 = .ok (.getfield 69, 3) := by decide +kernel
theorem dX4_ownerOf_40 : decode cX4_ownerOf 40 = .ok (.iload 4, 2) := by decide +kernel
theorem dX4_ownerOf_42 : decode cX4_ownerOf 42 = .ok (.iaload, 1) := by decide +kernel
theorem dX4_ownerOf_43 : decode cX4_ownerOf 43 = .ok (.if_icmp .lt 18, 3) := by decide +kernel
theorem dX4_ownerOf_46 : decode cX4_ownerOf 46 = .ok (.iload_n 2, 1) := by decide +kernel
theorem dX4_ownerOf_47 : decode cX4_ownerOf 47 = .ok (.aload_n 0, 1) := by decide +kernel
theorem dX4_ownerOf_48 : decode cX4_ownerOf 48 = .ok (.getfield 72, 3) := by decide +kernel
theorem dX4_ownerOf_51 : decode cX4_ownerOf 51 = .ok (.iload 4, 2) := by decide +kernel
theorem dX4_ownerOf_53 : decode cX4_ownerOf 53 = .ok (.iaload, 1) := by decide +kernel
theorem dX4_ownerOf_54 : decode cX4_ownerOf 54 = .ok (.if_icmp .gt 7, 3) := by decide +kernel
theorem dX4_ownerOf_57 : decode cX4_ownerOf 57 = .ok (.iconst 1, 1) := by decide +kernel
theorem dX4_ownerOf_58 : decode cX4_ownerOf 58 = .ok (.goto 4, 3) := by decide +kernel
theorem dX4_ownerOf_61 : decode cX4_ownerOf 61 = .ok (.iconst 0, 1) := by decide +kernel
theorem dX4_ownerOf_62 : decode cX4_ownerOf 62 = .ok (.istore 5, 2) := by decide +kernel
theorem dX4_ownerOf_64 : decode cX4_ownerOf 64 = .ok (.iload 5, 2) := by decide +kernel
theorem dX4_ownerOf_66 : decode cX4_ownerOf 66 = .ok (.ifCond .eq 28, 3) := by decide +kernel
theorem dX4_ownerOf_69 : decode cX4_ownerOf 69 = .ok (.iload_n 3, 1) := by decide +kernel
theorem dX4_ownerOf_70 : decode cX4_ownerOf 70 = .ok (.ifCond .lt 19, 3) := by decide +kernel
theorem dX4_ownerOf_73 : decode cX4_ownerOf 73 = .ok (.aload_n 0, 1) := by decide +kernel
theorem dX4_ownerOf_74 : decode cX4_ownerOf 74 = .ok (.getfield 20, 3) := by decide +kernel
theorem dX4_ownerOf_77 : decode cX4_ownerOf 77 = .ok (.iload 4, 2) := by decide +kernel
theorem dX4_ownerOf_79 : decode cX4_ownerOf 79 = .ok (.iaload, 1) := by decide +kernel
theorem dX4_ownerOf_80 : decode cX4_ownerOf 80 = .ok (.aload_n 0, 1) := by decide +kernel
theorem dX4_ownerOf_81 : decode cX4_ownerOf 81 = .ok (.getfield 20, 3) := by decide +kernel
theorem dX4_ownerOf_84 : decode cX4_ownerOf 84 = .ok (.iload_n 3, 1) := by decide +kernel
theorem dX4_ownerOf_85 : decode cX4_ownerOf 85 = .ok (.iaload, 1) := by decide +kernel
theorem dX4_ownerOf_86 : decode cX4_ownerOf 86 = .ok (.if_icmp .ge 8, 3) := by decide +kernel
theorem dX4_ownerOf_89 : decode cX4_ownerOf 89 = .ok (.iload 4, 2) := by decide +kernel
theorem dX4_ownerOf_91 : decode cX4_ownerOf 91 = .ok (.goto 4, 3) := by decide +kernel
theorem dX4_ownerOf_94 : decode cX4_ownerOf 94 = .ok (.iload_n 3, 1) := by decide +kernel
theorem dX4_ownerOf_95 : decode cX4_ownerOf 95 = .ok (.istore_n 3, 1) := by decide +kernel
theorem dX4_ownerOf_96 : decode cX4_ownerOf 96 = .ok (.iinc 4 1, 3) := by decide +kernel
theorem dX4_ownerOf_99 : decode cX4_ownerOf 99 = .ok (.goto (-94), 3) := by decide +kernel
theorem dX4_ownerOf_102 : decode cX4_ownerOf 102 = .ok (.iload_n 3, 1) := by decide +kernel
theorem dX4_ownerOf_103 : decode cX4_ownerOf 103 = .ok (.ireturn, 1) := by decide +kernel
theorem dX4_digs_0 : decode cX4_digs 0 = .ok (.aload_n 0, 1) := by decide +kernel
theorem dX4_digs_1 : decode cX4_digs 1 = .ok (.aload_n 0, 1) := by decide +kernel
theorem dX4_digs_2 : decode cX4_digs 2 = .ok (.getfield 29, 3) := by decide +kernel
theorem dX4_digs_5 : decode cX4_digs 5 = .ok (.iload_n 1, 1) := by decide +kernel
theorem dX4_digs_6 : decode cX4_digs 6 = .ok (.iaload, 1) := by decide +kernel
theorem dX4_digs_7 : decode cX4_digs 7 = .ok (.aload_n 0, 1) := by decide +kernel
theorem dX4_digs_8 : decode cX4_digs 8 = .ok (.getfield 38, 3) := by decide +kernel
theorem dX4_digs_11 : decode cX4_digs 11 = .ok (.iload_n 1, 1) := by decide +kernel
theorem dX4_digs_12 : decode cX4_digs 12 = .ok (.iaload, 1) := by decide +kernel
theorem dX4_digs_13 : decode cX4_digs 13 = .ok (.invokevirtual 148, 3) := by decide +kernel
theorem dX4_digs_16 : decode cX4_digs 16 = .ok (.istore_n 2, 1) := by decide +kernel
theorem dX4_digs_17 : decode cX4_digs 17 = .ok (.iload_n 2, 1) := by decide +kernel
theorem dX4_digs_18 : decode cX4_digs 18 = .ok (.ifCond .ge 23, 3) := by decide +kernel
theorem dX4_digs_21 : decode cX4_digs 21 = .ok (.aload_n 0, 1) := by decide +kernel
theorem dX4_digs_22 : decode cX4_digs 22 = .ok (.getfield 87, 3) := by decide +kernel
theorem dX4_digs_25 : decode cX4_digs 25 = .ok (.bipush 10, 2) := by decide +kernel
theorem dX4_digs_27 : decode cX4_digs 27 = .ok (.dup2, 1) := by decide +kernel
theorem dX4_digs_28 : decode cX4_digs 28 = .ok (.iaload, 1) := by decide +kernel
theorem dX4_digs_29 : decode cX4_digs 29 = .ok (.bipush 24, 2) := by decide +kernel
theorem dX4_digs_31 : decode cX4_digs 31 = .ok (.aload_n 0, 1) := by decide +kernel
theorem dX4_digs_32 : decode cX4_digs 32 = .ok (.getfield 44, 3) := by decide +kernel
theorem dX4_digs_35 : decode cX4_digs 35 = .ok (.iload_n 1, 1) := by decide +kernel
theorem dX4_digs_36 : decode cX4_digs 36 = .ok (.iaload, 1) := by decide +kernel
theorem dX4_digs_37 : decode cX4_digs 37 = .ok (.imul, 1) := by decide +kernel
theorem dX4_digs_38 : decode cX4_digs 38 = .ok (.iadd, 1) := by decide +kernel
theorem dX4_digs_39 : decode cX4_digs 39 = .ok (.iastore, 1) := by decide +kernel
theorem dX4_digs_40 : decode cX4_digs 40 = .ok (.return_, 1) := by decide +kernel
theorem dX4_digs_41 : decode cX4_digs 41 = .ok (.iconst 0, 1) := by decide +kernel
theorem dX4_digs_42 : decode cX4_digs 42 = .ok (.istore_n 3, 1) := by decide +kernel
theorem dX4_digs_43 : decode cX4_digs 43 = .ok (.iload_n 3, 1) := by decide +kernel
theorem dX4_digs_44 : decode cX4_digs 44 = .ok (.bipush 10, 2) := by decide +kernel
theorem dX4_digs_46 : decode cX4_digs 46 = .ok (.if_icmp .ge 36, 3) := by decide +kernel
theorem dX4_digs_49 : decode cX4_digs 49 = .ok (.aload_n 0, 1) := by decide +kernel
theorem dX4_digs_50 : decode cX4_digs 50 = .ok (.getfield 87, 3) := by decide +kernel
theorem dX4_digs_53 : decode cX4_digs 53 = .ok (.iload_n 3, 1) := by decide +kernel
theorem dX4_digs_54 : decode cX4_digs 54 = .ok (.dup2, 1) := by decide +kernel
theorem dX4_digs_55 : decode cX4_digs 55 = .ok (.iaload, 1) := by decide +kernel
theorem dX4_digs_56 : decode cX4_digs 56 = .ok (.aload_n 0, 1) := by decide +kernel
theorem dX4_digs_57 : decode cX4_digs 57 = .ok (.getfield 63, 3) := by decide +kernel
theorem dX4_digs_60 : decode cX4_digs 60 = .ok (.bipush 10, 2) := by decide +kernel
theorem dX4_digs_62 : decode cX4_digs 62 = .ok (.iload_n 2, 1) := by decide +kernel
theorem dX4_digs_63 : decode cX4_digs 63 = .ok (.imul, 1) := by decide +kernel
theorem dX4_digs_64 : decode cX4_digs 64 = .ok (.iload_n 3, 1) := by decide +kernel
theorem dX4_digs_65 : decode cX4_digs 65 = .ok (.iadd, 1) := by decide +kernel
theorem dX4_digs_66 : decode cX4_digs 66 = .ok (.iaload, 1) := by decide +kernel
theorem dX4_digs_67 : decode cX4_digs 67 = .ok (.aload_n 0, 1) := by decide +kernel
theorem dX4_digs_68 : decode cX4_digs 68 = .ok (.getfield 44, 3) := by decide +kernel
theorem dX4_digs_71 : decode cX4_digs 71 = .ok (.iload_n 1, 1) := by decide +kernel
theorem dX4_digs_72 : decode cX4_digs 72 = .ok (.iaload, 1) := by decide +kernel
theorem dX4_digs_73 : decode cX4_digs 73 = .ok (.imul, 1) := by decide +kernel
theorem dX4_digs_74 : decode cX4_digs 74 = .ok (.iadd, 1) := by decide +kernel
theorem dX4_digs_75 : decode cX4_digs 75 = .ok (.iastore, 1) := by decide +kernel
theorem dX4_digs_76 : decode cX4_digs 76 = .ok (.iinc 3 1, 3) := by decide +kernel
theorem dX4_digs_79 : decode cX4_digs 79 = .ok (.goto (-36), 3) := by decide +kernel
theorem dX4_digs_82 : decode cX4_digs 82 = .ok (.return_, 1) := by decide +kernel
theorem dX4_owner_0 : decode cX4_owner 0 = .ok (.aload_n 0, 1) := by decide +kernel
theorem dX4_owner_1 : decode cX4_owner 1 = .ok (.iload_n 1, 1) := by decide +kernel
theorem dX4_owner_2 : decode cX4_owner 2 = .ok (.iload_n 2, 1) := by decide +kernel
theorem dX4_owner_3 : decode cX4_owner 3 = .ok (.iload_n 3, 1) := by decide +kernel
theorem dX4_owner_4 : decode cX4_owner 4 = .ok (.iload 4, 2) := by decide +kernel
theorem dX4_owner_6 : decode cX4_owner 6 = .ok (.invokevirtual 152, 3) := by decide +kernel
theorem dX4_owner_9 : decode cX4_owner 9 = .ok (.istore 5, 2) := by decide +kernel
theorem dX4_owner_11 : decode cX4_owner 11 = .ok (.iload 5, 2) := by decide +kernel
theorem dX4_owner_13 : decode cX4_owner 13 = .ok (.ifCond .ge 8, 3) := by decide +kernel
theorem dX4_owner_16 : decode cX4_owner 16 = .ok (.iload 5, 2) := by decide +kernel
theorem dX4_owner_18 : decode cX4_owner 18 = .ok (.goto 10, 3) := by decide +kernel
theorem dX4_owner_21 : decode cX4_owner 21 = .ok (.aload_n 0, 1) := by decide +kernel
theorem dX4_owner_22 : decode cX4_owner 22 = .ok (.getfield 60, 3) := by decide +kernel
theorem dX4_owner_25 : decode cX4_owner 25 = .ok (.iload 5, 2) := by decide +kernel
theorem dX4_owner_27 : decode cX4_owner 27 = .ok (.iaload, 1) := by decide +kernel
theorem dX4_owner_28 : decode cX4_owner 28 = .ok (.ireturn, 1) := by decide +kernel
theorem dX4_claim_0 : decode cX4_claim 0 = .ok (.iload_n 1, 1) := by decide +kernel
theorem dX4_claim_1 : decode cX4_claim 1 = .ok (.invokestatic 103, 3) := by decide +kernel
theorem dX4_claim_4 : decode cX4_claim 4 = .ok (.ifCond .eq 25, 3) := by decide +kernel
theorem dX4_claim_7 : decode cX4_claim 7 = .ok (.iload_n 2, 1) := by decide +kernel
theorem dX4_claim_8 : decode cX4_claim 8 = .ok (.invokestatic 107, 3) := by decide +kernel
theorem dX4_claim_11 : decode cX4_claim 11 = .ok (.ifCond .eq 18, 3) := by decide +kernel
theorem dX4_claim_14 : decode cX4_claim 14 = .ok (.iload_n 3, 1) := by decide +kernel
theorem dX4_claim_15 : decode cX4_claim 15 = .ok (.invokestatic 155, 3) := by decide +kernel
theorem dX4_claim_18 : decode cX4_claim 18 = .ok (.ifCond .eq 11, 3) := by decide +kernel
theorem dX4_claim_21 : decode cX4_claim 21 = .ok (.iload 4, 2) := by decide +kernel
theorem dX4_claim_23 : decode cX4_claim 23 = .ok (.invokestatic 155, 3) := by decide +kernel
theorem dX4_claim_26 : decode cX4_claim 26 = .ok (.ifCond .ne 5, 3) := by decide +kernel
theorem dX4_claim_29 : decode cX4_claim 29 = .ok (.iconst (-1), 1) := by decide +kernel
theorem dX4_claim_30 : decode cX4_claim 30 = .ok (.ireturn, 1) := by decide +kernel
theorem dX4_claim_31 : decode cX4_claim 31 = .ok (.aload_n 0, 1) := by decide +kernel
theorem dX4_claim_32 : decode cX4_claim 32 = .ok (.iload_n 3, 1) := by decide +kernel
theorem dX4_claim_33 : decode cX4_claim 33 = .ok (.iload 4, 2) := by decide +kernel
theorem dX4_claim_35 : decode cX4_claim 35 = .ok (.invokevirtual 158, 3) := by decide +kernel
theorem dX4_claim_38 : decode cX4_claim 38 = .ok (.aload_n 0, 1) := by decide +kernel
theorem dX4_claim_39 : decode cX4_claim 39 = .ok (.iload_n 1, 1) := by decide +kernel
theorem dX4_claim_40 : decode cX4_claim 40 = .ok (.iload_n 2, 1) := by decide +kernel
theorem dX4_claim_41 : decode cX4_claim 41 = .ok (.invokevirtual 148, 3) := by decide +kernel
theorem dX4_claim_44 : decode cX4_claim 44 = .ok (.istore 5, 2) := by decide +kernel
theorem dX4_claim_46 : decode cX4_claim 46 = .ok (.iload 5, 2) := by decide +kernel
theorem dX4_claim_48 : decode cX4_claim 48 = .ok (.ifCond .ge 8, 3) := by decide +kernel
theorem dX4_claim_51 : decode cX4_claim 51 = .ok (.bipush (-4), 2) := by decide +kernel
theorem dX4_claim_53 : decode cX4_claim 53 = .ok (.goto 5, 3) := by decide +kernel
theorem dX4_claim_56 : decode cX4_claim 56 = .ok (.iload 5, 2) := by decide +kernel
theorem dX4_claim_58 : decode cX4_claim 58 = .ok (.ireturn, 1) := by decide +kernel
theorem dX4_owned_0 : decode cX4_owned 0 = .ok (.iconst 0, 1) := by decide +kernel
theorem dX4_owned_1 : decode cX4_owned 1 = .ok (.istore_n 2, 1) := by decide +kernel
theorem dX4_owned_2 : decode cX4_owned 2 = .ok (.iconst 0, 1) := by decide +kernel
theorem dX4_owned_3 : decode cX4_owned 3 = .ok (.istore_n 3, 1) := by decide +kernel
theorem dX4_owned_4 : decode cX4_owned 4 = .ok (.iload_n 3, 1) := by decide +kernel
theorem dX4_owned_5 : decode cX4_owned 5 = .ok (.bipush 60, 2) := by decide +kernel
theorem dX4_owned_7 : decode cX4_owned 7 = .ok (.if_icmp .ge 32, 3) := by decide +kernel
theorem dX4_owned_10 : decode cX4_owned 10 = .ok (.iload_n 2, 1) := by decide +kernel
theorem dX4_owned_11 : decode cX4_owned 11 = .ok (.aload_n 0, 1) := by decide +kernel
theorem dX4_owned_12 : decode cX4_owned 12 = .ok (.aload_n 0, 1) := by decide +kernel
theorem dX4_owned_13 : decode cX4_owned 13 = .ok (.getfield 29, 3) := by decide +kernel
theorem dX4_owned_16 : decode cX4_owned 16 = .ok (.iload_n 1, 1) := by decide +kernel
theorem dX4_owned_17 : decode cX4_owned 17 = .ok (.iaload, 1) := by decide +kernel
theorem dX4_owned_18 : decode cX4_owned 18 = .ok (.iload_n 3, 1) := by decide +kernel
theorem dX4_owned_19 : decode cX4_owned 19 = .ok (.invokevirtual 148, 3) := by decide +kernel
theorem dX4_owned_22 : decode cX4_owned 22 = .ok (.iload_n 1, 1) := by decide +kernel
theorem dX4_owned_23 : decode cX4_owned 23 = .ok (.if_icmp .ne 7, 3) := by decide +kernel
theorem dX4_owned_26 : decode cX4_owned 26 = .ok (.iconst 1, 1) := by decide +kernel
theorem dX4_owned_27 : decode cX4_owned 27 = .ok (.goto 4, 3) := by decide +kernel
theorem dX4_owned_30 : decode cX4_owned 30 = .ok (.iconst 0, 1) := by decide +kernel
theorem dX4_owned_31 : decode cX4_owned 31 = .ok (.iadd, 1) := by decide +kernel
theorem dX4_owned_32 : decode cX4_owned 32 = .ok (.istore_n 2, 1) := by decide +kernel
theorem dX4_owned_33 : decode cX4_owned 33 = .ok (.iinc 3 1, 3) := by decide +kernel
theorem dX4_owned_36 : decode cX4_owned 36 = .ok (.goto (-32), 3) := by decide +kernel
theorem dX4_owned_39 : decode cX4_owned 39 = .ok (.iload_n 2, 1) := by decide +kernel
theorem dX4_owned_40 : decode cX4_owned 40 = .ok (.ireturn, 1) := by decide +kernel
theorem dX4_of_0 : decode cX4_of 0 = .ok (.aload_n 0, 1) := by decide +kernel
theorem dX4_of_1 : decode cX4_of 1 = .ok (.iload_n 1, 1) := by decide +kernel
theorem dX4_of_2 : decode cX4_of 2 = .ok (.invokevirtual 120, 3) := by decide +kernel
theorem dX4_of_5 : decode cX4_of 5 = .ok (.ifCond .eq 28, 3) := by decide +kernel
theorem dX4_of_8 : decode cX4_of 8 = .ok (.iload_n 3, 1) := by decide +kernel
theorem dX4_of_9 : decode cX4_of 9 = .ok (.invokestatic 155, 3) := by decide +kernel
theorem dX4_of_12 : decode cX4_of 12 = .ok (.ifCond .eq 21, 3) := by decide +kernel
theorem dX4_of_15 : decode cX4_of 15 = .ok (.iload 4, 2) := by decide +kernel
theorem dX4_of_17 : decode cX4_of 17 = .ok (.invokestatic 155, 3) := by decide +kernel
theorem dX4_of_20 : decode cX4_of 20 = .ok (.ifCond .eq 13, 3) := by decide +kernel
theorem dX4_of_23 : decode cX4_of 23 = .ok (.iload_n 2, 1) := by decide +kernel
theorem dX4_of_24 : decode cX4_of 24 = .ok (.iconst 0, 1) := by decide +kernel
theorem dX4_of_25 : decode cX4_of 25 = .ok (.bipush 6, 2) := by decide +kernel
theorem dX4_of_27 : decode cX4_of 27 = .ok (.invokestatic 93, 3) := by decide +kernel
theorem dX4_of_30 : decode cX4_of 30 = .ok (.ifCond .ne 5, 3) := by decide +kernel
theorem dX4_of_33 : decode cX4_of 33 = .ok (.iconst (-1), 1) := by decide +kernel
theorem dX4_of_34 : decode cX4_of 34 = .ok (.ireturn, 1) := by decide +kernel
theorem dX4_of_35 : decode cX4_of 35 = .ok (.aload_n 0, 1) := by decide +kernel
theorem dX4_of_36 : decode cX4_of 36 = .ok (.getfield 16, 3) := by decide +kernel
theorem dX4_of_39 : decode cX4_of 39 = .ok (.iload_n 1, 1) := by decide +kernel
theorem dX4_of_40 : decode cX4_of 40 = .ok (.iaload, 1) := by decide +kernel
theorem dX4_of_41 : decode cX4_of 41 = .ok (.ifCond .eq 6, 3) := by decide +kernel
theorem dX4_of_44 : decode cX4_of 44 = .ok (.bipush (-3), 2) := by decide +kernel
theorem dX4_of_46 : decode cX4_of 46 = .ok (.ireturn, 1) := by decide +kernel
theorem dX4_of_47 : decode cX4_of 47 = .ok (.aload_n 0, 1) := by decide +kernel
theorem dX4_of_48 : decode cX4_of 48 = .ok (.iload_n 3, 1) := by decide +kernel
theorem dX4_of_49 : decode cX4_of 49 = .ok (.iload 4, 2) := by decide +kernel
theorem dX4_of_51 : decode cX4_of 51 = .ok (.invokevirtual 158, 3) := by decide +kernel
theorem dX4_of_54 : decode cX4_of 54 = .ok (.aload_n 0, 1) := by decide +kernel
theorem dX4_of_55 : decode cX4_of 55 = .ok (.getfield 56, 3) := by decide +kernel
theorem dX4_of_58 : decode cX4_of 58 = .ok (.iload_n 1, 1) := by decide +kernel
theorem dX4_of_59 : decode cX4_of 59 = .ok (.baload, 1) := by decide +kernel
theorem dX4_of_60 : decode cX4_of 60 = .ok (.ifCond .ne 6, 3) := by decide +kernel
theorem dX4_of_63 : decode cX4_of 63 = .ok (.bipush (-4), 2) := by decide +kernel
theorem dX4_of_65 : decode cX4_of 65 = .ok (.ireturn, 1) := by decide +kernel
theorem dX4_of_66 : decode cX4_of 66 = .ok (.iload_n 2, 1) := by decide +kernel
theorem dX4_of_67 : decode cX4_of 67 = .ok (.tableswitch 93 0 5 #[37, 44, 51, 58, 65, 86], 37) := by decide +kernel
theorem dX4_of_104 : decode cX4_of 104 = .ok (.aload_n 0, 1) := by decide +kernel
theorem dX4_of_105 : decode cX4_of 105 = .ok (.getfield 60, 3) := by decide +kernel
theorem dX4_of_108 : decode cX4_of 108 = .ok (.iload_n 1, 1) := by decide +kernel
theorem dX4_of_109 : decode cX4_of 109 = .ok (.iaload, 1) := by decide +kernel
theorem dX4_of_110 : decode cX4_of 110 = .ok (.ireturn, 1) := by decide +kernel
theorem dX4_of_111 : decode cX4_of 111 = .ok (.aload_n 0, 1) := by decide +kernel
theorem dX4_of_112 : decode cX4_of 112 = .ok (.getfield 69, 3) := by decide +kernel
theorem dX4_of_115 : decode cX4_of 115 = .ok (.iload_n 1, 1) := by decide +kernel
theorem dX4_of_116 : decode cX4_of 116 = .ok (.iaload, 1) := by decide +kernel
theorem dX4_of_117 : decode cX4_of 117 = .ok (.ireturn, 1) := by decide +kernel
theorem dX4_of_118 : decode cX4_of 118 = .ok (.aload_n 0, 1) := by decide +kernel
theorem dX4_of_119 : decode cX4_of 119 = .ok (.getfield 72, 3) := by decide +kernel
theorem dX4_of_122 : decode cX4_of 122 = .ok (.iload_n 1, 1) := by decide +kernel
theorem dX4_of_123 : decode cX4_of 123 = .ok (.iaload, 1) := by decide +kernel
theorem dX4_of_124 : decode cX4_of 124 = .ok (.ireturn, 1) := by decide +kernel
theorem dX4_of_125 : decode cX4_of 125 = .ok (.aload_n 0, 1) := by decide +kernel
theorem dX4_of_126 : decode cX4_of 126 = .ok (.getfield 66, 3) := by decide +kernel
theorem dX4_of_129 : decode cX4_of 129 = .ok (.iload_n 1, 1) := by decide +kernel
theorem dX4_of_130 : decode cX4_of 130 = .ok (.iaload, 1) := by decide +kernel
theorem dX4_of_131 : decode cX4_of 131 = .ok (.ireturn, 1) := by decide +kernel
theorem dX4_of_132 : decode cX4_of 132 = .ok (.iload_n 3, 1) := by decide +kernel
theorem dX4_of_133 : decode cX4_of 133 = .ok (.aload_n 0, 1) := by decide +kernel
theorem dX4_of_134 : decode cX4_of 134 = .ok (.getfield 66, 3) := by decide +kernel
theorem dX4_of_137 : decode cX4_of 137 = .ok (.iload_n 1, 1) := by decide +kernel
theorem dX4_of_138 : decode cX4_of 138 = .ok (.iaload, 1) := by decide +kernel
theorem dX4_of_139 : decode cX4_of 139 = .ok (.isub, 1) := by decide +kernel
theorem dX4_of_140 : decode cX4_of 140 = .ok (.aload_n 0, 1) := by decide +kernel
theorem dX4_of_141 : decode cX4_of 141 = .ok (.getfield 13, 3) := by decide +kernel
theorem dX4_of_144 : decode cX4_of 144 = .ok (.if_icmp .le 7, 3) := by decide +kernel
theorem dX4_of_147 : decode cX4_of 147 = .ok (.iconst 1, 1) := by decide +kernel
theorem dX4_of_148 : decode cX4_of 148 = .ok (.goto 4, 3) := by decide +kernel
theorem dX4_of_151 : decode cX4_of 151 = .ok (.iconst 0, 1) := by decide +kernel
theorem dX4_of_152 : decode cX4_of 152 = .ok (.ireturn, 1) := by decide +kernel
theorem dX4_of_153 : decode cX4_of 153 = .ok (.aload_n 0, 1) := by decide +kernel
theorem dX4_of_154 : decode cX4_of 154 = .ok (.getfield 78, 3) := by decide +kernel
theorem dX4_of_157 : decode cX4_of 157 = .ok (.iload_n 1, 1) := by decide +kernel
theorem dX4_of_158 : decode cX4_of 158 = .ok (.iaload, 1) := by decide +kernel
theorem dX4_of_159 : decode cX4_of 159 = .ok (.ireturn, 1) := by decide +kernel
theorem dX4_of_160 : decode cX4_of 160 = .ok (.aload_n 0, 1) := by decide +kernel
theorem dX4_of_161 : decode cX4_of 161 = .ok (.iload_n 1, 1) := by decide +kernel
theorem dX4_of_162 : decode cX4_of 162 = .ok (.invokevirtual 162, 3) := by decide +kernel
theorem dX4_of_165 : decode cX4_of 165 = .ok (.ireturn, 1) := by decide +kernel
theorem dX4_share_0 : decode cX4_share 0 = .ok (.aload_n 0, 1) := by decide +kernel
theorem dX4_share_1 : decode cX4_share 1 = .ok (.iload_n 1, 1) := by decide +kernel
theorem dX4_share_2 : decode cX4_share 2 = .ok (.invokevirtual 120, 3) := by decide +kernel
theorem dX4_share_5 : decode cX4_share 5 = .ok (.ifCond .eq 25, 3) := by decide +kernel
theorem dX4_share_8 : decode cX4_share 8 = .ok (.iload_n 2, 1) := by decide +kernel
theorem dX4_share_9 : decode cX4_share 9 = .ok (.invokestatic 110, 3) := by decide +kernel
theorem dX4_share_12 : decode cX4_share 12 = .ok (.ifCond .eq 18, 3) := by decide +kernel
theorem dX4_share_15 : decode cX4_share 15 = .ok (.iload_n 3, 1) := by decide +kernel
theorem dX4_share_16 : decode cX4_share 16 = .ok (.invokestatic 155, 3) := by decide +kernel
theorem dX4_share_19 : decode cX4_share 19 = .ok (.ifCond .eq 11, 3) := by decide +kernel
theorem dX4_share_22 : decode cX4_share 22 = .ok (.iload 4, 2) := by decide +kernel
theorem dX4_share_24 : decode cX4_share 24 = .ok (.invokestatic 155, 3) := by decide +kernel
theorem dX4_share_27 : decode cX4_share 27 = .ok (.ifCond .ne 5, 3) := by decide +kernel
theorem dX4_share_30 : decode cX4_share 30 = .ok (.iconst (-1), 1) := by decide +kernel
theorem dX4_share_31 : decode cX4_share 31 = .ok (.ireturn, 1) := by decide +kernel
theorem dX4_share_32 : decode cX4_share 32 = .ok (.aload_n 0, 1) := by decide +kernel
theorem dX4_share_33 : decode cX4_share 33 = .ok (.getfield 16, 3) := by decide +kernel
theorem dX4_share_36 : decode cX4_share 36 = .ok (.iload_n 1, 1) := by decide +kernel
theorem dX4_share_37 : decode cX4_share 37 = .ok (.iaload, 1) := by decide +kernel
theorem dX4_share_38 : decode cX4_share 38 = .ok (.ifCond .eq 6, 3) := by decide +kernel
theorem dX4_share_41 : decode cX4_share 41 = .ok (.bipush (-3), 2) := by decide +kernel
theorem dX4_share_43 : decode cX4_share 43 = .ok (.ireturn, 1) := by decide +kernel
theorem dX4_share_44 : decode cX4_share 44 = .ok (.aload_n 0, 1) := by decide +kernel
theorem dX4_share_45 : decode cX4_share 45 = .ok (.iload_n 3, 1) := by decide +kernel
theorem dX4_share_46 : decode cX4_share 46 = .ok (.iload 4, 2) := by decide +kernel
theorem dX4_share_48 : decode cX4_share 48 = .ok (.invokevirtual 158, 3) := by decide +kernel
theorem dX4_share_51 : decode cX4_share 51 = .ok (.aload_n 0, 1) := by decide +kernel
theorem dX4_share_52 : decode cX4_share 52 = .ok (.getfield 56, 3) := by decide +kernel
theorem dX4_share_55 : decode cX4_share 55 = .ok (.iload_n 1, 1) := by decide +kernel
theorem dX4_share_56 : decode cX4_share 56 = .ok (.baload, 1) := by decide +kernel
theorem dX4_share_57 : decode cX4_share 57 = .ok (.ifCond .eq 17, 3) := by decide +kernel
theorem dX4_share_60 : decode cX4_share 60 = .ok (.aload_n 0, 1) := by decide +kernel
theorem dX4_share_61 : decode cX4_share 61 = .ok (.getfield 63, 3) := by decide +kernel
theorem dX4_share_64 : decode cX4_share 64 = .ok (.bipush 10, 2) := by decide +kernel
theorem dX4_share_66 : decode cX4_share 66 = .ok (.iload_n 1, 1) := by decide +kernel
theorem dX4_share_67 : decode cX4_share 67 = .ok (.imul, 1) := by decide +kernel
theorem dX4_share_68 : decode cX4_share 68 = .ok (.iload_n 2, 1) := by decide +kernel
theorem dX4_share_69 : decode cX4_share 69 = .ok (.iadd, 1) := by decide +kernel
theorem dX4_share_70 : decode cX4_share 70 = .ok (.iaload, 1) := by decide +kernel
theorem dX4_share_71 : decode cX4_share 71 = .ok (.goto 5, 3) := by decide +kernel
theorem dX4_share_74 : decode cX4_share 74 = .ok (.bipush (-4), 2) := by decide +kernel
theorem dX4_share_76 : decode cX4_share 76 = .ok (.ireturn, 1) := by decide +kernel
theorem dX4_feet_0 : decode cX4_feet 0 = .ok (.iload_n 1, 1) := by decide +kernel
theorem dX4_feet_1 : decode cX4_feet 1 = .ok (.invokestatic 110, 3) := by decide +kernel
theorem dX4_feet_4 : decode cX4_feet 4 = .ok (.ifCond .eq 17, 3) := by decide +kernel
theorem dX4_feet_7 : decode cX4_feet 7 = .ok (.iload_n 2, 1) := by decide +kernel
theorem dX4_feet_8 : decode cX4_feet 8 = .ok (.invokestatic 155, 3) := by decide +kernel
theorem dX4_feet_11 : decode cX4_feet 11 = .ok (.ifCond .eq 10, 3) := by decide +kernel
theorem dX4_feet_14 : decode cX4_feet 14 = .ok (.iload_n 3, 1) := by decide +kernel
theorem dX4_feet_15 : decode cX4_feet 15 = .ok (.invokestatic 155, 3) := by decide +kernel
theorem dX4_feet_18 : decode cX4_feet 18 = .ok (.ifCond .ne 5, 3) := by decide +kernel
theorem dX4_feet_21 : decode cX4_feet 21 = .ok (.iconst (-1), 1) := by decide +kernel
theorem dX4_feet_22 : decode cX4_feet 22 = .ok (.ireturn, 1) := by decide +kernel
theorem dX4_feet_23 : decode cX4_feet 23 = .ok (.aload_n 0, 1) := by decide +kernel
theorem dX4_feet_24 : decode cX4_feet 24 = .ok (.iload_n 2, 1) := by decide +kernel
theorem dX4_feet_25 : decode cX4_feet 25 = .ok (.iload_n 3, 1) := by decide +kernel
theorem dX4_feet_26 : decode cX4_feet 26 = .ok (.invokevirtual 158, 3) := by decide +kernel
theorem dX4_feet_29 : decode cX4_feet 29 = .ok (.iconst 0, 1) := by decide +kernel
theorem dX4_feet_30 : decode cX4_feet 30 = .ok (.istore 4, 2) := by decide +kernel
theorem dX4_feet_32 : decode cX4_feet 32 = .ok (.iconst 0, 1) := by decide +kernel
theorem dX4_feet_33 : decode cX4_feet 33 = .ok (.istore 5, 2) := by decide +kernel
theorem dX4_feet_35 : decode cX4_feet 35 = .ok (.iload 5, 2) := by decide +kernel
theorem dX4_feet_37 : decode cX4_feet 37 = .ok (.iconst 4, 1) := by decide +kernel
theorem dX4_feet_38 : decode cX4_feet 38 = .ok (.if_icmp .ge 61, 3) := by decide +kernel
theorem dX4_feet_41 : decode cX4_feet 41 = .ok (.iconst 0, 1) := by decide +kernel
theorem dX4_feet_42 : decode cX4_feet 42 = .ok (.istore 6, 2) := by decide +kernel
theorem dX4_feet_44 : decode cX4_feet 44 = .ok (.iload 6, 2) := by decide +kernel
theorem dX4_feet_46 : decode cX4_feet 46 = .ok (.bipush 60, 2) := by decide +kernel
theorem dX4_feet_48 : decode cX4_feet 48 = .ok (.if_icmp .ge 45, 3) := by decide +kernel
theorem dX4_feet_51 : decode cX4_feet 51 = .ok (.aload_n 0, 1) := by decide +kernel
theorem dX4_feet_52 : decode cX4_feet 52 = .ok (.iload 5, 2) := by decide +kernel
theorem dX4_feet_54 : decode cX4_feet 54 = .ok (.iload 6, 2) := by decide +kernel
theorem dX4_feet_56 : decode cX4_feet 56 = .ok (.invokevirtual 148, 3) := by decide +kernel
theorem dX4_feet_59 : decode cX4_feet 59 = .ok (.istore 7, 2) := by decide +kernel
theorem dX4_feet_61 : decode cX4_feet 61 = .ok (.iload 4, 2) := by decide +kernel
theorem dX4_feet_63 : decode cX4_feet 63 = .ok (.iload 7, 2) := by decide +kernel
theorem dX4_feet_65 : decode cX4_feet 65 = .ok (.ifCond .lt 18, 3) := by decide +kernel
theorem dX4_feet_68 : decode cX4_feet 68 = .ok (.aload_n 0, 1) := by decide +kernel
theorem dX4_feet_69 : decode cX4_feet 69 = .ok (.getfield 60, 3) := by decide +kernel
theorem dX4_feet_72 : decode cX4_feet 72 = .ok (.iload 7, 2) := by decide +kernel
theorem dX4_feet_74 : decode cX4_feet 74 = .ok (.iaload, 1) := by decide +kernel
theorem dX4_feet_75 : decode cX4_feet 75 = .ok (.iload_n 1, 1) := by decide +kernel
theorem dX4_feet_76 : decode cX4_feet 76 = .ok (.if_icmp .ne 7, 3) := by decide +kernel
theorem dX4_feet_79 : decode cX4_feet 79 = .ok (.iconst 1, 1) := by decide +kernel
theorem dX4_feet_80 : decode cX4_feet 80 = .ok (.goto 4, 3) := by decide +kernel
theorem dX4_feet_83 : decode cX4_feet 83 = .ok (.iconst 0, 1) := by decide +kernel
theorem dX4_feet_84 : decode cX4_feet 84 = .ok (.iadd, 1) := by decide +kernel
theorem dX4_feet_85 : decode cX4_feet 85 = .ok (.istore 4, 2) := by decide +kernel
theorem dX4_feet_87 : decode cX4_feet 87 = .ok (.iinc 6 1, 3) := by decide +kernel
theorem dX4_feet_90 : decode cX4_feet 90 = .ok (.goto (-46), 3) := by decide +kernel
theorem dX4_feet_93 : decode cX4_feet 93 = .ok (.iinc 5 1, 3) := by decide +kernel
theorem dX4_feet_96 : decode cX4_feet 96 = .ok (.goto (-61), 3) := by decide +kernel
theorem dX4_feet_99 : decode cX4_feet 99 = .ok (.iload 4, 2) := by decide +kernel
theorem dX4_feet_101 : decode cX4_feet 101 = .ok (.ireturn, 1) := by decide +kernel
theorem dX4_contested_0 : decode cX4_contested 0 = .ok (.iload_n 1, 1) := by decide +kernel
theorem dX4_contested_1 : decode cX4_contested 1 = .ok (.invokestatic 103, 3) := by decide +kernel
theorem dX4_contested_4 : decode cX4_contested 4 = .ok (.ifCond .eq 17, 3) := by decide +kernel
