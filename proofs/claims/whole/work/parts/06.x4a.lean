theorem dX4_init_0 : decode cX4_init 0 = .ok (.aload_n 0, 1) := by decide +kernel
theorem dX4_init_1 : decode cX4_init 1 = .ok (.invokespecial 1, 3) := by decide +kernel
theorem dX4_init_4 : decode cX4_init 4 = .ok (.aload_n 0, 1) := by decide +kernel
theorem dX4_init_5 : decode cX4_init 5 = .ok (.iconst 5, 1) := by decide +kernel
theorem dX4_init_6 : decode cX4_init 6 = .ok (.putfield 7, 3) := by decide +kernel
theorem dX4_init_9 : decode cX4_init 9 = .ok (.aload_n 0, 1) := by decide +kernel
theorem dX4_init_10 : decode cX4_init 10 = .ok (.bipush 10, 2) := by decide +kernel
theorem dX4_init_12 : decode cX4_init 12 = .ok (.putfield 13, 3) := by decide +kernel
theorem dX4_init_15 : decode cX4_init 15 = .ok (.aload_n 0, 1) := by decide +kernel
theorem dX4_init_16 : decode cX4_init 16 = .ok (.bipush 90, 2) := by decide +kernel
theorem dX4_init_18 : decode cX4_init 18 = .ok (.newarray .int, 2) := by decide +kernel
theorem dX4_init_20 : decode cX4_init 20 = .ok (.putfield 16, 3) := by decide +kernel
theorem dX4_init_23 : decode cX4_init 23 = .ok (.aload_n 0, 1) := by decide +kernel
theorem dX4_init_24 : decode cX4_init 24 = .ok (.bipush 90, 2) := by decide +kernel
theorem dX4_init_26 : decode cX4_init 26 = .ok (.newarray .int, 2) := by decide +kernel
theorem dX4_init_28 : decode cX4_init 28 = .ok (.putfield 20, 3) := by decide +kernel
theorem dX4_init_31 : decode cX4_init 31 = .ok (.aload_n 0, 1) := by decide +kernel
theorem dX4_init_32 : decode cX4_init 32 = .ok (.bipush 90, 2) := by decide +kernel
theorem dX4_init_34 : decode cX4_init 34 = .ok (.newarray .int, 2) := by decide +kernel
theorem dX4_init_36 : decode cX4_init 36 = .ok (.putfield 23, 3) := by decide +kernel
theorem dX4_init_39 : decode cX4_init 39 = .ok (.aload_n 0, 1) := by decide +kernel
theorem dX4_init_40 : decode cX4_init 40 = .ok (.bipush 90, 2) := by decide +kernel
theorem dX4_init_42 : decode cX4_init 42 = .ok (.newarray .int, 2) := by decide +kernel
theorem dX4_init_44 : decode cX4_init 44 = .ok (.putfield 26, 3) := by decide +kernel
theorem dX4_init_47 : decode cX4_init 47 = .ok (.aload_n 0, 1) := by decide +kernel
theorem dX4_init_48 : decode cX4_init 48 = .ok (.bipush 90, 2) := by decide +kernel
theorem dX4_init_50 : decode cX4_init 50 = .ok (.newarray .int, 2) := by decide +kernel
theorem dX4_init_52 : decode cX4_init 52 = .ok (.putfield 29, 3) := by decide +kernel
theorem dX4_init_55 : decode cX4_init 55 = .ok (.aload_n 0, 1) := by decide +kernel
theorem dX4_init_56 : decode cX4_init 56 = .ok (.bipush 90, 2) := by decide +kernel
theorem dX4_init_58 : decode cX4_init 58 = .ok (.newarray .int, 2) := by decide +kernel
theorem dX4_init_60 : decode cX4_init 60 = .ok (.putfield 32, 3) := by decide +kernel
theorem dX4_init_63 : decode cX4_init 63 = .ok (.aload_n 0, 1) := by decide +kernel
theorem dX4_init_64 : decode cX4_init 64 = .ok (.bipush 90, 2) := by decide +kernel
theorem dX4_init_66 : decode cX4_init 66 = .ok (.newarray .int, 2) := by decide +kernel
theorem dX4_init_68 : decode cX4_init 68 = .ok (.putfield 35, 3) := by decide +kernel
theorem dX4_init_71 : decode cX4_init 71 = .ok (.aload_n 0, 1) := by decide +kernel
theorem dX4_init_72 : decode cX4_init 72 = .ok (.bipush 90, 2) := by decide +kernel
theorem dX4_init_74 : decode cX4_init 74 = .ok (.newarray .int, 2) := by decide +kernel
theorem dX4_init_76 : decode cX4_init 76 = .ok (.putfield 38, 3) := by decide +kernel
theorem dX4_init_79 : decode cX4_init 79 = .ok (.aload_n 0, 1) := by decide +kernel
theorem dX4_init_80 : decode cX4_init 80 = .ok (.bipush 90, 2) := by decide +kernel
theorem dX4_init_82 : decode cX4_init 82 = .ok (.newarray .int, 2) := by decide +kernel
theorem dX4_init_84 : decode cX4_init 84 = .ok (.putfield 41, 3) := by decide +kernel
theorem dX4_init_87 : decode cX4_init 87 = .ok (.aload_n 0, 1) := by decide +kernel
theorem dX4_init_88 : decode cX4_init 88 = .ok (.bipush 90, 2) := by decide +kernel
theorem dX4_init_90 : decode cX4_init 90 = .ok (.newarray .int, 2) := by decide +kernel
theorem dX4_init_92 : decode cX4_init 92 = .ok (.putfield 44, 3) := by decide +kernel
theorem dX4_init_95 : decode cX4_init 95 = .ok (.aload_n 0, 1) := by decide +kernel
theorem dX4_init_96 : decode cX4_init 96 = .ok (.bipush 90, 2) := by decide +kernel
theorem dX4_init_98 : decode cX4_init 98 = .ok (.newarray .int, 2) := by decide +kernel
theorem dX4_init_100 : decode cX4_init 100 = .ok (.putfield 47, 3) := by decide +kernel
theorem dX4_init_103 : decode cX4_init 103 = .ok (.aload_n 0, 1) := by decide +kernel
theorem dX4_init_104 : decode cX4_init 104 = .ok (.iconst 3, 1) := by decide +kernel
theorem dX4_init_105 : decode cX4_init 105 = .ok (.newarray .int, 2) := by decide +kernel
theorem dX4_init_107 : decode cX4_init 107 = .ok (.putfield 50, 3) := by decide +kernel
theorem dX4_init_110 : decode cX4_init 110 = .ok (.aload_n 0, 1) := by decide +kernel
theorem dX4_init_111 : decode cX4_init 111 = .ok (.sipush 990, 3) := by decide +kernel
theorem dX4_init_114 : decode cX4_init 114 = .ok (.newarray .int, 2) := by decide +kernel
theorem dX4_init_116 : decode cX4_init 116 = .ok (.putfield 53, 3) := by decide +kernel
theorem dX4_init_119 : decode cX4_init 119 = .ok (.aload_n 0, 1) := by decide +kernel
theorem dX4_init_120 : decode cX4_init 120 = .ok (.bipush 90, 2) := by decide +kernel
theorem dX4_init_122 : decode cX4_init 122 = .ok (.newarray .boolean, 2) := by decide +kernel
theorem dX4_init_124 : decode cX4_init 124 = .ok (.putfield 56, 3) := by decide +kernel
theorem dX4_init_127 : decode cX4_init 127 = .ok (.aload_n 0, 1) := by decide +kernel
theorem dX4_init_128 : decode cX4_init 128 = .ok (.bipush 90, 2) := by decide +kernel
theorem dX4_init_130 : decode cX4_init 130 = .ok (.newarray .int, 2) := by decide +kernel
theorem dX4_init_132 : decode cX4_init 132 = .ok (.putfield 60, 3) := by decide +kernel
theorem dX4_init_135 : decode cX4_init 135 = .ok (.aload_n 0, 1) := by decide +kernel
theorem dX4_init_136 : decode cX4_init 136 = .ok (.sipush 900, 3) := by decide +kernel
theorem dX4_init_139 : decode cX4_init 139 = .ok (.newarray .int, 2) := by decide +kernel
theorem dX4_init_141 : decode cX4_init 141 = .ok (.putfield 63, 3) := by decide +kernel
theorem dX4_init_144 : decode cX4_init 144 = .ok (.aload_n 0, 1) := by decide +kernel
theorem dX4_init_145 : decode cX4_init 145 = .ok (.bipush 90, 2) := by decide +kernel
theorem dX4_init_147 : decode cX4_init 147 = .ok (.newarray .int, 2) := by decide +kernel
theorem dX4_init_149 : decode cX4_init 149 = .ok (.putfield 66, 3) := by decide +kernel
theorem dX4_init_152 : decode cX4_init 152 = .ok (.aload_n 0, 1) := by decide +kernel
theorem dX4_init_153 : decode cX4_init 153 = .ok (.bipush 90, 2) := by decide +kernel
theorem dX4_init_155 : decode cX4_init 155 = .ok (.newarray .int, 2) := by decide +kernel
theorem dX4_init_157 : decode cX4_init 157 = .ok (.putfield 69, 3) := by decide +kernel
theorem dX4_init_160 : decode cX4_init 160 = .ok (.aload_n 0, 1) := by decide +kernel
theorem dX4_init_161 : decode cX4_init 161 = .ok (.bipush 90, 2) := by decide +kernel
theorem dX4_init_163 : decode cX4_init 163 = .ok (.newarray .int, 2) := by decide +kernel
theorem dX4_init_165 : decode cX4_init 165 = .ok (.putfield 72, 3) := by decide +kernel
theorem dX4_init_168 : decode cX4_init 168 = .ok (.aload_n 0, 1) := by decide +kernel
theorem dX4_init_169 : decode cX4_init 169 = .ok (.bipush 90, 2) := by decide +kernel
theorem dX4_init_171 : decode cX4_init 171 = .ok (.newarray .int, 2) := by decide +kernel
theorem dX4_init_173 : decode cX4_init 173 = .ok (.putfield 75, 3) := by decide +kernel
theorem dX4_init_176 : decode cX4_init 176 = .ok (.aload_n 0, 1) := by decide +kernel
theorem dX4_init_177 : decode cX4_init 177 = .ok (.bipush 90, 2) := by decide +kernel
theorem dX4_init_179 : decode cX4_init 179 = .ok (.newarray .int, 2) := by decide +kernel
theorem dX4_init_181 : decode cX4_init 181 = .ok (.putfield 78, 3) := by decide +kernel
theorem dX4_init_184 : decode cX4_init 184 = .ok (.aload_n 0, 1) := by decide +kernel
theorem dX4_init_185 : decode cX4_init 185 = .ok (.bipush 90, 2) := by decide +kernel
theorem dX4_init_187 : decode cX4_init 187 = .ok (.newarray .int, 2) := by decide +kernel
theorem dX4_init_189 : decode cX4_init 189 = .ok (.putfield 81, 3) := by decide +kernel
theorem dX4_init_192 : decode cX4_init 192 = .ok (.aload_n 0, 1) := by decide +kernel
theorem dX4_init_193 : decode cX4_init 193 = .ok (.bipush 90, 2) := by decide +kernel
theorem dX4_init_195 : decode cX4_init 195 = .ok (.newarray .int, 2) := by decide +kernel
theorem dX4_init_197 : decode cX4_init 197 = .ok (.putfield 84, 3) := by decide +kernel
theorem dX4_init_200 : decode cX4_init 200 = .ok (.aload_n 0, 1) := by decide +kernel
theorem dX4_init_201 : decode cX4_init 201 = .ok (.bipush 11, 2) := by decide +kernel
theorem dX4_init_203 : decode cX4_init 203 = .ok (.newarray .int, 2) := by decide +kernel
theorem dX4_init_205 : decode cX4_init 205 = .ok (.putfield 87, 3) := by decide +kernel
theorem dX4_init_208 : decode cX4_init 208 = .ok (.aload_n 0, 1) := by decide +kernel
theorem dX4_init_209 : decode cX4_init 209 = .ok (.sipush 240, 3) := by decide +kernel
theorem dX4_init_212 : decode cX4_init 212 = .ok (.newarray .int, 2) := by decide +kernel
theorem dX4_init_214 : decode cX4_init 214 = .ok (.putfield 90, 3) := by decide +kernel
theorem dX4_init_217 : decode cX4_init 217 = .ok (.return_, 1) := by decide +kernel
theorem dX4_in_0 : decode cX4_in 0 = .ok (.iload_n 0, 1) := by decide +kernel
theorem dX4_in_1 : decode cX4_in 1 = .ok (.iload_n 1, 1) := by decide +kernel
theorem dX4_in_2 : decode cX4_in 2 = .ok (.if_icmp .lt 12, 3) := by decide +kernel
theorem dX4_in_5 : decode cX4_in 5 = .ok (.iload_n 0, 1) := by decide +kernel
theorem dX4_in_6 : decode cX4_in 6 = .ok (.iload_n 2, 1) := by decide +kernel
theorem dX4_in_7 : decode cX4_in 7 = .ok (.if_icmp .gt 7, 3) := by decide +kernel
theorem dX4_in_10 : decode cX4_in 10 = .ok (.iconst 1, 1) := by decide +kernel
theorem dX4_in_11 : decode cX4_in 11 = .ok (.goto 4, 3) := by decide +kernel
theorem dX4_in_14 : decode cX4_in 14 = .ok (.iconst 0, 1) := by decide +kernel
theorem dX4_in_15 : decode cX4_in 15 = .ok (.ireturn, 1) := by decide +kernel
theorem dX4_isMiner_0 : decode cX4_isMiner 0 = .ok (.iload_n 0, 1) := by decide +kernel
theorem dX4_isMiner_1 : decode cX4_isMiner 1 = .ok (.iconst 0, 1) := by decide +kernel
theorem dX4_isMiner_2 : decode cX4_isMiner 2 = .ok (.bipush 9, 2) := by decide +kernel
theorem dX4_isMiner_4 : decode cX4_isMiner 4 = .ok (.invokestatic 93, 3) := by decide +kernel
theorem dX4_isMiner_7 : decode cX4_isMiner 7 = .ok (.ireturn, 1) := by decide +kernel
theorem dX4_isVein_0 : decode cX4_isVein 0 = .ok (.iload_n 0, 1) := by decide +kernel
theorem dX4_isVein_1 : decode cX4_isVein 1 = .ok (.iconst 0, 1) := by decide +kernel
theorem dX4_isVein_2 : decode cX4_isVein 2 = .ok (.iconst 3, 1) := by decide +kernel
theorem dX4_isVein_3 : decode cX4_isVein 3 = .ok (.invokestatic 93, 3) := by decide +kernel
theorem dX4_isVein_6 : decode cX4_isVein 6 = .ok (.ireturn, 1) := by decide +kernel
theorem dX4_isFoot_0 : decode cX4_isFoot 0 = .ok (.iload_n 0, 1) := by decide +kernel
theorem dX4_isFoot_1 : decode cX4_isFoot 1 = .ok (.iconst 0, 1) := by decide +kernel
theorem dX4_isFoot_2 : decode cX4_isFoot 2 = .ok (.bipush 59, 2) := by decide +kernel
theorem dX4_isFoot_4 : decode cX4_isFoot 4 = .ok (.invokestatic 93, 3) := by decide +kernel
theorem dX4_isFoot_7 : decode cX4_isFoot 7 = .ok (.ireturn, 1) := by decide +kernel
theorem dX4_isDay_0 : decode cX4_isDay 0 = .ok (.iload_n 0, 1) := by decide +kernel
theorem dX4_isDay_1 : decode cX4_isDay 1 = .ok (.iconst 0, 1) := by decide +kernel
theorem dX4_isDay_2 : decode cX4_isDay 2 = .ok (.sipush 999, 3) := by decide +kernel
theorem dX4_isDay_5 : decode cX4_isDay 5 = .ok (.invokestatic 93, 3) := by decide +kernel
theorem dX4_isDay_8 : decode cX4_isDay 8 = .ok (.ireturn, 1) := by decide +kernel
theorem dX4_isFact_0 : decode cX4_isFact 0 = .ok (.iload_n 1, 1) := by decide +kernel
theorem dX4_isFact_1 : decode cX4_isFact 1 = .ok (.iconst 0, 1) := by decide +kernel
theorem dX4_isFact_2 : decode cX4_isFact 2 = .ok (.aload_n 0, 1) := by decide +kernel
theorem dX4_isFact_3 : decode cX4_isFact 3 = .ok (.getfield 97, 3) := by decide +kernel
theorem dX4_isFact_6 : decode cX4_isFact 6 = .ok (.iconst 1, 1) := by decide +kernel
theorem dX4_isFact_7 : decode cX4_isFact 7 = .ok (.isub, 1) := by decide +kernel
theorem dX4_isFact_8 : decode cX4_isFact 8 = .ok (.invokestatic 93, 3) := by decide +kernel
theorem dX4_isFact_11 : decode cX4_isFact 11 = .ok (.ireturn, 1) := by decide +kernel
theorem dX4_day_0 : decode cX4_day 0 = .ok (.iload_n 1, 1) := by decide +kernel
theorem dX4_day_1 : decode cX4_day 1 = .ok (.iconst 0, 1) := by decide +kernel
theorem dX4_day_2 : decode cX4_day 2 = .ok (.bipush 100, 2) := by decide +kernel
theorem dX4_day_4 : decode cX4_day 4 = .ok (.invokestatic 93, 3) := by decide +kernel
theorem dX4_day_7 : decode cX4_day 7 = .ok (.ifCond .eq 15, 3) := by decide +kernel
theorem dX4_day_10 : decode cX4_day 10 = .ok (.aload_n 0, 1) := by decide +kernel
theorem dX4_day_11 : decode cX4_day 11 = .ok (.getfield 100, 3) := by decide +kernel
theorem dX4_day_14 : decode cX4_day 14 = .ok (.iload_n 1, 1) := by decide +kernel
theorem dX4_day_15 : decode cX4_day 15 = .ok (.iadd, 1) := by decide +kernel
theorem dX4_day_16 : decode cX4_day 16 = .ok (.sipush 999, 3) := by decide +kernel
theorem dX4_day_19 : decode cX4_day 19 = .ok (.if_icmp .le 5, 3) := by decide +kernel
theorem dX4_day_22 : decode cX4_day 22 = .ok (.iconst (-1), 1) := by decide +kernel
theorem dX4_day_23 : decode cX4_day 23 = .ok (.ireturn, 1) := by decide +kernel
theorem dX4_day_24 : decode cX4_day 24 = .ok (.aload_n 0, 1) := by decide +kernel
theorem dX4_day_25 : decode cX4_day 25 = .ok (.dup, 1) := by decide +kernel
theorem dX4_day_26 : decode cX4_day 26 = .ok (.getfield 100, 3) := by decide +kernel
theorem dX4_day_29 : decode cX4_day 29 = .ok (.iload_n 1, 1) := by decide +kernel
theorem dX4_day_30 : decode cX4_day 30 = .ok (.iadd, 1) := by decide +kernel
theorem dX4_day_31 : decode cX4_day 31 = .ok (.putfield 100, 3) := by decide +kernel
theorem dX4_day_34 : decode cX4_day 34 = .ok (.aload_n 0, 1) := by decide +kernel
theorem dX4_day_35 : decode cX4_day 35 = .ok (.getfield 100, 3) := by decide +kernel
theorem dX4_day_38 : decode cX4_day 38 = .ok (.ireturn, 1) := by decide +kernel
theorem dX4_rule_0 : decode cX4_rule 0 = .ok (.iload_n 1, 1) := by decide +kernel
theorem dX4_rule_1 : decode cX4_rule 1 = .ok (.iconst 0, 1) := by decide +kernel
theorem dX4_rule_2 : decode cX4_rule 2 = .ok (.iconst 1, 1) := by decide +kernel
theorem dX4_rule_3 : decode cX4_rule 3 = .ok (.invokestatic 93, 3) := by decide +kernel
theorem dX4_rule_6 : decode cX4_rule 6 = .ok (.ifCond .eq 22, 3) := by decide +kernel
theorem dX4_rule_9 : decode cX4_rule 9 = .ok (.iload_n 2, 1) := by decide +kernel
theorem dX4_rule_10 : decode cX4_rule 10 = .ok (.iconst 1, 1) := by decide +kernel
theorem dX4_rule_11 : decode cX4_rule 11 = .ok (.iload_n 1, 1) := by decide +kernel
theorem dX4_rule_12 : decode cX4_rule 12 = .ok (.ifCond .ne 8, 3) := by decide +kernel
theorem dX4_rule_15 : decode cX4_rule 15 = .ok (.bipush 10, 2) := by decide +kernel
theorem dX4_rule_17 : decode cX4_rule 17 = .ok (.goto 5, 3) := by decide +kernel
theorem dX4_rule_20 : decode cX4_rule 20 = .ok (.bipush 30, 2) := by decide +kernel
theorem dX4_rule_22 : decode cX4_rule 22 = .ok (.invokestatic 93, 3) := by decide +kernel
theorem dX4_rule_25 : decode cX4_rule 25 = .ok (.ifCond .ne 5, 3) := by decide +kernel
theorem dX4_rule_28 : decode cX4_rule 28 = .ok (.iconst (-1), 1) := by decide +kernel
theorem dX4_rule_29 : decode cX4_rule 29 = .ok (.ireturn, 1) := by decide +kernel
theorem dX4_rule_30 : decode cX4_rule 30 = .ok (.iload_n 1, 1) := by decide +kernel
theorem dX4_rule_31 : decode cX4_rule 31 = .ok (.ifCond .ne 10, 3) := by decide +kernel
theorem dX4_rule_34 : decode cX4_rule 34 = .ok (.aload_n 0, 1) := by decide +kernel
theorem dX4_rule_35 : decode cX4_rule 35 = .ok (.getfield 7, 3) := by decide +kernel
theorem dX4_rule_38 : decode cX4_rule 38 = .ok (.goto 7, 3) := by decide +kernel
theorem dX4_rule_41 : decode cX4_rule 41 = .ok (.aload_n 0, 1) := by decide +kernel
theorem dX4_rule_42 : decode cX4_rule 42 = .ok (.getfield 13, 3) := by decide +kernel
theorem dX4_rule_45 : decode cX4_rule 45 = .ok (.istore_n 3, 1) := by decide +kernel
theorem dX4_rule_46 : decode cX4_rule 46 = .ok (.aload_n 0, 1) := by decide +kernel
theorem dX4_rule_47 : decode cX4_rule 47 = .ok (.iload_n 1, 1) := by decide +kernel
theorem dX4_rule_48 : decode cX4_rule 48 = .ok (.ifCond .ne 7, 3) := by decide +kernel
theorem dX4_rule_51 : decode cX4_rule 51 = .ok (.iload_n 2, 1) := by decide +kernel
theorem dX4_rule_52 : decode cX4_rule 52 = .ok (.goto 7, 3) := by decide +kernel
theorem dX4_rule_55 : decode cX4_rule 55 = .ok (.aload_n 0, 1) := by decide +kernel
theorem dX4_rule_56 : decode cX4_rule 56 = .ok (.getfield 7, 3) := by decide +kernel
theorem dX4_rule_59 : decode cX4_rule 59 = .ok (.putfield 7, 3) := by decide +kernel
theorem dX4_rule_62 : decode cX4_rule 62 = .ok (.aload_n 0, 1) := by decide +kernel
theorem dX4_rule_63 : decode cX4_rule 63 = .ok (.iload_n 1, 1) := by decide +kernel
theorem dX4_rule_64 : decode cX4_rule 64 = .ok (.iconst 1, 1) := by decide +kernel
theorem dX4_rule_65 : decode cX4_rule 65 = .ok (.if_icmp .ne 7, 3) := by decide +kernel
theorem dX4_rule_68 : decode cX4_rule 68 = .ok (.iload_n 2, 1) := by decide +kernel
theorem dX4_rule_69 : decode cX4_rule 69 = .ok (.goto 7, 3) := by decide +kernel
theorem dX4_rule_72 : decode cX4_rule 72 = .ok (.aload_n 0, 1) := by decide +kernel
theorem dX4_rule_73 : decode cX4_rule 73 = .ok (.getfield 13, 3) := by decide +kernel
theorem dX4_rule_76 : decode cX4_rule 76 = .ok (.putfield 13, 3) := by decide +kernel
theorem dX4_rule_79 : decode cX4_rule 79 = .ok (.iload_n 3, 1) := by decide +kernel
theorem dX4_rule_80 : decode cX4_rule 80 = .ok (.ireturn, 1) := by decide +kernel
theorem dX4_tell_0 : decode cX4_tell 0 = .ok (.aload_n 0, 1) := by decide +kernel
theorem dX4_tell_1 : decode cX4_tell 1 = .ok (.getfield 16, 3) := by decide +kernel
theorem dX4_tell_4 : decode cX4_tell 4 = .ok (.aload_n 0, 1) := by decide +kernel
theorem dX4_tell_5 : decode cX4_tell 5 = .ok (.getfield 97, 3) := by decide +kernel
theorem dX4_tell_8 : decode cX4_tell 8 = .ok (.iload_n 1, 1) := by decide +kernel
theorem dX4_tell_9 : decode cX4_tell 9 = .ok (.iastore, 1) := by decide +kernel
theorem dX4_tell_10 : decode cX4_tell 10 = .ok (.aload_n 0, 1) := by decide +kernel
theorem dX4_tell_11 : decode cX4_tell 11 = .ok (.getfield 20, 3) := by decide +kernel
theorem dX4_tell_14 : decode cX4_tell 14 = .ok (.aload_n 0, 1) := by decide +kernel
theorem dX4_tell_15 : decode cX4_tell 15 = .ok (.getfield 97, 3) := by decide +kernel
theorem dX4_tell_18 : decode cX4_tell 18 = .ok (.iload_n 2, 1) := by decide +kernel
theorem dX4_tell_19 : decode cX4_tell 19 = .ok (.iastore, 1) := by decide +kernel
theorem dX4_tell_20 : decode cX4_tell 20 = .ok (.aload_n 0, 1) := by decide +kernel
theorem dX4_tell_21 : decode cX4_tell 21 = .ok (.getfield 23, 3) := by decide +kernel
theorem dX4_tell_24 : decode cX4_tell 24 = .ok (.aload_n 0, 1) := by decide +kernel
theorem dX4_tell_25 : decode cX4_tell 25 = .ok (.getfield 97, 3) := by decide +kernel
theorem dX4_tell_28 : decode cX4_tell 28 = .ok (.aload_n 0, 1) := by decide +kernel
theorem dX4_tell_29 : decode cX4_tell 29 = .ok (.getfield 100, 3) := by decide +kernel
theorem dX4_tell_32 : decode cX4_tell 32 = .ok (.iastore, 1) := by decide +kernel
theorem dX4_tell_33 : decode cX4_tell 33 = .ok (.aload_n 0, 1) := by decide +kernel
theorem dX4_tell_34 : decode cX4_tell 34 = .ok (.getfield 26, 3) := by decide +kernel
theorem dX4_tell_37 : decode cX4_tell 37 = .ok (.aload_n 0, 1) := by decide +kernel
theorem dX4_tell_38 : decode cX4_tell 38 = .ok (.getfield 97, 3) := by decide +kernel
theorem dX4_tell_41 : decode cX4_tell 41 = .ok (.bipush (-4), 2) := by decide +kernel
theorem dX4_tell_43 : decode cX4_tell 43 = .ok (.iastore, 1) := by decide +kernel
theorem dX4_tell_44 : decode cX4_tell 44 = .ok (.aload_n 0, 1) := by decide +kernel
theorem dX4_tell_45 : decode cX4_tell 45 = .ok (.getfield 47, 3) := by decide +kernel
theorem dX4_tell_48 : decode cX4_tell 48 = .ok (.aload_n 0, 1) := by decide +kernel
theorem dX4_tell_49 : decode cX4_tell 49 = .ok (.getfield 97, 3) := by decide +kernel
theorem dX4_tell_52 : decode cX4_tell 52 = .ok (.iload_n 3, 1) := by decide +kernel
theorem dX4_tell_53 : decode cX4_tell 53 = .ok (.iastore, 1) := by decide +kernel
theorem dX4_tell_54 : decode cX4_tell 54 = .ok (.aload_n 0, 1) := by decide +kernel
theorem dX4_tell_55 : decode cX4_tell 55 = .ok (.getfield 29, 3) := by decide +kernel
theorem dX4_tell_58 : decode cX4_tell 58 = .ok (.aload_n 0, 1) := by decide +kernel
theorem dX4_tell_59 : decode cX4_tell 59 = .ok (.getfield 97, 3) := by decide +kernel
theorem dX4_tell_62 : decode cX4_tell 62 = .ok (.iload_n 3, 1) := by decide +kernel
theorem dX4_tell_63 : decode cX4_tell 63 = .ok (.ifCond .lt 12, 3) := by decide +kernel
theorem dX4_tell_66 : decode cX4_tell 66 = .ok (.aload_n 0, 1) := by decide +kernel
theorem dX4_tell_67 : decode cX4_tell 67 = .ok (.getfield 29, 3) := by decide +kernel
theorem dX4_tell_70 : decode cX4_tell 70 = .ok (.iload_n 3, 1) := by decide +kernel
theorem dX4_tell_71 : decode cX4_tell 71 = .ok (.iaload, 1) := by decide +kernel
theorem dX4_tell_72 : decode cX4_tell 72 = .ok (.goto 4, 3) := by decide +kernel
theorem dX4_tell_75 : decode cX4_tell 75 = .ok (.iconst 0, 1) := by decide +kernel
theorem dX4_tell_76 : decode cX4_tell 76 = .ok (.iastore, 1) := by decide +kernel
theorem dX4_tell_77 : decode cX4_tell 77 = .ok (.aload_n 0, 1) := by decide +kernel
theorem dX4_tell_78 : decode cX4_tell 78 = .ok (.getfield 32, 3) := by decide +kernel
theorem dX4_tell_81 : decode cX4_tell 81 = .ok (.aload_n 0, 1) := by decide +kernel
theorem dX4_tell_82 : decode cX4_tell 82 = .ok (.getfield 97, 3) := by decide +kernel
theorem dX4_tell_85 : decode cX4_tell 85 = .ok (.iload 4, 2) := by decide +kernel
theorem dX4_tell_87 : decode cX4_tell 87 = .ok (.iastore, 1) := by decide +kernel
theorem dX4_tell_88 : decode cX4_tell 88 = .ok (.aload_n 0, 1) := by decide +kernel
theorem dX4_tell_89 : decode cX4_tell 89 = .ok (.getfield 35, 3) := by decide +kernel
theorem dX4_tell_92 : decode cX4_tell 92 = .ok (.aload_n 0, 1) := by decide +kernel
theorem dX4_tell_93 : decode cX4_tell 93 = .ok (.getfield 97, 3) := by decide +kernel
theorem dX4_tell_96 : decode cX4_tell 96 = .ok (.bipush (-4), 2) := by decide +kernel
theorem dX4_tell_98 : decode cX4_tell 98 = .ok (.iastore, 1) := by decide +kernel
theorem dX4_tell_99 : decode cX4_tell 99 = .ok (.aload_n 0, 1) := by decide +kernel
theorem dX4_tell_100 : decode cX4_tell 100 = .ok (.getfield 38, 3) := by decide +kernel
theorem dX4_tell_103 : decode cX4_tell 103 = .ok (.aload_n 0, 1) := by decide +kernel
theorem dX4_tell_104 : decode cX4_tell 104 = .ok (.getfield 97, 3) := by decide +kernel
theorem dX4_tell_107 : decode cX4_tell 107 = .ok (.bipush (-4), 2) := by decide +kernel
theorem dX4_tell_109 : decode cX4_tell 109 = .ok (.iastore, 1) := by decide +kernel
theorem dX4_tell_110 : decode cX4_tell 110 = .ok (.aload_n 0, 1) := by decide +kernel
theorem dX4_tell_111 : decode cX4_tell 111 = .ok (.getfield 41, 3) := by decide +kernel
theorem dX4_tell_114 : decode cX4_tell 114 = .ok (.aload_n 0, 1) := by decide +kernel
theorem dX4_tell_115 : decode cX4_tell 115 = .ok (.getfield 97, 3) := by decide +kernel
theorem dX4_tell_118 : decode cX4_tell 118 = .ok (.bipush (-4), 2) := by decide +kernel
theorem dX4_tell_120 : decode cX4_tell 120 = .ok (.iastore, 1) := by decide +kernel
theorem dX4_tell_121 : decode cX4_tell 121 = .ok (.aload_n 0, 1) := by decide +kernel
theorem dX4_tell_122 : decode cX4_tell 122 = .ok (.getfield 44, 3) := by decide +kernel
theorem dX4_tell_125 : decode cX4_tell 125 = .ok (.aload_n 0, 1) := by decide +kernel
theorem dX4_tell_126 : decode cX4_tell 126 = .ok (.getfield 97, 3) := by decide +kernel
theorem dX4_tell_129 : decode cX4_tell 129 = .ok (.iconst 0, 1) := by decide +kernel
theorem dX4_tell_130 : decode cX4_tell 130 = .ok (.iastore, 1) := by decide +kernel
theorem dX4_tell_131 : decode cX4_tell 131 = .ok (.aload_n 0, 1) := by decide +kernel
theorem dX4_tell_132 : decode cX4_tell 132 = .ok (.dup, 1) := by decide +kernel
theorem dX4_tell_133 : decode cX4_tell 133 = .ok (.getfield 97, 3) := by decide +kernel
theorem dX4_tell_136 : decode cX4_tell 136 = .ok (.iconst 1, 1) := by decide +kernel
theorem dX4_tell_137 : decode cX4_tell 137 = .ok (.iadd, 1) := by decide +kernel
theorem dX4_tell_138 : decode cX4_tell 138 = .ok (.putfield 97, 3) := by decide +kernel
theorem dX4_tell_141 : decode cX4_tell 141 = .ok (.aload_n 0, 1) := by decide +kernel
theorem dX4_tell_142 : decode cX4_tell 142 = .ok (.getfield 97, 3) := by decide +kernel
theorem dX4_tell_145 : decode cX4_tell 145 = .ok (.iconst 1, 1) := by decide +kernel
theorem dX4_tell_146 : decode cX4_tell 146 = .ok (.isub, 1) := by decide +kernel
theorem dX4_tell_147 : decode cX4_tell 147 = .ok (.ireturn, 1) := by decide +kernel
theorem dX4_stake_0 : decode cX4_stake 0 = .ok (.iload_n 1, 1) := by decide +kernel
theorem dX4_stake_1 : decode cX4_stake 1 = .ok (.iconst 0, 1) := by decide +kernel
theorem dX4_stake_2 : decode cX4_stake 2 = .ok (.aload_n 0, 1) := by decide +kernel
theorem dX4_stake_3 : decode cX4_stake 3 = .ok (.getfield 100, 3) := by decide +kernel
theorem dX4_stake_6 : decode cX4_stake 6 = .ok (.invokestatic 93, 3) := by decide +kernel
theorem dX4_stake_9 : decode cX4_stake 9 = .ok (.ifCond .eq 25, 3) := by decide +kernel
theorem dX4_stake_12 : decode cX4_stake 12 = .ok (.iload_n 2, 1) := by decide +kernel
theorem dX4_stake_13 : decode cX4_stake 13 = .ok (.invokestatic 103, 3) := by decide +kernel
theorem dX4_stake_16 : decode cX4_stake 16 = .ok (.ifCond .eq 18, 3) := by decide +kernel
theorem dX4_stake_19 : decode cX4_stake 19 = .ok (.iload_n 3, 1) := by decide +kernel
theorem dX4_stake_20 : decode cX4_stake 20 = .ok (.invokestatic 107, 3) := by decide +kernel
theorem dX4_stake_23 : decode cX4_stake 23 = .ok (.ifCond .eq 11, 3) := by decide +kernel
theorem dX4_stake_26 : decode cX4_stake 26 = .ok (.iload 4, 2) := by decide +kernel
theorem dX4_stake_28 : decode cX4_stake 28 = .ok (.invokestatic 110, 3) := by decide +kernel
theorem dX4_stake_31 : decode cX4_stake 31 = .ok (.ifCond .ne 5, 3) := by decide +kernel
theorem dX4_stake_34 : decode cX4_stake 34 = .ok (.iconst (-1), 1) := by decide +kernel
theorem dX4_stake_35 : decode cX4_stake 35 = .ok (.ireturn, 1) := by decide +kernel
theorem dX4_stake_36 : decode cX4_stake 36 = .ok (.aload_n 0, 1) := by decide +kernel
theorem dX4_stake_37 : decode cX4_stake 37 = .ok (.getfield 97, 3) := by decide +kernel
theorem dX4_stake_40 : decode cX4_stake 40 = .ok (.bipush 90, 2) := by decide +kernel
theorem dX4_stake_42 : decode cX4_stake 42 = .ok (.if_icmp .eq 12, 3) := by decide +kernel
theorem dX4_stake_45 : decode cX4_stake 45 = .ok (.aload_n 0, 1) := by decide +kernel
theorem dX4_stake_46 : decode cX4_stake 46 = .ok (.getfield 113, 3) := by decide +kernel
theorem dX4_stake_49 : decode cX4_stake 49 = .ok (.bipush 20, 2) := by decide +kernel
theorem dX4_stake_51 : decode cX4_stake 51 = .ok (.if_icmp .ne 6, 3) := by decide +kernel
theorem dX4_stake_54 : decode cX4_stake 54 = .ok (.bipush (-2), 2) := by decide +kernel
theorem dX4_stake_56 : decode cX4_stake 56 = .ok (.ireturn, 1) := by decide +kernel
theorem dX4_stake_57 : decode cX4_stake 57 = .ok (.aload_n 0, 1) := by decide +kernel
theorem dX4_stake_58 : decode cX4_stake 58 = .ok (.iconst 0, 1) := by decide +kernel
theorem dX4_stake_59 : decode cX4_stake 59 = .ok (.iload_n 1, 1) := by decide +kernel
theorem dX4_stake_60 : decode cX4_stake 60 = .ok (.bipush (-4), 2) := by decide +kernel
theorem dX4_stake_62 : decode cX4_stake 62 = .ok (.iload 4, 2) := by decide +kernel
theorem dX4_stake_64 : decode cX4_stake 64 = .ok (.invokevirtual 116, 3) := by decide +kernel
theorem dX4_stake_67 : decode cX4_stake 67 = .ok (.istore 5, 2) := by decide +kernel
theorem dX4_stake_69 : decode cX4_stake 69 = .ok (.aload_n 0, 1) := by decide +kernel
theorem dX4_stake_70 : decode cX4_stake 70 = .ok (.getfield 47, 3) := by decide +kernel
theorem dX4_stake_73 : decode cX4_stake 73 = .ok (.iload 5, 2) := by decide +kernel
theorem dX4_stake_75 : decode cX4_stake 75 = .ok (.iload 5, 2) := by decide +kernel
theorem dX4_stake_77 : decode cX4_stake 77 = .ok (.iastore, 1) := by decide +kernel
theorem dX4_stake_78 : decode cX4_stake 78 = .ok (.aload_n 0, 1) := by decide +kernel
theorem dX4_stake_79 : decode cX4_stake 79 = .ok (.getfield 29, 3) := by decide +kernel
theorem dX4_stake_82 : decode cX4_stake 82 = .ok (.iload 5, 2) := by decide +kernel
theorem dX4_stake_84 : decode cX4_stake 84 = .ok (.iload_n 2, 1) := by decide +kernel
theorem dX4_stake_85 : decode cX4_stake 85 = .ok (.iastore, 1) := by decide +kernel
theorem dX4_stake_86 : decode cX4_stake 86 = .ok (.aload_n 0, 1) := by decide +kernel
theorem dX4_stake_87 : decode cX4_stake 87 = .ok (.getfield 38, 3) := by decide +kernel
theorem dX4_stake_90 : decode cX4_stake 90 = .ok (.iload 5, 2) := by decide +kernel
theorem dX4_stake_92 : decode cX4_stake 92 = .ok (.iload_n 3, 1) := by decide +kernel
theorem dX4_stake_93 : decode cX4_stake 93 = .ok (.aload_n 0, 1) := by decide +kernel
theorem dX4_stake_94 : decode cX4_stake 94 = .ok (.getfield 7, 3) := by decide +kernel
theorem dX4_stake_97 : decode cX4_stake 97 = .ok (.isub, 1) := by decide +kernel
theorem dX4_stake_98 : decode cX4_stake 98 = .ok (.ifCond .ge 7, 3) := by decide +kernel
theorem dX4_stake_101 : decode cX4_stake 101 = .ok (.iconst 0, 1) := by decide +kernel
theorem dX4_stake_102 : decode cX4_stake 102 = .ok (.goto 9, 3) := by decide +kernel
theorem dX4_stake_105 : decode cX4_stake 105 = .ok (.iload_n 3, 1) := by decide +kernel
theorem dX4_stake_106 : decode cX4_stake 106 = .ok (.aload_n 0, 1) := by decide +kernel
theorem dX4_stake_107 : decode cX4_stake 107 = .ok (.getfield 7, 3) := by decide +kernel
theorem dX4_stake_110 : decode cX4_stake 110 = .ok (.isub, 1) := by decide +kernel
theorem dX4_stake_111 : decode cX4_stake 111 = .ok (.iastore, 1) := by decide +kernel
theorem dX4_stake_112 : decode cX4_stake 112 = .ok (.aload_n 0, 1) := by decide +kernel
theorem dX4_stake_113 : decode cX4_stake 113 = .ok (.getfield 41, 3) := by decide +kernel
theorem dX4_stake_116 : decode cX4_stake 116 = .ok (.iload 5, 2) := by decide +kernel
theorem dX4_stake_118 : decode cX4_stake 118 = .ok (.iload_n 3, 1) := by decide +kernel
theorem dX4_stake_119 : decode cX4_stake 119 = .ok (.aload_n 0, 1) := by decide +kernel
theorem dX4_stake_120 : decode cX4_stake 120 = .ok (.getfield 7, 3) := by decide +kernel
theorem dX4_stake_123 : decode cX4_stake 123 = .ok (.iadd, 1) := by decide +kernel
theorem dX4_stake_124 : decode cX4_stake 124 = .ok (.bipush 59, 2) := by decide +kernel
theorem dX4_stake_126 : decode cX4_stake 126 = .ok (.if_icmp .le 8, 3) := by decide +kernel
theorem dX4_stake_129 : decode cX4_stake 129 = .ok (.bipush 59, 2) := by decide +kernel
theorem dX4_stake_131 : decode cX4_stake 131 = .ok (.goto 9, 3) := by decide +kernel
theorem dX4_stake_134 : decode cX4_stake 134 = .ok (.iload_n 3, 1) := by decide +kernel
theorem dX4_stake_135 : decode cX4_stake 135 = .ok (.aload_n 0, 1) := by decide +kernel
theorem dX4_stake_136 : decode cX4_stake 136 = .ok (.getfield 7, 3) := by decide +kernel
theorem dX4_stake_139 : decode cX4_stake 139 = .ok (.iadd, 1) := by decide +kernel
theorem dX4_stake_140 : decode cX4_stake 140 = .ok (.iastore, 1) := by decide +kernel
theorem dX4_stake_141 : decode cX4_stake 141 = .ok (.aload_n 0, 1) := by decide +kernel
theorem dX4_stake_142 : decode cX4_stake 142 = .ok (.dup, 1) := by decide +kernel
theorem dX4_stake_143 : decode cX4_stake 143 = .ok (.getfield 113, 3) := by decide +kernel
theorem dX4_stake_146 : decode cX4_stake 146 = .ok (.iconst 1, 1) := by decide +kernel
theorem dX4_stake_147 : decode cX4_stake 147 = .ok (.iadd, 1) := by decide +kernel
theorem dX4_stake_148 : decode cX4_stake 148 = .ok (.putfield 113, 3) := by decide +kernel
theorem dX4_stake_151 : decode cX4_stake 151 = .ok (.iload 5, 2) := by decide +kernel
theorem dX4_stake_153 : decode cX4_stake 153 = .ok (.ireturn, 1) := by decide +kernel
theorem dX4_wrong_0 : decode cX4_wrong 0 = .ok (.iload_n 1, 1) := by decide +kernel
theorem dX4_wrong_1 : decode cX4_wrong 1 = .ok (.iconst 0, 1) := by decide +kernel
theorem dX4_wrong_2 : decode cX4_wrong 2 = .ok (.aload_n 0, 1) := by decide +kernel
theorem dX4_wrong_3 : decode cX4_wrong 3 = .ok (.getfield 100, 3) := by decide +kernel
theorem dX4_wrong_6 : decode cX4_wrong 6 = .ok (.invokestatic 93, 3) := by decide +kernel
theorem dX4_wrong_9 : decode cX4_wrong 9 = .ok (.ifCond .eq 15, 3) := by decide +kernel
theorem dX4_wrong_12 : decode cX4_wrong 12 = .ok (.aload_n 0, 1) := by decide +kernel
theorem dX4_wrong_13 : decode cX4_wrong 13 = .ok (.iload_n 2, 1) := by decide +kernel
theorem dX4_wrong_14 : decode cX4_wrong 14 = .ok (.invokevirtual 120, 3) := by decide +kernel
theorem dX4_wrong_17 : decode cX4_wrong 17 = .ok (.ifCond .eq 7, 3) := by decide +kernel
theorem dX4_wrong_20 : decode cX4_wrong 20 = .ok (.iload_n 3, 1) := by decide +kernel
theorem dX4_wrong_21 : decode cX4_wrong 21 = .ok (.ifCond .ne 5, 3) := by decide +kernel
theorem dX4_wrong_24 : decode cX4_wrong 24 = .ok (.iconst (-1), 1) := by decide +kernel
theorem dX4_wrong_25 : decode cX4_wrong 25 = .ok (.ireturn, 1) := by decide +kernel
theorem dX4_wrong_26 : decode cX4_wrong 26 = .ok (.aload_n 0, 1) := by decide +kernel
theorem dX4_wrong_27 : decode cX4_wrong 27 = .ok (.getfield 16, 3) := by decide +kernel
theorem dX4_wrong_30 : decode cX4_wrong 30 = .ok (.iload_n 2, 1) := by decide +kernel
theorem dX4_wrong_31 : decode cX4_wrong 31 = .ok (.iaload, 1) := by decide +kernel
theorem dX4_wrong_32 : decode cX4_wrong 32 = .ok (.ifCond .eq 6, 3) := by decide +kernel
theorem dX4_wrong_35 : decode cX4_wrong 35 = .ok (.bipush (-3), 2) := by decide +kernel
theorem dX4_wrong_37 : decode cX4_wrong 37 = .ok (.ireturn, 1) := by decide +kernel
theorem dX4_wrong_38 : decode cX4_wrong 38 = .ok (.aload_n 0, 1) := by decide +kernel
theorem dX4_wrong_39 : decode cX4_wrong 39 = .ok (.getfield 97, 3) := by decide +kernel
theorem dX4_wrong_42 : decode cX4_wrong 42 = .ok (.bipush 90, 2) := by decide +kernel
theorem dX4_wrong_44 : decode cX4_wrong 44 = .ok (.if_icmp .ne 8, 3) := by decide +kernel
theorem dX4_wrong_47 : decode cX4_wrong 47 = .ok (.bipush (-2), 2) := by decide +kernel
theorem dX4_wrong_49 : decode cX4_wrong 49 = .ok (.goto 4, 3) := by decide +kernel
theorem dX4_wrong_52 : decode cX4_wrong 52 = .ok (.iconst 0, 1) := by decide +kernel
theorem dX4_wrong_53 : decode cX4_wrong 53 = .ok (.ireturn, 1) := by decide +kernel
theorem dX4_work_0 : decode cX4_work 0 = .ok (.aload_n 0, 1) := by decide +kernel
theorem dX4_work_1 : decode cX4_work 1 = .ok (.iload_n 1, 1) := by decide +kernel
theorem dX4_work_2 : decode cX4_work 2 = .ok (.iload_n 2, 1) := by decide +kernel
theorem dX4_work_3 : decode cX4_work 3 = .ok (.iconst 1, 1) := by decide +kernel
theorem dX4_work_4 : decode cX4_work 4 = .ok (.invokevirtual 123, 3) := by decide +kernel
theorem dX4_work_7 : decode cX4_work 7 = .ok (.istore_n 3, 1) := by decide +kernel
theorem dX4_work_8 : decode cX4_work 8 = .ok (.iload_n 3, 1) := by decide +kernel
theorem dX4_work_9 : decode cX4_work 9 = .ok (.ifCond .ge 7, 3) := by decide +kernel
theorem dX4_work_12 : decode cX4_work 12 = .ok (.iload_n 3, 1) := by decide +kernel
theorem dX4_work_13 : decode cX4_work 13 = .ok (.goto 12, 3) := by decide +kernel
theorem dX4_work_16 : decode cX4_work 16 = .ok (.aload_n 0, 1) := by decide +kernel
theorem dX4_work_17 : decode cX4_work 17 = .ok (.iconst 1, 1) := by decide +kernel
theorem dX4_work_18 : decode cX4_work 18 = .ok (.iload_n 1, 1) := by decide +kernel
theorem dX4_work_19 : decode cX4_work 19 = .ok (.iload_n 2, 1) := by decide +kernel
theorem dX4_work_20 : decode cX4_work 20 = .ok (.bipush (-4), 2) := by decide +kernel
theorem dX4_work_22 : decode cX4_work 22 = .ok (.invokevirtual 116, 3) := by decide +kernel
theorem dX4_work_25 : decode cX4_work 25 = .ok (.ireturn, 1) := by decide +kernel
theorem dX4_nick_0 : decode cX4_nick 0 = .ok (.aload_n 0, 1) := by decide +kernel
theorem dX4_nick_1 : decode cX4_nick 1 = .ok (.iload_n 1, 1) := by decide +kernel
theorem dX4_nick_2 : decode cX4_nick 2 = .ok (.iload_n 2, 1) := by decide +kernel
theorem dX4_nick_3 : decode cX4_nick 3 = .ok (.iload_n 3, 1) := by decide +kernel
theorem dX4_nick_4 : decode cX4_nick 4 = .ok (.invokestatic 110, 3) := by decide +kernel
theorem dX4_nick_7 : decode cX4_nick 7 = .ok (.invokevirtual 123, 3) := by decide +kernel
theorem dX4_nick_10 : decode cX4_nick 10 = .ok (.istore 4, 2) := by decide +kernel
theorem dX4_nick_12 : decode cX4_nick 12 = .ok (.iload 4, 2) := by decide +kernel
theorem dX4_nick_14 : decode cX4_nick 14 = .ok (.ifCond .ge 8, 3) := by decide +kernel
theorem dX4_nick_17 : decode cX4_nick 17 = .ok (.iload 4, 2) := by decide +kernel
theorem dX4_nick_19 : decode cX4_nick 19 = .ok (.goto 11, 3) := by decide +kernel
theorem dX4_nick_22 : decode cX4_nick 22 = .ok (.aload_n 0, 1) := by decide +kernel
theorem dX4_nick_23 : decode cX4_nick 23 = .ok (.iconst 2, 1) := by decide +kernel
theorem dX4_nick_24 : decode cX4_nick 24 = .ok (.iload_n 1, 1) := by decide +kernel
theorem dX4_nick_25 : decode cX4_nick 25 = .ok (.iload_n 2, 1) := by decide +kernel
theorem dX4_nick_26 : decode cX4_nick 26 = .ok (.iload_n 3, 1) := by decide +kernel
theorem dX4_nick_27 : decode cX4_nick 27 = .ok (.invokevirtual 116, 3) := by decide +kernel
theorem dX4_nick_30 : decode cX4_nick 30 = .ok (.ireturn, 1) := by decide +kernel
theorem dX4_give_0 : decode cX4_give 0 = .ok (.aload_n 0, 1) := by decide +kernel
theorem dX4_give_1 : decode cX4_give 1 = .ok (.iload_n 1, 1) := by decide +kernel
theorem dX4_give_2 : decode cX4_give 2 = .ok (.iload_n 2, 1) := by decide +kernel
theorem dX4_give_3 : decode cX4_give 3 = .ok (.iconst 1, 1) := by decide +kernel
theorem dX4_give_4 : decode cX4_give 4 = .ok (.invokevirtual 123, 3) := by decide +kernel
theorem dX4_give_7 : decode cX4_give 7 = .ok (.istore_n 3, 1) := by decide +kernel
theorem dX4_give_8 : decode cX4_give 8 = .ok (.iload_n 3, 1) := by decide +kernel
theorem dX4_give_9 : decode cX4_give 9 = .ok (.ifCond .ge 7, 3) := by decide +kernel
theorem dX4_give_12 : decode cX4_give 12 = .ok (.iload_n 3, 1) := by decide +kernel
theorem dX4_give_13 : decode cX4_give 13 = .ok (.goto 12, 3) := by decide +kernel
theorem dX4_give_16 : decode cX4_give 16 = .ok (.aload_n 0, 1) := by decide +kernel
theorem dX4_give_17 : decode cX4_give 17 = .ok (.iconst 3, 1) := by decide +kernel
theorem dX4_give_18 : decode cX4_give 18 = .ok (.iload_n 1, 1) := by decide +kernel
theorem dX4_give_19 : decode cX4_give 19 = .ok (.iload_n 2, 1) := by decide +kernel
theorem dX4_give_20 : decode cX4_give 20 = .ok (.bipush (-4), 2) := by decide +kernel
theorem dX4_give_22 : decode cX4_give 22 = .ok (.invokevirtual 116, 3) := by decide +kernel
theorem dX4_give_25 : decode cX4_give 25 = .ok (.ireturn, 1) := by decide +kernel
theorem dX4_view_0 : decode cX4_view 0 = .ok (.aload_n 0, 1) := by decide +kernel
theorem dX4_view_1 : decode cX4_view 1 = .ok (.iload_n 1, 1) := by decide +kernel
theorem dX4_view_2 : decode cX4_view 2 = .ok (.iload_n 2, 1) := by decide +kernel
theorem dX4_view_3 : decode cX4_view 3 = .ok (.iload_n 3, 1) := by decide +kernel
theorem dX4_view_4 : decode cX4_view 4 = .ok (.invokestatic 107, 3) := by decide +kernel
theorem dX4_view_7 : decode cX4_view 7 = .ok (.ifCond .eq 21, 3) := by decide +kernel
theorem dX4_view_10 : decode cX4_view 10 = .ok (.iload 4, 2) := by decide +kernel
theorem dX4_view_12 : decode cX4_view 12 = .ok (.invokestatic 107, 3) := by decide +kernel
theorem dX4_view_15 : decode cX4_view 15 = .ok (.ifCond .eq 13, 3) := by decide +kernel
theorem dX4_view_18 : decode cX4_view 18 = .ok (.iload_n 3, 1) := by decide +kernel
theorem dX4_view_19 : decode cX4_view 19 = .ok (.iload 4, 2) := by decide +kernel
theorem dX4_view_21 : decode cX4_view 21 = .ok (.if_icmp .gt 7, 3) := by decide +kernel
theorem dX4_view_24 : decode cX4_view 24 = .ok (.iconst 1, 1) := by decide +kernel
theorem dX4_view_25 : decode cX4_view 25 = .ok (.goto 4, 3) := by decide +kernel
theorem dX4_view_28 : decode cX4_view 28 = .ok (.iconst 0, 1) := by decide +kernel
theorem dX4_view_29 : decode cX4_view 29 = .ok (.invokevirtual 123, 3) := by decide +kernel
theorem dX4_view_32 : decode cX4_view 32 = .ok (.istore 5, 2) := by decide +kernel
theorem dX4_view_34 : decode cX4_view 34 = .ok (.iload 5, 2) := by decide +kernel
theorem dX4_view_36 : decode cX4_view 36 = .ok (.ifCond .ge 6, 3) := by decide +kernel
theorem dX4_view_39 : decode cX4_view 39 = .ok (.iload 5, 2) := by decide +kernel
theorem dX4_view_41 : decode cX4_view 41 = .ok (.ireturn, 1) := by decide +kernel
theorem dX4_view_42 : decode cX4_view 42 = .ok (.aload_n 0, 1) := by decide +kernel
theorem dX4_view_43 : decode cX4_view 43 = .ok (.iconst 4, 1) := by decide +kernel
theorem dX4_view_44 : decode cX4_view 44 = .ok (.iload_n 1, 1) := by decide +kernel
theorem dX4_view_45 : decode cX4_view 45 = .ok (.iload_n 2, 1) := by decide +kernel
theorem dX4_view_46 : decode cX4_view 46 = .ok (.bipush (-4), 2) := by decide +kernel
theorem dX4_view_48 : decode cX4_view 48 = .ok (.invokevirtual 116, 3) := by decide +kernel
theorem dX4_view_51 : decode cX4_view 51 = .ok (.istore 6, 2) := by decide +kernel
