theorem dX3_init_0 : decode cX3_init 0 = .ok (.aload_n 0, 1) := by decide +kernel
theorem dX3_init_1 : decode cX3_init 1 = .ok (.invokespecial 3, 3) := by decide +kernel
theorem dX3_init_4 : decode cX3_init 4 = .ok (.aload_n 0, 1) := by decide +kernel
theorem dX3_init_5 : decode cX3_init 5 = .ok (.new 9, 3) := by decide +kernel
theorem dX3_init_8 : decode cX3_init 8 = .ok (.dup, 1) := by decide +kernel
theorem dX3_init_9 : decode cX3_init 9 = .ok (.invokespecial 11, 3) := by decide +kernel
theorem dX3_init_12 : decode cX3_init 12 = .ok (.putfield 12, 3) := by decide +kernel
theorem dX3_init_15 : decode cX3_init 15 = .ok (.aload_n 0, 1) := by decide +kernel
theorem dX3_init_16 : decode cX3_init 16 = .ok (.new 9, 3) := by decide +kernel
theorem dX3_init_19 : decode cX3_init 19 = .ok (.dup, 1) := by decide +kernel
theorem dX3_init_20 : decode cX3_init 20 = .ok (.invokespecial 11, 3) := by decide +kernel
theorem dX3_init_23 : decode cX3_init 23 = .ok (.putfield 16, 3) := by decide +kernel
theorem dX3_init_26 : decode cX3_init 26 = .ok (.aload_n 0, 1) := by decide +kernel
theorem dX3_init_27 : decode cX3_init 27 = .ok (.iconst 0, 1) := by decide +kernel
theorem dX3_init_28 : decode cX3_init 28 = .ok (.putfield 19, 3) := by decide +kernel
theorem dX3_init_31 : decode cX3_init 31 = .ok (.aload_n 0, 1) := by decide +kernel
theorem dX3_init_32 : decode cX3_init 32 = .ok (.iconst 5, 1) := by decide +kernel
theorem dX3_init_33 : decode cX3_init 33 = .ok (.putfield 23, 3) := by decide +kernel
theorem dX3_init_36 : decode cX3_init 36 = .ok (.aload_n 0, 1) := by decide +kernel
theorem dX3_init_37 : decode cX3_init 37 = .ok (.bipush 10, 2) := by decide +kernel
theorem dX3_init_39 : decode cX3_init 39 = .ok (.putfield 27, 3) := by decide +kernel
theorem dX3_init_42 : decode cX3_init 42 = .ok (.aload_n 0, 1) := by decide +kernel
theorem dX3_init_43 : decode cX3_init 43 = .ok (.new 30, 3) := by decide +kernel
theorem dX3_init_46 : decode cX3_init 46 = .ok (.dup, 1) := by decide +kernel
theorem dX3_init_47 : decode cX3_init 47 = .ok (.invokespecial 32, 3) := by decide +kernel
theorem dX3_init_50 : decode cX3_init 50 = .ok (.putfield 33, 3) := by decide +kernel
theorem dX3_init_53 : decode cX3_init 53 = .ok (.aload_n 0, 1) := by decide +kernel
theorem dX3_init_54 : decode cX3_init 54 = .ok (.sipush 240, 3) := by decide +kernel
theorem dX3_init_57 : decode cX3_init 57 = .ok (.newarray .int, 2) := by decide +kernel
theorem dX3_init_59 : decode cX3_init 59 = .ok (.putfield 37, 3) := by decide +kernel
theorem dX3_init_62 : decode cX3_init 62 = .ok (.return_, 1) := by decide +kernel
theorem dX3_day_0 : decode cX3_day 0 = .ok (.iload_n 1, 1) := by decide +kernel
theorem dX3_day_1 : decode cX3_day 1 = .ok (.iconst 0, 1) := by decide +kernel
theorem dX3_day_2 : decode cX3_day 2 = .ok (.bipush 100, 2) := by decide +kernel
theorem dX3_day_4 : decode cX3_day 4 = .ok (.invokestatic 41, 3) := by decide +kernel
theorem dX3_day_7 : decode cX3_day 7 = .ok (.ifCond .eq 18, 3) := by decide +kernel
theorem dX3_day_10 : decode cX3_day 10 = .ok (.aload_n 0, 1) := by decide +kernel
theorem dX3_day_11 : decode cX3_day 11 = .ok (.getfield 12, 3) := by decide +kernel
theorem dX3_day_14 : decode cX3_day 14 = .ok (.getfield 45, 3) := by decide +kernel
theorem dX3_day_17 : decode cX3_day 17 = .ok (.iload_n 1, 1) := by decide +kernel
theorem dX3_day_18 : decode cX3_day 18 = .ok (.iadd, 1) := by decide +kernel
theorem dX3_day_19 : decode cX3_day 19 = .ok (.sipush 999, 3) := by decide +kernel
theorem dX3_day_22 : decode cX3_day 22 = .ok (.if_icmp .le 5, 3) := by decide +kernel
theorem dX3_day_25 : decode cX3_day 25 = .ok (.iconst (-1), 1) := by decide +kernel
theorem dX3_day_26 : decode cX3_day 26 = .ok (.ireturn, 1) := by decide +kernel
theorem dX3_day_27 : decode cX3_day 27 = .ok (.aload_n 0, 1) := by decide +kernel
theorem dX3_day_28 : decode cX3_day 28 = .ok (.getfield 12, 3) := by decide +kernel
theorem dX3_day_31 : decode cX3_day 31 = .ok (.dup, 1) := by decide +kernel
theorem dX3_day_32 : decode cX3_day 32 = .ok (.getfield 45, 3) := by decide +kernel
theorem dX3_day_35 : decode cX3_day 35 = .ok (.iload_n 1, 1) := by decide +kernel
theorem dX3_day_36 : decode cX3_day 36 = .ok (.iadd, 1) := by decide +kernel
theorem dX3_day_37 : decode cX3_day 37 = .ok (.putfield 45, 3) := by decide +kernel
theorem dX3_day_40 : decode cX3_day 40 = .ok (.aload_n 0, 1) := by decide +kernel
theorem dX3_day_41 : decode cX3_day 41 = .ok (.getfield 12, 3) := by decide +kernel
theorem dX3_day_44 : decode cX3_day 44 = .ok (.getfield 45, 3) := by decide +kernel
theorem dX3_day_47 : decode cX3_day 47 = .ok (.ireturn, 1) := by decide +kernel
theorem dX3_rule_0 : decode cX3_rule 0 = .ok (.iload_n 1, 1) := by decide +kernel
theorem dX3_rule_1 : decode cX3_rule 1 = .ok (.ifCond .ne 25, 3) := by decide +kernel
theorem dX3_rule_4 : decode cX3_rule 4 = .ok (.iload_n 2, 1) := by decide +kernel
theorem dX3_rule_5 : decode cX3_rule 5 = .ok (.iconst 1, 1) := by decide +kernel
theorem dX3_rule_6 : decode cX3_rule 6 = .ok (.bipush 10, 2) := by decide +kernel
theorem dX3_rule_8 : decode cX3_rule 8 = .ok (.invokestatic 41, 3) := by decide +kernel
theorem dX3_rule_11 : decode cX3_rule 11 = .ok (.ifCond .eq 15, 3) := by decide +kernel
theorem dX3_rule_14 : decode cX3_rule 14 = .ok (.aload_n 0, 1) := by decide +kernel
theorem dX3_rule_15 : decode cX3_rule 15 = .ok (.getfield 23, 3) := by decide +kernel
theorem dX3_rule_18 : decode cX3_rule 18 = .ok (.istore_n 3, 1) := by decide +kernel
theorem dX3_rule_19 : decode cX3_rule 19 = .ok (.aload_n 0, 1) := by decide +kernel
theorem dX3_rule_20 : decode cX3_rule 20 = .ok (.iload_n 2, 1) := by decide +kernel
theorem dX3_rule_21 : decode cX3_rule 21 = .ok (.putfield 23, 3) := by decide +kernel
theorem dX3_rule_24 : decode cX3_rule 24 = .ok (.iload_n 3, 1) := by decide +kernel
theorem dX3_rule_25 : decode cX3_rule 25 = .ok (.ireturn, 1) := by decide +kernel
theorem dX3_rule_26 : decode cX3_rule 26 = .ok (.iload_n 1, 1) := by decide +kernel
theorem dX3_rule_27 : decode cX3_rule 27 = .ok (.iconst 1, 1) := by decide +kernel
theorem dX3_rule_28 : decode cX3_rule 28 = .ok (.if_icmp .ne 25, 3) := by decide +kernel
theorem dX3_rule_31 : decode cX3_rule 31 = .ok (.iload_n 2, 1) := by decide +kernel
theorem dX3_rule_32 : decode cX3_rule 32 = .ok (.iconst 1, 1) := by decide +kernel
theorem dX3_rule_33 : decode cX3_rule 33 = .ok (.bipush 30, 2) := by decide +kernel
theorem dX3_rule_35 : decode cX3_rule 35 = .ok (.invokestatic 41, 3) := by decide +kernel
theorem dX3_rule_38 : decode cX3_rule 38 = .ok (.ifCond .eq 15, 3) := by decide +kernel
theorem dX3_rule_41 : decode cX3_rule 41 = .ok (.aload_n 0, 1) := by decide +kernel
theorem dX3_rule_42 : decode cX3_rule 42 = .ok (.getfield 27, 3) := by decide +kernel
theorem dX3_rule_45 : decode cX3_rule 45 = .ok (.istore_n 3, 1) := by decide +kernel
theorem dX3_rule_46 : decode cX3_rule 46 = .ok (.aload_n 0, 1) := by decide +kernel
theorem dX3_rule_47 : decode cX3_rule 47 = .ok (.iload_n 2, 1) := by decide +kernel
theorem dX3_rule_48 : decode cX3_rule 48 = .ok (.putfield 27, 3) := by decide +kernel
theorem dX3_rule_51 : decode cX3_rule 51 = .ok (.iload_n 3, 1) := by decide +kernel
theorem dX3_rule_52 : decode cX3_rule 52 = .ok (.ireturn, 1) := by decide +kernel
theorem dX3_rule_53 : decode cX3_rule 53 = .ok (.iconst (-1), 1) := by decide +kernel
theorem dX3_rule_54 : decode cX3_rule 54 = .ok (.ireturn, 1) := by decide +kernel
theorem dX3_stake_0 : decode cX3_stake 0 = .ok (.aload_n 0, 1) := by decide +kernel
theorem dX3_stake_1 : decode cX3_stake 1 = .ok (.iload_n 1, 1) := by decide +kernel
theorem dX3_stake_2 : decode cX3_stake 2 = .ok (.invokevirtual 48, 3) := by decide +kernel
theorem dX3_stake_5 : decode cX3_stake 5 = .ok (.ifCond .eq 25, 3) := by decide +kernel
theorem dX3_stake_8 : decode cX3_stake 8 = .ok (.iload_n 2, 1) := by decide +kernel
theorem dX3_stake_9 : decode cX3_stake 9 = .ok (.invokestatic 52, 3) := by decide +kernel
theorem dX3_stake_12 : decode cX3_stake 12 = .ok (.ifCond .eq 18, 3) := by decide +kernel
theorem dX3_stake_15 : decode cX3_stake 15 = .ok (.iload_n 3, 1) := by decide +kernel
theorem dX3_stake_16 : decode cX3_stake 16 = .ok (.invokestatic 55, 3) := by decide +kernel
theorem dX3_stake_19 : decode cX3_stake 19 = .ok (.ifCond .eq 11, 3) := by decide +kernel
theorem dX3_stake_22 : decode cX3_stake 22 = .ok (.iload 4, 2) := by decide +kernel
theorem dX3_stake_24 : decode cX3_stake 24 = .ok (.invokestatic 58, 3) := by decide +kernel
theorem dX3_stake_27 : decode cX3_stake 27 = .ok (.ifCond .ne 5, 3) := by decide +kernel
theorem dX3_stake_30 : decode cX3_stake 30 = .ok (.iconst (-1), 1) := by decide +kernel
theorem dX3_stake_31 : decode cX3_stake 31 = .ok (.ireturn, 1) := by decide +kernel
theorem dX3_stake_32 : decode cX3_stake 32 = .ok (.aload_n 0, 1) := by decide +kernel
theorem dX3_stake_33 : decode cX3_stake 33 = .ok (.getfield 12, 3) := by decide +kernel
theorem dX3_stake_36 : decode cX3_stake 36 = .ok (.invokevirtual 61, 3) := by decide +kernel
theorem dX3_stake_39 : decode cX3_stake 39 = .ok (.ifCond .ne 15, 3) := by decide +kernel
theorem dX3_stake_42 : decode cX3_stake 42 = .ok (.aload_n 0, 1) := by decide +kernel
theorem dX3_stake_43 : decode cX3_stake 43 = .ok (.getfield 12, 3) := by decide +kernel
theorem dX3_stake_46 : decode cX3_stake 46 = .ok (.getfield 65, 3) := by decide +kernel
theorem dX3_stake_49 : decode cX3_stake 49 = .ok (.bipush 20, 2) := by decide +kernel
theorem dX3_stake_51 : decode cX3_stake 51 = .ok (.if_icmp .lt 6, 3) := by decide +kernel
theorem dX3_stake_54 : decode cX3_stake 54 = .ok (.bipush (-2), 2) := by decide +kernel
theorem dX3_stake_56 : decode cX3_stake 56 = .ok (.ireturn, 1) := by decide +kernel
theorem dX3_stake_57 : decode cX3_stake 57 = .ok (.aload_n 0, 1) := by decide +kernel
theorem dX3_stake_58 : decode cX3_stake 58 = .ok (.getfield 12, 3) := by decide +kernel
theorem dX3_stake_61 : decode cX3_stake 61 = .ok (.iconst 0, 1) := by decide +kernel
theorem dX3_stake_62 : decode cX3_stake 62 = .ok (.iload_n 1, 1) := by decide +kernel
theorem dX3_stake_63 : decode cX3_stake 63 = .ok (.iload_n 2, 1) := by decide +kernel
theorem dX3_stake_64 : decode cX3_stake 64 = .ok (.invokevirtual 68, 3) := by decide +kernel
theorem dX3_stake_67 : decode cX3_stake 67 = .ok (.istore 5, 2) := by decide +kernel
theorem dX3_stake_69 : decode cX3_stake 69 = .ok (.aload_n 0, 1) := by decide +kernel
theorem dX3_stake_70 : decode cX3_stake 70 = .ok (.getfield 12, 3) := by decide +kernel
theorem dX3_stake_73 : decode cX3_stake 73 = .ok (.iload 5, 2) := by decide +kernel
theorem dX3_stake_75 : decode cX3_stake 75 = .ok (.bipush 9, 2) := by decide +kernel
theorem dX3_stake_77 : decode cX3_stake 77 = .ok (.iload 5, 2) := by decide +kernel
theorem dX3_stake_79 : decode cX3_stake 79 = .ok (.invokevirtual 72, 3) := by decide +kernel
theorem dX3_stake_82 : decode cX3_stake 82 = .ok (.aload_n 0, 1) := by decide +kernel
theorem dX3_stake_83 : decode cX3_stake 83 = .ok (.getfield 12, 3) := by decide +kernel
theorem dX3_stake_86 : decode cX3_stake 86 = .ok (.iload 5, 2) := by decide +kernel
theorem dX3_stake_88 : decode cX3_stake 88 = .ok (.iconst 5, 1) := by decide +kernel
theorem dX3_stake_89 : decode cX3_stake 89 = .ok (.iload 4, 2) := by decide +kernel
theorem dX3_stake_91 : decode cX3_stake 91 = .ok (.invokevirtual 72, 3) := by decide +kernel
theorem dX3_stake_94 : decode cX3_stake 94 = .ok (.aload_n 0, 1) := by decide +kernel
theorem dX3_stake_95 : decode cX3_stake 95 = .ok (.getfield 12, 3) := by decide +kernel
theorem dX3_stake_98 : decode cX3_stake 98 = .ok (.iload 5, 2) := by decide +kernel
theorem dX3_stake_100 : decode cX3_stake 100 = .ok (.iload_n 3, 1) := by decide +kernel
theorem dX3_stake_101 : decode cX3_stake 101 = .ok (.aload_n 0, 1) := by decide +kernel
theorem dX3_stake_102 : decode cX3_stake 102 = .ok (.getfield 23, 3) := by decide +kernel
theorem dX3_stake_105 : decode cX3_stake 105 = .ok (.isub, 1) := by decide +kernel
theorem dX3_stake_106 : decode cX3_stake 106 = .ok (.iconst 0, 1) := by decide +kernel
theorem dX3_stake_107 : decode cX3_stake 107 = .ok (.invokestatic 76, 3) := by decide +kernel
theorem dX3_stake_110 : decode cX3_stake 110 = .ok (.iload_n 3, 1) := by decide +kernel
theorem dX3_stake_111 : decode cX3_stake 111 = .ok (.aload_n 0, 1) := by decide +kernel
theorem dX3_stake_112 : decode cX3_stake 112 = .ok (.getfield 23, 3) := by decide +kernel
theorem dX3_stake_115 : decode cX3_stake 115 = .ok (.iadd, 1) := by decide +kernel
theorem dX3_stake_116 : decode cX3_stake 116 = .ok (.bipush 59, 2) := by decide +kernel
theorem dX3_stake_118 : decode cX3_stake 118 = .ok (.invokestatic 82, 3) := by decide +kernel
theorem dX3_stake_121 : decode cX3_stake 121 = .ok (.invokevirtual 85, 3) := by decide +kernel
theorem dX3_stake_124 : decode cX3_stake 124 = .ok (.aload_n 0, 1) := by decide +kernel
theorem dX3_stake_125 : decode cX3_stake 125 = .ok (.getfield 12, 3) := by decide +kernel
theorem dX3_stake_128 : decode cX3_stake 128 = .ok (.dup, 1) := by decide +kernel
theorem dX3_stake_129 : decode cX3_stake 129 = .ok (.getfield 65, 3) := by decide +kernel
theorem dX3_stake_132 : decode cX3_stake 132 = .ok (.iconst 1, 1) := by decide +kernel
theorem dX3_stake_133 : decode cX3_stake 133 = .ok (.iadd, 1) := by decide +kernel
theorem dX3_stake_134 : decode cX3_stake 134 = .ok (.putfield 65, 3) := by decide +kernel
theorem dX3_stake_137 : decode cX3_stake 137 = .ok (.iload 5, 2) := by decide +kernel
theorem dX3_stake_139 : decode cX3_stake 139 = .ok (.ireturn, 1) := by decide +kernel
theorem dX3_work_0 : decode cX3_work 0 = .ok (.aload_n 0, 1) := by decide +kernel
theorem dX3_work_1 : decode cX3_work 1 = .ok (.iconst 1, 1) := by decide +kernel
theorem dX3_work_2 : decode cX3_work 2 = .ok (.iload_n 1, 1) := by decide +kernel
theorem dX3_work_3 : decode cX3_work 3 = .ok (.iload_n 2, 1) := by decide +kernel
theorem dX3_work_4 : decode cX3_work 4 = .ok (.invokevirtual 88, 3) := by decide +kernel
theorem dX3_work_7 : decode cX3_work 7 = .ok (.istore_n 3, 1) := by decide +kernel
theorem dX3_work_8 : decode cX3_work 8 = .ok (.iload_n 3, 1) := by decide +kernel
theorem dX3_work_9 : decode cX3_work 9 = .ok (.ifCond .ge 7, 3) := by decide +kernel
theorem dX3_work_12 : decode cX3_work 12 = .ok (.iload_n 3, 1) := by decide +kernel
theorem dX3_work_13 : decode cX3_work 13 = .ok (.goto 13, 3) := by decide +kernel
theorem dX3_work_16 : decode cX3_work 16 = .ok (.aload_n 0, 1) := by decide +kernel
theorem dX3_work_17 : decode cX3_work 17 = .ok (.getfield 12, 3) := by decide +kernel
theorem dX3_work_20 : decode cX3_work 20 = .ok (.iconst 1, 1) := by decide +kernel
theorem dX3_work_21 : decode cX3_work 21 = .ok (.iload_n 1, 1) := by decide +kernel
theorem dX3_work_22 : decode cX3_work 22 = .ok (.iload_n 2, 1) := by decide +kernel
theorem dX3_work_23 : decode cX3_work 23 = .ok (.invokevirtual 92, 3) := by decide +kernel
theorem dX3_work_26 : decode cX3_work 26 = .ok (.ireturn, 1) := by decide +kernel
theorem dX3_nick_0 : decode cX3_nick 0 = .ok (.aload_n 0, 1) := by decide +kernel
theorem dX3_nick_1 : decode cX3_nick 1 = .ok (.iload_n 3, 1) := by decide +kernel
theorem dX3_nick_2 : decode cX3_nick 2 = .ok (.invokestatic 58, 3) := by decide +kernel
theorem dX3_nick_5 : decode cX3_nick 5 = .ok (.iload_n 1, 1) := by decide +kernel
theorem dX3_nick_6 : decode cX3_nick 6 = .ok (.iload_n 2, 1) := by decide +kernel
theorem dX3_nick_7 : decode cX3_nick 7 = .ok (.invokevirtual 88, 3) := by decide +kernel
theorem dX3_nick_10 : decode cX3_nick 10 = .ok (.istore 4, 2) := by decide +kernel
theorem dX3_nick_12 : decode cX3_nick 12 = .ok (.iload 4, 2) := by decide +kernel
theorem dX3_nick_14 : decode cX3_nick 14 = .ok (.ifCond .ge 6, 3) := by decide +kernel
theorem dX3_nick_17 : decode cX3_nick 17 = .ok (.iload 4, 2) := by decide +kernel
theorem dX3_nick_19 : decode cX3_nick 19 = .ok (.ireturn, 1) := by decide +kernel
theorem dX3_nick_20 : decode cX3_nick 20 = .ok (.aload_n 0, 1) := by decide +kernel
theorem dX3_nick_21 : decode cX3_nick 21 = .ok (.getfield 12, 3) := by decide +kernel
theorem dX3_nick_24 : decode cX3_nick 24 = .ok (.iconst 2, 1) := by decide +kernel
theorem dX3_nick_25 : decode cX3_nick 25 = .ok (.iload_n 1, 1) := by decide +kernel
theorem dX3_nick_26 : decode cX3_nick 26 = .ok (.iload_n 2, 1) := by decide +kernel
theorem dX3_nick_27 : decode cX3_nick 27 = .ok (.invokevirtual 92, 3) := by decide +kernel
theorem dX3_nick_30 : decode cX3_nick 30 = .ok (.istore 5, 2) := by decide +kernel
theorem dX3_nick_32 : decode cX3_nick 32 = .ok (.aload_n 0, 1) := by decide +kernel
theorem dX3_nick_33 : decode cX3_nick 33 = .ok (.getfield 12, 3) := by decide +kernel
theorem dX3_nick_36 : decode cX3_nick 36 = .ok (.iload 5, 2) := by decide +kernel
theorem dX3_nick_38 : decode cX3_nick 38 = .ok (.iconst 5, 1) := by decide +kernel
theorem dX3_nick_39 : decode cX3_nick 39 = .ok (.iload_n 3, 1) := by decide +kernel
theorem dX3_nick_40 : decode cX3_nick 40 = .ok (.invokevirtual 72, 3) := by decide +kernel
theorem dX3_nick_43 : decode cX3_nick 43 = .ok (.iload 5, 2) := by decide +kernel
theorem dX3_nick_45 : decode cX3_nick 45 = .ok (.ireturn, 1) := by decide +kernel
theorem dX3_give_0 : decode cX3_give 0 = .ok (.aload_n 0, 1) := by decide +kernel
theorem dX3_give_1 : decode cX3_give 1 = .ok (.iconst 1, 1) := by decide +kernel
theorem dX3_give_2 : decode cX3_give 2 = .ok (.iload_n 1, 1) := by decide +kernel
theorem dX3_give_3 : decode cX3_give 3 = .ok (.iload_n 2, 1) := by decide +kernel
theorem dX3_give_4 : decode cX3_give 4 = .ok (.invokevirtual 88, 3) := by decide +kernel
theorem dX3_give_7 : decode cX3_give 7 = .ok (.istore_n 3, 1) := by decide +kernel
theorem dX3_give_8 : decode cX3_give 8 = .ok (.iload_n 3, 1) := by decide +kernel
theorem dX3_give_9 : decode cX3_give 9 = .ok (.ifCond .ge 7, 3) := by decide +kernel
theorem dX3_give_12 : decode cX3_give 12 = .ok (.iload_n 3, 1) := by decide +kernel
theorem dX3_give_13 : decode cX3_give 13 = .ok (.goto 13, 3) := by decide +kernel
theorem dX3_give_16 : decode cX3_give 16 = .ok (.aload_n 0, 1) := by decide +kernel
theorem dX3_give_17 : decode cX3_give 17 = .ok (.getfield 12, 3) := by decide +kernel
theorem dX3_give_20 : decode cX3_give 20 = .ok (.iconst 3, 1) := by decide +kernel
theorem dX3_give_21 : decode cX3_give 21 = .ok (.iload_n 1, 1) := by decide +kernel
theorem dX3_give_22 : decode cX3_give 22 = .ok (.iload_n 2, 1) := by decide +kernel
theorem dX3_give_23 : decode cX3_give 23 = .ok (.invokevirtual 92, 3) := by decide +kernel
theorem dX3_give_26 : decode cX3_give 26 = .ok (.ireturn, 1) := by decide +kernel
theorem dX3_view_0 : decode cX3_view 0 = .ok (.aload_n 0, 1) := by decide +kernel
theorem dX3_view_1 : decode cX3_view 1 = .ok (.iload_n 3, 1) := by decide +kernel
theorem dX3_view_2 : decode cX3_view 2 = .ok (.invokestatic 55, 3) := by decide +kernel
theorem dX3_view_5 : decode cX3_view 5 = .ok (.ifCond .eq 21, 3) := by decide +kernel
theorem dX3_view_8 : decode cX3_view 8 = .ok (.iload 4, 2) := by decide +kernel
theorem dX3_view_10 : decode cX3_view 10 = .ok (.invokestatic 55, 3) := by decide +kernel
theorem dX3_view_13 : decode cX3_view 13 = .ok (.ifCond .eq 13, 3) := by decide +kernel
theorem dX3_view_16 : decode cX3_view 16 = .ok (.iload_n 3, 1) := by decide +kernel
theorem dX3_view_17 : decode cX3_view 17 = .ok (.iload 4, 2) := by decide +kernel
theorem dX3_view_19 : decode cX3_view 19 = .ok (.if_icmp .gt 7, 3) := by decide +kernel
theorem dX3_view_22 : decode cX3_view 22 = .ok (.iconst 1, 1) := by decide +kernel
theorem dX3_view_23 : decode cX3_view 23 = .ok (.goto 4, 3) := by decide +kernel
theorem dX3_view_26 : decode cX3_view 26 = .ok (.iconst 0, 1) := by decide +kernel
theorem dX3_view_27 : decode cX3_view 27 = .ok (.iload_n 1, 1) := by decide +kernel
theorem dX3_view_28 : decode cX3_view 28 = .ok (.iload_n 2, 1) := by decide +kernel
theorem dX3_view_29 : decode cX3_view 29 = .ok (.invokevirtual 88, 3) := by decide +kernel
theorem dX3_view_32 : decode cX3_view 32 = .ok (.istore 5, 2) := by decide +kernel
theorem dX3_view_34 : decode cX3_view 34 = .ok (.iload 5, 2) := by decide +kernel
theorem dX3_view_36 : decode cX3_view 36 = .ok (.ifCond .ge 6, 3) := by decide +kernel
theorem dX3_view_39 : decode cX3_view 39 = .ok (.iload 5, 2) := by decide +kernel
theorem dX3_view_41 : decode cX3_view 41 = .ok (.ireturn, 1) := by decide +kernel
theorem dX3_view_42 : decode cX3_view 42 = .ok (.aload_n 0, 1) := by decide +kernel
theorem dX3_view_43 : decode cX3_view 43 = .ok (.getfield 12, 3) := by decide +kernel
theorem dX3_view_46 : decode cX3_view 46 = .ok (.iconst 4, 1) := by decide +kernel
theorem dX3_view_47 : decode cX3_view 47 = .ok (.iload_n 1, 1) := by decide +kernel
theorem dX3_view_48 : decode cX3_view 48 = .ok (.iload_n 2, 1) := by decide +kernel
theorem dX3_view_49 : decode cX3_view 49 = .ok (.invokevirtual 92, 3) := by decide +kernel
theorem dX3_view_52 : decode cX3_view 52 = .ok (.istore 6, 2) := by decide +kernel
theorem dX3_view_54 : decode cX3_view 54 = .ok (.aload_n 0, 1) := by decide +kernel
theorem dX3_view_55 : decode cX3_view 55 = .ok (.getfield 12, 3) := by decide +kernel
theorem dX3_view_58 : decode cX3_view 58 = .ok (.iload 6, 2) := by decide +kernel
theorem dX3_view_60 : decode cX3_view 60 = .ok (.iload_n 3, 1) := by decide +kernel
theorem dX3_view_61 : decode cX3_view 61 = .ok (.iload 4, 2) := by decide +kernel
theorem dX3_view_63 : decode cX3_view 63 = .ok (.invokevirtual 85, 3) := by decide +kernel
theorem dX3_view_66 : decode cX3_view 66 = .ok (.iload 6, 2) := by decide +kernel
theorem dX3_view_68 : decode cX3_view 68 = .ok (.ireturn, 1) := by decide +kernel
theorem dX3_sell_0 : decode cX3_sell 0 = .ok (.iload_n 3, 1) := by decide +kernel
theorem dX3_sell_1 : decode cX3_sell 1 = .ok (.invokestatic 58, 3) := by decide +kernel
theorem dX3_sell_4 : decode cX3_sell 4 = .ok (.ifCond .eq 32, 3) := by decide +kernel
theorem dX3_sell_7 : decode cX3_sell 7 = .ok (.iload 4, 2) := by decide +kernel
theorem dX3_sell_9 : decode cX3_sell 9 = .ok (.invokestatic 58, 3) := by decide +kernel
theorem dX3_sell_12 : decode cX3_sell 12 = .ok (.ifCond .eq 24, 3) := by decide +kernel
theorem dX3_sell_15 : decode cX3_sell 15 = .ok (.iload_n 3, 1) := by decide +kernel
theorem dX3_sell_16 : decode cX3_sell 16 = .ok (.iload 4, 2) := by decide +kernel
theorem dX3_sell_18 : decode cX3_sell 18 = .ok (.if_icmp .eq 18, 3) := by decide +kernel
theorem dX3_sell_21 : decode cX3_sell 21 = .ok (.iload 5, 2) := by decide +kernel
theorem dX3_sell_23 : decode cX3_sell 23 = .ok (.iconst 1, 1) := by decide +kernel
theorem dX3_sell_24 : decode cX3_sell 24 = .ok (.bipush 24, 2) := by decide +kernel
theorem dX3_sell_26 : decode cX3_sell 26 = .ok (.invokestatic 41, 3) := by decide +kernel
theorem dX3_sell_29 : decode cX3_sell 29 = .ok (.ifCond .eq 7, 3) := by decide +kernel
theorem dX3_sell_32 : decode cX3_sell 32 = .ok (.iconst 1, 1) := by decide +kernel
theorem dX3_sell_33 : decode cX3_sell 33 = .ok (.goto 4, 3) := by decide +kernel
theorem dX3_sell_36 : decode cX3_sell 36 = .ok (.iconst 0, 1) := by decide +kernel
theorem dX3_sell_37 : decode cX3_sell 37 = .ok (.istore 6, 2) := by decide +kernel
theorem dX3_sell_39 : decode cX3_sell 39 = .ok (.aload_n 0, 1) := by decide +kernel
theorem dX3_sell_40 : decode cX3_sell 40 = .ok (.iload 6, 2) := by decide +kernel
theorem dX3_sell_42 : decode cX3_sell 42 = .ok (.iload_n 1, 1) := by decide +kernel
theorem dX3_sell_43 : decode cX3_sell 43 = .ok (.iload_n 2, 1) := by decide +kernel
theorem dX3_sell_44 : decode cX3_sell 44 = .ok (.invokevirtual 88, 3) := by decide +kernel
theorem dX3_sell_47 : decode cX3_sell 47 = .ok (.istore 7, 2) := by decide +kernel
theorem dX3_sell_49 : decode cX3_sell 49 = .ok (.iload 7, 2) := by decide +kernel
theorem dX3_sell_51 : decode cX3_sell 51 = .ok (.ifCond .ge 6, 3) := by decide +kernel
theorem dX3_sell_54 : decode cX3_sell 54 = .ok (.iload 7, 2) := by decide +kernel
theorem dX3_sell_56 : decode cX3_sell 56 = .ok (.ireturn, 1) := by decide +kernel
theorem dX3_sell_57 : decode cX3_sell 57 = .ok (.aload_n 0, 1) := by decide +kernel
theorem dX3_sell_58 : decode cX3_sell 58 = .ok (.getfield 12, 3) := by decide +kernel
theorem dX3_sell_61 : decode cX3_sell 61 = .ok (.iconst 5, 1) := by decide +kernel
theorem dX3_sell_62 : decode cX3_sell 62 = .ok (.iload_n 1, 1) := by decide +kernel
theorem dX3_sell_63 : decode cX3_sell 63 = .ok (.iload_n 2, 1) := by decide +kernel
theorem dX3_sell_64 : decode cX3_sell 64 = .ok (.invokevirtual 92, 3) := by decide +kernel
theorem dX3_sell_67 : decode cX3_sell 67 = .ok (.istore 8, 2) := by decide +kernel
theorem dX3_sell_69 : decode cX3_sell 69 = .ok (.aload_n 0, 1) := by decide +kernel
theorem dX3_sell_70 : decode cX3_sell 70 = .ok (.getfield 12, 3) := by decide +kernel
theorem dX3_sell_73 : decode cX3_sell 73 = .ok (.iload 8, 2) := by decide +kernel
theorem dX3_sell_75 : decode cX3_sell 75 = .ok (.iconst 5, 1) := by decide +kernel
theorem dX3_sell_76 : decode cX3_sell 76 = .ok (.iload_n 3, 1) := by decide +kernel
theorem dX3_sell_77 : decode cX3_sell 77 = .ok (.invokevirtual 72, 3) := by decide +kernel
theorem dX3_sell_80 : decode cX3_sell 80 = .ok (.aload_n 0, 1) := by decide +kernel
theorem dX3_sell_81 : decode cX3_sell 81 = .ok (.getfield 12, 3) := by decide +kernel
theorem dX3_sell_84 : decode cX3_sell 84 = .ok (.iload 8, 2) := by decide +kernel
theorem dX3_sell_86 : decode cX3_sell 86 = .ok (.bipush 10, 2) := by decide +kernel
theorem dX3_sell_88 : decode cX3_sell 88 = .ok (.iload 4, 2) := by decide +kernel
theorem dX3_sell_90 : decode cX3_sell 90 = .ok (.invokevirtual 72, 3) := by decide +kernel
theorem dX3_sell_93 : decode cX3_sell 93 = .ok (.aload_n 0, 1) := by decide +kernel
theorem dX3_sell_94 : decode cX3_sell 94 = .ok (.getfield 12, 3) := by decide +kernel
theorem dX3_sell_97 : decode cX3_sell 97 = .ok (.iload 8, 2) := by decide +kernel
theorem dX3_sell_99 : decode cX3_sell 99 = .ok (.bipush 8, 2) := by decide +kernel
theorem dX3_sell_101 : decode cX3_sell 101 = .ok (.iload 5, 2) := by decide +kernel
theorem dX3_sell_103 : decode cX3_sell 103 = .ok (.invokevirtual 72, 3) := by decide +kernel
theorem dX3_sell_106 : decode cX3_sell 106 = .ok (.iload 8, 2) := by decide +kernel
theorem dX3_sell_108 : decode cX3_sell 108 = .ok (.ireturn, 1) := by decide +kernel
theorem dX3_dig_0 : decode cX3_dig 0 = .ok (.aload_n 0, 1) := by decide +kernel
theorem dX3_dig_1 : decode cX3_dig 1 = .ok (.iload_n 1, 1) := by decide +kernel
theorem dX3_dig_2 : decode cX3_dig 2 = .ok (.invokevirtual 48, 3) := by decide +kernel
theorem dX3_dig_5 : decode cX3_dig 5 = .ok (.ifCond .eq 29, 3) := by decide +kernel
theorem dX3_dig_8 : decode cX3_dig 8 = .ok (.iload_n 2, 1) := by decide +kernel
theorem dX3_dig_9 : decode cX3_dig 9 = .ok (.invokestatic 52, 3) := by decide +kernel
theorem dX3_dig_12 : decode cX3_dig 12 = .ok (.ifCond .eq 22, 3) := by decide +kernel
theorem dX3_dig_15 : decode cX3_dig 15 = .ok (.iload_n 3, 1) := by decide +kernel
theorem dX3_dig_16 : decode cX3_dig 16 = .ok (.invokestatic 55, 3) := by decide +kernel
theorem dX3_dig_19 : decode cX3_dig 19 = .ok (.ifCond .eq 15, 3) := by decide +kernel
theorem dX3_dig_22 : decode cX3_dig 22 = .ok (.iload 4, 2) := by decide +kernel
theorem dX3_dig_24 : decode cX3_dig 24 = .ok (.iconst 1, 1) := by decide +kernel
theorem dX3_dig_25 : decode cX3_dig 25 = .ok (.sipush 1000, 3) := by decide +kernel
theorem dX3_dig_28 : decode cX3_dig 28 = .ok (.invokestatic 41, 3) := by decide +kernel
theorem dX3_dig_31 : decode cX3_dig 31 = .ok (.ifCond .ne 5, 3) := by decide +kernel
theorem dX3_dig_34 : decode cX3_dig 34 = .ok (.iconst (-1), 1) := by decide +kernel
theorem dX3_dig_35 : decode cX3_dig 35 = .ok (.ireturn, 1) := by decide +kernel
theorem dX3_dig_36 : decode cX3_dig 36 = .ok (.aload_n 0, 1) := by decide +kernel
theorem dX3_dig_37 : decode cX3_dig 37 = .ok (.getfield 12, 3) := by decide +kernel
theorem dX3_dig_40 : decode cX3_dig 40 = .ok (.invokevirtual 61, 3) := by decide +kernel
theorem dX3_dig_43 : decode cX3_dig 43 = .ok (.ifCond .eq 6, 3) := by decide +kernel
theorem dX3_dig_46 : decode cX3_dig 46 = .ok (.bipush (-2), 2) := by decide +kernel
theorem dX3_dig_48 : decode cX3_dig 48 = .ok (.ireturn, 1) := by decide +kernel
theorem dX3_dig_49 : decode cX3_dig 49 = .ok (.aload_n 0, 1) := by decide +kernel
theorem dX3_dig_50 : decode cX3_dig 50 = .ok (.getfield 12, 3) := by decide +kernel
theorem dX3_dig_53 : decode cX3_dig 53 = .ok (.bipush 6, 2) := by decide +kernel
theorem dX3_dig_55 : decode cX3_dig 55 = .ok (.iload_n 1, 1) := by decide +kernel
theorem dX3_dig_56 : decode cX3_dig 56 = .ok (.iload_n 2, 1) := by decide +kernel
theorem dX3_dig_57 : decode cX3_dig 57 = .ok (.invokevirtual 68, 3) := by decide +kernel
theorem dX3_dig_60 : decode cX3_dig 60 = .ok (.istore 5, 2) := by decide +kernel
theorem dX3_dig_62 : decode cX3_dig 62 = .ok (.aload_n 0, 1) := by decide +kernel
theorem dX3_dig_63 : decode cX3_dig 63 = .ok (.getfield 12, 3) := by decide +kernel
theorem dX3_dig_66 : decode cX3_dig 66 = .ok (.iload 5, 2) := by decide +kernel
theorem dX3_dig_68 : decode cX3_dig 68 = .ok (.iload_n 3, 1) := by decide +kernel
theorem dX3_dig_69 : decode cX3_dig 69 = .ok (.iload_n 3, 1) := by decide +kernel
theorem dX3_dig_70 : decode cX3_dig 70 = .ok (.invokevirtual 85, 3) := by decide +kernel
theorem dX3_dig_73 : decode cX3_dig 73 = .ok (.aload_n 0, 1) := by decide +kernel
theorem dX3_dig_74 : decode cX3_dig 74 = .ok (.getfield 12, 3) := by decide +kernel
theorem dX3_dig_77 : decode cX3_dig 77 = .ok (.iload 5, 2) := by decide +kernel
theorem dX3_dig_79 : decode cX3_dig 79 = .ok (.bipush 8, 2) := by decide +kernel
theorem dX3_dig_81 : decode cX3_dig 81 = .ok (.iload 4, 2) := by decide +kernel
theorem dX3_dig_83 : decode cX3_dig 83 = .ok (.invokevirtual 72, 3) := by decide +kernel
theorem dX3_dig_86 : decode cX3_dig 86 = .ok (.iload 5, 2) := by decide +kernel
theorem dX3_dig_88 : decode cX3_dig 88 = .ok (.ireturn, 1) := by decide +kernel
theorem dX3_withdraw_0 : decode cX3_withdraw 0 = .ok (.aload_n 0, 1) := by decide +kernel
theorem dX3_withdraw_1 : decode cX3_withdraw 1 = .ok (.getfield 12, 3) := by decide +kernel
theorem dX3_withdraw_4 : decode cX3_withdraw 4 = .ok (.iload_n 1, 1) := by decide +kernel
theorem dX3_withdraw_5 : decode cX3_withdraw 5 = .ok (.invokevirtual 95, 3) := by decide +kernel
theorem dX3_withdraw_8 : decode cX3_withdraw 8 = .ok (.ifCond .ne 5, 3) := by decide +kernel
theorem dX3_withdraw_11 : decode cX3_withdraw 11 = .ok (.iconst (-1), 1) := by decide +kernel
theorem dX3_withdraw_12 : decode cX3_withdraw 12 = .ok (.ireturn, 1) := by decide +kernel
theorem dX3_withdraw_13 : decode cX3_withdraw 13 = .ok (.aload_n 0, 1) := by decide +kernel
theorem dX3_withdraw_14 : decode cX3_withdraw 14 = .ok (.getfield 12, 3) := by decide +kernel
theorem dX3_withdraw_17 : decode cX3_withdraw 17 = .ok (.iload_n 1, 1) := by decide +kernel
theorem dX3_withdraw_18 : decode cX3_withdraw 18 = .ok (.invokevirtual 98, 3) := by decide +kernel
theorem dX3_withdraw_21 : decode cX3_withdraw 21 = .ok (.ifCond .eq 6, 3) := by decide +kernel
theorem dX3_withdraw_24 : decode cX3_withdraw 24 = .ok (.bipush (-5), 2) := by decide +kernel
theorem dX3_withdraw_26 : decode cX3_withdraw 26 = .ok (.ireturn, 1) := by decide +kernel
theorem dX3_withdraw_27 : decode cX3_withdraw 27 = .ok (.aload_n 0, 1) := by decide +kernel
theorem dX3_withdraw_28 : decode cX3_withdraw 28 = .ok (.getfield 12, 3) := by decide +kernel
theorem dX3_withdraw_31 : decode cX3_withdraw 31 = .ok (.iload_n 1, 1) := by decide +kernel
theorem dX3_withdraw_32 : decode cX3_withdraw 32 = .ok (.iconst 3, 1) := by decide +kernel
theorem dX3_withdraw_33 : decode cX3_withdraw 33 = .ok (.aload_n 0, 1) := by decide +kernel
theorem dX3_withdraw_34 : decode cX3_withdraw 34 = .ok (.getfield 12, 3) := by decide +kernel
theorem dX3_withdraw_37 : decode cX3_withdraw 37 = .ok (.getfield 45, 3) := by decide +kernel
theorem dX3_withdraw_40 : decode cX3_withdraw 40 = .ok (.invokevirtual 72, 3) := by decide +kernel
theorem dX3_withdraw_43 : decode cX3_withdraw 43 = .ok (.iconst 1, 1) := by decide +kernel
theorem dX3_withdraw_44 : decode cX3_withdraw 44 = .ok (.ireturn, 1) := by decide +kernel
theorem dX3_fact_0 : decode cX3_fact 0 = .ok (.aload_n 0, 1) := by decide +kernel
theorem dX3_fact_1 : decode cX3_fact 1 = .ok (.getfield 12, 3) := by decide +kernel
theorem dX3_fact_4 : decode cX3_fact 4 = .ok (.iload_n 1, 1) := by decide +kernel
theorem dX3_fact_5 : decode cX3_fact 5 = .ok (.invokevirtual 95, 3) := by decide +kernel
theorem dX3_fact_8 : decode cX3_fact 8 = .ok (.ifCond .eq 13, 3) := by decide +kernel
theorem dX3_fact_11 : decode cX3_fact 11 = .ok (.iload_n 2, 1) := by decide +kernel
theorem dX3_fact_12 : decode cX3_fact 12 = .ok (.iconst 0, 1) := by decide +kernel
theorem dX3_fact_13 : decode cX3_fact 13 = .ok (.bipush 9, 2) := by decide +kernel
theorem dX3_fact_15 : decode cX3_fact 15 = .ok (.invokestatic 41, 3) := by decide +kernel
theorem dX3_fact_18 : decode cX3_fact 18 = .ok (.ifCond .ne 5, 3) := by decide +kernel
theorem dX3_fact_21 : decode cX3_fact 21 = .ok (.iconst (-1), 1) := by decide +kernel
theorem dX3_fact_22 : decode cX3_fact 22 = .ok (.ireturn, 1) := by decide +kernel
theorem dX3_fact_23 : decode cX3_fact 23 = .ok (.aload_n 0, 1) := by decide +kernel
theorem dX3_fact_24 : decode cX3_fact 24 = .ok (.getfield 12, 3) := by decide +kernel
theorem dX3_fact_27 : decode cX3_fact 27 = .ok (.iload_n 1, 1) := by decide +kernel
theorem dX3_fact_28 : decode cX3_fact 28 = .ok (.iload_n 2, 1) := by decide +kernel
theorem dX3_fact_29 : decode cX3_fact 29 = .ok (.invokevirtual 101, 3) := by decide +kernel
theorem dX3_fact_32 : decode cX3_fact 32 = .ok (.ireturn, 1) := by decide +kernel
theorem dX3_owner_0 : decode cX3_owner 0 = .ok (.iload_n 1, 1) := by decide +kernel
theorem dX3_owner_1 : decode cX3_owner 1 = .ok (.invokestatic 52, 3) := by decide +kernel
theorem dX3_owner_4 : decode cX3_owner 4 = .ok (.ifCond .eq 19, 3) := by decide +kernel
theorem dX3_owner_7 : decode cX3_owner 7 = .ok (.iload_n 2, 1) := by decide +kernel
theorem dX3_owner_8 : decode cX3_owner 8 = .ok (.invokestatic 55, 3) := by decide +kernel
theorem dX3_owner_11 : decode cX3_owner 11 = .ok (.ifCond .eq 12, 3) := by decide +kernel
theorem dX3_owner_14 : decode cX3_owner 14 = .ok (.iload_n 3, 1) := by decide +kernel
theorem dX3_owner_15 : decode cX3_owner 15 = .ok (.iload 4, 2) := by decide +kernel
theorem dX3_owner_17 : decode cX3_owner 17 = .ok (.invokestatic 104, 3) := by decide +kernel
theorem dX3_owner_20 : decode cX3_owner 20 = .ok (.ifCond .ne 5, 3) := by decide +kernel
theorem dX3_owner_23 : decode cX3_owner 23 = .ok (.iconst (-1), 1) := by decide +kernel
theorem dX3_owner_24 : decode cX3_owner 24 = .ok (.ireturn, 1) := by decide +kernel
theorem dX3_owner_25 : decode cX3_owner 25 = .ok (.aload_n 0, 1) := by decide +kernel
theorem dX3_owner_26 : decode cX3_owner 26 = .ok (.iload_n 3, 1) := by decide +kernel
theorem dX3_owner_27 : decode cX3_owner 27 = .ok (.iload 4, 2) := by decide +kernel
theorem dX3_owner_29 : decode cX3_owner 29 = .ok (.invokevirtual 108, 3) := by decide +kernel
theorem dX3_owner_32 : decode cX3_owner 32 = .ok (.aload_n 0, 1) := by decide +kernel
theorem dX3_owner_33 : decode cX3_owner 33 = .ok (.getfield 33, 3) := by decide +kernel
theorem dX3_owner_36 : decode cX3_owner 36 = .ok (.iload_n 1, 1) := by decide +kernel
theorem dX3_owner_37 : decode cX3_owner 37 = .ok (.iload_n 2, 1) := by decide +kernel
theorem dX3_owner_38 : decode cX3_owner 38 = .ok (.invokevirtual 112, 3) := by decide +kernel
theorem dX3_owner_41 : decode cX3_owner 41 = .ok (.ireturn, 1) := by decide +kernel
theorem dX3_claim_0 : decode cX3_claim 0 = .ok (.iload_n 1, 1) := by decide +kernel
theorem dX3_claim_1 : decode cX3_claim 1 = .ok (.invokestatic 52, 3) := by decide +kernel
theorem dX3_claim_4 : decode cX3_claim 4 = .ok (.ifCond .eq 19, 3) := by decide +kernel
theorem dX3_claim_7 : decode cX3_claim 7 = .ok (.iload_n 2, 1) := by decide +kernel
theorem dX3_claim_8 : decode cX3_claim 8 = .ok (.invokestatic 55, 3) := by decide +kernel
theorem dX3_claim_11 : decode cX3_claim 11 = .ok (.ifCond .eq 12, 3) := by decide +kernel
theorem dX3_claim_14 : decode cX3_claim 14 = .ok (.iload_n 3, 1) := by decide +kernel
theorem dX3_claim_15 : decode cX3_claim 15 = .ok (.iload 4, 2) := by decide +kernel
theorem dX3_claim_17 : decode cX3_claim 17 = .ok (.invokestatic 104, 3) := by decide +kernel
theorem dX3_claim_20 : decode cX3_claim 20 = .ok (.ifCond .ne 5, 3) := by decide +kernel
theorem dX3_claim_23 : decode cX3_claim 23 = .ok (.iconst (-1), 1) := by decide +kernel
theorem dX3_claim_24 : decode cX3_claim 24 = .ok (.ireturn, 1) := by decide +kernel
theorem dX3_claim_25 : decode cX3_claim 25 = .ok (.aload_n 0, 1) := by decide +kernel
theorem dX3_claim_26 : decode cX3_claim 26 = .ok (.iload_n 3, 1) := by decide +kernel
theorem dX3_claim_27 : decode cX3_claim 27 = .ok (.iload 4, 2) := by decide +kernel
theorem dX3_claim_29 : decode cX3_claim 29 = .ok (.invokevirtual 108, 3) := by decide +kernel
theorem dX3_claim_32 : decode cX3_claim 32 = .ok (.aload_n 0, 1) := by decide +kernel
theorem dX3_claim_33 : decode cX3_claim 33 = .ok (.getfield 33, 3) := by decide +kernel
theorem dX3_claim_36 : decode cX3_claim 36 = .ok (.iload_n 1, 1) := by decide +kernel
theorem dX3_claim_37 : decode cX3_claim 37 = .ok (.iload_n 2, 1) := by decide +kernel
