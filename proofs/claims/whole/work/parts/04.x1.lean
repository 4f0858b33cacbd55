theorem dX1_init_0 : decode cX1_init 0 = .ok (.aload_n 0, 1) := by decide +kernel
theorem dX1_init_1 : decode cX1_init 1 = .ok (.invokespecial 3, 3) := by decide +kernel
theorem dX1_init_4 : decode cX1_init 4 = .ok (.aload_n 0, 1) := by decide +kernel
theorem dX1_init_5 : decode cX1_init 5 = .ok (.bipush 10, 2) := by decide +kernel
theorem dX1_init_7 : decode cX1_init 7 = .ok (.newarray .int, 2) := by decide +kernel
theorem dX1_init_9 : decode cX1_init 9 = .ok (.putfield 9, 3) := by decide +kernel
theorem dX1_init_12 : decode cX1_init 12 = .ok (.return_, 1) := by decide +kernel
theorem dX1_begin_0 : decode cX1_begin 0 = .ok (.aload_n 0, 1) := by decide +kernel
theorem dX1_begin_1 : decode cX1_begin 1 = .ok (.iconst 1, 1) := by decide +kernel
theorem dX1_begin_2 : decode cX1_begin 2 = .ok (.putfield 15, 3) := by decide +kernel
theorem dX1_begin_5 : decode cX1_begin 5 = .ok (.aload_n 0, 1) := by decide +kernel
theorem dX1_begin_6 : decode cX1_begin 6 = .ok (.iload_n 2, 1) := by decide +kernel
theorem dX1_begin_7 : decode cX1_begin 7 = .ok (.putfield 19, 3) := by decide +kernel
theorem dX1_begin_10 : decode cX1_begin 10 = .ok (.aload_n 0, 1) := by decide +kernel
theorem dX1_begin_11 : decode cX1_begin 11 = .ok (.aload_n 1, 1) := by decide +kernel
theorem dX1_begin_12 : decode cX1_begin 12 = .ok (.iload_n 2, 1) := by decide +kernel
theorem dX1_begin_13 : decode cX1_begin 13 = .ok (.iconst 4, 1) := by decide +kernel
theorem dX1_begin_14 : decode cX1_begin 14 = .ok (.invokevirtual 23, 3) := by decide +kernel
theorem dX1_begin_17 : decode cX1_begin 17 = .ok (.putfield 29, 3) := by decide +kernel
theorem dX1_begin_20 : decode cX1_begin 20 = .ok (.aload_n 0, 1) := by decide +kernel
theorem dX1_begin_21 : decode cX1_begin 21 = .ok (.aload_n 1, 1) := by decide +kernel
theorem dX1_begin_22 : decode cX1_begin 22 = .ok (.iload_n 2, 1) := by decide +kernel
theorem dX1_begin_23 : decode cX1_begin 23 = .ok (.bipush 6, 2) := by decide +kernel
theorem dX1_begin_25 : decode cX1_begin 25 = .ok (.invokevirtual 23, 3) := by decide +kernel
theorem dX1_begin_28 : decode cX1_begin 28 = .ok (.aload_n 1, 1) := by decide +kernel
theorem dX1_begin_29 : decode cX1_begin 29 = .ok (.iload_n 2, 1) := by decide +kernel
theorem dX1_begin_30 : decode cX1_begin 30 = .ok (.bipush 7, 2) := by decide +kernel
theorem dX1_begin_32 : decode cX1_begin 32 = .ok (.invokevirtual 23, 3) := by decide +kernel
theorem dX1_begin_35 : decode cX1_begin 35 = .ok (.invokevirtual 32, 3) := by decide +kernel
theorem dX1_begin_38 : decode cX1_begin 38 = .ok (.aload_n 0, 1) := by decide +kernel
theorem dX1_begin_39 : decode cX1_begin 39 = .ok (.aload_n 1, 1) := by decide +kernel
theorem dX1_begin_40 : decode cX1_begin 40 = .ok (.iload_n 2, 1) := by decide +kernel
theorem dX1_begin_41 : decode cX1_begin 41 = .ok (.iconst 5, 1) := by decide +kernel
theorem dX1_begin_42 : decode cX1_begin 42 = .ok (.invokevirtual 23, 3) := by decide +kernel
theorem dX1_begin_45 : decode cX1_begin 45 = .ok (.aload_n 1, 1) := by decide +kernel
theorem dX1_begin_46 : decode cX1_begin 46 = .ok (.iload_n 2, 1) := by decide +kernel
theorem dX1_begin_47 : decode cX1_begin 47 = .ok (.iconst 1, 1) := by decide +kernel
theorem dX1_begin_48 : decode cX1_begin 48 = .ok (.invokevirtual 23, 3) := by decide +kernel
theorem dX1_begin_51 : decode cX1_begin 51 = .ok (.invokevirtual 36, 3) := by decide +kernel
theorem dX1_begin_54 : decode cX1_begin 54 = .ok (.return_, 1) := by decide +kernel
theorem dX1_turn_0 : decode cX1_turn 0 = .ok (.aload_n 1, 1) := by decide +kernel
theorem dX1_turn_1 : decode cX1_turn 1 = .ok (.iload_n 2, 1) := by decide +kernel
theorem dX1_turn_2 : decode cX1_turn 2 = .ok (.iconst 1, 1) := by decide +kernel
theorem dX1_turn_3 : decode cX1_turn 3 = .ok (.invokevirtual 23, 3) := by decide +kernel
theorem dX1_turn_6 : decode cX1_turn 6 = .ok (.istore 4, 2) := by decide +kernel
theorem dX1_turn_8 : decode cX1_turn 8 = .ok (.aload_n 1, 1) := by decide +kernel
theorem dX1_turn_9 : decode cX1_turn 9 = .ok (.iload_n 2, 1) := by decide +kernel
theorem dX1_turn_10 : decode cX1_turn 10 = .ok (.iconst 0, 1) := by decide +kernel
theorem dX1_turn_11 : decode cX1_turn 11 = .ok (.invokevirtual 23, 3) := by decide +kernel
theorem dX1_turn_14 : decode cX1_turn 14 = .ok (.tableswitch 115 1 5 #[34, 43, 59, 67, 88], 34) := by decide +kernel
theorem dX1_turn_48 : decode cX1_turn 48 = .ok (.aload_n 0, 1) := by decide +kernel
theorem dX1_turn_49 : decode cX1_turn 49 = .ok (.iload 4, 2) := by decide +kernel
theorem dX1_turn_51 : decode cX1_turn 51 = .ok (.invokevirtual 39, 3) := by decide +kernel
theorem dX1_turn_54 : decode cX1_turn 54 = .ok (.goto 75, 3) := by decide +kernel
theorem dX1_turn_57 : decode cX1_turn 57 = .ok (.aload_n 0, 1) := by decide +kernel
theorem dX1_turn_58 : decode cX1_turn 58 = .ok (.aload_n 1, 1) := by decide +kernel
theorem dX1_turn_59 : decode cX1_turn 59 = .ok (.iload_n 2, 1) := by decide +kernel
theorem dX1_turn_60 : decode cX1_turn 60 = .ok (.iconst 5, 1) := by decide +kernel
theorem dX1_turn_61 : decode cX1_turn 61 = .ok (.invokevirtual 23, 3) := by decide +kernel
theorem dX1_turn_64 : decode cX1_turn 64 = .ok (.iload 4, 2) := by decide +kernel
theorem dX1_turn_66 : decode cX1_turn 66 = .ok (.iload_n 3, 1) := by decide +kernel
theorem dX1_turn_67 : decode cX1_turn 67 = .ok (.invokevirtual 43, 3) := by decide +kernel
theorem dX1_turn_70 : decode cX1_turn 70 = .ok (.goto 59, 3) := by decide +kernel
theorem dX1_turn_73 : decode cX1_turn 73 = .ok (.aload_n 0, 1) := by decide +kernel
theorem dX1_turn_74 : decode cX1_turn 74 = .ok (.iconst 0, 1) := by decide +kernel
theorem dX1_turn_75 : decode cX1_turn 75 = .ok (.putfield 15, 3) := by decide +kernel
theorem dX1_turn_78 : decode cX1_turn 78 = .ok (.goto 51, 3) := by decide +kernel
theorem dX1_turn_81 : decode cX1_turn 81 = .ok (.aload_n 0, 1) := by decide +kernel
theorem dX1_turn_82 : decode cX1_turn 82 = .ok (.aload_n 1, 1) := by decide +kernel
theorem dX1_turn_83 : decode cX1_turn 83 = .ok (.iload_n 2, 1) := by decide +kernel
theorem dX1_turn_84 : decode cX1_turn 84 = .ok (.bipush 6, 2) := by decide +kernel
theorem dX1_turn_86 : decode cX1_turn 86 = .ok (.invokevirtual 23, 3) := by decide +kernel
theorem dX1_turn_89 : decode cX1_turn 89 = .ok (.aload_n 1, 1) := by decide +kernel
theorem dX1_turn_90 : decode cX1_turn 90 = .ok (.iload_n 2, 1) := by decide +kernel
theorem dX1_turn_91 : decode cX1_turn 91 = .ok (.bipush 7, 2) := by decide +kernel
theorem dX1_turn_93 : decode cX1_turn 93 = .ok (.invokevirtual 23, 3) := by decide +kernel
theorem dX1_turn_96 : decode cX1_turn 96 = .ok (.invokevirtual 32, 3) := by decide +kernel
theorem dX1_turn_99 : decode cX1_turn 99 = .ok (.goto 30, 3) := by decide +kernel
theorem dX1_turn_102 : decode cX1_turn 102 = .ok (.aload_n 0, 1) := by decide +kernel
theorem dX1_turn_103 : decode cX1_turn 103 = .ok (.aload_n 1, 1) := by decide +kernel
theorem dX1_turn_104 : decode cX1_turn 104 = .ok (.iload_n 2, 1) := by decide +kernel
theorem dX1_turn_105 : decode cX1_turn 105 = .ok (.iconst 5, 1) := by decide +kernel
theorem dX1_turn_106 : decode cX1_turn 106 = .ok (.invokevirtual 23, 3) := by decide +kernel
theorem dX1_turn_109 : decode cX1_turn 109 = .ok (.aload_n 1, 1) := by decide +kernel
theorem dX1_turn_110 : decode cX1_turn 110 = .ok (.iload_n 2, 1) := by decide +kernel
theorem dX1_turn_111 : decode cX1_turn 111 = .ok (.bipush 10, 2) := by decide +kernel
theorem dX1_turn_113 : decode cX1_turn 113 = .ok (.invokevirtual 23, 3) := by decide +kernel
theorem dX1_turn_116 : decode cX1_turn 116 = .ok (.aload_n 1, 1) := by decide +kernel
theorem dX1_turn_117 : decode cX1_turn 117 = .ok (.iload_n 2, 1) := by decide +kernel
theorem dX1_turn_118 : decode cX1_turn 118 = .ok (.bipush 8, 2) := by decide +kernel
theorem dX1_turn_120 : decode cX1_turn 120 = .ok (.invokevirtual 23, 3) := by decide +kernel
theorem dX1_turn_123 : decode cX1_turn 123 = .ok (.invokevirtual 47, 3) := by decide +kernel
theorem dX1_turn_126 : decode cX1_turn 126 = .ok (.goto 3, 3) := by decide +kernel
theorem dX1_turn_129 : decode cX1_turn 129 = .ok (.return_, 1) := by decide +kernel
theorem dX1_isOver_0 : decode cX1_isOver 0 = .ok (.aload_n 0, 1) := by decide +kernel
theorem dX1_isOver_1 : decode cX1_isOver 1 = .ok (.getfield 15, 3) := by decide +kernel
theorem dX1_isOver_4 : decode cX1_isOver 4 = .ok (.ifCond .eq 30, 3) := by decide +kernel
theorem dX1_isOver_7 : decode cX1_isOver 7 = .ok (.aload_n 0, 1) := by decide +kernel
theorem dX1_isOver_8 : decode cX1_isOver 8 = .ok (.getfield 29, 3) := by decide +kernel
theorem dX1_isOver_11 : decode cX1_isOver 11 = .ok (.iload_n 1, 1) := by decide +kernel
theorem dX1_isOver_12 : decode cX1_isOver 12 = .ok (.if_icmp .ne 22, 3) := by decide +kernel
theorem dX1_isOver_15 : decode cX1_isOver 15 = .ok (.iload_n 2, 1) := by decide +kernel
theorem dX1_isOver_16 : decode cX1_isOver 16 = .ok (.aload_n 0, 1) := by decide +kernel
theorem dX1_isOver_17 : decode cX1_isOver 17 = .ok (.getfield 50, 3) := by decide +kernel
theorem dX1_isOver_20 : decode cX1_isOver 20 = .ok (.aload_n 0, 1) := by decide +kernel
theorem dX1_isOver_21 : decode cX1_isOver 21 = .ok (.getfield 53, 3) := by decide +kernel
theorem dX1_isOver_24 : decode cX1_isOver 24 = .ok (.invokestatic 56, 3) := by decide +kernel
theorem dX1_isOver_27 : decode cX1_isOver 27 = .ok (.ifCond .eq 7, 3) := by decide +kernel
theorem dX1_isOver_30 : decode cX1_isOver 30 = .ok (.iconst 1, 1) := by decide +kernel
theorem dX1_isOver_31 : decode cX1_isOver 31 = .ok (.goto 4, 3) := by decide +kernel
theorem dX1_isOver_34 : decode cX1_isOver 34 = .ok (.iconst 0, 1) := by decide +kernel
theorem dX1_isOver_35 : decode cX1_isOver 35 = .ok (.ireturn, 1) := by decide +kernel
theorem dX1_isIdle_0 : decode cX1_isIdle 0 = .ok (.iload_n 1, 1) := by decide +kernel
theorem dX1_isIdle_1 : decode cX1_isIdle 1 = .ok (.aload_n 0, 1) := by decide +kernel
theorem dX1_isIdle_2 : decode cX1_isIdle 2 = .ok (.getfield 60, 3) := by decide +kernel
theorem dX1_isIdle_5 : decode cX1_isIdle 5 = .ok (.isub, 1) := by decide +kernel
theorem dX1_isIdle_6 : decode cX1_isIdle 6 = .ok (.iload_n 2, 1) := by decide +kernel
theorem dX1_isIdle_7 : decode cX1_isIdle 7 = .ok (.if_icmp .le 7, 3) := by decide +kernel
theorem dX1_isIdle_10 : decode cX1_isIdle 10 = .ok (.iconst 1, 1) := by decide +kernel
theorem dX1_isIdle_11 : decode cX1_isIdle 11 = .ok (.goto 4, 3) := by decide +kernel
theorem dX1_isIdle_14 : decode cX1_isIdle 14 = .ok (.iconst 0, 1) := by decide +kernel
theorem dX1_isIdle_15 : decode cX1_isIdle 15 = .ok (.ireturn, 1) := by decide +kernel
theorem dX1_setFeet_0 : decode cX1_setFeet 0 = .ok (.aload_n 0, 1) := by decide +kernel
theorem dX1_setFeet_1 : decode cX1_setFeet 1 = .ok (.iload_n 1, 1) := by decide +kernel
theorem dX1_setFeet_2 : decode cX1_setFeet 2 = .ok (.putfield 50, 3) := by decide +kernel
theorem dX1_setFeet_5 : decode cX1_setFeet 5 = .ok (.aload_n 0, 1) := by decide +kernel
theorem dX1_setFeet_6 : decode cX1_setFeet 6 = .ok (.iload_n 2, 1) := by decide +kernel
theorem dX1_setFeet_7 : decode cX1_setFeet 7 = .ok (.putfield 53, 3) := by decide +kernel
theorem dX1_setFeet_10 : decode cX1_setFeet 10 = .ok (.return_, 1) := by decide +kernel
theorem dX1_setWorked_0 : decode cX1_setWorked 0 = .ok (.aload_n 0, 1) := by decide +kernel
theorem dX1_setWorked_1 : decode cX1_setWorked 1 = .ok (.iload_n 1, 1) := by decide +kernel
theorem dX1_setWorked_2 : decode cX1_setWorked 2 = .ok (.putfield 60, 3) := by decide +kernel
theorem dX1_setWorked_5 : decode cX1_setWorked 5 = .ok (.aload_n 0, 1) := by decide +kernel
theorem dX1_setWorked_6 : decode cX1_setWorked 6 = .ok (.iconst 0, 1) := by decide +kernel
theorem dX1_setWorked_7 : decode cX1_setWorked 7 = .ok (.putfield 63, 3) := by decide +kernel
theorem dX1_setWorked_10 : decode cX1_setWorked 10 = .ok (.return_, 1) := by decide +kernel
theorem dX1_passTo_0 : decode cX1_passTo 0 = .ok (.aload_n 0, 1) := by decide +kernel
theorem dX1_passTo_1 : decode cX1_passTo 1 = .ok (.iload_n 1, 1) := by decide +kernel
theorem dX1_passTo_2 : decode cX1_passTo 2 = .ok (.putfield 66, 3) := by decide +kernel
theorem dX1_passTo_5 : decode cX1_passTo 5 = .ok (.iconst 0, 1) := by decide +kernel
theorem dX1_passTo_6 : decode cX1_passTo 6 = .ok (.istore_n 3, 1) := by decide +kernel
theorem dX1_passTo_7 : decode cX1_passTo 7 = .ok (.iload_n 3, 1) := by decide +kernel
theorem dX1_passTo_8 : decode cX1_passTo 8 = .ok (.bipush 10, 2) := by decide +kernel
theorem dX1_passTo_10 : decode cX1_passTo 10 = .ok (.if_icmp .ge 26, 3) := by decide +kernel
theorem dX1_passTo_13 : decode cX1_passTo 13 = .ok (.aload_n 0, 1) := by decide +kernel
theorem dX1_passTo_14 : decode cX1_passTo 14 = .ok (.getfield 9, 3) := by decide +kernel
theorem dX1_passTo_17 : decode cX1_passTo 17 = .ok (.iload_n 3, 1) := by decide +kernel
theorem dX1_passTo_18 : decode cX1_passTo 18 = .ok (.iload_n 3, 1) := by decide +kernel
theorem dX1_passTo_19 : decode cX1_passTo 19 = .ok (.iload_n 1, 1) := by decide +kernel
theorem dX1_passTo_20 : decode cX1_passTo 20 = .ok (.if_icmp .ne 8, 3) := by decide +kernel
theorem dX1_passTo_23 : decode cX1_passTo 23 = .ok (.bipush 24, 2) := by decide +kernel
theorem dX1_passTo_25 : decode cX1_passTo 25 = .ok (.goto 4, 3) := by decide +kernel
theorem dX1_passTo_28 : decode cX1_passTo 28 = .ok (.iconst 0, 1) := by decide +kernel
theorem dX1_passTo_29 : decode cX1_passTo 29 = .ok (.iastore, 1) := by decide +kernel
theorem dX1_passTo_30 : decode cX1_passTo 30 = .ok (.iinc 3 1, 3) := by decide +kernel
theorem dX1_passTo_33 : decode cX1_passTo 33 = .ok (.goto (-26), 3) := by decide +kernel
theorem dX1_passTo_36 : decode cX1_passTo 36 = .ok (.aload_n 0, 1) := by decide +kernel
theorem dX1_passTo_37 : decode cX1_passTo 37 = .ok (.iload_n 2, 1) := by decide +kernel
theorem dX1_passTo_38 : decode cX1_passTo 38 = .ok (.invokevirtual 39, 3) := by decide +kernel
theorem dX1_passTo_41 : decode cX1_passTo 41 = .ok (.return_, 1) := by decide +kernel
theorem dX1_takeNick_0 : decode cX1_takeNick 0 = .ok (.iload_n 1, 1) := by decide +kernel
theorem dX1_takeNick_1 : decode cX1_takeNick 1 = .ok (.aload_n 0, 1) := by decide +kernel
theorem dX1_takeNick_2 : decode cX1_takeNick 2 = .ok (.getfield 66, 3) := by decide +kernel
theorem dX1_takeNick_5 : decode cX1_takeNick 5 = .ok (.if_icmp .eq 12, 3) := by decide +kernel
theorem dX1_takeNick_8 : decode cX1_takeNick 8 = .ok (.aload_n 0, 1) := by decide +kernel
theorem dX1_takeNick_9 : decode cX1_takeNick 9 = .ok (.iload_n 2, 1) := by decide +kernel
theorem dX1_takeNick_10 : decode cX1_takeNick 10 = .ok (.iload_n 3, 1) := by decide +kernel
theorem dX1_takeNick_11 : decode cX1_takeNick 11 = .ok (.invokevirtual 69, 3) := by decide +kernel
theorem dX1_takeNick_14 : decode cX1_takeNick 14 = .ok (.ifCond .ne 4, 3) := by decide +kernel
theorem dX1_takeNick_17 : decode cX1_takeNick 17 = .ok (.return_, 1) := by decide +kernel
theorem dX1_takeNick_18 : decode cX1_takeNick 18 = .ok (.iload_n 1, 1) := by decide +kernel
theorem dX1_takeNick_19 : decode cX1_takeNick 19 = .ok (.aload_n 0, 1) := by decide +kernel
theorem dX1_takeNick_20 : decode cX1_takeNick 20 = .ok (.getfield 73, 3) := by decide +kernel
theorem dX1_takeNick_23 : decode cX1_takeNick 23 = .ok (.if_icmp .ne 14, 3) := by decide +kernel
theorem dX1_takeNick_26 : decode cX1_takeNick 26 = .ok (.iload_n 2, 1) := by decide +kernel
theorem dX1_takeNick_27 : decode cX1_takeNick 27 = .ok (.aload_n 0, 1) := by decide +kernel
theorem dX1_takeNick_28 : decode cX1_takeNick 28 = .ok (.getfield 76, 3) := by decide +kernel
theorem dX1_takeNick_31 : decode cX1_takeNick 31 = .ok (.isub, 1) := by decide +kernel
theorem dX1_takeNick_32 : decode cX1_takeNick 32 = .ok (.bipush 10, 2) := by decide +kernel
theorem dX1_takeNick_34 : decode cX1_takeNick 34 = .ok (.if_icmp .le 8, 3) := by decide +kernel
theorem dX1_takeNick_37 : decode cX1_takeNick 37 = .ok (.aload_n 0, 1) := by decide +kernel
theorem dX1_takeNick_38 : decode cX1_takeNick 38 = .ok (.iconst 0, 1) := by decide +kernel
theorem dX1_takeNick_39 : decode cX1_takeNick 39 = .ok (.putfield 63, 3) := by decide +kernel
theorem dX1_takeNick_42 : decode cX1_takeNick 42 = .ok (.aload_n 0, 1) := by decide +kernel
theorem dX1_takeNick_43 : decode cX1_takeNick 43 = .ok (.getfield 63, 3) := by decide +kernel
theorem dX1_takeNick_46 : decode cX1_takeNick 46 = .ok (.ifCond .le 12, 3) := by decide +kernel
theorem dX1_takeNick_49 : decode cX1_takeNick 49 = .ok (.aload_n 0, 1) := by decide +kernel
theorem dX1_takeNick_50 : decode cX1_takeNick 50 = .ok (.getfield 79, 3) := by decide +kernel
theorem dX1_takeNick_53 : decode cX1_takeNick 53 = .ok (.iload_n 2, 1) := by decide +kernel
theorem dX1_takeNick_54 : decode cX1_takeNick 54 = .ok (.if_icmp .ne 4, 3) := by decide +kernel
theorem dX1_takeNick_57 : decode cX1_takeNick 57 = .ok (.return_, 1) := by decide +kernel
theorem dX1_takeNick_58 : decode cX1_takeNick 58 = .ok (.aload_n 0, 1) := by decide +kernel
theorem dX1_takeNick_59 : decode cX1_takeNick 59 = .ok (.iload_n 1, 1) := by decide +kernel
theorem dX1_takeNick_60 : decode cX1_takeNick 60 = .ok (.iload_n 2, 1) := by decide +kernel
theorem dX1_takeNick_61 : decode cX1_takeNick 61 = .ok (.invokevirtual 82, 3) := by decide +kernel
theorem dX1_takeNick_64 : decode cX1_takeNick 64 = .ok (.aload_n 0, 1) := by decide +kernel
theorem dX1_takeNick_65 : decode cX1_takeNick 65 = .ok (.getfield 63, 3) := by decide +kernel
theorem dX1_takeNick_68 : decode cX1_takeNick 68 = .ok (.iconst 3, 1) := by decide +kernel
theorem dX1_takeNick_69 : decode cX1_takeNick 69 = .ok (.if_icmp .lt 9, 3) := by decide +kernel
theorem dX1_takeNick_72 : decode cX1_takeNick 72 = .ok (.aload_n 0, 1) := by decide +kernel
theorem dX1_takeNick_73 : decode cX1_takeNick 73 = .ok (.iload_n 1, 1) := by decide +kernel
theorem dX1_takeNick_74 : decode cX1_takeNick 74 = .ok (.iload_n 2, 1) := by decide +kernel
theorem dX1_takeNick_75 : decode cX1_takeNick 75 = .ok (.invokevirtual 36, 3) := by decide +kernel
theorem dX1_takeNick_78 : decode cX1_takeNick 78 = .ok (.return_, 1) := by decide +kernel
theorem dX1_addNick_0 : decode cX1_addNick 0 = .ok (.aload_n 0, 1) := by decide +kernel
theorem dX1_addNick_1 : decode cX1_addNick 1 = .ok (.getfield 63, 3) := by decide +kernel
theorem dX1_addNick_4 : decode cX1_addNick 4 = .ok (.ifCond .ne 8, 3) := by decide +kernel
theorem dX1_addNick_7 : decode cX1_addNick 7 = .ok (.aload_n 0, 1) := by decide +kernel
theorem dX1_addNick_8 : decode cX1_addNick 8 = .ok (.iload_n 2, 1) := by decide +kernel
theorem dX1_addNick_9 : decode cX1_addNick 9 = .ok (.putfield 76, 3) := by decide +kernel
theorem dX1_addNick_12 : decode cX1_addNick 12 = .ok (.aload_n 0, 1) := by decide +kernel
theorem dX1_addNick_13 : decode cX1_addNick 13 = .ok (.iload_n 1, 1) := by decide +kernel
theorem dX1_addNick_14 : decode cX1_addNick 14 = .ok (.putfield 73, 3) := by decide +kernel
theorem dX1_addNick_17 : decode cX1_addNick 17 = .ok (.aload_n 0, 1) := by decide +kernel
theorem dX1_addNick_18 : decode cX1_addNick 18 = .ok (.iload_n 2, 1) := by decide +kernel
theorem dX1_addNick_19 : decode cX1_addNick 19 = .ok (.putfield 79, 3) := by decide +kernel
theorem dX1_addNick_22 : decode cX1_addNick 22 = .ok (.aload_n 0, 1) := by decide +kernel
theorem dX1_addNick_23 : decode cX1_addNick 23 = .ok (.dup, 1) := by decide +kernel
theorem dX1_addNick_24 : decode cX1_addNick 24 = .ok (.getfield 63, 3) := by decide +kernel
theorem dX1_addNick_27 : decode cX1_addNick 27 = .ok (.iconst 1, 1) := by decide +kernel
theorem dX1_addNick_28 : decode cX1_addNick 28 = .ok (.iadd, 1) := by decide +kernel
theorem dX1_addNick_29 : decode cX1_addNick 29 = .ok (.putfield 63, 3) := by decide +kernel
theorem dX1_addNick_32 : decode cX1_addNick 32 = .ok (.return_, 1) := by decide +kernel
theorem dX1_moveShares_0 : decode cX1_moveShares 0 = .ok (.aload_n 0, 1) := by decide +kernel
theorem dX1_moveShares_1 : decode cX1_moveShares 1 = .ok (.getfield 9, 3) := by decide +kernel
theorem dX1_moveShares_4 : decode cX1_moveShares 4 = .ok (.iload_n 1, 1) := by decide +kernel
theorem dX1_moveShares_5 : decode cX1_moveShares 5 = .ok (.iaload, 1) := by decide +kernel
theorem dX1_moveShares_6 : decode cX1_moveShares 6 = .ok (.iload_n 3, 1) := by decide +kernel
theorem dX1_moveShares_7 : decode cX1_moveShares 7 = .ok (.if_icmp .lt 23, 3) := by decide +kernel
theorem dX1_moveShares_10 : decode cX1_moveShares 10 = .ok (.aload_n 0, 1) := by decide +kernel
theorem dX1_moveShares_11 : decode cX1_moveShares 11 = .ok (.getfield 9, 3) := by decide +kernel
theorem dX1_moveShares_14 : decode cX1_moveShares 14 = .ok (.iload_n 1, 1) := by decide +kernel
theorem dX1_moveShares_15 : decode cX1_moveShares 15 = .ok (.dup2, 1) := by decide +kernel
theorem dX1_moveShares_16 : decode cX1_moveShares 16 = .ok (.iaload, 1) := by decide +kernel
theorem dX1_moveShares_17 : decode cX1_moveShares 17 = .ok (.iload_n 3, 1) := by decide +kernel
theorem dX1_moveShares_18 : decode cX1_moveShares 18 = .ok (.isub, 1) := by decide +kernel
theorem dX1_moveShares_19 : decode cX1_moveShares 19 = .ok (.iastore, 1) := by decide +kernel
theorem dX1_moveShares_20 : decode cX1_moveShares 20 = .ok (.aload_n 0, 1) := by decide +kernel
theorem dX1_moveShares_21 : decode cX1_moveShares 21 = .ok (.getfield 9, 3) := by decide +kernel
theorem dX1_moveShares_24 : decode cX1_moveShares 24 = .ok (.iload_n 2, 1) := by decide +kernel
theorem dX1_moveShares_25 : decode cX1_moveShares 25 = .ok (.dup2, 1) := by decide +kernel
theorem dX1_moveShares_26 : decode cX1_moveShares 26 = .ok (.iaload, 1) := by decide +kernel
theorem dX1_moveShares_27 : decode cX1_moveShares 27 = .ok (.iload_n 3, 1) := by decide +kernel
theorem dX1_moveShares_28 : decode cX1_moveShares 28 = .ok (.iadd, 1) := by decide +kernel
theorem dX1_moveShares_29 : decode cX1_moveShares 29 = .ok (.iastore, 1) := by decide +kernel
theorem dX1_moveShares_30 : decode cX1_moveShares 30 = .ok (.return_, 1) := by decide +kernel
