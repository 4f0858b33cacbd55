theorem dX0_init_0 : decode cX0_init 0 = .ok (.aload_n 0, 1) := by decide +kernel
theorem dX0_init_1 : decode cX0_init 1 = .ok (.invokespecial 3, 3) := by decide +kernel
theorem dX0_init_4 : decode cX0_init 4 = .ok (.aload_n 0, 1) := by decide +kernel
theorem dX0_init_5 : decode cX0_init 5 = .ok (.sipush 990, 3) := by decide +kernel
theorem dX0_init_8 : decode cX0_init 8 = .ok (.newarray .int, 2) := by decide +kernel
theorem dX0_init_10 : decode cX0_init 10 = .ok (.putfield 9, 3) := by decide +kernel
theorem dX0_init_13 : decode cX0_init 13 = .ok (.aload_n 0, 1) := by decide +kernel
theorem dX0_init_14 : decode cX0_init 14 = .ok (.bipush 90, 2) := by decide +kernel
theorem dX0_init_16 : decode cX0_init 16 = .ok (.newarray .int, 2) := by decide +kernel
theorem dX0_init_18 : decode cX0_init 18 = .ok (.putfield 15, 3) := by decide +kernel
theorem dX0_init_21 : decode cX0_init 21 = .ok (.return_, 1) := by decide +kernel
theorem dX0_has_0 : decode cX0_has 0 = .ok (.iload_n 1, 1) := by decide +kernel
theorem dX0_has_1 : decode cX0_has 1 = .ok (.ifCond .lt 15, 3) := by decide +kernel
theorem dX0_has_4 : decode cX0_has 4 = .ok (.iload_n 1, 1) := by decide +kernel
theorem dX0_has_5 : decode cX0_has 5 = .ok (.aload_n 0, 1) := by decide +kernel
theorem dX0_has_6 : decode cX0_has 6 = .ok (.getfield 18, 3) := by decide +kernel
theorem dX0_has_9 : decode cX0_has 9 = .ok (.if_icmp .ge 7, 3) := by decide +kernel
theorem dX0_has_12 : decode cX0_has 12 = .ok (.iconst 1, 1) := by decide +kernel
theorem dX0_has_13 : decode cX0_has 13 = .ok (.goto 4, 3) := by decide +kernel
theorem dX0_has_16 : decode cX0_has 16 = .ok (.iconst 0, 1) := by decide +kernel
theorem dX0_has_17 : decode cX0_has 17 = .ok (.ireturn, 1) := by decide +kernel
theorem dX0_isFull_0 : decode cX0_isFull 0 = .ok (.aload_n 0, 1) := by decide +kernel
theorem dX0_isFull_1 : decode cX0_isFull 1 = .ok (.getfield 18, 3) := by decide +kernel
theorem dX0_isFull_4 : decode cX0_isFull 4 = .ok (.bipush 90, 2) := by decide +kernel
theorem dX0_isFull_6 : decode cX0_isFull 6 = .ok (.if_icmp .lt 7, 3) := by decide +kernel
theorem dX0_isFull_9 : decode cX0_isFull 9 = .ok (.iconst 1, 1) := by decide +kernel
theorem dX0_isFull_10 : decode cX0_isFull 10 = .ok (.goto 4, 3) := by decide +kernel
theorem dX0_isFull_13 : decode cX0_isFull 13 = .ok (.iconst 0, 1) := by decide +kernel
theorem dX0_isFull_14 : decode cX0_isFull 14 = .ok (.ireturn, 1) := by decide +kernel
theorem dX0_isStake_0 : decode cX0_isStake 0 = .ok (.aload_n 0, 1) := by decide +kernel
theorem dX0_isStake_1 : decode cX0_isStake 1 = .ok (.iload_n 1, 1) := by decide +kernel
theorem dX0_isStake_2 : decode cX0_isStake 2 = .ok (.iconst 0, 1) := by decide +kernel
theorem dX0_isStake_3 : decode cX0_isStake 3 = .ok (.invokevirtual 22, 3) := by decide +kernel
theorem dX0_isStake_6 : decode cX0_isStake 6 = .ok (.ifCond .ne 7, 3) := by decide +kernel
theorem dX0_isStake_9 : decode cX0_isStake 9 = .ok (.iconst 1, 1) := by decide +kernel
theorem dX0_isStake_10 : decode cX0_isStake 10 = .ok (.goto 4, 3) := by decide +kernel
theorem dX0_isStake_13 : decode cX0_isStake 13 = .ok (.iconst 0, 1) := by decide +kernel
theorem dX0_isStake_14 : decode cX0_isStake 14 = .ok (.ireturn, 1) := by decide +kernel
theorem dX0_isWithdrawn_0 : decode cX0_isWithdrawn 0 = .ok (.aload_n 0, 1) := by decide +kernel
theorem dX0_isWithdrawn_1 : decode cX0_isWithdrawn 1 = .ok (.iload_n 1, 1) := by decide +kernel
theorem dX0_isWithdrawn_2 : decode cX0_isWithdrawn 2 = .ok (.iconst 3, 1) := by decide +kernel
theorem dX0_isWithdrawn_3 : decode cX0_isWithdrawn 3 = .ok (.invokevirtual 22, 3) := by decide +kernel
theorem dX0_isWithdrawn_6 : decode cX0_isWithdrawn 6 = .ok (.bipush (-4), 2) := by decide +kernel
theorem dX0_isWithdrawn_8 : decode cX0_isWithdrawn 8 = .ok (.if_icmp .eq 7, 3) := by decide +kernel
theorem dX0_isWithdrawn_11 : decode cX0_isWithdrawn 11 = .ok (.iconst 1, 1) := by decide +kernel
theorem dX0_isWithdrawn_12 : decode cX0_isWithdrawn 12 = .ok (.goto 4, 3) := by decide +kernel
theorem dX0_isWithdrawn_15 : decode cX0_isWithdrawn 15 = .ok (.iconst 0, 1) := by decide +kernel
theorem dX0_isWithdrawn_16 : decode cX0_isWithdrawn 16 = .ok (.ireturn, 1) := by decide +kernel
theorem dX0_isKnown_0 : decode cX0_isKnown 0 = .ok (.aload_n 0, 1) := by decide +kernel
theorem dX0_isKnown_1 : decode cX0_isKnown 1 = .ok (.iload_n 1, 1) := by decide +kernel
theorem dX0_isKnown_2 : decode cX0_isKnown 2 = .ok (.invokevirtual 26, 3) := by decide +kernel
theorem dX0_isKnown_5 : decode cX0_isKnown 5 = .ok (.ifCond .eq 17, 3) := by decide +kernel
theorem dX0_isKnown_8 : decode cX0_isKnown 8 = .ok (.aload_n 0, 1) := by decide +kernel
theorem dX0_isKnown_9 : decode cX0_isKnown 9 = .ok (.iload_n 1, 1) := by decide +kernel
theorem dX0_isKnown_10 : decode cX0_isKnown 10 = .ok (.iconst 3, 1) := by decide +kernel
theorem dX0_isKnown_11 : decode cX0_isKnown 11 = .ok (.invokevirtual 22, 3) := by decide +kernel
theorem dX0_isKnown_14 : decode cX0_isKnown 14 = .ok (.iload_n 2, 1) := by decide +kernel
theorem dX0_isKnown_15 : decode cX0_isKnown 15 = .ok (.if_icmp .gt 7, 3) := by decide +kernel
theorem dX0_isKnown_18 : decode cX0_isKnown 18 = .ok (.iconst 1, 1) := by decide +kernel
theorem dX0_isKnown_19 : decode cX0_isKnown 19 = .ok (.goto 4, 3) := by decide +kernel
theorem dX0_isKnown_22 : decode cX0_isKnown 22 = .ok (.iconst 0, 1) := by decide +kernel
theorem dX0_isKnown_23 : decode cX0_isKnown 23 = .ok (.istore_n 3, 1) := by decide +kernel
theorem dX0_isKnown_24 : decode cX0_isKnown 24 = .ok (.aload_n 0, 1) := by decide +kernel
theorem dX0_isKnown_25 : decode cX0_isKnown 25 = .ok (.iload_n 1, 1) := by decide +kernel
theorem dX0_isKnown_26 : decode cX0_isKnown 26 = .ok (.iconst 2, 1) := by decide +kernel
theorem dX0_isKnown_27 : decode cX0_isKnown 27 = .ok (.invokevirtual 22, 3) := by decide +kernel
theorem dX0_isKnown_30 : decode cX0_isKnown 30 = .ok (.iload_n 2, 1) := by decide +kernel
theorem dX0_isKnown_31 : decode cX0_isKnown 31 = .ok (.if_icmp .gt 11, 3) := by decide +kernel
theorem dX0_isKnown_34 : decode cX0_isKnown 34 = .ok (.iload_n 3, 1) := by decide +kernel
theorem dX0_isKnown_35 : decode cX0_isKnown 35 = .ok (.ifCond .ne 7, 3) := by decide +kernel
theorem dX0_isKnown_38 : decode cX0_isKnown 38 = .ok (.iconst 1, 1) := by decide +kernel
theorem dX0_isKnown_39 : decode cX0_isKnown 39 = .ok (.goto 4, 3) := by decide +kernel
theorem dX0_isKnown_42 : decode cX0_isKnown 42 = .ok (.iconst 0, 1) := by decide +kernel
theorem dX0_isKnown_43 : decode cX0_isKnown 43 = .ok (.ireturn, 1) := by decide +kernel
theorem dX0_countWithdrawn_0 : decode cX0_countWithdrawn 0 = .ok (.iconst 0, 1) := by decide +kernel
theorem dX0_countWithdrawn_1 : decode cX0_countWithdrawn 1 = .ok (.istore_n 1, 1) := by decide +kernel
theorem dX0_countWithdrawn_2 : decode cX0_countWithdrawn 2 = .ok (.iconst 0, 1) := by decide +kernel
theorem dX0_countWithdrawn_3 : decode cX0_countWithdrawn 3 = .ok (.istore_n 2, 1) := by decide +kernel
theorem dX0_countWithdrawn_4 : decode cX0_countWithdrawn 4 = .ok (.iload_n 2, 1) := by decide +kernel
theorem dX0_countWithdrawn_5 : decode cX0_countWithdrawn 5 = .ok (.aload_n 0, 1) := by decide +kernel
theorem dX0_countWithdrawn_6 : decode cX0_countWithdrawn 6 = .ok (.getfield 18, 3) := by decide +kernel
theorem dX0_countWithdrawn_9 : decode cX0_countWithdrawn 9 = .ok (.if_icmp .ge 20, 3) := by decide +kernel
theorem dX0_countWithdrawn_12 : decode cX0_countWithdrawn 12 = .ok (.aload_n 0, 1) := by decide +kernel
theorem dX0_countWithdrawn_13 : decode cX0_countWithdrawn 13 = .ok (.iload_n 2, 1) := by decide +kernel
theorem dX0_countWithdrawn_14 : decode cX0_countWithdrawn 14 = .ok (.invokevirtual 26, 3) := by decide +kernel
theorem dX0_countWithdrawn_17 : decode cX0_countWithdrawn 17 = .ok (.ifCond .eq 6, 3) := by decide +kernel
theorem dX0_countWithdrawn_20 : decode cX0_countWithdrawn 20 = .ok (.iinc 1 1, 3) := by decide +kernel
theorem dX0_countWithdrawn_23 : decode cX0_countWithdrawn 23 = .ok (.iinc 2 1, 3) := by decide +kernel
theorem dX0_countWithdrawn_26 : decode cX0_countWithdrawn 26 = .ok (.goto (-22), 3) := by decide +kernel
theorem dX0_countWithdrawn_29 : decode cX0_countWithdrawn 29 = .ok (.iload_n 1, 1) := by decide +kernel
theorem dX0_countWithdrawn_30 : decode cX0_countWithdrawn 30 = .ok (.ireturn, 1) := by decide +kernel
theorem dX0_get_0 : decode cX0_get 0 = .ok (.aload_n 0, 1) := by decide +kernel
theorem dX0_get_1 : decode cX0_get 1 = .ok (.getfield 9, 3) := by decide +kernel
theorem dX0_get_4 : decode cX0_get 4 = .ok (.iload_n 1, 1) := by decide +kernel
theorem dX0_get_5 : decode cX0_get 5 = .ok (.bipush 11, 2) := by decide +kernel
theorem dX0_get_7 : decode cX0_get 7 = .ok (.imul, 1) := by decide +kernel
theorem dX0_get_8 : decode cX0_get 8 = .ok (.iload_n 2, 1) := by decide +kernel
theorem dX0_get_9 : decode cX0_get 9 = .ok (.iadd, 1) := by decide +kernel
theorem dX0_get_10 : decode cX0_get 10 = .ok (.iaload, 1) := by decide +kernel
theorem dX0_get_11 : decode cX0_get 11 = .ok (.ireturn, 1) := by decide +kernel
theorem dX0_put_0 : decode cX0_put 0 = .ok (.aload_n 0, 1) := by decide +kernel
theorem dX0_put_1 : decode cX0_put 1 = .ok (.getfield 9, 3) := by decide +kernel
theorem dX0_put_4 : decode cX0_put 4 = .ok (.iload_n 1, 1) := by decide +kernel
theorem dX0_put_5 : decode cX0_put 5 = .ok (.bipush 11, 2) := by decide +kernel
theorem dX0_put_7 : decode cX0_put 7 = .ok (.imul, 1) := by decide +kernel
theorem dX0_put_8 : decode cX0_put 8 = .ok (.iload_n 2, 1) := by decide +kernel
theorem dX0_put_9 : decode cX0_put 9 = .ok (.iadd, 1) := by decide +kernel
theorem dX0_put_10 : decode cX0_put 10 = .ok (.iload_n 3, 1) := by decide +kernel
theorem dX0_put_11 : decode cX0_put 11 = .ok (.iastore, 1) := by decide +kernel
theorem dX0_put_12 : decode cX0_put 12 = .ok (.return_, 1) := by decide +kernel
theorem dX0_putFeet_0 : decode cX0_putFeet 0 = .ok (.aload_n 0, 1) := by decide +kernel
theorem dX0_putFeet_1 : decode cX0_putFeet 1 = .ok (.iload_n 1, 1) := by decide +kernel
theorem dX0_putFeet_2 : decode cX0_putFeet 2 = .ok (.bipush 6, 2) := by decide +kernel
theorem dX0_putFeet_4 : decode cX0_putFeet 4 = .ok (.iload_n 2, 1) := by decide +kernel
theorem dX0_putFeet_5 : decode cX0_putFeet 5 = .ok (.invokevirtual 30, 3) := by decide +kernel
theorem dX0_putFeet_8 : decode cX0_putFeet 8 = .ok (.aload_n 0, 1) := by decide +kernel
theorem dX0_putFeet_9 : decode cX0_putFeet 9 = .ok (.iload_n 1, 1) := by decide +kernel
theorem dX0_putFeet_10 : decode cX0_putFeet 10 = .ok (.bipush 7, 2) := by decide +kernel
theorem dX0_putFeet_12 : decode cX0_putFeet 12 = .ok (.iload_n 3, 1) := by decide +kernel
theorem dX0_putFeet_13 : decode cX0_putFeet 13 = .ok (.invokevirtual 30, 3) := by decide +kernel
theorem dX0_putFeet_16 : decode cX0_putFeet 16 = .ok (.return_, 1) := by decide +kernel
theorem dX0_appendOf_0 : decode cX0_appendOf 0 = .ok (.aload_n 0, 1) := by decide +kernel
theorem dX0_appendOf_1 : decode cX0_appendOf 1 = .ok (.iload_n 1, 1) := by decide +kernel
theorem dX0_appendOf_2 : decode cX0_appendOf 2 = .ok (.iload_n 2, 1) := by decide +kernel
theorem dX0_appendOf_3 : decode cX0_appendOf 3 = .ok (.aload_n 0, 1) := by decide +kernel
theorem dX0_appendOf_4 : decode cX0_appendOf 4 = .ok (.iload_n 3, 1) := by decide +kernel
theorem dX0_appendOf_5 : decode cX0_appendOf 5 = .ok (.iconst 4, 1) := by decide +kernel
theorem dX0_appendOf_6 : decode cX0_appendOf 6 = .ok (.invokevirtual 22, 3) := by decide +kernel
theorem dX0_appendOf_9 : decode cX0_appendOf 9 = .ok (.invokevirtual 34, 3) := by decide +kernel
theorem dX0_appendOf_12 : decode cX0_appendOf 12 = .ok (.istore 4, 2) := by decide +kernel
theorem dX0_appendOf_14 : decode cX0_appendOf 14 = .ok (.aload_n 0, 1) := by decide +kernel
theorem dX0_appendOf_15 : decode cX0_appendOf 15 = .ok (.iload 4, 2) := by decide +kernel
theorem dX0_appendOf_17 : decode cX0_appendOf 17 = .ok (.bipush 9, 2) := by decide +kernel
theorem dX0_appendOf_19 : decode cX0_appendOf 19 = .ok (.iload_n 3, 1) := by decide +kernel
theorem dX0_appendOf_20 : decode cX0_appendOf 20 = .ok (.invokevirtual 30, 3) := by decide +kernel
theorem dX0_appendOf_23 : decode cX0_appendOf 23 = .ok (.iload 4, 2) := by decide +kernel
theorem dX0_appendOf_25 : decode cX0_appendOf 25 = .ok (.ireturn, 1) := by decide +kernel
theorem dX0_append_0 : decode cX0_append 0 = .ok (.aload_n 0, 1) := by decide +kernel
theorem dX0_append_1 : decode cX0_append 1 = .ok (.getfield 18, 3) := by decide +kernel
theorem dX0_append_4 : decode cX0_append 4 = .ok (.istore 4, 2) := by decide +kernel
theorem dX0_append_6 : decode cX0_append 6 = .ok (.iconst 0, 1) := by decide +kernel
theorem dX0_append_7 : decode cX0_append 7 = .ok (.istore 5, 2) := by decide +kernel
theorem dX0_append_9 : decode cX0_append 9 = .ok (.iload 5, 2) := by decide +kernel
theorem dX0_append_11 : decode cX0_append 11 = .ok (.bipush 11, 2) := by decide +kernel
theorem dX0_append_13 : decode cX0_append 13 = .ok (.if_icmp .ge 19, 3) := by decide +kernel
theorem dX0_append_16 : decode cX0_append 16 = .ok (.aload_n 0, 1) := by decide +kernel
theorem dX0_append_17 : decode cX0_append 17 = .ok (.iload 4, 2) := by decide +kernel
theorem dX0_append_19 : decode cX0_append 19 = .ok (.iload 5, 2) := by decide +kernel
theorem dX0_append_21 : decode cX0_append 21 = .ok (.bipush (-4), 2) := by decide +kernel
theorem dX0_append_23 : decode cX0_append 23 = .ok (.invokevirtual 30, 3) := by decide +kernel
theorem dX0_append_26 : decode cX0_append 26 = .ok (.iinc 5 1, 3) := by decide +kernel
theorem dX0_append_29 : decode cX0_append 29 = .ok (.goto (-20), 3) := by decide +kernel
theorem dX0_append_32 : decode cX0_append 32 = .ok (.aload_n 0, 1) := by decide +kernel
theorem dX0_append_33 : decode cX0_append 33 = .ok (.iload 4, 2) := by decide +kernel
theorem dX0_append_35 : decode cX0_append 35 = .ok (.iconst 0, 1) := by decide +kernel
theorem dX0_append_36 : decode cX0_append 36 = .ok (.iload_n 1, 1) := by decide +kernel
theorem dX0_append_37 : decode cX0_append 37 = .ok (.invokevirtual 30, 3) := by decide +kernel
theorem dX0_append_40 : decode cX0_append 40 = .ok (.aload_n 0, 1) := by decide +kernel
theorem dX0_append_41 : decode cX0_append 41 = .ok (.iload 4, 2) := by decide +kernel
theorem dX0_append_43 : decode cX0_append 43 = .ok (.iconst 1, 1) := by decide +kernel
theorem dX0_append_44 : decode cX0_append 44 = .ok (.iload_n 2, 1) := by decide +kernel
theorem dX0_append_45 : decode cX0_append 45 = .ok (.invokevirtual 30, 3) := by decide +kernel
theorem dX0_append_48 : decode cX0_append 48 = .ok (.aload_n 0, 1) := by decide +kernel
theorem dX0_append_49 : decode cX0_append 49 = .ok (.iload 4, 2) := by decide +kernel
theorem dX0_append_51 : decode cX0_append 51 = .ok (.iconst 2, 1) := by decide +kernel
theorem dX0_append_52 : decode cX0_append 52 = .ok (.aload_n 0, 1) := by decide +kernel
theorem dX0_append_53 : decode cX0_append 53 = .ok (.getfield 38, 3) := by decide +kernel
theorem dX0_append_56 : decode cX0_append 56 = .ok (.invokevirtual 30, 3) := by decide +kernel
theorem dX0_append_59 : decode cX0_append 59 = .ok (.aload_n 0, 1) := by decide +kernel
theorem dX0_append_60 : decode cX0_append 60 = .ok (.iload 4, 2) := by decide +kernel
theorem dX0_append_62 : decode cX0_append 62 = .ok (.iconst 4, 1) := by decide +kernel
theorem dX0_append_63 : decode cX0_append 63 = .ok (.iload_n 3, 1) := by decide +kernel
theorem dX0_append_64 : decode cX0_append 64 = .ok (.invokevirtual 30, 3) := by decide +kernel
theorem dX0_append_67 : decode cX0_append 67 = .ok (.aload_n 0, 1) := by decide +kernel
theorem dX0_append_68 : decode cX0_append 68 = .ok (.iload 4, 2) := by decide +kernel
theorem dX0_append_70 : decode cX0_append 70 = .ok (.bipush 8, 2) := by decide +kernel
theorem dX0_append_72 : decode cX0_append 72 = .ok (.iconst 0, 1) := by decide +kernel
theorem dX0_append_73 : decode cX0_append 73 = .ok (.invokevirtual 30, 3) := by decide +kernel
theorem dX0_append_76 : decode cX0_append 76 = .ok (.aload_n 0, 1) := by decide +kernel
theorem dX0_append_77 : decode cX0_append 77 = .ok (.iload 4, 2) := by decide +kernel
theorem dX0_append_79 : decode cX0_append 79 = .ok (.iload_n 2, 1) := by decide +kernel
theorem dX0_append_80 : decode cX0_append 80 = .ok (.invokevirtual 41, 3) := by decide +kernel
theorem dX0_append_83 : decode cX0_append 83 = .ok (.aload_n 0, 1) := by decide +kernel
theorem dX0_append_84 : decode cX0_append 84 = .ok (.dup, 1) := by decide +kernel
theorem dX0_append_85 : decode cX0_append 85 = .ok (.getfield 18, 3) := by decide +kernel
theorem dX0_append_88 : decode cX0_append 88 = .ok (.iconst 1, 1) := by decide +kernel
theorem dX0_append_89 : decode cX0_append 89 = .ok (.iadd, 1) := by decide +kernel
theorem dX0_append_90 : decode cX0_append 90 = .ok (.putfield 18, 3) := by decide +kernel
theorem dX0_append_93 : decode cX0_append 93 = .ok (.iload 4, 2) := by decide +kernel
theorem dX0_append_95 : decode cX0_append 95 = .ok (.ireturn, 1) := by decide +kernel
theorem dX0_setInOrder_0 : decode cX0_setInOrder 0 = .ok (.aload_n 0, 1) := by decide +kernel
theorem dX0_setInOrder_1 : decode cX0_setInOrder 1 = .ok (.getfield 18, 3) := by decide +kernel
theorem dX0_setInOrder_4 : decode cX0_setInOrder 4 = .ok (.istore_n 3, 1) := by decide +kernel
theorem dX0_setInOrder_5 : decode cX0_setInOrder 5 = .ok (.iload_n 3, 1) := by decide +kernel
theorem dX0_setInOrder_6 : decode cX0_setInOrder 6 = .ok (.ifCond .le 40, 3) := by decide +kernel
theorem dX0_setInOrder_9 : decode cX0_setInOrder 9 = .ok (.aload_n 0, 1) := by decide +kernel
theorem dX0_setInOrder_10 : decode cX0_setInOrder 10 = .ok (.aload_n 0, 1) := by decide +kernel
theorem dX0_setInOrder_11 : decode cX0_setInOrder 11 = .ok (.getfield 15, 3) := by decide +kernel
theorem dX0_setInOrder_14 : decode cX0_setInOrder 14 = .ok (.iload_n 3, 1) := by decide +kernel
theorem dX0_setInOrder_15 : decode cX0_setInOrder 15 = .ok (.iconst 1, 1) := by decide +kernel
theorem dX0_setInOrder_16 : decode cX0_setInOrder 16 = .ok (.isub, 1) := by decide +kernel
theorem dX0_setInOrder_17 : decode cX0_setInOrder 17 = .ok (.iaload, 1) := by decide +kernel
theorem dX0_setInOrder_18 : decode cX0_setInOrder 18 = .ok (.iconst 1, 1) := by decide +kernel
theorem dX0_setInOrder_19 : decode cX0_setInOrder 19 = .ok (.invokevirtual 22, 3) := by decide +kernel
theorem dX0_setInOrder_22 : decode cX0_setInOrder 22 = .ok (.iload_n 2, 1) := by decide +kernel
theorem dX0_setInOrder_23 : decode cX0_setInOrder 23 = .ok (.if_icmp .le 23, 3) := by decide +kernel
theorem dX0_setInOrder_26 : decode cX0_setInOrder 26 = .ok (.aload_n 0, 1) := by decide +kernel
theorem dX0_setInOrder_27 : decode cX0_setInOrder 27 = .ok (.getfield 15, 3) := by decide +kernel
theorem dX0_setInOrder_30 : decode cX0_setInOrder 30 = .ok (.iload_n 3, 1) := by decide +kernel
theorem dX0_setInOrder_31 : decode cX0_setInOrder 31 = .ok (.aload_n 0, 1) := by decide +kernel
theorem dX0_setInOrder_32 : decode cX0_setInOrder 32 = .ok (.getfield 15, 3) := by decide +kernel
theorem dX0_setInOrder_35 : decode cX0_setInOrder 35 = .ok (.iload_n 3, 1) := by decide +kernel
theorem dX0_setInOrder_36 : decode cX0_setInOrder 36 = .ok (.iconst 1, 1) := by decide +kernel
theorem dX0_setInOrder_37 : decode cX0_setInOrder 37 = .ok (.isub, 1) := by decide +kernel
theorem dX0_setInOrder_38 : decode cX0_setInOrder 38 = .ok (.iaload, 1) := by decide +kernel
theorem dX0_setInOrder_39 : decode cX0_setInOrder 39 = .ok (.iastore, 1) := by decide +kernel
theorem dX0_setInOrder_40 : decode cX0_setInOrder 40 = .ok (.iinc 3 (-1), 3) := by decide +kernel
theorem dX0_setInOrder_43 : decode cX0_setInOrder 43 = .ok (.goto (-38), 3) := by decide +kernel
theorem dX0_setInOrder_46 : decode cX0_setInOrder 46 = .ok (.aload_n 0, 1) := by decide +kernel
theorem dX0_setInOrder_47 : decode cX0_setInOrder 47 = .ok (.getfield 15, 3) := by decide +kernel
theorem dX0_setInOrder_50 : decode cX0_setInOrder 50 = .ok (.iload_n 3, 1) := by decide +kernel
theorem dX0_setInOrder_51 : decode cX0_setInOrder 51 = .ok (.iload_n 1, 1) := by decide +kernel
theorem dX0_setInOrder_52 : decode cX0_setInOrder 52 = .ok (.iastore, 1) := by decide +kernel
theorem dX0_setInOrder_53 : decode cX0_setInOrder 53 = .ok (.return_, 1) := by decide +kernel
theorem dX0_copyFrom_0 : decode cX0_copyFrom 0 = .ok (.aload_n 0, 1) := by decide +kernel
theorem dX0_copyFrom_1 : decode cX0_copyFrom 1 = .ok (.aload_n 1, 1) := by decide +kernel
theorem dX0_copyFrom_2 : decode cX0_copyFrom 2 = .ok (.getfield 38, 3) := by decide +kernel
theorem dX0_copyFrom_5 : decode cX0_copyFrom 5 = .ok (.putfield 38, 3) := by decide +kernel
theorem dX0_copyFrom_8 : decode cX0_copyFrom 8 = .ok (.aload_n 0, 1) := by decide +kernel
theorem dX0_copyFrom_9 : decode cX0_copyFrom 9 = .ok (.aload_n 1, 1) := by decide +kernel
theorem dX0_copyFrom_10 : decode cX0_copyFrom 10 = .ok (.getfield 18, 3) := by decide +kernel
theorem dX0_copyFrom_13 : decode cX0_copyFrom 13 = .ok (.putfield 18, 3) := by decide +kernel
theorem dX0_copyFrom_16 : decode cX0_copyFrom 16 = .ok (.aload_n 0, 1) := by decide +kernel
theorem dX0_copyFrom_17 : decode cX0_copyFrom 17 = .ok (.aload_n 1, 1) := by decide +kernel
theorem dX0_copyFrom_18 : decode cX0_copyFrom 18 = .ok (.getfield 45, 3) := by decide +kernel
theorem dX0_copyFrom_21 : decode cX0_copyFrom 21 = .ok (.putfield 45, 3) := by decide +kernel
theorem dX0_copyFrom_24 : decode cX0_copyFrom 24 = .ok (.aload_n 1, 1) := by decide +kernel
theorem dX0_copyFrom_25 : decode cX0_copyFrom 25 = .ok (.getfield 9, 3) := by decide +kernel
theorem dX0_copyFrom_28 : decode cX0_copyFrom 28 = .ok (.iconst 0, 1) := by decide +kernel
theorem dX0_copyFrom_29 : decode cX0_copyFrom 29 = .ok (.aload_n 0, 1) := by decide +kernel
theorem dX0_copyFrom_30 : decode cX0_copyFrom 30 = .ok (.getfield 9, 3) := by decide +kernel
theorem dX0_copyFrom_33 : decode cX0_copyFrom 33 = .ok (.iconst 0, 1) := by decide +kernel
theorem dX0_copyFrom_34 : decode cX0_copyFrom 34 = .ok (.aload_n 0, 1) := by decide +kernel
theorem dX0_copyFrom_35 : decode cX0_copyFrom 35 = .ok (.getfield 9, 3) := by decide +kernel
theorem dX0_copyFrom_38 : decode cX0_copyFrom 38 = .ok (.arraylength, 1) := by decide +kernel
theorem dX0_copyFrom_39 : decode cX0_copyFrom 39 = .ok (.invokestatic 48, 3) := by decide +kernel
theorem dX0_copyFrom_42 : decode cX0_copyFrom 42 = .ok (.aload_n 1, 1) := by decide +kernel
theorem dX0_copyFrom_43 : decode cX0_copyFrom 43 = .ok (.getfield 15, 3) := by decide +kernel
theorem dX0_copyFrom_46 : decode cX0_copyFrom 46 = .ok (.iconst 0, 1) := by decide +kernel
theorem dX0_copyFrom_47 : decode cX0_copyFrom 47 = .ok (.aload_n 0, 1) := by decide +kernel
theorem dX0_copyFrom_48 : decode cX0_copyFrom 48 = .ok (.getfield 15, 3) := by decide +kernel
theorem dX0_copyFrom_51 : decode cX0_copyFrom 51 = .ok (.iconst 0, 1) := by decide +kernel
theorem dX0_copyFrom_52 : decode cX0_copyFrom 52 = .ok (.aload_n 0, 1) := by decide +kernel
theorem dX0_copyFrom_53 : decode cX0_copyFrom 53 = .ok (.getfield 15, 3) := by decide +kernel
theorem dX0_copyFrom_56 : decode cX0_copyFrom 56 = .ok (.arraylength, 1) := by decide +kernel
theorem dX0_copyFrom_57 : decode cX0_copyFrom 57 = .ok (.invokestatic 48, 3) := by decide +kernel
theorem dX0_copyFrom_60 : decode cX0_copyFrom 60 = .ok (.return_, 1) := by decide +kernel
