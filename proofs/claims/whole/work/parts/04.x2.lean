theorem dX2_init_0 : decode cX2_init 0 = .ok (.aload_n 0, 1) := by decide +kernel
theorem dX2_init_1 : decode cX2_init 1 = .ok (.invokespecial 3, 3) := by decide +kernel
theorem dX2_init_4 : decode cX2_init 4 = .ok (.aload_n 0, 1) := by decide +kernel
theorem dX2_init_5 : decode cX2_init 5 = .ok (.bipush 20, 2) := by decide +kernel
theorem dX2_init_7 : decode cX2_init 7 = .ok (.anewarray 9, 3) := by decide +kernel
theorem dX2_init_10 : decode cX2_init 10 = .ok (.putfield 11, 3) := by decide +kernel
theorem dX2_init_13 : decode cX2_init 13 = .ok (.aload_n 0, 1) := by decide +kernel
theorem dX2_init_14 : decode cX2_init 14 = .ok (.bipush 11, 2) := by decide +kernel
theorem dX2_init_16 : decode cX2_init 16 = .ok (.newarray .int, 2) := by decide +kernel
theorem dX2_init_18 : decode cX2_init 18 = .ok (.putfield 17, 3) := by decide +kernel
theorem dX2_init_21 : decode cX2_init 21 = .ok (.iconst 0, 1) := by decide +kernel
theorem dX2_init_22 : decode cX2_init 22 = .ok (.istore_n 1, 1) := by decide +kernel
theorem dX2_init_23 : decode cX2_init 23 = .ok (.iload_n 1, 1) := by decide +kernel
theorem dX2_init_24 : decode cX2_init 24 = .ok (.bipush 20, 2) := by decide +kernel
theorem dX2_init_26 : decode cX2_init 26 = .ok (.if_icmp .ge 22, 3) := by decide +kernel
theorem dX2_init_29 : decode cX2_init 29 = .ok (.aload_n 0, 1) := by decide +kernel
theorem dX2_init_30 : decode cX2_init 30 = .ok (.getfield 11, 3) := by decide +kernel
theorem dX2_init_33 : decode cX2_init 33 = .ok (.iload_n 1, 1) := by decide +kernel
theorem dX2_init_34 : decode cX2_init 34 = .ok (.new 9, 3) := by decide +kernel
theorem dX2_init_37 : decode cX2_init 37 = .ok (.dup, 1) := by decide +kernel
theorem dX2_init_38 : decode cX2_init 38 = .ok (.invokespecial 21, 3) := by decide +kernel
theorem dX2_init_41 : decode cX2_init 41 = .ok (.aastore, 1) := by decide +kernel
theorem dX2_init_42 : decode cX2_init 42 = .ok (.iinc 1 1, 3) := by decide +kernel
theorem dX2_init_45 : decode cX2_init 45 = .ok (.goto (-22), 3) := by decide +kernel
theorem dX2_init_48 : decode cX2_init 48 = .ok (.return_, 1) := by decide +kernel
theorem dX2_goThrough_0 : decode cX2_goThrough 0 = .ok (.aload_n 0, 1) := by decide +kernel
theorem dX2_goThrough_1 : decode cX2_goThrough 1 = .ok (.invokevirtual 22, 3) := by decide +kernel
theorem dX2_goThrough_4 : decode cX2_goThrough 4 = .ok (.iconst 0, 1) := by decide +kernel
theorem dX2_goThrough_5 : decode cX2_goThrough 5 = .ok (.istore 5, 2) := by decide +kernel
theorem dX2_goThrough_7 : decode cX2_goThrough 7 = .ok (.iload 5, 2) := by decide +kernel
theorem dX2_goThrough_9 : decode cX2_goThrough 9 = .ok (.aload_n 1, 1) := by decide +kernel
theorem dX2_goThrough_10 : decode cX2_goThrough 10 = .ok (.getfield 25, 3) := by decide +kernel
theorem dX2_goThrough_13 : decode cX2_goThrough 13 = .ok (.if_icmp .ge 49, 3) := by decide +kernel
theorem dX2_goThrough_16 : decode cX2_goThrough 16 = .ok (.aload_n 1, 1) := by decide +kernel
theorem dX2_goThrough_17 : decode cX2_goThrough 17 = .ok (.getfield 31, 3) := by decide +kernel
theorem dX2_goThrough_20 : decode cX2_goThrough 20 = .ok (.iload 5, 2) := by decide +kernel
theorem dX2_goThrough_22 : decode cX2_goThrough 22 = .ok (.iaload, 1) := by decide +kernel
theorem dX2_goThrough_23 : decode cX2_goThrough 23 = .ok (.istore 6, 2) := by decide +kernel
theorem dX2_goThrough_25 : decode cX2_goThrough 25 = .ok (.aload_n 1, 1) := by decide +kernel
theorem dX2_goThrough_26 : decode cX2_goThrough 26 = .ok (.iload 6, 2) := by decide +kernel
theorem dX2_goThrough_28 : decode cX2_goThrough 28 = .ok (.iconst 1, 1) := by decide +kernel
theorem dX2_goThrough_29 : decode cX2_goThrough 29 = .ok (.invokevirtual 34, 3) := by decide +kernel
theorem dX2_goThrough_32 : decode cX2_goThrough 32 = .ok (.iload_n 2, 1) := by decide +kernel
theorem dX2_goThrough_33 : decode cX2_goThrough 33 = .ok (.if_icmp .le 4, 3) := by decide +kernel
theorem dX2_goThrough_36 : decode cX2_goThrough 36 = .ok (.return_, 1) := by decide +kernel
theorem dX2_goThrough_37 : decode cX2_goThrough 37 = .ok (.aload_n 1, 1) := by decide +kernel
theorem dX2_goThrough_38 : decode cX2_goThrough 38 = .ok (.iload 6, 2) := by decide +kernel
theorem dX2_goThrough_40 : decode cX2_goThrough 40 = .ok (.iload_n 3, 1) := by decide +kernel
theorem dX2_goThrough_41 : decode cX2_goThrough 41 = .ok (.invokevirtual 38, 3) := by decide +kernel
theorem dX2_goThrough_44 : decode cX2_goThrough 44 = .ok (.ifCond .eq 12, 3) := by decide +kernel
theorem dX2_goThrough_47 : decode cX2_goThrough 47 = .ok (.aload_n 0, 1) := by decide +kernel
theorem dX2_goThrough_48 : decode cX2_goThrough 48 = .ok (.aload_n 1, 1) := by decide +kernel
theorem dX2_goThrough_49 : decode cX2_goThrough 49 = .ok (.iload 6, 2) := by decide +kernel
theorem dX2_goThrough_51 : decode cX2_goThrough 51 = .ok (.iload 4, 2) := by decide +kernel
theorem dX2_goThrough_53 : decode cX2_goThrough 53 = .ok (.invokevirtual 42, 3) := by decide +kernel
theorem dX2_goThrough_56 : decode cX2_goThrough 56 = .ok (.iinc 5 1, 3) := by decide +kernel
theorem dX2_goThrough_59 : decode cX2_goThrough 59 = .ok (.goto (-52), 3) := by decide +kernel
theorem dX2_goThrough_62 : decode cX2_goThrough 62 = .ok (.return_, 1) := by decide +kernel
theorem dX2_find_0 : decode cX2_find 0 = .ok (.iconst 0, 1) := by decide +kernel
theorem dX2_find_1 : decode cX2_find 1 = .ok (.istore_n 2, 1) := by decide +kernel
theorem dX2_find_2 : decode cX2_find 2 = .ok (.iload_n 2, 1) := by decide +kernel
theorem dX2_find_3 : decode cX2_find 3 = .ok (.aload_n 0, 1) := by decide +kernel
theorem dX2_find_4 : decode cX2_find 4 = .ok (.getfield 46, 3) := by decide +kernel
theorem dX2_find_7 : decode cX2_find 7 = .ok (.if_icmp .ge 41, 3) := by decide +kernel
theorem dX2_find_10 : decode cX2_find 10 = .ok (.aload_n 0, 1) := by decide +kernel
theorem dX2_find_11 : decode cX2_find 11 = .ok (.getfield 11, 3) := by decide +kernel
theorem dX2_find_14 : decode cX2_find 14 = .ok (.iload_n 2, 1) := by decide +kernel
theorem dX2_find_15 : decode cX2_find 15 = .ok (.aaload, 1) := by decide +kernel
theorem dX2_find_16 : decode cX2_find 16 = .ok (.getfield 47, 3) := by decide +kernel
theorem dX2_find_19 : decode cX2_find 19 = .ok (.ifCond .eq 23, 3) := by decide +kernel
theorem dX2_find_22 : decode cX2_find 22 = .ok (.aload_n 0, 1) := by decide +kernel
theorem dX2_find_23 : decode cX2_find 23 = .ok (.getfield 11, 3) := by decide +kernel
theorem dX2_find_26 : decode cX2_find 26 = .ok (.iload_n 2, 1) := by decide +kernel
theorem dX2_find_27 : decode cX2_find 27 = .ok (.aaload, 1) := by decide +kernel
theorem dX2_find_28 : decode cX2_find 28 = .ok (.getfield 51, 3) := by decide +kernel
theorem dX2_find_31 : decode cX2_find 31 = .ok (.iload_n 1, 1) := by decide +kernel
theorem dX2_find_32 : decode cX2_find 32 = .ok (.if_icmp .ne 10, 3) := by decide +kernel
theorem dX2_find_35 : decode cX2_find 35 = .ok (.aload_n 0, 1) := by decide +kernel
theorem dX2_find_36 : decode cX2_find 36 = .ok (.getfield 11, 3) := by decide +kernel
theorem dX2_find_39 : decode cX2_find 39 = .ok (.iload_n 2, 1) := by decide +kernel
theorem dX2_find_40 : decode cX2_find 40 = .ok (.aaload, 1) := by decide +kernel
theorem dX2_find_41 : decode cX2_find 41 = .ok (.areturn, 1) := by decide +kernel
theorem dX2_find_42 : decode cX2_find 42 = .ok (.iinc 2 1, 3) := by decide +kernel
theorem dX2_find_45 : decode cX2_find 45 = .ok (.goto (-43), 3) := by decide +kernel
theorem dX2_find_48 : decode cX2_find 48 = .ok (.aconst_null, 1) := by decide +kernel
theorem dX2_find_49 : decode cX2_find 49 = .ok (.areturn, 1) := by decide +kernel
theorem dX2_eldestOver_0 : decode cX2_eldestOver 0 = .ok (.iconst 0, 1) := by decide +kernel
theorem dX2_eldestOver_1 : decode cX2_eldestOver 1 = .ok (.istore_n 3, 1) := by decide +kernel
theorem dX2_eldestOver_2 : decode cX2_eldestOver 2 = .ok (.iload_n 3, 1) := by decide +kernel
theorem dX2_eldestOver_3 : decode cX2_eldestOver 3 = .ok (.aload_n 0, 1) := by decide +kernel
theorem dX2_eldestOver_4 : decode cX2_eldestOver 4 = .ok (.getfield 46, 3) := by decide +kernel
theorem dX2_eldestOver_7 : decode cX2_eldestOver 7 = .ok (.if_icmp .ge 30, 3) := by decide +kernel
theorem dX2_eldestOver_10 : decode cX2_eldestOver 10 = .ok (.aload_n 0, 1) := by decide +kernel
theorem dX2_eldestOver_11 : decode cX2_eldestOver 11 = .ok (.getfield 11, 3) := by decide +kernel
theorem dX2_eldestOver_14 : decode cX2_eldestOver 14 = .ok (.iload_n 3, 1) := by decide +kernel
theorem dX2_eldestOver_15 : decode cX2_eldestOver 15 = .ok (.aaload, 1) := by decide +kernel
theorem dX2_eldestOver_16 : decode cX2_eldestOver 16 = .ok (.iload_n 1, 1) := by decide +kernel
theorem dX2_eldestOver_17 : decode cX2_eldestOver 17 = .ok (.iload_n 2, 1) := by decide +kernel
theorem dX2_eldestOver_18 : decode cX2_eldestOver 18 = .ok (.invokevirtual 54, 3) := by decide +kernel
theorem dX2_eldestOver_21 : decode cX2_eldestOver 21 = .ok (.ifCond .eq 10, 3) := by decide +kernel
theorem dX2_eldestOver_24 : decode cX2_eldestOver 24 = .ok (.aload_n 0, 1) := by decide +kernel
theorem dX2_eldestOver_25 : decode cX2_eldestOver 25 = .ok (.getfield 11, 3) := by decide +kernel
theorem dX2_eldestOver_28 : decode cX2_eldestOver 28 = .ok (.iload_n 3, 1) := by decide +kernel
theorem dX2_eldestOver_29 : decode cX2_eldestOver 29 = .ok (.aaload, 1) := by decide +kernel
theorem dX2_eldestOver_30 : decode cX2_eldestOver 30 = .ok (.areturn, 1) := by decide +kernel
theorem dX2_eldestOver_31 : decode cX2_eldestOver 31 = .ok (.iinc 3 1, 3) := by decide +kernel
theorem dX2_eldestOver_34 : decode cX2_eldestOver 34 = .ok (.goto (-32), 3) := by decide +kernel
theorem dX2_eldestOver_37 : decode cX2_eldestOver 37 = .ok (.aconst_null, 1) := by decide +kernel
theorem dX2_eldestOver_38 : decode cX2_eldestOver 38 = .ok (.areturn, 1) := by decide +kernel
theorem dX2_holderOver_0 : decode cX2_holderOver 0 = .ok (.aload_n 0, 1) := by decide +kernel
theorem dX2_holderOver_1 : decode cX2_holderOver 1 = .ok (.iload_n 1, 1) := by decide +kernel
theorem dX2_holderOver_2 : decode cX2_holderOver 2 = .ok (.iload_n 2, 1) := by decide +kernel
theorem dX2_holderOver_3 : decode cX2_holderOver 3 = .ok (.invokevirtual 57, 3) := by decide +kernel
theorem dX2_holderOver_6 : decode cX2_holderOver 6 = .ok (.astore_n 3, 1) := by decide +kernel
theorem dX2_holderOver_7 : decode cX2_holderOver 7 = .ok (.aload_n 3, 1) := by decide +kernel
theorem dX2_holderOver_8 : decode cX2_holderOver 8 = .ok (.ifnonnull 8, 3) := by decide +kernel
theorem dX2_holderOver_11 : decode cX2_holderOver 11 = .ok (.bipush (-4), 2) := by decide +kernel
theorem dX2_holderOver_13 : decode cX2_holderOver 13 = .ok (.goto 7, 3) := by decide +kernel
theorem dX2_holderOver_16 : decode cX2_holderOver 16 = .ok (.aload_n 3, 1) := by decide +kernel
theorem dX2_holderOver_17 : decode cX2_holderOver 17 = .ok (.getfield 61, 3) := by decide +kernel
theorem dX2_holderOver_20 : decode cX2_holderOver 20 = .ok (.ireturn, 1) := by decide +kernel
theorem dX2_countOver_0 : decode cX2_countOver 0 = .ok (.iconst 0, 1) := by decide +kernel
theorem dX2_countOver_1 : decode cX2_countOver 1 = .ok (.istore_n 3, 1) := by decide +kernel
theorem dX2_countOver_2 : decode cX2_countOver 2 = .ok (.iconst 0, 1) := by decide +kernel
theorem dX2_countOver_3 : decode cX2_countOver 3 = .ok (.istore 4, 2) := by decide +kernel
theorem dX2_countOver_5 : decode cX2_countOver 5 = .ok (.iload 4, 2) := by decide +kernel
theorem dX2_countOver_7 : decode cX2_countOver 7 = .ok (.aload_n 0, 1) := by decide +kernel
theorem dX2_countOver_8 : decode cX2_countOver 8 = .ok (.getfield 46, 3) := by decide +kernel
theorem dX2_countOver_11 : decode cX2_countOver 11 = .ok (.if_icmp .ge 27, 3) := by decide +kernel
theorem dX2_countOver_14 : decode cX2_countOver 14 = .ok (.aload_n 0, 1) := by decide +kernel
theorem dX2_countOver_15 : decode cX2_countOver 15 = .ok (.getfield 11, 3) := by decide +kernel
theorem dX2_countOver_18 : decode cX2_countOver 18 = .ok (.iload 4, 2) := by decide +kernel
theorem dX2_countOver_20 : decode cX2_countOver 20 = .ok (.aaload, 1) := by decide +kernel
theorem dX2_countOver_21 : decode cX2_countOver 21 = .ok (.iload_n 1, 1) := by decide +kernel
theorem dX2_countOver_22 : decode cX2_countOver 22 = .ok (.iload_n 2, 1) := by decide +kernel
theorem dX2_countOver_23 : decode cX2_countOver 23 = .ok (.invokevirtual 54, 3) := by decide +kernel
theorem dX2_countOver_26 : decode cX2_countOver 26 = .ok (.ifCond .eq 6, 3) := by decide +kernel
theorem dX2_countOver_29 : decode cX2_countOver 29 = .ok (.iinc 3 1, 3) := by decide +kernel
theorem dX2_countOver_32 : decode cX2_countOver 32 = .ok (.iinc 4 1, 3) := by decide +kernel
theorem dX2_countOver_35 : decode cX2_countOver 35 = .ok (.goto (-30), 3) := by decide +kernel
theorem dX2_countOver_38 : decode cX2_countOver 38 = .ok (.iload_n 3, 1) := by decide +kernel
theorem dX2_countOver_39 : decode cX2_countOver 39 = .ok (.ireturn, 1) := by decide +kernel
theorem dX2_countOwned_0 : decode cX2_countOwned 0 = .ok (.iconst 0, 1) := by decide +kernel
theorem dX2_countOwned_1 : decode cX2_countOwned 1 = .ok (.istore_n 2, 1) := by decide +kernel
theorem dX2_countOwned_2 : decode cX2_countOwned 2 = .ok (.aload_n 1, 1) := by decide +kernel
theorem dX2_countOwned_3 : decode cX2_countOwned 3 = .ok (.getfield 64, 3) := by decide +kernel
theorem dX2_countOwned_6 : decode cX2_countOwned 6 = .ok (.istore_n 3, 1) := by decide +kernel
theorem dX2_countOwned_7 : decode cX2_countOwned 7 = .ok (.iload_n 3, 1) := by decide +kernel
theorem dX2_countOwned_8 : decode cX2_countOwned 8 = .ok (.aload_n 1, 1) := by decide +kernel
theorem dX2_countOwned_9 : decode cX2_countOwned 9 = .ok (.getfield 67, 3) := by decide +kernel
theorem dX2_countOwned_12 : decode cX2_countOwned 12 = .ok (.if_icmp .gt 40, 3) := by decide +kernel
theorem dX2_countOwned_15 : decode cX2_countOwned 15 = .ok (.aload_n 0, 1) := by decide +kernel
theorem dX2_countOwned_16 : decode cX2_countOwned 16 = .ok (.aload_n 1, 1) := by decide +kernel
theorem dX2_countOwned_17 : decode cX2_countOwned 17 = .ok (.getfield 70, 3) := by decide +kernel
theorem dX2_countOwned_20 : decode cX2_countOwned 20 = .ok (.iload_n 3, 1) := by decide +kernel
theorem dX2_countOwned_21 : decode cX2_countOwned 21 = .ok (.invokevirtual 57, 3) := by decide +kernel
theorem dX2_countOwned_24 : decode cX2_countOwned 24 = .ok (.astore 4, 2) := by decide +kernel
theorem dX2_countOwned_26 : decode cX2_countOwned 26 = .ok (.aload 4, 2) := by decide +kernel
theorem dX2_countOwned_28 : decode cX2_countOwned 28 = .ok (.ifnull 18, 3) := by decide +kernel
theorem dX2_countOwned_31 : decode cX2_countOwned 31 = .ok (.aload 4, 2) := by decide +kernel
theorem dX2_countOwned_33 : decode cX2_countOwned 33 = .ok (.getfield 51, 3) := by decide +kernel
theorem dX2_countOwned_36 : decode cX2_countOwned 36 = .ok (.aload_n 1, 1) := by decide +kernel
theorem dX2_countOwned_37 : decode cX2_countOwned 37 = .ok (.getfield 51, 3) := by decide +kernel
theorem dX2_countOwned_40 : decode cX2_countOwned 40 = .ok (.if_icmp .ne 6, 3) := by decide +kernel
theorem dX2_countOwned_43 : decode cX2_countOwned 43 = .ok (.iinc 2 1, 3) := by decide +kernel
theorem dX2_countOwned_46 : decode cX2_countOwned 46 = .ok (.iinc 3 1, 3) := by decide +kernel
theorem dX2_countOwned_49 : decode cX2_countOwned 49 = .ok (.goto (-42), 3) := by decide +kernel
theorem dX2_countOwned_52 : decode cX2_countOwned 52 = .ok (.iload_n 2, 1) := by decide +kernel
theorem dX2_countOwned_53 : decode cX2_countOwned 53 = .ok (.ireturn, 1) := by decide +kernel
theorem dX2_clear_0 : decode cX2_clear 0 = .ok (.aload_n 0, 1) := by decide +kernel
theorem dX2_clear_1 : decode cX2_clear 1 = .ok (.iconst 0, 1) := by decide +kernel
theorem dX2_clear_2 : decode cX2_clear 2 = .ok (.putfield 46, 3) := by decide +kernel
theorem dX2_clear_5 : decode cX2_clear 5 = .ok (.iconst 0, 1) := by decide +kernel
theorem dX2_clear_6 : decode cX2_clear 6 = .ok (.istore_n 1, 1) := by decide +kernel
theorem dX2_clear_7 : decode cX2_clear 7 = .ok (.iload_n 1, 1) := by decide +kernel
theorem dX2_clear_8 : decode cX2_clear 8 = .ok (.aload_n 0, 1) := by decide +kernel
theorem dX2_clear_9 : decode cX2_clear 9 = .ok (.getfield 17, 3) := by decide +kernel
theorem dX2_clear_12 : decode cX2_clear 12 = .ok (.arraylength, 1) := by decide +kernel
theorem dX2_clear_13 : decode cX2_clear 13 = .ok (.if_icmp .ge 16, 3) := by decide +kernel
theorem dX2_clear_16 : decode cX2_clear 16 = .ok (.aload_n 0, 1) := by decide +kernel
theorem dX2_clear_17 : decode cX2_clear 17 = .ok (.getfield 17, 3) := by decide +kernel
theorem dX2_clear_20 : decode cX2_clear 20 = .ok (.iload_n 1, 1) := by decide +kernel
theorem dX2_clear_21 : decode cX2_clear 21 = .ok (.iconst 0, 1) := by decide +kernel
theorem dX2_clear_22 : decode cX2_clear 22 = .ok (.iastore, 1) := by decide +kernel
theorem dX2_clear_23 : decode cX2_clear 23 = .ok (.iinc 1 1, 3) := by decide +kernel
theorem dX2_clear_26 : decode cX2_clear 26 = .ok (.goto (-19), 3) := by decide +kernel
theorem dX2_clear_29 : decode cX2_clear 29 = .ok (.return_, 1) := by decide +kernel
theorem dX2_apply_0 : decode cX2_apply 0 = .ok (.aload_n 1, 1) := by decide +kernel
theorem dX2_apply_1 : decode cX2_apply 1 = .ok (.iload_n 2, 1) := by decide +kernel
theorem dX2_apply_2 : decode cX2_apply 2 = .ok (.iconst 0, 1) := by decide +kernel
theorem dX2_apply_3 : decode cX2_apply 3 = .ok (.invokevirtual 34, 3) := by decide +kernel
theorem dX2_apply_6 : decode cX2_apply 6 = .ok (.istore 4, 2) := by decide +kernel
theorem dX2_apply_8 : decode cX2_apply 8 = .ok (.iload 4, 2) := by decide +kernel
theorem dX2_apply_10 : decode cX2_apply 10 = .ok (.ifCond .ne 12, 3) := by decide +kernel
theorem dX2_apply_13 : decode cX2_apply 13 = .ok (.aload_n 0, 1) := by decide +kernel
theorem dX2_apply_14 : decode cX2_apply 14 = .ok (.aload_n 1, 1) := by decide +kernel
theorem dX2_apply_15 : decode cX2_apply 15 = .ok (.iload_n 2, 1) := by decide +kernel
theorem dX2_apply_16 : decode cX2_apply 16 = .ok (.invokevirtual 73, 3) := by decide +kernel
theorem dX2_apply_19 : decode cX2_apply 19 = .ok (.goto 63, 3) := by decide +kernel
theorem dX2_apply_22 : decode cX2_apply 22 = .ok (.iload 4, 2) := by decide +kernel
theorem dX2_apply_24 : decode cX2_apply 24 = .ok (.bipush 6, 2) := by decide +kernel
theorem dX2_apply_26 : decode cX2_apply 26 = .ok (.if_icmp .ne 30, 3) := by decide +kernel
theorem dX2_apply_29 : decode cX2_apply 29 = .ok (.aload_n 0, 1) := by decide +kernel
theorem dX2_apply_30 : decode cX2_apply 30 = .ok (.aload_n 1, 1) := by decide +kernel
theorem dX2_apply_31 : decode cX2_apply 31 = .ok (.iload_n 2, 1) := by decide +kernel
theorem dX2_apply_32 : decode cX2_apply 32 = .ok (.iconst 4, 1) := by decide +kernel
theorem dX2_apply_33 : decode cX2_apply 33 = .ok (.invokevirtual 34, 3) := by decide +kernel
theorem dX2_apply_36 : decode cX2_apply 36 = .ok (.aload_n 1, 1) := by decide +kernel
theorem dX2_apply_37 : decode cX2_apply 37 = .ok (.iload_n 2, 1) := by decide +kernel
theorem dX2_apply_38 : decode cX2_apply 38 = .ok (.bipush 6, 2) := by decide +kernel
theorem dX2_apply_40 : decode cX2_apply 40 = .ok (.invokevirtual 34, 3) := by decide +kernel
theorem dX2_apply_43 : decode cX2_apply 43 = .ok (.aload_n 1, 1) := by decide +kernel
theorem dX2_apply_44 : decode cX2_apply 44 = .ok (.iload_n 2, 1) := by decide +kernel
theorem dX2_apply_45 : decode cX2_apply 45 = .ok (.bipush 8, 2) := by decide +kernel
theorem dX2_apply_47 : decode cX2_apply 47 = .ok (.invokevirtual 34, 3) := by decide +kernel
theorem dX2_apply_50 : decode cX2_apply 50 = .ok (.invokevirtual 77, 3) := by decide +kernel
theorem dX2_apply_53 : decode cX2_apply 53 = .ok (.goto 29, 3) := by decide +kernel
theorem dX2_apply_56 : decode cX2_apply 56 = .ok (.aload_n 0, 1) := by decide +kernel
theorem dX2_apply_57 : decode cX2_apply 57 = .ok (.aload_n 1, 1) := by decide +kernel
theorem dX2_apply_58 : decode cX2_apply 58 = .ok (.iload_n 2, 1) := by decide +kernel
theorem dX2_apply_59 : decode cX2_apply 59 = .ok (.bipush 9, 2) := by decide +kernel
theorem dX2_apply_61 : decode cX2_apply 61 = .ok (.invokevirtual 34, 3) := by decide +kernel
theorem dX2_apply_64 : decode cX2_apply 64 = .ok (.invokevirtual 81, 3) := by decide +kernel
theorem dX2_apply_67 : decode cX2_apply 67 = .ok (.astore 5, 2) := by decide +kernel
theorem dX2_apply_69 : decode cX2_apply 69 = .ok (.aload 5, 2) := by decide +kernel
theorem dX2_apply_71 : decode cX2_apply 71 = .ok (.ifnull 11, 3) := by decide +kernel
theorem dX2_apply_74 : decode cX2_apply 74 = .ok (.aload 5, 2) := by decide +kernel
theorem dX2_apply_76 : decode cX2_apply 76 = .ok (.aload_n 1, 1) := by decide +kernel
theorem dX2_apply_77 : decode cX2_apply 77 = .ok (.iload_n 2, 1) := by decide +kernel
theorem dX2_apply_78 : decode cX2_apply 78 = .ok (.iload_n 3, 1) := by decide +kernel
theorem dX2_apply_79 : decode cX2_apply 79 = .ok (.invokevirtual 85, 3) := by decide +kernel
theorem dX2_apply_82 : decode cX2_apply 82 = .ok (.return_, 1) := by decide +kernel
theorem dX2_addClaim_0 : decode cX2_addClaim 0 = .ok (.aload_n 0, 1) := by decide +kernel
theorem dX2_addClaim_1 : decode cX2_addClaim 1 = .ok (.getfield 46, 3) := by decide +kernel
theorem dX2_addClaim_4 : decode cX2_addClaim 4 = .ok (.bipush 20, 2) := by decide +kernel
theorem dX2_addClaim_6 : decode cX2_addClaim 6 = .ok (.if_icmp .ge 27, 3) := by decide +kernel
theorem dX2_addClaim_9 : decode cX2_addClaim 9 = .ok (.aload_n 0, 1) := by decide +kernel
theorem dX2_addClaim_10 : decode cX2_addClaim 10 = .ok (.getfield 11, 3) := by decide +kernel
theorem dX2_addClaim_13 : decode cX2_addClaim 13 = .ok (.aload_n 0, 1) := by decide +kernel
theorem dX2_addClaim_14 : decode cX2_addClaim 14 = .ok (.getfield 46, 3) := by decide +kernel
theorem dX2_addClaim_17 : decode cX2_addClaim 17 = .ok (.aaload, 1) := by decide +kernel
theorem dX2_addClaim_18 : decode cX2_addClaim 18 = .ok (.aload_n 1, 1) := by decide +kernel
theorem dX2_addClaim_19 : decode cX2_addClaim 19 = .ok (.iload_n 2, 1) := by decide +kernel
theorem dX2_addClaim_20 : decode cX2_addClaim 20 = .ok (.invokevirtual 88, 3) := by decide +kernel
theorem dX2_addClaim_23 : decode cX2_addClaim 23 = .ok (.aload_n 0, 1) := by decide +kernel
theorem dX2_addClaim_24 : decode cX2_addClaim 24 = .ok (.dup, 1) := by decide +kernel
theorem dX2_addClaim_25 : decode cX2_addClaim 25 = .ok (.getfield 46, 3) := by decide +kernel
theorem dX2_addClaim_28 : decode cX2_addClaim 28 = .ok (.iconst 1, 1) := by decide +kernel
theorem dX2_addClaim_29 : decode cX2_addClaim 29 = .ok (.iadd, 1) := by decide +kernel
theorem dX2_addClaim_30 : decode cX2_addClaim 30 = .ok (.putfield 46, 3) := by decide +kernel
theorem dX2_addClaim_33 : decode cX2_addClaim 33 = .ok (.return_, 1) := by decide +kernel
theorem dX2_bringOre_0 : decode cX2_bringOre 0 = .ok (.aload_n 0, 1) := by decide +kernel
theorem dX2_bringOre_1 : decode cX2_bringOre 1 = .ok (.iload_n 1, 1) := by decide +kernel
theorem dX2_bringOre_2 : decode cX2_bringOre 2 = .ok (.iload_n 2, 1) := by decide +kernel
theorem dX2_bringOre_3 : decode cX2_bringOre 3 = .ok (.invokevirtual 57, 3) := by decide +kernel
theorem dX2_bringOre_6 : decode cX2_bringOre 6 = .ok (.astore 4, 2) := by decide +kernel
theorem dX2_bringOre_8 : decode cX2_bringOre 8 = .ok (.aload 4, 2) := by decide +kernel
theorem dX2_bringOre_10 : decode cX2_bringOre 10 = .ok (.ifnonnull 18, 3) := by decide +kernel
theorem dX2_bringOre_13 : decode cX2_bringOre 13 = .ok (.aload_n 0, 1) := by decide +kernel
theorem dX2_bringOre_14 : decode cX2_bringOre 14 = .ok (.getfield 17, 3) := by decide +kernel
theorem dX2_bringOre_17 : decode cX2_bringOre 17 = .ok (.bipush 10, 2) := by decide +kernel
theorem dX2_bringOre_19 : decode cX2_bringOre 19 = .ok (.dup2, 1) := by decide +kernel
theorem dX2_bringOre_20 : decode cX2_bringOre 20 = .ok (.iaload, 1) := by decide +kernel
theorem dX2_bringOre_21 : decode cX2_bringOre 21 = .ok (.iload_n 3, 1) := by decide +kernel
theorem dX2_bringOre_22 : decode cX2_bringOre 22 = .ok (.bipush 24, 2) := by decide +kernel
theorem dX2_bringOre_24 : decode cX2_bringOre 24 = .ok (.imul, 1) := by decide +kernel
theorem dX2_bringOre_25 : decode cX2_bringOre 25 = .ok (.iadd, 1) := by decide +kernel
theorem dX2_bringOre_26 : decode cX2_bringOre 26 = .ok (.iastore, 1) := by decide +kernel
theorem dX2_bringOre_27 : decode cX2_bringOre 27 = .ok (.return_, 1) := by decide +kernel
theorem dX2_bringOre_28 : decode cX2_bringOre 28 = .ok (.iconst 0, 1) := by decide +kernel
theorem dX2_bringOre_29 : decode cX2_bringOre 29 = .ok (.istore 5, 2) := by decide +kernel
theorem dX2_bringOre_31 : decode cX2_bringOre 31 = .ok (.iload 5, 2) := by decide +kernel
theorem dX2_bringOre_33 : decode cX2_bringOre 33 = .ok (.bipush 10, 2) := by decide +kernel
theorem dX2_bringOre_35 : decode cX2_bringOre 35 = .ok (.if_icmp .ge 29, 3) := by decide +kernel
theorem dX2_bringOre_38 : decode cX2_bringOre 38 = .ok (.aload_n 0, 1) := by decide +kernel
theorem dX2_bringOre_39 : decode cX2_bringOre 39 = .ok (.getfield 17, 3) := by decide +kernel
theorem dX2_bringOre_42 : decode cX2_bringOre 42 = .ok (.iload 5, 2) := by decide +kernel
theorem dX2_bringOre_44 : decode cX2_bringOre 44 = .ok (.dup2, 1) := by decide +kernel
theorem dX2_bringOre_45 : decode cX2_bringOre 45 = .ok (.iaload, 1) := by decide +kernel
theorem dX2_bringOre_46 : decode cX2_bringOre 46 = .ok (.iload_n 3, 1) := by decide +kernel
theorem dX2_bringOre_47 : decode cX2_bringOre 47 = .ok (.aload 4, 2) := by decide +kernel
theorem dX2_bringOre_49 : decode cX2_bringOre 49 = .ok (.getfield 91, 3) := by decide +kernel
theorem dX2_bringOre_52 : decode cX2_bringOre 52 = .ok (.iload 5, 2) := by decide +kernel
theorem dX2_bringOre_54 : decode cX2_bringOre 54 = .ok (.iaload, 1) := by decide +kernel
theorem dX2_bringOre_55 : decode cX2_bringOre 55 = .ok (.imul, 1) := by decide +kernel
theorem dX2_bringOre_56 : decode cX2_bringOre 56 = .ok (.iadd, 1) := by decide +kernel
theorem dX2_bringOre_57 : decode cX2_bringOre 57 = .ok (.iastore, 1) := by decide +kernel
theorem dX2_bringOre_58 : decode cX2_bringOre 58 = .ok (.iinc 5 1, 3) := by decide +kernel
theorem dX2_bringOre_61 : decode cX2_bringOre 61 = .ok (.goto (-30), 3) := by decide +kernel
theorem dX2_bringOre_64 : decode cX2_bringOre 64 = .ok (.return_, 1) := by decide +kernel
