theorem dX3_claim_38 : decode cX3_claim 38 = .ok (.invokevirtual 115, 3) := by decide +kernel
theorem dX3_claim_41 : decode cX3_claim 41 = .ok (.astore 5, 2) := by decide +kernel
theorem dX3_claim_43 : decode cX3_claim 43 = .ok (.aload 5, 2) := by decide +kernel
theorem dX3_claim_45 : decode cX3_claim 45 = .ok (.ifnonnull 8, 3) := by decide +kernel
theorem dX3_claim_48 : decode cX3_claim 48 = .ok (.bipush (-4), 2) := by decide +kernel
theorem dX3_claim_50 : decode cX3_claim 50 = .ok (.goto 8, 3) := by decide +kernel
theorem dX3_claim_53 : decode cX3_claim 53 = .ok (.aload 5, 2) := by decide +kernel
theorem dX3_claim_55 : decode cX3_claim 55 = .ok (.getfield 119, 3) := by decide +kernel
theorem dX3_claim_58 : decode cX3_claim 58 = .ok (.ireturn, 1) := by decide +kernel
theorem dX3_of_0 : decode cX3_of 0 = .ok (.aload_n 0, 1) := by decide +kernel
theorem dX3_of_1 : decode cX3_of 1 = .ok (.getfield 12, 3) := by decide +kernel
theorem dX3_of_4 : decode cX3_of 4 = .ok (.iload_n 1, 1) := by decide +kernel
theorem dX3_of_5 : decode cX3_of 5 = .ok (.invokevirtual 95, 3) := by decide +kernel
theorem dX3_of_8 : decode cX3_of 8 = .ok (.ifCond .eq 22, 3) := by decide +kernel
theorem dX3_of_11 : decode cX3_of 11 = .ok (.iload_n 3, 1) := by decide +kernel
theorem dX3_of_12 : decode cX3_of 12 = .ok (.iload 4, 2) := by decide +kernel
theorem dX3_of_14 : decode cX3_of 14 = .ok (.invokestatic 104, 3) := by decide +kernel
theorem dX3_of_17 : decode cX3_of 17 = .ok (.ifCond .eq 13, 3) := by decide +kernel
theorem dX3_of_20 : decode cX3_of 20 = .ok (.iload_n 2, 1) := by decide +kernel
theorem dX3_of_21 : decode cX3_of 21 = .ok (.iconst 0, 1) := by decide +kernel
theorem dX3_of_22 : decode cX3_of 22 = .ok (.bipush 6, 2) := by decide +kernel
theorem dX3_of_24 : decode cX3_of 24 = .ok (.invokestatic 41, 3) := by decide +kernel
theorem dX3_of_27 : decode cX3_of 27 = .ok (.ifCond .ne 5, 3) := by decide +kernel
theorem dX3_of_30 : decode cX3_of 30 = .ok (.iconst (-1), 1) := by decide +kernel
theorem dX3_of_31 : decode cX3_of 31 = .ok (.ireturn, 1) := by decide +kernel
theorem dX3_of_32 : decode cX3_of 32 = .ok (.aload_n 0, 1) := by decide +kernel
theorem dX3_of_33 : decode cX3_of 33 = .ok (.getfield 12, 3) := by decide +kernel
theorem dX3_of_36 : decode cX3_of 36 = .ok (.iload_n 1, 1) := by decide +kernel
theorem dX3_of_37 : decode cX3_of 37 = .ok (.invokevirtual 124, 3) := by decide +kernel
theorem dX3_of_40 : decode cX3_of 40 = .ok (.ifCond .ne 6, 3) := by decide +kernel
theorem dX3_of_43 : decode cX3_of 43 = .ok (.bipush (-3), 2) := by decide +kernel
theorem dX3_of_45 : decode cX3_of 45 = .ok (.ireturn, 1) := by decide +kernel
theorem dX3_of_46 : decode cX3_of 46 = .ok (.aload_n 0, 1) := by decide +kernel
theorem dX3_of_47 : decode cX3_of 47 = .ok (.iload_n 3, 1) := by decide +kernel
theorem dX3_of_48 : decode cX3_of 48 = .ok (.iload 4, 2) := by decide +kernel
theorem dX3_of_50 : decode cX3_of 50 = .ok (.invokevirtual 108, 3) := by decide +kernel
theorem dX3_of_53 : decode cX3_of 53 = .ok (.aload_n 0, 1) := by decide +kernel
theorem dX3_of_54 : decode cX3_of 54 = .ok (.getfield 33, 3) := by decide +kernel
theorem dX3_of_57 : decode cX3_of 57 = .ok (.iload_n 1, 1) := by decide +kernel
theorem dX3_of_58 : decode cX3_of 58 = .ok (.invokevirtual 127, 3) := by decide +kernel
theorem dX3_of_61 : decode cX3_of 61 = .ok (.astore 5, 2) := by decide +kernel
theorem dX3_of_63 : decode cX3_of 63 = .ok (.aload 5, 2) := by decide +kernel
theorem dX3_of_65 : decode cX3_of 65 = .ok (.ifnonnull 8, 3) := by decide +kernel
theorem dX3_of_68 : decode cX3_of 68 = .ok (.bipush (-4), 2) := by decide +kernel
theorem dX3_of_70 : decode cX3_of 70 = .ok (.goto 11, 3) := by decide +kernel
theorem dX3_of_73 : decode cX3_of 73 = .ok (.aload_n 0, 1) := by decide +kernel
theorem dX3_of_74 : decode cX3_of 74 = .ok (.aload 5, 2) := by decide +kernel
theorem dX3_of_76 : decode cX3_of 76 = .ok (.iload_n 2, 1) := by decide +kernel
theorem dX3_of_77 : decode cX3_of 77 = .ok (.iload_n 3, 1) := by decide +kernel
theorem dX3_of_78 : decode cX3_of 78 = .ok (.invokevirtual 131, 3) := by decide +kernel
theorem dX3_of_81 : decode cX3_of 81 = .ok (.ireturn, 1) := by decide +kernel
theorem dX3_share_0 : decode cX3_share 0 = .ok (.aload_n 0, 1) := by decide +kernel
theorem dX3_share_1 : decode cX3_share 1 = .ok (.getfield 12, 3) := by decide +kernel
theorem dX3_share_4 : decode cX3_share 4 = .ok (.iload_n 1, 1) := by decide +kernel
theorem dX3_share_5 : decode cX3_share 5 = .ok (.invokevirtual 95, 3) := by decide +kernel
theorem dX3_share_8 : decode cX3_share 8 = .ok (.ifCond .eq 19, 3) := by decide +kernel
theorem dX3_share_11 : decode cX3_share 11 = .ok (.iload_n 2, 1) := by decide +kernel
theorem dX3_share_12 : decode cX3_share 12 = .ok (.invokestatic 58, 3) := by decide +kernel
theorem dX3_share_15 : decode cX3_share 15 = .ok (.ifCond .eq 12, 3) := by decide +kernel
theorem dX3_share_18 : decode cX3_share 18 = .ok (.iload_n 3, 1) := by decide +kernel
theorem dX3_share_19 : decode cX3_share 19 = .ok (.iload 4, 2) := by decide +kernel
theorem dX3_share_21 : decode cX3_share 21 = .ok (.invokestatic 104, 3) := by decide +kernel
theorem dX3_share_24 : decode cX3_share 24 = .ok (.ifCond .ne 5, 3) := by decide +kernel
theorem dX3_share_27 : decode cX3_share 27 = .ok (.iconst (-1), 1) := by decide +kernel
theorem dX3_share_28 : decode cX3_share 28 = .ok (.ireturn, 1) := by decide +kernel
theorem dX3_share_29 : decode cX3_share 29 = .ok (.aload_n 0, 1) := by decide +kernel
theorem dX3_share_30 : decode cX3_share 30 = .ok (.getfield 12, 3) := by decide +kernel
theorem dX3_share_33 : decode cX3_share 33 = .ok (.iload_n 1, 1) := by decide +kernel
theorem dX3_share_34 : decode cX3_share 34 = .ok (.invokevirtual 124, 3) := by decide +kernel
theorem dX3_share_37 : decode cX3_share 37 = .ok (.ifCond .ne 6, 3) := by decide +kernel
theorem dX3_share_40 : decode cX3_share 40 = .ok (.bipush (-3), 2) := by decide +kernel
theorem dX3_share_42 : decode cX3_share 42 = .ok (.ireturn, 1) := by decide +kernel
theorem dX3_share_43 : decode cX3_share 43 = .ok (.aload_n 0, 1) := by decide +kernel
theorem dX3_share_44 : decode cX3_share 44 = .ok (.iload_n 3, 1) := by decide +kernel
theorem dX3_share_45 : decode cX3_share 45 = .ok (.iload 4, 2) := by decide +kernel
theorem dX3_share_47 : decode cX3_share 47 = .ok (.invokevirtual 108, 3) := by decide +kernel
theorem dX3_share_50 : decode cX3_share 50 = .ok (.aload_n 0, 1) := by decide +kernel
theorem dX3_share_51 : decode cX3_share 51 = .ok (.getfield 33, 3) := by decide +kernel
theorem dX3_share_54 : decode cX3_share 54 = .ok (.iload_n 1, 1) := by decide +kernel
theorem dX3_share_55 : decode cX3_share 55 = .ok (.invokevirtual 127, 3) := by decide +kernel
theorem dX3_share_58 : decode cX3_share 58 = .ok (.astore 5, 2) := by decide +kernel
theorem dX3_share_60 : decode cX3_share 60 = .ok (.aload 5, 2) := by decide +kernel
theorem dX3_share_62 : decode cX3_share 62 = .ok (.ifnonnull 8, 3) := by decide +kernel
theorem dX3_share_65 : decode cX3_share 65 = .ok (.bipush (-4), 2) := by decide +kernel
theorem dX3_share_67 : decode cX3_share 67 = .ok (.goto 10, 3) := by decide +kernel
theorem dX3_share_70 : decode cX3_share 70 = .ok (.aload 5, 2) := by decide +kernel
theorem dX3_share_72 : decode cX3_share 72 = .ok (.getfield 135, 3) := by decide +kernel
theorem dX3_share_75 : decode cX3_share 75 = .ok (.iload_n 2, 1) := by decide +kernel
theorem dX3_share_76 : decode cX3_share 76 = .ok (.iaload, 1) := by decide +kernel
theorem dX3_share_77 : decode cX3_share 77 = .ok (.ireturn, 1) := by decide +kernel
theorem dX3_feet_0 : decode cX3_feet 0 = .ok (.iload_n 1, 1) := by decide +kernel
theorem dX3_feet_1 : decode cX3_feet 1 = .ok (.invokestatic 58, 3) := by decide +kernel
theorem dX3_feet_4 : decode cX3_feet 4 = .ok (.ifCond .eq 11, 3) := by decide +kernel
theorem dX3_feet_7 : decode cX3_feet 7 = .ok (.iload_n 2, 1) := by decide +kernel
theorem dX3_feet_8 : decode cX3_feet 8 = .ok (.iload_n 3, 1) := by decide +kernel
theorem dX3_feet_9 : decode cX3_feet 9 = .ok (.invokestatic 104, 3) := by decide +kernel
theorem dX3_feet_12 : decode cX3_feet 12 = .ok (.ifCond .ne 5, 3) := by decide +kernel
theorem dX3_feet_15 : decode cX3_feet 15 = .ok (.iconst (-1), 1) := by decide +kernel
theorem dX3_feet_16 : decode cX3_feet 16 = .ok (.ireturn, 1) := by decide +kernel
theorem dX3_feet_17 : decode cX3_feet 17 = .ok (.aload_n 0, 1) := by decide +kernel
theorem dX3_feet_18 : decode cX3_feet 18 = .ok (.iload_n 2, 1) := by decide +kernel
theorem dX3_feet_19 : decode cX3_feet 19 = .ok (.iload_n 3, 1) := by decide +kernel
theorem dX3_feet_20 : decode cX3_feet 20 = .ok (.invokevirtual 108, 3) := by decide +kernel
theorem dX3_feet_23 : decode cX3_feet 23 = .ok (.iconst 0, 1) := by decide +kernel
theorem dX3_feet_24 : decode cX3_feet 24 = .ok (.istore 4, 2) := by decide +kernel
theorem dX3_feet_26 : decode cX3_feet 26 = .ok (.iconst 0, 1) := by decide +kernel
theorem dX3_feet_27 : decode cX3_feet 27 = .ok (.istore 5, 2) := by decide +kernel
theorem dX3_feet_29 : decode cX3_feet 29 = .ok (.iload 5, 2) := by decide +kernel
theorem dX3_feet_31 : decode cX3_feet 31 = .ok (.iconst 4, 1) := by decide +kernel
theorem dX3_feet_32 : decode cX3_feet 32 = .ok (.if_icmp .ge 43, 3) := by decide +kernel
theorem dX3_feet_35 : decode cX3_feet 35 = .ok (.iconst 0, 1) := by decide +kernel
theorem dX3_feet_36 : decode cX3_feet 36 = .ok (.istore 6, 2) := by decide +kernel
theorem dX3_feet_38 : decode cX3_feet 38 = .ok (.iload 6, 2) := by decide +kernel
theorem dX3_feet_40 : decode cX3_feet 40 = .ok (.bipush 60, 2) := by decide +kernel
theorem dX3_feet_42 : decode cX3_feet 42 = .ok (.if_icmp .ge 27, 3) := by decide +kernel
theorem dX3_feet_45 : decode cX3_feet 45 = .ok (.aload_n 0, 1) := by decide +kernel
theorem dX3_feet_46 : decode cX3_feet 46 = .ok (.getfield 33, 3) := by decide +kernel
theorem dX3_feet_49 : decode cX3_feet 49 = .ok (.iload 5, 2) := by decide +kernel
theorem dX3_feet_51 : decode cX3_feet 51 = .ok (.iload 6, 2) := by decide +kernel
theorem dX3_feet_53 : decode cX3_feet 53 = .ok (.invokevirtual 112, 3) := by decide +kernel
theorem dX3_feet_56 : decode cX3_feet 56 = .ok (.iload_n 1, 1) := by decide +kernel
theorem dX3_feet_57 : decode cX3_feet 57 = .ok (.if_icmp .ne 6, 3) := by decide +kernel
theorem dX3_feet_60 : decode cX3_feet 60 = .ok (.iinc 4 1, 3) := by decide +kernel
theorem dX3_feet_63 : decode cX3_feet 63 = .ok (.iinc 6 1, 3) := by decide +kernel
theorem dX3_feet_66 : decode cX3_feet 66 = .ok (.goto (-28), 3) := by decide +kernel
theorem dX3_feet_69 : decode cX3_feet 69 = .ok (.iinc 5 1, 3) := by decide +kernel
theorem dX3_feet_72 : decode cX3_feet 72 = .ok (.goto (-43), 3) := by decide +kernel
theorem dX3_feet_75 : decode cX3_feet 75 = .ok (.iload 4, 2) := by decide +kernel
theorem dX3_feet_77 : decode cX3_feet 77 = .ok (.ireturn, 1) := by decide +kernel
theorem dX3_contested_0 : decode cX3_contested 0 = .ok (.iload_n 1, 1) := by decide +kernel
theorem dX3_contested_1 : decode cX3_contested 1 = .ok (.invokestatic 52, 3) := by decide +kernel
theorem dX3_contested_4 : decode cX3_contested 4 = .ok (.ifCond .eq 11, 3) := by decide +kernel
theorem dX3_contested_7 : decode cX3_contested 7 = .ok (.iload_n 2, 1) := by decide +kernel
theorem dX3_contested_8 : decode cX3_contested 8 = .ok (.iload_n 3, 1) := by decide +kernel
theorem dX3_contested_9 : decode cX3_contested 9 = .ok (.invokestatic 104, 3) := by decide +kernel
theorem dX3_contested_12 : decode cX3_contested 12 = .ok (.ifCond .ne 5, 3) := by decide +kernel
theorem dX3_contested_15 : decode cX3_contested 15 = .ok (.iconst (-1), 1) := by decide +kernel
theorem dX3_contested_16 : decode cX3_contested 16 = .ok (.ireturn, 1) := by decide +kernel
theorem dX3_contested_17 : decode cX3_contested 17 = .ok (.aload_n 0, 1) := by decide +kernel
theorem dX3_contested_18 : decode cX3_contested 18 = .ok (.iload_n 2, 1) := by decide +kernel
theorem dX3_contested_19 : decode cX3_contested 19 = .ok (.iload_n 3, 1) := by decide +kernel
theorem dX3_contested_20 : decode cX3_contested 20 = .ok (.invokevirtual 108, 3) := by decide +kernel
theorem dX3_contested_23 : decode cX3_contested 23 = .ok (.iconst 0, 1) := by decide +kernel
theorem dX3_contested_24 : decode cX3_contested 24 = .ok (.istore 4, 2) := by decide +kernel
theorem dX3_contested_26 : decode cX3_contested 26 = .ok (.iconst 0, 1) := by decide +kernel
theorem dX3_contested_27 : decode cX3_contested 27 = .ok (.istore 5, 2) := by decide +kernel
theorem dX3_contested_29 : decode cX3_contested 29 = .ok (.iload 5, 2) := by decide +kernel
theorem dX3_contested_31 : decode cX3_contested 31 = .ok (.bipush 60, 2) := by decide +kernel
theorem dX3_contested_33 : decode cX3_contested 33 = .ok (.if_icmp .ge 26, 3) := by decide +kernel
theorem dX3_contested_36 : decode cX3_contested 36 = .ok (.aload_n 0, 1) := by decide +kernel
theorem dX3_contested_37 : decode cX3_contested 37 = .ok (.getfield 33, 3) := by decide +kernel
theorem dX3_contested_40 : decode cX3_contested 40 = .ok (.iload_n 1, 1) := by decide +kernel
theorem dX3_contested_41 : decode cX3_contested 41 = .ok (.iload 5, 2) := by decide +kernel
theorem dX3_contested_43 : decode cX3_contested 43 = .ok (.invokevirtual 138, 3) := by decide +kernel
theorem dX3_contested_46 : decode cX3_contested 46 = .ok (.iconst 2, 1) := by decide +kernel
theorem dX3_contested_47 : decode cX3_contested 47 = .ok (.if_icmp .lt 6, 3) := by decide +kernel
theorem dX3_contested_50 : decode cX3_contested 50 = .ok (.iinc 4 1, 3) := by decide +kernel
theorem dX3_contested_53 : decode cX3_contested 53 = .ok (.iinc 5 1, 3) := by decide +kernel
theorem dX3_contested_56 : decode cX3_contested 56 = .ok (.goto (-27), 3) := by decide +kernel
theorem dX3_contested_59 : decode cX3_contested 59 = .ok (.iload 4, 2) := by decide +kernel
theorem dX3_contested_61 : decode cX3_contested 61 = .ok (.ireturn, 1) := by decide +kernel
theorem dX3_dug_0 : decode cX3_dug 0 = .ok (.iload_n 1, 1) := by decide +kernel
theorem dX3_dug_1 : decode cX3_dug 1 = .ok (.iconst 0, 1) := by decide +kernel
theorem dX3_dug_2 : decode cX3_dug 2 = .ok (.bipush 10, 2) := by decide +kernel
theorem dX3_dug_4 : decode cX3_dug 4 = .ok (.invokestatic 41, 3) := by decide +kernel
theorem dX3_dug_7 : decode cX3_dug 7 = .ok (.ifCond .eq 11, 3) := by decide +kernel
theorem dX3_dug_10 : decode cX3_dug 10 = .ok (.iload_n 2, 1) := by decide +kernel
theorem dX3_dug_11 : decode cX3_dug 11 = .ok (.iload_n 3, 1) := by decide +kernel
theorem dX3_dug_12 : decode cX3_dug 12 = .ok (.invokestatic 104, 3) := by decide +kernel
theorem dX3_dug_15 : decode cX3_dug 15 = .ok (.ifCond .ne 5, 3) := by decide +kernel
theorem dX3_dug_18 : decode cX3_dug 18 = .ok (.iconst (-1), 1) := by decide +kernel
theorem dX3_dug_19 : decode cX3_dug 19 = .ok (.ireturn, 1) := by decide +kernel
theorem dX3_dug_20 : decode cX3_dug 20 = .ok (.aload_n 0, 1) := by decide +kernel
theorem dX3_dug_21 : decode cX3_dug 21 = .ok (.iload_n 2, 1) := by decide +kernel
theorem dX3_dug_22 : decode cX3_dug 22 = .ok (.iload_n 3, 1) := by decide +kernel
theorem dX3_dug_23 : decode cX3_dug 23 = .ok (.invokevirtual 108, 3) := by decide +kernel
theorem dX3_dug_26 : decode cX3_dug 26 = .ok (.aload_n 0, 1) := by decide +kernel
theorem dX3_dug_27 : decode cX3_dug 27 = .ok (.getfield 33, 3) := by decide +kernel
theorem dX3_dug_30 : decode cX3_dug 30 = .ok (.getfield 141, 3) := by decide +kernel
theorem dX3_dug_33 : decode cX3_dug 33 = .ok (.iload_n 1, 1) := by decide +kernel
theorem dX3_dug_34 : decode cX3_dug 34 = .ok (.iaload, 1) := by decide +kernel
theorem dX3_dug_35 : decode cX3_dug 35 = .ok (.ireturn, 1) := by decide +kernel
theorem dX3_due_0 : decode cX3_due 0 = .ok (.iload_n 1, 1) := by decide +kernel
theorem dX3_due_1 : decode cX3_due 1 = .ok (.invokestatic 58, 3) := by decide +kernel
theorem dX3_due_4 : decode cX3_due 4 = .ok (.ifCond .eq 11, 3) := by decide +kernel
theorem dX3_due_7 : decode cX3_due 7 = .ok (.iload_n 2, 1) := by decide +kernel
theorem dX3_due_8 : decode cX3_due 8 = .ok (.iload_n 3, 1) := by decide +kernel
theorem dX3_due_9 : decode cX3_due 9 = .ok (.invokestatic 104, 3) := by decide +kernel
theorem dX3_due_12 : decode cX3_due 12 = .ok (.ifCond .ne 5, 3) := by decide +kernel
theorem dX3_due_15 : decode cX3_due 15 = .ok (.iconst (-1), 1) := by decide +kernel
theorem dX3_due_16 : decode cX3_due 16 = .ok (.ireturn, 1) := by decide +kernel
theorem dX3_due_17 : decode cX3_due 17 = .ok (.aload_n 0, 1) := by decide +kernel
theorem dX3_due_18 : decode cX3_due 18 = .ok (.iload_n 2, 1) := by decide +kernel
theorem dX3_due_19 : decode cX3_due 19 = .ok (.iload_n 3, 1) := by decide +kernel
theorem dX3_due_20 : decode cX3_due 20 = .ok (.invokevirtual 108, 3) := by decide +kernel
theorem dX3_due_23 : decode cX3_due 23 = .ok (.aload_n 0, 1) := by decide +kernel
theorem dX3_due_24 : decode cX3_due 24 = .ok (.getfield 33, 3) := by decide +kernel
theorem dX3_due_27 : decode cX3_due 27 = .ok (.getfield 141, 3) := by decide +kernel
theorem dX3_due_30 : decode cX3_due 30 = .ok (.iload_n 1, 1) := by decide +kernel
theorem dX3_due_31 : decode cX3_due 31 = .ok (.iaload, 1) := by decide +kernel
theorem dX3_due_32 : decode cX3_due 32 = .ok (.sipush 240, 3) := by decide +kernel
theorem dX3_due_35 : decode cX3_due 35 = .ok (.idiv, 1) := by decide +kernel
theorem dX3_due_36 : decode cX3_due 36 = .ok (.ireturn, 1) := by decide +kernel
theorem dX3_changed_0 : decode cX3_changed 0 = .ok (.iload_n 1, 1) := by decide +kernel
theorem dX3_changed_1 : decode cX3_changed 1 = .ok (.iload_n 2, 1) := by decide +kernel
theorem dX3_changed_2 : decode cX3_changed 2 = .ok (.invokestatic 104, 3) := by decide +kernel
theorem dX3_changed_5 : decode cX3_changed 5 = .ok (.ifCond .eq 10, 3) := by decide +kernel
theorem dX3_changed_8 : decode cX3_changed 8 = .ok (.iload_n 3, 1) := by decide +kernel
theorem dX3_changed_9 : decode cX3_changed 9 = .ok (.invokestatic 144, 3) := by decide +kernel
theorem dX3_changed_12 : decode cX3_changed 12 = .ok (.ifCond .ne 5, 3) := by decide +kernel
theorem dX3_changed_15 : decode cX3_changed 15 = .ok (.iconst (-1), 1) := by decide +kernel
theorem dX3_changed_16 : decode cX3_changed 16 = .ok (.ireturn, 1) := by decide +kernel
theorem dX3_changed_17 : decode cX3_changed 17 = .ok (.aload_n 0, 1) := by decide +kernel
theorem dX3_changed_18 : decode cX3_changed 18 = .ok (.iload_n 1, 1) := by decide +kernel
theorem dX3_changed_19 : decode cX3_changed 19 = .ok (.iload_n 2, 1) := by decide +kernel
theorem dX3_changed_20 : decode cX3_changed 20 = .ok (.invokevirtual 108, 3) := by decide +kernel
theorem dX3_changed_23 : decode cX3_changed 23 = .ok (.aload_n 0, 1) := by decide +kernel
theorem dX3_changed_24 : decode cX3_changed 24 = .ok (.invokevirtual 147, 3) := by decide +kernel
theorem dX3_changed_27 : decode cX3_changed 27 = .ok (.aload_n 0, 1) := by decide +kernel
theorem dX3_changed_28 : decode cX3_changed 28 = .ok (.iload_n 1, 1) := by decide +kernel
theorem dX3_changed_29 : decode cX3_changed 29 = .ok (.iload_n 3, 1) := by decide +kernel
theorem dX3_changed_30 : decode cX3_changed 30 = .ok (.invokevirtual 108, 3) := by decide +kernel
theorem dX3_changed_33 : decode cX3_changed 33 = .ok (.iconst 0, 1) := by decide +kernel
theorem dX3_changed_34 : decode cX3_changed 34 = .ok (.istore 4, 2) := by decide +kernel
theorem dX3_changed_36 : decode cX3_changed 36 = .ok (.iconst 0, 1) := by decide +kernel
theorem dX3_changed_37 : decode cX3_changed 37 = .ok (.istore 5, 2) := by decide +kernel
theorem dX3_changed_39 : decode cX3_changed 39 = .ok (.iload 5, 2) := by decide +kernel
theorem dX3_changed_41 : decode cX3_changed 41 = .ok (.aload_n 0, 1) := by decide +kernel
theorem dX3_changed_42 : decode cX3_changed 42 = .ok (.getfield 37, 3) := by decide +kernel
theorem dX3_changed_45 : decode cX3_changed 45 = .ok (.arraylength, 1) := by decide +kernel
theorem dX3_changed_46 : decode cX3_changed 46 = .ok (.if_icmp .ge 39, 3) := by decide +kernel
theorem dX3_changed_49 : decode cX3_changed 49 = .ok (.aload_n 0, 1) := by decide +kernel
theorem dX3_changed_50 : decode cX3_changed 50 = .ok (.getfield 37, 3) := by decide +kernel
theorem dX3_changed_53 : decode cX3_changed 53 = .ok (.iload 5, 2) := by decide +kernel
theorem dX3_changed_55 : decode cX3_changed 55 = .ok (.iaload, 1) := by decide +kernel
theorem dX3_changed_56 : decode cX3_changed 56 = .ok (.aload_n 0, 1) := by decide +kernel
theorem dX3_changed_57 : decode cX3_changed 57 = .ok (.getfield 33, 3) := by decide +kernel
theorem dX3_changed_60 : decode cX3_changed 60 = .ok (.iload 5, 2) := by decide +kernel
theorem dX3_changed_62 : decode cX3_changed 62 = .ok (.bipush 60, 2) := by decide +kernel
theorem dX3_changed_64 : decode cX3_changed 64 = .ok (.idiv, 1) := by decide +kernel
theorem dX3_changed_65 : decode cX3_changed 65 = .ok (.iload 5, 2) := by decide +kernel
theorem dX3_changed_67 : decode cX3_changed 67 = .ok (.bipush 60, 2) := by decide +kernel
theorem dX3_changed_69 : decode cX3_changed 69 = .ok (.irem, 1) := by decide +kernel
theorem dX3_changed_70 : decode cX3_changed 70 = .ok (.invokevirtual 112, 3) := by decide +kernel
theorem dX3_changed_73 : decode cX3_changed 73 = .ok (.if_icmp .eq 6, 3) := by decide +kernel
theorem dX3_changed_76 : decode cX3_changed 76 = .ok (.iinc 4 1, 3) := by decide +kernel
theorem dX3_changed_79 : decode cX3_changed 79 = .ok (.iinc 5 1, 3) := by decide +kernel
theorem dX3_changed_82 : decode cX3_changed 82 = .ok (.goto (-43), 3) := by decide +kernel
theorem dX3_changed_85 : decode cX3_changed 85 = .ok (.iload 4, 2) := by decide +kernel
theorem dX3_changed_87 : decode cX3_changed 87 = .ok (.ireturn, 1) := by decide +kernel
theorem dX3_many_0 : decode cX3_many 0 = .ok (.iload_n 1, 1) := by decide +kernel
theorem dX3_many_1 : decode cX3_many 1 = .ok (.tableswitch 81 0 5 #[39, 47, 55, 63, 71, 76], 39) := by decide +kernel
theorem dX3_many_40 : decode cX3_many 40 = .ok (.aload_n 0, 1) := by decide +kernel
theorem dX3_many_41 : decode cX3_many 41 = .ok (.getfield 12, 3) := by decide +kernel
theorem dX3_many_44 : decode cX3_many 44 = .ok (.getfield 150, 3) := by decide +kernel
theorem dX3_many_47 : decode cX3_many 47 = .ok (.ireturn, 1) := by decide +kernel
theorem dX3_many_48 : decode cX3_many 48 = .ok (.aload_n 0, 1) := by decide +kernel
theorem dX3_many_49 : decode cX3_many 49 = .ok (.getfield 12, 3) := by decide +kernel
theorem dX3_many_52 : decode cX3_many 52 = .ok (.getfield 65, 3) := by decide +kernel
theorem dX3_many_55 : decode cX3_many 55 = .ok (.ireturn, 1) := by decide +kernel
theorem dX3_many_56 : decode cX3_many 56 = .ok (.aload_n 0, 1) := by decide +kernel
theorem dX3_many_57 : decode cX3_many 57 = .ok (.getfield 12, 3) := by decide +kernel
theorem dX3_many_60 : decode cX3_many 60 = .ok (.invokevirtual 153, 3) := by decide +kernel
theorem dX3_many_63 : decode cX3_many 63 = .ok (.ireturn, 1) := by decide +kernel
theorem dX3_many_64 : decode cX3_many 64 = .ok (.aload_n 0, 1) := by decide +kernel
theorem dX3_many_65 : decode cX3_many 65 = .ok (.getfield 12, 3) := by decide +kernel
theorem dX3_many_68 : decode cX3_many 68 = .ok (.getfield 45, 3) := by decide +kernel
theorem dX3_many_71 : decode cX3_many 71 = .ok (.ireturn, 1) := by decide +kernel
theorem dX3_many_72 : decode cX3_many 72 = .ok (.aload_n 0, 1) := by decide +kernel
theorem dX3_many_73 : decode cX3_many 73 = .ok (.getfield 23, 3) := by decide +kernel
theorem dX3_many_76 : decode cX3_many 76 = .ok (.ireturn, 1) := by decide +kernel
theorem dX3_many_77 : decode cX3_many 77 = .ok (.aload_n 0, 1) := by decide +kernel
theorem dX3_many_78 : decode cX3_many 78 = .ok (.getfield 27, 3) := by decide +kernel
theorem dX3_many_81 : decode cX3_many 81 = .ok (.ireturn, 1) := by decide +kernel
theorem dX3_many_82 : decode cX3_many 82 = .ok (.iconst (-1), 1) := by decide +kernel
theorem dX3_many_83 : decode cX3_many 83 = .ok (.ireturn, 1) := by decide +kernel
theorem dX3_keep_0 : decode cX3_keep 0 = .ok (.aload_n 0, 1) := by decide +kernel
theorem dX3_keep_1 : decode cX3_keep 1 = .ok (.getfield 16, 3) := by decide +kernel
theorem dX3_keep_4 : decode cX3_keep 4 = .ok (.aload_n 0, 1) := by decide +kernel
theorem dX3_keep_5 : decode cX3_keep 5 = .ok (.getfield 12, 3) := by decide +kernel
theorem dX3_keep_8 : decode cX3_keep 8 = .ok (.invokevirtual 157, 3) := by decide +kernel
theorem dX3_keep_11 : decode cX3_keep 11 = .ok (.aload_n 0, 1) := by decide +kernel
theorem dX3_keep_12 : decode cX3_keep 12 = .ok (.iconst 1, 1) := by decide +kernel
theorem dX3_keep_13 : decode cX3_keep 13 = .ok (.putfield 19, 3) := by decide +kernel
theorem dX3_keep_16 : decode cX3_keep 16 = .ok (.iconst 1, 1) := by decide +kernel
theorem dX3_keep_17 : decode cX3_keep 17 = .ok (.ireturn, 1) := by decide +kernel
theorem dX3_back_0 : decode cX3_back 0 = .ok (.aload_n 0, 1) := by decide +kernel
theorem dX3_back_1 : decode cX3_back 1 = .ok (.getfield 19, 3) := by decide +kernel
theorem dX3_back_4 : decode cX3_back 4 = .ok (.ifCond .ne 6, 3) := by decide +kernel
theorem dX3_back_7 : decode cX3_back 7 = .ok (.bipush (-4), 2) := by decide +kernel
theorem dX3_back_9 : decode cX3_back 9 = .ok (.ireturn, 1) := by decide +kernel
theorem dX3_back_10 : decode cX3_back 10 = .ok (.aload_n 0, 1) := by decide +kernel
theorem dX3_back_11 : decode cX3_back 11 = .ok (.getfield 12, 3) := by decide +kernel
theorem dX3_back_14 : decode cX3_back 14 = .ok (.aload_n 0, 1) := by decide +kernel
theorem dX3_back_15 : decode cX3_back 15 = .ok (.getfield 16, 3) := by decide +kernel
theorem dX3_back_18 : decode cX3_back 18 = .ok (.invokevirtual 157, 3) := by decide +kernel
theorem dX3_back_21 : decode cX3_back 21 = .ok (.iconst 1, 1) := by decide +kernel
theorem dX3_back_22 : decode cX3_back 22 = .ok (.ireturn, 1) := by decide +kernel
theorem dX3_isWithin_0 : decode cX3_isWithin 0 = .ok (.iload_n 0, 1) := by decide +kernel
theorem dX3_isWithin_1 : decode cX3_isWithin 1 = .ok (.iload_n 1, 1) := by decide +kernel
theorem dX3_isWithin_2 : decode cX3_isWithin 2 = .ok (.if_icmp .lt 12, 3) := by decide +kernel
theorem dX3_isWithin_5 : decode cX3_isWithin 5 = .ok (.iload_n 0, 1) := by decide +kernel
theorem dX3_isWithin_6 : decode cX3_isWithin 6 = .ok (.iload_n 2, 1) := by decide +kernel
theorem dX3_isWithin_7 : decode cX3_isWithin 7 = .ok (.if_icmp .gt 7, 3) := by decide +kernel
theorem dX3_isWithin_10 : decode cX3_isWithin 10 = .ok (.iconst 1, 1) := by decide +kernel
theorem dX3_isWithin_11 : decode cX3_isWithin 11 = .ok (.goto 4, 3) := by decide +kernel
theorem dX3_isWithin_14 : decode cX3_isWithin 14 = .ok (.iconst 0, 1) := by decide +kernel
theorem dX3_isWithin_15 : decode cX3_isWithin 15 = .ok (.ireturn, 1) := by decide +kernel
theorem dX3_isVein_0 : decode cX3_isVein 0 = .ok (.iload_n 0, 1) := by decide +kernel
theorem dX3_isVein_1 : decode cX3_isVein 1 = .ok (.iconst 0, 1) := by decide +kernel
theorem dX3_isVein_2 : decode cX3_isVein 2 = .ok (.iconst 3, 1) := by decide +kernel
theorem dX3_isVein_3 : decode cX3_isVein 3 = .ok (.invokestatic 41, 3) := by decide +kernel
theorem dX3_isVein_6 : decode cX3_isVein 6 = .ok (.ireturn, 1) := by decide +kernel
theorem dX3_isFoot_0 : decode cX3_isFoot 0 = .ok (.iload_n 0, 1) := by decide +kernel
theorem dX3_isFoot_1 : decode cX3_isFoot 1 = .ok (.iconst 0, 1) := by decide +kernel
theorem dX3_isFoot_2 : decode cX3_isFoot 2 = .ok (.bipush 59, 2) := by decide +kernel
theorem dX3_isFoot_4 : decode cX3_isFoot 4 = .ok (.invokestatic 41, 3) := by decide +kernel
theorem dX3_isFoot_7 : decode cX3_isFoot 7 = .ok (.ireturn, 1) := by decide +kernel
theorem dX3_isMiner_0 : decode cX3_isMiner 0 = .ok (.iload_n 0, 1) := by decide +kernel
theorem dX3_isMiner_1 : decode cX3_isMiner 1 = .ok (.iconst 0, 1) := by decide +kernel
theorem dX3_isMiner_2 : decode cX3_isMiner 2 = .ok (.bipush 9, 2) := by decide +kernel
theorem dX3_isMiner_4 : decode cX3_isMiner 4 = .ok (.invokestatic 41, 3) := by decide +kernel
theorem dX3_isMiner_7 : decode cX3_isMiner 7 = .ok (.ireturn, 1) := by decide +kernel
theorem dX3_isDay_0 : decode cX3_isDay 0 = .ok (.iload_n 0, 1) := by decide +kernel
theorem dX3_isDay_1 : decode cX3_isDay 1 = .ok (.iconst 0, 1) := by decide +kernel
theorem dX3_isDay_2 : decode cX3_isDay 2 = .ok (.sipush 999, 3) := by decide +kernel
theorem dX3_isDay_5 : decode cX3_isDay 5 = .ok (.invokestatic 41, 3) := by decide +kernel
theorem dX3_isDay_8 : decode cX3_isDay 8 = .ok (.ireturn, 1) := by decide +kernel
theorem dX3_areDays_0 : decode cX3_areDays 0 = .ok (.iload_n 0, 1) := by decide +kernel
theorem dX3_areDays_1 : decode cX3_areDays 1 = .ok (.invokestatic 144, 3) := by decide +kernel
theorem dX3_areDays_4 : decode cX3_areDays 4 = .ok (.ifCond .eq 14, 3) := by decide +kernel
theorem dX3_areDays_7 : decode cX3_areDays 7 = .ok (.iload_n 1, 1) := by decide +kernel
theorem dX3_areDays_8 : decode cX3_areDays 8 = .ok (.invokestatic 144, 3) := by decide +kernel
theorem dX3_areDays_11 : decode cX3_areDays 11 = .ok (.ifCond .eq 7, 3) := by decide +kernel
theorem dX3_areDays_14 : decode cX3_areDays 14 = .ok (.iconst 1, 1) := by decide +kernel
theorem dX3_areDays_15 : decode cX3_areDays 15 = .ok (.goto 4, 3) := by decide +kernel
theorem dX3_areDays_18 : decode cX3_areDays 18 = .ok (.iconst 0, 1) := by decide +kernel
theorem dX3_areDays_19 : decode cX3_areDays 19 = .ok (.ireturn, 1) := by decide +kernel
theorem dX3_isPast_0 : decode cX3_isPast 0 = .ok (.iload_n 1, 1) := by decide +kernel
theorem dX3_isPast_1 : decode cX3_isPast 1 = .ok (.iconst 0, 1) := by decide +kernel
theorem dX3_isPast_2 : decode cX3_isPast 2 = .ok (.aload_n 0, 1) := by decide +kernel
theorem dX3_isPast_3 : decode cX3_isPast 3 = .ok (.getfield 12, 3) := by decide +kernel
theorem dX3_isPast_6 : decode cX3_isPast 6 = .ok (.getfield 45, 3) := by decide +kernel
theorem dX3_isPast_9 : decode cX3_isPast 9 = .ok (.invokestatic 41, 3) := by decide +kernel
theorem dX3_isPast_12 : decode cX3_isPast 12 = .ok (.ireturn, 1) := by decide +kernel
theorem dX3_refusalOfClaim_0 : decode cX3_refusalOfClaim 0 = .ok (.iload_n 1, 1) := by decide +kernel
theorem dX3_refusalOfClaim_1 : decode cX3_refusalOfClaim 1 = .ok (.ifCond .eq 22, 3) := by decide +kernel
theorem dX3_refusalOfClaim_4 : decode cX3_refusalOfClaim 4 = .ok (.aload_n 0, 1) := by decide +kernel
theorem dX3_refusalOfClaim_5 : decode cX3_refusalOfClaim 5 = .ok (.iload_n 2, 1) := by decide +kernel
theorem dX3_refusalOfClaim_6 : decode cX3_refusalOfClaim 6 = .ok (.invokevirtual 48, 3) := by decide +kernel
theorem dX3_refusalOfClaim_9 : decode cX3_refusalOfClaim 9 = .ok (.ifCond .eq 14, 3) := by decide +kernel
theorem dX3_refusalOfClaim_12 : decode cX3_refusalOfClaim 12 = .ok (.aload_n 0, 1) := by decide +kernel
theorem dX3_refusalOfClaim_13 : decode cX3_refusalOfClaim 13 = .ok (.getfield 12, 3) := by decide +kernel
theorem dX3_refusalOfClaim_16 : decode cX3_refusalOfClaim 16 = .ok (.iload_n 3, 1) := by decide +kernel
theorem dX3_refusalOfClaim_17 : decode cX3_refusalOfClaim 17 = .ok (.invokevirtual 95, 3) := by decide +kernel
theorem dX3_refusalOfClaim_20 : decode cX3_refusalOfClaim 20 = .ok (.ifCond .ne 5, 3) := by decide +kernel
theorem dX3_refusalOfClaim_23 : decode cX3_refusalOfClaim 23 = .ok (.iconst (-1), 1) := by decide +kernel
theorem dX3_refusalOfClaim_24 : decode cX3_refusalOfClaim 24 = .ok (.ireturn, 1) := by decide +kernel
theorem dX3_refusalOfClaim_25 : decode cX3_refusalOfClaim 25 = .ok (.aload_n 0, 1) := by decide +kernel
theorem dX3_refusalOfClaim_26 : decode cX3_refusalOfClaim 26 = .ok (.getfield 12, 3) := by decide +kernel
theorem dX3_refusalOfClaim_29 : decode cX3_refusalOfClaim 29 = .ok (.iload_n 3, 1) := by decide +kernel
theorem dX3_refusalOfClaim_30 : decode cX3_refusalOfClaim 30 = .ok (.invokevirtual 124, 3) := by decide +kernel
theorem dX3_refusalOfClaim_33 : decode cX3_refusalOfClaim 33 = .ok (.ifCond .ne 6, 3) := by decide +kernel
theorem dX3_refusalOfClaim_36 : decode cX3_refusalOfClaim 36 = .ok (.bipush (-3), 2) := by decide +kernel
theorem dX3_refusalOfClaim_38 : decode cX3_refusalOfClaim 38 = .ok (.ireturn, 1) := by decide +kernel
theorem dX3_refusalOfClaim_39 : decode cX3_refusalOfClaim 39 = .ok (.aload_n 0, 1) := by decide +kernel
theorem dX3_refusalOfClaim_40 : decode cX3_refusalOfClaim 40 = .ok (.getfield 12, 3) := by decide +kernel
theorem dX3_refusalOfClaim_43 : decode cX3_refusalOfClaim 43 = .ok (.invokevirtual 61, 3) := by decide +kernel
theorem dX3_refusalOfClaim_46 : decode cX3_refusalOfClaim 46 = .ok (.ifCond .eq 8, 3) := by decide +kernel
theorem dX3_refusalOfClaim_49 : decode cX3_refusalOfClaim 49 = .ok (.bipush (-2), 2) := by decide +kernel
theorem dX3_refusalOfClaim_51 : decode cX3_refusalOfClaim 51 = .ok (.goto 4, 3) := by decide +kernel
theorem dX3_refusalOfClaim_54 : decode cX3_refusalOfClaim 54 = .ok (.iconst 0, 1) := by decide +kernel
theorem dX3_refusalOfClaim_55 : decode cX3_refusalOfClaim 55 = .ok (.ireturn, 1) := by decide +kernel
theorem dX3_goThrough_0 : decode cX3_goThrough 0 = .ok (.aload_n 0, 1) := by decide +kernel
theorem dX3_goThrough_1 : decode cX3_goThrough 1 = .ok (.getfield 33, 3) := by decide +kernel
theorem dX3_goThrough_4 : decode cX3_goThrough 4 = .ok (.aload_n 0, 1) := by decide +kernel
theorem dX3_goThrough_5 : decode cX3_goThrough 5 = .ok (.getfield 12, 3) := by decide +kernel
theorem dX3_goThrough_8 : decode cX3_goThrough 8 = .ok (.iload_n 1, 1) := by decide +kernel
theorem dX3_goThrough_9 : decode cX3_goThrough 9 = .ok (.iload_n 2, 1) := by decide +kernel
theorem dX3_goThrough_10 : decode cX3_goThrough 10 = .ok (.aload_n 0, 1) := by decide +kernel
theorem dX3_goThrough_11 : decode cX3_goThrough 11 = .ok (.getfield 27, 3) := by decide +kernel
theorem dX3_goThrough_14 : decode cX3_goThrough 14 = .ok (.invokevirtual 161, 3) := by decide +kernel
theorem dX3_goThrough_17 : decode cX3_goThrough 17 = .ok (.return_, 1) := by decide +kernel
theorem dX3_noteHolders_0 : decode cX3_noteHolders 0 = .ok (.iconst 0, 1) := by decide +kernel
theorem dX3_noteHolders_1 : decode cX3_noteHolders 1 = .ok (.istore_n 1, 1) := by decide +kernel
theorem dX3_noteHolders_2 : decode cX3_noteHolders 2 = .ok (.iload_n 1, 1) := by decide +kernel
theorem dX3_noteHolders_3 : decode cX3_noteHolders 3 = .ok (.aload_n 0, 1) := by decide +kernel
theorem dX3_noteHolders_4 : decode cX3_noteHolders 4 = .ok (.getfield 37, 3) := by decide +kernel
theorem dX3_noteHolders_7 : decode cX3_noteHolders 7 = .ok (.arraylength, 1) := by decide +kernel
theorem dX3_noteHolders_8 : decode cX3_noteHolders 8 = .ok (.if_icmp .ge 30, 3) := by decide +kernel
theorem dX3_noteHolders_11 : decode cX3_noteHolders 11 = .ok (.aload_n 0, 1) := by decide +kernel
theorem dX3_noteHolders_12 : decode cX3_noteHolders 12 = .ok (.getfield 37, 3) := by decide +kernel
theorem dX3_noteHolders_15 : decode cX3_noteHolders 15 = .ok (.iload_n 1, 1) := by decide +kernel
theorem dX3_noteHolders_16 : decode cX3_noteHolders 16 = .ok (.aload_n 0, 1) := by decide +kernel
theorem dX3_noteHolders_17 : decode cX3_noteHolders 17 = .ok (.getfield 33, 3) := by decide +kernel
theorem dX3_noteHolders_20 : decode cX3_noteHolders 20 = .ok (.iload_n 1, 1) := by decide +kernel
theorem dX3_noteHolders_21 : decode cX3_noteHolders 21 = .ok (.bipush 60, 2) := by decide +kernel
theorem dX3_noteHolders_23 : decode cX3_noteHolders 23 = .ok (.idiv, 1) := by decide +kernel
theorem dX3_noteHolders_24 : decode cX3_noteHolders 24 = .ok (.iload_n 1, 1) := by decide +kernel
theorem dX3_noteHolders_25 : decode cX3_noteHolders 25 = .ok (.bipush 60, 2) := by decide +kernel
theorem dX3_noteHolders_27 : decode cX3_noteHolders 27 = .ok (.irem, 1) := by decide +kernel
theorem dX3_noteHolders_28 : decode cX3_noteHolders 28 = .ok (.invokevirtual 112, 3) := by decide +kernel
theorem dX3_noteHolders_31 : decode cX3_noteHolders 31 = .ok (.iastore, 1) := by decide +kernel
theorem dX3_noteHolders_32 : decode cX3_noteHolders 32 = .ok (.iinc 1 1, 3) := by decide +kernel
theorem dX3_noteHolders_35 : decode cX3_noteHolders 35 = .ok (.goto (-33), 3) := by decide +kernel
theorem dX3_noteHolders_38 : decode cX3_noteHolders 38 = .ok (.return_, 1) := by decide +kernel
theorem dX3_tellOf_0 : decode cX3_tellOf 0 = .ok (.iload_n 2, 1) := by decide +kernel
theorem dX3_tellOf_1 : decode cX3_tellOf 1 = .ok (.tableswitch 82 0 5 #[39, 44, 49, 54, 59, 77], 39) := by decide +kernel
theorem dX3_tellOf_40 : decode cX3_tellOf 40 = .ok (.aload_n 1, 1) := by decide +kernel
theorem dX3_tellOf_41 : decode cX3_tellOf 41 = .ok (.getfield 164, 3) := by decide +kernel
theorem dX3_tellOf_44 : decode cX3_tellOf 44 = .ok (.ireturn, 1) := by decide +kernel
theorem dX3_tellOf_45 : decode cX3_tellOf 45 = .ok (.aload_n 1, 1) := by decide +kernel
theorem dX3_tellOf_46 : decode cX3_tellOf 46 = .ok (.getfield 167, 3) := by decide +kernel
theorem dX3_tellOf_49 : decode cX3_tellOf 49 = .ok (.ireturn, 1) := by decide +kernel
theorem dX3_tellOf_50 : decode cX3_tellOf 50 = .ok (.aload_n 1, 1) := by decide +kernel
theorem dX3_tellOf_51 : decode cX3_tellOf 51 = .ok (.getfield 170, 3) := by decide +kernel
theorem dX3_tellOf_54 : decode cX3_tellOf 54 = .ok (.ireturn, 1) := by decide +kernel
theorem dX3_tellOf_55 : decode cX3_tellOf 55 = .ok (.aload_n 1, 1) := by decide +kernel
theorem dX3_tellOf_56 : decode cX3_tellOf 56 = .ok (.getfield 173, 3) := by decide +kernel
theorem dX3_tellOf_59 : decode cX3_tellOf 59 = .ok (.ireturn, 1) := by decide +kernel
theorem dX3_tellOf_60 : decode cX3_tellOf 60 = .ok (.aload_n 1, 1) := by decide +kernel
theorem dX3_tellOf_61 : decode cX3_tellOf 61 = .ok (.iload_n 3, 1) := by decide +kernel
theorem dX3_tellOf_62 : decode cX3_tellOf 62 = .ok (.aload_n 0, 1) := by decide +kernel
theorem dX3_tellOf_63 : decode cX3_tellOf 63 = .ok (.getfield 27, 3) := by decide +kernel
theorem dX3_tellOf_66 : decode cX3_tellOf 66 = .ok (.invokevirtual 176, 3) := by decide +kernel
theorem dX3_tellOf_69 : decode cX3_tellOf 69 = .ok (.ifCond .eq 7, 3) := by decide +kernel
theorem dX3_tellOf_72 : decode cX3_tellOf 72 = .ok (.iconst 1, 1) := by decide +kernel
theorem dX3_tellOf_73 : decode cX3_tellOf 73 = .ok (.goto 4, 3) := by decide +kernel
theorem dX3_tellOf_76 : decode cX3_tellOf 76 = .ok (.iconst 0, 1) := by decide +kernel
theorem dX3_tellOf_77 : decode cX3_tellOf 77 = .ok (.ireturn, 1) := by decide +kernel
theorem dX3_tellOf_78 : decode cX3_tellOf 78 = .ok (.aload_n 1, 1) := by decide +kernel
theorem dX3_tellOf_79 : decode cX3_tellOf 79 = .ok (.getfield 179, 3) := by decide +kernel
theorem dX3_tellOf_82 : decode cX3_tellOf 82 = .ok (.ireturn, 1) := by decide +kernel
theorem dX3_tellOf_83 : decode cX3_tellOf 83 = .ok (.aload_n 0, 1) := by decide +kernel
theorem dX3_tellOf_84 : decode cX3_tellOf 84 = .ok (.getfield 33, 3) := by decide +kernel
theorem dX3_tellOf_87 : decode cX3_tellOf 87 = .ok (.aload_n 1, 1) := by decide +kernel
theorem dX3_tellOf_88 : decode cX3_tellOf 88 = .ok (.invokevirtual 182, 3) := by decide +kernel
theorem dX3_tellOf_91 : decode cX3_tellOf 91 = .ok (.ireturn, 1) := by decide +kernel
