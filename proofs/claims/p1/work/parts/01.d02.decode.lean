theorem dX8_right_4 : decode cX8_right 4 = .ok (.iload_n 1, 1) := by decide +kernel
theorem dX8_right_5 : decode cX8_right 5 = .ok (.iconst 3, 1) := by decide +kernel
theorem dX8_right_6 : decode cX8_right 6 = .ok (.if_icmp .le 10, 3) := by decide +kernel
theorem dX8_right_9 : decode cX8_right 9 = .ok (.aload_n 0, 1) := by decide +kernel
theorem dX8_right_10 : decode cX8_right 10 = .ok (.bipush (-2), 2) := by decide +kernel
theorem dX8_right_12 : decode cX8_right 12 = .ok (.invokevirtual 100, 3) := by decide +kernel
theorem dX8_right_15 : decode cX8_right 15 = .ok (.ireturn, 1) := by decide +kernel
theorem dX8_right_16 : decode cX8_right 16 = .ok (.iload_n 1, 1) := by decide +kernel
theorem dX8_right_17 : decode cX8_right 17 = .ok (.iconst 1, 1) := by decide +kernel
theorem dX8_right_18 : decode cX8_right 18 = .ok (.if_icmp .ne 14, 3) := by decide +kernel
theorem dX8_right_21 : decode cX8_right 21 = .ok (.aload_n 0, 1) := by decide +kernel
theorem dX8_right_22 : decode cX8_right 22 = .ok (.iload_n 2, 1) := by decide +kernel
theorem dX8_right_23 : decode cX8_right 23 = .ok (.invokevirtual 124, 3) := by decide +kernel
theorem dX8_right_26 : decode cX8_right 26 = .ok (.ifCond .ne 20, 3) := by decide +kernel
theorem dX8_right_29 : decode cX8_right 29 = .ok (.goto 11, 3) := by decide +kernel
theorem dX8_right_32 : decode cX8_right 32 = .ok (.aload_n 0, 1) := by decide +kernel
theorem dX8_right_33 : decode cX8_right 33 = .ok (.iload_n 2, 1) := by decide +kernel
theorem dX8_right_34 : decode cX8_right 34 = .ok (.invokevirtual 108, 3) := by decide +kernel
theorem dX8_right_37 : decode cX8_right 37 = .ok (.ifCond .ne 9, 3) := by decide +kernel
theorem dX8_right_40 : decode cX8_right 40 = .ok (.aload_n 0, 1) := by decide +kernel
theorem dX8_right_41 : decode cX8_right 41 = .ok (.iconst (-1), 1) := by decide +kernel
theorem dX8_right_42 : decode cX8_right 42 = .ok (.invokevirtual 100, 3) := by decide +kernel
theorem dX8_right_45 : decode cX8_right 45 = .ok (.ireturn, 1) := by decide +kernel
theorem dX8_lend_0 : decode cX8_lend 0 = .ok (.aload_n 0, 1) := by decide +kernel
theorem dX8_lend_1 : decode cX8_lend 1 = .ok (.iload_n 1, 1) := by decide +kernel
theorem dX8_lend_2 : decode cX8_lend 2 = .ok (.iload_n 2, 1) := by decide +kernel
theorem dX8_lend_3 : decode cX8_lend 3 = .ok (.invokevirtual 137, 3) := by decide +kernel
theorem dX8_lend_6 : decode cX8_lend 6 = .ok (.ifCond .ne 9, 3) := by decide +kernel
theorem dX8_lend_9 : decode cX8_lend 9 = .ok (.aload_n 0, 1) := by decide +kernel
theorem dX8_lend_10 : decode cX8_lend 10 = .ok (.iconst (-1), 1) := by decide +kernel
theorem dX8_lend_11 : decode cX8_lend 11 = .ok (.invokevirtual 100, 3) := by decide +kernel
theorem dX8_lend_14 : decode cX8_lend 14 = .ok (.ireturn, 1) := by decide +kernel
theorem dX8_sell_0 : decode cX8_sell 0 = .ok (.aload_n 0, 1) := by decide +kernel
theorem dX8_sell_1 : decode cX8_sell 1 = .ok (.iload_n 1, 1) := by decide +kernel
theorem dX8_sell_2 : decode cX8_sell 2 = .ok (.iload_n 2, 1) := by decide +kernel
theorem dX8_sell_3 : decode cX8_sell 3 = .ok (.invokevirtual 137, 3) := by decide +kernel
theorem dX8_sell_6 : decode cX8_sell 6 = .ok (.ifCond .ne 9, 3) := by decide +kernel
theorem dX8_sell_9 : decode cX8_sell 9 = .ok (.aload_n 0, 1) := by decide +kernel
theorem dX8_sell_10 : decode cX8_sell 10 = .ok (.iconst (-1), 1) := by decide +kernel
theorem dX8_sell_11 : decode cX8_sell 11 = .ok (.invokevirtual 100, 3) := by decide +kernel
theorem dX8_sell_14 : decode cX8_sell 14 = .ok (.ireturn, 1) := by decide +kernel
theorem dX8_move_0 : decode cX8_move 0 = .ok (.aload_n 0, 1) := by decide +kernel
theorem dX8_move_1 : decode cX8_move 1 = .ok (.iload_n 1, 1) := by decide +kernel
theorem dX8_move_2 : decode cX8_move 2 = .ok (.invokevirtual 124, 3) := by decide +kernel
theorem dX8_move_5 : decode cX8_move 5 = .ok (.ifCond .eq 21, 3) := by decide +kernel
theorem dX8_move_26 : decode cX8_move 26 = .ok (.aload_n 0, 1) := by decide +kernel
theorem dX8_move_27 : decode cX8_move 27 = .ok (.iconst (-1), 1) := by decide +kernel
theorem dX8_move_28 : decode cX8_move 28 = .ok (.invokevirtual 100, 3) := by decide +kernel
theorem dX8_move_31 : decode cX8_move 31 = .ok (.ireturn, 1) := by decide +kernel
theorem dX8_herd_0 : decode cX8_herd 0 = .ok (.aload_n 0, 1) := by decide +kernel
theorem dX8_herd_1 : decode cX8_herd 1 = .ok (.iload_n 1, 1) := by decide +kernel
theorem dX8_herd_2 : decode cX8_herd 2 = .ok (.invokevirtual 108, 3) := by decide +kernel
theorem dX8_herd_5 : decode cX8_herd 5 = .ok (.ifCond .ne 9, 3) := by decide +kernel
theorem dX8_herd_8 : decode cX8_herd 8 = .ok (.aload_n 0, 1) := by decide +kernel
theorem dX8_herd_9 : decode cX8_herd 9 = .ok (.iconst (-1), 1) := by decide +kernel
theorem dX8_herd_10 : decode cX8_herd 10 = .ok (.invokevirtual 100, 3) := by decide +kernel
theorem dX8_herd_13 : decode cX8_herd 13 = .ok (.ireturn, 1) := by decide +kernel
theorem dX8_put_0 : decode cX8_put 0 = .ok (.aload_n 0, 1) := by decide +kernel
theorem dX8_put_1 : decode cX8_put 1 = .ok (.iload_n 1, 1) := by decide +kernel
theorem dX8_put_2 : decode cX8_put 2 = .ok (.invokevirtual 157, 3) := by decide +kernel
theorem dX8_put_5 : decode cX8_put 5 = .ok (.ifCond .eq 11, 3) := by decide +kernel
theorem dX8_put_16 : decode cX8_put 16 = .ok (.aload_n 0, 1) := by decide +kernel
theorem dX8_put_17 : decode cX8_put 17 = .ok (.iconst (-1), 1) := by decide +kernel
theorem dX8_put_18 : decode cX8_put 18 = .ok (.invokevirtual 100, 3) := by decide +kernel
theorem dX8_put_21 : decode cX8_put 21 = .ok (.ireturn, 1) := by decide +kernel
theorem dX8_drive_0 : decode cX8_drive 0 = .ok (.aload_n 0, 1) := by decide +kernel
theorem dX8_drive_1 : decode cX8_drive 1 = .ok (.iload_n 1, 1) := by decide +kernel
theorem dX8_drive_2 : decode cX8_drive 2 = .ok (.invokevirtual 157, 3) := by decide +kernel
theorem dX8_drive_5 : decode cX8_drive 5 = .ok (.ifCond .eq 16, 3) := by decide +kernel
theorem dX8_drive_21 : decode cX8_drive 21 = .ok (.aload_n 0, 1) := by decide +kernel
theorem dX8_drive_22 : decode cX8_drive 22 = .ok (.iconst (-1), 1) := by decide +kernel
theorem dX8_drive_23 : decode cX8_drive 23 = .ok (.invokevirtual 100, 3) := by decide +kernel
theorem dX8_drive_26 : decode cX8_drive 26 = .ok (.ireturn, 1) := by decide +kernel
theorem dX8_covered_0 : decode cX8_covered 0 = .ok (.aload_n 0, 1) := by decide +kernel
theorem dX8_covered_1 : decode cX8_covered 1 = .ok (.iload_n 1, 1) := by decide +kernel
theorem dX8_covered_2 : decode cX8_covered 2 = .ok (.invokevirtual 108, 3) := by decide +kernel
theorem dX8_covered_5 : decode cX8_covered 5 = .ok (.ifCond .ne 9, 3) := by decide +kernel
theorem dX8_covered_8 : decode cX8_covered 8 = .ok (.aload_n 0, 1) := by decide +kernel
theorem dX8_covered_9 : decode cX8_covered 9 = .ok (.iconst (-1), 1) := by decide +kernel
theorem dX8_covered_10 : decode cX8_covered 10 = .ok (.invokevirtual 100, 3) := by decide +kernel
theorem dX8_covered_13 : decode cX8_covered 13 = .ok (.ireturn, 1) := by decide +kernel
theorem dX8_lacks_0 : decode cX8_lacks 0 = .ok (.aload_n 0, 1) := by decide +kernel
theorem dX8_lacks_1 : decode cX8_lacks 1 = .ok (.iload_n 1, 1) := by decide +kernel
theorem dX8_lacks_2 : decode cX8_lacks 2 = .ok (.invokevirtual 108, 3) := by decide +kernel
theorem dX8_lacks_5 : decode cX8_lacks 5 = .ok (.ifCond .ne 9, 3) := by decide +kernel
theorem dX8_lacks_8 : decode cX8_lacks 8 = .ok (.aload_n 0, 1) := by decide +kernel
theorem dX8_lacks_9 : decode cX8_lacks 9 = .ok (.iconst (-1), 1) := by decide +kernel
theorem dX8_lacks_10 : decode cX8_lacks 10 = .ok (.invokevirtual 100, 3) := by decide +kernel
theorem dX8_lacks_13 : decode cX8_lacks 13 = .ok (.ireturn, 1) := by decide +kernel
theorem dX8_over_0 : decode cX8_over 0 = .ok (.aload_n 0, 1) := by decide +kernel
theorem dX8_over_1 : decode cX8_over 1 = .ok (.iload_n 1, 1) := by decide +kernel
theorem dX8_over_2 : decode cX8_over 2 = .ok (.invokevirtual 127, 3) := by decide +kernel
theorem dX8_over_5 : decode cX8_over 5 = .ok (.ifCond .ne 9, 3) := by decide +kernel
theorem dX8_over_8 : decode cX8_over 8 = .ok (.aload_n 0, 1) := by decide +kernel
theorem dX8_over_9 : decode cX8_over 9 = .ok (.iconst (-1), 1) := by decide +kernel
theorem dX8_over_10 : decode cX8_over 10 = .ok (.invokevirtual 100, 3) := by decide +kernel
theorem dX8_over_13 : decode cX8_over 13 = .ok (.ireturn, 1) := by decide +kernel
theorem dX8_pass_0 : decode cX8_pass 0 = .ok (.iload_n 1, 1) := by decide +kernel
theorem dX8_pass_1 : decode cX8_pass 1 = .ok (.iconst 1, 1) := by decide +kernel
theorem dX8_pass_2 : decode cX8_pass 2 = .ok (.if_icmp .ge 10, 3) := by decide +kernel
theorem dX8_pass_5 : decode cX8_pass 5 = .ok (.aload_n 0, 1) := by decide +kernel
theorem dX8_pass_6 : decode cX8_pass 6 = .ok (.bipush (-4), 2) := by decide +kernel
theorem dX8_pass_8 : decode cX8_pass 8 = .ok (.invokevirtual 100, 3) := by decide +kernel
theorem dX8_pass_11 : decode cX8_pass 11 = .ok (.ireturn, 1) := by decide +kernel
theorem dX8_pass_12 : decode cX8_pass 12 = .ok (.iload_n 1, 1) := by decide +kernel
theorem dX8_pass_13 : decode cX8_pass 13 = .ok (.sipush 720, 3) := by decide +kernel
theorem dX8_pass_16 : decode cX8_pass 16 = .ok (.aload_n 0, 1) := by decide +kernel
theorem dX8_pass_17 : decode cX8_pass 17 = .ok (.getfield 91, 3) := by decide +kernel
theorem dX8_pass_20 : decode cX8_pass 20 = .ok (.isub, 1) := by decide +kernel
theorem dX8_pass_21 : decode cX8_pass 21 = .ok (.if_icmp .le 10, 3) := by decide +kernel
theorem dX8_pass_24 : decode cX8_pass 24 = .ok (.aload_n 0, 1) := by decide +kernel
theorem dX8_pass_25 : decode cX8_pass 25 = .ok (.bipush (-6), 2) := by decide +kernel
theorem dX8_pass_27 : decode cX8_pass 27 = .ok (.invokevirtual 100, 3) := by decide +kernel
theorem dX8_pass_30 : decode cX8_pass 30 = .ok (.ireturn, 1) := by decide +kernel
theorem dX8_pass_31 : decode cX8_pass 31 = .ok (.iconst 0, 1) := by decide +kernel
theorem dX8_pass_32 : decode cX8_pass 32 = .ok (.istore_n 2, 1) := by decide +kernel
theorem dX8_pass_33 : decode cX8_pass 33 = .ok (.iconst 0, 1) := by decide +kernel
theorem dX8_pass_34 : decode cX8_pass 34 = .ok (.istore_n 3, 1) := by decide +kernel
theorem dX8_pass_35 : decode cX8_pass 35 = .ok (.iload_n 3, 1) := by decide +kernel
theorem dX8_pass_36 : decode cX8_pass 36 = .ok (.iload_n 1, 1) := by decide +kernel
theorem dX8_pass_37 : decode cX8_pass 37 = .ok (.if_icmp .ge 38, 3) := by decide +kernel
theorem dX8_pass_40 : decode cX8_pass 40 = .ok (.aload_n 0, 1) := by decide +kernel
theorem dX8_pass_41 : decode cX8_pass 41 = .ok (.dup, 1) := by decide +kernel
theorem dX8_pass_42 : decode cX8_pass 42 = .ok (.getfield 91, 3) := by decide +kernel
theorem dX8_pass_45 : decode cX8_pass 45 = .ok (.iconst 1, 1) := by decide +kernel
theorem dX8_pass_46 : decode cX8_pass 46 = .ok (.iadd, 1) := by decide +kernel
theorem dX8_pass_47 : decode cX8_pass 47 = .ok (.putfield 91, 3) := by decide +kernel
theorem dX8_pass_50 : decode cX8_pass 50 = .ok (.iload_n 2, 1) := by decide +kernel
theorem dX8_pass_51 : decode cX8_pass 51 = .ok (.aload_n 0, 1) := by decide +kernel
theorem dX8_pass_52 : decode cX8_pass 52 = .ok (.invokevirtual 192, 3) := by decide +kernel
theorem dX8_pass_55 : decode cX8_pass 55 = .ok (.iadd, 1) := by decide +kernel
theorem dX8_pass_56 : decode cX8_pass 56 = .ok (.istore_n 2, 1) := by decide +kernel
theorem dX8_pass_57 : decode cX8_pass 57 = .ok (.aload_n 0, 1) := by decide +kernel
theorem dX8_pass_58 : decode cX8_pass 58 = .ok (.invokevirtual 195, 3) := by decide +kernel
theorem dX8_pass_61 : decode cX8_pass 61 = .ok (.aload_n 0, 1) := by decide +kernel
theorem dX8_pass_62 : decode cX8_pass 62 = .ok (.invokevirtual 198, 3) := by decide +kernel
theorem dX8_pass_65 : decode cX8_pass 65 = .ok (.aload_n 0, 1) := by decide +kernel
theorem dX8_pass_66 : decode cX8_pass 66 = .ok (.invokevirtual 201, 3) := by decide +kernel
theorem dX8_pass_69 : decode cX8_pass 69 = .ok (.iinc 3 1, 3) := by decide +kernel
theorem dX8_pass_72 : decode cX8_pass 72 = .ok (.goto (-37), 3) := by decide +kernel
theorem dX8_pass_75 : decode cX8_pass 75 = .ok (.iload_n 2, 1) := by decide +kernel
theorem dX8_pass_76 : decode cX8_pass 76 = .ok (.ireturn, 1) := by decide +kernel
theorem dX8_rest_0 : decode cX8_rest 0 = .ok (.aload_n 0, 1) := by decide +kernel
theorem dX8_rest_1 : decode cX8_rest 1 = .ok (.iload_n 1, 1) := by decide +kernel
theorem dX8_rest_2 : decode cX8_rest 2 = .ok (.invokevirtual 127, 3) := by decide +kernel
theorem dX8_rest_5 : decode cX8_rest 5 = .ok (.ifCond .ne 9, 3) := by decide +kernel
theorem dX8_rest_8 : decode cX8_rest 8 = .ok (.aload_n 0, 1) := by decide +kernel
theorem dX8_rest_9 : decode cX8_rest 9 = .ok (.iconst (-1), 1) := by decide +kernel
theorem dX8_rest_10 : decode cX8_rest 10 = .ok (.invokevirtual 100, 3) := by decide +kernel
theorem dX8_rest_13 : decode cX8_rest 13 = .ok (.ireturn, 1) := by decide +kernel
theorem dX8_cut_0 : decode cX8_cut 0 = .ok (.aload_n 0, 1) := by decide +kernel
theorem dX8_cut_1 : decode cX8_cut 1 = .ok (.iload_n 1, 1) := by decide +kernel
theorem dX8_cut_2 : decode cX8_cut 2 = .ok (.invokevirtual 127, 3) := by decide +kernel
theorem dX8_cut_5 : decode cX8_cut 5 = .ok (.ifCond .ne 9, 3) := by decide +kernel
theorem dX8_cut_8 : decode cX8_cut 8 = .ok (.aload_n 0, 1) := by decide +kernel
theorem dX8_cut_9 : decode cX8_cut 9 = .ok (.iconst (-1), 1) := by decide +kernel
theorem dX8_cut_10 : decode cX8_cut 10 = .ok (.invokevirtual 100, 3) := by decide +kernel
theorem dX8_cut_13 : decode cX8_cut 13 = .ok (.ireturn, 1) := by decide +kernel
theorem dX8_pound_0 : decode cX8_pound 0 = .ok (.aload_n 0, 1) := by decide +kernel
theorem dX8_pound_1 : decode cX8_pound 1 = .ok (.iload_n 1, 1) := by decide +kernel
theorem dX8_pound_2 : decode cX8_pound 2 = .ok (.invokevirtual 157, 3) := by decide +kernel
theorem dX8_pound_5 : decode cX8_pound 5 = .ok (.ifCond .ne 9, 3) := by decide +kernel
theorem dX8_pound_8 : decode cX8_pound 8 = .ok (.aload_n 0, 1) := by decide +kernel
theorem dX8_pound_9 : decode cX8_pound 9 = .ok (.iconst (-1), 1) := by decide +kernel
theorem dX8_pound_10 : decode cX8_pound 10 = .ok (.invokevirtual 100, 3) := by decide +kernel
theorem dX8_pound_13 : decode cX8_pound 13 = .ok (.ireturn, 1) := by decide +kernel
theorem dX8_free_0 : decode cX8_free 0 = .ok (.aload_n 0, 1) := by decide +kernel
theorem dX8_free_1 : decode cX8_free 1 = .ok (.iload_n 1, 1) := by decide +kernel
theorem dX8_free_2 : decode cX8_free 2 = .ok (.invokevirtual 157, 3) := by decide +kernel
theorem dX8_free_5 : decode cX8_free 5 = .ok (.ifCond .ne 9, 3) := by decide +kernel
theorem dX8_free_8 : decode cX8_free 8 = .ok (.aload_n 0, 1) := by decide +kernel
theorem dX8_free_9 : decode cX8_free 9 = .ok (.iconst (-1), 1) := by decide +kernel
theorem dX8_free_10 : decode cX8_free 10 = .ok (.invokevirtual 100, 3) := by decide +kernel
theorem dX8_free_13 : decode cX8_free 13 = .ok (.ireturn, 1) := by decide +kernel
theorem dX8_plan_0 : decode cX8_plan 0 = .ok (.aload_n 0, 1) := by decide +kernel
theorem dX8_plan_1 : decode cX8_plan 1 = .ok (.iload_n 1, 1) := by decide +kernel
theorem dX8_plan_2 : decode cX8_plan 2 = .ok (.invokevirtual 157, 3) := by decide +kernel
theorem dX8_plan_5 : decode cX8_plan 5 = .ok (.ifCond .eq 21, 3) := by decide +kernel
theorem dX8_plan_26 : decode cX8_plan 26 = .ok (.aload_n 0, 1) := by decide +kernel
theorem dX8_plan_27 : decode cX8_plan 27 = .ok (.iconst (-1), 1) := by decide +kernel
theorem dX8_plan_28 : decode cX8_plan 28 = .ok (.invokevirtual 100, 3) := by decide +kernel
theorem dX8_plan_31 : decode cX8_plan 31 = .ok (.ireturn, 1) := by decide +kernel
theorem dX8_planned_0 : decode cX8_planned 0 = .ok (.aload_n 0, 1) := by decide +kernel
theorem dX8_planned_1 : decode cX8_planned 1 = .ok (.getfield 68, 3) := by decide +kernel
theorem dX8_planned_4 : decode cX8_planned 4 = .ok (.iload_n 1, 1) := by decide +kernel
theorem dX8_planned_5 : decode cX8_planned 5 = .ok (.iload_n 2, 1) := by decide +kernel
theorem dX8_planned_6 : decode cX8_planned 6 = .ok (.invokevirtual 244, 3) := by decide +kernel
theorem dX8_planned_9 : decode cX8_planned 9 = .ok (.ireturn, 1) := by decide +kernel
theorem dX8_pieceOf_0 : decode cX8_pieceOf 0 = .ok (.aload_n 0, 1) := by decide +kernel
theorem dX8_pieceOf_1 : decode cX8_pieceOf 1 = .ok (.iload_n 1, 1) := by decide +kernel
theorem dX8_pieceOf_2 : decode cX8_pieceOf 2 = .ok (.invokevirtual 127, 3) := by decide +kernel
theorem dX8_pieceOf_5 : decode cX8_pieceOf 5 = .ok (.ifCond .ne 9, 3) := by decide +kernel
theorem dX8_pieceOf_8 : decode cX8_pieceOf 8 = .ok (.aload_n 0, 1) := by decide +kernel
theorem dX8_pieceOf_9 : decode cX8_pieceOf 9 = .ok (.iconst (-1), 1) := by decide +kernel
theorem dX8_pieceOf_10 : decode cX8_pieceOf 10 = .ok (.invokevirtual 100, 3) := by decide +kernel
theorem dX8_pieceOf_13 : decode cX8_pieceOf 13 = .ok (.ireturn, 1) := by decide +kernel
theorem dX8_rightOf_0 : decode cX8_rightOf 0 = .ok (.aload_n 0, 1) := by decide +kernel
theorem dX8_rightOf_1 : decode cX8_rightOf 1 = .ok (.iload_n 1, 1) := by decide +kernel
theorem dX8_rightOf_2 : decode cX8_rightOf 2 = .ok (.invokevirtual 253, 3) := by decide +kernel
theorem dX8_rightOf_5 : decode cX8_rightOf 5 = .ok (.ifCond .ne 9, 3) := by decide +kernel
theorem dX8_rightOf_8 : decode cX8_rightOf 8 = .ok (.aload_n 0, 1) := by decide +kernel
theorem dX8_rightOf_9 : decode cX8_rightOf 9 = .ok (.iconst (-1), 1) := by decide +kernel
theorem dX8_rightOf_10 : decode cX8_rightOf 10 = .ok (.invokevirtual 100, 3) := by decide +kernel
theorem dX8_rightOf_13 : decode cX8_rightOf 13 = .ok (.ireturn, 1) := by decide +kernel
theorem dX8_herdOf_0 : decode cX8_herdOf 0 = .ok (.aload_n 0, 1) := by decide +kernel
theorem dX8_herdOf_1 : decode cX8_herdOf 1 = .ok (.iload_n 1, 1) := by decide +kernel
theorem dX8_herdOf_2 : decode cX8_herdOf 2 = .ok (.invokevirtual 157, 3) := by decide +kernel
theorem dX8_herdOf_5 : decode cX8_herdOf 5 = .ok (.ifCond .ne 9, 3) := by decide +kernel
theorem dX8_herdOf_8 : decode cX8_herdOf 8 = .ok (.aload_n 0, 1) := by decide +kernel
theorem dX8_herdOf_9 : decode cX8_herdOf 9 = .ok (.iconst (-1), 1) := by decide +kernel
theorem dX8_herdOf_10 : decode cX8_herdOf 10 = .ok (.invokevirtual 100, 3) := by decide +kernel
theorem dX8_herdOf_13 : decode cX8_herdOf 13 = .ok (.ireturn, 1) := by decide +kernel
theorem dX8_ownerOf_0 : decode cX8_ownerOf 0 = .ok (.iload_n 1, 1) := by decide +kernel
theorem dX8_ownerOf_1 : decode cX8_ownerOf 1 = .ok (.iconst (-1), 1) := by decide +kernel
theorem dX8_ownerOf_2 : decode cX8_ownerOf 2 = .ok (.if_icmp .ne 7, 3) := by decide +kernel
theorem dX8_ownerOf_5 : decode cX8_ownerOf 5 = .ok (.iconst 1, 1) := by decide +kernel
theorem dX8_ownerOf_6 : decode cX8_ownerOf 6 = .ok (.goto 4, 3) := by decide +kernel
theorem dX8_ownerOf_9 : decode cX8_ownerOf 9 = .ok (.iconst 0, 1) := by decide +kernel
theorem dX8_ownerOf_10 : decode cX8_ownerOf 10 = .ok (.istore_n 3, 1) := by decide +kernel
theorem dX8_ownerOf_11 : decode cX8_ownerOf 11 = .ok (.iload_n 3, 1) := by decide +kernel
theorem dX8_ownerOf_12 : decode cX8_ownerOf 12 = .ok (.ifCond .ne 17, 3) := by decide +kernel
theorem dX8_ownerOf_15 : decode cX8_ownerOf 15 = .ok (.aload_n 0, 1) := by decide +kernel
theorem dX8_ownerOf_16 : decode cX8_ownerOf 16 = .ok (.iload_n 1, 1) := by decide +kernel
theorem dX8_ownerOf_17 : decode cX8_ownerOf 17 = .ok (.invokevirtual 108, 3) := by decide +kernel
theorem dX8_ownerOf_20 : decode cX8_ownerOf 20 = .ok (.ifCond .ne 9, 3) := by decide +kernel
theorem dX8_ownerOf_23 : decode cX8_ownerOf 23 = .ok (.aload_n 0, 1) := by decide +kernel
theorem dX8_ownerOf_24 : decode cX8_ownerOf 24 = .ok (.iconst (-1), 1) := by decide +kernel
theorem dX8_ownerOf_25 : decode cX8_ownerOf 25 = .ok (.invokevirtual 100, 3) := by decide +kernel
theorem dX8_ownerOf_28 : decode cX8_ownerOf 28 = .ok (.ireturn, 1) := by decide +kernel
theorem dX8_ownerOf_29 : decode cX8_ownerOf 29 = .ok (.iload_n 3, 1) := by decide +kernel
theorem dX8_ownerOf_30 : decode cX8_ownerOf 30 = .ok (.ifCond .eq 10, 3) := by decide +kernel
theorem dX8_ownerOf_33 : decode cX8_ownerOf 33 = .ok (.aload_n 0, 1) := by decide +kernel
theorem dX8_ownerOf_34 : decode cX8_ownerOf 34 = .ok (.getfield 24, 3) := by decide +kernel
theorem dX8_ownerOf_37 : decode cX8_ownerOf 37 = .ok (.goto 9, 3) := by decide +kernel
theorem dX8_ownerOf_46 : decode cX8_ownerOf 46 = .ok (.astore 4, 2) := by decide +kernel
theorem dX8_ownerOf_48 : decode cX8_ownerOf 48 = .ok (.iload_n 2, 1) := by decide +kernel
theorem dX8_ownerOf_49 : decode cX8_ownerOf 49 = .ok (.tableswitch 61 0 3 #[31, 37, 43, 52], 31) := by decide +kernel
theorem dX8_ownerOf_80 : decode cX8_ownerOf 80 = .ok (.aload 4, 2) := by decide +kernel
theorem dX8_ownerOf_82 : decode cX8_ownerOf 82 = .ok (.getfield 228, 3) := by decide +kernel
theorem dX8_ownerOf_85 : decode cX8_ownerOf 85 = .ok (.ireturn, 1) := by decide +kernel
theorem dX8_ownerOf_86 : decode cX8_ownerOf 86 = .ok (.aload 4, 2) := by decide +kernel
theorem dX8_ownerOf_88 : decode cX8_ownerOf 88 = .ok (.getfield 281, 3) := by decide +kernel
theorem dX8_ownerOf_91 : decode cX8_ownerOf 91 = .ok (.ireturn, 1) := by decide +kernel
theorem dX8_ownerOf_92 : decode cX8_ownerOf 92 = .ok (.aload_n 0, 1) := by decide +kernel
theorem dX8_ownerOf_93 : decode cX8_ownerOf 93 = .ok (.iload_n 1, 1) := by decide +kernel
theorem dX8_ownerOf_94 : decode cX8_ownerOf 94 = .ok (.invokevirtual 284, 3) := by decide +kernel
theorem dX8_ownerOf_97 : decode cX8_ownerOf 97 = .ok (.invokevirtual 288, 3) := by decide +kernel
theorem dX8_ownerOf_100 : decode cX8_ownerOf 100 = .ok (.ireturn, 1) := by decide +kernel
theorem dX8_ownerOf_101 : decode cX8_ownerOf 101 = .ok (.aload_n 0, 1) := by decide +kernel
theorem dX8_ownerOf_102 : decode cX8_ownerOf 102 = .ok (.iload_n 1, 1) := by decide +kernel
