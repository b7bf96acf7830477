theorem dX9_refuse_0 : decode cX9_refuse 0 = .ok (.aload_n 0, 1) := by decide +kernel
theorem dX9_refuse_1 : decode cX9_refuse 1 = .ok (.getfield 7, 3) := by decide +kernel
theorem dX9_refuse_4 : decode cX9_refuse 4 = .ok (.iload_n 1, 1) := by decide +kernel
theorem dX9_refuse_5 : decode cX9_refuse 5 = .ok (.ineg, 1) := by decide +kernel
theorem dX9_refuse_6 : decode cX9_refuse 6 = .ok (.dup2, 1) := by decide +kernel
theorem dX9_refuse_7 : decode cX9_refuse 7 = .ok (.iaload, 1) := by decide +kernel
theorem dX9_refuse_8 : decode cX9_refuse 8 = .ok (.iconst 1, 1) := by decide +kernel
theorem dX9_refuse_9 : decode cX9_refuse 9 = .ok (.iadd, 1) := by decide +kernel
theorem dX9_refuse_10 : decode cX9_refuse 10 = .ok (.iastore, 1) := by decide +kernel
theorem dX9_refuse_11 : decode cX9_refuse 11 = .ok (.iload_n 1, 1) := by decide +kernel
theorem dX9_refuse_12 : decode cX9_refuse 12 = .ok (.ireturn, 1) := by decide +kernel
theorem dX9_isIn_0 : decode cX9_isIn 0 = .ok (.iload_n 0, 1) := by decide +kernel
theorem dX9_isIn_1 : decode cX9_isIn 1 = .ok (.ifCond .lt 12, 3) := by decide +kernel
theorem dX9_isIn_4 : decode cX9_isIn 4 = .ok (.iload_n 0, 1) := by decide +kernel
theorem dX9_isIn_5 : decode cX9_isIn 5 = .ok (.iload_n 1, 1) := by decide +kernel
theorem dX9_isIn_6 : decode cX9_isIn 6 = .ok (.if_icmp .ge 7, 3) := by decide +kernel
theorem dX9_isIn_9 : decode cX9_isIn 9 = .ok (.iconst 1, 1) := by decide +kernel
theorem dX9_isIn_10 : decode cX9_isIn 10 = .ok (.goto 4, 3) := by decide +kernel
theorem dX9_isIn_13 : decode cX9_isIn 13 = .ok (.iconst 0, 1) := by decide +kernel
theorem dX9_isIn_14 : decode cX9_isIn 14 = .ok (.ireturn, 1) := by decide +kernel
theorem dX9_ownerOfRight_0 : decode cX9_ownerOfRight 0 = .ok (.aload_n 0, 1) := by decide +kernel
theorem dX9_ownerOfRight_1 : decode cX9_ownerOfRight 1 = .ok (.getfield 50, 3) := by decide +kernel
theorem dX9_ownerOfRight_4 : decode cX9_ownerOfRight 4 = .ok (.iload_n 1, 1) := by decide +kernel
theorem dX9_ownerOfRight_5 : decode cX9_ownerOfRight 5 = .ok (.iaload, 1) := by decide +kernel
theorem dX9_ownerOfRight_6 : decode cX9_ownerOfRight 6 = .ok (.iconst 1, 1) := by decide +kernel
theorem dX9_ownerOfRight_7 : decode cX9_ownerOfRight 7 = .ok (.if_icmp .ne 17, 3) := by decide +kernel
theorem dX9_ownerOfRight_10 : decode cX9_ownerOfRight 10 = .ok (.aload_n 0, 1) := by decide +kernel
theorem dX9_ownerOfRight_11 : decode cX9_ownerOfRight 11 = .ok (.getfield 38, 3) := by decide +kernel
theorem dX9_ownerOfRight_14 : decode cX9_ownerOfRight 14 = .ok (.aload_n 0, 1) := by decide +kernel
theorem dX9_ownerOfRight_15 : decode cX9_ownerOfRight 15 = .ok (.getfield 53, 3) := by decide +kernel
theorem dX9_ownerOfRight_18 : decode cX9_ownerOfRight 18 = .ok (.iload_n 1, 1) := by decide +kernel
theorem dX9_ownerOfRight_19 : decode cX9_ownerOfRight 19 = .ok (.iaload, 1) := by decide +kernel
theorem dX9_ownerOfRight_20 : decode cX9_ownerOfRight 20 = .ok (.iaload, 1) := by decide +kernel
theorem dX9_ownerOfRight_21 : decode cX9_ownerOfRight 21 = .ok (.goto 9, 3) := by decide +kernel
theorem dX9_ownerOfRight_24 : decode cX9_ownerOfRight 24 = .ok (.aload_n 0, 1) := by decide +kernel
theorem dX9_ownerOfRight_25 : decode cX9_ownerOfRight 25 = .ok (.getfield 53, 3) := by decide +kernel
theorem dX9_ownerOfRight_28 : decode cX9_ownerOfRight 28 = .ok (.iload_n 1, 1) := by decide +kernel
theorem dX9_ownerOfRight_29 : decode cX9_ownerOfRight 29 = .ok (.iaload, 1) := by decide +kernel
theorem dX9_ownerOfRight_30 : decode cX9_ownerOfRight 30 = .ok (.ireturn, 1) := by decide +kernel
theorem dX9_isInForce_0 : decode cX9_isInForce 0 = .ok (.aload_n 0, 1) := by decide +kernel
theorem dX9_isInForce_1 : decode cX9_isInForce 1 = .ok (.getfield 74, 3) := by decide +kernel
theorem dX9_isInForce_4 : decode cX9_isInForce 4 = .ok (.iload_n 1, 1) := by decide +kernel
theorem dX9_isInForce_5 : decode cX9_isInForce 5 = .ok (.baload, 1) := by decide +kernel
theorem dX9_isInForce_6 : decode cX9_isInForce 6 = .ok (.ifCond .ne 33, 3) := by decide +kernel
theorem dX9_isInForce_9 : decode cX9_isInForce 9 = .ok (.aload_n 0, 1) := by decide +kernel
theorem dX9_isInForce_10 : decode cX9_isInForce 10 = .ok (.getfield 59, 3) := by decide +kernel
theorem dX9_isInForce_13 : decode cX9_isInForce 13 = .ok (.iload_n 1, 1) := by decide +kernel
theorem dX9_isInForce_14 : decode cX9_isInForce 14 = .ok (.iaload, 1) := by decide +kernel
theorem dX9_isInForce_15 : decode cX9_isInForce 15 = .ok (.aload_n 0, 1) := by decide +kernel
theorem dX9_isInForce_16 : decode cX9_isInForce 16 = .ok (.getfield 141, 3) := by decide +kernel
theorem dX9_isInForce_19 : decode cX9_isInForce 19 = .ok (.if_icmp .gt 20, 3) := by decide +kernel
theorem dX9_isInForce_22 : decode cX9_isInForce 22 = .ok (.aload_n 0, 1) := by decide +kernel
theorem dX9_isInForce_23 : decode cX9_isInForce 23 = .ok (.getfield 141, 3) := by decide +kernel
theorem dX9_isInForce_26 : decode cX9_isInForce 26 = .ok (.aload_n 0, 1) := by decide +kernel
theorem dX9_isInForce_27 : decode cX9_isInForce 27 = .ok (.getfield 62, 3) := by decide +kernel
theorem dX9_isInForce_30 : decode cX9_isInForce 30 = .ok (.iload_n 1, 1) := by decide +kernel
theorem dX9_isInForce_31 : decode cX9_isInForce 31 = .ok (.iaload, 1) := by decide +kernel
theorem dX9_isInForce_32 : decode cX9_isInForce 32 = .ok (.if_icmp .gt 7, 3) := by decide +kernel
theorem dX9_isInForce_35 : decode cX9_isInForce 35 = .ok (.iconst 1, 1) := by decide +kernel
theorem dX9_isInForce_36 : decode cX9_isInForce 36 = .ok (.goto 4, 3) := by decide +kernel
theorem dX9_isInForce_39 : decode cX9_isInForce 39 = .ok (.iconst 0, 1) := by decide +kernel
theorem dX9_isInForce_40 : decode cX9_isInForce 40 = .ok (.ireturn, 1) := by decide +kernel
theorem dX9_partsOf_0 : decode cX9_partsOf 0 = .ok (.aload_n 0, 1) := by decide +kernel
theorem dX9_partsOf_1 : decode cX9_partsOf 1 = .ok (.iload_n 1, 1) := by decide +kernel
theorem dX9_partsOf_2 : decode cX9_partsOf 2 = .ok (.invokevirtual 144, 3) := by decide +kernel
theorem dX9_partsOf_5 : decode cX9_partsOf 5 = .ok (.ifCond .ne 5, 3) := by decide +kernel
theorem dX9_partsOf_8 : decode cX9_partsOf 8 = .ok (.iconst 0, 1) := by decide +kernel
theorem dX9_partsOf_9 : decode cX9_partsOf 9 = .ok (.ireturn, 1) := by decide +kernel
theorem dX9_partsOf_10 : decode cX9_partsOf 10 = .ok (.aload_n 0, 1) := by decide +kernel
theorem dX9_partsOf_11 : decode cX9_partsOf 11 = .ok (.getfield 56, 3) := by decide +kernel
theorem dX9_partsOf_14 : decode cX9_partsOf 14 = .ok (.iload_n 1, 1) := by decide +kernel
theorem dX9_partsOf_15 : decode cX9_partsOf 15 = .ok (.iaload, 1) := by decide +kernel
theorem dX9_partsOf_16 : decode cX9_partsOf 16 = .ok (.istore_n 2, 1) := by decide +kernel
theorem dX9_partsOf_17 : decode cX9_partsOf 17 = .ok (.iconst 0, 1) := by decide +kernel
theorem dX9_partsOf_18 : decode cX9_partsOf 18 = .ok (.istore_n 3, 1) := by decide +kernel
theorem dX9_partsOf_19 : decode cX9_partsOf 19 = .ok (.iload_n 3, 1) := by decide +kernel
theorem dX9_partsOf_20 : decode cX9_partsOf 20 = .ok (.aload_n 0, 1) := by decide +kernel
theorem dX9_partsOf_21 : decode cX9_partsOf 21 = .ok (.getfield 148, 3) := by decide +kernel
theorem dX9_partsOf_24 : decode cX9_partsOf 24 = .ok (.if_icmp .ge 40, 3) := by decide +kernel
theorem dX9_partsOf_27 : decode cX9_partsOf 27 = .ok (.iload_n 2, 1) := by decide +kernel
theorem dX9_partsOf_28 : decode cX9_partsOf 28 = .ok (.aload_n 0, 1) := by decide +kernel
theorem dX9_partsOf_29 : decode cX9_partsOf 29 = .ok (.getfield 68, 3) := by decide +kernel
theorem dX9_partsOf_32 : decode cX9_partsOf 32 = .ok (.iload_n 3, 1) := by decide +kernel
theorem dX9_partsOf_33 : decode cX9_partsOf 33 = .ok (.iaload, 1) := by decide +kernel
theorem dX9_partsOf_34 : decode cX9_partsOf 34 = .ok (.iload_n 1, 1) := by decide +kernel
theorem dX9_partsOf_35 : decode cX9_partsOf 35 = .ok (.if_icmp .ne 20, 3) := by decide +kernel
theorem dX9_partsOf_38 : decode cX9_partsOf 38 = .ok (.aload_n 0, 1) := by decide +kernel
theorem dX9_partsOf_39 : decode cX9_partsOf 39 = .ok (.iload_n 3, 1) := by decide +kernel
theorem dX9_partsOf_40 : decode cX9_partsOf 40 = .ok (.invokevirtual 144, 3) := by decide +kernel
theorem dX9_partsOf_43 : decode cX9_partsOf 43 = .ok (.ifCond .eq 12, 3) := by decide +kernel
theorem dX9_partsOf_46 : decode cX9_partsOf 46 = .ok (.aload_n 0, 1) := by decide +kernel
theorem dX9_partsOf_47 : decode cX9_partsOf 47 = .ok (.getfield 56, 3) := by decide +kernel
theorem dX9_partsOf_50 : decode cX9_partsOf 50 = .ok (.iload_n 3, 1) := by decide +kernel
theorem dX9_partsOf_51 : decode cX9_partsOf 51 = .ok (.iaload, 1) := by decide +kernel
theorem dX9_partsOf_52 : decode cX9_partsOf 52 = .ok (.goto 4, 3) := by decide +kernel
theorem dX9_partsOf_55 : decode cX9_partsOf 55 = .ok (.iconst 0, 1) := by decide +kernel
theorem dX9_partsOf_56 : decode cX9_partsOf 56 = .ok (.isub, 1) := by decide +kernel
theorem dX9_partsOf_57 : decode cX9_partsOf 57 = .ok (.istore_n 2, 1) := by decide +kernel
theorem dX9_partsOf_58 : decode cX9_partsOf 58 = .ok (.iinc 3 1, 3) := by decide +kernel
theorem dX9_partsOf_61 : decode cX9_partsOf 61 = .ok (.goto (-42), 3) := by decide +kernel
theorem dX9_partsOf_64 : decode cX9_partsOf 64 = .ok (.iload_n 2, 1) := by decide +kernel
theorem dX9_partsOf_65 : decode cX9_partsOf 65 = .ok (.ireturn, 1) := by decide +kernel
theorem dX9_partsOfSort_0 : decode cX9_partsOfSort 0 = .ok (.iload_n 0, 1) := by decide +kernel
theorem dX9_partsOfSort_1 : decode cX9_partsOfSort 1 = .ok (.ifCond .ne 8, 3) := by decide +kernel
theorem dX9_partsOfSort_4 : decode cX9_partsOfSort 4 = .ok (.bipush 30, 2) := by decide +kernel
theorem dX9_partsOfSort_6 : decode cX9_partsOfSort 6 = .ok (.goto 15, 3) := by decide +kernel
theorem dX9_partsOfSort_9 : decode cX9_partsOfSort 9 = .ok (.iload_n 0, 1) := by decide +kernel
theorem dX9_partsOfSort_10 : decode cX9_partsOfSort 10 = .ok (.iconst 1, 1) := by decide +kernel
theorem dX9_partsOfSort_11 : decode cX9_partsOfSort 11 = .ok (.if_icmp .ne 8, 3) := by decide +kernel
theorem dX9_partsOfSort_14 : decode cX9_partsOfSort 14 = .ok (.bipush 45, 2) := by decide +kernel
theorem dX9_partsOfSort_16 : decode cX9_partsOfSort 16 = .ok (.goto 5, 3) := by decide +kernel
theorem dX9_partsOfSort_19 : decode cX9_partsOfSort 19 = .ok (.bipush 6, 2) := by decide +kernel
theorem dX9_partsOfSort_21 : decode cX9_partsOfSort 21 = .ok (.ireturn, 1) := by decide +kernel
theorem dX9_partsOfHerd_0 : decode cX9_partsOfHerd 0 = .ok (.aload_n 0, 1) := by decide +kernel
theorem dX9_partsOfHerd_1 : decode cX9_partsOfHerd 1 = .ok (.getfield 86, 3) := by decide +kernel
theorem dX9_partsOfHerd_4 : decode cX9_partsOfHerd 4 = .ok (.iload_n 1, 1) := by decide +kernel
theorem dX9_partsOfHerd_5 : decode cX9_partsOfHerd 5 = .ok (.iaload, 1) := by decide +kernel
theorem dX9_partsOfHerd_6 : decode cX9_partsOfHerd 6 = .ok (.aload_n 0, 1) := by decide +kernel
theorem dX9_partsOfHerd_7 : decode cX9_partsOfHerd 7 = .ok (.getfield 83, 3) := by decide +kernel
theorem dX9_partsOfHerd_10 : decode cX9_partsOfHerd 10 = .ok (.iload_n 1, 1) := by decide +kernel
theorem dX9_partsOfHerd_11 : decode cX9_partsOfHerd 11 = .ok (.iaload, 1) := by decide +kernel
theorem dX9_partsOfHerd_12 : decode cX9_partsOfHerd 12 = .ok (.invokestatic 161, 3) := by decide +kernel
theorem dX9_partsOfHerd_15 : decode cX9_partsOfHerd 15 = .ok (.imul, 1) := by decide +kernel
theorem dX9_partsOfHerd_16 : decode cX9_partsOfHerd 16 = .ok (.ireturn, 1) := by decide +kernel
theorem dX9_isOut_0 : decode cX9_isOut 0 = .ok (.aload_n 0, 1) := by decide +kernel
theorem dX9_isOut_1 : decode cX9_isOut 1 = .ok (.getfield 98, 3) := by decide +kernel
theorem dX9_isOut_4 : decode cX9_isOut 4 = .ok (.iload_n 1, 1) := by decide +kernel
theorem dX9_isOut_5 : decode cX9_isOut 5 = .ok (.iaload, 1) := by decide +kernel
theorem dX9_isOut_6 : decode cX9_isOut 6 = .ok (.ifCond .ne 16, 3) := by decide +kernel
theorem dX9_isOut_9 : decode cX9_isOut 9 = .ok (.aload_n 0, 1) := by decide +kernel
theorem dX9_isOut_10 : decode cX9_isOut 10 = .ok (.getfield 89, 3) := by decide +kernel
theorem dX9_isOut_13 : decode cX9_isOut 13 = .ok (.iload_n 1, 1) := by decide +kernel
theorem dX9_isOut_14 : decode cX9_isOut 14 = .ok (.iaload, 1) := by decide +kernel
theorem dX9_isOut_15 : decode cX9_isOut 15 = .ok (.ifCond .lt 7, 3) := by decide +kernel
theorem dX9_isOut_18 : decode cX9_isOut 18 = .ok (.iconst 1, 1) := by decide +kernel
theorem dX9_isOut_19 : decode cX9_isOut 19 = .ok (.goto 4, 3) := by decide +kernel
theorem dX9_isOut_22 : decode cX9_isOut 22 = .ok (.iconst 0, 1) := by decide +kernel
theorem dX9_isOut_23 : decode cX9_isOut 23 = .ok (.ireturn, 1) := by decide +kernel
theorem dX9_lacksOf_0 : decode cX9_lacksOf 0 = .ok (.iconst 0, 1) := by decide +kernel
theorem dX9_lacksOf_1 : decode cX9_lacksOf 1 = .ok (.istore_n 2, 1) := by decide +kernel
theorem dX9_lacksOf_2 : decode cX9_lacksOf 2 = .ok (.iconst 0, 1) := by decide +kernel
theorem dX9_lacksOf_3 : decode cX9_lacksOf 3 = .ok (.istore_n 3, 1) := by decide +kernel
theorem dX9_lacksOf_4 : decode cX9_lacksOf 4 = .ok (.iconst 0, 1) := by decide +kernel
theorem dX9_lacksOf_5 : decode cX9_lacksOf 5 = .ok (.istore 4, 2) := by decide +kernel
theorem dX9_lacksOf_7 : decode cX9_lacksOf 7 = .ok (.iconst 0, 1) := by decide +kernel
theorem dX9_lacksOf_8 : decode cX9_lacksOf 8 = .ok (.istore 5, 2) := by decide +kernel
theorem dX9_lacksOf_10 : decode cX9_lacksOf 10 = .ok (.iconst 0, 1) := by decide +kernel
theorem dX9_lacksOf_11 : decode cX9_lacksOf 11 = .ok (.istore 6, 2) := by decide +kernel
theorem dX9_lacksOf_13 : decode cX9_lacksOf 13 = .ok (.iload 6, 2) := by decide +kernel
theorem dX9_lacksOf_15 : decode cX9_lacksOf 15 = .ok (.aload_n 0, 1) := by decide +kernel
theorem dX9_lacksOf_16 : decode cX9_lacksOf 16 = .ok (.getfield 127, 3) := by decide +kernel
theorem dX9_lacksOf_19 : decode cX9_lacksOf 19 = .ok (.if_icmp .ge 210, 3) := by decide +kernel
theorem dX9_lacksOf_22 : decode cX9_lacksOf 22 = .ok (.iconst 0, 1) := by decide +kernel
theorem dX9_lacksOf_23 : decode cX9_lacksOf 23 = .ok (.istore 7, 2) := by decide +kernel
theorem dX9_lacksOf_25 : decode cX9_lacksOf 25 = .ok (.iconst 0, 1) := by decide +kernel
theorem dX9_lacksOf_26 : decode cX9_lacksOf 26 = .ok (.istore 8, 2) := by decide +kernel
theorem dX9_lacksOf_28 : decode cX9_lacksOf 28 = .ok (.iconst 0, 1) := by decide +kernel
theorem dX9_lacksOf_29 : decode cX9_lacksOf 29 = .ok (.istore 9, 2) := by decide +kernel
theorem dX9_lacksOf_31 : decode cX9_lacksOf 31 = .ok (.iconst 0, 1) := by decide +kernel
theorem dX9_lacksOf_32 : decode cX9_lacksOf 32 = .ok (.istore 10, 2) := by decide +kernel
theorem dX9_lacksOf_34 : decode cX9_lacksOf 34 = .ok (.iload 10, 2) := by decide +kernel
theorem dX9_lacksOf_36 : decode cX9_lacksOf 36 = .ok (.aload_n 0, 1) := by decide +kernel
theorem dX9_lacksOf_37 : decode cX9_lacksOf 37 = .ok (.getfield 148, 3) := by decide +kernel
theorem dX9_lacksOf_40 : decode cX9_lacksOf 40 = .ok (.if_icmp .ge 57, 3) := by decide +kernel
theorem dX9_lacksOf_43 : decode cX9_lacksOf 43 = .ok (.iload 7, 2) := by decide +kernel
theorem dX9_lacksOf_45 : decode cX9_lacksOf 45 = .ok (.aload_n 0, 1) := by decide +kernel
theorem dX9_lacksOf_46 : decode cX9_lacksOf 46 = .ok (.getfield 50, 3) := by decide +kernel
theorem dX9_lacksOf_49 : decode cX9_lacksOf 49 = .ok (.iload 10, 2) := by decide +kernel
theorem dX9_lacksOf_51 : decode cX9_lacksOf 51 = .ok (.iaload, 1) := by decide +kernel
theorem dX9_lacksOf_52 : decode cX9_lacksOf 52 = .ok (.iconst 3, 1) := by decide +kernel
theorem dX9_lacksOf_53 : decode cX9_lacksOf 53 = .ok (.if_icmp .ne 34, 3) := by decide +kernel
theorem dX9_lacksOf_56 : decode cX9_lacksOf 56 = .ok (.aload_n 0, 1) := by decide +kernel
theorem dX9_lacksOf_57 : decode cX9_lacksOf 57 = .ok (.getfield 65, 3) := by decide +kernel
theorem dX9_lacksOf_60 : decode cX9_lacksOf 60 = .ok (.iload 10, 2) := by decide +kernel
theorem dX9_lacksOf_62 : decode cX9_lacksOf 62 = .ok (.iaload, 1) := by decide +kernel
theorem dX9_lacksOf_63 : decode cX9_lacksOf 63 = .ok (.iload 6, 2) := by decide +kernel
theorem dX9_lacksOf_65 : decode cX9_lacksOf 65 = .ok (.if_icmp .ne 22, 3) := by decide +kernel
theorem dX9_lacksOf_68 : decode cX9_lacksOf 68 = .ok (.aload_n 0, 1) := by decide +kernel
theorem dX9_lacksOf_69 : decode cX9_lacksOf 69 = .ok (.iload 10, 2) := by decide +kernel
theorem dX9_lacksOf_71 : decode cX9_lacksOf 71 = .ok (.invokevirtual 155, 3) := by decide +kernel
theorem dX9_lacksOf_74 : decode cX9_lacksOf 74 = .ok (.iload_n 1, 1) := by decide +kernel
theorem dX9_lacksOf_75 : decode cX9_lacksOf 75 = .ok (.if_icmp .ne 12, 3) := by decide +kernel
theorem dX9_lacksOf_78 : decode cX9_lacksOf 78 = .ok (.aload_n 0, 1) := by decide +kernel
theorem dX9_lacksOf_79 : decode cX9_lacksOf 79 = .ok (.iload 10, 2) := by decide +kernel
theorem dX9_lacksOf_81 : decode cX9_lacksOf 81 = .ok (.invokevirtual 158, 3) := by decide +kernel
theorem dX9_lacksOf_84 : decode cX9_lacksOf 84 = .ok (.goto 4, 3) := by decide +kernel
theorem dX9_lacksOf_87 : decode cX9_lacksOf 87 = .ok (.iconst 0, 1) := by decide +kernel
theorem dX9_lacksOf_88 : decode cX9_lacksOf 88 = .ok (.iadd, 1) := by decide +kernel
theorem dX9_lacksOf_89 : decode cX9_lacksOf 89 = .ok (.istore 7, 2) := by decide +kernel
theorem dX9_lacksOf_91 : decode cX9_lacksOf 91 = .ok (.iinc 10 1, 3) := by decide +kernel
theorem dX9_lacksOf_94 : decode cX9_lacksOf 94 = .ok (.goto (-60), 3) := by decide +kernel
theorem dX9_lacksOf_97 : decode cX9_lacksOf 97 = .ok (.iconst 0, 1) := by decide +kernel
theorem dX9_lacksOf_98 : decode cX9_lacksOf 98 = .ok (.istore 10, 2) := by decide +kernel
theorem dX9_lacksOf_100 : decode cX9_lacksOf 100 = .ok (.iload 10, 2) := by decide +kernel
theorem dX9_lacksOf_102 : decode cX9_lacksOf 102 = .ok (.aload_n 0, 1) := by decide +kernel
theorem dX9_lacksOf_103 : decode cX9_lacksOf 103 = .ok (.getfield 164, 3) := by decide +kernel
theorem dX9_lacksOf_106 : decode cX9_lacksOf 106 = .ok (.if_icmp .ge 80, 3) := by decide +kernel
theorem dX9_lacksOf_109 : decode cX9_lacksOf 109 = .ok (.aload_n 0, 1) := by decide +kernel
theorem dX9_lacksOf_110 : decode cX9_lacksOf 110 = .ok (.iload 10, 2) := by decide +kernel
theorem dX9_lacksOf_112 : decode cX9_lacksOf 112 = .ok (.invokevirtual 167, 3) := by decide +kernel
theorem dX9_lacksOf_115 : decode cX9_lacksOf 115 = .ok (.ifCond .eq 65, 3) := by decide +kernel
theorem dX9_lacksOf_118 : decode cX9_lacksOf 118 = .ok (.aload_n 0, 1) := by decide +kernel
theorem dX9_lacksOf_119 : decode cX9_lacksOf 119 = .ok (.getfield 80, 3) := by decide +kernel
theorem dX9_lacksOf_122 : decode cX9_lacksOf 122 = .ok (.iload 10, 2) := by decide +kernel
theorem dX9_lacksOf_124 : decode cX9_lacksOf 124 = .ok (.iaload, 1) := by decide +kernel
theorem dX9_lacksOf_125 : decode cX9_lacksOf 125 = .ok (.iload_n 1, 1) := by decide +kernel
theorem dX9_lacksOf_126 : decode cX9_lacksOf 126 = .ok (.if_icmp .ne 54, 3) := by decide +kernel
theorem dX9_lacksOf_129 : decode cX9_lacksOf 129 = .ok (.aload_n 0, 1) := by decide +kernel
theorem dX9_lacksOf_130 : decode cX9_lacksOf 130 = .ok (.getfield 89, 3) := by decide +kernel
theorem dX9_lacksOf_133 : decode cX9_lacksOf 133 = .ok (.iload 10, 2) := by decide +kernel
theorem dX9_lacksOf_135 : decode cX9_lacksOf 135 = .ok (.iaload, 1) := by decide +kernel
theorem dX9_lacksOf_136 : decode cX9_lacksOf 136 = .ok (.iload 6, 2) := by decide +kernel
theorem dX9_lacksOf_138 : decode cX9_lacksOf 138 = .ok (.if_icmp .eq 6, 3) := by decide +kernel
theorem dX9_lacksOf_141 : decode cX9_lacksOf 141 = .ok (.goto 39, 3) := by decide +kernel
theorem dX9_lacksOf_144 : decode cX9_lacksOf 144 = .ok (.aload_n 0, 1) := by decide +kernel
theorem dX9_lacksOf_145 : decode cX9_lacksOf 145 = .ok (.getfield 83, 3) := by decide +kernel
theorem dX9_lacksOf_148 : decode cX9_lacksOf 148 = .ok (.iload 10, 2) := by decide +kernel
theorem dX9_lacksOf_150 : decode cX9_lacksOf 150 = .ok (.iaload, 1) := by decide +kernel
theorem dX9_lacksOf_151 : decode cX9_lacksOf 151 = .ok (.iconst 2, 1) := by decide +kernel
theorem dX9_lacksOf_152 : decode cX9_lacksOf 152 = .ok (.if_icmp .ne 17, 3) := by decide +kernel
theorem dX9_lacksOf_155 : decode cX9_lacksOf 155 = .ok (.iload 9, 2) := by decide +kernel
theorem dX9_lacksOf_157 : decode cX9_lacksOf 157 = .ok (.aload_n 0, 1) := by decide +kernel
theorem dX9_lacksOf_158 : decode cX9_lacksOf 158 = .ok (.iload 10, 2) := by decide +kernel
theorem dX9_lacksOf_160 : decode cX9_lacksOf 160 = .ok (.invokevirtual 170, 3) := by decide +kernel
theorem dX9_lacksOf_163 : decode cX9_lacksOf 163 = .ok (.iadd, 1) := by decide +kernel
theorem dX9_lacksOf_164 : decode cX9_lacksOf 164 = .ok (.istore 9, 2) := by decide +kernel
theorem dX9_lacksOf_166 : decode cX9_lacksOf 166 = .ok (.goto 14, 3) := by decide +kernel
theorem dX9_lacksOf_169 : decode cX9_lacksOf 169 = .ok (.iload 8, 2) := by decide +kernel
theorem dX9_lacksOf_171 : decode cX9_lacksOf 171 = .ok (.aload_n 0, 1) := by decide +kernel
theorem dX9_lacksOf_172 : decode cX9_lacksOf 172 = .ok (.iload 10, 2) := by decide +kernel
theorem dX9_lacksOf_174 : decode cX9_lacksOf 174 = .ok (.invokevirtual 170, 3) := by decide +kernel
theorem dX9_lacksOf_177 : decode cX9_lacksOf 177 = .ok (.iadd, 1) := by decide +kernel
theorem dX9_lacksOf_178 : decode cX9_lacksOf 178 = .ok (.istore 8, 2) := by decide +kernel
theorem dX9_lacksOf_180 : decode cX9_lacksOf 180 = .ok (.iinc 10 1, 3) := by decide +kernel
theorem dX9_lacksOf_183 : decode cX9_lacksOf 183 = .ok (.goto (-83), 3) := by decide +kernel
theorem dX9_lacksOf_186 : decode cX9_lacksOf 186 = .ok (.iload 7, 2) := by decide +kernel
theorem dX9_lacksOf_188 : decode cX9_lacksOf 188 = .ok (.iload 8, 2) := by decide +kernel
theorem dX9_lacksOf_190 : decode cX9_lacksOf 190 = .ok (.invokestatic 173, 3) := by decide +kernel
theorem dX9_lacksOf_193 : decode cX9_lacksOf 193 = .ok (.istore 10, 2) := by decide +kernel
theorem dX9_lacksOf_195 : decode cX9_lacksOf 195 = .ok (.iload 5, 2) := by decide +kernel
theorem dX9_lacksOf_197 : decode cX9_lacksOf 197 = .ok (.iload 8, 2) := by decide +kernel
theorem dX9_lacksOf_199 : decode cX9_lacksOf 199 = .ok (.iload 10, 2) := by decide +kernel
theorem dX9_lacksOf_201 : decode cX9_lacksOf 201 = .ok (.isub, 1) := by decide +kernel
theorem dX9_lacksOf_202 : decode cX9_lacksOf 202 = .ok (.iadd, 1) := by decide +kernel
theorem dX9_lacksOf_203 : decode cX9_lacksOf 203 = .ok (.istore 5, 2) := by decide +kernel
theorem dX9_lacksOf_205 : decode cX9_lacksOf 205 = .ok (.iload 4, 2) := by decide +kernel
theorem dX9_lacksOf_207 : decode cX9_lacksOf 207 = .ok (.iload 9, 2) := by decide +kernel
theorem dX9_lacksOf_209 : decode cX9_lacksOf 209 = .ok (.iload 7, 2) := by decide +kernel
theorem dX9_lacksOf_211 : decode cX9_lacksOf 211 = .ok (.iload 10, 2) := by decide +kernel
theorem dX9_lacksOf_213 : decode cX9_lacksOf 213 = .ok (.isub, 1) := by decide +kernel
