theorem dX8_count_70 : decode cX8_count 70 = .ok (.ireturn, 1) := by decide +kernel
theorem dX8_count_71 : decode cX8_count 71 = .ok (.aload_n 0, 1) := by decide +kernel
theorem dX8_count_72 : decode cX8_count 72 = .ok (.getfield 82, 3) := by decide +kernel
theorem dX8_count_75 : decode cX8_count 75 = .ok (.ireturn, 1) := by decide +kernel
theorem dX8_count_76 : decode cX8_count 76 = .ok (.aload_n 0, 1) := by decide +kernel
theorem dX8_count_77 : decode cX8_count 77 = .ok (.invokevirtual 294, 3) := by decide +kernel
theorem dX8_count_80 : decode cX8_count 80 = .ok (.ireturn, 1) := by decide +kernel
theorem dX8_count_81 : decode cX8_count 81 = .ok (.aload_n 0, 1) := by decide +kernel
theorem dX8_count_82 : decode cX8_count 82 = .ok (.invokevirtual 297, 3) := by decide +kernel
theorem dX8_count_85 : decode cX8_count 85 = .ok (.ireturn, 1) := by decide +kernel
theorem dX8_count_86 : decode cX8_count 86 = .ok (.aload_n 0, 1) := by decide +kernel
theorem dX8_count_87 : decode cX8_count 87 = .ok (.invokevirtual 300, 3) := by decide +kernel
theorem dX8_count_90 : decode cX8_count 90 = .ok (.ireturn, 1) := by decide +kernel
theorem dX8_count_91 : decode cX8_count 91 = .ok (.aload_n 0, 1) := by decide +kernel
theorem dX8_count_92 : decode cX8_count 92 = .ok (.invokevirtual 303, 3) := by decide +kernel
theorem dX8_count_95 : decode cX8_count 95 = .ok (.ireturn, 1) := by decide +kernel
theorem dX8_count_96 : decode cX8_count 96 = .ok (.aload_n 0, 1) := by decide +kernel
theorem dX8_count_97 : decode cX8_count 97 = .ok (.invokevirtual 306, 3) := by decide +kernel
theorem dX8_count_100 : decode cX8_count 100 = .ok (.ireturn, 1) := by decide +kernel
theorem dX8_count_101 : decode cX8_count 101 = .ok (.aload_n 0, 1) := by decide +kernel
theorem dX8_count_102 : decode cX8_count 102 = .ok (.getfield 97, 3) := by decide +kernel
theorem dX8_count_105 : decode cX8_count 105 = .ok (.ireturn, 1) := by decide +kernel
theorem dX8_count_106 : decode cX8_count 106 = .ok (.iload_n 1, 1) := by decide +kernel
theorem dX8_count_107 : decode cX8_count 107 = .ok (.bipush 11, 2) := by decide +kernel
theorem dX8_count_109 : decode cX8_count 109 = .ok (.if_icmp .lt 21, 3) := by decide +kernel
theorem dX8_count_112 : decode cX8_count 112 = .ok (.iload_n 1, 1) := by decide +kernel
theorem dX8_count_113 : decode cX8_count 113 = .ok (.bipush 16, 2) := by decide +kernel
theorem dX8_count_115 : decode cX8_count 115 = .ok (.if_icmp .gt 15, 3) := by decide +kernel
theorem dX8_count_118 : decode cX8_count 118 = .ok (.aload_n 0, 1) := by decide +kernel
theorem dX8_count_119 : decode cX8_count 119 = .ok (.getfield 72, 3) := by decide +kernel
theorem dX8_count_122 : decode cX8_count 122 = .ok (.iload_n 1, 1) := by decide +kernel
theorem dX8_count_123 : decode cX8_count 123 = .ok (.bipush 10, 2) := by decide +kernel
theorem dX8_count_125 : decode cX8_count 125 = .ok (.isub, 1) := by decide +kernel
theorem dX8_count_126 : decode cX8_count 126 = .ok (.iaload, 1) := by decide +kernel
theorem dX8_count_127 : decode cX8_count 127 = .ok (.goto 5, 3) := by decide +kernel
theorem dX8_count_130 : decode cX8_count 130 = .ok (.bipush (-9), 2) := by decide +kernel
theorem dX8_count_132 : decode cX8_count 132 = .ok (.ireturn, 1) := by decide +kernel
theorem dX8_refuse_0 : decode cX8_refuse 0 = .ok (.iload_n 1, 1) := by decide +kernel
theorem dX8_refuse_1 : decode cX8_refuse 1 = .ok (.ifCond .ge 20, 3) := by decide +kernel
theorem dX8_refuse_4 : decode cX8_refuse 4 = .ok (.iload_n 1, 1) := by decide +kernel
theorem dX8_refuse_5 : decode cX8_refuse 5 = .ok (.bipush (-6), 2) := by decide +kernel
theorem dX8_refuse_7 : decode cX8_refuse 7 = .ok (.if_icmp .lt 14, 3) := by decide +kernel
theorem dX8_refuse_10 : decode cX8_refuse 10 = .ok (.aload_n 0, 1) := by decide +kernel
theorem dX8_refuse_11 : decode cX8_refuse 11 = .ok (.getfield 72, 3) := by decide +kernel
theorem dX8_refuse_14 : decode cX8_refuse 14 = .ok (.iload_n 1, 1) := by decide +kernel
theorem dX8_refuse_15 : decode cX8_refuse 15 = .ok (.ineg, 1) := by decide +kernel
theorem dX8_refuse_16 : decode cX8_refuse 16 = .ok (.dup2, 1) := by decide +kernel
theorem dX8_refuse_17 : decode cX8_refuse 17 = .ok (.iaload, 1) := by decide +kernel
theorem dX8_refuse_18 : decode cX8_refuse 18 = .ok (.iconst 1, 1) := by decide +kernel
theorem dX8_refuse_19 : decode cX8_refuse 19 = .ok (.iadd, 1) := by decide +kernel
theorem dX8_refuse_20 : decode cX8_refuse 20 = .ok (.iastore, 1) := by decide +kernel
theorem dX8_refuse_21 : decode cX8_refuse 21 = .ok (.iload_n 1, 1) := by decide +kernel
theorem dX8_refuse_22 : decode cX8_refuse 22 = .ok (.ireturn, 1) := by decide +kernel
theorem dX8_isPiece_0 : decode cX8_isPiece 0 = .ok (.iload_n 1, 1) := by decide +kernel
theorem dX8_isPiece_1 : decode cX8_isPiece 1 = .ok (.ifCond .lt 15, 3) := by decide +kernel
theorem dX8_isPiece_4 : decode cX8_isPiece 4 = .ok (.iload_n 1, 1) := by decide +kernel
theorem dX8_isPiece_5 : decode cX8_isPiece 5 = .ok (.aload_n 0, 1) := by decide +kernel
theorem dX8_isPiece_6 : decode cX8_isPiece 6 = .ok (.getfield 75, 3) := by decide +kernel
theorem dX8_isPiece_9 : decode cX8_isPiece 9 = .ok (.if_icmp .ge 7, 3) := by decide +kernel
theorem dX8_isPiece_12 : decode cX8_isPiece 12 = .ok (.iconst 1, 1) := by decide +kernel
theorem dX8_isPiece_13 : decode cX8_isPiece 13 = .ok (.goto 4, 3) := by decide +kernel
theorem dX8_isPiece_16 : decode cX8_isPiece 16 = .ok (.iconst 0, 1) := by decide +kernel
theorem dX8_isPiece_17 : decode cX8_isPiece 17 = .ok (.ireturn, 1) := by decide +kernel
theorem dX8_isOwner_0 : decode cX8_isOwner 0 = .ok (.iload_n 1, 1) := by decide +kernel
theorem dX8_isOwner_1 : decode cX8_isOwner 1 = .ok (.ifCond .lt 15, 3) := by decide +kernel
theorem dX8_isOwner_4 : decode cX8_isOwner 4 = .ok (.iload_n 1, 1) := by decide +kernel
theorem dX8_isOwner_5 : decode cX8_isOwner 5 = .ok (.aload_n 0, 1) := by decide +kernel
theorem dX8_isOwner_6 : decode cX8_isOwner 6 = .ok (.getfield 79, 3) := by decide +kernel
theorem dX8_isOwner_9 : decode cX8_isOwner 9 = .ok (.if_icmp .ge 7, 3) := by decide +kernel
theorem dX8_isOwner_12 : decode cX8_isOwner 12 = .ok (.iconst 1, 1) := by decide +kernel
theorem dX8_isOwner_13 : decode cX8_isOwner 13 = .ok (.goto 4, 3) := by decide +kernel
theorem dX8_isOwner_16 : decode cX8_isOwner 16 = .ok (.iconst 0, 1) := by decide +kernel
theorem dX8_isOwner_17 : decode cX8_isOwner 17 = .ok (.ireturn, 1) := by decide +kernel
theorem dX8_isHouse_0 : decode cX8_isHouse 0 = .ok (.iload_n 1, 1) := by decide +kernel
theorem dX8_isHouse_1 : decode cX8_isHouse 1 = .ok (.ifCond .lt 15, 3) := by decide +kernel
theorem dX8_isHouse_4 : decode cX8_isHouse 4 = .ok (.iload_n 1, 1) := by decide +kernel
theorem dX8_isHouse_5 : decode cX8_isHouse 5 = .ok (.aload_n 0, 1) := by decide +kernel
theorem dX8_isHouse_6 : decode cX8_isHouse 6 = .ok (.getfield 82, 3) := by decide +kernel
theorem dX8_isHouse_9 : decode cX8_isHouse 9 = .ok (.if_icmp .ge 7, 3) := by decide +kernel
theorem dX8_isHouse_12 : decode cX8_isHouse 12 = .ok (.iconst 1, 1) := by decide +kernel
theorem dX8_isHouse_13 : decode cX8_isHouse 13 = .ok (.goto 4, 3) := by decide +kernel
theorem dX8_isHouse_16 : decode cX8_isHouse 16 = .ok (.iconst 0, 1) := by decide +kernel
theorem dX8_isHouse_17 : decode cX8_isHouse 17 = .ok (.ireturn, 1) := by decide +kernel
theorem dX8_isRight_0 : decode cX8_isRight 0 = .ok (.iload_n 1, 1) := by decide +kernel
theorem dX8_isRight_1 : decode cX8_isRight 1 = .ok (.ifCond .lt 15, 3) := by decide +kernel
theorem dX8_isRight_4 : decode cX8_isRight 4 = .ok (.iload_n 1, 1) := by decide +kernel
theorem dX8_isRight_5 : decode cX8_isRight 5 = .ok (.aload_n 0, 1) := by decide +kernel
theorem dX8_isRight_6 : decode cX8_isRight 6 = .ok (.getfield 85, 3) := by decide +kernel
theorem dX8_isRight_9 : decode cX8_isRight 9 = .ok (.if_icmp .ge 7, 3) := by decide +kernel
theorem dX8_isRight_12 : decode cX8_isRight 12 = .ok (.iconst 1, 1) := by decide +kernel
theorem dX8_isRight_13 : decode cX8_isRight 13 = .ok (.goto 4, 3) := by decide +kernel
theorem dX8_isRight_16 : decode cX8_isRight 16 = .ok (.iconst 0, 1) := by decide +kernel
theorem dX8_isRight_17 : decode cX8_isRight 17 = .ok (.ireturn, 1) := by decide +kernel
theorem dX8_isHerd_0 : decode cX8_isHerd 0 = .ok (.iload_n 1, 1) := by decide +kernel
theorem dX8_isHerd_1 : decode cX8_isHerd 1 = .ok (.ifCond .lt 15, 3) := by decide +kernel
theorem dX8_isHerd_4 : decode cX8_isHerd 4 = .ok (.iload_n 1, 1) := by decide +kernel
theorem dX8_isHerd_5 : decode cX8_isHerd 5 = .ok (.aload_n 0, 1) := by decide +kernel
theorem dX8_isHerd_6 : decode cX8_isHerd 6 = .ok (.getfield 88, 3) := by decide +kernel
theorem dX8_isHerd_9 : decode cX8_isHerd 9 = .ok (.if_icmp .ge 7, 3) := by decide +kernel
theorem dX8_isHerd_12 : decode cX8_isHerd 12 = .ok (.iconst 1, 1) := by decide +kernel
theorem dX8_isHerd_13 : decode cX8_isHerd 13 = .ok (.goto 4, 3) := by decide +kernel
theorem dX8_isHerd_16 : decode cX8_isHerd 16 = .ok (.iconst 0, 1) := by decide +kernel
theorem dX8_isHerd_17 : decode cX8_isHerd 17 = .ok (.ireturn, 1) := by decide +kernel
theorem dX8_addRight_0 : decode cX8_addRight 0 = .ok (.aload_n 0, 1) := by decide +kernel
theorem dX8_addRight_1 : decode cX8_addRight 1 = .ok (.getfield 34, 3) := by decide +kernel
theorem dX8_addRight_4 : decode cX8_addRight 4 = .ok (.aload_n 0, 1) := by decide +kernel
theorem dX8_addRight_5 : decode cX8_addRight 5 = .ok (.getfield 85, 3) := by decide +kernel
theorem dX8_addRight_8 : decode cX8_addRight 8 = .ok (.aload_n 1, 1) := by decide +kernel
theorem dX8_addRight_9 : decode cX8_addRight 9 = .ok (.aastore, 1) := by decide +kernel
theorem dX8_addRight_10 : decode cX8_addRight 10 = .ok (.aload_n 0, 1) := by decide +kernel
theorem dX8_addRight_11 : decode cX8_addRight 11 = .ok (.dup, 1) := by decide +kernel
theorem dX8_addRight_12 : decode cX8_addRight 12 = .ok (.getfield 85, 3) := by decide +kernel
theorem dX8_addRight_15 : decode cX8_addRight 15 = .ok (.iconst 1, 1) := by decide +kernel
theorem dX8_addRight_16 : decode cX8_addRight 16 = .ok (.iadd, 1) := by decide +kernel
theorem dX8_addRight_17 : decode cX8_addRight 17 = .ok (.putfield 85, 3) := by decide +kernel
theorem dX8_addRight_20 : decode cX8_addRight 20 = .ok (.aload_n 0, 1) := by decide +kernel
theorem dX8_addRight_21 : decode cX8_addRight 21 = .ok (.getfield 85, 3) := by decide +kernel
theorem dX8_addRight_24 : decode cX8_addRight 24 = .ok (.iconst 1, 1) := by decide +kernel
theorem dX8_addRight_25 : decode cX8_addRight 25 = .ok (.isub, 1) := by decide +kernel
theorem dX8_addRight_26 : decode cX8_addRight 26 = .ok (.ireturn, 1) := by decide +kernel
theorem dX8_canPass_0 : decode cX8_canPass 0 = .ok (.aload_n 0, 1) := by decide +kernel
theorem dX8_canPass_1 : decode cX8_canPass 1 = .ok (.iload_n 1, 1) := by decide +kernel
theorem dX8_canPass_2 : decode cX8_canPass 2 = .ok (.invokevirtual 253, 3) := by decide +kernel
theorem dX8_canPass_5 : decode cX8_canPass 5 = .ok (.ifCond .eq 29, 3) := by decide +kernel
theorem dX8_canPass_8 : decode cX8_canPass 8 = .ok (.aload_n 0, 1) := by decide +kernel
theorem dX8_canPass_9 : decode cX8_canPass 9 = .ok (.iload_n 2, 1) := by decide +kernel
theorem dX8_canPass_10 : decode cX8_canPass 10 = .ok (.invokevirtual 108, 3) := by decide +kernel
theorem dX8_canPass_13 : decode cX8_canPass 13 = .ok (.ifCond .eq 21, 3) := by decide +kernel
theorem dX8_canPass_16 : decode cX8_canPass 16 = .ok (.aload_n 0, 1) := by decide +kernel
theorem dX8_canPass_17 : decode cX8_canPass 17 = .ok (.aload_n 0, 1) := by decide +kernel
theorem dX8_canPass_18 : decode cX8_canPass 18 = .ok (.getfield 34, 3) := by decide +kernel
theorem dX8_canPass_21 : decode cX8_canPass 21 = .ok (.iload_n 1, 1) := by decide +kernel
theorem dX8_canPass_22 : decode cX8_canPass 22 = .ok (.aaload, 1) := by decide +kernel
theorem dX8_canPass_23 : decode cX8_canPass 23 = .ok (.invokevirtual 256, 3) := by decide +kernel
theorem dX8_canPass_26 : decode cX8_canPass 26 = .ok (.iload_n 2, 1) := by decide +kernel
theorem dX8_canPass_27 : decode cX8_canPass 27 = .ok (.if_icmp .eq 7, 3) := by decide +kernel
theorem dX8_canPass_30 : decode cX8_canPass 30 = .ok (.iconst 1, 1) := by decide +kernel
theorem dX8_canPass_31 : decode cX8_canPass 31 = .ok (.goto 4, 3) := by decide +kernel
theorem dX8_canPass_34 : decode cX8_canPass 34 = .ok (.iconst 0, 1) := by decide +kernel
theorem dX8_canPass_35 : decode cX8_canPass 35 = .ok (.ireturn, 1) := by decide +kernel
theorem dX8_holder_0 : decode cX8_holder 0 = .ok (.aload_n 1, 1) := by decide +kernel
theorem dX8_holder_1 : decode cX8_holder 1 = .ok (.getfield 140, 3) := by decide +kernel
theorem dX8_holder_4 : decode cX8_holder 4 = .ok (.iconst 1, 1) := by decide +kernel
theorem dX8_holder_5 : decode cX8_holder 5 = .ok (.if_icmp .eq 8, 3) := by decide +kernel
theorem dX8_holder_8 : decode cX8_holder 8 = .ok (.aload_n 1, 1) := by decide +kernel
theorem dX8_holder_9 : decode cX8_holder 9 = .ok (.getfield 152, 3) := by decide +kernel
theorem dX8_holder_12 : decode cX8_holder 12 = .ok (.ireturn, 1) := by decide +kernel
theorem dX8_holder_13 : decode cX8_holder 13 = .ok (.aload_n 0, 1) := by decide +kernel
theorem dX8_holder_14 : decode cX8_holder 14 = .ok (.aload_n 1, 1) := by decide +kernel
theorem dX8_holder_15 : decode cX8_holder 15 = .ok (.getfield 152, 3) := by decide +kernel
theorem dX8_holder_18 : decode cX8_holder 18 = .ok (.invokevirtual 124, 3) := by decide +kernel
theorem dX8_holder_21 : decode cX8_holder 21 = .ok (.ifCond .eq 15, 3) := by decide +kernel
theorem dX8_holder_24 : decode cX8_holder 24 = .ok (.aload_n 0, 1) := by decide +kernel
theorem dX8_holder_25 : decode cX8_holder 25 = .ok (.getfield 28, 3) := by decide +kernel
theorem dX8_holder_28 : decode cX8_holder 28 = .ok (.aload_n 1, 1) := by decide +kernel
theorem dX8_holder_29 : decode cX8_holder 29 = .ok (.getfield 152, 3) := by decide +kernel
theorem dX8_holder_32 : decode cX8_holder 32 = .ok (.iaload, 1) := by decide +kernel
theorem dX8_holder_33 : decode cX8_holder 33 = .ok (.goto 5, 3) := by decide +kernel
theorem dX8_holder_36 : decode cX8_holder 36 = .ok (.bipush (-9), 2) := by decide +kernel
theorem dX8_holder_38 : decode cX8_holder 38 = .ok (.ireturn, 1) := by decide +kernel
theorem dX8_countingParts_0 : decode cX8_countingParts 0 = .ok (.aload_n 0, 1) := by decide +kernel
theorem dX8_countingParts_1 : decode cX8_countingParts 1 = .ok (.getfield 34, 3) := by decide +kernel
theorem dX8_countingParts_4 : decode cX8_countingParts 4 = .ok (.iload_n 1, 1) := by decide +kernel
theorem dX8_countingParts_5 : decode cX8_countingParts 5 = .ok (.aaload, 1) := by decide +kernel
theorem dX8_countingParts_6 : decode cX8_countingParts 6 = .ok (.aload_n 0, 1) := by decide +kernel
theorem dX8_countingParts_7 : decode cX8_countingParts 7 = .ok (.getfield 91, 3) := by decide +kernel
theorem dX8_countingParts_10 : decode cX8_countingParts 10 = .ok (.invokevirtual 143, 3) := by decide +kernel
theorem dX8_countingParts_13 : decode cX8_countingParts 13 = .ok (.ifCond .ne 5, 3) := by decide +kernel
theorem dX8_countingParts_16 : decode cX8_countingParts 16 = .ok (.iconst 0, 1) := by decide +kernel
theorem dX8_countingParts_17 : decode cX8_countingParts 17 = .ok (.ireturn, 1) := by decide +kernel
theorem dX8_countingParts_18 : decode cX8_countingParts 18 = .ok (.aload_n 0, 1) := by decide +kernel
theorem dX8_countingParts_19 : decode cX8_countingParts 19 = .ok (.getfield 34, 3) := by decide +kernel
theorem dX8_countingParts_22 : decode cX8_countingParts 22 = .ok (.iload_n 1, 1) := by decide +kernel
theorem dX8_countingParts_23 : decode cX8_countingParts 23 = .ok (.aaload, 1) := by decide +kernel
theorem dX8_countingParts_24 : decode cX8_countingParts 24 = .ok (.getfield 309, 3) := by decide +kernel
theorem dX8_countingParts_27 : decode cX8_countingParts 27 = .ok (.istore_n 2, 1) := by decide +kernel
theorem dX8_countingParts_28 : decode cX8_countingParts 28 = .ok (.iload_n 1, 1) := by decide +kernel
theorem dX8_countingParts_29 : decode cX8_countingParts 29 = .ok (.iconst 1, 1) := by decide +kernel
theorem dX8_countingParts_30 : decode cX8_countingParts 30 = .ok (.iadd, 1) := by decide +kernel
theorem dX8_countingParts_31 : decode cX8_countingParts 31 = .ok (.istore_n 3, 1) := by decide +kernel
theorem dX8_countingParts_32 : decode cX8_countingParts 32 = .ok (.iload_n 3, 1) := by decide +kernel
theorem dX8_countingParts_33 : decode cX8_countingParts 33 = .ok (.aload_n 0, 1) := by decide +kernel
theorem dX8_countingParts_34 : decode cX8_countingParts 34 = .ok (.getfield 85, 3) := by decide +kernel
theorem dX8_countingParts_37 : decode cX8_countingParts 37 = .ok (.if_icmp .ge 62, 3) := by decide +kernel
theorem dX8_countingParts_40 : decode cX8_countingParts 40 = .ok (.aload_n 0, 1) := by decide +kernel
theorem dX8_countingParts_41 : decode cX8_countingParts 41 = .ok (.getfield 34, 3) := by decide +kernel
theorem dX8_countingParts_44 : decode cX8_countingParts 44 = .ok (.iload_n 1, 1) := by decide +kernel
theorem dX8_countingParts_45 : decode cX8_countingParts 45 = .ok (.aaload, 1) := by decide +kernel
theorem dX8_countingParts_46 : decode cX8_countingParts 46 = .ok (.getfield 140, 3) := by decide +kernel
theorem dX8_countingParts_49 : decode cX8_countingParts 49 = .ok (.ifCond .ne 50, 3) := by decide +kernel
theorem dX8_countingParts_52 : decode cX8_countingParts 52 = .ok (.aload_n 0, 1) := by decide +kernel
theorem dX8_countingParts_53 : decode cX8_countingParts 53 = .ok (.getfield 34, 3) := by decide +kernel
theorem dX8_countingParts_56 : decode cX8_countingParts 56 = .ok (.iload_n 3, 1) := by decide +kernel
theorem dX8_countingParts_57 : decode cX8_countingParts 57 = .ok (.aaload, 1) := by decide +kernel
theorem dX8_countingParts_58 : decode cX8_countingParts 58 = .ok (.getfield 266, 3) := by decide +kernel
theorem dX8_countingParts_61 : decode cX8_countingParts 61 = .ok (.iload_n 1, 1) := by decide +kernel
theorem dX8_countingParts_62 : decode cX8_countingParts 62 = .ok (.if_icmp .ne 31, 3) := by decide +kernel
theorem dX8_countingParts_65 : decode cX8_countingParts 65 = .ok (.aload_n 0, 1) := by decide +kernel
theorem dX8_countingParts_66 : decode cX8_countingParts 66 = .ok (.getfield 34, 3) := by decide +kernel
theorem dX8_countingParts_69 : decode cX8_countingParts 69 = .ok (.iload_n 3, 1) := by decide +kernel
theorem dX8_countingParts_70 : decode cX8_countingParts 70 = .ok (.aaload, 1) := by decide +kernel
theorem dX8_countingParts_71 : decode cX8_countingParts 71 = .ok (.aload_n 0, 1) := by decide +kernel
theorem dX8_countingParts_72 : decode cX8_countingParts 72 = .ok (.getfield 91, 3) := by decide +kernel
theorem dX8_countingParts_75 : decode cX8_countingParts 75 = .ok (.invokevirtual 143, 3) := by decide +kernel
theorem dX8_countingParts_78 : decode cX8_countingParts 78 = .ok (.ifCond .eq 15, 3) := by decide +kernel
theorem dX8_countingParts_81 : decode cX8_countingParts 81 = .ok (.iload_n 2, 1) := by decide +kernel
theorem dX8_countingParts_82 : decode cX8_countingParts 82 = .ok (.aload_n 0, 1) := by decide +kernel
theorem dX8_countingParts_83 : decode cX8_countingParts 83 = .ok (.getfield 34, 3) := by decide +kernel
theorem dX8_countingParts_86 : decode cX8_countingParts 86 = .ok (.iload_n 3, 1) := by decide +kernel
theorem dX8_countingParts_87 : decode cX8_countingParts 87 = .ok (.aaload, 1) := by decide +kernel
theorem dX8_countingParts_88 : decode cX8_countingParts 88 = .ok (.getfield 309, 3) := by decide +kernel
theorem dX8_countingParts_91 : decode cX8_countingParts 91 = .ok (.isub, 1) := by decide +kernel
theorem dX8_countingParts_92 : decode cX8_countingParts 92 = .ok (.istore_n 2, 1) := by decide +kernel
theorem dX8_countingParts_93 : decode cX8_countingParts 93 = .ok (.iinc 3 1, 3) := by decide +kernel
theorem dX8_countingParts_96 : decode cX8_countingParts 96 = .ok (.goto (-64), 3) := by decide +kernel
theorem dX8_countingParts_99 : decode cX8_countingParts 99 = .ok (.iload_n 2, 1) := by decide +kernel
theorem dX8_countingParts_100 : decode cX8_countingParts 100 = .ok (.ireturn, 1) := by decide +kernel
theorem dX8_coverOf_0 : decode cX8_coverOf 0 = .ok (.aload_n 0, 1) := by decide +kernel
theorem dX8_coverOf_1 : decode cX8_coverOf 1 = .ok (.getfield 54, 3) := by decide +kernel
theorem dX8_coverOf_4 : decode cX8_coverOf 4 = .ok (.invokevirtual 311, 3) := by decide +kernel
theorem dX8_coverOf_7 : decode cX8_coverOf 7 = .ok (.iconst 0, 1) := by decide +kernel
theorem dX8_coverOf_8 : decode cX8_coverOf 8 = .ok (.istore_n 2, 1) := by decide +kernel
theorem dX8_coverOf_9 : decode cX8_coverOf 9 = .ok (.iload_n 2, 1) := by decide +kernel
theorem dX8_coverOf_10 : decode cX8_coverOf 10 = .ok (.aload_n 0, 1) := by decide +kernel
theorem dX8_coverOf_11 : decode cX8_coverOf 11 = .ok (.getfield 88, 3) := by decide +kernel
theorem dX8_coverOf_14 : decode cX8_coverOf 14 = .ok (.if_icmp .ge 35, 3) := by decide +kernel
theorem dX8_coverOf_17 : decode cX8_coverOf 17 = .ok (.aload_n 0, 1) := by decide +kernel
theorem dX8_coverOf_18 : decode cX8_coverOf 18 = .ok (.getfield 40, 3) := by decide +kernel
theorem dX8_coverOf_21 : decode cX8_coverOf 21 = .ok (.iload_n 2, 1) := by decide +kernel
theorem dX8_coverOf_22 : decode cX8_coverOf 22 = .ok (.aaload, 1) := by decide +kernel
theorem dX8_coverOf_23 : decode cX8_coverOf 23 = .ok (.getfield 169, 3) := by decide +kernel
theorem dX8_coverOf_26 : decode cX8_coverOf 26 = .ok (.iload_n 1, 1) := by decide +kernel
theorem dX8_coverOf_27 : decode cX8_coverOf 27 = .ok (.if_icmp .ne 16, 3) := by decide +kernel
theorem dX8_coverOf_30 : decode cX8_coverOf 30 = .ok (.aload_n 0, 1) := by decide +kernel
theorem dX8_coverOf_31 : decode cX8_coverOf 31 = .ok (.getfield 54, 3) := by decide +kernel
theorem dX8_coverOf_34 : decode cX8_coverOf 34 = .ok (.aload_n 0, 1) := by decide +kernel
theorem dX8_coverOf_35 : decode cX8_coverOf 35 = .ok (.getfield 40, 3) := by decide +kernel
theorem dX8_coverOf_38 : decode cX8_coverOf 38 = .ok (.iload_n 2, 1) := by decide +kernel
theorem dX8_coverOf_39 : decode cX8_coverOf 39 = .ok (.aaload, 1) := by decide +kernel
theorem dX8_coverOf_40 : decode cX8_coverOf 40 = .ok (.invokevirtual 314, 3) := by decide +kernel
theorem dX8_coverOf_43 : decode cX8_coverOf 43 = .ok (.iinc 2 1, 3) := by decide +kernel
theorem dX8_coverOf_46 : decode cX8_coverOf 46 = .ok (.goto (-37), 3) := by decide +kernel
theorem dX8_coverOf_49 : decode cX8_coverOf 49 = .ok (.iconst 0, 1) := by decide +kernel
theorem dX8_coverOf_50 : decode cX8_coverOf 50 = .ok (.istore_n 2, 1) := by decide +kernel
theorem dX8_coverOf_51 : decode cX8_coverOf 51 = .ok (.iload_n 2, 1) := by decide +kernel
theorem dX8_coverOf_52 : decode cX8_coverOf 52 = .ok (.aload_n 0, 1) := by decide +kernel
theorem dX8_coverOf_53 : decode cX8_coverOf 53 = .ok (.getfield 85, 3) := by decide +kernel
theorem dX8_coverOf_56 : decode cX8_coverOf 56 = .ok (.if_icmp .ge 41, 3) := by decide +kernel
theorem dX8_coverOf_59 : decode cX8_coverOf 59 = .ok (.aload_n 0, 1) := by decide +kernel
theorem dX8_coverOf_60 : decode cX8_coverOf 60 = .ok (.aload_n 0, 1) := by decide +kernel
theorem dX8_coverOf_61 : decode cX8_coverOf 61 = .ok (.getfield 34, 3) := by decide +kernel
theorem dX8_coverOf_64 : decode cX8_coverOf 64 = .ok (.iload_n 2, 1) := by decide +kernel
theorem dX8_coverOf_65 : decode cX8_coverOf 65 = .ok (.aaload, 1) := by decide +kernel
theorem dX8_coverOf_66 : decode cX8_coverOf 66 = .ok (.invokevirtual 256, 3) := by decide +kernel
theorem dX8_coverOf_69 : decode cX8_coverOf 69 = .ok (.iload_n 1, 1) := by decide +kernel
theorem dX8_coverOf_70 : decode cX8_coverOf 70 = .ok (.if_icmp .ne 21, 3) := by decide +kernel
theorem dX8_coverOf_73 : decode cX8_coverOf 73 = .ok (.aload_n 0, 1) := by decide +kernel
theorem dX8_coverOf_74 : decode cX8_coverOf 74 = .ok (.getfield 54, 3) := by decide +kernel
theorem dX8_coverOf_77 : decode cX8_coverOf 77 = .ok (.aload_n 0, 1) := by decide +kernel
theorem dX8_coverOf_78 : decode cX8_coverOf 78 = .ok (.getfield 34, 3) := by decide +kernel
theorem dX8_coverOf_81 : decode cX8_coverOf 81 = .ok (.iload_n 2, 1) := by decide +kernel
theorem dX8_coverOf_82 : decode cX8_coverOf 82 = .ok (.aaload, 1) := by decide +kernel
theorem dX8_coverOf_83 : decode cX8_coverOf 83 = .ok (.aload_n 0, 1) := by decide +kernel
theorem dX8_coverOf_84 : decode cX8_coverOf 84 = .ok (.iload_n 2, 1) := by decide +kernel
theorem dX8_coverOf_85 : decode cX8_coverOf 85 = .ok (.invokevirtual 146, 3) := by decide +kernel
theorem dX8_coverOf_88 : decode cX8_coverOf 88 = .ok (.invokevirtual 318, 3) := by decide +kernel
theorem dX8_coverOf_91 : decode cX8_coverOf 91 = .ok (.iinc 2 1, 3) := by decide +kernel
theorem dX8_coverOf_94 : decode cX8_coverOf 94 = .ok (.goto (-43), 3) := by decide +kernel
theorem dX8_coverOf_97 : decode cX8_coverOf 97 = .ok (.aload_n 0, 1) := by decide +kernel
theorem dX8_coverOf_98 : decode cX8_coverOf 98 = .ok (.getfield 54, 3) := by decide +kernel
theorem dX8_coverOf_101 : decode cX8_coverOf 101 = .ok (.areturn, 1) := by decide +kernel
theorem dX8_lackOf_0 : decode cX8_lackOf 0 = .ok (.aload_n 0, 1) := by decide +kernel
theorem dX8_lackOf_1 : decode cX8_lackOf 1 = .ok (.iload_n 1, 1) := by decide +kernel
theorem dX8_lackOf_2 : decode cX8_lackOf 2 = .ok (.invokevirtual 284, 3) := by decide +kernel
theorem dX8_lackOf_5 : decode cX8_lackOf 5 = .ok (.invokevirtual 321, 3) := by decide +kernel
theorem dX8_lackOf_8 : decode cX8_lackOf 8 = .ok (.ireturn, 1) := by decide +kernel
theorem dX8_rightsInForce_0 : decode cX8_rightsInForce 0 = .ok (.iconst 0, 1) := by decide +kernel
theorem dX8_rightsInForce_1 : decode cX8_rightsInForce 1 = .ok (.istore_n 1, 1) := by decide +kernel
theorem dX8_rightsInForce_2 : decode cX8_rightsInForce 2 = .ok (.iconst 0, 1) := by decide +kernel
theorem dX8_rightsInForce_3 : decode cX8_rightsInForce 3 = .ok (.istore_n 2, 1) := by decide +kernel
theorem dX8_rightsInForce_4 : decode cX8_rightsInForce 4 = .ok (.iload_n 2, 1) := by decide +kernel
theorem dX8_rightsInForce_5 : decode cX8_rightsInForce 5 = .ok (.aload_n 0, 1) := by decide +kernel
theorem dX8_rightsInForce_6 : decode cX8_rightsInForce 6 = .ok (.getfield 85, 3) := by decide +kernel
theorem dX8_rightsInForce_9 : decode cX8_rightsInForce 9 = .ok (.if_icmp .ge 28, 3) := by decide +kernel
theorem dX8_rightsInForce_12 : decode cX8_rightsInForce 12 = .ok (.aload_n 0, 1) := by decide +kernel
theorem dX8_rightsInForce_13 : decode cX8_rightsInForce 13 = .ok (.getfield 34, 3) := by decide +kernel
theorem dX8_rightsInForce_16 : decode cX8_rightsInForce 16 = .ok (.iload_n 2, 1) := by decide +kernel
theorem dX8_rightsInForce_17 : decode cX8_rightsInForce 17 = .ok (.aaload, 1) := by decide +kernel
theorem dX8_rightsInForce_18 : decode cX8_rightsInForce 18 = .ok (.aload_n 0, 1) := by decide +kernel
theorem dX8_rightsInForce_19 : decode cX8_rightsInForce 19 = .ok (.getfield 91, 3) := by decide +kernel
theorem dX8_rightsInForce_22 : decode cX8_rightsInForce 22 = .ok (.invokevirtual 143, 3) := by decide +kernel
theorem dX8_rightsInForce_25 : decode cX8_rightsInForce 25 = .ok (.ifCond .eq 6, 3) := by decide +kernel
theorem dX8_rightsInForce_28 : decode cX8_rightsInForce 28 = .ok (.iinc 1 1, 3) := by decide +kernel
theorem dX8_rightsInForce_31 : decode cX8_rightsInForce 31 = .ok (.iinc 2 1, 3) := by decide +kernel
theorem dX8_rightsInForce_34 : decode cX8_rightsInForce 34 = .ok (.goto (-30), 3) := by decide +kernel
theorem dX8_rightsInForce_37 : decode cX8_rightsInForce 37 = .ok (.iload_n 1, 1) := by decide +kernel
theorem dX8_rightsInForce_38 : decode cX8_rightsInForce 38 = .ok (.ireturn, 1) := by decide +kernel
theorem dX8_partsOn_0 : decode cX8_partsOn 0 = .ok (.iconst 0, 1) := by decide +kernel
theorem dX8_partsOn_1 : decode cX8_partsOn 1 = .ok (.istore_n 2, 1) := by decide +kernel
theorem dX8_partsOn_2 : decode cX8_partsOn 2 = .ok (.iconst 0, 1) := by decide +kernel
