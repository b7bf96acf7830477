theorem dX8_ownerOf_103 : decode cX8_ownerOf 103 = .ok (.invokevirtual 284, 3) := by decide +kernel
theorem dX8_ownerOf_106 : decode cX8_ownerOf 106 = .ok (.invokevirtual 291, 3) := by decide +kernel
theorem dX8_ownerOf_109 : decode cX8_ownerOf 109 = .ok (.ireturn, 1) := by decide +kernel
theorem dX8_ownerOf_110 : decode cX8_ownerOf 110 = .ok (.aload_n 0, 1) := by decide +kernel
theorem dX8_ownerOf_111 : decode cX8_ownerOf 111 = .ok (.bipush (-2), 2) := by decide +kernel
theorem dX8_ownerOf_113 : decode cX8_ownerOf 113 = .ok (.invokevirtual 100, 3) := by decide +kernel
theorem dX8_ownerOf_116 : decode cX8_ownerOf 116 = .ok (.ireturn, 1) := by decide +kernel
theorem dX8_count_0 : decode cX8_count 0 = .ok (.iload_n 1, 1) := by decide +kernel
theorem dX8_count_1 : decode cX8_count 1 = .ok (.tableswitch 105 0 9 #[55, 60, 65, 70, 75, 80, 85, 90, 95, 100], 55) := by decide +kernel
theorem dX8_count_56 : decode cX8_count 56 = .ok (.aload_n 0, 1) := by decide +kernel
theorem dX8_count_57 : decode cX8_count 57 = .ok (.getfield 91, 3) := by decide +kernel
theorem dX8_count_60 : decode cX8_count 60 = .ok (.ireturn, 1) := by decide +kernel
theorem dX8_count_61 : decode cX8_count 61 = .ok (.aload_n 0, 1) := by decide +kernel
theorem dX8_count_62 : decode cX8_count 62 = .ok (.getfield 75, 3) := by decide +kernel
theorem dX8_count_65 : decode cX8_count 65 = .ok (.ireturn, 1) := by decide +kernel
theorem dX8_count_66 : decode cX8_count 66 = .ok (.aload_n 0, 1) := by decide +kernel
theorem dX8_count_67 : decode cX8_count 67 = .ok (.getfield 79, 3) := by decide +kernel
theorem dX8_count_70 : decode cX8_count 70 = .ok (.ireturn, 1) := by decide +kernel
theorem dX8_count_71 : decode cX8_count 71 = .ok (.aload_n 0, 1) := by decide +kernel
theorem dX8_count_72 : decode cX8_count 72 = .ok (.getfield 82, 3) := by decide +kernel
theorem dX8_count_75 : decode cX8_count 75 = .ok (.ireturn, 1) := by decide +kernel
theorem dX8_count_76 : decode cX8_count 76 = .ok (.aload_n 0, 1) := by decide +kernel
theorem dX8_count_77 : decode cX8_count 77 = .ok (.invokevirtual 294, 3) := by decide +kernel
theorem dX8_count_80 : decode cX8_count 80 = .ok (.ireturn, 1) := by decide +kernel
theorem dX8_count_81 : decode cX8_count 81 = .ok (.aload_n 0, 1) := by decide +kernel
theorem dX8_count_82 : decode cX8_count 82 = .ok (.invokevirtual 297, 3) := by decide +kernel
theorem dX8_count_85 : decode cX8_count 85 = .ok (.ireturn, 1) := by decide +kernel
theorem dX8_count_86 : decode cX8_count 86 = .ok (.aload_n 0, 1) := by decide +kernel
theorem dX8_count_87 : decode cX8_count 87 = .ok (.invokevirtual 300, 3) := by decide +kernel
theorem dX8_count_90 : decode cX8_count 90 = .ok (.ireturn, 1) := by decide +kernel
theorem dX8_count_91 : decode cX8_count 91 = .ok (.aload_n 0, 1) := by decide +kernel
theorem dX8_count_92 : decode cX8_count 92 = .ok (.invokevirtual 303, 3) := by decide +kernel
theorem dX8_count_95 : decode cX8_count 95 = .ok (.ireturn, 1) := by decide +kernel
theorem dX8_count_96 : decode cX8_count 96 = .ok (.aload_n 0, 1) := by decide +kernel
theorem dX8_count_97 : decode cX8_count 97 = .ok (.invokevirtual 306, 3) := by decide +kernel
theorem dX8_count_100 : decode cX8_count 100 = .ok (.ireturn, 1) := by decide +kernel
theorem dX8_count_101 : decode cX8_count 101 = .ok (.aload_n 0, 1) := by decide +kernel
theorem dX8_count_102 : decode cX8_count 102 = .ok (.getfield 97, 3) := by decide +kernel
theorem dX8_count_105 : decode cX8_count 105 = .ok (.ireturn, 1) := by decide +kernel
theorem dX8_count_106 : decode cX8_count 106 = .ok (.iload_n 1, 1) := by decide +kernel
theorem dX8_count_107 : decode cX8_count 107 = .ok (.bipush 11, 2) := by decide +kernel
theorem dX8_count_109 : decode cX8_count 109 = .ok (.if_icmp .lt 21, 3) := by decide +kernel
theorem dX8_count_112 : decode cX8_count 112 = .ok (.iload_n 1, 1) := by decide +kernel
theorem dX8_count_113 : decode cX8_count 113 = .ok (.bipush 16, 2) := by decide +kernel
theorem dX8_count_115 : decode cX8_count 115 = .ok (.if_icmp .gt 15, 3) := by decide +kernel
theorem dX8_count_118 : decode cX8_count 118 = .ok (.aload_n 0, 1) := by decide +kernel
theorem dX8_count_119 : decode cX8_count 119 = .ok (.getfield 72, 3) := by decide +kernel
theorem dX8_count_122 : decode cX8_count 122 = .ok (.iload_n 1, 1) := by decide +kernel
theorem dX8_count_123 : decode cX8_count 123 = .ok (.bipush 10, 2) := by decide +kernel
theorem dX8_count_125 : decode cX8_count 125 = .ok (.isub, 1) := by decide +kernel
theorem dX8_count_126 : decode cX8_count 126 = .ok (.iaload, 1) := by decide +kernel
theorem dX8_count_127 : decode cX8_count 127 = .ok (.goto 5, 3) := by decide +kernel
theorem dX8_count_130 : decode cX8_count 130 = .ok (.bipush (-9), 2) := by decide +kernel
theorem dX8_count_132 : decode cX8_count 132 = .ok (.ireturn, 1) := by decide +kernel
theorem dX8_refuse_0 : decode cX8_refuse 0 = .ok (.iload_n 1, 1) := by decide +kernel
theorem dX8_refuse_1 : decode cX8_refuse 1 = .ok (.ifCond .ge 20, 3) := by decide +kernel
theorem dX8_refuse_4 : decode cX8_refuse 4 = .ok (.iload_n 1, 1) := by decide +kernel
theorem dX8_refuse_5 : decode cX8_refuse 5 = .ok (.bipush (-6), 2) := by decide +kernel
theorem dX8_refuse_7 : decode cX8_refuse 7 = .ok (.if_icmp .lt 14, 3) := by decide +kernel
theorem dX8_refuse_10 : decode cX8_refuse 10 = .ok (.aload_n 0, 1) := by decide +kernel
theorem dX8_refuse_11 : decode cX8_refuse 11 = .ok (.getfield 72, 3) := by decide +kernel
theorem dX8_refuse_14 : decode cX8_refuse 14 = .ok (.iload_n 1, 1) := by decide +kernel
theorem dX8_refuse_15 : decode cX8_refuse 15 = .ok (.ineg, 1) := by decide +kernel
theorem dX8_refuse_16 : decode cX8_refuse 16 = .ok (.dup2, 1) := by decide +kernel
theorem dX8_refuse_17 : decode cX8_refuse 17 = .ok (.iaload, 1) := by decide +kernel
theorem dX8_refuse_18 : decode cX8_refuse 18 = .ok (.iconst 1, 1) := by decide +kernel
theorem dX8_refuse_19 : decode cX8_refuse 19 = .ok (.iadd, 1) := by decide +kernel
theorem dX8_refuse_20 : decode cX8_refuse 20 = .ok (.iastore, 1) := by decide +kernel
theorem dX8_refuse_21 : decode cX8_refuse 21 = .ok (.iload_n 1, 1) := by decide +kernel
theorem dX8_refuse_22 : decode cX8_refuse 22 = .ok (.ireturn, 1) := by decide +kernel
theorem dX8_isPiece_0 : decode cX8_isPiece 0 = .ok (.iload_n 1, 1) := by decide +kernel
theorem dX8_isPiece_1 : decode cX8_isPiece 1 = .ok (.ifCond .lt 15, 3) := by decide +kernel
theorem dX8_isPiece_4 : decode cX8_isPiece 4 = .ok (.iload_n 1, 1) := by decide +kernel
theorem dX8_isPiece_5 : decode cX8_isPiece 5 = .ok (.aload_n 0, 1) := by decide +kernel
theorem dX8_isPiece_6 : decode cX8_isPiece 6 = .ok (.getfield 75, 3) := by decide +kernel
theorem dX8_isPiece_9 : decode cX8_isPiece 9 = .ok (.if_icmp .ge 7, 3) := by decide +kernel
theorem dX8_isPiece_16 : decode cX8_isPiece 16 = .ok (.iconst 0, 1) := by decide +kernel
theorem dX8_isPiece_17 : decode cX8_isPiece 17 = .ok (.ireturn, 1) := by decide +kernel
theorem dX8_isOwner_0 : decode cX8_isOwner 0 = .ok (.iload_n 1, 1) := by decide +kernel
theorem dX8_isOwner_1 : decode cX8_isOwner 1 = .ok (.ifCond .lt 15, 3) := by decide +kernel
theorem dX8_isOwner_4 : decode cX8_isOwner 4 = .ok (.iload_n 1, 1) := by decide +kernel
theorem dX8_isOwner_5 : decode cX8_isOwner 5 = .ok (.aload_n 0, 1) := by decide +kernel
theorem dX8_isOwner_6 : decode cX8_isOwner 6 = .ok (.getfield 79, 3) := by decide +kernel
theorem dX8_isOwner_9 : decode cX8_isOwner 9 = .ok (.if_icmp .ge 7, 3) := by decide +kernel
theorem dX8_isOwner_16 : decode cX8_isOwner 16 = .ok (.iconst 0, 1) := by decide +kernel
theorem dX8_isOwner_17 : decode cX8_isOwner 17 = .ok (.ireturn, 1) := by decide +kernel
theorem dX8_isHouse_0 : decode cX8_isHouse 0 = .ok (.iload_n 1, 1) := by decide +kernel
theorem dX8_isHouse_1 : decode cX8_isHouse 1 = .ok (.ifCond .lt 15, 3) := by decide +kernel
theorem dX8_isHouse_4 : decode cX8_isHouse 4 = .ok (.iload_n 1, 1) := by decide +kernel
theorem dX8_isHouse_5 : decode cX8_isHouse 5 = .ok (.aload_n 0, 1) := by decide +kernel
theorem dX8_isHouse_6 : decode cX8_isHouse 6 = .ok (.getfield 82, 3) := by decide +kernel
theorem dX8_isHouse_9 : decode cX8_isHouse 9 = .ok (.if_icmp .ge 7, 3) := by decide +kernel
theorem dX8_isHouse_16 : decode cX8_isHouse 16 = .ok (.iconst 0, 1) := by decide +kernel
theorem dX8_isHouse_17 : decode cX8_isHouse 17 = .ok (.ireturn, 1) := by decide +kernel
theorem dX8_isRight_0 : decode cX8_isRight 0 = .ok (.iload_n 1, 1) := by decide +kernel
theorem dX8_isRight_1 : decode cX8_isRight 1 = .ok (.ifCond .lt 15, 3) := by decide +kernel
theorem dX8_isRight_4 : decode cX8_isRight 4 = .ok (.iload_n 1, 1) := by decide +kernel
theorem dX8_isRight_5 : decode cX8_isRight 5 = .ok (.aload_n 0, 1) := by decide +kernel
theorem dX8_isRight_6 : decode cX8_isRight 6 = .ok (.getfield 85, 3) := by decide +kernel
theorem dX8_isRight_9 : decode cX8_isRight 9 = .ok (.if_icmp .ge 7, 3) := by decide +kernel
theorem dX8_isRight_16 : decode cX8_isRight 16 = .ok (.iconst 0, 1) := by decide +kernel
theorem dX8_isRight_17 : decode cX8_isRight 17 = .ok (.ireturn, 1) := by decide +kernel
theorem dX8_isHerd_0 : decode cX8_isHerd 0 = .ok (.iload_n 1, 1) := by decide +kernel
theorem dX8_isHerd_1 : decode cX8_isHerd 1 = .ok (.ifCond .lt 15, 3) := by decide +kernel
theorem dX8_isHerd_4 : decode cX8_isHerd 4 = .ok (.iload_n 1, 1) := by decide +kernel
theorem dX8_isHerd_5 : decode cX8_isHerd 5 = .ok (.aload_n 0, 1) := by decide +kernel
theorem dX8_isHerd_6 : decode cX8_isHerd 6 = .ok (.getfield 88, 3) := by decide +kernel
theorem dX8_isHerd_9 : decode cX8_isHerd 9 = .ok (.if_icmp .ge 7, 3) := by decide +kernel
theorem dX8_isHerd_16 : decode cX8_isHerd 16 = .ok (.iconst 0, 1) := by decide +kernel
theorem dX8_isHerd_17 : decode cX8_isHerd 17 = .ok (.ireturn, 1) := by decide +kernel
theorem dX8_canPass_0 : decode cX8_canPass 0 = .ok (.aload_n 0, 1) := by decide +kernel
theorem dX8_canPass_1 : decode cX8_canPass 1 = .ok (.iload_n 1, 1) := by decide +kernel
theorem dX8_canPass_2 : decode cX8_canPass 2 = .ok (.invokevirtual 253, 3) := by decide +kernel
theorem dX8_canPass_5 : decode cX8_canPass 5 = .ok (.ifCond .eq 29, 3) := by decide +kernel
theorem dX8_canPass_34 : decode cX8_canPass 34 = .ok (.iconst 0, 1) := by decide +kernel
theorem dX8_canPass_35 : decode cX8_canPass 35 = .ok (.ireturn, 1) := by decide +kernel
theorem dX8_coverOf_0 : decode cX8_coverOf 0 = .ok (.aload_n 0, 1) := by decide +kernel
theorem dX8_coverOf_1 : decode cX8_coverOf 1 = .ok (.getfield 54, 3) := by decide +kernel
theorem dX8_coverOf_4 : decode cX8_coverOf 4 = .ok (.invokevirtual 311, 3) := by decide +kernel
theorem dX8_coverOf_7 : decode cX8_coverOf 7 = .ok (.iconst 0, 1) := by decide +kernel
theorem dX8_coverOf_8 : decode cX8_coverOf 8 = .ok (.istore_n 2, 1) := by decide +kernel
theorem dX8_coverOf_9 : decode cX8_coverOf 9 = .ok (.iload_n 2, 1) := by decide +kernel
theorem dX8_coverOf_10 : decode cX8_coverOf 10 = .ok (.aload_n 0, 1) := by decide +kernel
theorem dX8_coverOf_11 : decode cX8_coverOf 11 = .ok (.getfield 88, 3) := by decide +kernel
theorem dX8_coverOf_14 : decode cX8_coverOf 14 = .ok (.if_icmp .ge 35, 3) := by decide +kernel
theorem dX8_coverOf_49 : decode cX8_coverOf 49 = .ok (.iconst 0, 1) := by decide +kernel
theorem dX8_coverOf_50 : decode cX8_coverOf 50 = .ok (.istore_n 2, 1) := by decide +kernel
theorem dX8_coverOf_51 : decode cX8_coverOf 51 = .ok (.iload_n 2, 1) := by decide +kernel
theorem dX8_coverOf_52 : decode cX8_coverOf 52 = .ok (.aload_n 0, 1) := by decide +kernel
theorem dX8_coverOf_53 : decode cX8_coverOf 53 = .ok (.getfield 85, 3) := by decide +kernel
theorem dX8_coverOf_56 : decode cX8_coverOf 56 = .ok (.if_icmp .ge 41, 3) := by decide +kernel
theorem dX8_coverOf_97 : decode cX8_coverOf 97 = .ok (.aload_n 0, 1) := by decide +kernel
theorem dX8_coverOf_98 : decode cX8_coverOf 98 = .ok (.getfield 54, 3) := by decide +kernel
theorem dX8_coverOf_101 : decode cX8_coverOf 101 = .ok (.areturn, 1) := by decide +kernel
theorem dX8_rightsInForce_0 : decode cX8_rightsInForce 0 = .ok (.iconst 0, 1) := by decide +kernel
theorem dX8_rightsInForce_1 : decode cX8_rightsInForce 1 = .ok (.istore_n 1, 1) := by decide +kernel
theorem dX8_rightsInForce_2 : decode cX8_rightsInForce 2 = .ok (.iconst 0, 1) := by decide +kernel
theorem dX8_rightsInForce_3 : decode cX8_rightsInForce 3 = .ok (.istore_n 2, 1) := by decide +kernel
theorem dX8_rightsInForce_4 : decode cX8_rightsInForce 4 = .ok (.iload_n 2, 1) := by decide +kernel
theorem dX8_rightsInForce_5 : decode cX8_rightsInForce 5 = .ok (.aload_n 0, 1) := by decide +kernel
theorem dX8_rightsInForce_6 : decode cX8_rightsInForce 6 = .ok (.getfield 85, 3) := by decide +kernel
theorem dX8_rightsInForce_9 : decode cX8_rightsInForce 9 = .ok (.if_icmp .ge 28, 3) := by decide +kernel
theorem dX8_rightsInForce_37 : decode cX8_rightsInForce 37 = .ok (.iload_n 1, 1) := by decide +kernel
theorem dX8_rightsInForce_38 : decode cX8_rightsInForce 38 = .ok (.ireturn, 1) := by decide +kernel
theorem dX8_herdsNotLost_0 : decode cX8_herdsNotLost 0 = .ok (.iconst 0, 1) := by decide +kernel
theorem dX8_herdsNotLost_1 : decode cX8_herdsNotLost 1 = .ok (.istore_n 1, 1) := by decide +kernel
theorem dX8_herdsNotLost_2 : decode cX8_herdsNotLost 2 = .ok (.iconst 0, 1) := by decide +kernel
theorem dX8_herdsNotLost_3 : decode cX8_herdsNotLost 3 = .ok (.istore_n 2, 1) := by decide +kernel
theorem dX8_herdsNotLost_4 : decode cX8_herdsNotLost 4 = .ok (.iload_n 2, 1) := by decide +kernel
theorem dX8_herdsNotLost_5 : decode cX8_herdsNotLost 5 = .ok (.aload_n 0, 1) := by decide +kernel
theorem dX8_herdsNotLost_6 : decode cX8_herdsNotLost 6 = .ok (.getfield 88, 3) := by decide +kernel
theorem dX8_herdsNotLost_9 : decode cX8_herdsNotLost 9 = .ok (.if_icmp .ge 25, 3) := by decide +kernel
theorem dX8_herdsNotLost_34 : decode cX8_herdsNotLost 34 = .ok (.iload_n 1, 1) := by decide +kernel
theorem dX8_herdsNotLost_35 : decode cX8_herdsNotLost 35 = .ok (.ireturn, 1) := by decide +kernel
theorem dX8_allGrass_0 : decode cX8_allGrass 0 = .ok (.iconst 0, 1) := by decide +kernel
theorem dX8_allGrass_1 : decode cX8_allGrass 1 = .ok (.istore_n 1, 1) := by decide +kernel
theorem dX8_allGrass_2 : decode cX8_allGrass 2 = .ok (.iconst 0, 1) := by decide +kernel
theorem dX8_allGrass_3 : decode cX8_allGrass 3 = .ok (.istore_n 2, 1) := by decide +kernel
theorem dX8_allGrass_4 : decode cX8_allGrass 4 = .ok (.iload_n 2, 1) := by decide +kernel
theorem dX8_allGrass_5 : decode cX8_allGrass 5 = .ok (.aload_n 0, 1) := by decide +kernel
theorem dX8_allGrass_6 : decode cX8_allGrass 6 = .ok (.getfield 75, 3) := by decide +kernel
theorem dX8_allGrass_9 : decode cX8_allGrass 9 = .ok (.if_icmp .ge 21, 3) := by decide +kernel
theorem dX8_allGrass_30 : decode cX8_allGrass 30 = .ok (.iload_n 1, 1) := by decide +kernel
theorem dX8_allGrass_31 : decode cX8_allGrass 31 = .ok (.ireturn, 1) := by decide +kernel
theorem dX8_allHunger_0 : decode cX8_allHunger 0 = .ok (.iconst 0, 1) := by decide +kernel
theorem dX8_allHunger_1 : decode cX8_allHunger 1 = .ok (.istore_n 1, 1) := by decide +kernel
theorem dX8_allHunger_2 : decode cX8_allHunger 2 = .ok (.iconst 0, 1) := by decide +kernel
theorem dX8_allHunger_3 : decode cX8_allHunger 3 = .ok (.istore_n 2, 1) := by decide +kernel
theorem dX8_allHunger_4 : decode cX8_allHunger 4 = .ok (.iload_n 2, 1) := by decide +kernel
theorem dX8_allHunger_5 : decode cX8_allHunger 5 = .ok (.aload_n 0, 1) := by decide +kernel
theorem dX8_allHunger_6 : decode cX8_allHunger 6 = .ok (.getfield 88, 3) := by decide +kernel
theorem dX8_allHunger_9 : decode cX8_allHunger 9 = .ok (.if_icmp .ge 21, 3) := by decide +kernel
theorem dX8_allHunger_30 : decode cX8_allHunger 30 = .ok (.iload_n 1, 1) := by decide +kernel
theorem dX8_allHunger_31 : decode cX8_allHunger 31 = .ok (.ireturn, 1) := by decide +kernel
theorem dX8_allEaten_0 : decode cX8_allEaten 0 = .ok (.iconst 0, 1) := by decide +kernel
theorem dX8_allEaten_1 : decode cX8_allEaten 1 = .ok (.istore_n 1, 1) := by decide +kernel
theorem dX8_allEaten_2 : decode cX8_allEaten 2 = .ok (.iconst 0, 1) := by decide +kernel
theorem dX8_allEaten_3 : decode cX8_allEaten 3 = .ok (.istore_n 2, 1) := by decide +kernel
theorem dX8_allEaten_4 : decode cX8_allEaten 4 = .ok (.iload_n 2, 1) := by decide +kernel
theorem dX8_allEaten_5 : decode cX8_allEaten 5 = .ok (.aload_n 0, 1) := by decide +kernel
theorem dX8_allEaten_6 : decode cX8_allEaten 6 = .ok (.getfield 75, 3) := by decide +kernel
theorem dX8_allEaten_9 : decode cX8_allEaten 9 = .ok (.if_icmp .ge 21, 3) := by decide +kernel
theorem dX8_allEaten_30 : decode cX8_allEaten 30 = .ok (.iload_n 1, 1) := by decide +kernel
theorem dX8_allEaten_31 : decode cX8_allEaten 31 = .ok (.ireturn, 1) := by decide +kernel
theorem dX8_grazeAll_0 : decode cX8_grazeAll 0 = .ok (.iconst 0, 1) := by decide +kernel
theorem dX8_grazeAll_1 : decode cX8_grazeAll 1 = .ok (.istore_n 1, 1) := by decide +kernel
theorem dX8_grazeAll_2 : decode cX8_grazeAll 2 = .ok (.iconst 0, 1) := by decide +kernel
theorem dX8_grazeAll_3 : decode cX8_grazeAll 3 = .ok (.istore_n 2, 1) := by decide +kernel
theorem dX8_grazeAll_4 : decode cX8_grazeAll 4 = .ok (.iload_n 2, 1) := by decide +kernel
theorem dX8_grazeAll_5 : decode cX8_grazeAll 5 = .ok (.aload_n 0, 1) := by decide +kernel
theorem dX8_grazeAll_6 : decode cX8_grazeAll 6 = .ok (.getfield 75, 3) := by decide +kernel
theorem dX8_grazeAll_9 : decode cX8_grazeAll 9 = .ok (.if_icmp .ge 17, 3) := by decide +kernel
theorem dX8_grazeAll_12 : decode cX8_grazeAll 12 = .ok (.iload_n 1, 1) := by decide +kernel
theorem dX8_grazeAll_13 : decode cX8_grazeAll 13 = .ok (.aload_n 0, 1) := by decide +kernel
theorem dX8_grazeAll_14 : decode cX8_grazeAll 14 = .ok (.iload_n 2, 1) := by decide +kernel
theorem dX8_grazeAll_15 : decode cX8_grazeAll 15 = .ok (.invokevirtual 324, 3) := by decide +kernel
theorem dX8_grazeAll_18 : decode cX8_grazeAll 18 = .ok (.iadd, 1) := by decide +kernel
theorem dX8_grazeAll_19 : decode cX8_grazeAll 19 = .ok (.istore_n 1, 1) := by decide +kernel
theorem dX8_grazeAll_20 : decode cX8_grazeAll 20 = .ok (.iinc 2 1, 3) := by decide +kernel
theorem dX8_grazeAll_23 : decode cX8_grazeAll 23 = .ok (.goto (-19), 3) := by decide +kernel
theorem dX8_grazeAll_26 : decode cX8_grazeAll 26 = .ok (.iload_n 1, 1) := by decide +kernel
theorem dX8_grazeAll_27 : decode cX8_grazeAll 27 = .ok (.ireturn, 1) := by decide +kernel
theorem dX8_sellFromPound_0 : decode cX8_sellFromPound 0 = .ok (.iconst 0, 1) := by decide +kernel
theorem dX8_sellFromPound_1 : decode cX8_sellFromPound 1 = .ok (.istore_n 1, 1) := by decide +kernel
theorem dX8_sellFromPound_2 : decode cX8_sellFromPound 2 = .ok (.iload_n 1, 1) := by decide +kernel
theorem dX8_sellFromPound_3 : decode cX8_sellFromPound 3 = .ok (.aload_n 0, 1) := by decide +kernel
theorem dX8_sellFromPound_4 : decode cX8_sellFromPound 4 = .ok (.getfield 88, 3) := by decide +kernel
theorem dX8_sellFromPound_7 : decode cX8_sellFromPound 7 = .ok (.if_icmp .ge 96, 3) := by decide +kernel
theorem dX8_sellFromPound_103 : decode cX8_sellFromPound 103 = .ok (.return_, 1) := by decide +kernel
theorem dX8_findUsed_0 : decode cX8_findUsed 0 = .ok (.iconst 0, 1) := by decide +kernel
theorem dX8_findUsed_1 : decode cX8_findUsed 1 = .ok (.istore_n 1, 1) := by decide +kernel
theorem dX8_findUsed_2 : decode cX8_findUsed 2 = .ok (.iload_n 1, 1) := by decide +kernel
theorem dX8_findUsed_3 : decode cX8_findUsed 3 = .ok (.aload_n 0, 1) := by decide +kernel
theorem dX8_findUsed_4 : decode cX8_findUsed 4 = .ok (.getfield 85, 3) := by decide +kernel
theorem dX8_findUsed_7 : decode cX8_findUsed 7 = .ok (.if_icmp .ge 78, 3) := by decide +kernel
theorem dX8_findUsed_85 : decode cX8_findUsed 85 = .ok (.return_, 1) := by decide +kernel
theorem dX8_lapse_0 : decode cX8_lapse 0 = .ok (.iconst 0, 1) := by decide +kernel
theorem dX8_lapse_1 : decode cX8_lapse 1 = .ok (.istore_n 1, 1) := by decide +kernel
theorem dX8_lapse_2 : decode cX8_lapse 2 = .ok (.iload_n 1, 1) := by decide +kernel
theorem dX8_lapse_3 : decode cX8_lapse 3 = .ok (.aload_n 0, 1) := by decide +kernel
theorem dX8_lapse_4 : decode cX8_lapse 4 = .ok (.getfield 85, 3) := by decide +kernel
theorem dX8_lapse_7 : decode cX8_lapse 7 = .ok (.if_icmp .ge 80, 3) := by decide +kernel
theorem dX8_lapse_87 : decode cX8_lapse 87 = .ok (.return_, 1) := by decide +kernel
