theorem dX8_partsOn_3 : decode cX8_partsOn 3 = .ok (.istore_n 3, 1) := by decide +kernel
theorem dX8_partsOn_4 : decode cX8_partsOn 4 = .ok (.iload_n 3, 1) := by decide +kernel
theorem dX8_partsOn_5 : decode cX8_partsOn 5 = .ok (.aload_n 0, 1) := by decide +kernel
theorem dX8_partsOn_6 : decode cX8_partsOn 6 = .ok (.getfield 88, 3) := by decide +kernel
theorem dX8_partsOn_9 : decode cX8_partsOn 9 = .ok (.if_icmp .ge 34, 3) := by decide +kernel
theorem dX8_partsOn_12 : decode cX8_partsOn 12 = .ok (.aload_n 0, 1) := by decide +kernel
theorem dX8_partsOn_13 : decode cX8_partsOn 13 = .ok (.getfield 40, 3) := by decide +kernel
theorem dX8_partsOn_16 : decode cX8_partsOn 16 = .ok (.iload_n 3, 1) := by decide +kernel
theorem dX8_partsOn_17 : decode cX8_partsOn 17 = .ok (.aaload, 1) := by decide +kernel
theorem dX8_partsOn_18 : decode cX8_partsOn 18 = .ok (.getfield 163, 3) := by decide +kernel
theorem dX8_partsOn_21 : decode cX8_partsOn 21 = .ok (.iload_n 1, 1) := by decide +kernel
theorem dX8_partsOn_22 : decode cX8_partsOn 22 = .ok (.if_icmp .ne 15, 3) := by decide +kernel
theorem dX8_partsOn_25 : decode cX8_partsOn 25 = .ok (.iload_n 2, 1) := by decide +kernel
theorem dX8_partsOn_26 : decode cX8_partsOn 26 = .ok (.aload_n 0, 1) := by decide +kernel
theorem dX8_partsOn_27 : decode cX8_partsOn 27 = .ok (.getfield 40, 3) := by decide +kernel
theorem dX8_partsOn_30 : decode cX8_partsOn 30 = .ok (.iload_n 3, 1) := by decide +kernel
theorem dX8_partsOn_31 : decode cX8_partsOn 31 = .ok (.aaload, 1) := by decide +kernel
theorem dX8_partsOn_32 : decode cX8_partsOn 32 = .ok (.invokevirtual 185, 3) := by decide +kernel
theorem dX8_partsOn_35 : decode cX8_partsOn 35 = .ok (.iadd, 1) := by decide +kernel
theorem dX8_partsOn_36 : decode cX8_partsOn 36 = .ok (.istore_n 2, 1) := by decide +kernel
theorem dX8_partsOn_37 : decode cX8_partsOn 37 = .ok (.iinc 3 1, 3) := by decide +kernel
theorem dX8_partsOn_40 : decode cX8_partsOn 40 = .ok (.goto (-36), 3) := by decide +kernel
theorem dX8_partsOn_43 : decode cX8_partsOn 43 = .ok (.iload_n 2, 1) := by decide +kernel
theorem dX8_partsOn_44 : decode cX8_partsOn 44 = .ok (.ireturn, 1) := by decide +kernel
theorem dX8_herdsOn_0 : decode cX8_herdsOn 0 = .ok (.iconst 0, 1) := by decide +kernel
theorem dX8_herdsOn_1 : decode cX8_herdsOn 1 = .ok (.istore_n 2, 1) := by decide +kernel
theorem dX8_herdsOn_2 : decode cX8_herdsOn 2 = .ok (.iconst 0, 1) := by decide +kernel
theorem dX8_herdsOn_3 : decode cX8_herdsOn 3 = .ok (.istore_n 3, 1) := by decide +kernel
theorem dX8_herdsOn_4 : decode cX8_herdsOn 4 = .ok (.iload_n 3, 1) := by decide +kernel
theorem dX8_herdsOn_5 : decode cX8_herdsOn 5 = .ok (.aload_n 0, 1) := by decide +kernel
theorem dX8_herdsOn_6 : decode cX8_herdsOn 6 = .ok (.getfield 88, 3) := by decide +kernel
theorem dX8_herdsOn_9 : decode cX8_herdsOn 9 = .ok (.if_icmp .ge 25, 3) := by decide +kernel
theorem dX8_herdsOn_12 : decode cX8_herdsOn 12 = .ok (.aload_n 0, 1) := by decide +kernel
theorem dX8_herdsOn_13 : decode cX8_herdsOn 13 = .ok (.getfield 40, 3) := by decide +kernel
theorem dX8_herdsOn_16 : decode cX8_herdsOn 16 = .ok (.iload_n 3, 1) := by decide +kernel
theorem dX8_herdsOn_17 : decode cX8_herdsOn 17 = .ok (.aaload, 1) := by decide +kernel
theorem dX8_herdsOn_18 : decode cX8_herdsOn 18 = .ok (.getfield 163, 3) := by decide +kernel
theorem dX8_herdsOn_21 : decode cX8_herdsOn 21 = .ok (.iload_n 1, 1) := by decide +kernel
theorem dX8_herdsOn_22 : decode cX8_herdsOn 22 = .ok (.if_icmp .ne 6, 3) := by decide +kernel
theorem dX8_herdsOn_25 : decode cX8_herdsOn 25 = .ok (.iinc 2 1, 3) := by decide +kernel
theorem dX8_herdsOn_28 : decode cX8_herdsOn 28 = .ok (.iinc 3 1, 3) := by decide +kernel
theorem dX8_herdsOn_31 : decode cX8_herdsOn 31 = .ok (.goto (-27), 3) := by decide +kernel
theorem dX8_herdsOn_34 : decode cX8_herdsOn 34 = .ok (.iload_n 2, 1) := by decide +kernel
theorem dX8_herdsOn_35 : decode cX8_herdsOn 35 = .ok (.ireturn, 1) := by decide +kernel
theorem dX8_latestOn_0 : decode cX8_latestOn 0 = .ok (.iconst (-1), 1) := by decide +kernel
theorem dX8_latestOn_1 : decode cX8_latestOn 1 = .ok (.istore_n 3, 1) := by decide +kernel
theorem dX8_latestOn_2 : decode cX8_latestOn 2 = .ok (.iconst 0, 1) := by decide +kernel
theorem dX8_latestOn_3 : decode cX8_latestOn 3 = .ok (.istore 4, 2) := by decide +kernel
theorem dX8_latestOn_5 : decode cX8_latestOn 5 = .ok (.iload 4, 2) := by decide +kernel
theorem dX8_latestOn_7 : decode cX8_latestOn 7 = .ok (.aload_n 0, 1) := by decide +kernel
theorem dX8_latestOn_8 : decode cX8_latestOn 8 = .ok (.getfield 88, 3) := by decide +kernel
theorem dX8_latestOn_11 : decode cX8_latestOn 11 = .ok (.if_icmp .ge 79, 3) := by decide +kernel
theorem dX8_latestOn_14 : decode cX8_latestOn 14 = .ok (.aload_n 0, 1) := by decide +kernel
theorem dX8_latestOn_15 : decode cX8_latestOn 15 = .ok (.getfield 40, 3) := by decide +kernel
theorem dX8_latestOn_18 : decode cX8_latestOn 18 = .ok (.iload 4, 2) := by decide +kernel
theorem dX8_latestOn_20 : decode cX8_latestOn 20 = .ok (.aaload, 1) := by decide +kernel
theorem dX8_latestOn_21 : decode cX8_latestOn 21 = .ok (.getfield 163, 3) := by decide +kernel
theorem dX8_latestOn_24 : decode cX8_latestOn 24 = .ok (.iload_n 1, 1) := by decide +kernel
theorem dX8_latestOn_25 : decode cX8_latestOn 25 = .ok (.if_icmp .ne 21, 3) := by decide +kernel
theorem dX8_latestOn_28 : decode cX8_latestOn 28 = .ok (.aload_n 0, 1) := by decide +kernel
theorem dX8_latestOn_29 : decode cX8_latestOn 29 = .ok (.getfield 40, 3) := by decide +kernel
theorem dX8_latestOn_32 : decode cX8_latestOn 32 = .ok (.iload 4, 2) := by decide +kernel
theorem dX8_latestOn_34 : decode cX8_latestOn 34 = .ok (.aaload, 1) := by decide +kernel
theorem dX8_latestOn_35 : decode cX8_latestOn 35 = .ok (.getfield 175, 3) := by decide +kernel
theorem dX8_latestOn_38 : decode cX8_latestOn 38 = .ok (.iload_n 2, 1) := by decide +kernel
theorem dX8_latestOn_39 : decode cX8_latestOn 39 = .ok (.if_icmp .ge 7, 3) := by decide +kernel
theorem dX8_latestOn_42 : decode cX8_latestOn 42 = .ok (.iconst 1, 1) := by decide +kernel
theorem dX8_latestOn_43 : decode cX8_latestOn 43 = .ok (.goto 4, 3) := by decide +kernel
theorem dX8_latestOn_46 : decode cX8_latestOn 46 = .ok (.iconst 0, 1) := by decide +kernel
theorem dX8_latestOn_47 : decode cX8_latestOn 47 = .ok (.istore 5, 2) := by decide +kernel
theorem dX8_latestOn_49 : decode cX8_latestOn 49 = .ok (.iload 5, 2) := by decide +kernel
theorem dX8_latestOn_51 : decode cX8_latestOn 51 = .ok (.ifCond .eq 33, 3) := by decide +kernel
theorem dX8_latestOn_54 : decode cX8_latestOn 54 = .ok (.iload_n 3, 1) := by decide +kernel
theorem dX8_latestOn_55 : decode cX8_latestOn 55 = .ok (.iconst (-1), 1) := by decide +kernel
theorem dX8_latestOn_56 : decode cX8_latestOn 56 = .ok (.if_icmp .eq 25, 3) := by decide +kernel
theorem dX8_latestOn_59 : decode cX8_latestOn 59 = .ok (.aload_n 0, 1) := by decide +kernel
theorem dX8_latestOn_60 : decode cX8_latestOn 60 = .ok (.getfield 40, 3) := by decide +kernel
theorem dX8_latestOn_63 : decode cX8_latestOn 63 = .ok (.iload 4, 2) := by decide +kernel
theorem dX8_latestOn_65 : decode cX8_latestOn 65 = .ok (.aaload, 1) := by decide +kernel
theorem dX8_latestOn_66 : decode cX8_latestOn 66 = .ok (.getfield 175, 3) := by decide +kernel
theorem dX8_latestOn_69 : decode cX8_latestOn 69 = .ok (.aload_n 0, 1) := by decide +kernel
theorem dX8_latestOn_70 : decode cX8_latestOn 70 = .ok (.getfield 40, 3) := by decide +kernel
theorem dX8_latestOn_73 : decode cX8_latestOn 73 = .ok (.iload_n 3, 1) := by decide +kernel
theorem dX8_latestOn_74 : decode cX8_latestOn 74 = .ok (.aaload, 1) := by decide +kernel
theorem dX8_latestOn_75 : decode cX8_latestOn 75 = .ok (.getfield 175, 3) := by decide +kernel
theorem dX8_latestOn_78 : decode cX8_latestOn 78 = .ok (.if_icmp .le 6, 3) := by decide +kernel
theorem dX8_latestOn_81 : decode cX8_latestOn 81 = .ok (.iload 4, 2) := by decide +kernel
theorem dX8_latestOn_83 : decode cX8_latestOn 83 = .ok (.istore_n 3, 1) := by decide +kernel
theorem dX8_latestOn_84 : decode cX8_latestOn 84 = .ok (.iinc 4 1, 3) := by decide +kernel
theorem dX8_latestOn_87 : decode cX8_latestOn 87 = .ok (.goto (-82), 3) := by decide +kernel
theorem dX8_latestOn_90 : decode cX8_latestOn 90 = .ok (.iload_n 3, 1) := by decide +kernel
theorem dX8_latestOn_91 : decode cX8_latestOn 91 = .ok (.ireturn, 1) := by decide +kernel
theorem dX8_herdsNotLost_0 : decode cX8_herdsNotLost 0 = .ok (.iconst 0, 1) := by decide +kernel
theorem dX8_herdsNotLost_1 : decode cX8_herdsNotLost 1 = .ok (.istore_n 1, 1) := by decide +kernel
theorem dX8_herdsNotLost_2 : decode cX8_herdsNotLost 2 = .ok (.iconst 0, 1) := by decide +kernel
theorem dX8_herdsNotLost_3 : decode cX8_herdsNotLost 3 = .ok (.istore_n 2, 1) := by decide +kernel
theorem dX8_herdsNotLost_4 : decode cX8_herdsNotLost 4 = .ok (.iload_n 2, 1) := by decide +kernel
theorem dX8_herdsNotLost_5 : decode cX8_herdsNotLost 5 = .ok (.aload_n 0, 1) := by decide +kernel
theorem dX8_herdsNotLost_6 : decode cX8_herdsNotLost 6 = .ok (.getfield 88, 3) := by decide +kernel
theorem dX8_herdsNotLost_9 : decode cX8_herdsNotLost 9 = .ok (.if_icmp .ge 25, 3) := by decide +kernel
theorem dX8_herdsNotLost_12 : decode cX8_herdsNotLost 12 = .ok (.aload_n 0, 1) := by decide +kernel
theorem dX8_herdsNotLost_13 : decode cX8_herdsNotLost 13 = .ok (.getfield 40, 3) := by decide +kernel
theorem dX8_herdsNotLost_16 : decode cX8_herdsNotLost 16 = .ok (.iload_n 2, 1) := by decide +kernel
theorem dX8_herdsNotLost_17 : decode cX8_herdsNotLost 17 = .ok (.aaload, 1) := by decide +kernel
theorem dX8_herdsNotLost_18 : decode cX8_herdsNotLost 18 = .ok (.getfield 160, 3) := by decide +kernel
theorem dX8_herdsNotLost_21 : decode cX8_herdsNotLost 21 = .ok (.iconst 2, 1) := by decide +kernel
theorem dX8_herdsNotLost_22 : decode cX8_herdsNotLost 22 = .ok (.if_icmp .eq 6, 3) := by decide +kernel
theorem dX8_herdsNotLost_25 : decode cX8_herdsNotLost 25 = .ok (.iinc 1 1, 3) := by decide +kernel
theorem dX8_herdsNotLost_28 : decode cX8_herdsNotLost 28 = .ok (.iinc 2 1, 3) := by decide +kernel
theorem dX8_herdsNotLost_31 : decode cX8_herdsNotLost 31 = .ok (.goto (-27), 3) := by decide +kernel
theorem dX8_herdsNotLost_34 : decode cX8_herdsNotLost 34 = .ok (.iload_n 1, 1) := by decide +kernel
theorem dX8_herdsNotLost_35 : decode cX8_herdsNotLost 35 = .ok (.ireturn, 1) := by decide +kernel
theorem dX8_allGrass_0 : decode cX8_allGrass 0 = .ok (.iconst 0, 1) := by decide +kernel
theorem dX8_allGrass_1 : decode cX8_allGrass 1 = .ok (.istore_n 1, 1) := by decide +kernel
theorem dX8_allGrass_2 : decode cX8_allGrass 2 = .ok (.iconst 0, 1) := by decide +kernel
theorem dX8_allGrass_3 : decode cX8_allGrass 3 = .ok (.istore_n 2, 1) := by decide +kernel
theorem dX8_allGrass_4 : decode cX8_allGrass 4 = .ok (.iload_n 2, 1) := by decide +kernel
theorem dX8_allGrass_5 : decode cX8_allGrass 5 = .ok (.aload_n 0, 1) := by decide +kernel
theorem dX8_allGrass_6 : decode cX8_allGrass 6 = .ok (.getfield 75, 3) := by decide +kernel
theorem dX8_allGrass_9 : decode cX8_allGrass 9 = .ok (.if_icmp .ge 21, 3) := by decide +kernel
theorem dX8_allGrass_12 : decode cX8_allGrass 12 = .ok (.iload_n 1, 1) := by decide +kernel
theorem dX8_allGrass_13 : decode cX8_allGrass 13 = .ok (.aload_n 0, 1) := by decide +kernel
theorem dX8_allGrass_14 : decode cX8_allGrass 14 = .ok (.getfield 11, 3) := by decide +kernel
theorem dX8_allGrass_17 : decode cX8_allGrass 17 = .ok (.iload_n 2, 1) := by decide +kernel
theorem dX8_allGrass_18 : decode cX8_allGrass 18 = .ok (.aaload, 1) := by decide +kernel
theorem dX8_allGrass_19 : decode cX8_allGrass 19 = .ok (.getfield 210, 3) := by decide +kernel
theorem dX8_allGrass_22 : decode cX8_allGrass 22 = .ok (.iadd, 1) := by decide +kernel
theorem dX8_allGrass_23 : decode cX8_allGrass 23 = .ok (.istore_n 1, 1) := by decide +kernel
theorem dX8_allGrass_24 : decode cX8_allGrass 24 = .ok (.iinc 2 1, 3) := by decide +kernel
theorem dX8_allGrass_27 : decode cX8_allGrass 27 = .ok (.goto (-23), 3) := by decide +kernel
theorem dX8_allGrass_30 : decode cX8_allGrass 30 = .ok (.iload_n 1, 1) := by decide +kernel
theorem dX8_allGrass_31 : decode cX8_allGrass 31 = .ok (.ireturn, 1) := by decide +kernel
theorem dX8_allHunger_0 : decode cX8_allHunger 0 = .ok (.iconst 0, 1) := by decide +kernel
theorem dX8_allHunger_1 : decode cX8_allHunger 1 = .ok (.istore_n 1, 1) := by decide +kernel
theorem dX8_allHunger_2 : decode cX8_allHunger 2 = .ok (.iconst 0, 1) := by decide +kernel
theorem dX8_allHunger_3 : decode cX8_allHunger 3 = .ok (.istore_n 2, 1) := by decide +kernel
theorem dX8_allHunger_4 : decode cX8_allHunger 4 = .ok (.iload_n 2, 1) := by decide +kernel
theorem dX8_allHunger_5 : decode cX8_allHunger 5 = .ok (.aload_n 0, 1) := by decide +kernel
theorem dX8_allHunger_6 : decode cX8_allHunger 6 = .ok (.getfield 88, 3) := by decide +kernel
theorem dX8_allHunger_9 : decode cX8_allHunger 9 = .ok (.if_icmp .ge 21, 3) := by decide +kernel
theorem dX8_allHunger_12 : decode cX8_allHunger 12 = .ok (.iload_n 1, 1) := by decide +kernel
theorem dX8_allHunger_13 : decode cX8_allHunger 13 = .ok (.aload_n 0, 1) := by decide +kernel
theorem dX8_allHunger_14 : decode cX8_allHunger 14 = .ok (.getfield 40, 3) := by decide +kernel
theorem dX8_allHunger_17 : decode cX8_allHunger 17 = .ok (.iload_n 2, 1) := by decide +kernel
theorem dX8_allHunger_18 : decode cX8_allHunger 18 = .ok (.aaload, 1) := by decide +kernel
theorem dX8_allHunger_19 : decode cX8_allHunger 19 = .ok (.getfield 278, 3) := by decide +kernel
theorem dX8_allHunger_22 : decode cX8_allHunger 22 = .ok (.iadd, 1) := by decide +kernel
theorem dX8_allHunger_23 : decode cX8_allHunger 23 = .ok (.istore_n 1, 1) := by decide +kernel
theorem dX8_allHunger_24 : decode cX8_allHunger 24 = .ok (.iinc 2 1, 3) := by decide +kernel
theorem dX8_allHunger_27 : decode cX8_allHunger 27 = .ok (.goto (-23), 3) := by decide +kernel
theorem dX8_allHunger_30 : decode cX8_allHunger 30 = .ok (.iload_n 1, 1) := by decide +kernel
theorem dX8_allHunger_31 : decode cX8_allHunger 31 = .ok (.ireturn, 1) := by decide +kernel
theorem dX8_allEaten_0 : decode cX8_allEaten 0 = .ok (.iconst 0, 1) := by decide +kernel
theorem dX8_allEaten_1 : decode cX8_allEaten 1 = .ok (.istore_n 1, 1) := by decide +kernel
theorem dX8_allEaten_2 : decode cX8_allEaten 2 = .ok (.iconst 0, 1) := by decide +kernel
theorem dX8_allEaten_3 : decode cX8_allEaten 3 = .ok (.istore_n 2, 1) := by decide +kernel
theorem dX8_allEaten_4 : decode cX8_allEaten 4 = .ok (.iload_n 2, 1) := by decide +kernel
theorem dX8_allEaten_5 : decode cX8_allEaten 5 = .ok (.aload_n 0, 1) := by decide +kernel
theorem dX8_allEaten_6 : decode cX8_allEaten 6 = .ok (.getfield 75, 3) := by decide +kernel
theorem dX8_allEaten_9 : decode cX8_allEaten 9 = .ok (.if_icmp .ge 21, 3) := by decide +kernel
theorem dX8_allEaten_12 : decode cX8_allEaten 12 = .ok (.iload_n 1, 1) := by decide +kernel
theorem dX8_allEaten_13 : decode cX8_allEaten 13 = .ok (.aload_n 0, 1) := by decide +kernel
theorem dX8_allEaten_14 : decode cX8_allEaten 14 = .ok (.getfield 11, 3) := by decide +kernel
theorem dX8_allEaten_17 : decode cX8_allEaten 17 = .ok (.iload_n 2, 1) := by decide +kernel
theorem dX8_allEaten_18 : decode cX8_allEaten 18 = .ok (.aaload, 1) := by decide +kernel
theorem dX8_allEaten_19 : decode cX8_allEaten 19 = .ok (.getfield 250, 3) := by decide +kernel
theorem dX8_allEaten_22 : decode cX8_allEaten 22 = .ok (.iadd, 1) := by decide +kernel
theorem dX8_allEaten_23 : decode cX8_allEaten 23 = .ok (.istore_n 1, 1) := by decide +kernel
theorem dX8_allEaten_24 : decode cX8_allEaten 24 = .ok (.iinc 2 1, 3) := by decide +kernel
theorem dX8_allEaten_27 : decode cX8_allEaten 27 = .ok (.goto (-23), 3) := by decide +kernel
theorem dX8_allEaten_30 : decode cX8_allEaten 30 = .ok (.iload_n 1, 1) := by decide +kernel
theorem dX8_allEaten_31 : decode cX8_allEaten 31 = .ok (.ireturn, 1) := by decide +kernel
theorem dX8_grazeAll_0 : decode cX8_grazeAll 0 = .ok (.iconst 0, 1) := by decide +kernel
theorem dX8_grazeAll_1 : decode cX8_grazeAll 1 = .ok (.istore_n 1, 1) := by decide +kernel
theorem dX8_grazeAll_2 : decode cX8_grazeAll 2 = .ok (.iconst 0, 1) := by decide +kernel
theorem dX8_grazeAll_3 : decode cX8_grazeAll 3 = .ok (.istore_n 2, 1) := by decide +kernel
theorem dX8_grazeAll_4 : decode cX8_grazeAll 4 = .ok (.iload_n 2, 1) := by decide +kernel
theorem dX8_grazeAll_5 : decode cX8_grazeAll 5 = .ok (.aload_n 0, 1) := by decide +kernel
theorem dX8_grazeAll_6 : decode cX8_grazeAll 6 = .ok (.getfield 75, 3) := by decide +kernel
theorem dX8_grazeAll_9 : decode cX8_grazeAll 9 = .ok (.if_icmp .ge 17, 3) := by decide +kernel
theorem dX8_grazeAll_12 : decode cX8_grazeAll 12 = .ok (.iload_n 1, 1) := by decide +kernel
theorem dX8_grazeAll_13 : decode cX8_grazeAll 13 = .ok (.aload_n 0, 1) := by decide +kernel
theorem dX8_grazeAll_14 : decode cX8_grazeAll 14 = .ok (.iload_n 2, 1) := by decide +kernel
theorem dX8_grazeAll_15 : decode cX8_grazeAll 15 = .ok (.invokevirtual 324, 3) := by decide +kernel
theorem dX8_grazeAll_18 : decode cX8_grazeAll 18 = .ok (.iadd, 1) := by decide +kernel
theorem dX8_grazeAll_19 : decode cX8_grazeAll 19 = .ok (.istore_n 1, 1) := by decide +kernel
theorem dX8_grazeAll_20 : decode cX8_grazeAll 20 = .ok (.iinc 2 1, 3) := by decide +kernel
theorem dX8_grazeAll_23 : decode cX8_grazeAll 23 = .ok (.goto (-19), 3) := by decide +kernel
theorem dX8_grazeAll_26 : decode cX8_grazeAll 26 = .ok (.iload_n 1, 1) := by decide +kernel
theorem dX8_grazeAll_27 : decode cX8_grazeAll 27 = .ok (.ireturn, 1) := by decide +kernel
theorem dX8_graze_0 : decode cX8_graze 0 = .ok (.aload_n 0, 1) := by decide +kernel
theorem dX8_graze_1 : decode cX8_graze 1 = .ok (.getfield 61, 3) := by decide +kernel
theorem dX8_graze_4 : decode cX8_graze 4 = .ok (.invokevirtual 327, 3) := by decide +kernel
theorem dX8_graze_7 : decode cX8_graze 7 = .ok (.iconst 0, 1) := by decide +kernel
theorem dX8_graze_8 : decode cX8_graze 8 = .ok (.istore_n 2, 1) := by decide +kernel
theorem dX8_graze_9 : decode cX8_graze 9 = .ok (.iload_n 2, 1) := by decide +kernel
theorem dX8_graze_10 : decode cX8_graze 10 = .ok (.aload_n 0, 1) := by decide +kernel
theorem dX8_graze_11 : decode cX8_graze 11 = .ok (.getfield 88, 3) := by decide +kernel
theorem dX8_graze_14 : decode cX8_graze 14 = .ok (.if_icmp .ge 39, 3) := by decide +kernel
theorem dX8_graze_17 : decode cX8_graze 17 = .ok (.aload_n 0, 1) := by decide +kernel
theorem dX8_graze_18 : decode cX8_graze 18 = .ok (.getfield 40, 3) := by decide +kernel
theorem dX8_graze_21 : decode cX8_graze 21 = .ok (.iload_n 2, 1) := by decide +kernel
theorem dX8_graze_22 : decode cX8_graze 22 = .ok (.aaload, 1) := by decide +kernel
theorem dX8_graze_23 : decode cX8_graze 23 = .ok (.getfield 163, 3) := by decide +kernel
theorem dX8_graze_26 : decode cX8_graze 26 = .ok (.iload_n 1, 1) := by decide +kernel
theorem dX8_graze_27 : decode cX8_graze 27 = .ok (.if_icmp .ne 20, 3) := by decide +kernel
theorem dX8_graze_30 : decode cX8_graze 30 = .ok (.aload_n 0, 1) := by decide +kernel
theorem dX8_graze_31 : decode cX8_graze 31 = .ok (.getfield 61, 3) := by decide +kernel
theorem dX8_graze_34 : decode cX8_graze 34 = .ok (.iload_n 2, 1) := by decide +kernel
theorem dX8_graze_35 : decode cX8_graze 35 = .ok (.aload_n 0, 1) := by decide +kernel
theorem dX8_graze_36 : decode cX8_graze 36 = .ok (.getfield 40, 3) := by decide +kernel
theorem dX8_graze_39 : decode cX8_graze 39 = .ok (.iload_n 2, 1) := by decide +kernel
theorem dX8_graze_40 : decode cX8_graze 40 = .ok (.aaload, 1) := by decide +kernel
theorem dX8_graze_41 : decode cX8_graze 41 = .ok (.invokevirtual 185, 3) := by decide +kernel
theorem dX8_graze_44 : decode cX8_graze 44 = .ok (.invokevirtual 328, 3) := by decide +kernel
theorem dX8_graze_47 : decode cX8_graze 47 = .ok (.iinc 2 1, 3) := by decide +kernel
theorem dX8_graze_50 : decode cX8_graze 50 = .ok (.goto (-41), 3) := by decide +kernel
theorem dX8_graze_53 : decode cX8_graze 53 = .ok (.aload_n 0, 1) := by decide +kernel
theorem dX8_graze_54 : decode cX8_graze 54 = .ok (.getfield 11, 3) := by decide +kernel
theorem dX8_graze_57 : decode cX8_graze 57 = .ok (.iload_n 1, 1) := by decide +kernel
theorem dX8_graze_58 : decode cX8_graze 58 = .ok (.aaload, 1) := by decide +kernel
theorem dX8_graze_59 : decode cX8_graze 59 = .ok (.astore_n 2, 1) := by decide +kernel
theorem dX8_graze_60 : decode cX8_graze 60 = .ok (.aload_n 2, 1) := by decide +kernel
theorem dX8_graze_61 : decode cX8_graze 61 = .ok (.aload_n 0, 1) := by decide +kernel
theorem dX8_graze_62 : decode cX8_graze 62 = .ok (.getfield 61, 3) := by decide +kernel
theorem dX8_graze_65 : decode cX8_graze 65 = .ok (.aload_n 2, 1) := by decide +kernel
theorem dX8_graze_66 : decode cX8_graze 66 = .ok (.aload_n 2, 1) := by decide +kernel
theorem dX8_graze_67 : decode cX8_graze 67 = .ok (.getfield 210, 3) := by decide +kernel
theorem dX8_graze_70 : decode cX8_graze 70 = .ok (.aload_n 0, 1) := by decide +kernel
theorem dX8_graze_71 : decode cX8_graze 71 = .ok (.getfield 47, 3) := by decide +kernel
theorem dX8_graze_74 : decode cX8_graze 74 = .ok (.aload_n 0, 1) := by decide +kernel
theorem dX8_graze_75 : decode cX8_graze 75 = .ok (.getfield 91, 3) := by decide +kernel
theorem dX8_graze_78 : decode cX8_graze 78 = .ok (.invokevirtual 331, 3) := by decide +kernel
theorem dX8_graze_81 : decode cX8_graze 81 = .ok (.aload_n 0, 1) := by decide +kernel
theorem dX8_graze_82 : decode cX8_graze 82 = .ok (.getfield 47, 3) := by decide +kernel
theorem dX8_graze_85 : decode cX8_graze 85 = .ok (.aload_n 0, 1) := by decide +kernel
theorem dX8_graze_86 : decode cX8_graze 86 = .ok (.getfield 91, 3) := by decide +kernel
theorem dX8_graze_89 : decode cX8_graze 89 = .ok (.invokevirtual 334, 3) := by decide +kernel
theorem dX8_graze_92 : decode cX8_graze 92 = .ok (.invokevirtual 337, 3) := by decide +kernel
theorem dX8_graze_95 : decode cX8_graze 95 = .ok (.putfield 210, 3) := by decide +kernel
theorem dX8_graze_98 : decode cX8_graze 98 = .ok (.aload_n 2, 1) := by decide +kernel
theorem dX8_graze_99 : decode cX8_graze 99 = .ok (.dup, 1) := by decide +kernel
theorem dX8_graze_100 : decode cX8_graze 100 = .ok (.getfield 250, 3) := by decide +kernel
theorem dX8_graze_103 : decode cX8_graze 103 = .ok (.aload_n 0, 1) := by decide +kernel
theorem dX8_graze_104 : decode cX8_graze 104 = .ok (.getfield 61, 3) := by decide +kernel
theorem dX8_graze_107 : decode cX8_graze 107 = .ok (.getfield 341, 3) := by decide +kernel
theorem dX8_graze_110 : decode cX8_graze 110 = .ok (.iadd, 1) := by decide +kernel
theorem dX8_graze_111 : decode cX8_graze 111 = .ok (.putfield 250, 3) := by decide +kernel
theorem dX8_graze_114 : decode cX8_graze 114 = .ok (.iconst 0, 1) := by decide +kernel
theorem dX8_graze_115 : decode cX8_graze 115 = .ok (.istore_n 3, 1) := by decide +kernel
theorem dX8_graze_116 : decode cX8_graze 116 = .ok (.iconst 0, 1) := by decide +kernel
theorem dX8_graze_117 : decode cX8_graze 117 = .ok (.istore 4, 2) := by decide +kernel
theorem dX8_graze_119 : decode cX8_graze 119 = .ok (.iload 4, 2) := by decide +kernel
theorem dX8_graze_121 : decode cX8_graze 121 = .ok (.aload_n 0, 1) := by decide +kernel
theorem dX8_graze_122 : decode cX8_graze 122 = .ok (.getfield 88, 3) := by decide +kernel
theorem dX8_graze_125 : decode cX8_graze 125 = .ok (.if_icmp .ge 56, 3) := by decide +kernel
theorem dX8_graze_128 : decode cX8_graze 128 = .ok (.aload_n 0, 1) := by decide +kernel
theorem dX8_graze_129 : decode cX8_graze 129 = .ok (.getfield 40, 3) := by decide +kernel
theorem dX8_graze_132 : decode cX8_graze 132 = .ok (.iload 4, 2) := by decide +kernel
theorem dX8_graze_134 : decode cX8_graze 134 = .ok (.aaload, 1) := by decide +kernel
theorem dX8_graze_135 : decode cX8_graze 135 = .ok (.getfield 163, 3) := by decide +kernel
theorem dX8_graze_138 : decode cX8_graze 138 = .ok (.iload_n 1, 1) := by decide +kernel
theorem dX8_graze_139 : decode cX8_graze 139 = .ok (.if_icmp .ne 36, 3) := by decide +kernel
theorem dX8_graze_142 : decode cX8_graze 142 = .ok (.aload_n 0, 1) := by decide +kernel
theorem dX8_graze_143 : decode cX8_graze 143 = .ok (.getfield 61, 3) := by decide +kernel
theorem dX8_graze_146 : decode cX8_graze 146 = .ok (.iload 4, 2) := by decide +kernel
theorem dX8_graze_148 : decode cX8_graze 148 = .ok (.invokevirtual 342, 3) := by decide +kernel
theorem dX8_graze_151 : decode cX8_graze 151 = .ok (.istore 5, 2) := by decide +kernel
theorem dX8_graze_153 : decode cX8_graze 153 = .ok (.aload_n 0, 1) := by decide +kernel
theorem dX8_graze_154 : decode cX8_graze 154 = .ok (.getfield 40, 3) := by decide +kernel
theorem dX8_graze_157 : decode cX8_graze 157 = .ok (.iload 4, 2) := by decide +kernel
theorem dX8_graze_159 : decode cX8_graze 159 = .ok (.aaload, 1) := by decide +kernel
theorem dX8_graze_160 : decode cX8_graze 160 = .ok (.dup, 1) := by decide +kernel
theorem dX8_graze_161 : decode cX8_graze 161 = .ok (.getfield 278, 3) := by decide +kernel
theorem dX8_graze_164 : decode cX8_graze 164 = .ok (.iload 5, 2) := by decide +kernel
theorem dX8_graze_166 : decode cX8_graze 166 = .ok (.iadd, 1) := by decide +kernel
theorem dX8_graze_167 : decode cX8_graze 167 = .ok (.putfield 278, 3) := by decide +kernel
theorem dX8_graze_170 : decode cX8_graze 170 = .ok (.iload_n 3, 1) := by decide +kernel
theorem dX8_graze_171 : decode cX8_graze 171 = .ok (.iload 5, 2) := by decide +kernel
theorem dX8_graze_173 : decode cX8_graze 173 = .ok (.iadd, 1) := by decide +kernel
theorem dX8_graze_174 : decode cX8_graze 174 = .ok (.istore_n 3, 1) := by decide +kernel
theorem dX8_graze_175 : decode cX8_graze 175 = .ok (.iinc 4 1, 3) := by decide +kernel
theorem dX8_graze_178 : decode cX8_graze 178 = .ok (.goto (-59), 3) := by decide +kernel
theorem dX8_graze_181 : decode cX8_graze 181 = .ok (.iload_n 3, 1) := by decide +kernel
theorem dX8_graze_182 : decode cX8_graze 182 = .ok (.ireturn, 1) := by decide +kernel
theorem dX8_sellFromPound_0 : decode cX8_sellFromPound 0 = .ok (.iconst 0, 1) := by decide +kernel
theorem dX8_sellFromPound_1 : decode cX8_sellFromPound 1 = .ok (.istore_n 1, 1) := by decide +kernel
theorem dX8_sellFromPound_2 : decode cX8_sellFromPound 2 = .ok (.iload_n 1, 1) := by decide +kernel
theorem dX8_sellFromPound_3 : decode cX8_sellFromPound 3 = .ok (.aload_n 0, 1) := by decide +kernel
theorem dX8_sellFromPound_4 : decode cX8_sellFromPound 4 = .ok (.getfield 88, 3) := by decide +kernel
theorem dX8_sellFromPound_7 : decode cX8_sellFromPound 7 = .ok (.if_icmp .ge 96, 3) := by decide +kernel
theorem dX8_sellFromPound_10 : decode cX8_sellFromPound 10 = .ok (.aload_n 0, 1) := by decide +kernel
theorem dX8_sellFromPound_11 : decode cX8_sellFromPound 11 = .ok (.getfield 40, 3) := by decide +kernel
theorem dX8_sellFromPound_14 : decode cX8_sellFromPound 14 = .ok (.iload_n 1, 1) := by decide +kernel
theorem dX8_sellFromPound_15 : decode cX8_sellFromPound 15 = .ok (.aaload, 1) := by decide +kernel
theorem dX8_sellFromPound_16 : decode cX8_sellFromPound 16 = .ok (.astore_n 2, 1) := by decide +kernel
theorem dX8_sellFromPound_17 : decode cX8_sellFromPound 17 = .ok (.aload_n 2, 1) := by decide +kernel
theorem dX8_sellFromPound_18 : decode cX8_sellFromPound 18 = .ok (.getfield 160, 3) := by decide +kernel
theorem dX8_sellFromPound_21 : decode cX8_sellFromPound 21 = .ok (.iconst 1, 1) := by decide +kernel
theorem dX8_sellFromPound_22 : decode cX8_sellFromPound 22 = .ok (.if_icmp .ne 75, 3) := by decide +kernel
