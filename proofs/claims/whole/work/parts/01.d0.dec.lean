theorem dX0_init_0 : decode cX0_init 0 = .ok (.aload_n 0, 1) := by decide +kernel
theorem dX0_init_1 : decode cX0_init 1 = .ok (.invokespecial 1, 3) := by decide +kernel
theorem dX0_init_4 : decode cX0_init 4 = .ok (.return_, 1) := by decide +kernel
theorem dX0_current_0 : decode cX0_current 0 = .ok (.aload_n 0, 1) := by decide +kernel
theorem dX0_current_1 : decode cX0_current 1 = .ok (.getfield 7, 3) := by decide +kernel
theorem dX0_current_4 : decode cX0_current 4 = .ok (.ireturn, 1) := by decide +kernel
theorem dX0_startFrom_0 : decode cX0_startFrom 0 = .ok (.aload_n 0, 1) := by decide +kernel
theorem dX0_startFrom_1 : decode cX0_startFrom 1 = .ok (.iload_n 1, 1) := by decide +kernel
theorem dX0_startFrom_2 : decode cX0_startFrom 2 = .ok (.putfield 7, 3) := by decide +kernel
theorem dX0_startFrom_5 : decode cX0_startFrom 5 = .ok (.return_, 1) := by decide +kernel
theorem dX0_next_0 : decode cX0_next 0 = .ok (.aload_n 0, 1) := by decide +kernel
theorem dX0_next_1 : decode cX0_next 1 = .ok (.aload_n 0, 1) := by decide +kernel
theorem dX0_next_2 : decode cX0_next 2 = .ok (.getfield 7, 3) := by decide +kernel
theorem dX0_next_5 : decode cX0_next 5 = .ok (.i2l, 1) := by decide +kernel
theorem dX0_next_6 : decode cX0_next 6 = .ok (.ldc2_w 13, 3) := by decide +kernel
theorem dX0_next_9 : decode cX0_next 9 = .ok (.lmul, 1) := by decide +kernel
theorem dX0_next_10 : decode cX0_next 10 = .ok (.ldc2_w 15, 3) := by decide +kernel
theorem dX0_next_13 : decode cX0_next 13 = .ok (.ladd, 1) := by decide +kernel
theorem dX0_next_14 : decode cX0_next 14 = .ok (.ldc2_w 17, 3) := by decide +kernel
theorem dX0_next_17 : decode cX0_next 17 = .ok (.land, 1) := by decide +kernel
theorem dX0_next_18 : decode cX0_next 18 = .ok (.l2i, 1) := by decide +kernel
theorem dX0_next_19 : decode cX0_next 19 = .ok (.putfield 7, 3) := by decide +kernel
theorem dX0_next_22 : decode cX0_next 22 = .ok (.iload_n 1, 1) := by decide +kernel
theorem dX0_next_23 : decode cX0_next 23 = .ok (.ifCond .le 15, 3) := by decide +kernel
theorem dX0_next_26 : decode cX0_next 26 = .ok (.aload_n 0, 1) := by decide +kernel
theorem dX0_next_27 : decode cX0_next 27 = .ok (.getfield 7, 3) := by decide +kernel
theorem dX0_next_30 : decode cX0_next 30 = .ok (.ldc 19, 2) := by decide +kernel
theorem dX0_next_32 : decode cX0_next 32 = .ok (.idiv, 1) := by decide +kernel
theorem dX0_next_33 : decode cX0_next 33 = .ok (.iload_n 1, 1) := by decide +kernel
theorem dX0_next_34 : decode cX0_next 34 = .ok (.irem, 1) := by decide +kernel
theorem dX0_next_35 : decode cX0_next 35 = .ok (.goto 4, 3) := by decide +kernel
theorem dX0_next_38 : decode cX0_next 38 = .ok (.iconst 0, 1) := by decide +kernel
theorem dX0_next_39 : decode cX0_next 39 = .ok (.ireturn, 1) := by decide +kernel
theorem dX1_init_0 : decode cX1_init 0 = .ok (.aload_n 0, 1) := by decide +kernel
theorem dX1_init_1 : decode cX1_init 1 = .ok (.invokespecial 3, 3) := by decide +kernel
theorem dX1_init_4 : decode cX1_init 4 = .ok (.aload_n 0, 1) := by decide +kernel
theorem dX1_init_5 : decode cX1_init 5 = .ok (.sipush 300, 3) := by decide +kernel
theorem dX1_init_8 : decode cX1_init 8 = .ok (.newarray .int, 2) := by decide +kernel
theorem dX1_init_10 : decode cX1_init 10 = .ok (.putfield 11, 3) := by decide +kernel
theorem dX1_init_13 : decode cX1_init 13 = .ok (.return_, 1) := by decide +kernel
theorem dX1_agree_0 : decode cX1_agree 0 = .ok (.iconst 0, 1) := by decide +kernel
theorem dX1_agree_1 : decode cX1_agree 1 = .ok (.istore 5, 2) := by decide +kernel
theorem dX1_agree_3 : decode cX1_agree 3 = .ok (.iload 5, 2) := by decide +kernel
theorem dX1_agree_5 : decode cX1_agree 5 = .ok (.aload_n 2, 1) := by decide +kernel
theorem dX1_agree_6 : decode cX1_agree 6 = .ok (.invokevirtual 15, 3) := by decide +kernel
theorem dX1_agree_9 : decode cX1_agree 9 = .ok (.if_icmp .ge 33, 3) := by decide +kernel
theorem dX1_agree_12 : decode cX1_agree 12 = .ok (.aload_n 1, 1) := by decide +kernel
theorem dX1_agree_13 : decode cX1_agree 13 = .ok (.aload_n 2, 1) := by decide +kernel
theorem dX1_agree_14 : decode cX1_agree 14 = .ok (.iload 5, 2) := by decide +kernel
theorem dX1_agree_16 : decode cX1_agree 16 = .ok (.invokevirtual 21, 3) := by decide +kernel
theorem dX1_agree_19 : decode cX1_agree 19 = .ok (.iload_n 3, 1) := by decide +kernel
theorem dX1_agree_20 : decode cX1_agree 20 = .ok (.iload 4, 2) := by decide +kernel
theorem dX1_agree_22 : decode cX1_agree 22 = .ok (.invokevirtual 25, 3) := by decide +kernel
theorem dX1_agree_25 : decode cX1_agree 25 = .ok (.aload_n 2, 1) := by decide +kernel
theorem dX1_agree_26 : decode cX1_agree 26 = .ok (.iload 5, 2) := by decide +kernel
theorem dX1_agree_28 : decode cX1_agree 28 = .ok (.invokevirtual 31, 3) := by decide +kernel
theorem dX1_agree_31 : decode cX1_agree 31 = .ok (.if_icmp .eq 5, 3) := by decide +kernel
theorem dX1_agree_34 : decode cX1_agree 34 = .ok (.iconst 0, 1) := by decide +kernel
theorem dX1_agree_35 : decode cX1_agree 35 = .ok (.ireturn, 1) := by decide +kernel
theorem dX1_agree_36 : decode cX1_agree 36 = .ok (.iinc 5 1, 3) := by decide +kernel
theorem dX1_agree_39 : decode cX1_agree 39 = .ok (.goto (-36), 3) := by decide +kernel
theorem dX1_agree_42 : decode cX1_agree 42 = .ok (.iconst 1, 1) := by decide +kernel
theorem dX1_agree_43 : decode cX1_agree 43 = .ok (.ireturn, 1) := by decide +kernel
theorem dX1_possibleGrowths_0 : decode cX1_possibleGrowths 0 = .ok (.iconst 0, 1) := by decide +kernel
theorem dX1_possibleGrowths_1 : decode cX1_possibleGrowths 1 = .ok (.istore_n 3, 1) := by decide +kernel
theorem dX1_possibleGrowths_2 : decode cX1_possibleGrowths 2 = .ok (.iconst 0, 1) := by decide +kernel
theorem dX1_possibleGrowths_3 : decode cX1_possibleGrowths 3 = .ok (.istore 4, 2) := by decide +kernel
theorem dX1_possibleGrowths_5 : decode cX1_possibleGrowths 5 = .ok (.iload 4, 2) := by decide +kernel
theorem dX1_possibleGrowths_7 : decode cX1_possibleGrowths 7 = .ok (.bipush 30, 2) := by decide +kernel
theorem dX1_possibleGrowths_9 : decode cX1_possibleGrowths 9 = .ok (.if_icmp .ge 27, 3) := by decide +kernel
theorem dX1_possibleGrowths_12 : decode cX1_possibleGrowths 12 = .ok (.aload_n 0, 1) := by decide +kernel
theorem dX1_possibleGrowths_13 : decode cX1_possibleGrowths 13 = .ok (.aload_n 1, 1) := by decide +kernel
theorem dX1_possibleGrowths_14 : decode cX1_possibleGrowths 14 = .ok (.aload_n 2, 1) := by decide +kernel
theorem dX1_possibleGrowths_15 : decode cX1_possibleGrowths 15 = .ok (.iload 4, 2) := by decide +kernel
theorem dX1_possibleGrowths_17 : decode cX1_possibleGrowths 17 = .ok (.invokevirtual 34, 3) := by decide +kernel
theorem dX1_possibleGrowths_20 : decode cX1_possibleGrowths 20 = .ok (.ifCond .eq 10, 3) := by decide +kernel
theorem dX1_possibleGrowths_23 : decode cX1_possibleGrowths 23 = .ok (.iload_n 3, 1) := by decide +kernel
theorem dX1_possibleGrowths_24 : decode cX1_possibleGrowths 24 = .ok (.iconst 1, 1) := by decide +kernel
theorem dX1_possibleGrowths_25 : decode cX1_possibleGrowths 25 = .ok (.iload 4, 2) := by decide +kernel
theorem dX1_possibleGrowths_27 : decode cX1_possibleGrowths 27 = .ok (.ishl, 1) := by decide +kernel
theorem dX1_possibleGrowths_28 : decode cX1_possibleGrowths 28 = .ok (.ior, 1) := by decide +kernel
theorem dX1_possibleGrowths_29 : decode cX1_possibleGrowths 29 = .ok (.istore_n 3, 1) := by decide +kernel
theorem dX1_possibleGrowths_30 : decode cX1_possibleGrowths 30 = .ok (.iinc 4 1, 3) := by decide +kernel
theorem dX1_possibleGrowths_33 : decode cX1_possibleGrowths 33 = .ok (.goto (-28), 3) := by decide +kernel
theorem dX1_possibleGrowths_36 : decode cX1_possibleGrowths 36 = .ok (.iload_n 3, 1) := by decide +kernel
theorem dX1_possibleGrowths_37 : decode cX1_possibleGrowths 37 = .ok (.ireturn, 1) := by decide +kernel
theorem dX1_agreeAtSomeMinute_0 : decode cX1_agreeAtSomeMinute 0 = .ok (.iconst 0, 1) := by decide +kernel
theorem dX1_agreeAtSomeMinute_1 : decode cX1_agreeAtSomeMinute 1 = .ok (.istore 4, 2) := by decide +kernel
theorem dX1_agreeAtSomeMinute_3 : decode cX1_agreeAtSomeMinute 3 = .ok (.iload 4, 2) := by decide +kernel
theorem dX1_agreeAtSomeMinute_5 : decode cX1_agreeAtSomeMinute 5 = .ok (.aload_n 1, 1) := by decide +kernel
theorem dX1_agreeAtSomeMinute_6 : decode cX1_agreeAtSomeMinute 6 = .ok (.invokevirtual 38, 3) := by decide +kernel
theorem dX1_agreeAtSomeMinute_9 : decode cX1_agreeAtSomeMinute 9 = .ok (.if_icmp .ge 23, 3) := by decide +kernel
theorem dX1_agreeAtSomeMinute_12 : decode cX1_agreeAtSomeMinute 12 = .ok (.aload_n 0, 1) := by decide +kernel
theorem dX1_agreeAtSomeMinute_13 : decode cX1_agreeAtSomeMinute 13 = .ok (.aload_n 1, 1) := by decide +kernel
theorem dX1_agreeAtSomeMinute_14 : decode cX1_agreeAtSomeMinute 14 = .ok (.aload_n 2, 1) := by decide +kernel
theorem dX1_agreeAtSomeMinute_15 : decode cX1_agreeAtSomeMinute 15 = .ok (.iload 4, 2) := by decide +kernel
theorem dX1_agreeAtSomeMinute_17 : decode cX1_agreeAtSomeMinute 17 = .ok (.iload_n 3, 1) := by decide +kernel
theorem dX1_agreeAtSomeMinute_18 : decode cX1_agreeAtSomeMinute 18 = .ok (.invokevirtual 41, 3) := by decide +kernel
theorem dX1_agreeAtSomeMinute_21 : decode cX1_agreeAtSomeMinute 21 = .ok (.ifCond .eq 5, 3) := by decide +kernel
theorem dX1_agreeAtSomeMinute_24 : decode cX1_agreeAtSomeMinute 24 = .ok (.iconst 1, 1) := by decide +kernel
theorem dX1_agreeAtSomeMinute_25 : decode cX1_agreeAtSomeMinute 25 = .ok (.ireturn, 1) := by decide +kernel
theorem dX1_agreeAtSomeMinute_26 : decode cX1_agreeAtSomeMinute 26 = .ok (.iinc 4 1, 3) := by decide +kernel
theorem dX1_agreeAtSomeMinute_29 : decode cX1_agreeAtSomeMinute 29 = .ok (.goto (-26), 3) := by decide +kernel
theorem dX1_agreeAtSomeMinute_32 : decode cX1_agreeAtSomeMinute 32 = .ok (.iconst 0, 1) := by decide +kernel
theorem dX1_agreeAtSomeMinute_33 : decode cX1_agreeAtSomeMinute 33 = .ok (.ireturn, 1) := by decide +kernel
theorem dX1_noteFits_0 : decode cX1_noteFits 0 = .ok (.aload_n 3, 1) := by decide +kernel
theorem dX1_noteFits_1 : decode cX1_noteFits 1 = .ok (.invokevirtual 45, 3) := by decide +kernel
theorem dX1_noteFits_4 : decode cX1_noteFits 4 = .ok (.iconst 0, 1) := by decide +kernel
theorem dX1_noteFits_5 : decode cX1_noteFits 5 = .ok (.istore 4, 2) := by decide +kernel
theorem dX1_noteFits_7 : decode cX1_noteFits 7 = .ok (.iload 4, 2) := by decide +kernel
theorem dX1_noteFits_9 : decode cX1_noteFits 9 = .ok (.aload_n 1, 1) := by decide +kernel
theorem dX1_noteFits_10 : decode cX1_noteFits 10 = .ok (.invokevirtual 38, 3) := by decide +kernel
theorem dX1_noteFits_13 : decode cX1_noteFits 13 = .ok (.if_icmp .ge 30, 3) := by decide +kernel
theorem dX1_noteFits_16 : decode cX1_noteFits 16 = .ok (.aload_n 0, 1) := by decide +kernel
theorem dX1_noteFits_17 : decode cX1_noteFits 17 = .ok (.aload_n 1, 1) := by decide +kernel
theorem dX1_noteFits_18 : decode cX1_noteFits 18 = .ok (.aload_n 2, 1) := by decide +kernel
theorem dX1_noteFits_19 : decode cX1_noteFits 19 = .ok (.iload 4, 2) := by decide +kernel
theorem dX1_noteFits_21 : decode cX1_noteFits 21 = .ok (.aload_n 1, 1) := by decide +kernel
theorem dX1_noteFits_22 : decode cX1_noteFits 22 = .ok (.invokevirtual 50, 3) := by decide +kernel
theorem dX1_noteFits_25 : decode cX1_noteFits 25 = .ok (.invokevirtual 41, 3) := by decide +kernel
theorem dX1_noteFits_28 : decode cX1_noteFits 28 = .ok (.ifCond .eq 9, 3) := by decide +kernel
theorem dX1_noteFits_31 : decode cX1_noteFits 31 = .ok (.aload_n 3, 1) := by decide +kernel
theorem dX1_noteFits_32 : decode cX1_noteFits 32 = .ok (.iload 4, 2) := by decide +kernel
theorem dX1_noteFits_34 : decode cX1_noteFits 34 = .ok (.invokevirtual 53, 3) := by decide +kernel
theorem dX1_noteFits_37 : decode cX1_noteFits 37 = .ok (.iinc 4 1, 3) := by decide +kernel
theorem dX1_noteFits_40 : decode cX1_noteFits 40 = .ok (.goto (-33), 3) := by decide +kernel
theorem dX1_noteFits_43 : decode cX1_noteFits 43 = .ok (.return_, 1) := by decide +kernel
theorem dX1_bestGap_0 : decode cX1_bestGap 0 = .ok (.iconst (-1), 1) := by decide +kernel
theorem dX1_bestGap_1 : decode cX1_bestGap 1 = .ok (.istore 4, 2) := by decide +kernel
theorem dX1_bestGap_3 : decode cX1_bestGap 3 = .ok (.iload_n 3, 1) := by decide +kernel
theorem dX1_bestGap_4 : decode cX1_bestGap 4 = .ok (.istore 5, 2) := by decide +kernel
theorem dX1_bestGap_6 : decode cX1_bestGap 6 = .ok (.iconst 0, 1) := by decide +kernel
theorem dX1_bestGap_7 : decode cX1_bestGap 7 = .ok (.istore 6, 2) := by decide +kernel
theorem dX1_bestGap_9 : decode cX1_bestGap 9 = .ok (.iload 6, 2) := by decide +kernel
theorem dX1_bestGap_11 : decode cX1_bestGap 11 = .ok (.aload_n 1, 1) := by decide +kernel
theorem dX1_bestGap_12 : decode cX1_bestGap 12 = .ok (.invokevirtual 57, 3) := by decide +kernel
theorem dX1_bestGap_15 : decode cX1_bestGap 15 = .ok (.if_icmp .ge 34, 3) := by decide +kernel
theorem dX1_bestGap_18 : decode cX1_bestGap 18 = .ok (.aload_n 0, 1) := by decide +kernel
theorem dX1_bestGap_19 : decode cX1_bestGap 19 = .ok (.aload_n 1, 1) := by decide +kernel
theorem dX1_bestGap_20 : decode cX1_bestGap 20 = .ok (.aload_n 2, 1) := by decide +kernel
theorem dX1_bestGap_21 : decode cX1_bestGap 21 = .ok (.iload 6, 2) := by decide +kernel
theorem dX1_bestGap_23 : decode cX1_bestGap 23 = .ok (.invokevirtual 60, 3) := by decide +kernel
theorem dX1_bestGap_26 : decode cX1_bestGap 26 = .ok (.istore 7, 2) := by decide +kernel
theorem dX1_bestGap_28 : decode cX1_bestGap 28 = .ok (.iload 7, 2) := by decide +kernel
theorem dX1_bestGap_30 : decode cX1_bestGap 30 = .ok (.iload 5, 2) := by decide +kernel
theorem dX1_bestGap_32 : decode cX1_bestGap 32 = .ok (.if_icmp .ge 11, 3) := by decide +kernel
theorem dX1_bestGap_35 : decode cX1_bestGap 35 = .ok (.iload 6, 2) := by decide +kernel
theorem dX1_bestGap_37 : decode cX1_bestGap 37 = .ok (.istore 4, 2) := by decide +kernel
theorem dX1_bestGap_39 : decode cX1_bestGap 39 = .ok (.iload 7, 2) := by decide +kernel
theorem dX1_bestGap_41 : decode cX1_bestGap 41 = .ok (.istore 5, 2) := by decide +kernel
theorem dX1_bestGap_43 : decode cX1_bestGap 43 = .ok (.iinc 6 1, 3) := by decide +kernel
theorem dX1_bestGap_46 : decode cX1_bestGap 46 = .ok (.goto (-37), 3) := by decide +kernel
theorem dX1_bestGap_49 : decode cX1_bestGap 49 = .ok (.iload 4, 2) := by decide +kernel
theorem dX1_bestGap_51 : decode cX1_bestGap 51 = .ok (.ireturn, 1) := by decide +kernel
theorem dX1_greatestPart_0 : decode cX1_greatestPart 0 = .ok (.iconst 0, 1) := by decide +kernel
theorem dX1_greatestPart_1 : decode cX1_greatestPart 1 = .ok (.istore 4, 2) := by decide +kernel
theorem dX1_greatestPart_3 : decode cX1_greatestPart 3 = .ok (.iload 4, 2) := by decide +kernel
theorem dX1_greatestPart_5 : decode cX1_greatestPart 5 = .ok (.aload_n 0, 1) := by decide +kernel
theorem dX1_greatestPart_6 : decode cX1_greatestPart 6 = .ok (.getfield 11, 3) := by decide +kernel
theorem dX1_greatestPart_9 : decode cX1_greatestPart 9 = .ok (.arraylength, 1) := by decide +kernel
theorem dX1_greatestPart_10 : decode cX1_greatestPart 10 = .ok (.if_icmp .ge 17, 3) := by decide +kernel
theorem dX1_greatestPart_13 : decode cX1_greatestPart 13 = .ok (.aload_n 0, 1) := by decide +kernel
theorem dX1_greatestPart_14 : decode cX1_greatestPart 14 = .ok (.getfield 11, 3) := by decide +kernel
theorem dX1_greatestPart_17 : decode cX1_greatestPart 17 = .ok (.iload 4, 2) := by decide +kernel
theorem dX1_greatestPart_19 : decode cX1_greatestPart 19 = .ok (.iconst 0, 1) := by decide +kernel
theorem dX1_greatestPart_20 : decode cX1_greatestPart 20 = .ok (.iastore, 1) := by decide +kernel
theorem dX1_greatestPart_21 : decode cX1_greatestPart 21 = .ok (.iinc 4 1, 3) := by decide +kernel
theorem dX1_greatestPart_24 : decode cX1_greatestPart 24 = .ok (.goto (-21), 3) := by decide +kernel
theorem dX1_greatestPart_27 : decode cX1_greatestPart 27 = .ok (.iconst 0, 1) := by decide +kernel
theorem dX1_greatestPart_28 : decode cX1_greatestPart 28 = .ok (.istore 4, 2) := by decide +kernel
theorem dX1_greatestPart_30 : decode cX1_greatestPart 30 = .ok (.iconst 0, 1) := by decide +kernel
theorem dX1_greatestPart_31 : decode cX1_greatestPart 31 = .ok (.istore 5, 2) := by decide +kernel
theorem dX1_greatestPart_33 : decode cX1_greatestPart 33 = .ok (.iload 5, 2) := by decide +kernel
theorem dX1_greatestPart_35 : decode cX1_greatestPart 35 = .ok (.aload_n 1, 1) := by decide +kernel
theorem dX1_greatestPart_36 : decode cX1_greatestPart 36 = .ok (.invokevirtual 38, 3) := by decide +kernel
theorem dX1_greatestPart_39 : decode cX1_greatestPart 39 = .ok (.if_icmp .ge 73, 3) := by decide +kernel
theorem dX1_greatestPart_42 : decode cX1_greatestPart 42 = .ok (.aload_n 1, 1) := by decide +kernel
theorem dX1_greatestPart_43 : decode cX1_greatestPart 43 = .ok (.iload_n 3, 1) := by decide +kernel
theorem dX1_greatestPart_44 : decode cX1_greatestPart 44 = .ok (.iload 5, 2) := by decide +kernel
theorem dX1_greatestPart_46 : decode cX1_greatestPart 46 = .ok (.invokevirtual 64, 3) := by decide +kernel
theorem dX1_greatestPart_49 : decode cX1_greatestPart 49 = .ok (.istore 6, 2) := by decide +kernel
theorem dX1_greatestPart_51 : decode cX1_greatestPart 51 = .ok (.iload 6, 2) := by decide +kernel
theorem dX1_greatestPart_53 : decode cX1_greatestPart 53 = .ok (.ifCond .lt 53, 3) := by decide +kernel
theorem dX1_greatestPart_56 : decode cX1_greatestPart 56 = .ok (.iload 6, 2) := by decide +kernel
theorem dX1_greatestPart_58 : decode cX1_greatestPart 58 = .ok (.aload_n 0, 1) := by decide +kernel
theorem dX1_greatestPart_59 : decode cX1_greatestPart 59 = .ok (.getfield 11, 3) := by decide +kernel
theorem dX1_greatestPart_62 : decode cX1_greatestPart 62 = .ok (.arraylength, 1) := by decide +kernel
theorem dX1_greatestPart_63 : decode cX1_greatestPart 63 = .ok (.if_icmp .ge 43, 3) := by decide +kernel
theorem dX1_greatestPart_66 : decode cX1_greatestPart 66 = .ok (.aload_n 0, 1) := by decide +kernel
theorem dX1_greatestPart_67 : decode cX1_greatestPart 67 = .ok (.aload_n 1, 1) := by decide +kernel
theorem dX1_greatestPart_68 : decode cX1_greatestPart 68 = .ok (.aload_n 2, 1) := by decide +kernel
theorem dX1_greatestPart_69 : decode cX1_greatestPart 69 = .ok (.iload 5, 2) := by decide +kernel
theorem dX1_greatestPart_71 : decode cX1_greatestPart 71 = .ok (.aload_n 1, 1) := by decide +kernel
theorem dX1_greatestPart_72 : decode cX1_greatestPart 72 = .ok (.invokevirtual 50, 3) := by decide +kernel
theorem dX1_greatestPart_75 : decode cX1_greatestPart 75 = .ok (.invokevirtual 41, 3) := by decide +kernel
theorem dX1_greatestPart_78 : decode cX1_greatestPart 78 = .ok (.ifCond .eq 28, 3) := by decide +kernel
theorem dX1_greatestPart_81 : decode cX1_greatestPart 81 = .ok (.aload_n 0, 1) := by decide +kernel
theorem dX1_greatestPart_82 : decode cX1_greatestPart 82 = .ok (.getfield 11, 3) := by decide +kernel
theorem dX1_greatestPart_85 : decode cX1_greatestPart 85 = .ok (.iload 6, 2) := by decide +kernel
theorem dX1_greatestPart_87 : decode cX1_greatestPart 87 = .ok (.dup2, 1) := by decide +kernel
theorem dX1_greatestPart_88 : decode cX1_greatestPart 88 = .ok (.iaload, 1) := by decide +kernel
theorem dX1_greatestPart_89 : decode cX1_greatestPart 89 = .ok (.iconst 1, 1) := by decide +kernel
theorem dX1_greatestPart_90 : decode cX1_greatestPart 90 = .ok (.iadd, 1) := by decide +kernel
theorem dX1_greatestPart_91 : decode cX1_greatestPart 91 = .ok (.iastore, 1) := by decide +kernel
theorem dX1_greatestPart_92 : decode cX1_greatestPart 92 = .ok (.iload 4, 2) := by decide +kernel
theorem dX1_greatestPart_94 : decode cX1_greatestPart 94 = .ok (.aload_n 0, 1) := by decide +kernel
theorem dX1_greatestPart_95 : decode cX1_greatestPart 95 = .ok (.getfield 11, 3) := by decide +kernel
theorem dX1_greatestPart_98 : decode cX1_greatestPart 98 = .ok (.iload 6, 2) := by decide +kernel
theorem dX1_greatestPart_100 : decode cX1_greatestPart 100 = .ok (.iaload, 1) := by decide +kernel
theorem dX1_greatestPart_101 : decode cX1_greatestPart 101 = .ok (.invokestatic 68, 3) := by decide +kernel
theorem dX1_greatestPart_104 : decode cX1_greatestPart 104 = .ok (.istore 4, 2) := by decide +kernel
theorem dX1_greatestPart_106 : decode cX1_greatestPart 106 = .ok (.iinc 5 1, 3) := by decide +kernel
theorem dX1_greatestPart_109 : decode cX1_greatestPart 109 = .ok (.goto (-76), 3) := by decide +kernel
theorem dX1_greatestPart_112 : decode cX1_greatestPart 112 = .ok (.iload 4, 2) := by decide +kernel
theorem dX1_greatestPart_114 : decode cX1_greatestPart 114 = .ok (.ireturn, 1) := by decide +kernel
theorem dX2_init_0 : decode cX2_init 0 = .ok (.aload_n 0, 1) := by decide +kernel
theorem dX2_init_1 : decode cX2_init 1 = .ok (.invokespecial 1, 3) := by decide +kernel
theorem dX2_init_4 : decode cX2_init 4 = .ok (.aload_n 0, 1) := by decide +kernel
theorem dX2_init_5 : decode cX2_init 5 = .ok (.bipush 36, 2) := by decide +kernel
theorem dX2_init_7 : decode cX2_init 7 = .ok (.newarray .int, 2) := by decide +kernel
theorem dX2_init_9 : decode cX2_init 9 = .ok (.putfield 11, 3) := by decide +kernel
theorem dX2_init_12 : decode cX2_init 12 = .ok (.aload_n 0, 1) := by decide +kernel
theorem dX2_init_13 : decode cX2_init 13 = .ok (.iconst 2, 1) := by decide +kernel
theorem dX2_init_14 : decode cX2_init 14 = .ok (.newarray .int, 2) := by decide +kernel
theorem dX2_init_16 : decode cX2_init 16 = .ok (.putfield 15, 3) := by decide +kernel
theorem dX2_init_19 : decode cX2_init 19 = .ok (.aload_n 0, 1) := by decide +kernel
theorem dX2_init_20 : decode cX2_init 20 = .ok (.iconst 2, 1) := by decide +kernel
theorem dX2_init_21 : decode cX2_init 21 = .ok (.newarray .boolean, 2) := by decide +kernel
theorem dX2_init_23 : decode cX2_init 23 = .ok (.putfield 18, 3) := by decide +kernel
theorem dX2_init_26 : decode cX2_init 26 = .ok (.return_, 1) := by decide +kernel
theorem dX2_hasPlace_0 : decode cX2_hasPlace 0 = .ok (.iload_n 1, 1) := by decide +kernel
theorem dX2_hasPlace_1 : decode cX2_hasPlace 1 = .ok (.ifCond .lt 12, 3) := by decide +kernel
theorem dX2_hasPlace_4 : decode cX2_hasPlace 4 = .ok (.iload_n 1, 1) := by decide +kernel
theorem dX2_hasPlace_5 : decode cX2_hasPlace 5 = .ok (.iconst 2, 1) := by decide +kernel
theorem dX2_hasPlace_6 : decode cX2_hasPlace 6 = .ok (.if_icmp .ge 7, 3) := by decide +kernel
theorem dX2_hasPlace_9 : decode cX2_hasPlace 9 = .ok (.iconst 1, 1) := by decide +kernel
theorem dX2_hasPlace_10 : decode cX2_hasPlace 10 = .ok (.goto 4, 3) := by decide +kernel
theorem dX2_hasPlace_13 : decode cX2_hasPlace 13 = .ok (.iconst 0, 1) := by decide +kernel
theorem dX2_hasPlace_14 : decode cX2_hasPlace 14 = .ok (.ireturn, 1) := by decide +kernel
theorem dX2_isStored_0 : decode cX2_isStored 0 = .ok (.aload_n 0, 1) := by decide +kernel
theorem dX2_isStored_1 : decode cX2_isStored 1 = .ok (.iload_n 1, 1) := by decide +kernel
theorem dX2_isStored_2 : decode cX2_isStored 2 = .ok (.invokevirtual 22, 3) := by decide +kernel
theorem dX2_isStored_5 : decode cX2_isStored 5 = .ok (.ifCond .eq 25, 3) := by decide +kernel
theorem dX2_isStored_8 : decode cX2_isStored 8 = .ok (.iload_n 1, 1) := by decide +kernel
theorem dX2_isStored_9 : decode cX2_isStored 9 = .ok (.aload_n 0, 1) := by decide +kernel
theorem dX2_isStored_10 : decode cX2_isStored 10 = .ok (.getfield 18, 3) := by decide +kernel
theorem dX2_isStored_13 : decode cX2_isStored 13 = .ok (.arraylength, 1) := by decide +kernel
theorem dX2_isStored_14 : decode cX2_isStored 14 = .ok (.if_icmp .ge 16, 3) := by decide +kernel
theorem dX2_isStored_17 : decode cX2_isStored 17 = .ok (.aload_n 0, 1) := by decide +kernel
theorem dX2_isStored_18 : decode cX2_isStored 18 = .ok (.getfield 18, 3) := by decide +kernel
theorem dX2_isStored_21 : decode cX2_isStored 21 = .ok (.iload_n 1, 1) := by decide +kernel
theorem dX2_isStored_22 : decode cX2_isStored 22 = .ok (.baload, 1) := by decide +kernel
theorem dX2_isStored_23 : decode cX2_isStored 23 = .ok (.ifCond .eq 7, 3) := by decide +kernel
theorem dX2_isStored_26 : decode cX2_isStored 26 = .ok (.iconst 1, 1) := by decide +kernel
theorem dX2_isStored_27 : decode cX2_isStored 27 = .ok (.goto 4, 3) := by decide +kernel
theorem dX2_isStored_30 : decode cX2_isStored 30 = .ok (.iconst 0, 1) := by decide +kernel
theorem dX2_isStored_31 : decode cX2_isStored 31 = .ok (.ireturn, 1) := by decide +kernel
theorem dX2_seedOf_0 : decode cX2_seedOf 0 = .ok (.aload_n 0, 1) := by decide +kernel
theorem dX2_seedOf_1 : decode cX2_seedOf 1 = .ok (.iload_n 1, 1) := by decide +kernel
theorem dX2_seedOf_2 : decode cX2_seedOf 2 = .ok (.invokevirtual 22, 3) := by decide +kernel
theorem dX2_seedOf_5 : decode cX2_seedOf 5 = .ok (.ifCond .eq 21, 3) := by decide +kernel
theorem dX2_seedOf_8 : decode cX2_seedOf 8 = .ok (.iload_n 1, 1) := by decide +kernel
theorem dX2_seedOf_9 : decode cX2_seedOf 9 = .ok (.aload_n 0, 1) := by decide +kernel
theorem dX2_seedOf_10 : decode cX2_seedOf 10 = .ok (.getfield 15, 3) := by decide +kernel
theorem dX2_seedOf_13 : decode cX2_seedOf 13 = .ok (.arraylength, 1) := by decide +kernel
theorem dX2_seedOf_14 : decode cX2_seedOf 14 = .ok (.if_icmp .ge 12, 3) := by decide +kernel
theorem dX2_seedOf_17 : decode cX2_seedOf 17 = .ok (.aload_n 0, 1) := by decide +kernel
theorem dX2_seedOf_18 : decode cX2_seedOf 18 = .ok (.getfield 15, 3) := by decide +kernel
theorem dX2_seedOf_21 : decode cX2_seedOf 21 = .ok (.iload_n 1, 1) := by decide +kernel
theorem dX2_seedOf_22 : decode cX2_seedOf 22 = .ok (.iaload, 1) := by decide +kernel
theorem dX2_seedOf_23 : decode cX2_seedOf 23 = .ok (.goto 4, 3) := by decide +kernel
theorem dX2_seedOf_26 : decode cX2_seedOf 26 = .ok (.iconst 0, 1) := by decide +kernel
theorem dX2_seedOf_27 : decode cX2_seedOf 27 = .ok (.ireturn, 1) := by decide +kernel
theorem dX2_forget_0 : decode cX2_forget 0 = .ok (.iconst 0, 1) := by decide +kernel
theorem dX2_forget_1 : decode cX2_forget 1 = .ok (.istore_n 1, 1) := by decide +kernel
theorem dX2_forget_2 : decode cX2_forget 2 = .ok (.iload_n 1, 1) := by decide +kernel
theorem dX2_forget_3 : decode cX2_forget 3 = .ok (.aload_n 0, 1) := by decide +kernel
theorem dX2_forget_4 : decode cX2_forget 4 = .ok (.getfield 18, 3) := by decide +kernel
theorem dX2_forget_7 : decode cX2_forget 7 = .ok (.arraylength, 1) := by decide +kernel
theorem dX2_forget_8 : decode cX2_forget 8 = .ok (.if_icmp .ge 16, 3) := by decide +kernel
theorem dX2_forget_11 : decode cX2_forget 11 = .ok (.aload_n 0, 1) := by decide +kernel
theorem dX2_forget_12 : decode cX2_forget 12 = .ok (.getfield 18, 3) := by decide +kernel
theorem dX2_forget_15 : decode cX2_forget 15 = .ok (.iload_n 1, 1) := by decide +kernel
theorem dX2_forget_16 : decode cX2_forget 16 = .ok (.iconst 0, 1) := by decide +kernel
theorem dX2_forget_17 : decode cX2_forget 17 = .ok (.bastore, 1) := by decide +kernel
theorem dX2_forget_18 : decode cX2_forget 18 = .ok (.iinc 1 1, 3) := by decide +kernel
theorem dX2_forget_21 : decode cX2_forget 21 = .ok (.goto (-19), 3) := by decide +kernel
theorem dX2_forget_24 : decode cX2_forget 24 = .ok (.return_, 1) := by decide +kernel
theorem dX2_store_0 : decode cX2_store 0 = .ok (.aload_n 0, 1) := by decide +kernel
theorem dX2_store_1 : decode cX2_store 1 = .ok (.iload_n 1, 1) := by decide +kernel
theorem dX2_store_2 : decode cX2_store 2 = .ok (.invokevirtual 22, 3) := by decide +kernel
theorem dX2_store_5 : decode cX2_store 5 = .ok (.ifCond .eq 47, 3) := by decide +kernel
theorem dX2_store_8 : decode cX2_store 8 = .ok (.iload_n 1, 1) := by decide +kernel
theorem dX2_store_9 : decode cX2_store 9 = .ok (.aload_n 0, 1) := by decide +kernel
theorem dX2_store_10 : decode cX2_store 10 = .ok (.getfield 15, 3) := by decide +kernel
theorem dX2_store_13 : decode cX2_store 13 = .ok (.arraylength, 1) := by decide +kernel
theorem dX2_store_14 : decode cX2_store 14 = .ok (.if_icmp .ge 38, 3) := by decide +kernel
theorem dX2_store_17 : decode cX2_store 17 = .ok (.iload_n 1, 1) := by decide +kernel
theorem dX2_store_18 : decode cX2_store 18 = .ok (.aload_n 0, 1) := by decide +kernel
theorem dX2_store_19 : decode cX2_store 19 = .ok (.getfield 18, 3) := by decide +kernel
theorem dX2_store_22 : decode cX2_store 22 = .ok (.arraylength, 1) := by decide +kernel
theorem dX2_store_23 : decode cX2_store 23 = .ok (.if_icmp .ge 29, 3) := by decide +kernel
theorem dX2_store_26 : decode cX2_store 26 = .ok (.aload_n 2, 1) := by decide +kernel
theorem dX2_store_27 : decode cX2_store 27 = .ok (.aload_n 0, 1) := by decide +kernel
theorem dX2_store_28 : decode cX2_store 28 = .ok (.getfield 11, 3) := by decide +kernel
theorem dX2_store_31 : decode cX2_store 31 = .ok (.iload_n 1, 1) := by decide +kernel
theorem dX2_store_32 : decode cX2_store 32 = .ok (.bipush 18, 2) := by decide +kernel
theorem dX2_store_34 : decode cX2_store 34 = .ok (.imul, 1) := by decide +kernel
theorem dX2_store_35 : decode cX2_store 35 = .ok (.invokevirtual 26, 3) := by decide +kernel
theorem dX2_store_38 : decode cX2_store 38 = .ok (.aload_n 0, 1) := by decide +kernel
theorem dX2_store_39 : decode cX2_store 39 = .ok (.getfield 15, 3) := by decide +kernel
theorem dX2_store_42 : decode cX2_store 42 = .ok (.iload_n 1, 1) := by decide +kernel
theorem dX2_store_43 : decode cX2_store 43 = .ok (.iload_n 3, 1) := by decide +kernel
theorem dX2_store_44 : decode cX2_store 44 = .ok (.iastore, 1) := by decide +kernel
theorem dX2_store_45 : decode cX2_store 45 = .ok (.aload_n 0, 1) := by decide +kernel
theorem dX2_store_46 : decode cX2_store 46 = .ok (.getfield 18, 3) := by decide +kernel
theorem dX2_store_49 : decode cX2_store 49 = .ok (.iload_n 1, 1) := by decide +kernel
theorem dX2_store_50 : decode cX2_store 50 = .ok (.iconst 1, 1) := by decide +kernel
theorem dX2_store_51 : decode cX2_store 51 = .ok (.bastore, 1) := by decide +kernel
theorem dX2_store_52 : decode cX2_store 52 = .ok (.return_, 1) := by decide +kernel
theorem dX2_restore_0 : decode cX2_restore 0 = .ok (.aload_n 0, 1) := by decide +kernel
theorem dX2_restore_1 : decode cX2_restore 1 = .ok (.iload_n 1, 1) := by decide +kernel
theorem dX2_restore_2 : decode cX2_restore 2 = .ok (.invokevirtual 30, 3) := by decide +kernel
theorem dX2_restore_5 : decode cX2_restore 5 = .ok (.ifCond .eq 15, 3) := by decide +kernel
theorem dX2_restore_8 : decode cX2_restore 8 = .ok (.aload_n 2, 1) := by decide +kernel
theorem dX2_restore_9 : decode cX2_restore 9 = .ok (.aload_n 0, 1) := by decide +kernel
theorem dX2_restore_10 : decode cX2_restore 10 = .ok (.getfield 11, 3) := by decide +kernel
theorem dX2_restore_13 : decode cX2_restore 13 = .ok (.iload_n 1, 1) := by decide +kernel
theorem dX2_restore_14 : decode cX2_restore 14 = .ok (.bipush 18, 2) := by decide +kernel
theorem dX2_restore_16 : decode cX2_restore 16 = .ok (.imul, 1) := by decide +kernel
theorem dX2_restore_17 : decode cX2_restore 17 = .ok (.invokevirtual 33, 3) := by decide +kernel
theorem dX2_restore_20 : decode cX2_restore 20 = .ok (.return_, 1) := by decide +kernel
theorem dX3_init_0 : decode cX3_init 0 = .ok (.aload_n 0, 1) := by decide +kernel
theorem dX3_init_1 : decode cX3_init 1 = .ok (.invokespecial 3, 3) := by decide +kernel
theorem dX3_init_4 : decode cX3_init 4 = .ok (.iconst 0, 1) := by decide +kernel
theorem dX3_init_5 : decode cX3_init 5 = .ok (.iload_n 1, 1) := by decide +kernel
theorem dX3_init_6 : decode cX3_init 6 = .ok (.invokestatic 9, 3) := by decide +kernel
theorem dX3_init_9 : decode cX3_init 9 = .ok (.istore_n 2, 1) := by decide +kernel
theorem dX3_init_10 : decode cX3_init 10 = .ok (.aload_n 0, 1) := by decide +kernel
theorem dX3_init_11 : decode cX3_init 11 = .ok (.iload_n 2, 1) := by decide +kernel
theorem dX3_init_12 : decode cX3_init 12 = .ok (.newarray .int, 2) := by decide +kernel
theorem dX3_init_14 : decode cX3_init 14 = .ok (.putfield 15, 3) := by decide +kernel
theorem dX3_init_17 : decode cX3_init 17 = .ok (.aload_n 0, 1) := by decide +kernel
theorem dX3_init_18 : decode cX3_init 18 = .ok (.iload_n 2, 1) := by decide +kernel
theorem dX3_init_19 : decode cX3_init 19 = .ok (.newarray .int, 2) := by decide +kernel
theorem dX3_init_21 : decode cX3_init 21 = .ok (.putfield 21, 3) := by decide +kernel
theorem dX3_init_24 : decode cX3_init 24 = .ok (.return_, 1) := by decide +kernel
theorem dX3_append_0 : decode cX3_append 0 = .ok (.aload_n 0, 1) := by decide +kernel
theorem dX3_append_1 : decode cX3_append 1 = .ok (.getfield 24, 3) := by decide +kernel
theorem dX3_append_4 : decode cX3_append 4 = .ok (.ifCond .lt 27, 3) := by decide +kernel
theorem dX3_append_7 : decode cX3_append 7 = .ok (.aload_n 0, 1) := by decide +kernel
theorem dX3_append_8 : decode cX3_append 8 = .ok (.getfield 24, 3) := by decide +kernel
theorem dX3_append_11 : decode cX3_append 11 = .ok (.aload_n 0, 1) := by decide +kernel
theorem dX3_append_12 : decode cX3_append 12 = .ok (.getfield 15, 3) := by decide +kernel
theorem dX3_append_15 : decode cX3_append 15 = .ok (.arraylength, 1) := by decide +kernel
theorem dX3_append_16 : decode cX3_append 16 = .ok (.if_icmp .ge 15, 3) := by decide +kernel
theorem dX3_append_19 : decode cX3_append 19 = .ok (.aload_n 0, 1) := by decide +kernel
theorem dX3_append_20 : decode cX3_append 20 = .ok (.getfield 24, 3) := by decide +kernel
theorem dX3_append_23 : decode cX3_append 23 = .ok (.aload_n 0, 1) := by decide +kernel
theorem dX3_append_24 : decode cX3_append 24 = .ok (.getfield 21, 3) := by decide +kernel
theorem dX3_append_27 : decode cX3_append 27 = .ok (.arraylength, 1) := by decide +kernel
theorem dX3_append_28 : decode cX3_append 28 = .ok (.if_icmp .lt 5, 3) := by decide +kernel
theorem dX3_append_31 : decode cX3_append 31 = .ok (.iconst 0, 1) := by decide +kernel
theorem dX3_append_32 : decode cX3_append 32 = .ok (.ireturn, 1) := by decide +kernel
theorem dX3_append_33 : decode cX3_append 33 = .ok (.aload_n 0, 1) := by decide +kernel
theorem dX3_append_34 : decode cX3_append 34 = .ok (.getfield 15, 3) := by decide +kernel
theorem dX3_append_37 : decode cX3_append 37 = .ok (.aload_n 0, 1) := by decide +kernel
theorem dX3_append_38 : decode cX3_append 38 = .ok (.getfield 24, 3) := by decide +kernel
theorem dX3_append_41 : decode cX3_append 41 = .ok (.iload_n 1, 1) := by decide +kernel
theorem dX3_append_42 : decode cX3_append 42 = .ok (.iastore, 1) := by decide +kernel
theorem dX3_append_43 : decode cX3_append 43 = .ok (.aload_n 0, 1) := by decide +kernel
theorem dX3_append_44 : decode cX3_append 44 = .ok (.getfield 21, 3) := by decide +kernel
theorem dX3_append_47 : decode cX3_append 47 = .ok (.aload_n 0, 1) := by decide +kernel
theorem dX3_append_48 : decode cX3_append 48 = .ok (.getfield 24, 3) := by decide +kernel
theorem dX3_append_51 : decode cX3_append 51 = .ok (.iload_n 2, 1) := by decide +kernel
theorem dX3_append_52 : decode cX3_append 52 = .ok (.iastore, 1) := by decide +kernel
theorem dX3_append_53 : decode cX3_append 53 = .ok (.aload_n 0, 1) := by decide +kernel
theorem dX3_append_54 : decode cX3_append 54 = .ok (.dup, 1) := by decide +kernel
theorem dX3_append_55 : decode cX3_append 55 = .ok (.getfield 24, 3) := by decide +kernel
theorem dX3_append_58 : decode cX3_append 58 = .ok (.iconst 1, 1) := by decide +kernel
theorem dX3_append_59 : decode cX3_append 59 = .ok (.iadd, 1) := by decide +kernel
theorem dX3_append_60 : decode cX3_append 60 = .ok (.putfield 24, 3) := by decide +kernel
theorem dX3_append_63 : decode cX3_append 63 = .ok (.iconst 1, 1) := by decide +kernel
theorem dX3_append_64 : decode cX3_append 64 = .ok (.ireturn, 1) := by decide +kernel
theorem dX3_size_0 : decode cX3_size 0 = .ok (.aload_n 0, 1) := by decide +kernel
theorem dX3_size_1 : decode cX3_size 1 = .ok (.getfield 24, 3) := by decide +kernel
theorem dX3_size_4 : decode cX3_size 4 = .ok (.ireturn, 1) := by decide +kernel
theorem dX3_firstOf_0 : decode cX3_firstOf 0 = .ok (.iload_n 1, 1) := by decide +kernel
theorem dX3_firstOf_1 : decode cX3_firstOf 1 = .ok (.ifCond .lt 29, 3) := by decide +kernel
theorem dX3_firstOf_4 : decode cX3_firstOf 4 = .ok (.iload_n 1, 1) := by decide +kernel
theorem dX3_firstOf_5 : decode cX3_firstOf 5 = .ok (.aload_n 0, 1) := by decide +kernel
theorem dX3_firstOf_6 : decode cX3_firstOf 6 = .ok (.getfield 24, 3) := by decide +kernel
theorem dX3_firstOf_9 : decode cX3_firstOf 9 = .ok (.if_icmp .ge 21, 3) := by decide +kernel
theorem dX3_firstOf_12 : decode cX3_firstOf 12 = .ok (.iload_n 1, 1) := by decide +kernel
theorem dX3_firstOf_13 : decode cX3_firstOf 13 = .ok (.aload_n 0, 1) := by decide +kernel
theorem dX3_firstOf_14 : decode cX3_firstOf 14 = .ok (.getfield 15, 3) := by decide +kernel
theorem dX3_firstOf_17 : decode cX3_firstOf 17 = .ok (.arraylength, 1) := by decide +kernel
theorem dX3_firstOf_18 : decode cX3_firstOf 18 = .ok (.if_icmp .ge 12, 3) := by decide +kernel
theorem dX3_firstOf_21 : decode cX3_firstOf 21 = .ok (.aload_n 0, 1) := by decide +kernel
theorem dX3_firstOf_22 : decode cX3_firstOf 22 = .ok (.getfield 15, 3) := by decide +kernel
theorem dX3_firstOf_25 : decode cX3_firstOf 25 = .ok (.iload_n 1, 1) := by decide +kernel
theorem dX3_firstOf_26 : decode cX3_firstOf 26 = .ok (.iaload, 1) := by decide +kernel
theorem dX3_firstOf_27 : decode cX3_firstOf 27 = .ok (.goto 4, 3) := by decide +kernel
theorem dX3_firstOf_30 : decode cX3_firstOf 30 = .ok (.iconst (-1), 1) := by decide +kernel
theorem dX3_firstOf_31 : decode cX3_firstOf 31 = .ok (.ireturn, 1) := by decide +kernel
theorem dX3_secondOf_0 : decode cX3_secondOf 0 = .ok (.iload_n 1, 1) := by decide +kernel
theorem dX3_secondOf_1 : decode cX3_secondOf 1 = .ok (.ifCond .lt 29, 3) := by decide +kernel
theorem dX3_secondOf_4 : decode cX3_secondOf 4 = .ok (.iload_n 1, 1) := by decide +kernel
theorem dX3_secondOf_5 : decode cX3_secondOf 5 = .ok (.aload_n 0, 1) := by decide +kernel
theorem dX3_secondOf_6 : decode cX3_secondOf 6 = .ok (.getfield 24, 3) := by decide +kernel
theorem dX3_secondOf_9 : decode cX3_secondOf 9 = .ok (.if_icmp .ge 21, 3) := by decide +kernel
theorem dX3_secondOf_12 : decode cX3_secondOf 12 = .ok (.iload_n 1, 1) := by decide +kernel
theorem dX3_secondOf_13 : decode cX3_secondOf 13 = .ok (.aload_n 0, 1) := by decide +kernel
theorem dX3_secondOf_14 : decode cX3_secondOf 14 = .ok (.getfield 21, 3) := by decide +kernel
theorem dX3_secondOf_17 : decode cX3_secondOf 17 = .ok (.arraylength, 1) := by decide +kernel
theorem dX3_secondOf_18 : decode cX3_secondOf 18 = .ok (.if_icmp .ge 12, 3) := by decide +kernel
theorem dX3_secondOf_21 : decode cX3_secondOf 21 = .ok (.aload_n 0, 1) := by decide +kernel
theorem dX3_secondOf_22 : decode cX3_secondOf 22 = .ok (.getfield 21, 3) := by decide +kernel
theorem dX3_secondOf_25 : decode cX3_secondOf 25 = .ok (.iload_n 1, 1) := by decide +kernel
theorem dX3_secondOf_26 : decode cX3_secondOf 26 = .ok (.iaload, 1) := by decide +kernel
theorem dX3_secondOf_27 : decode cX3_secondOf 27 = .ok (.goto 4, 3) := by decide +kernel
theorem dX3_secondOf_30 : decode cX3_secondOf 30 = .ok (.iconst (-1), 1) := by decide +kernel
theorem dX3_secondOf_31 : decode cX3_secondOf 31 = .ok (.ireturn, 1) := by decide +kernel
theorem dX3_clear_0 : decode cX3_clear 0 = .ok (.aload_n 0, 1) := by decide +kernel
theorem dX3_clear_1 : decode cX3_clear 1 = .ok (.iconst 0, 1) := by decide +kernel
theorem dX3_clear_2 : decode cX3_clear 2 = .ok (.putfield 24, 3) := by decide +kernel
theorem dX3_clear_5 : decode cX3_clear 5 = .ok (.return_, 1) := by decide +kernel
theorem dX4_init_0 : decode cX4_init 0 = .ok (.aload_n 0, 1) := by decide +kernel
theorem dX4_init_1 : decode cX4_init 1 = .ok (.invokespecial 1, 3) := by decide +kernel
theorem dX4_init_4 : decode cX4_init 4 = .ok (.aload_n 0, 1) := by decide +kernel
theorem dX4_init_5 : decode cX4_init 5 = .ok (.sipush 540, 3) := by decide +kernel
theorem dX4_init_8 : decode cX4_init 8 = .ok (.newarray .int, 2) := by decide +kernel
theorem dX4_init_10 : decode cX4_init 10 = .ok (.putfield 11, 3) := by decide +kernel
theorem dX4_init_13 : decode cX4_init 13 = .ok (.return_, 1) := by decide +kernel
theorem dX4_size_0 : decode cX4_size 0 = .ok (.aload_n 0, 1) := by decide +kernel
theorem dX4_size_1 : decode cX4_size 1 = .ok (.getfield 15, 3) := by decide +kernel
theorem dX4_size_4 : decode cX4_size 4 = .ok (.ireturn, 1) := by decide +kernel
theorem dX4_forget_0 : decode cX4_forget 0 = .ok (.aload_n 0, 1) := by decide +kernel
theorem dX4_forget_1 : decode cX4_forget 1 = .ok (.iconst 0, 1) := by decide +kernel
theorem dX4_forget_2 : decode cX4_forget 2 = .ok (.putfield 19, 3) := by decide +kernel
theorem dX4_forget_5 : decode cX4_forget 5 = .ok (.aload_n 0, 1) := by decide +kernel
theorem dX4_forget_6 : decode cX4_forget 6 = .ok (.iconst 0, 1) := by decide +kernel
theorem dX4_forget_7 : decode cX4_forget 7 = .ok (.putfield 15, 3) := by decide +kernel
theorem dX4_forget_10 : decode cX4_forget 10 = .ok (.return_, 1) := by decide +kernel
theorem dX4_remember_0 : decode cX4_remember 0 = .ok (.aload_n 1, 1) := by decide +kernel
theorem dX4_remember_1 : decode cX4_remember 1 = .ok (.aload_n 0, 1) := by decide +kernel
theorem dX4_remember_2 : decode cX4_remember 2 = .ok (.getfield 11, 3) := by decide +kernel
theorem dX4_remember_5 : decode cX4_remember 5 = .ok (.aload_n 0, 1) := by decide +kernel
theorem dX4_remember_6 : decode cX4_remember 6 = .ok (.aload_n 0, 1) := by decide +kernel
theorem dX4_remember_7 : decode cX4_remember 7 = .ok (.getfield 15, 3) := by decide +kernel
theorem dX4_remember_10 : decode cX4_remember 10 = .ok (.invokevirtual 22, 3) := by decide +kernel
theorem dX4_remember_13 : decode cX4_remember 13 = .ok (.invokevirtual 26, 3) := by decide +kernel
theorem dX4_remember_16 : decode cX4_remember 16 = .ok (.aload_n 0, 1) := by decide +kernel
theorem dX4_remember_17 : decode cX4_remember 17 = .ok (.getfield 15, 3) := by decide +kernel
theorem dX4_remember_20 : decode cX4_remember 20 = .ok (.bipush 30, 2) := by decide +kernel
theorem dX4_remember_22 : decode cX4_remember 22 = .ok (.if_icmp .ge 16, 3) := by decide +kernel
theorem dX4_remember_25 : decode cX4_remember 25 = .ok (.aload_n 0, 1) := by decide +kernel
theorem dX4_remember_26 : decode cX4_remember 26 = .ok (.dup, 1) := by decide +kernel
theorem dX4_remember_27 : decode cX4_remember 27 = .ok (.getfield 15, 3) := by decide +kernel
theorem dX4_remember_30 : decode cX4_remember 30 = .ok (.iconst 1, 1) := by decide +kernel
theorem dX4_remember_31 : decode cX4_remember 31 = .ok (.iadd, 1) := by decide +kernel
theorem dX4_remember_32 : decode cX4_remember 32 = .ok (.putfield 15, 3) := by decide +kernel
theorem dX4_remember_35 : decode cX4_remember 35 = .ok (.goto 16, 3) := by decide +kernel
theorem dX4_remember_38 : decode cX4_remember 38 = .ok (.aload_n 0, 1) := by decide +kernel
theorem dX4_remember_39 : decode cX4_remember 39 = .ok (.aload_n 0, 1) := by decide +kernel
theorem dX4_remember_40 : decode cX4_remember 40 = .ok (.getfield 19, 3) := by decide +kernel
theorem dX4_remember_43 : decode cX4_remember 43 = .ok (.iconst 1, 1) := by decide +kernel
theorem dX4_remember_44 : decode cX4_remember 44 = .ok (.iadd, 1) := by decide +kernel
theorem dX4_remember_45 : decode cX4_remember 45 = .ok (.bipush 30, 2) := by decide +kernel
theorem dX4_remember_47 : decode cX4_remember 47 = .ok (.irem, 1) := by decide +kernel
theorem dX4_remember_48 : decode cX4_remember 48 = .ok (.putfield 19, 3) := by decide +kernel
theorem dX4_remember_51 : decode cX4_remember 51 = .ok (.return_, 1) := by decide +kernel
theorem dX4_recall_0 : decode cX4_recall 0 = .ok (.iload_n 1, 1) := by decide +kernel
theorem dX4_recall_1 : decode cX4_recall 1 = .ok (.iconst 1, 1) := by decide +kernel
theorem dX4_recall_2 : decode cX4_recall 2 = .ok (.if_icmp .lt 37, 3) := by decide +kernel
theorem dX4_recall_5 : decode cX4_recall 5 = .ok (.iload_n 1, 1) := by decide +kernel
theorem dX4_recall_6 : decode cX4_recall 6 = .ok (.aload_n 0, 1) := by decide +kernel
theorem dX4_recall_7 : decode cX4_recall 7 = .ok (.getfield 15, 3) := by decide +kernel
theorem dX4_recall_10 : decode cX4_recall 10 = .ok (.if_icmp .gt 29, 3) := by decide +kernel
theorem dX4_recall_13 : decode cX4_recall 13 = .ok (.aload_n 0, 1) := by decide +kernel
theorem dX4_recall_14 : decode cX4_recall 14 = .ok (.dup, 1) := by decide +kernel
theorem dX4_recall_15 : decode cX4_recall 15 = .ok (.getfield 15, 3) := by decide +kernel
theorem dX4_recall_18 : decode cX4_recall 18 = .ok (.iload_n 1, 1) := by decide +kernel
theorem dX4_recall_19 : decode cX4_recall 19 = .ok (.isub, 1) := by decide +kernel
theorem dX4_recall_20 : decode cX4_recall 20 = .ok (.putfield 15, 3) := by decide +kernel
theorem dX4_recall_23 : decode cX4_recall 23 = .ok (.aload_n 2, 1) := by decide +kernel
theorem dX4_recall_24 : decode cX4_recall 24 = .ok (.aload_n 0, 1) := by decide +kernel
theorem dX4_recall_25 : decode cX4_recall 25 = .ok (.getfield 11, 3) := by decide +kernel
theorem dX4_recall_28 : decode cX4_recall 28 = .ok (.aload_n 0, 1) := by decide +kernel
theorem dX4_recall_29 : decode cX4_recall 29 = .ok (.aload_n 0, 1) := by decide +kernel
theorem dX4_recall_30 : decode cX4_recall 30 = .ok (.getfield 15, 3) := by decide +kernel
theorem dX4_recall_33 : decode cX4_recall 33 = .ok (.invokevirtual 22, 3) := by decide +kernel
theorem dX4_recall_36 : decode cX4_recall 36 = .ok (.invokevirtual 30, 3) := by decide +kernel
theorem dX4_recall_39 : decode cX4_recall 39 = .ok (.return_, 1) := by decide +kernel
theorem dX4_startOf_0 : decode cX4_startOf 0 = .ok (.aload_n 0, 1) := by decide +kernel
theorem dX4_startOf_1 : decode cX4_startOf 1 = .ok (.getfield 19, 3) := by decide +kernel
theorem dX4_startOf_4 : decode cX4_startOf 4 = .ok (.iload_n 1, 1) := by decide +kernel
theorem dX4_startOf_5 : decode cX4_startOf 5 = .ok (.iadd, 1) := by decide +kernel
theorem dX4_startOf_6 : decode cX4_startOf 6 = .ok (.bipush 30, 2) := by decide +kernel
theorem dX4_startOf_8 : decode cX4_startOf 8 = .ok (.irem, 1) := by decide +kernel
theorem dX4_startOf_9 : decode cX4_startOf 9 = .ok (.bipush 18, 2) := by decide +kernel
theorem dX4_startOf_11 : decode cX4_startOf 11 = .ok (.imul, 1) := by decide +kernel
theorem dX4_startOf_12 : decode cX4_startOf 12 = .ok (.ireturn, 1) := by decide +kernel
theorem dX5_init_0 : decode cX5_init 0 = .ok (.aload_n 0, 1) := by decide +kernel
theorem dX5_init_1 : decode cX5_init 1 = .ok (.invokespecial 3, 3) := by decide +kernel
theorem dX5_init_4 : decode cX5_init 4 = .ok (.aload_n 0, 1) := by decide +kernel
theorem dX5_init_5 : decode cX5_init 5 = .ok (.bipush 8, 2) := by decide +kernel
theorem dX5_init_7 : decode cX5_init 7 = .ok (.newarray .int, 2) := by decide +kernel
theorem dX5_init_9 : decode cX5_init 9 = .ok (.putfield 11, 3) := by decide +kernel
theorem dX5_init_12 : decode cX5_init 12 = .ok (.aload_n 0, 1) := by decide +kernel
theorem dX5_init_13 : decode cX5_init 13 = .ok (.iconst 4, 1) := by decide +kernel
theorem dX5_init_14 : decode cX5_init 14 = .ok (.newarray .int, 2) := by decide +kernel
theorem dX5_init_16 : decode cX5_init 16 = .ok (.putfield 15, 3) := by decide +kernel
theorem dX5_init_19 : decode cX5_init 19 = .ok (.aload_n 0, 1) := by decide +kernel
theorem dX5_init_20 : decode cX5_init 20 = .ok (.iconst 4, 1) := by decide +kernel
theorem dX5_init_21 : decode cX5_init 21 = .ok (.newarray .int, 2) := by decide +kernel
theorem dX5_init_23 : decode cX5_init 23 = .ok (.putfield 18, 3) := by decide +kernel
theorem dX5_init_26 : decode cX5_init 26 = .ok (.return_, 1) := by decide +kernel
theorem dX5_clear_0 : decode cX5_clear 0 = .ok (.aload_n 0, 1) := by decide +kernel
theorem dX5_clear_1 : decode cX5_clear 1 = .ok (.iconst 0, 1) := by decide +kernel
theorem dX5_clear_2 : decode cX5_clear 2 = .ok (.putfield 21, 3) := by decide +kernel
theorem dX5_clear_5 : decode cX5_clear 5 = .ok (.aload_n 0, 1) := by decide +kernel
theorem dX5_clear_6 : decode cX5_clear 6 = .ok (.iconst 0, 1) := by decide +kernel
theorem dX5_clear_7 : decode cX5_clear 7 = .ok (.putfield 25, 3) := by decide +kernel
theorem dX5_clear_10 : decode cX5_clear 10 = .ok (.aload_n 0, 1) := by decide +kernel
theorem dX5_clear_11 : decode cX5_clear 11 = .ok (.iconst 0, 1) := by decide +kernel
theorem dX5_clear_12 : decode cX5_clear 12 = .ok (.putfield 28, 3) := by decide +kernel
theorem dX5_clear_15 : decode cX5_clear 15 = .ok (.aload_n 0, 1) := by decide +kernel
theorem dX5_clear_16 : decode cX5_clear 16 = .ok (.iconst 0, 1) := by decide +kernel
theorem dX5_clear_17 : decode cX5_clear 17 = .ok (.putfield 31, 3) := by decide +kernel
theorem dX5_clear_20 : decode cX5_clear 20 = .ok (.aload_n 0, 1) := by decide +kernel
theorem dX5_clear_21 : decode cX5_clear 21 = .ok (.iconst 0, 1) := by decide +kernel
theorem dX5_clear_22 : decode cX5_clear 22 = .ok (.putfield 34, 3) := by decide +kernel
theorem dX5_clear_25 : decode cX5_clear 25 = .ok (.aload_n 0, 1) := by decide +kernel
theorem dX5_clear_26 : decode cX5_clear 26 = .ok (.iconst 0, 1) := by decide +kernel
theorem dX5_clear_27 : decode cX5_clear 27 = .ok (.putfield 37, 3) := by decide +kernel
theorem dX5_clear_30 : decode cX5_clear 30 = .ok (.return_, 1) := by decide +kernel
theorem dX5_tellNight_0 : decode cX5_tellNight 0 = .ok (.aload_n 0, 1) := by decide +kernel
theorem dX5_tellNight_1 : decode cX5_tellNight 1 = .ok (.iload_n 1, 1) := by decide +kernel
theorem dX5_tellNight_2 : decode cX5_tellNight 2 = .ok (.putfield 21, 3) := by decide +kernel
theorem dX5_tellNight_5 : decode cX5_tellNight 5 = .ok (.aload_n 0, 1) := by decide +kernel
theorem dX5_tellNight_6 : decode cX5_tellNight 6 = .ok (.iload_n 2, 1) := by decide +kernel
theorem dX5_tellNight_7 : decode cX5_tellNight 7 = .ok (.putfield 25, 3) := by decide +kernel
theorem dX5_tellNight_10 : decode cX5_tellNight 10 = .ok (.aload_n 0, 1) := by decide +kernel
theorem dX5_tellNight_11 : decode cX5_tellNight 11 = .ok (.iload_n 3, 1) := by decide +kernel
theorem dX5_tellNight_12 : decode cX5_tellNight 12 = .ok (.putfield 28, 3) := by decide +kernel
theorem dX5_tellNight_15 : decode cX5_tellNight 15 = .ok (.return_, 1) := by decide +kernel
theorem dX5_addGap_0 : decode cX5_addGap 0 = .ok (.aload_n 0, 1) := by decide +kernel
theorem dX5_addGap_1 : decode cX5_addGap 1 = .ok (.getfield 31, 3) := by decide +kernel
theorem dX5_addGap_4 : decode cX5_addGap 4 = .ok (.ifCond .lt 35, 3) := by decide +kernel
theorem dX5_addGap_7 : decode cX5_addGap 7 = .ok (.aload_n 0, 1) := by decide +kernel
theorem dX5_addGap_8 : decode cX5_addGap 8 = .ok (.getfield 31, 3) := by decide +kernel
theorem dX5_addGap_11 : decode cX5_addGap 11 = .ok (.aload_n 0, 1) := by decide +kernel
theorem dX5_addGap_12 : decode cX5_addGap 12 = .ok (.getfield 11, 3) := by decide +kernel
theorem dX5_addGap_15 : decode cX5_addGap 15 = .ok (.arraylength, 1) := by decide +kernel
theorem dX5_addGap_16 : decode cX5_addGap 16 = .ok (.if_icmp .ge 23, 3) := by decide +kernel
theorem dX5_addGap_19 : decode cX5_addGap 19 = .ok (.aload_n 0, 1) := by decide +kernel
theorem dX5_addGap_20 : decode cX5_addGap 20 = .ok (.getfield 11, 3) := by decide +kernel
theorem dX5_addGap_23 : decode cX5_addGap 23 = .ok (.aload_n 0, 1) := by decide +kernel
theorem dX5_addGap_24 : decode cX5_addGap 24 = .ok (.getfield 31, 3) := by decide +kernel
theorem dX5_addGap_27 : decode cX5_addGap 27 = .ok (.iload_n 1, 1) := by decide +kernel
theorem dX5_addGap_28 : decode cX5_addGap 28 = .ok (.iastore, 1) := by decide +kernel
theorem dX5_addGap_29 : decode cX5_addGap 29 = .ok (.aload_n 0, 1) := by decide +kernel
theorem dX5_addGap_30 : decode cX5_addGap 30 = .ok (.dup, 1) := by decide +kernel
theorem dX5_addGap_31 : decode cX5_addGap 31 = .ok (.getfield 31, 3) := by decide +kernel
theorem dX5_addGap_34 : decode cX5_addGap 34 = .ok (.iconst 1, 1) := by decide +kernel
theorem dX5_addGap_35 : decode cX5_addGap 35 = .ok (.iadd, 1) := by decide +kernel
theorem dX5_addGap_36 : decode cX5_addGap 36 = .ok (.putfield 31, 3) := by decide +kernel
theorem dX5_addGap_39 : decode cX5_addGap 39 = .ok (.return_, 1) := by decide +kernel
theorem dX5_addWalker_0 : decode cX5_addWalker 0 = .ok (.aload_n 0, 1) := by decide +kernel
theorem dX5_addWalker_1 : decode cX5_addWalker 1 = .ok (.getfield 34, 3) := by decide +kernel
theorem dX5_addWalker_4 : decode cX5_addWalker 4 = .ok (.ifCond .lt 57, 3) := by decide +kernel
theorem dX5_addWalker_7 : decode cX5_addWalker 7 = .ok (.aload_n 0, 1) := by decide +kernel
theorem dX5_addWalker_8 : decode cX5_addWalker 8 = .ok (.getfield 34, 3) := by decide +kernel
theorem dX5_addWalker_11 : decode cX5_addWalker 11 = .ok (.aload_n 0, 1) := by decide +kernel
theorem dX5_addWalker_12 : decode cX5_addWalker 12 = .ok (.getfield 15, 3) := by decide +kernel
theorem dX5_addWalker_15 : decode cX5_addWalker 15 = .ok (.arraylength, 1) := by decide +kernel
theorem dX5_addWalker_16 : decode cX5_addWalker 16 = .ok (.if_icmp .ge 45, 3) := by decide +kernel
theorem dX5_addWalker_19 : decode cX5_addWalker 19 = .ok (.aload_n 0, 1) := by decide +kernel
theorem dX5_addWalker_20 : decode cX5_addWalker 20 = .ok (.getfield 34, 3) := by decide +kernel
theorem dX5_addWalker_23 : decode cX5_addWalker 23 = .ok (.aload_n 0, 1) := by decide +kernel
theorem dX5_addWalker_24 : decode cX5_addWalker 24 = .ok (.getfield 18, 3) := by decide +kernel
theorem dX5_addWalker_27 : decode cX5_addWalker 27 = .ok (.arraylength, 1) := by decide +kernel
theorem dX5_addWalker_28 : decode cX5_addWalker 28 = .ok (.if_icmp .ge 33, 3) := by decide +kernel
theorem dX5_addWalker_31 : decode cX5_addWalker 31 = .ok (.aload_n 0, 1) := by decide +kernel
theorem dX5_addWalker_32 : decode cX5_addWalker 32 = .ok (.getfield 15, 3) := by decide +kernel
theorem dX5_addWalker_35 : decode cX5_addWalker 35 = .ok (.aload_n 0, 1) := by decide +kernel
theorem dX5_addWalker_36 : decode cX5_addWalker 36 = .ok (.getfield 34, 3) := by decide +kernel
theorem dX5_addWalker_39 : decode cX5_addWalker 39 = .ok (.iload_n 1, 1) := by decide +kernel
theorem dX5_addWalker_40 : decode cX5_addWalker 40 = .ok (.iastore, 1) := by decide +kernel
theorem dX5_addWalker_41 : decode cX5_addWalker 41 = .ok (.aload_n 0, 1) := by decide +kernel
theorem dX5_addWalker_42 : decode cX5_addWalker 42 = .ok (.getfield 18, 3) := by decide +kernel
theorem dX5_addWalker_45 : decode cX5_addWalker 45 = .ok (.aload_n 0, 1) := by decide +kernel
theorem dX5_addWalker_46 : decode cX5_addWalker 46 = .ok (.getfield 34, 3) := by decide +kernel
theorem dX5_addWalker_49 : decode cX5_addWalker 49 = .ok (.iload_n 2, 1) := by decide +kernel
theorem dX5_addWalker_50 : decode cX5_addWalker 50 = .ok (.iastore, 1) := by decide +kernel
theorem dX5_addWalker_51 : decode cX5_addWalker 51 = .ok (.aload_n 0, 1) := by decide +kernel
theorem dX5_addWalker_52 : decode cX5_addWalker 52 = .ok (.dup, 1) := by decide +kernel
theorem dX5_addWalker_53 : decode cX5_addWalker 53 = .ok (.getfield 34, 3) := by decide +kernel
theorem dX5_addWalker_56 : decode cX5_addWalker 56 = .ok (.iconst 1, 1) := by decide +kernel
theorem dX5_addWalker_57 : decode cX5_addWalker 57 = .ok (.iadd, 1) := by decide +kernel
theorem dX5_addWalker_58 : decode cX5_addWalker 58 = .ok (.putfield 34, 3) := by decide +kernel
theorem dX5_addWalker_61 : decode cX5_addWalker 61 = .ok (.return_, 1) := by decide +kernel
theorem dX5_addRope_0 : decode cX5_addRope 0 = .ok (.aload_n 0, 1) := by decide +kernel
theorem dX5_addRope_1 : decode cX5_addRope 1 = .ok (.dup, 1) := by decide +kernel
theorem dX5_addRope_2 : decode cX5_addRope 2 = .ok (.getfield 37, 3) := by decide +kernel
theorem dX5_addRope_5 : decode cX5_addRope 5 = .ok (.iconst 1, 1) := by decide +kernel
theorem dX5_addRope_6 : decode cX5_addRope 6 = .ok (.iload_n 1, 1) := by decide +kernel
theorem dX5_addRope_7 : decode cX5_addRope 7 = .ok (.ishl, 1) := by decide +kernel
theorem dX5_addRope_8 : decode cX5_addRope 8 = .ok (.ior, 1) := by decide +kernel
theorem dX5_addRope_9 : decode cX5_addRope 9 = .ok (.putfield 37, 3) := by decide +kernel
theorem dX5_addRope_12 : decode cX5_addRope 12 = .ok (.return_, 1) := by decide +kernel
theorem dX5_isTold_0 : decode cX5_isTold 0 = .ok (.aload_n 0, 1) := by decide +kernel
theorem dX5_isTold_1 : decode cX5_isTold 1 = .ok (.getfield 21, 3) := by decide +kernel
theorem dX5_isTold_4 : decode cX5_isTold 4 = .ok (.ifCond .le 7, 3) := by decide +kernel
theorem dX5_isTold_7 : decode cX5_isTold 7 = .ok (.iconst 1, 1) := by decide +kernel
theorem dX5_isTold_8 : decode cX5_isTold 8 = .ok (.goto 4, 3) := by decide +kernel
theorem dX5_isTold_11 : decode cX5_isTold 11 = .ok (.iconst 0, 1) := by decide +kernel
theorem dX5_isTold_12 : decode cX5_isTold 12 = .ok (.ireturn, 1) := by decide +kernel
theorem dX5_rise_0 : decode cX5_rise 0 = .ok (.aload_n 0, 1) := by decide +kernel
theorem dX5_rise_1 : decode cX5_rise 1 = .ok (.getfield 21, 3) := by decide +kernel
theorem dX5_rise_4 : decode cX5_rise 4 = .ok (.ireturn, 1) := by decide +kernel
theorem dX5_growth_0 : decode cX5_growth 0 = .ok (.aload_n 0, 1) := by decide +kernel
theorem dX5_growth_1 : decode cX5_growth 1 = .ok (.getfield 25, 3) := by decide +kernel
theorem dX5_growth_4 : decode cX5_growth 4 = .ok (.ireturn, 1) := by decide +kernel
theorem dX5_width_0 : decode cX5_width 0 = .ok (.aload_n 0, 1) := by decide +kernel
theorem dX5_width_1 : decode cX5_width 1 = .ok (.getfield 28, 3) := by decide +kernel
theorem dX5_width_4 : decode cX5_width 4 = .ok (.ireturn, 1) := by decide +kernel
theorem dX5_gapCount_0 : decode cX5_gapCount 0 = .ok (.aload_n 0, 1) := by decide +kernel
theorem dX5_gapCount_1 : decode cX5_gapCount 1 = .ok (.getfield 31, 3) := by decide +kernel
theorem dX5_gapCount_4 : decode cX5_gapCount 4 = .ok (.ireturn, 1) := by decide +kernel
theorem dX5_houseCount_0 : decode cX5_houseCount 0 = .ok (.aload_n 0, 1) := by decide +kernel
theorem dX5_houseCount_1 : decode cX5_houseCount 1 = .ok (.getfield 31, 3) := by decide +kernel
theorem dX5_houseCount_4 : decode cX5_houseCount 4 = .ok (.ifCond .ne 7, 3) := by decide +kernel
theorem dX5_houseCount_7 : decode cX5_houseCount 7 = .ok (.iconst 0, 1) := by decide +kernel
theorem dX5_houseCount_8 : decode cX5_houseCount 8 = .ok (.goto 9, 3) := by decide +kernel
theorem dX5_houseCount_11 : decode cX5_houseCount 11 = .ok (.aload_n 0, 1) := by decide +kernel
theorem dX5_houseCount_12 : decode cX5_houseCount 12 = .ok (.getfield 31, 3) := by decide +kernel
theorem dX5_houseCount_15 : decode cX5_houseCount 15 = .ok (.iconst 1, 1) := by decide +kernel
theorem dX5_houseCount_16 : decode cX5_houseCount 16 = .ok (.iadd, 1) := by decide +kernel
theorem dX5_houseCount_17 : decode cX5_houseCount 17 = .ok (.ireturn, 1) := by decide +kernel
theorem dX5_walkerCount_0 : decode cX5_walkerCount 0 = .ok (.aload_n 0, 1) := by decide +kernel
theorem dX5_walkerCount_1 : decode cX5_walkerCount 1 = .ok (.getfield 34, 3) := by decide +kernel
theorem dX5_walkerCount_4 : decode cX5_walkerCount 4 = .ok (.ireturn, 1) := by decide +kernel
theorem dX5_ropesAtFirst_0 : decode cX5_ropesAtFirst 0 = .ok (.aload_n 0, 1) := by decide +kernel
theorem dX5_ropesAtFirst_1 : decode cX5_ropesAtFirst 1 = .ok (.getfield 37, 3) := by decide +kernel
theorem dX5_ropesAtFirst_4 : decode cX5_ropesAtFirst 4 = .ok (.ireturn, 1) := by decide +kernel
theorem dX5_nightLength_0 : decode cX5_nightLength 0 = .ok (.iconst 2, 1) := by decide +kernel
theorem dX5_nightLength_1 : decode cX5_nightLength 1 = .ok (.aload_n 0, 1) := by decide +kernel
theorem dX5_nightLength_2 : decode cX5_nightLength 2 = .ok (.getfield 21, 3) := by decide +kernel
theorem dX5_nightLength_5 : decode cX5_nightLength 5 = .ok (.imul, 1) := by decide +kernel
theorem dX5_nightLength_6 : decode cX5_nightLength 6 = .ok (.ireturn, 1) := by decide +kernel
theorem dX5_hasGap_0 : decode cX5_hasGap 0 = .ok (.iload_n 1, 1) := by decide +kernel
theorem dX5_hasGap_1 : decode cX5_hasGap 1 = .ok (.ifCond .lt 15, 3) := by decide +kernel
theorem dX5_hasGap_4 : decode cX5_hasGap 4 = .ok (.iload_n 1, 1) := by decide +kernel
theorem dX5_hasGap_5 : decode cX5_hasGap 5 = .ok (.aload_n 0, 1) := by decide +kernel
theorem dX5_hasGap_6 : decode cX5_hasGap 6 = .ok (.getfield 31, 3) := by decide +kernel
theorem dX5_hasGap_9 : decode cX5_hasGap 9 = .ok (.if_icmp .ge 7, 3) := by decide +kernel
theorem dX5_hasGap_12 : decode cX5_hasGap 12 = .ok (.iconst 1, 1) := by decide +kernel
theorem dX5_hasGap_13 : decode cX5_hasGap 13 = .ok (.goto 4, 3) := by decide +kernel
theorem dX5_hasGap_16 : decode cX5_hasGap 16 = .ok (.iconst 0, 1) := by decide +kernel
theorem dX5_hasGap_17 : decode cX5_hasGap 17 = .ok (.ireturn, 1) := by decide +kernel
theorem dX5_hasHouse_0 : decode cX5_hasHouse 0 = .ok (.iload_n 1, 1) := by decide +kernel
theorem dX5_hasHouse_1 : decode cX5_hasHouse 1 = .ok (.ifCond .lt 15, 3) := by decide +kernel
theorem dX5_hasHouse_4 : decode cX5_hasHouse 4 = .ok (.iload_n 1, 1) := by decide +kernel
theorem dX5_hasHouse_5 : decode cX5_hasHouse 5 = .ok (.aload_n 0, 1) := by decide +kernel
theorem dX5_hasHouse_6 : decode cX5_hasHouse 6 = .ok (.invokevirtual 40, 3) := by decide +kernel
theorem dX5_hasHouse_9 : decode cX5_hasHouse 9 = .ok (.if_icmp .ge 7, 3) := by decide +kernel
theorem dX5_hasHouse_12 : decode cX5_hasHouse 12 = .ok (.iconst 1, 1) := by decide +kernel
theorem dX5_hasHouse_13 : decode cX5_hasHouse 13 = .ok (.goto 4, 3) := by decide +kernel
theorem dX5_hasHouse_16 : decode cX5_hasHouse 16 = .ok (.iconst 0, 1) := by decide +kernel
theorem dX5_hasHouse_17 : decode cX5_hasHouse 17 = .ok (.ireturn, 1) := by decide +kernel
theorem dX5_hasWalker_0 : decode cX5_hasWalker 0 = .ok (.iload_n 1, 1) := by decide +kernel
theorem dX5_hasWalker_1 : decode cX5_hasWalker 1 = .ok (.ifCond .lt 15, 3) := by decide +kernel
theorem dX5_hasWalker_4 : decode cX5_hasWalker 4 = .ok (.iload_n 1, 1) := by decide +kernel
theorem dX5_hasWalker_5 : decode cX5_hasWalker 5 = .ok (.aload_n 0, 1) := by decide +kernel
theorem dX5_hasWalker_6 : decode cX5_hasWalker 6 = .ok (.getfield 34, 3) := by decide +kernel
theorem dX5_hasWalker_9 : decode cX5_hasWalker 9 = .ok (.if_icmp .ge 7, 3) := by decide +kernel
theorem dX5_hasWalker_12 : decode cX5_hasWalker 12 = .ok (.iconst 1, 1) := by decide +kernel
theorem dX5_hasWalker_13 : decode cX5_hasWalker 13 = .ok (.goto 4, 3) := by decide +kernel
theorem dX5_hasWalker_16 : decode cX5_hasWalker 16 = .ok (.iconst 0, 1) := by decide +kernel
theorem dX5_hasWalker_17 : decode cX5_hasWalker 17 = .ok (.ireturn, 1) := by decide +kernel
theorem dX5_dayYards_0 : decode cX5_dayYards 0 = .ok (.iload_n 1, 1) := by decide +kernel
theorem dX5_dayYards_1 : decode cX5_dayYards 1 = .ok (.ifCond .lt 29, 3) := by decide +kernel
theorem dX5_dayYards_4 : decode cX5_dayYards 4 = .ok (.iload_n 1, 1) := by decide +kernel
theorem dX5_dayYards_5 : decode cX5_dayYards 5 = .ok (.aload_n 0, 1) := by decide +kernel
theorem dX5_dayYards_6 : decode cX5_dayYards 6 = .ok (.getfield 31, 3) := by decide +kernel
theorem dX5_dayYards_9 : decode cX5_dayYards 9 = .ok (.if_icmp .ge 21, 3) := by decide +kernel
theorem dX5_dayYards_12 : decode cX5_dayYards 12 = .ok (.iload_n 1, 1) := by decide +kernel
theorem dX5_dayYards_13 : decode cX5_dayYards 13 = .ok (.aload_n 0, 1) := by decide +kernel
theorem dX5_dayYards_14 : decode cX5_dayYards 14 = .ok (.getfield 11, 3) := by decide +kernel
theorem dX5_dayYards_17 : decode cX5_dayYards 17 = .ok (.arraylength, 1) := by decide +kernel
theorem dX5_dayYards_18 : decode cX5_dayYards 18 = .ok (.if_icmp .ge 12, 3) := by decide +kernel
theorem dX5_dayYards_21 : decode cX5_dayYards 21 = .ok (.aload_n 0, 1) := by decide +kernel
theorem dX5_dayYards_22 : decode cX5_dayYards 22 = .ok (.getfield 11, 3) := by decide +kernel
theorem dX5_dayYards_25 : decode cX5_dayYards 25 = .ok (.iload_n 1, 1) := by decide +kernel
theorem dX5_dayYards_26 : decode cX5_dayYards 26 = .ok (.iaload, 1) := by decide +kernel
theorem dX5_dayYards_27 : decode cX5_dayYards 27 = .ok (.goto 4, 3) := by decide +kernel
theorem dX5_dayYards_30 : decode cX5_dayYards 30 = .ok (.iconst 0, 1) := by decide +kernel
theorem dX5_dayYards_31 : decode cX5_dayYards 31 = .ok (.ireturn, 1) := by decide +kernel
theorem dX5_homeOf_0 : decode cX5_homeOf 0 = .ok (.iload_n 1, 1) := by decide +kernel
theorem dX5_homeOf_1 : decode cX5_homeOf 1 = .ok (.ifCond .lt 29, 3) := by decide +kernel
theorem dX5_homeOf_4 : decode cX5_homeOf 4 = .ok (.iload_n 1, 1) := by decide +kernel
theorem dX5_homeOf_5 : decode cX5_homeOf 5 = .ok (.aload_n 0, 1) := by decide +kernel
theorem dX5_homeOf_6 : decode cX5_homeOf 6 = .ok (.getfield 34, 3) := by decide +kernel
theorem dX5_homeOf_9 : decode cX5_homeOf 9 = .ok (.if_icmp .ge 21, 3) := by decide +kernel
theorem dX5_homeOf_12 : decode cX5_homeOf 12 = .ok (.iload_n 1, 1) := by decide +kernel
theorem dX5_homeOf_13 : decode cX5_homeOf 13 = .ok (.aload_n 0, 1) := by decide +kernel
theorem dX5_homeOf_14 : decode cX5_homeOf 14 = .ok (.getfield 15, 3) := by decide +kernel
theorem dX5_homeOf_17 : decode cX5_homeOf 17 = .ok (.arraylength, 1) := by decide +kernel
theorem dX5_homeOf_18 : decode cX5_homeOf 18 = .ok (.if_icmp .ge 12, 3) := by decide +kernel
theorem dX5_homeOf_21 : decode cX5_homeOf 21 = .ok (.aload_n 0, 1) := by decide +kernel
theorem dX5_homeOf_22 : decode cX5_homeOf 22 = .ok (.getfield 15, 3) := by decide +kernel
theorem dX5_homeOf_25 : decode cX5_homeOf 25 = .ok (.iload_n 1, 1) := by decide +kernel
theorem dX5_homeOf_26 : decode cX5_homeOf 26 = .ok (.iaload, 1) := by decide +kernel
theorem dX5_homeOf_27 : decode cX5_homeOf 27 = .ok (.goto 4, 3) := by decide +kernel
theorem dX5_homeOf_30 : decode cX5_homeOf 30 = .ok (.iconst 0, 1) := by decide +kernel
theorem dX5_homeOf_31 : decode cX5_homeOf 31 = .ok (.ireturn, 1) := by decide +kernel
theorem dX5_paceOf_0 : decode cX5_paceOf 0 = .ok (.iload_n 1, 1) := by decide +kernel
theorem dX5_paceOf_1 : decode cX5_paceOf 1 = .ok (.ifCond .lt 29, 3) := by decide +kernel
theorem dX5_paceOf_4 : decode cX5_paceOf 4 = .ok (.iload_n 1, 1) := by decide +kernel
theorem dX5_paceOf_5 : decode cX5_paceOf 5 = .ok (.aload_n 0, 1) := by decide +kernel
theorem dX5_paceOf_6 : decode cX5_paceOf 6 = .ok (.getfield 34, 3) := by decide +kernel
theorem dX5_paceOf_9 : decode cX5_paceOf 9 = .ok (.if_icmp .ge 21, 3) := by decide +kernel
theorem dX5_paceOf_12 : decode cX5_paceOf 12 = .ok (.iload_n 1, 1) := by decide +kernel
theorem dX5_paceOf_13 : decode cX5_paceOf 13 = .ok (.aload_n 0, 1) := by decide +kernel
theorem dX5_paceOf_14 : decode cX5_paceOf 14 = .ok (.getfield 18, 3) := by decide +kernel
theorem dX5_paceOf_17 : decode cX5_paceOf 17 = .ok (.arraylength, 1) := by decide +kernel
theorem dX5_paceOf_18 : decode cX5_paceOf 18 = .ok (.if_icmp .ge 12, 3) := by decide +kernel
theorem dX5_paceOf_21 : decode cX5_paceOf 21 = .ok (.aload_n 0, 1) := by decide +kernel
theorem dX5_paceOf_22 : decode cX5_paceOf 22 = .ok (.getfield 18, 3) := by decide +kernel
theorem dX5_paceOf_25 : decode cX5_paceOf 25 = .ok (.iload_n 1, 1) := by decide +kernel
theorem dX5_paceOf_26 : decode cX5_paceOf 26 = .ok (.iaload, 1) := by decide +kernel
theorem dX5_paceOf_27 : decode cX5_paceOf 27 = .ok (.goto 4, 3) := by decide +kernel
theorem dX5_paceOf_30 : decode cX5_paceOf 30 = .ok (.iconst 0, 1) := by decide +kernel
theorem dX5_paceOf_31 : decode cX5_paceOf 31 = .ok (.ireturn, 1) := by decide +kernel
theorem dX5_yardsAt_0 : decode cX5_yardsAt 0 = .ok (.aload_n 0, 1) := by decide +kernel
theorem dX5_yardsAt_1 : decode cX5_yardsAt 1 = .ok (.iload_n 1, 1) := by decide +kernel
theorem dX5_yardsAt_2 : decode cX5_yardsAt 2 = .ok (.iload_n 2, 1) := by decide +kernel
theorem dX5_yardsAt_3 : decode cX5_yardsAt 3 = .ok (.aload_n 0, 1) := by decide +kernel
theorem dX5_yardsAt_4 : decode cX5_yardsAt 4 = .ok (.getfield 25, 3) := by decide +kernel
theorem dX5_yardsAt_7 : decode cX5_yardsAt 7 = .ok (.invokevirtual 44, 3) := by decide +kernel
theorem dX5_yardsAt_10 : decode cX5_yardsAt 10 = .ok (.ireturn, 1) := by decide +kernel
theorem dX5_nightHousesAt_0 : decode cX5_nightHousesAt 0 = .ok (.aload_n 0, 1) := by decide +kernel
theorem dX5_nightHousesAt_1 : decode cX5_nightHousesAt 1 = .ok (.iload_n 1, 1) := by decide +kernel
theorem dX5_nightHousesAt_2 : decode cX5_nightHousesAt 2 = .ok (.iload_n 2, 1) := by decide +kernel
theorem dX5_nightHousesAt_3 : decode cX5_nightHousesAt 3 = .ok (.aload_n 0, 1) := by decide +kernel
theorem dX5_nightHousesAt_4 : decode cX5_nightHousesAt 4 = .ok (.getfield 25, 3) := by decide +kernel
theorem dX5_nightHousesAt_7 : decode cX5_nightHousesAt 7 = .ok (.invokevirtual 48, 3) := by decide +kernel
theorem dX5_nightHousesAt_10 : decode cX5_nightHousesAt 10 = .ok (.ireturn, 1) := by decide +kernel
theorem dX5_nightHousesGrowing_0 : decode cX5_nightHousesGrowing 0 = .ok (.aload_n 0, 1) := by decide +kernel
theorem dX5_nightHousesGrowing_1 : decode cX5_nightHousesGrowing 1 = .ok (.getfield 28, 3) := by decide +kernel
theorem dX5_nightHousesGrowing_4 : decode cX5_nightHousesGrowing 4 = .ok (.ifCond .gt 5, 3) := by decide +kernel
theorem dX5_nightHousesGrowing_7 : decode cX5_nightHousesGrowing 7 = .ok (.iconst 0, 1) := by decide +kernel
theorem dX5_nightHousesGrowing_8 : decode cX5_nightHousesGrowing 8 = .ok (.ireturn, 1) := by decide +kernel
theorem dX5_nightHousesGrowing_9 : decode cX5_nightHousesGrowing 9 = .ok (.iconst 0, 1) := by decide +kernel
theorem dX5_nightHousesGrowing_10 : decode cX5_nightHousesGrowing 10 = .ok (.aload_n 0, 1) := by decide +kernel
theorem dX5_nightHousesGrowing_11 : decode cX5_nightHousesGrowing 11 = .ok (.iload_n 1, 1) := by decide +kernel
theorem dX5_nightHousesGrowing_12 : decode cX5_nightHousesGrowing 12 = .ok (.iload_n 2, 1) := by decide +kernel
theorem dX5_nightHousesGrowing_13 : decode cX5_nightHousesGrowing 13 = .ok (.iload_n 3, 1) := by decide +kernel
theorem dX5_nightHousesGrowing_14 : decode cX5_nightHousesGrowing 14 = .ok (.invokevirtual 44, 3) := by decide +kernel
theorem dX5_nightHousesGrowing_17 : decode cX5_nightHousesGrowing 17 = .ok (.aload_n 0, 1) := by decide +kernel
theorem dX5_nightHousesGrowing_18 : decode cX5_nightHousesGrowing 18 = .ok (.getfield 28, 3) := by decide +kernel
theorem dX5_nightHousesGrowing_21 : decode cX5_nightHousesGrowing 21 = .ok (.idiv, 1) := by decide +kernel
theorem dX5_nightHousesGrowing_22 : decode cX5_nightHousesGrowing 22 = .ok (.iconst 1, 1) := by decide +kernel
theorem dX5_nightHousesGrowing_23 : decode cX5_nightHousesGrowing 23 = .ok (.isub, 1) := by decide +kernel
theorem dX5_nightHousesGrowing_24 : decode cX5_nightHousesGrowing 24 = .ok (.invokestatic 51, 3) := by decide +kernel
theorem dX5_nightHousesGrowing_27 : decode cX5_nightHousesGrowing 27 = .ok (.ireturn, 1) := by decide +kernel
theorem dX5_yardsGrowing_0 : decode cX5_yardsGrowing 0 = .ok (.aload_n 0, 1) := by decide +kernel
theorem dX5_yardsGrowing_1 : decode cX5_yardsGrowing 1 = .ok (.invokevirtual 57, 3) := by decide +kernel
theorem dX5_yardsGrowing_4 : decode cX5_yardsGrowing 4 = .ok (.istore 4, 2) := by decide +kernel
theorem dX5_yardsGrowing_6 : decode cX5_yardsGrowing 6 = .ok (.iload 4, 2) := by decide +kernel
theorem dX5_yardsGrowing_8 : decode cX5_yardsGrowing 8 = .ok (.ifCond .gt 5, 3) := by decide +kernel
theorem dX5_yardsGrowing_11 : decode cX5_yardsGrowing 11 = .ok (.iconst 0, 1) := by decide +kernel
theorem dX5_yardsGrowing_12 : decode cX5_yardsGrowing 12 = .ok (.ireturn, 1) := by decide +kernel
theorem dX5_yardsGrowing_13 : decode cX5_yardsGrowing 13 = .ok (.iload_n 2, 1) := by decide +kernel
theorem dX5_yardsGrowing_14 : decode cX5_yardsGrowing 14 = .ok (.iload 4, 2) := by decide +kernel
theorem dX5_yardsGrowing_16 : decode cX5_yardsGrowing 16 = .ok (.irem, 1) := by decide +kernel
theorem dX5_yardsGrowing_17 : decode cX5_yardsGrowing 17 = .ok (.istore 5, 2) := by decide +kernel
theorem dX5_yardsGrowing_19 : decode cX5_yardsGrowing 19 = .ok (.aload_n 0, 1) := by decide +kernel
theorem dX5_yardsGrowing_20 : decode cX5_yardsGrowing 20 = .ok (.iload_n 1, 1) := by decide +kernel
theorem dX5_yardsGrowing_21 : decode cX5_yardsGrowing 21 = .ok (.invokevirtual 60, 3) := by decide +kernel
theorem dX5_yardsGrowing_24 : decode cX5_yardsGrowing 24 = .ok (.iload_n 3, 1) := by decide +kernel
theorem dX5_yardsGrowing_25 : decode cX5_yardsGrowing 25 = .ok (.iload 5, 2) := by decide +kernel
theorem dX5_yardsGrowing_27 : decode cX5_yardsGrowing 27 = .ok (.iload 4, 2) := by decide +kernel
theorem dX5_yardsGrowing_29 : decode cX5_yardsGrowing 29 = .ok (.iload 5, 2) := by decide +kernel
theorem dX5_yardsGrowing_31 : decode cX5_yardsGrowing 31 = .ok (.isub, 1) := by decide +kernel
theorem dX5_yardsGrowing_32 : decode cX5_yardsGrowing 32 = .ok (.invokestatic 64, 3) := by decide +kernel
theorem dX5_yardsGrowing_35 : decode cX5_yardsGrowing 35 = .ok (.imul, 1) := by decide +kernel
theorem dX5_yardsGrowing_36 : decode cX5_yardsGrowing 36 = .ok (.bipush 10, 2) := by decide +kernel
theorem dX5_yardsGrowing_38 : decode cX5_yardsGrowing 38 = .ok (.idiv, 1) := by decide +kernel
theorem dX5_yardsGrowing_39 : decode cX5_yardsGrowing 39 = .ok (.iadd, 1) := by decide +kernel
theorem dX5_yardsGrowing_40 : decode cX5_yardsGrowing 40 = .ok (.ireturn, 1) := by decide +kernel
theorem dX5_yardsBelow_0 : decode cX5_yardsBelow 0 = .ok (.iconst 0, 1) := by decide +kernel
theorem dX5_yardsBelow_1 : decode cX5_yardsBelow 1 = .ok (.istore_n 3, 1) := by decide +kernel
theorem dX5_yardsBelow_2 : decode cX5_yardsBelow 2 = .ok (.iconst 0, 1) := by decide +kernel
theorem dX5_yardsBelow_3 : decode cX5_yardsBelow 3 = .ok (.istore 4, 2) := by decide +kernel
theorem dX5_yardsBelow_5 : decode cX5_yardsBelow 5 = .ok (.iload 4, 2) := by decide +kernel
theorem dX5_yardsBelow_7 : decode cX5_yardsBelow 7 = .ok (.aload_n 0, 1) := by decide +kernel
theorem dX5_yardsBelow_8 : decode cX5_yardsBelow 8 = .ok (.getfield 31, 3) := by decide +kernel
theorem dX5_yardsBelow_11 : decode cX5_yardsBelow 11 = .ok (.if_icmp .ge 25, 3) := by decide +kernel
theorem dX5_yardsBelow_14 : decode cX5_yardsBelow 14 = .ok (.iload 4, 2) := by decide +kernel
theorem dX5_yardsBelow_16 : decode cX5_yardsBelow 16 = .ok (.iload_n 1, 1) := by decide +kernel
theorem dX5_yardsBelow_17 : decode cX5_yardsBelow 17 = .ok (.if_icmp .ge 19, 3) := by decide +kernel
theorem dX5_yardsBelow_20 : decode cX5_yardsBelow 20 = .ok (.iload_n 3, 1) := by decide +kernel
theorem dX5_yardsBelow_21 : decode cX5_yardsBelow 21 = .ok (.aload_n 0, 1) := by decide +kernel
theorem dX5_yardsBelow_22 : decode cX5_yardsBelow 22 = .ok (.iload 4, 2) := by decide +kernel
theorem dX5_yardsBelow_24 : decode cX5_yardsBelow 24 = .ok (.iload_n 2, 1) := by decide +kernel
theorem dX5_yardsBelow_25 : decode cX5_yardsBelow 25 = .ok (.invokevirtual 67, 3) := by decide +kernel
theorem dX5_yardsBelow_28 : decode cX5_yardsBelow 28 = .ok (.iadd, 1) := by decide +kernel
theorem dX5_yardsBelow_29 : decode cX5_yardsBelow 29 = .ok (.istore_n 3, 1) := by decide +kernel
theorem dX5_yardsBelow_30 : decode cX5_yardsBelow 30 = .ok (.iinc 4 1, 3) := by decide +kernel
theorem dX5_yardsBelow_33 : decode cX5_yardsBelow 33 = .ok (.goto (-28), 3) := by decide +kernel
theorem dX5_yardsBelow_36 : decode cX5_yardsBelow 36 = .ok (.iload_n 3, 1) := by decide +kernel
theorem dX5_yardsBelow_37 : decode cX5_yardsBelow 37 = .ok (.ireturn, 1) := by decide +kernel
theorem dX5_gapsBetween_0 : decode cX5_gapsBetween 0 = .ok (.iload_n 1, 1) := by decide +kernel
theorem dX5_gapsBetween_1 : decode cX5_gapsBetween 1 = .ok (.iload_n 2, 1) := by decide +kernel
theorem dX5_gapsBetween_2 : decode cX5_gapsBetween 2 = .ok (.invokestatic 64, 3) := by decide +kernel
theorem dX5_gapsBetween_5 : decode cX5_gapsBetween 5 = .ok (.istore_n 3, 1) := by decide +kernel
theorem dX5_gapsBetween_6 : decode cX5_gapsBetween 6 = .ok (.iload_n 1, 1) := by decide +kernel
theorem dX5_gapsBetween_7 : decode cX5_gapsBetween 7 = .ok (.iload_n 2, 1) := by decide +kernel
theorem dX5_gapsBetween_8 : decode cX5_gapsBetween 8 = .ok (.invokestatic 51, 3) := by decide +kernel
theorem dX5_gapsBetween_11 : decode cX5_gapsBetween 11 = .ok (.istore 4, 2) := by decide +kernel
theorem dX5_gapsBetween_13 : decode cX5_gapsBetween 13 = .ok (.iconst 0, 1) := by decide +kernel
theorem dX5_gapsBetween_14 : decode cX5_gapsBetween 14 = .ok (.istore 5, 2) := by decide +kernel
theorem dX5_gapsBetween_16 : decode cX5_gapsBetween 16 = .ok (.iconst 0, 1) := by decide +kernel
theorem dX5_gapsBetween_17 : decode cX5_gapsBetween 17 = .ok (.istore 6, 2) := by decide +kernel
theorem dX5_gapsBetween_19 : decode cX5_gapsBetween 19 = .ok (.iload 6, 2) := by decide +kernel
theorem dX5_gapsBetween_21 : decode cX5_gapsBetween 21 = .ok (.aload_n 0, 1) := by decide +kernel
theorem dX5_gapsBetween_22 : decode cX5_gapsBetween 22 = .ok (.getfield 31, 3) := by decide +kernel
theorem dX5_gapsBetween_25 : decode cX5_gapsBetween 25 = .ok (.if_icmp .ge 31, 3) := by decide +kernel
theorem dX5_gapsBetween_28 : decode cX5_gapsBetween 28 = .ok (.iload 6, 2) := by decide +kernel
theorem dX5_gapsBetween_30 : decode cX5_gapsBetween 30 = .ok (.iload_n 3, 1) := by decide +kernel
theorem dX5_gapsBetween_31 : decode cX5_gapsBetween 31 = .ok (.if_icmp .lt 19, 3) := by decide +kernel
theorem dX5_gapsBetween_34 : decode cX5_gapsBetween 34 = .ok (.iload 6, 2) := by decide +kernel
theorem dX5_gapsBetween_36 : decode cX5_gapsBetween 36 = .ok (.iload 4, 2) := by decide +kernel
theorem dX5_gapsBetween_38 : decode cX5_gapsBetween 38 = .ok (.if_icmp .ge 12, 3) := by decide +kernel
theorem dX5_gapsBetween_41 : decode cX5_gapsBetween 41 = .ok (.iload 5, 2) := by decide +kernel
theorem dX5_gapsBetween_43 : decode cX5_gapsBetween 43 = .ok (.iconst 1, 1) := by decide +kernel
theorem dX5_gapsBetween_44 : decode cX5_gapsBetween 44 = .ok (.iload 6, 2) := by decide +kernel
theorem dX5_gapsBetween_46 : decode cX5_gapsBetween 46 = .ok (.ishl, 1) := by decide +kernel
theorem dX5_gapsBetween_47 : decode cX5_gapsBetween 47 = .ok (.ior, 1) := by decide +kernel
theorem dX5_gapsBetween_48 : decode cX5_gapsBetween 48 = .ok (.istore 5, 2) := by decide +kernel
theorem dX5_gapsBetween_50 : decode cX5_gapsBetween 50 = .ok (.iinc 6 1, 3) := by decide +kernel
theorem dX5_gapsBetween_53 : decode cX5_gapsBetween 53 = .ok (.goto (-34), 3) := by decide +kernel
theorem dX5_gapsBetween_56 : decode cX5_gapsBetween 56 = .ok (.iload 5, 2) := by decide +kernel
theorem dX5_gapsBetween_58 : decode cX5_gapsBetween 58 = .ok (.ireturn, 1) := by decide +kernel
theorem dX5_walkTime_0 : decode cX5_walkTime 0 = .ok (.iload_n 1, 1) := by decide +kernel
theorem dX5_walkTime_1 : decode cX5_walkTime 1 = .ok (.istore 7, 2) := by decide +kernel
theorem dX5_walkTime_3 : decode cX5_walkTime 3 = .ok (.iconst 0, 1) := by decide +kernel
theorem dX5_walkTime_4 : decode cX5_walkTime 4 = .ok (.istore 8, 2) := by decide +kernel
theorem dX5_walkTime_6 : decode cX5_walkTime 6 = .ok (.iconst 0, 1) := by decide +kernel
theorem dX5_walkTime_7 : decode cX5_walkTime 7 = .ok (.istore 9, 2) := by decide +kernel
theorem dX5_walkTime_9 : decode cX5_walkTime 9 = .ok (.iload 7, 2) := by decide +kernel
theorem dX5_walkTime_11 : decode cX5_walkTime 11 = .ok (.iload_n 2, 1) := by decide +kernel
theorem dX5_walkTime_12 : decode cX5_walkTime 12 = .ok (.if_icmp .eq 94, 3) := by decide +kernel
theorem dX5_walkTime_15 : decode cX5_walkTime 15 = .ok (.iload 9, 2) := by decide +kernel
theorem dX5_walkTime_17 : decode cX5_walkTime 17 = .ok (.iload 6, 2) := by decide +kernel
theorem dX5_walkTime_19 : decode cX5_walkTime 19 = .ok (.if_icmp .ge 87, 3) := by decide +kernel
theorem dX5_walkTime_22 : decode cX5_walkTime 22 = .ok (.iload 7, 2) := by decide +kernel
theorem dX5_walkTime_24 : decode cX5_walkTime 24 = .ok (.iload_n 2, 1) := by decide +kernel
theorem dX5_walkTime_25 : decode cX5_walkTime 25 = .ok (.if_icmp .ge 8, 3) := by decide +kernel
theorem dX5_walkTime_28 : decode cX5_walkTime 28 = .ok (.iload 7, 2) := by decide +kernel
theorem dX5_walkTime_30 : decode cX5_walkTime 30 = .ok (.goto 7, 3) := by decide +kernel
theorem dX5_walkTime_33 : decode cX5_walkTime 33 = .ok (.iload 7, 2) := by decide +kernel
theorem dX5_walkTime_35 : decode cX5_walkTime 35 = .ok (.iconst 1, 1) := by decide +kernel
theorem dX5_walkTime_36 : decode cX5_walkTime 36 = .ok (.isub, 1) := by decide +kernel
theorem dX5_walkTime_37 : decode cX5_walkTime 37 = .ok (.istore 10, 2) := by decide +kernel
theorem dX5_walkTime_39 : decode cX5_walkTime 39 = .ok (.iload 8, 2) := by decide +kernel
theorem dX5_walkTime_41 : decode cX5_walkTime 41 = .ok (.iload 5, 2) := by decide +kernel
theorem dX5_walkTime_43 : decode cX5_walkTime 43 = .ok (.iload 10, 2) := by decide +kernel
theorem dX5_walkTime_45 : decode cX5_walkTime 45 = .ok (.ishr, 1) := by decide +kernel
theorem dX5_walkTime_46 : decode cX5_walkTime 46 = .ok (.iconst 1, 1) := by decide +kernel
theorem dX5_walkTime_47 : decode cX5_walkTime 47 = .ok (.iand, 1) := by decide +kernel
theorem dX5_walkTime_48 : decode cX5_walkTime 48 = .ok (.iconst 1, 1) := by decide +kernel
theorem dX5_walkTime_49 : decode cX5_walkTime 49 = .ok (.if_icmp .ne 9, 3) := by decide +kernel
theorem dX5_walkTime_52 : decode cX5_walkTime 52 = .ok (.iconst 2, 1) := by decide +kernel
theorem dX5_walkTime_53 : decode cX5_walkTime 53 = .ok (.iload_n 3, 1) := by decide +kernel
theorem dX5_walkTime_54 : decode cX5_walkTime 54 = .ok (.imul, 1) := by decide +kernel
theorem dX5_walkTime_55 : decode cX5_walkTime 55 = .ok (.goto 4, 3) := by decide +kernel
theorem dX5_walkTime_58 : decode cX5_walkTime 58 = .ok (.iload_n 3, 1) := by decide +kernel
theorem dX5_walkTime_59 : decode cX5_walkTime 59 = .ok (.iadd, 1) := by decide +kernel
theorem dX5_walkTime_60 : decode cX5_walkTime 60 = .ok (.istore 8, 2) := by decide +kernel
theorem dX5_walkTime_62 : decode cX5_walkTime 62 = .ok (.iload 8, 2) := by decide +kernel
theorem dX5_walkTime_64 : decode cX5_walkTime 64 = .ok (.aload_n 0, 1) := by decide +kernel
theorem dX5_walkTime_65 : decode cX5_walkTime 65 = .ok (.iload 10, 2) := by decide +kernel
theorem dX5_walkTime_67 : decode cX5_walkTime 67 = .ok (.iload 4, 2) := by decide +kernel
theorem dX5_walkTime_69 : decode cX5_walkTime 69 = .ok (.iload 9, 2) := by decide +kernel
theorem dX5_walkTime_71 : decode cX5_walkTime 71 = .ok (.iadd, 1) := by decide +kernel
theorem dX5_walkTime_72 : decode cX5_walkTime 72 = .ok (.invokevirtual 67, 3) := by decide +kernel
theorem dX5_walkTime_75 : decode cX5_walkTime 75 = .ok (.if_icmp .lt 25, 3) := by decide +kernel
theorem dX5_walkTime_78 : decode cX5_walkTime 78 = .ok (.iload 7, 2) := by decide +kernel
theorem dX5_walkTime_80 : decode cX5_walkTime 80 = .ok (.iload_n 2, 1) := by decide +kernel
theorem dX5_walkTime_81 : decode cX5_walkTime 81 = .ok (.if_icmp .ge 10, 3) := by decide +kernel
theorem dX5_walkTime_84 : decode cX5_walkTime 84 = .ok (.iload 7, 2) := by decide +kernel
theorem dX5_walkTime_86 : decode cX5_walkTime 86 = .ok (.iconst 1, 1) := by decide +kernel
theorem dX5_walkTime_87 : decode cX5_walkTime 87 = .ok (.iadd, 1) := by decide +kernel
theorem dX5_walkTime_88 : decode cX5_walkTime 88 = .ok (.goto 7, 3) := by decide +kernel
theorem dX5_walkTime_91 : decode cX5_walkTime 91 = .ok (.iload 7, 2) := by decide +kernel
theorem dX5_walkTime_93 : decode cX5_walkTime 93 = .ok (.iconst 1, 1) := by decide +kernel
theorem dX5_walkTime_94 : decode cX5_walkTime 94 = .ok (.isub, 1) := by decide +kernel
theorem dX5_walkTime_95 : decode cX5_walkTime 95 = .ok (.istore 7, 2) := by decide +kernel
theorem dX5_walkTime_97 : decode cX5_walkTime 97 = .ok (.iconst 0, 1) := by decide +kernel
theorem dX5_walkTime_98 : decode cX5_walkTime 98 = .ok (.istore 8, 2) := by decide +kernel
theorem dX5_walkTime_100 : decode cX5_walkTime 100 = .ok (.iinc 9 1, 3) := by decide +kernel
theorem dX5_walkTime_103 : decode cX5_walkTime 103 = .ok (.goto (-94), 3) := by decide +kernel
theorem dX5_walkTime_106 : decode cX5_walkTime 106 = .ok (.iload 7, 2) := by decide +kernel
theorem dX5_walkTime_108 : decode cX5_walkTime 108 = .ok (.iload_n 2, 1) := by decide +kernel
theorem dX5_walkTime_109 : decode cX5_walkTime 109 = .ok (.if_icmp .ne 8, 3) := by decide +kernel
theorem dX5_walkTime_112 : decode cX5_walkTime 112 = .ok (.iload 9, 2) := by decide +kernel
theorem dX5_walkTime_114 : decode cX5_walkTime 114 = .ok (.goto 4, 3) := by decide +kernel
theorem dX5_walkTime_117 : decode cX5_walkTime 117 = .ok (.iconst (-1), 1) := by decide +kernel
theorem dX5_walkTime_118 : decode cX5_walkTime 118 = .ok (.ireturn, 1) := by decide +kernel
theorem dX6_init_0 : decode cX6_init 0 = .ok (.aload_n 0, 1) := by decide +kernel
theorem dX6_init_1 : decode cX6_init 1 = .ok (.invokespecial 3, 3) := by decide +kernel
theorem dX6_init_4 : decode cX6_init 4 = .ok (.aload_n 0, 1) := by decide +kernel
theorem dX6_init_5 : decode cX6_init 5 = .ok (.sipush 200, 3) := by decide +kernel
theorem dX6_init_8 : decode cX6_init 8 = .ok (.newarray .char, 2) := by decide +kernel
theorem dX6_init_10 : decode cX6_init 10 = .ok (.putfield 11, 3) := by decide +kernel
theorem dX6_init_13 : decode cX6_init 13 = .ok (.aload_n 0, 1) := by decide +kernel
theorem dX6_init_14 : decode cX6_init 14 = .ok (.iconst 0, 1) := by decide +kernel
theorem dX6_init_15 : decode cX6_init 15 = .ok (.putfield 15, 3) := by decide +kernel
theorem dX6_init_18 : decode cX6_init 18 = .ok (.aload_n 0, 1) := by decide +kernel
theorem dX6_init_19 : decode cX6_init 19 = .ok (.iconst (-1), 1) := by decide +kernel
theorem dX6_init_20 : decode cX6_init 20 = .ok (.putfield 19, 3) := by decide +kernel
theorem dX6_init_23 : decode cX6_init 23 = .ok (.return_, 1) := by decide +kernel
theorem dX6_append_0 : decode cX6_append 0 = .ok (.aload_n 0, 1) := by decide +kernel
theorem dX6_append_1 : decode cX6_append 1 = .ok (.getfield 22, 3) := by decide +kernel
theorem dX6_append_4 : decode cX6_append 4 = .ok (.ifCond .lt 15, 3) := by decide +kernel
theorem dX6_append_7 : decode cX6_append 7 = .ok (.aload_n 0, 1) := by decide +kernel
theorem dX6_append_8 : decode cX6_append 8 = .ok (.getfield 22, 3) := by decide +kernel
theorem dX6_append_11 : decode cX6_append 11 = .ok (.aload_n 0, 1) := by decide +kernel
theorem dX6_append_12 : decode cX6_append 12 = .ok (.getfield 11, 3) := by decide +kernel
theorem dX6_append_15 : decode cX6_append 15 = .ok (.arraylength, 1) := by decide +kernel
theorem dX6_append_16 : decode cX6_append 16 = .ok (.if_icmp .lt 5, 3) := by decide +kernel
theorem dX6_append_19 : decode cX6_append 19 = .ok (.iconst 0, 1) := by decide +kernel
theorem dX6_append_20 : decode cX6_append 20 = .ok (.ireturn, 1) := by decide +kernel
theorem dX6_append_21 : decode cX6_append 21 = .ok (.aload_n 0, 1) := by decide +kernel
theorem dX6_append_22 : decode cX6_append 22 = .ok (.getfield 11, 3) := by decide +kernel
theorem dX6_append_25 : decode cX6_append 25 = .ok (.aload_n 0, 1) := by decide +kernel
theorem dX6_append_26 : decode cX6_append 26 = .ok (.getfield 22, 3) := by decide +kernel
theorem dX6_append_29 : decode cX6_append 29 = .ok (.iload_n 1, 1) := by decide +kernel
theorem dX6_append_30 : decode cX6_append 30 = .ok (.i2c, 1) := by decide +kernel
theorem dX6_append_31 : decode cX6_append 31 = .ok (.castore, 1) := by decide +kernel
theorem dX6_append_32 : decode cX6_append 32 = .ok (.aload_n 0, 1) := by decide +kernel
theorem dX6_append_33 : decode cX6_append 33 = .ok (.dup, 1) := by decide +kernel
theorem dX6_append_34 : decode cX6_append 34 = .ok (.getfield 22, 3) := by decide +kernel
theorem dX6_append_37 : decode cX6_append 37 = .ok (.iconst 1, 1) := by decide +kernel
theorem dX6_append_38 : decode cX6_append 38 = .ok (.iadd, 1) := by decide +kernel
theorem dX6_append_39 : decode cX6_append 39 = .ok (.putfield 22, 3) := by decide +kernel
theorem dX6_append_42 : decode cX6_append 42 = .ok (.iconst 1, 1) := by decide +kernel
theorem dX6_append_43 : decode cX6_append 43 = .ok (.ireturn, 1) := by decide +kernel
theorem dX6_length_0 : decode cX6_length 0 = .ok (.aload_n 0, 1) := by decide +kernel
theorem dX6_length_1 : decode cX6_length 1 = .ok (.getfield 22, 3) := by decide +kernel
theorem dX6_length_4 : decode cX6_length 4 = .ok (.ireturn, 1) := by decide +kernel
theorem dX6_empty_0 : decode cX6_empty 0 = .ok (.aload_n 0, 1) := by decide +kernel
theorem dX6_empty_1 : decode cX6_empty 1 = .ok (.iconst 0, 1) := by decide +kernel
theorem dX6_empty_2 : decode cX6_empty 2 = .ok (.putfield 22, 3) := by decide +kernel
theorem dX6_empty_5 : decode cX6_empty 5 = .ok (.return_, 1) := by decide +kernel
theorem dX6_faultPlace_0 : decode cX6_faultPlace 0 = .ok (.aload_n 0, 1) := by decide +kernel
theorem dX6_faultPlace_1 : decode cX6_faultPlace 1 = .ok (.getfield 19, 3) := by decide +kernel
theorem dX6_faultPlace_4 : decode cX6_faultPlace 4 = .ok (.ireturn, 1) := by decide +kernel
theorem dX6_readInto_0 : decode cX6_readInto 0 = .ok (.aload_n 0, 1) := by decide +kernel
theorem dX6_readInto_1 : decode cX6_readInto 1 = .ok (.iconst 0, 1) := by decide +kernel
theorem dX6_readInto_2 : decode cX6_readInto 2 = .ok (.putfield 25, 3) := by decide +kernel
theorem dX6_readInto_5 : decode cX6_readInto 5 = .ok (.aload_n 0, 1) := by decide +kernel
theorem dX6_readInto_6 : decode cX6_readInto 6 = .ok (.iconst 0, 1) := by decide +kernel
theorem dX6_readInto_7 : decode cX6_readInto 7 = .ok (.putfield 15, 3) := by decide +kernel
theorem dX6_readInto_10 : decode cX6_readInto 10 = .ok (.aload_n 0, 1) := by decide +kernel
theorem dX6_readInto_11 : decode cX6_readInto 11 = .ok (.iconst (-1), 1) := by decide +kernel
theorem dX6_readInto_12 : decode cX6_readInto 12 = .ok (.putfield 19, 3) := by decide +kernel
theorem dX6_readInto_15 : decode cX6_readInto 15 = .ok (.aload_n 0, 1) := by decide +kernel
theorem dX6_readInto_16 : decode cX6_readInto 16 = .ok (.invokevirtual 28, 3) := by decide +kernel
theorem dX6_readInto_19 : decode cX6_readInto 19 = .ok (.iconst 0, 1) := by decide +kernel
theorem dX6_readInto_20 : decode cX6_readInto 20 = .ok (.istore_n 2, 1) := by decide +kernel
theorem dX6_readInto_21 : decode cX6_readInto 21 = .ok (.iload_n 2, 1) := by decide +kernel
theorem dX6_readInto_22 : decode cX6_readInto 22 = .ok (.sipush 200, 3) := by decide +kernel
theorem dX6_readInto_25 : decode cX6_readInto 25 = .ok (.if_icmp .ge 36, 3) := by decide +kernel
theorem dX6_readInto_28 : decode cX6_readInto 28 = .ok (.aload_n 0, 1) := by decide +kernel
theorem dX6_readInto_29 : decode cX6_readInto 29 = .ok (.getfield 25, 3) := by decide +kernel
theorem dX6_readInto_32 : decode cX6_readInto 32 = .ok (.aload_n 0, 1) := by decide +kernel
theorem dX6_readInto_33 : decode cX6_readInto 33 = .ok (.getfield 22, 3) := by decide +kernel
theorem dX6_readInto_36 : decode cX6_readInto 36 = .ok (.if_icmp .ge 25, 3) := by decide +kernel
theorem dX6_readInto_39 : decode cX6_readInto 39 = .ok (.aload_n 0, 1) := by decide +kernel
theorem dX6_readInto_40 : decode cX6_readInto 40 = .ok (.invokevirtual 31, 3) := by decide +kernel
theorem dX6_readInto_43 : decode cX6_readInto 43 = .ok (.ifCond .ne 18, 3) := by decide +kernel
theorem dX6_readInto_46 : decode cX6_readInto 46 = .ok (.aload_n 0, 1) := by decide +kernel
theorem dX6_readInto_47 : decode cX6_readInto 47 = .ok (.aload_n 1, 1) := by decide +kernel
theorem dX6_readInto_48 : decode cX6_readInto 48 = .ok (.invokevirtual 35, 3) := by decide +kernel
theorem dX6_readInto_51 : decode cX6_readInto 51 = .ok (.aload_n 0, 1) := by decide +kernel
theorem dX6_readInto_52 : decode cX6_readInto 52 = .ok (.invokevirtual 28, 3) := by decide +kernel
theorem dX6_readInto_55 : decode cX6_readInto 55 = .ok (.iinc 2 1, 3) := by decide +kernel
theorem dX6_readInto_58 : decode cX6_readInto 58 = .ok (.goto (-37), 3) := by decide +kernel
theorem dX6_readInto_61 : decode cX6_readInto 61 = .ok (.aload_n 0, 1) := by decide +kernel
theorem dX6_readInto_62 : decode cX6_readInto 62 = .ok (.getfield 15, 3) := by decide +kernel
theorem dX6_readInto_65 : decode cX6_readInto 65 = .ok (.ireturn, 1) := by decide +kernel
theorem dX6_readClause_0 : decode cX6_readClause 0 = .ok (.aload_n 0, 1) := by decide +kernel
theorem dX6_readClause_1 : decode cX6_readClause 1 = .ok (.invokevirtual 39, 3) := by decide +kernel
theorem dX6_readClause_4 : decode cX6_readClause 4 = .ok (.istore_n 2, 1) := by decide +kernel
theorem dX6_readClause_5 : decode cX6_readClause 5 = .ok (.aload_n 1, 1) := by decide +kernel
theorem dX6_readClause_6 : decode cX6_readClause 6 = .ok (.invokevirtual 43, 3) := by decide +kernel
theorem dX6_readClause_9 : decode cX6_readClause 9 = .ok (.ifCond .ne 19, 3) := by decide +kernel
theorem dX6_readClause_12 : decode cX6_readClause 12 = .ok (.iload_n 2, 1) := by decide +kernel
theorem dX6_readClause_13 : decode cX6_readClause 13 = .ok (.bipush 115, 2) := by decide +kernel
theorem dX6_readClause_15 : decode cX6_readClause 15 = .ok (.if_icmp .eq 13, 3) := by decide +kernel
theorem dX6_readClause_18 : decode cX6_readClause 18 = .ok (.aload_n 0, 1) := by decide +kernel
theorem dX6_readClause_19 : decode cX6_readClause 19 = .ok (.iconst 1, 1) := by decide +kernel
theorem dX6_readClause_20 : decode cX6_readClause 20 = .ok (.aload_n 0, 1) := by decide +kernel
theorem dX6_readClause_21 : decode cX6_readClause 21 = .ok (.getfield 25, 3) := by decide +kernel
theorem dX6_readClause_24 : decode cX6_readClause 24 = .ok (.invokevirtual 48, 3) := by decide +kernel
theorem dX6_readClause_27 : decode cX6_readClause 27 = .ok (.return_, 1) := by decide +kernel
theorem dX6_readClause_28 : decode cX6_readClause 28 = .ok (.iload_n 2, 1) := by decide +kernel
theorem dX6_readClause_29 : decode cX6_readClause 29 = .ok (.lookupswitch 75 #[(104, 51), (114, 67), (115, 43), (119, 59)], 43) := by decide +kernel
theorem dX6_readClause_72 : decode cX6_readClause 72 = .ok (.aload_n 0, 1) := by decide +kernel
theorem dX6_readClause_73 : decode cX6_readClause 73 = .ok (.aload_n 1, 1) := by decide +kernel
theorem dX6_readClause_74 : decode cX6_readClause 74 = .ok (.invokevirtual 52, 3) := by decide +kernel
theorem dX6_readClause_77 : decode cX6_readClause 77 = .ok (.goto 36, 3) := by decide +kernel
theorem dX6_readClause_80 : decode cX6_readClause 80 = .ok (.aload_n 0, 1) := by decide +kernel
theorem dX6_readClause_81 : decode cX6_readClause 81 = .ok (.aload_n 1, 1) := by decide +kernel
theorem dX6_readClause_82 : decode cX6_readClause 82 = .ok (.invokevirtual 55, 3) := by decide +kernel
theorem dX6_readClause_85 : decode cX6_readClause 85 = .ok (.goto 28, 3) := by decide +kernel
theorem dX6_readClause_88 : decode cX6_readClause 88 = .ok (.aload_n 0, 1) := by decide +kernel
theorem dX6_readClause_89 : decode cX6_readClause 89 = .ok (.aload_n 1, 1) := by decide +kernel
theorem dX6_readClause_90 : decode cX6_readClause 90 = .ok (.invokevirtual 58, 3) := by decide +kernel
theorem dX6_readClause_93 : decode cX6_readClause 93 = .ok (.goto 20, 3) := by decide +kernel
theorem dX6_readClause_96 : decode cX6_readClause 96 = .ok (.aload_n 0, 1) := by decide +kernel
theorem dX6_readClause_97 : decode cX6_readClause 97 = .ok (.aload_n 1, 1) := by decide +kernel
theorem dX6_readClause_98 : decode cX6_readClause 98 = .ok (.invokevirtual 61, 3) := by decide +kernel
theorem dX6_readClause_101 : decode cX6_readClause 101 = .ok (.goto 12, 3) := by decide +kernel
theorem dX6_readClause_104 : decode cX6_readClause 104 = .ok (.aload_n 0, 1) := by decide +kernel
theorem dX6_readClause_105 : decode cX6_readClause 105 = .ok (.iconst 1, 1) := by decide +kernel
theorem dX6_readClause_106 : decode cX6_readClause 106 = .ok (.aload_n 0, 1) := by decide +kernel
theorem dX6_readClause_107 : decode cX6_readClause 107 = .ok (.getfield 25, 3) := by decide +kernel
theorem dX6_readClause_110 : decode cX6_readClause 110 = .ok (.invokevirtual 48, 3) := by decide +kernel
theorem dX6_readClause_113 : decode cX6_readClause 113 = .ok (.return_, 1) := by decide +kernel
theorem dX6_readNight_0 : decode cX6_readNight 0 = .ok (.aload_n 1, 1) := by decide +kernel
theorem dX6_readNight_1 : decode cX6_readNight 1 = .ok (.invokevirtual 43, 3) := by decide +kernel
theorem dX6_readNight_4 : decode cX6_readNight 4 = .ok (.ifCond .eq 13, 3) := by decide +kernel
theorem dX6_readNight_7 : decode cX6_readNight 7 = .ok (.aload_n 0, 1) := by decide +kernel
theorem dX6_readNight_8 : decode cX6_readNight 8 = .ok (.iconst 3, 1) := by decide +kernel
theorem dX6_readNight_9 : decode cX6_readNight 9 = .ok (.aload_n 0, 1) := by decide +kernel
theorem dX6_readNight_10 : decode cX6_readNight 10 = .ok (.getfield 25, 3) := by decide +kernel
theorem dX6_readNight_13 : decode cX6_readNight 13 = .ok (.invokevirtual 48, 3) := by decide +kernel
theorem dX6_readNight_16 : decode cX6_readNight 16 = .ok (.return_, 1) := by decide +kernel
theorem dX6_readNight_17 : decode cX6_readNight 17 = .ok (.aload_n 0, 1) := by decide +kernel
theorem dX6_readNight_18 : decode cX6_readNight 18 = .ok (.dup, 1) := by decide +kernel
theorem dX6_readNight_19 : decode cX6_readNight 19 = .ok (.getfield 25, 3) := by decide +kernel
theorem dX6_readNight_22 : decode cX6_readNight 22 = .ok (.iconst 1, 1) := by decide +kernel
theorem dX6_readNight_23 : decode cX6_readNight 23 = .ok (.iadd, 1) := by decide +kernel
theorem dX6_readNight_24 : decode cX6_readNight 24 = .ok (.putfield 25, 3) := by decide +kernel
theorem dX6_readNight_27 : decode cX6_readNight 27 = .ok (.aload_n 0, 1) := by decide +kernel
theorem dX6_readNight_28 : decode cX6_readNight 28 = .ok (.iconst 1, 1) := by decide +kernel
theorem dX6_readNight_29 : decode cX6_readNight 29 = .ok (.bipush 60, 2) := by decide +kernel
theorem dX6_readNight_31 : decode cX6_readNight 31 = .ok (.invokevirtual 64, 3) := by decide +kernel
theorem dX6_readNight_34 : decode cX6_readNight 34 = .ok (.istore_n 2, 1) := by decide +kernel
theorem dX6_readNight_35 : decode cX6_readNight 35 = .ok (.aload_n 0, 1) := by decide +kernel
theorem dX6_readNight_36 : decode cX6_readNight 36 = .ok (.iconst 0, 1) := by decide +kernel
theorem dX6_readNight_37 : decode cX6_readNight 37 = .ok (.bipush 40, 2) := by decide +kernel
theorem dX6_readNight_39 : decode cX6_readNight 39 = .ok (.invokevirtual 64, 3) := by decide +kernel
theorem dX6_readNight_42 : decode cX6_readNight 42 = .ok (.istore_n 3, 1) := by decide +kernel
theorem dX6_readNight_43 : decode cX6_readNight 43 = .ok (.aload_n 0, 1) := by decide +kernel
theorem dX6_readNight_44 : decode cX6_readNight 44 = .ok (.iconst 1, 1) := by decide +kernel
theorem dX6_readNight_45 : decode cX6_readNight 45 = .ok (.bipush 50, 2) := by decide +kernel
theorem dX6_readNight_47 : decode cX6_readNight 47 = .ok (.invokevirtual 64, 3) := by decide +kernel
theorem dX6_readNight_50 : decode cX6_readNight 50 = .ok (.istore 4, 2) := by decide +kernel
theorem dX6_readNight_52 : decode cX6_readNight 52 = .ok (.aload_n 0, 1) := by decide +kernel
theorem dX6_readNight_53 : decode cX6_readNight 53 = .ok (.invokevirtual 68, 3) := by decide +kernel
theorem dX6_readNight_56 : decode cX6_readNight 56 = .ok (.aload_n 0, 1) := by decide +kernel
theorem dX6_readNight_57 : decode cX6_readNight 57 = .ok (.invokevirtual 31, 3) := by decide +kernel
theorem dX6_readNight_60 : decode cX6_readNight 60 = .ok (.ifCond .ne 11, 3) := by decide +kernel
theorem dX6_readNight_63 : decode cX6_readNight 63 = .ok (.aload_n 1, 1) := by decide +kernel
theorem dX6_readNight_64 : decode cX6_readNight 64 = .ok (.iload_n 2, 1) := by decide +kernel
theorem dX6_readNight_65 : decode cX6_readNight 65 = .ok (.iload_n 3, 1) := by decide +kernel
theorem dX6_readNight_66 : decode cX6_readNight 66 = .ok (.iload 4, 2) := by decide +kernel
theorem dX6_readNight_68 : decode cX6_readNight 68 = .ok (.invokevirtual 71, 3) := by decide +kernel
theorem dX6_readNight_71 : decode cX6_readNight 71 = .ok (.return_, 1) := by decide +kernel
theorem dX6_readHouses_0 : decode cX6_readHouses 0 = .ok (.aload_n 1, 1) := by decide +kernel
theorem dX6_readHouses_1 : decode cX6_readHouses 1 = .ok (.invokevirtual 75, 3) := by decide +kernel
theorem dX6_readHouses_4 : decode cX6_readHouses 4 = .ok (.ifCond .le 13, 3) := by decide +kernel
theorem dX6_readHouses_7 : decode cX6_readHouses 7 = .ok (.aload_n 0, 1) := by decide +kernel
theorem dX6_readHouses_8 : decode cX6_readHouses 8 = .ok (.iconst 3, 1) := by decide +kernel
theorem dX6_readHouses_9 : decode cX6_readHouses 9 = .ok (.aload_n 0, 1) := by decide +kernel
theorem dX6_readHouses_10 : decode cX6_readHouses 10 = .ok (.getfield 25, 3) := by decide +kernel
theorem dX6_readHouses_13 : decode cX6_readHouses 13 = .ok (.invokevirtual 48, 3) := by decide +kernel
theorem dX6_readHouses_16 : decode cX6_readHouses 16 = .ok (.return_, 1) := by decide +kernel
theorem dX6_readHouses_17 : decode cX6_readHouses 17 = .ok (.aload_n 0, 1) := by decide +kernel
theorem dX6_readHouses_18 : decode cX6_readHouses 18 = .ok (.dup, 1) := by decide +kernel
theorem dX6_readHouses_19 : decode cX6_readHouses 19 = .ok (.getfield 25, 3) := by decide +kernel
theorem dX6_readHouses_22 : decode cX6_readHouses 22 = .ok (.iconst 1, 1) := by decide +kernel
theorem dX6_readHouses_23 : decode cX6_readHouses 23 = .ok (.iadd, 1) := by decide +kernel
theorem dX6_readHouses_24 : decode cX6_readHouses 24 = .ok (.putfield 25, 3) := by decide +kernel
theorem dX6_readHouses_27 : decode cX6_readHouses 27 = .ok (.aload_n 1, 1) := by decide +kernel
theorem dX6_readHouses_28 : decode cX6_readHouses 28 = .ok (.aload_n 0, 1) := by decide +kernel
theorem dX6_readHouses_29 : decode cX6_readHouses 29 = .ok (.iconst 1, 1) := by decide +kernel
theorem dX6_readHouses_30 : decode cX6_readHouses 30 = .ok (.bipush 60, 2) := by decide +kernel
theorem dX6_readHouses_32 : decode cX6_readHouses 32 = .ok (.invokevirtual 64, 3) := by decide +kernel
theorem dX6_readHouses_35 : decode cX6_readHouses 35 = .ok (.invokevirtual 78, 3) := by decide +kernel
theorem dX6_readHouses_38 : decode cX6_readHouses 38 = .ok (.aload_n 0, 1) := by decide +kernel
theorem dX6_readHouses_39 : decode cX6_readHouses 39 = .ok (.invokevirtual 28, 3) := by decide +kernel
theorem dX6_readHouses_42 : decode cX6_readHouses 42 = .ok (.iconst 1, 1) := by decide +kernel
theorem dX6_readHouses_43 : decode cX6_readHouses 43 = .ok (.istore_n 2, 1) := by decide +kernel
theorem dX6_readHouses_44 : decode cX6_readHouses 44 = .ok (.iload_n 2, 1) := by decide +kernel
theorem dX6_readHouses_45 : decode cX6_readHouses 45 = .ok (.bipush 8, 2) := by decide +kernel
theorem dX6_readHouses_47 : decode cX6_readHouses 47 = .ok (.if_icmp .ge 50, 3) := by decide +kernel
theorem dX6_readHouses_50 : decode cX6_readHouses 50 = .ok (.aload_n 0, 1) := by decide +kernel
theorem dX6_readHouses_51 : decode cX6_readHouses 51 = .ok (.invokevirtual 39, 3) := by decide +kernel
theorem dX6_readHouses_54 : decode cX6_readHouses 54 = .ok (.bipush 44, 2) := by decide +kernel
theorem dX6_readHouses_56 : decode cX6_readHouses 56 = .ok (.if_icmp .ne 41, 3) := by decide +kernel
theorem dX6_readHouses_59 : decode cX6_readHouses 59 = .ok (.aload_n 0, 1) := by decide +kernel
theorem dX6_readHouses_60 : decode cX6_readHouses 60 = .ok (.invokevirtual 31, 3) := by decide +kernel
theorem dX6_readHouses_63 : decode cX6_readHouses 63 = .ok (.ifCond .ne 34, 3) := by decide +kernel
theorem dX6_readHouses_66 : decode cX6_readHouses 66 = .ok (.aload_n 0, 1) := by decide +kernel
theorem dX6_readHouses_67 : decode cX6_readHouses 67 = .ok (.dup, 1) := by decide +kernel
theorem dX6_readHouses_68 : decode cX6_readHouses 68 = .ok (.getfield 25, 3) := by decide +kernel
theorem dX6_readHouses_71 : decode cX6_readHouses 71 = .ok (.iconst 1, 1) := by decide +kernel
theorem dX6_readHouses_72 : decode cX6_readHouses 72 = .ok (.iadd, 1) := by decide +kernel
theorem dX6_readHouses_73 : decode cX6_readHouses 73 = .ok (.putfield 25, 3) := by decide +kernel
theorem dX6_readHouses_76 : decode cX6_readHouses 76 = .ok (.aload_n 1, 1) := by decide +kernel
theorem dX6_readHouses_77 : decode cX6_readHouses 77 = .ok (.aload_n 0, 1) := by decide +kernel
theorem dX6_readHouses_78 : decode cX6_readHouses 78 = .ok (.iconst 1, 1) := by decide +kernel
theorem dX6_readHouses_79 : decode cX6_readHouses 79 = .ok (.bipush 60, 2) := by decide +kernel
theorem dX6_readHouses_81 : decode cX6_readHouses 81 = .ok (.invokevirtual 64, 3) := by decide +kernel
theorem dX6_readHouses_84 : decode cX6_readHouses 84 = .ok (.invokevirtual 78, 3) := by decide +kernel
theorem dX6_readHouses_87 : decode cX6_readHouses 87 = .ok (.aload_n 0, 1) := by decide +kernel
theorem dX6_readHouses_88 : decode cX6_readHouses 88 = .ok (.invokevirtual 28, 3) := by decide +kernel
theorem dX6_readHouses_91 : decode cX6_readHouses 91 = .ok (.iinc 2 1, 3) := by decide +kernel
theorem dX6_readHouses_94 : decode cX6_readHouses 94 = .ok (.goto (-50), 3) := by decide +kernel
theorem dX6_readHouses_97 : decode cX6_readHouses 97 = .ok (.aload_n 0, 1) := by decide +kernel
theorem dX6_readHouses_98 : decode cX6_readHouses 98 = .ok (.invokevirtual 68, 3) := by decide +kernel
theorem dX6_readHouses_101 : decode cX6_readHouses 101 = .ok (.return_, 1) := by decide +kernel
theorem dX6_readWalker_0 : decode cX6_readWalker 0 = .ok (.aload_n 1, 1) := by decide +kernel
theorem dX6_readWalker_1 : decode cX6_readWalker 1 = .ok (.invokevirtual 82, 3) := by decide +kernel
theorem dX6_readWalker_4 : decode cX6_readWalker 4 = .ok (.iconst 4, 1) := by decide +kernel
theorem dX6_readWalker_5 : decode cX6_readWalker 5 = .ok (.if_icmp .lt 13, 3) := by decide +kernel
theorem dX6_readWalker_8 : decode cX6_readWalker 8 = .ok (.aload_n 0, 1) := by decide +kernel
theorem dX6_readWalker_9 : decode cX6_readWalker 9 = .ok (.iconst 3, 1) := by decide +kernel
theorem dX6_readWalker_10 : decode cX6_readWalker 10 = .ok (.aload_n 0, 1) := by decide +kernel
theorem dX6_readWalker_11 : decode cX6_readWalker 11 = .ok (.getfield 25, 3) := by decide +kernel
theorem dX6_readWalker_14 : decode cX6_readWalker 14 = .ok (.invokevirtual 48, 3) := by decide +kernel
theorem dX6_readWalker_17 : decode cX6_readWalker 17 = .ok (.return_, 1) := by decide +kernel
theorem dX6_readWalker_18 : decode cX6_readWalker 18 = .ok (.aload_n 0, 1) := by decide +kernel
theorem dX6_readWalker_19 : decode cX6_readWalker 19 = .ok (.dup, 1) := by decide +kernel
theorem dX6_readWalker_20 : decode cX6_readWalker 20 = .ok (.getfield 25, 3) := by decide +kernel
theorem dX6_readWalker_23 : decode cX6_readWalker 23 = .ok (.iconst 1, 1) := by decide +kernel
theorem dX6_readWalker_24 : decode cX6_readWalker 24 = .ok (.iadd, 1) := by decide +kernel
theorem dX6_readWalker_25 : decode cX6_readWalker 25 = .ok (.putfield 25, 3) := by decide +kernel
theorem dX6_readWalker_28 : decode cX6_readWalker 28 = .ok (.aload_n 0, 1) := by decide +kernel
theorem dX6_readWalker_29 : decode cX6_readWalker 29 = .ok (.iconst 0, 1) := by decide +kernel
theorem dX6_readWalker_30 : decode cX6_readWalker 30 = .ok (.aload_n 1, 1) := by decide +kernel
theorem dX6_readWalker_31 : decode cX6_readWalker 31 = .ok (.invokevirtual 85, 3) := by decide +kernel
theorem dX6_readWalker_34 : decode cX6_readWalker 34 = .ok (.iconst 1, 1) := by decide +kernel
theorem dX6_readWalker_35 : decode cX6_readWalker 35 = .ok (.isub, 1) := by decide +kernel
theorem dX6_readWalker_36 : decode cX6_readWalker 36 = .ok (.invokevirtual 64, 3) := by decide +kernel
theorem dX6_readWalker_39 : decode cX6_readWalker 39 = .ok (.istore_n 2, 1) := by decide +kernel
theorem dX6_readWalker_40 : decode cX6_readWalker 40 = .ok (.aload_n 0, 1) := by decide +kernel
theorem dX6_readWalker_41 : decode cX6_readWalker 41 = .ok (.iconst 1, 1) := by decide +kernel
theorem dX6_readWalker_42 : decode cX6_readWalker 42 = .ok (.bipush 40, 2) := by decide +kernel
theorem dX6_readWalker_44 : decode cX6_readWalker 44 = .ok (.invokevirtual 64, 3) := by decide +kernel
theorem dX6_readWalker_47 : decode cX6_readWalker 47 = .ok (.istore_n 3, 1) := by decide +kernel
theorem dX6_readWalker_48 : decode cX6_readWalker 48 = .ok (.aload_n 0, 1) := by decide +kernel
theorem dX6_readWalker_49 : decode cX6_readWalker 49 = .ok (.invokevirtual 68, 3) := by decide +kernel
theorem dX6_readWalker_52 : decode cX6_readWalker 52 = .ok (.aload_n 1, 1) := by decide +kernel
theorem dX6_readWalker_53 : decode cX6_readWalker 53 = .ok (.iload_n 2, 1) := by decide +kernel
theorem dX6_readWalker_54 : decode cX6_readWalker 54 = .ok (.iload_n 3, 1) := by decide +kernel
theorem dX6_readWalker_55 : decode cX6_readWalker 55 = .ok (.invokevirtual 88, 3) := by decide +kernel
theorem dX6_readWalker_58 : decode cX6_readWalker 58 = .ok (.return_, 1) := by decide +kernel
theorem dX6_readRope_0 : decode cX6_readRope 0 = .ok (.aload_n 0, 1) := by decide +kernel
theorem dX6_readRope_1 : decode cX6_readRope 1 = .ok (.dup, 1) := by decide +kernel
theorem dX6_readRope_2 : decode cX6_readRope 2 = .ok (.getfield 25, 3) := by decide +kernel
theorem dX6_readRope_5 : decode cX6_readRope 5 = .ok (.iconst 1, 1) := by decide +kernel
theorem dX6_readRope_6 : decode cX6_readRope 6 = .ok (.iadd, 1) := by decide +kernel
theorem dX6_readRope_7 : decode cX6_readRope 7 = .ok (.putfield 25, 3) := by decide +kernel
theorem dX6_readRope_10 : decode cX6_readRope 10 = .ok (.aload_n 0, 1) := by decide +kernel
theorem dX6_readRope_11 : decode cX6_readRope 11 = .ok (.invokevirtual 28, 3) := by decide +kernel
theorem dX6_readRope_14 : decode cX6_readRope 14 = .ok (.aload_n 0, 1) := by decide +kernel
theorem dX6_readRope_15 : decode cX6_readRope 15 = .ok (.getfield 25, 3) := by decide +kernel
theorem dX6_readRope_18 : decode cX6_readRope 18 = .ok (.istore_n 2, 1) := by decide +kernel
theorem dX6_readRope_19 : decode cX6_readRope 19 = .ok (.aload_n 0, 1) := by decide +kernel
theorem dX6_readRope_20 : decode cX6_readRope 20 = .ok (.iconst 0, 1) := by decide +kernel
theorem dX6_readRope_21 : decode cX6_readRope 21 = .ok (.aload_n 1, 1) := by decide +kernel
theorem dX6_readRope_22 : decode cX6_readRope 22 = .ok (.invokevirtual 75, 3) := by decide +kernel
theorem dX6_readRope_25 : decode cX6_readRope 25 = .ok (.iconst 1, 1) := by decide +kernel
theorem dX6_readRope_26 : decode cX6_readRope 26 = .ok (.isub, 1) := by decide +kernel
theorem dX6_readRope_27 : decode cX6_readRope 27 = .ok (.invokevirtual 64, 3) := by decide +kernel
theorem dX6_readRope_30 : decode cX6_readRope 30 = .ok (.istore_n 3, 1) := by decide +kernel
theorem dX6_readRope_31 : decode cX6_readRope 31 = .ok (.aload_n 0, 1) := by decide +kernel
theorem dX6_readRope_32 : decode cX6_readRope 32 = .ok (.invokevirtual 31, 3) := by decide +kernel
theorem dX6_readRope_35 : decode cX6_readRope 35 = .ok (.ifCond .ne 21, 3) := by decide +kernel
theorem dX6_readRope_38 : decode cX6_readRope 38 = .ok (.aload_n 1, 1) := by decide +kernel
theorem dX6_readRope_39 : decode cX6_readRope 39 = .ok (.invokevirtual 91, 3) := by decide +kernel
theorem dX6_readRope_42 : decode cX6_readRope 42 = .ok (.iload_n 3, 1) := by decide +kernel
theorem dX6_readRope_43 : decode cX6_readRope 43 = .ok (.ishr, 1) := by decide +kernel
theorem dX6_readRope_44 : decode cX6_readRope 44 = .ok (.iconst 1, 1) := by decide +kernel
theorem dX6_readRope_45 : decode cX6_readRope 45 = .ok (.iand, 1) := by decide +kernel
theorem dX6_readRope_46 : decode cX6_readRope 46 = .ok (.iconst 1, 1) := by decide +kernel
theorem dX6_readRope_47 : decode cX6_readRope 47 = .ok (.if_icmp .ne 9, 3) := by decide +kernel
theorem dX6_readRope_50 : decode cX6_readRope 50 = .ok (.aload_n 0, 1) := by decide +kernel
theorem dX6_readRope_51 : decode cX6_readRope 51 = .ok (.iconst 4, 1) := by decide +kernel
theorem dX6_readRope_52 : decode cX6_readRope 52 = .ok (.iload_n 2, 1) := by decide +kernel
theorem dX6_readRope_53 : decode cX6_readRope 53 = .ok (.invokevirtual 48, 3) := by decide +kernel
