theorem dX10_drift_108 : decode cX10_drift 108 = .ok (.iadd, 1) := by decide +kernel
theorem dX10_drift_109 : decode cX10_drift 109 = .ok (.iconst 2, 1) := by decide +kernel
theorem dX10_drift_110 : decode cX10_drift 110 = .ok (.iadd, 1) := by decide +kernel
theorem dX10_drift_111 : decode cX10_drift 111 = .ok (.iaload, 1) := by decide +kernel
theorem dX10_drift_112 : decode cX10_drift 112 = .ok (.iastore, 1) := by decide +kernel
theorem dX10_drift_113 : decode cX10_drift 113 = .ok (.iinc 4 1, 3) := by decide +kernel
theorem dX10_drift_116 : decode cX10_drift 116 = .ok (.goto (-92), 3) := by decide +kernel
theorem dX10_drift_119 : decode cX10_drift 119 = .ok (.aload_n 0, 1) := by decide +kernel
theorem dX10_drift_120 : decode cX10_drift 120 = .ok (.invokevirtual 206, 3) := by decide +kernel
theorem dX10_drift_123 : decode cX10_drift 123 = .ok (.iinc 3 1, 3) := by decide +kernel
theorem dX10_drift_126 : decode cX10_drift 126 = .ok (.goto (-118), 3) := by decide +kernel
theorem dX10_drift_129 : decode cX10_drift 129 = .ok (.iload_n 2, 1) := by decide +kernel
theorem dX10_drift_130 : decode cX10_drift 130 = .ok (.ifCond .ne 12, 3) := by decide +kernel
theorem dX10_drift_133 : decode cX10_drift 133 = .ok (.aload_n 0, 1) := by decide +kernel
theorem dX10_drift_134 : decode cX10_drift 134 = .ok (.getfield 41, 3) := by decide +kernel
theorem dX10_drift_137 : decode cX10_drift 137 = .ok (.iconst 0, 1) := by decide +kernel
theorem dX10_drift_138 : decode cX10_drift 138 = .ok (.iaload, 1) := by decide +kernel
theorem dX10_drift_139 : decode cX10_drift 139 = .ok (.goto 4, 3) := by decide +kernel
theorem dX10_drift_142 : decode cX10_drift 142 = .ok (.iload_n 2, 1) := by decide +kernel
theorem dX10_drift_143 : decode cX10_drift 143 = .ok (.ireturn, 1) := by decide +kernel
theorem dX10_undo_0 : decode cX10_undo 0 = .ok (.iload_n 1, 1) := by decide +kernel
theorem dX10_undo_1 : decode cX10_undo 1 = .ok (.iconst 1, 1) := by decide +kernel
theorem dX10_undo_2 : decode cX10_undo 2 = .ok (.bipush 30, 2) := by decide +kernel
theorem dX10_undo_4 : decode cX10_undo 4 = .ok (.invokestatic 69, 3) := by decide +kernel
theorem dX10_undo_7 : decode cX10_undo 7 = .ok (.ifCond .ne 6, 3) := by decide +kernel
theorem dX10_undo_10 : decode cX10_undo 10 = .ok (.ldc 73, 2) := by decide +kernel
theorem dX10_undo_12 : decode cX10_undo 12 = .ok (.ireturn, 1) := by decide +kernel
theorem dX10_undo_13 : decode cX10_undo 13 = .ok (.aload_n 0, 1) := by decide +kernel
theorem dX10_undo_14 : decode cX10_undo 14 = .ok (.getfield 131, 3) := by decide +kernel
theorem dX10_undo_17 : decode cX10_undo 17 = .ok (.iload_n 1, 1) := by decide +kernel
theorem dX10_undo_18 : decode cX10_undo 18 = .ok (.if_icmp .ge 6, 3) := by decide +kernel
theorem dX10_undo_21 : decode cX10_undo 21 = .ok (.ldc 190, 2) := by decide +kernel
theorem dX10_undo_23 : decode cX10_undo 23 = .ok (.ireturn, 1) := by decide +kernel
theorem dX10_undo_24 : decode cX10_undo 24 = .ok (.aload_n 0, 1) := by decide +kernel
theorem dX10_undo_25 : decode cX10_undo 25 = .ok (.dup, 1) := by decide +kernel
theorem dX10_undo_26 : decode cX10_undo 26 = .ok (.getfield 131, 3) := by decide +kernel
theorem dX10_undo_29 : decode cX10_undo 29 = .ok (.iload_n 1, 1) := by decide +kernel
theorem dX10_undo_30 : decode cX10_undo 30 = .ok (.isub, 1) := by decide +kernel
theorem dX10_undo_31 : decode cX10_undo 31 = .ok (.putfield 131, 3) := by decide +kernel
theorem dX10_undo_34 : decode cX10_undo 34 = .ok (.aload_n 0, 1) := by decide +kernel
theorem dX10_undo_35 : decode cX10_undo 35 = .ok (.getfield 44, 3) := by decide +kernel
theorem dX10_undo_38 : decode cX10_undo 38 = .ok (.bipush 14, 2) := by decide +kernel
theorem dX10_undo_40 : decode cX10_undo 40 = .ok (.aload_n 0, 1) := by decide +kernel
theorem dX10_undo_41 : decode cX10_undo 41 = .ok (.getfield 131, 3) := by decide +kernel
theorem dX10_undo_44 : decode cX10_undo 44 = .ok (.imul, 1) := by decide +kernel
theorem dX10_undo_45 : decode cX10_undo 45 = .ok (.aload_n 0, 1) := by decide +kernel
theorem dX10_undo_46 : decode cX10_undo 46 = .ok (.getfield 41, 3) := by decide +kernel
theorem dX10_undo_49 : decode cX10_undo 49 = .ok (.iconst 0, 1) := by decide +kernel
theorem dX10_undo_50 : decode cX10_undo 50 = .ok (.invokestatic 186, 3) := by decide +kernel
theorem dX10_undo_53 : decode cX10_undo 53 = .ok (.aload_n 0, 1) := by decide +kernel
theorem dX10_undo_54 : decode cX10_undo 54 = .ok (.getfield 41, 3) := by decide +kernel
theorem dX10_undo_57 : decode cX10_undo 57 = .ok (.iconst 0, 1) := by decide +kernel
theorem dX10_undo_58 : decode cX10_undo 58 = .ok (.iaload, 1) := by decide +kernel
theorem dX10_undo_59 : decode cX10_undo 59 = .ok (.ireturn, 1) := by decide +kernel
theorem dX10_areWalkers_0 : decode cX10_areWalkers 0 = .ok (.aload_n 0, 1) := by decide +kernel
theorem dX10_areWalkers_1 : decode cX10_areWalkers 1 = .ok (.iload_n 1, 1) := by decide +kernel
theorem dX10_areWalkers_2 : decode cX10_areWalkers 2 = .ok (.invokevirtual 180, 3) := by decide +kernel
theorem dX10_areWalkers_5 : decode cX10_areWalkers 5 = .ok (.ifCond .eq 20, 3) := by decide +kernel
theorem dX10_areWalkers_8 : decode cX10_areWalkers 8 = .ok (.aload_n 0, 1) := by decide +kernel
theorem dX10_areWalkers_9 : decode cX10_areWalkers 9 = .ok (.iload_n 2, 1) := by decide +kernel
theorem dX10_areWalkers_10 : decode cX10_areWalkers 10 = .ok (.invokevirtual 180, 3) := by decide +kernel
theorem dX10_areWalkers_13 : decode cX10_areWalkers 13 = .ok (.ifCond .eq 12, 3) := by decide +kernel
theorem dX10_areWalkers_16 : decode cX10_areWalkers 16 = .ok (.iload_n 1, 1) := by decide +kernel
theorem dX10_areWalkers_17 : decode cX10_areWalkers 17 = .ok (.iload_n 2, 1) := by decide +kernel
theorem dX10_areWalkers_18 : decode cX10_areWalkers 18 = .ok (.if_icmp .eq 7, 3) := by decide +kernel
theorem dX10_areWalkers_21 : decode cX10_areWalkers 21 = .ok (.iconst 1, 1) := by decide +kernel
theorem dX10_areWalkers_22 : decode cX10_areWalkers 22 = .ok (.goto 4, 3) := by decide +kernel
theorem dX10_areWalkers_25 : decode cX10_areWalkers 25 = .ok (.iconst 0, 1) := by decide +kernel
theorem dX10_areWalkers_26 : decode cX10_areWalkers 26 = .ok (.ireturn, 1) := by decide +kernel
theorem dX10_areHouses_0 : decode cX10_areHouses 0 = .ok (.aload_n 0, 1) := by decide +kernel
theorem dX10_areHouses_1 : decode cX10_areHouses 1 = .ok (.iload_n 1, 1) := by decide +kernel
theorem dX10_areHouses_2 : decode cX10_areHouses 2 = .ok (.invokevirtual 222, 3) := by decide +kernel
theorem dX10_areHouses_5 : decode cX10_areHouses 5 = .ok (.ifCond .eq 20, 3) := by decide +kernel
theorem dX10_areHouses_8 : decode cX10_areHouses 8 = .ok (.aload_n 0, 1) := by decide +kernel
theorem dX10_areHouses_9 : decode cX10_areHouses 9 = .ok (.iload_n 2, 1) := by decide +kernel
theorem dX10_areHouses_10 : decode cX10_areHouses 10 = .ok (.invokevirtual 222, 3) := by decide +kernel
theorem dX10_areHouses_13 : decode cX10_areHouses 13 = .ok (.ifCond .eq 12, 3) := by decide +kernel
theorem dX10_areHouses_16 : decode cX10_areHouses 16 = .ok (.iload_n 1, 1) := by decide +kernel
theorem dX10_areHouses_17 : decode cX10_areHouses 17 = .ok (.iload_n 2, 1) := by decide +kernel
theorem dX10_areHouses_18 : decode cX10_areHouses 18 = .ok (.if_icmp .eq 7, 3) := by decide +kernel
theorem dX10_areHouses_21 : decode cX10_areHouses 21 = .ok (.iconst 1, 1) := by decide +kernel
theorem dX10_areHouses_22 : decode cX10_areHouses 22 = .ok (.goto 4, 3) := by decide +kernel
theorem dX10_areHouses_25 : decode cX10_areHouses 25 = .ok (.iconst 0, 1) := by decide +kernel
theorem dX10_areHouses_26 : decode cX10_areHouses 26 = .ok (.ireturn, 1) := by decide +kernel
theorem dX10_apart_0 : decode cX10_apart 0 = .ok (.aload_n 0, 1) := by decide +kernel
theorem dX10_apart_1 : decode cX10_apart 1 = .ok (.iload_n 1, 1) := by decide +kernel
theorem dX10_apart_2 : decode cX10_apart 2 = .ok (.iload_n 2, 1) := by decide +kernel
theorem dX10_apart_3 : decode cX10_apart 3 = .ok (.invokevirtual 225, 3) := by decide +kernel
theorem dX10_apart_6 : decode cX10_apart 6 = .ok (.ifCond .ne 6, 3) := by decide +kernel
theorem dX10_apart_9 : decode cX10_apart 9 = .ok (.ldc 161, 2) := by decide +kernel
theorem dX10_apart_11 : decode cX10_apart 11 = .ok (.ireturn, 1) := by decide +kernel
theorem dX10_apart_12 : decode cX10_apart 12 = .ok (.aload_n 0, 1) := by decide +kernel
theorem dX10_apart_13 : decode cX10_apart 13 = .ok (.iload_n 1, 1) := by decide +kernel
theorem dX10_apart_14 : decode cX10_apart 14 = .ok (.invokevirtual 183, 3) := by decide +kernel
theorem dX10_apart_17 : decode cX10_apart 17 = .ok (.aload_n 0, 1) := by decide +kernel
theorem dX10_apart_18 : decode cX10_apart 18 = .ok (.iload_n 2, 1) := by decide +kernel
theorem dX10_apart_19 : decode cX10_apart 19 = .ok (.invokevirtual 183, 3) := by decide +kernel
theorem dX10_apart_22 : decode cX10_apart 22 = .ok (.isub, 1) := by decide +kernel
theorem dX10_apart_23 : decode cX10_apart 23 = .ok (.istore_n 3, 1) := by decide +kernel
theorem dX10_apart_24 : decode cX10_apart 24 = .ok (.iload_n 3, 1) := by decide +kernel
theorem dX10_apart_25 : decode cX10_apart 25 = .ok (.ifCond .ge 8, 3) := by decide +kernel
theorem dX10_apart_28 : decode cX10_apart 28 = .ok (.iload_n 3, 1) := by decide +kernel
theorem dX10_apart_29 : decode cX10_apart 29 = .ok (.ineg, 1) := by decide +kernel
theorem dX10_apart_30 : decode cX10_apart 30 = .ok (.goto 4, 3) := by decide +kernel
theorem dX10_apart_33 : decode cX10_apart 33 = .ok (.iload_n 3, 1) := by decide +kernel
theorem dX10_apart_34 : decode cX10_apart 34 = .ok (.ireturn, 1) := by decide +kernel
theorem dX10_howLong_0 : decode cX10_howLong 0 = .ok (.iload_n 1, 1) := by decide +kernel
theorem dX10_howLong_1 : decode cX10_howLong 1 = .ok (.iconst 0, 1) := by decide +kernel
theorem dX10_howLong_2 : decode cX10_howLong 2 = .ok (.bipush 120, 2) := by decide +kernel
theorem dX10_howLong_4 : decode cX10_howLong 4 = .ok (.invokestatic 69, 3) := by decide +kernel
theorem dX10_howLong_7 : decode cX10_howLong 7 = .ok (.ifCond .ne 6, 3) := by decide +kernel
theorem dX10_howLong_10 : decode cX10_howLong 10 = .ok (.ldc 73, 2) := by decide +kernel
theorem dX10_howLong_12 : decode cX10_howLong 12 = .ok (.ireturn, 1) := by decide +kernel
theorem dX10_howLong_13 : decode cX10_howLong 13 = .ok (.aload_n 0, 1) := by decide +kernel
theorem dX10_howLong_14 : decode cX10_howLong 14 = .ok (.invokevirtual 198, 3) := by decide +kernel
theorem dX10_howLong_17 : decode cX10_howLong 17 = .ok (.ifCond .ne 6, 3) := by decide +kernel
theorem dX10_howLong_20 : decode cX10_howLong 20 = .ok (.ldc 190, 2) := by decide +kernel
theorem dX10_howLong_22 : decode cX10_howLong 22 = .ok (.ireturn, 1) := by decide +kernel
theorem dX10_howLong_23 : decode cX10_howLong 23 = .ok (.iconst 0, 1) := by decide +kernel
theorem dX10_howLong_24 : decode cX10_howLong 24 = .ok (.istore_n 2, 1) := by decide +kernel
theorem dX10_howLong_25 : decode cX10_howLong 25 = .ok (.iconst 0, 1) := by decide +kernel
theorem dX10_howLong_26 : decode cX10_howLong 26 = .ok (.istore_n 3, 1) := by decide +kernel
theorem dX10_howLong_27 : decode cX10_howLong 27 = .ok (.iload_n 3, 1) := by decide +kernel
theorem dX10_howLong_28 : decode cX10_howLong 28 = .ok (.aload_n 0, 1) := by decide +kernel
theorem dX10_howLong_29 : decode cX10_howLong 29 = .ok (.getfield 17, 3) := by decide +kernel
theorem dX10_howLong_32 : decode cX10_howLong 32 = .ok (.iconst 3, 1) := by decide +kernel
theorem dX10_howLong_33 : decode cX10_howLong 33 = .ok (.iaload, 1) := by decide +kernel
theorem dX10_howLong_34 : decode cX10_howLong 34 = .ok (.if_icmp .ge 18, 3) := by decide +kernel
theorem dX10_howLong_37 : decode cX10_howLong 37 = .ok (.iload_n 2, 1) := by decide +kernel
theorem dX10_howLong_38 : decode cX10_howLong 38 = .ok (.aload_n 0, 1) := by decide +kernel
theorem dX10_howLong_39 : decode cX10_howLong 39 = .ok (.iload_n 3, 1) := by decide +kernel
theorem dX10_howLong_40 : decode cX10_howLong 40 = .ok (.iload_n 1, 1) := by decide +kernel
theorem dX10_howLong_41 : decode cX10_howLong 41 = .ok (.invokevirtual 150, 3) := by decide +kernel
theorem dX10_howLong_44 : decode cX10_howLong 44 = .ok (.iadd, 1) := by decide +kernel
theorem dX10_howLong_45 : decode cX10_howLong 45 = .ok (.istore_n 2, 1) := by decide +kernel
theorem dX10_howLong_46 : decode cX10_howLong 46 = .ok (.iinc 3 1, 3) := by decide +kernel
theorem dX10_howLong_49 : decode cX10_howLong 49 = .ok (.goto (-22), 3) := by decide +kernel
theorem dX10_howLong_52 : decode cX10_howLong 52 = .ok (.iload_n 2, 1) := by decide +kernel
theorem dX10_howLong_53 : decode cX10_howLong 53 = .ok (.ireturn, 1) := by decide +kernel
theorem dX10_takesBy_0 : decode cX10_takesBy 0 = .ok (.aload_n 0, 1) := by decide +kernel
theorem dX10_takesBy_1 : decode cX10_takesBy 1 = .ok (.iload_n 1, 1) := by decide +kernel
theorem dX10_takesBy_2 : decode cX10_takesBy 2 = .ok (.iload_n 2, 1) := by decide +kernel
theorem dX10_takesBy_3 : decode cX10_takesBy 3 = .ok (.iload_n 1, 1) := by decide +kernel
theorem dX10_takesBy_4 : decode cX10_takesBy 4 = .ok (.if_icmp .le 7, 3) := by decide +kernel
theorem dX10_takesBy_7 : decode cX10_takesBy 7 = .ok (.iconst 2, 1) := by decide +kernel
theorem dX10_takesBy_8 : decode cX10_takesBy 8 = .ok (.goto 4, 3) := by decide +kernel
theorem dX10_takesBy_11 : decode cX10_takesBy 11 = .ok (.iconst 0, 1) := by decide +kernel
theorem dX10_takesBy_12 : decode cX10_takesBy 12 = .ok (.iload_n 3, 1) := by decide +kernel
theorem dX10_takesBy_13 : decode cX10_takesBy 13 = .ok (.invokevirtual 228, 3) := by decide +kernel
theorem dX10_takesBy_16 : decode cX10_takesBy 16 = .ok (.iconst 1, 1) := by decide +kernel
theorem dX10_takesBy_17 : decode cX10_takesBy 17 = .ok (.istore 7, 2) := by decide +kernel
theorem dX10_takesBy_19 : decode cX10_takesBy 19 = .ok (.iload 7, 2) := by decide +kernel
theorem dX10_takesBy_21 : decode cX10_takesBy 21 = .ok (.iload 6, 2) := by decide +kernel
theorem dX10_takesBy_23 : decode cX10_takesBy 23 = .ok (.if_icmp .gt 33, 3) := by decide +kernel
theorem dX10_takesBy_26 : decode cX10_takesBy 26 = .ok (.aload_n 0, 1) := by decide +kernel
theorem dX10_takesBy_27 : decode cX10_takesBy 27 = .ok (.iload 4, 2) := by decide +kernel
theorem dX10_takesBy_29 : decode cX10_takesBy 29 = .ok (.iload 7, 2) := by decide +kernel
theorem dX10_takesBy_31 : decode cX10_takesBy 31 = .ok (.iadd, 1) := by decide +kernel
theorem dX10_takesBy_32 : decode cX10_takesBy 32 = .ok (.iconst 1, 1) := by decide +kernel
theorem dX10_takesBy_33 : decode cX10_takesBy 33 = .ok (.isub, 1) := by decide +kernel
theorem dX10_takesBy_34 : decode cX10_takesBy 34 = .ok (.iload 5, 2) := by decide +kernel
theorem dX10_takesBy_36 : decode cX10_takesBy 36 = .ok (.invokevirtual 194, 3) := by decide +kernel
theorem dX10_takesBy_39 : decode cX10_takesBy 39 = .ok (.aload_n 0, 1) := by decide +kernel
theorem dX10_takesBy_40 : decode cX10_takesBy 40 = .ok (.getfield 162, 3) := by decide +kernel
theorem dX10_takesBy_43 : decode cX10_takesBy 43 = .ok (.iload_n 2, 1) := by decide +kernel
theorem dX10_takesBy_44 : decode cX10_takesBy 44 = .ok (.if_icmp .ne 6, 3) := by decide +kernel
theorem dX10_takesBy_47 : decode cX10_takesBy 47 = .ok (.iload 7, 2) := by decide +kernel
theorem dX10_takesBy_49 : decode cX10_takesBy 49 = .ok (.ireturn, 1) := by decide +kernel
theorem dX10_takesBy_50 : decode cX10_takesBy 50 = .ok (.iinc 7 1, 3) := by decide +kernel
theorem dX10_takesBy_53 : decode cX10_takesBy 53 = .ok (.goto (-34), 3) := by decide +kernel
theorem dX10_takesBy_56 : decode cX10_takesBy 56 = .ok (.iconst (-1), 1) := by decide +kernel
theorem dX10_takesBy_57 : decode cX10_takesBy 57 = .ok (.ireturn, 1) := by decide +kernel
theorem dX10_takes_0 : decode cX10_takes 0 = .ok (.aload_n 0, 1) := by decide +kernel
theorem dX10_takes_1 : decode cX10_takes 1 = .ok (.iload_n 1, 1) := by decide +kernel
theorem dX10_takes_2 : decode cX10_takes 2 = .ok (.iload_n 2, 1) := by decide +kernel
theorem dX10_takes_3 : decode cX10_takes 3 = .ok (.invokevirtual 232, 3) := by decide +kernel
theorem dX10_takes_6 : decode cX10_takes 6 = .ok (.ifCond .ne 6, 3) := by decide +kernel
theorem dX10_takes_9 : decode cX10_takes 9 = .ok (.ldc 161, 2) := by decide +kernel
theorem dX10_takes_11 : decode cX10_takes 11 = .ok (.ireturn, 1) := by decide +kernel
theorem dX10_takes_12 : decode cX10_takes 12 = .ok (.iload_n 3, 1) := by decide +kernel
theorem dX10_takes_13 : decode cX10_takes 13 = .ok (.iconst 1, 1) := by decide +kernel
theorem dX10_takes_14 : decode cX10_takes 14 = .ok (.bipush 40, 2) := by decide +kernel
theorem dX10_takes_16 : decode cX10_takes 16 = .ok (.invokestatic 69, 3) := by decide +kernel
theorem dX10_takes_19 : decode cX10_takes 19 = .ok (.ifCond .eq 14, 3) := by decide +kernel
theorem dX10_takes_22 : decode cX10_takes 22 = .ok (.iload 4, 2) := by decide +kernel
theorem dX10_takes_24 : decode cX10_takes 24 = .ok (.iconst 0, 1) := by decide +kernel
theorem dX10_takes_25 : decode cX10_takes 25 = .ok (.bipush 119, 2) := by decide +kernel
theorem dX10_takes_27 : decode cX10_takes 27 = .ok (.invokestatic 69, 3) := by decide +kernel
theorem dX10_takes_30 : decode cX10_takes 30 = .ok (.ifCond .ne 6, 3) := by decide +kernel
theorem dX10_takes_33 : decode cX10_takes 33 = .ok (.ldc 73, 2) := by decide +kernel
theorem dX10_takes_35 : decode cX10_takes 35 = .ok (.ireturn, 1) := by decide +kernel
theorem dX10_takes_36 : decode cX10_takes 36 = .ok (.aload_n 0, 1) := by decide +kernel
theorem dX10_takes_37 : decode cX10_takes 37 = .ok (.iload_n 1, 1) := by decide +kernel
theorem dX10_takes_38 : decode cX10_takes 38 = .ok (.iload_n 2, 1) := by decide +kernel
theorem dX10_takes_39 : decode cX10_takes 39 = .ok (.iload_n 3, 1) := by decide +kernel
theorem dX10_takes_40 : decode cX10_takes 40 = .ok (.iload 4, 2) := by decide +kernel
theorem dX10_takes_42 : decode cX10_takes 42 = .ok (.aload_n 0, 1) := by decide +kernel
theorem dX10_takes_43 : decode cX10_takes 43 = .ok (.getfield 41, 3) := by decide +kernel
theorem dX10_takes_46 : decode cX10_takes 46 = .ok (.iconst 1, 1) := by decide +kernel
theorem dX10_takes_47 : decode cX10_takes 47 = .ok (.iaload, 1) := by decide +kernel
theorem dX10_takes_48 : decode cX10_takes 48 = .ok (.sipush 300, 3) := by decide +kernel
theorem dX10_takes_51 : decode cX10_takes 51 = .ok (.invokevirtual 235, 3) := by decide +kernel
theorem dX10_takes_54 : decode cX10_takes 54 = .ok (.ireturn, 1) := by decide +kernel
theorem dX10_setOut_0 : decode cX10_setOut 0 = .ok (.aload_n 0, 1) := by decide +kernel
theorem dX10_setOut_1 : decode cX10_setOut 1 = .ok (.iload_n 1, 1) := by decide +kernel
theorem dX10_setOut_2 : decode cX10_setOut 2 = .ok (.iload_n 2, 1) := by decide +kernel
theorem dX10_setOut_3 : decode cX10_setOut 3 = .ok (.invokevirtual 232, 3) := by decide +kernel
theorem dX10_setOut_6 : decode cX10_setOut 6 = .ok (.ifCond .ne 6, 3) := by decide +kernel
theorem dX10_setOut_9 : decode cX10_setOut 9 = .ok (.ldc 161, 2) := by decide +kernel
theorem dX10_setOut_11 : decode cX10_setOut 11 = .ok (.ireturn, 1) := by decide +kernel
theorem dX10_setOut_12 : decode cX10_setOut 12 = .ok (.iload_n 3, 1) := by decide +kernel
theorem dX10_setOut_13 : decode cX10_setOut 13 = .ok (.iconst 1, 1) := by decide +kernel
theorem dX10_setOut_14 : decode cX10_setOut 14 = .ok (.bipush 40, 2) := by decide +kernel
theorem dX10_setOut_16 : decode cX10_setOut 16 = .ok (.invokestatic 69, 3) := by decide +kernel
theorem dX10_setOut_19 : decode cX10_setOut 19 = .ok (.ifCond .eq 24, 3) := by decide +kernel
theorem dX10_setOut_22 : decode cX10_setOut 22 = .ok (.iload 4, 2) := by decide +kernel
theorem dX10_setOut_24 : decode cX10_setOut 24 = .ok (.iconst 0, 1) := by decide +kernel
theorem dX10_setOut_25 : decode cX10_setOut 25 = .ok (.bipush 119, 2) := by decide +kernel
theorem dX10_setOut_27 : decode cX10_setOut 27 = .ok (.invokestatic 69, 3) := by decide +kernel
theorem dX10_setOut_30 : decode cX10_setOut 30 = .ok (.ifCond .eq 13, 3) := by decide +kernel
theorem dX10_setOut_33 : decode cX10_setOut 33 = .ok (.iload 5, 2) := by decide +kernel
theorem dX10_setOut_35 : decode cX10_setOut 35 = .ok (.iconst 0, 1) := by decide +kernel
theorem dX10_setOut_36 : decode cX10_setOut 36 = .ok (.iconst 2, 1) := by decide +kernel
theorem dX10_setOut_37 : decode cX10_setOut 37 = .ok (.invokestatic 69, 3) := by decide +kernel
theorem dX10_setOut_40 : decode cX10_setOut 40 = .ok (.ifCond .ne 6, 3) := by decide +kernel
theorem dX10_setOut_43 : decode cX10_setOut 43 = .ok (.ldc 73, 2) := by decide +kernel
theorem dX10_setOut_45 : decode cX10_setOut 45 = .ok (.ireturn, 1) := by decide +kernel
theorem dX10_setOut_46 : decode cX10_setOut 46 = .ok (.iconst (-1), 1) := by decide +kernel
theorem dX10_setOut_47 : decode cX10_setOut 47 = .ok (.istore 6, 2) := by decide +kernel
theorem dX10_setOut_49 : decode cX10_setOut 49 = .ok (.iconst (-1), 1) := by decide +kernel
theorem dX10_setOut_50 : decode cX10_setOut 50 = .ok (.istore 7, 2) := by decide +kernel
theorem dX10_setOut_52 : decode cX10_setOut 52 = .ok (.iconst 0, 1) := by decide +kernel
theorem dX10_setOut_53 : decode cX10_setOut 53 = .ok (.istore 8, 2) := by decide +kernel
theorem dX10_setOut_55 : decode cX10_setOut 55 = .ok (.iconst 0, 1) := by decide +kernel
theorem dX10_setOut_56 : decode cX10_setOut 56 = .ok (.istore 9, 2) := by decide +kernel
theorem dX10_setOut_58 : decode cX10_setOut 58 = .ok (.iload 9, 2) := by decide +kernel
theorem dX10_setOut_60 : decode cX10_setOut 60 = .ok (.iload 4, 2) := by decide +kernel
theorem dX10_setOut_62 : decode cX10_setOut 62 = .ok (.if_icmp .gt 66, 3) := by decide +kernel
theorem dX10_setOut_65 : decode cX10_setOut 65 = .ok (.aload_n 0, 1) := by decide +kernel
theorem dX10_setOut_66 : decode cX10_setOut 66 = .ok (.iload_n 1, 1) := by decide +kernel
theorem dX10_setOut_67 : decode cX10_setOut 67 = .ok (.iload_n 2, 1) := by decide +kernel
theorem dX10_setOut_68 : decode cX10_setOut 68 = .ok (.iload_n 3, 1) := by decide +kernel
theorem dX10_setOut_69 : decode cX10_setOut 69 = .ok (.iload 9, 2) := by decide +kernel
theorem dX10_setOut_71 : decode cX10_setOut 71 = .ok (.aload_n 0, 1) := by decide +kernel
theorem dX10_setOut_72 : decode cX10_setOut 72 = .ok (.getfield 41, 3) := by decide +kernel
theorem dX10_setOut_75 : decode cX10_setOut 75 = .ok (.iconst 1, 1) := by decide +kernel
theorem dX10_setOut_76 : decode cX10_setOut 76 = .ok (.iaload, 1) := by decide +kernel
theorem dX10_setOut_77 : decode cX10_setOut 77 = .ok (.sipush 300, 3) := by decide +kernel
theorem dX10_setOut_80 : decode cX10_setOut 80 = .ok (.invokevirtual 235, 3) := by decide +kernel
theorem dX10_setOut_83 : decode cX10_setOut 83 = .ok (.istore 10, 2) := by decide +kernel
theorem dX10_setOut_85 : decode cX10_setOut 85 = .ok (.iload 10, 2) := by decide +kernel
theorem dX10_setOut_87 : decode cX10_setOut 87 = .ok (.iconst (-1), 1) := by decide +kernel
theorem dX10_setOut_88 : decode cX10_setOut 88 = .ok (.if_icmp .eq 34, 3) := by decide +kernel
theorem dX10_setOut_91 : decode cX10_setOut 91 = .ok (.iload 9, 2) := by decide +kernel
theorem dX10_setOut_93 : decode cX10_setOut 93 = .ok (.iload 10, 2) := by decide +kernel
theorem dX10_setOut_95 : decode cX10_setOut 95 = .ok (.iadd, 1) := by decide +kernel
theorem dX10_setOut_96 : decode cX10_setOut 96 = .ok (.iload 4, 2) := by decide +kernel
theorem dX10_setOut_98 : decode cX10_setOut 98 = .ok (.if_icmp .gt 24, 3) := by decide +kernel
theorem dX10_setOut_101 : decode cX10_setOut 101 = .ok (.iload 8, 2) := by decide +kernel
theorem dX10_setOut_103 : decode cX10_setOut 103 = .ok (.ifCond .ne 8, 3) := by decide +kernel
theorem dX10_setOut_106 : decode cX10_setOut 106 = .ok (.iload 9, 2) := by decide +kernel
theorem dX10_setOut_108 : decode cX10_setOut 108 = .ok (.goto 5, 3) := by decide +kernel
theorem dX10_setOut_111 : decode cX10_setOut 111 = .ok (.iload 6, 2) := by decide +kernel
theorem dX10_setOut_113 : decode cX10_setOut 113 = .ok (.istore 6, 2) := by decide +kernel
theorem dX10_setOut_115 : decode cX10_setOut 115 = .ok (.iload 9, 2) := by decide +kernel
theorem dX10_setOut_117 : decode cX10_setOut 117 = .ok (.istore 7, 2) := by decide +kernel
theorem dX10_setOut_119 : decode cX10_setOut 119 = .ok (.iinc 8 1, 3) := by decide +kernel
theorem dX10_setOut_122 : decode cX10_setOut 122 = .ok (.iinc 9 1, 3) := by decide +kernel
theorem dX10_setOut_125 : decode cX10_setOut 125 = .ok (.goto (-67), 3) := by decide +kernel
theorem dX10_setOut_128 : decode cX10_setOut 128 = .ok (.iload 5, 2) := by decide +kernel
theorem dX10_setOut_130 : decode cX10_setOut 130 = .ok (.ifCond .ne 8, 3) := by decide +kernel
theorem dX10_setOut_133 : decode cX10_setOut 133 = .ok (.iload 6, 2) := by decide +kernel
theorem dX10_setOut_135 : decode cX10_setOut 135 = .ok (.goto 16, 3) := by decide +kernel
theorem dX10_setOut_138 : decode cX10_setOut 138 = .ok (.iload 5, 2) := by decide +kernel
theorem dX10_setOut_140 : decode cX10_setOut 140 = .ok (.iconst 1, 1) := by decide +kernel
theorem dX10_setOut_141 : decode cX10_setOut 141 = .ok (.if_icmp .ne 8, 3) := by decide +kernel
theorem dX10_setOut_144 : decode cX10_setOut 144 = .ok (.iload 7, 2) := by decide +kernel
theorem dX10_setOut_146 : decode cX10_setOut 146 = .ok (.goto 5, 3) := by decide +kernel
theorem dX10_setOut_149 : decode cX10_setOut 149 = .ok (.iload 8, 2) := by decide +kernel
theorem dX10_setOut_151 : decode cX10_setOut 151 = .ok (.ireturn, 1) := by decide +kernel
theorem dX10_comes_0 : decode cX10_comes 0 = .ok (.aload_n 0, 1) := by decide +kernel
theorem dX10_comes_1 : decode cX10_comes 1 = .ok (.iload_n 1, 1) := by decide +kernel
theorem dX10_comes_2 : decode cX10_comes 2 = .ok (.invokevirtual 180, 3) := by decide +kernel
theorem dX10_comes_5 : decode cX10_comes 5 = .ok (.ifCond .eq 11, 3) := by decide +kernel
theorem dX10_comes_8 : decode cX10_comes 8 = .ok (.aload_n 0, 1) := by decide +kernel
theorem dX10_comes_9 : decode cX10_comes 9 = .ok (.iload_n 2, 1) := by decide +kernel
theorem dX10_comes_10 : decode cX10_comes 10 = .ok (.invokevirtual 222, 3) := by decide +kernel
theorem dX10_comes_13 : decode cX10_comes 13 = .ok (.ifCond .ne 6, 3) := by decide +kernel
theorem dX10_comes_16 : decode cX10_comes 16 = .ok (.ldc 161, 2) := by decide +kernel
theorem dX10_comes_18 : decode cX10_comes 18 = .ok (.ireturn, 1) := by decide +kernel
theorem dX10_comes_19 : decode cX10_comes 19 = .ok (.aload_n 0, 1) := by decide +kernel
theorem dX10_comes_20 : decode cX10_comes 20 = .ok (.iload_n 1, 1) := by decide +kernel
theorem dX10_comes_21 : decode cX10_comes 21 = .ok (.invokevirtual 174, 3) := by decide +kernel
theorem dX10_comes_24 : decode cX10_comes 24 = .ok (.iconst 0, 1) := by decide +kernel
theorem dX10_comes_25 : decode cX10_comes 25 = .ok (.istore_n 3, 1) := by decide +kernel
theorem dX10_comes_26 : decode cX10_comes 26 = .ok (.iload_n 3, 1) := by decide +kernel
theorem dX10_comes_27 : decode cX10_comes 27 = .ok (.sipush 301, 3) := by decide +kernel
theorem dX10_comes_30 : decode cX10_comes 30 = .ok (.if_icmp .ge 37, 3) := by decide +kernel
theorem dX10_comes_33 : decode cX10_comes 33 = .ok (.aload_n 0, 1) := by decide +kernel
theorem dX10_comes_34 : decode cX10_comes 34 = .ok (.getfield 162, 3) := by decide +kernel
theorem dX10_comes_37 : decode cX10_comes 37 = .ok (.iload_n 2, 1) := by decide +kernel
theorem dX10_comes_38 : decode cX10_comes 38 = .ok (.if_icmp .ne 5, 3) := by decide +kernel
theorem dX10_comes_41 : decode cX10_comes 41 = .ok (.iload_n 3, 1) := by decide +kernel
theorem dX10_comes_42 : decode cX10_comes 42 = .ok (.ireturn, 1) := by decide +kernel
theorem dX10_comes_43 : decode cX10_comes 43 = .ok (.aload_n 0, 1) := by decide +kernel
theorem dX10_comes_44 : decode cX10_comes 44 = .ok (.aload_n 0, 1) := by decide +kernel
theorem dX10_comes_45 : decode cX10_comes 45 = .ok (.getfield 41, 3) := by decide +kernel
theorem dX10_comes_48 : decode cX10_comes 48 = .ok (.iconst 0, 1) := by decide +kernel
theorem dX10_comes_49 : decode cX10_comes 49 = .ok (.iaload, 1) := by decide +kernel
theorem dX10_comes_50 : decode cX10_comes 50 = .ok (.iload_n 3, 1) := by decide +kernel
theorem dX10_comes_51 : decode cX10_comes 51 = .ok (.iadd, 1) := by decide +kernel
theorem dX10_comes_52 : decode cX10_comes 52 = .ok (.aload_n 0, 1) := by decide +kernel
theorem dX10_comes_53 : decode cX10_comes 53 = .ok (.getfield 41, 3) := by decide +kernel
theorem dX10_comes_56 : decode cX10_comes 56 = .ok (.iconst 1, 1) := by decide +kernel
theorem dX10_comes_57 : decode cX10_comes 57 = .ok (.iaload, 1) := by decide +kernel
theorem dX10_comes_58 : decode cX10_comes 58 = .ok (.invokevirtual 194, 3) := by decide +kernel
theorem dX10_comes_61 : decode cX10_comes 61 = .ok (.iinc 3 1, 3) := by decide +kernel
theorem dX10_comes_64 : decode cX10_comes 64 = .ok (.goto (-38), 3) := by decide +kernel
theorem dX10_comes_67 : decode cX10_comes 67 = .ok (.iconst (-1), 1) := by decide +kernel
theorem dX10_comes_68 : decode cX10_comes 68 = .ok (.ireturn, 1) := by decide +kernel
theorem dX10_meets_0 : decode cX10_meets 0 = .ok (.aload_n 0, 1) := by decide +kernel
theorem dX10_meets_1 : decode cX10_meets 1 = .ok (.iload_n 1, 1) := by decide +kernel
theorem dX10_meets_2 : decode cX10_meets 2 = .ok (.iload_n 2, 1) := by decide +kernel
theorem dX10_meets_3 : decode cX10_meets 3 = .ok (.invokevirtual 225, 3) := by decide +kernel
theorem dX10_meets_6 : decode cX10_meets 6 = .ok (.ifCond .ne 6, 3) := by decide +kernel
theorem dX10_meets_9 : decode cX10_meets 9 = .ok (.ldc 161, 2) := by decide +kernel
theorem dX10_meets_11 : decode cX10_meets 11 = .ok (.ireturn, 1) := by decide +kernel
theorem dX10_meets_12 : decode cX10_meets 12 = .ok (.aload_n 0, 1) := by decide +kernel
theorem dX10_meets_13 : decode cX10_meets 13 = .ok (.iload_n 1, 1) := by decide +kernel
theorem dX10_meets_14 : decode cX10_meets 14 = .ok (.invokevirtual 174, 3) := by decide +kernel
theorem dX10_meets_17 : decode cX10_meets 17 = .ok (.iconst 0, 1) := by decide +kernel
theorem dX10_meets_18 : decode cX10_meets 18 = .ok (.istore_n 3, 1) := by decide +kernel
theorem dX10_meets_19 : decode cX10_meets 19 = .ok (.iload_n 3, 1) := by decide +kernel
theorem dX10_meets_20 : decode cX10_meets 20 = .ok (.sipush 301, 3) := by decide +kernel
theorem dX10_meets_23 : decode cX10_meets 23 = .ok (.if_icmp .ge 45, 3) := by decide +kernel
theorem dX10_meets_26 : decode cX10_meets 26 = .ok (.aload_n 0, 1) := by decide +kernel
theorem dX10_meets_27 : decode cX10_meets 27 = .ok (.getfield 66, 3) := by decide +kernel
theorem dX10_meets_30 : decode cX10_meets 30 = .ok (.iload_n 3, 1) := by decide +kernel
theorem dX10_meets_31 : decode cX10_meets 31 = .ok (.aload_n 0, 1) := by decide +kernel
theorem dX10_meets_32 : decode cX10_meets 32 = .ok (.aload_n 0, 1) := by decide +kernel
theorem dX10_meets_33 : decode cX10_meets 33 = .ok (.getfield 41, 3) := by decide +kernel
theorem dX10_meets_36 : decode cX10_meets 36 = .ok (.iconst 0, 1) := by decide +kernel
theorem dX10_meets_37 : decode cX10_meets 37 = .ok (.iaload, 1) := by decide +kernel
theorem dX10_meets_38 : decode cX10_meets 38 = .ok (.iload_n 3, 1) := by decide +kernel
theorem dX10_meets_39 : decode cX10_meets 39 = .ok (.iadd, 1) := by decide +kernel
theorem dX10_meets_40 : decode cX10_meets 40 = .ok (.invokevirtual 177, 3) := by decide +kernel
theorem dX10_meets_43 : decode cX10_meets 43 = .ok (.iastore, 1) := by decide +kernel
theorem dX10_meets_44 : decode cX10_meets 44 = .ok (.aload_n 0, 1) := by decide +kernel
theorem dX10_meets_45 : decode cX10_meets 45 = .ok (.aload_n 0, 1) := by decide +kernel
theorem dX10_meets_46 : decode cX10_meets 46 = .ok (.getfield 41, 3) := by decide +kernel
theorem dX10_meets_49 : decode cX10_meets 49 = .ok (.iconst 0, 1) := by decide +kernel
theorem dX10_meets_50 : decode cX10_meets 50 = .ok (.iaload, 1) := by decide +kernel
theorem dX10_meets_51 : decode cX10_meets 51 = .ok (.iload_n 3, 1) := by decide +kernel
theorem dX10_meets_52 : decode cX10_meets 52 = .ok (.iadd, 1) := by decide +kernel
theorem dX10_meets_53 : decode cX10_meets 53 = .ok (.aload_n 0, 1) := by decide +kernel
theorem dX10_meets_54 : decode cX10_meets 54 = .ok (.getfield 41, 3) := by decide +kernel
theorem dX10_meets_57 : decode cX10_meets 57 = .ok (.iconst 1, 1) := by decide +kernel
theorem dX10_meets_58 : decode cX10_meets 58 = .ok (.iaload, 1) := by decide +kernel
theorem dX10_meets_59 : decode cX10_meets 59 = .ok (.invokevirtual 194, 3) := by decide +kernel
theorem dX10_meets_62 : decode cX10_meets 62 = .ok (.iinc 3 1, 3) := by decide +kernel
theorem dX10_meets_65 : decode cX10_meets 65 = .ok (.goto (-46), 3) := by decide +kernel
theorem dX10_meets_68 : decode cX10_meets 68 = .ok (.aload_n 0, 1) := by decide +kernel
theorem dX10_meets_69 : decode cX10_meets 69 = .ok (.iload_n 2, 1) := by decide +kernel
theorem dX10_meets_70 : decode cX10_meets 70 = .ok (.invokevirtual 174, 3) := by decide +kernel
theorem dX10_meets_73 : decode cX10_meets 73 = .ok (.iconst 0, 1) := by decide +kernel
theorem dX10_meets_74 : decode cX10_meets 74 = .ok (.istore_n 3, 1) := by decide +kernel
theorem dX10_meets_75 : decode cX10_meets 75 = .ok (.iconst 0, 1) := by decide +kernel
theorem dX10_meets_76 : decode cX10_meets 76 = .ok (.istore 4, 2) := by decide +kernel
theorem dX10_meets_78 : decode cX10_meets 78 = .ok (.iload 4, 2) := by decide +kernel
theorem dX10_meets_80 : decode cX10_meets 80 = .ok (.sipush 301, 3) := by decide +kernel
theorem dX10_meets_83 : decode cX10_meets 83 = .ok (.if_icmp .ge 105, 3) := by decide +kernel
theorem dX10_meets_86 : decode cX10_meets 86 = .ok (.aload_n 0, 1) := by decide +kernel
theorem dX10_meets_87 : decode cX10_meets 87 = .ok (.aload_n 0, 1) := by decide +kernel
theorem dX10_meets_88 : decode cX10_meets 88 = .ok (.getfield 41, 3) := by decide +kernel
theorem dX10_meets_91 : decode cX10_meets 91 = .ok (.iconst 0, 1) := by decide +kernel
theorem dX10_meets_92 : decode cX10_meets 92 = .ok (.iaload, 1) := by decide +kernel
theorem dX10_meets_93 : decode cX10_meets 93 = .ok (.iload 4, 2) := by decide +kernel
theorem dX10_meets_95 : decode cX10_meets 95 = .ok (.iadd, 1) := by decide +kernel
theorem dX10_meets_96 : decode cX10_meets 96 = .ok (.invokevirtual 177, 3) := by decide +kernel
theorem dX10_meets_99 : decode cX10_meets 99 = .ok (.istore 5, 2) := by decide +kernel
theorem dX10_meets_101 : decode cX10_meets 101 = .ok (.iload 4, 2) := by decide +kernel
theorem dX10_meets_103 : decode cX10_meets 103 = .ok (.ifCond .ne 22, 3) := by decide +kernel
theorem dX10_meets_106 : decode cX10_meets 106 = .ok (.aload_n 0, 1) := by decide +kernel
theorem dX10_meets_107 : decode cX10_meets 107 = .ok (.getfield 66, 3) := by decide +kernel
theorem dX10_meets_110 : decode cX10_meets 110 = .ok (.iconst 0, 1) := by decide +kernel
theorem dX10_meets_111 : decode cX10_meets 111 = .ok (.iaload, 1) := by decide +kernel
theorem dX10_meets_112 : decode cX10_meets 112 = .ok (.iload 5, 2) := by decide +kernel
theorem dX10_meets_114 : decode cX10_meets 114 = .ok (.if_icmp .ge 7, 3) := by decide +kernel
theorem dX10_meets_117 : decode cX10_meets 117 = .ok (.iconst 1, 1) := by decide +kernel
theorem dX10_meets_118 : decode cX10_meets 118 = .ok (.goto 8, 3) := by decide +kernel
theorem dX10_meets_121 : decode cX10_meets 121 = .ok (.iconst 0, 1) := by decide +kernel
theorem dX10_meets_122 : decode cX10_meets 122 = .ok (.goto 4, 3) := by decide +kernel
theorem dX10_meets_125 : decode cX10_meets 125 = .ok (.iload_n 3, 1) := by decide +kernel
theorem dX10_meets_126 : decode cX10_meets 126 = .ok (.istore_n 3, 1) := by decide +kernel
theorem dX10_meets_127 : decode cX10_meets 127 = .ok (.aload_n 0, 1) := by decide +kernel
theorem dX10_meets_128 : decode cX10_meets 128 = .ok (.getfield 66, 3) := by decide +kernel
theorem dX10_meets_131 : decode cX10_meets 131 = .ok (.iload 4, 2) := by decide +kernel
theorem dX10_meets_133 : decode cX10_meets 133 = .ok (.iaload, 1) := by decide +kernel
theorem dX10_meets_134 : decode cX10_meets 134 = .ok (.iload 5, 2) := by decide +kernel
theorem dX10_meets_136 : decode cX10_meets 136 = .ok (.if_icmp .eq 24, 3) := by decide +kernel
theorem dX10_meets_139 : decode cX10_meets 139 = .ok (.aload_n 0, 1) := by decide +kernel
theorem dX10_meets_140 : decode cX10_meets 140 = .ok (.getfield 66, 3) := by decide +kernel
theorem dX10_meets_143 : decode cX10_meets 143 = .ok (.iload 4, 2) := by decide +kernel
theorem dX10_meets_145 : decode cX10_meets 145 = .ok (.iaload, 1) := by decide +kernel
theorem dX10_meets_146 : decode cX10_meets 146 = .ok (.iload 5, 2) := by decide +kernel
theorem dX10_meets_148 : decode cX10_meets 148 = .ok (.if_icmp .ge 7, 3) := by decide +kernel
theorem dX10_meets_151 : decode cX10_meets 151 = .ok (.iconst 1, 1) := by decide +kernel
theorem dX10_meets_152 : decode cX10_meets 152 = .ok (.goto 4, 3) := by decide +kernel
theorem dX10_meets_155 : decode cX10_meets 155 = .ok (.iconst 0, 1) := by decide +kernel
theorem dX10_meets_156 : decode cX10_meets 156 = .ok (.iload_n 3, 1) := by decide +kernel
theorem dX10_meets_157 : decode cX10_meets 157 = .ok (.if_icmp .eq 6, 3) := by decide +kernel
theorem dX10_meets_160 : decode cX10_meets 160 = .ok (.iload 4, 2) := by decide +kernel
theorem dX10_meets_162 : decode cX10_meets 162 = .ok (.ireturn, 1) := by decide +kernel
theorem dX10_meets_163 : decode cX10_meets 163 = .ok (.aload_n 0, 1) := by decide +kernel
theorem dX10_meets_164 : decode cX10_meets 164 = .ok (.aload_n 0, 1) := by decide +kernel
theorem dX10_meets_165 : decode cX10_meets 165 = .ok (.getfield 41, 3) := by decide +kernel
theorem dX10_meets_168 : decode cX10_meets 168 = .ok (.iconst 0, 1) := by decide +kernel
theorem dX10_meets_169 : decode cX10_meets 169 = .ok (.iaload, 1) := by decide +kernel
theorem dX10_meets_170 : decode cX10_meets 170 = .ok (.iload 4, 2) := by decide +kernel
theorem dX10_meets_172 : decode cX10_meets 172 = .ok (.iadd, 1) := by decide +kernel
theorem dX10_meets_173 : decode cX10_meets 173 = .ok (.aload_n 0, 1) := by decide +kernel
theorem dX10_meets_174 : decode cX10_meets 174 = .ok (.getfield 41, 3) := by decide +kernel
theorem dX10_meets_177 : decode cX10_meets 177 = .ok (.iconst 1, 1) := by decide +kernel
theorem dX10_meets_178 : decode cX10_meets 178 = .ok (.iaload, 1) := by decide +kernel
theorem dX10_meets_179 : decode cX10_meets 179 = .ok (.invokevirtual 194, 3) := by decide +kernel
theorem dX10_meets_182 : decode cX10_meets 182 = .ok (.iinc 4 1, 3) := by decide +kernel
theorem dX10_meets_185 : decode cX10_meets 185 = .ok (.goto (-107), 3) := by decide +kernel
theorem dX10_meets_188 : decode cX10_meets 188 = .ok (.iconst (-1), 1) := by decide +kernel
theorem dX10_meets_189 : decode cX10_meets 189 = .ok (.ireturn, 1) := by decide +kernel
theorem dX10_ropes_0 : decode cX10_ropes 0 = .ok (.aload_n 0, 1) := by decide +kernel
theorem dX10_ropes_1 : decode cX10_ropes 1 = .ok (.iload_n 1, 1) := by decide +kernel
theorem dX10_ropes_2 : decode cX10_ropes 2 = .ok (.iload_n 2, 1) := by decide +kernel
theorem dX10_ropes_3 : decode cX10_ropes 3 = .ok (.invokevirtual 232, 3) := by decide +kernel
theorem dX10_ropes_6 : decode cX10_ropes 6 = .ok (.ifCond .ne 6, 3) := by decide +kernel
theorem dX10_ropes_9 : decode cX10_ropes 9 = .ok (.ldc 161, 2) := by decide +kernel
theorem dX10_ropes_11 : decode cX10_ropes 11 = .ok (.ireturn, 1) := by decide +kernel
theorem dX10_ropes_12 : decode cX10_ropes 12 = .ok (.iload_n 3, 1) := by decide +kernel
theorem dX10_ropes_13 : decode cX10_ropes 13 = .ok (.iconst 1, 1) := by decide +kernel
theorem dX10_ropes_14 : decode cX10_ropes 14 = .ok (.bipush 40, 2) := by decide +kernel
theorem dX10_ropes_16 : decode cX10_ropes 16 = .ok (.invokestatic 69, 3) := by decide +kernel
theorem dX10_ropes_19 : decode cX10_ropes 19 = .ok (.ifCond .eq 15, 3) := by decide +kernel
theorem dX10_ropes_22 : decode cX10_ropes 22 = .ok (.iload 4, 2) := by decide +kernel
theorem dX10_ropes_24 : decode cX10_ropes 24 = .ok (.iconst 0, 1) := by decide +kernel
theorem dX10_ropes_25 : decode cX10_ropes 25 = .ok (.sipush 300, 3) := by decide +kernel
theorem dX10_ropes_28 : decode cX10_ropes 28 = .ok (.invokestatic 69, 3) := by decide +kernel
theorem dX10_ropes_31 : decode cX10_ropes 31 = .ok (.ifCond .ne 6, 3) := by decide +kernel
theorem dX10_ropes_34 : decode cX10_ropes 34 = .ok (.ldc 73, 2) := by decide +kernel
theorem dX10_ropes_36 : decode cX10_ropes 36 = .ok (.ireturn, 1) := by decide +kernel
theorem dX10_ropes_37 : decode cX10_ropes 37 = .ok (.iconst (-1), 1) := by decide +kernel
theorem dX10_ropes_38 : decode cX10_ropes 38 = .ok (.istore 5, 2) := by decide +kernel
theorem dX10_ropes_40 : decode cX10_ropes 40 = .ok (.iconst 0, 1) := by decide +kernel
theorem dX10_ropes_41 : decode cX10_ropes 41 = .ok (.istore 6, 2) := by decide +kernel
theorem dX10_ropes_43 : decode cX10_ropes 43 = .ok (.iload 6, 2) := by decide +kernel
theorem dX10_ropes_45 : decode cX10_ropes 45 = .ok (.iconst 1, 1) := by decide +kernel
theorem dX10_ropes_46 : decode cX10_ropes 46 = .ok (.aload_n 0, 1) := by decide +kernel
theorem dX10_ropes_47 : decode cX10_ropes 47 = .ok (.getfield 17, 3) := by decide +kernel
theorem dX10_ropes_50 : decode cX10_ropes 50 = .ok (.iconst 3, 1) := by decide +kernel
theorem dX10_ropes_51 : decode cX10_ropes 51 = .ok (.iaload, 1) := by decide +kernel
theorem dX10_ropes_52 : decode cX10_ropes 52 = .ok (.ishl, 1) := by decide +kernel
theorem dX10_ropes_53 : decode cX10_ropes 53 = .ok (.if_icmp .ge 89, 3) := by decide +kernel
theorem dX10_ropes_56 : decode cX10_ropes 56 = .ok (.iload 6, 2) := by decide +kernel
theorem dX10_ropes_58 : decode cX10_ropes 58 = .ok (.aload_n 0, 1) := by decide +kernel
theorem dX10_ropes_59 : decode cX10_ropes 59 = .ok (.getfield 41, 3) := by decide +kernel
theorem dX10_ropes_62 : decode cX10_ropes 62 = .ok (.iconst 1, 1) := by decide +kernel
theorem dX10_ropes_63 : decode cX10_ropes 63 = .ok (.iaload, 1) := by decide +kernel
theorem dX10_ropes_64 : decode cX10_ropes 64 = .ok (.iand, 1) := by decide +kernel
theorem dX10_ropes_65 : decode cX10_ropes 65 = .ok (.ifCond .ne 26, 3) := by decide +kernel
theorem dX10_ropes_68 : decode cX10_ropes 68 = .ok (.iload 5, 2) := by decide +kernel
theorem dX10_ropes_70 : decode cX10_ropes 70 = .ok (.iconst (-1), 1) := by decide +kernel
theorem dX10_ropes_71 : decode cX10_ropes 71 = .ok (.if_icmp .eq 16, 3) := by decide +kernel
theorem dX10_ropes_74 : decode cX10_ropes 74 = .ok (.iload 6, 2) := by decide +kernel
theorem dX10_ropes_76 : decode cX10_ropes 76 = .ok (.invokestatic 239, 3) := by decide +kernel
theorem dX10_ropes_79 : decode cX10_ropes 79 = .ok (.iload 5, 2) := by decide +kernel
theorem dX10_ropes_81 : decode cX10_ropes 81 = .ok (.invokestatic 239, 3) := by decide +kernel
theorem dX10_ropes_84 : decode cX10_ropes 84 = .ok (.if_icmp .ge 7, 3) := by decide +kernel
theorem dX10_ropes_87 : decode cX10_ropes 87 = .ok (.iconst 1, 1) := by decide +kernel
theorem dX10_ropes_88 : decode cX10_ropes 88 = .ok (.goto 4, 3) := by decide +kernel
theorem dX10_ropes_91 : decode cX10_ropes 91 = .ok (.iconst 0, 1) := by decide +kernel
theorem dX10_ropes_92 : decode cX10_ropes 92 = .ok (.istore 7, 2) := by decide +kernel
theorem dX10_ropes_94 : decode cX10_ropes 94 = .ok (.iload 7, 2) := by decide +kernel
theorem dX10_ropes_96 : decode cX10_ropes 96 = .ok (.ifCond .eq 36, 3) := by decide +kernel
theorem dX10_ropes_99 : decode cX10_ropes 99 = .ok (.aload_n 0, 1) := by decide +kernel
theorem dX10_ropes_100 : decode cX10_ropes 100 = .ok (.iload_n 1, 1) := by decide +kernel
theorem dX10_ropes_101 : decode cX10_ropes 101 = .ok (.iload_n 2, 1) := by decide +kernel
theorem dX10_ropes_102 : decode cX10_ropes 102 = .ok (.iload_n 3, 1) := by decide +kernel
theorem dX10_ropes_103 : decode cX10_ropes 103 = .ok (.aload_n 0, 1) := by decide +kernel
theorem dX10_ropes_104 : decode cX10_ropes 104 = .ok (.getfield 41, 3) := by decide +kernel
theorem dX10_ropes_107 : decode cX10_ropes 107 = .ok (.iconst 0, 1) := by decide +kernel
theorem dX10_ropes_108 : decode cX10_ropes 108 = .ok (.iaload, 1) := by decide +kernel
theorem dX10_ropes_109 : decode cX10_ropes 109 = .ok (.aload_n 0, 1) := by decide +kernel
theorem dX10_ropes_110 : decode cX10_ropes 110 = .ok (.getfield 41, 3) := by decide +kernel
theorem dX10_ropes_113 : decode cX10_ropes 113 = .ok (.iconst 1, 1) := by decide +kernel
theorem dX10_ropes_114 : decode cX10_ropes 114 = .ok (.iaload, 1) := by decide +kernel
theorem dX10_ropes_115 : decode cX10_ropes 115 = .ok (.iload 6, 2) := by decide +kernel
theorem dX10_ropes_117 : decode cX10_ropes 117 = .ok (.ior, 1) := by decide +kernel
theorem dX10_ropes_118 : decode cX10_ropes 118 = .ok (.iload 4, 2) := by decide +kernel
theorem dX10_ropes_120 : decode cX10_ropes 120 = .ok (.invokevirtual 235, 3) := by decide +kernel
theorem dX10_ropes_123 : decode cX10_ropes 123 = .ok (.iconst (-1), 1) := by decide +kernel
theorem dX10_ropes_124 : decode cX10_ropes 124 = .ok (.if_icmp .eq 8, 3) := by decide +kernel
theorem dX10_ropes_127 : decode cX10_ropes 127 = .ok (.iload 6, 2) := by decide +kernel
theorem dX10_ropes_129 : decode cX10_ropes 129 = .ok (.goto 5, 3) := by decide +kernel
theorem dX10_ropes_132 : decode cX10_ropes 132 = .ok (.iload 5, 2) := by decide +kernel
theorem dX10_ropes_134 : decode cX10_ropes 134 = .ok (.istore 5, 2) := by decide +kernel
theorem dX10_ropes_136 : decode cX10_ropes 136 = .ok (.iinc 6 1, 3) := by decide +kernel
theorem dX10_ropes_139 : decode cX10_ropes 139 = .ok (.goto (-96), 3) := by decide +kernel
theorem dX10_ropes_142 : decode cX10_ropes 142 = .ok (.iload 5, 2) := by decide +kernel
theorem dX10_ropes_144 : decode cX10_ropes 144 = .ok (.ireturn, 1) := by decide +kernel
theorem dX10_farthest_0 : decode cX10_farthest 0 = .ok (.iconst 0, 1) := by decide +kernel
theorem dX10_farthest_1 : decode cX10_farthest 1 = .ok (.istore_n 3, 1) := by decide +kernel
theorem dX10_farthest_2 : decode cX10_farthest 2 = .ok (.iconst 0, 1) := by decide +kernel
theorem dX10_farthest_3 : decode cX10_farthest 3 = .ok (.istore 4, 2) := by decide +kernel
theorem dX10_farthest_5 : decode cX10_farthest 5 = .ok (.iload 4, 2) := by decide +kernel
theorem dX10_farthest_7 : decode cX10_farthest 7 = .ok (.aload_n 0, 1) := by decide +kernel
theorem dX10_farthest_8 : decode cX10_farthest 8 = .ok (.invokevirtual 140, 3) := by decide +kernel
theorem dX10_farthest_11 : decode cX10_farthest 11 = .ok (.if_icmp .ge 72, 3) := by decide +kernel
theorem dX10_farthest_14 : decode cX10_farthest 14 = .ok (.iload 4, 2) := by decide +kernel
theorem dX10_farthest_16 : decode cX10_farthest 16 = .ok (.iload_n 1, 1) := by decide +kernel
theorem dX10_farthest_17 : decode cX10_farthest 17 = .ok (.if_icmp .ne 7, 3) := by decide +kernel
theorem dX10_farthest_20 : decode cX10_farthest 20 = .ok (.iconst 0, 1) := by decide +kernel
theorem dX10_farthest_21 : decode cX10_farthest 21 = .ok (.goto 26, 3) := by decide +kernel
theorem dX10_farthest_24 : decode cX10_farthest 24 = .ok (.aload_n 0, 1) := by decide +kernel
theorem dX10_farthest_25 : decode cX10_farthest 25 = .ok (.iload_n 1, 1) := by decide +kernel
theorem dX10_farthest_26 : decode cX10_farthest 26 = .ok (.iload 4, 2) := by decide +kernel
theorem dX10_farthest_28 : decode cX10_farthest 28 = .ok (.iload_n 2, 1) := by decide +kernel
theorem dX10_farthest_29 : decode cX10_farthest 29 = .ok (.aload_n 0, 1) := by decide +kernel
theorem dX10_farthest_30 : decode cX10_farthest 30 = .ok (.getfield 41, 3) := by decide +kernel
theorem dX10_farthest_33 : decode cX10_farthest 33 = .ok (.iconst 0, 1) := by decide +kernel
theorem dX10_farthest_34 : decode cX10_farthest 34 = .ok (.iaload, 1) := by decide +kernel
theorem dX10_farthest_35 : decode cX10_farthest 35 = .ok (.aload_n 0, 1) := by decide +kernel
theorem dX10_farthest_36 : decode cX10_farthest 36 = .ok (.getfield 41, 3) := by decide +kernel
theorem dX10_farthest_39 : decode cX10_farthest 39 = .ok (.iconst 1, 1) := by decide +kernel
theorem dX10_farthest_40 : decode cX10_farthest 40 = .ok (.iaload, 1) := by decide +kernel
theorem dX10_farthest_41 : decode cX10_farthest 41 = .ok (.sipush 300, 3) := by decide +kernel
theorem dX10_farthest_44 : decode cX10_farthest 44 = .ok (.invokevirtual 235, 3) := by decide +kernel
theorem dX10_farthest_47 : decode cX10_farthest 47 = .ok (.istore 5, 2) := by decide +kernel
theorem dX10_farthest_49 : decode cX10_farthest 49 = .ok (.iload 5, 2) := by decide +kernel
theorem dX10_farthest_51 : decode cX10_farthest 51 = .ok (.iconst (-1), 1) := by decide +kernel
theorem dX10_farthest_52 : decode cX10_farthest 52 = .ok (.if_icmp .eq 8, 3) := by decide +kernel
theorem dX10_farthest_55 : decode cX10_farthest 55 = .ok (.iload_n 3, 1) := by decide +kernel
theorem dX10_farthest_56 : decode cX10_farthest 56 = .ok (.iconst (-1), 1) := by decide +kernel
theorem dX10_farthest_57 : decode cX10_farthest 57 = .ok (.if_icmp .ne 7, 3) := by decide +kernel
theorem dX10_farthest_60 : decode cX10_farthest 60 = .ok (.iconst (-1), 1) := by decide +kernel
theorem dX10_farthest_61 : decode cX10_farthest 61 = .ok (.goto 15, 3) := by decide +kernel
theorem dX10_farthest_64 : decode cX10_farthest 64 = .ok (.iload 5, 2) := by decide +kernel
theorem dX10_farthest_66 : decode cX10_farthest 66 = .ok (.iload_n 3, 1) := by decide +kernel
theorem dX10_farthest_67 : decode cX10_farthest 67 = .ok (.if_icmp .le 8, 3) := by decide +kernel
theorem dX10_farthest_70 : decode cX10_farthest 70 = .ok (.iload 5, 2) := by decide +kernel
theorem dX10_farthest_72 : decode cX10_farthest 72 = .ok (.goto 4, 3) := by decide +kernel
theorem dX10_farthest_75 : decode cX10_farthest 75 = .ok (.iload_n 3, 1) := by decide +kernel
theorem dX10_farthest_76 : decode cX10_farthest 76 = .ok (.istore_n 3, 1) := by decide +kernel
theorem dX10_farthest_77 : decode cX10_farthest 77 = .ok (.iinc 4 1, 3) := by decide +kernel
theorem dX10_farthest_80 : decode cX10_farthest 80 = .ok (.goto (-75), 3) := by decide +kernel
theorem dX10_farthest_83 : decode cX10_farthest 83 = .ok (.iload_n 3, 1) := by decide +kernel
theorem dX10_farthest_84 : decode cX10_farthest 84 = .ok (.ireturn, 1) := by decide +kernel
theorem dX10_doctor_0 : decode cX10_doctor 0 = .ok (.iload_n 1, 1) := by decide +kernel
theorem dX10_doctor_1 : decode cX10_doctor 1 = .ok (.iconst 1, 1) := by decide +kernel
theorem dX10_doctor_2 : decode cX10_doctor 2 = .ok (.bipush 40, 2) := by decide +kernel
theorem dX10_doctor_4 : decode cX10_doctor 4 = .ok (.invokestatic 69, 3) := by decide +kernel
theorem dX10_doctor_7 : decode cX10_doctor 7 = .ok (.ifCond .eq 12, 3) := by decide +kernel
theorem dX10_doctor_10 : decode cX10_doctor 10 = .ok (.iload_n 2, 1) := by decide +kernel
theorem dX10_doctor_11 : decode cX10_doctor 11 = .ok (.iconst 0, 1) := by decide +kernel
theorem dX10_doctor_12 : decode cX10_doctor 12 = .ok (.iconst 1, 1) := by decide +kernel
theorem dX10_doctor_13 : decode cX10_doctor 13 = .ok (.invokestatic 69, 3) := by decide +kernel
theorem dX10_doctor_16 : decode cX10_doctor 16 = .ok (.ifCond .ne 6, 3) := by decide +kernel
theorem dX10_doctor_19 : decode cX10_doctor 19 = .ok (.ldc 73, 2) := by decide +kernel
theorem dX10_doctor_21 : decode cX10_doctor 21 = .ok (.ireturn, 1) := by decide +kernel
theorem dX10_doctor_22 : decode cX10_doctor 22 = .ok (.iconst (-1), 1) := by decide +kernel
theorem dX10_doctor_23 : decode cX10_doctor 23 = .ok (.istore_n 3, 1) := by decide +kernel
theorem dX10_doctor_24 : decode cX10_doctor 24 = .ok (.iconst (-1), 1) := by decide +kernel
theorem dX10_doctor_25 : decode cX10_doctor 25 = .ok (.istore 4, 2) := by decide +kernel
theorem dX10_doctor_27 : decode cX10_doctor 27 = .ok (.iconst 0, 1) := by decide +kernel
theorem dX10_doctor_28 : decode cX10_doctor 28 = .ok (.istore 5, 2) := by decide +kernel
theorem dX10_doctor_30 : decode cX10_doctor 30 = .ok (.iload 5, 2) := by decide +kernel
theorem dX10_doctor_32 : decode cX10_doctor 32 = .ok (.aload_n 0, 1) := by decide +kernel
theorem dX10_doctor_33 : decode cX10_doctor 33 = .ok (.invokevirtual 140, 3) := by decide +kernel
theorem dX10_doctor_36 : decode cX10_doctor 36 = .ok (.if_icmp .ge 69, 3) := by decide +kernel
theorem dX10_doctor_39 : decode cX10_doctor 39 = .ok (.aload_n 0, 1) := by decide +kernel
theorem dX10_doctor_40 : decode cX10_doctor 40 = .ok (.iload 5, 2) := by decide +kernel
theorem dX10_doctor_42 : decode cX10_doctor 42 = .ok (.iload_n 1, 1) := by decide +kernel
theorem dX10_doctor_43 : decode cX10_doctor 43 = .ok (.invokevirtual 242, 3) := by decide +kernel
theorem dX10_doctor_46 : decode cX10_doctor 46 = .ok (.istore 6, 2) := by decide +kernel
theorem dX10_doctor_48 : decode cX10_doctor 48 = .ok (.iload 6, 2) := by decide +kernel
theorem dX10_doctor_50 : decode cX10_doctor 50 = .ok (.iconst (-1), 1) := by decide +kernel
theorem dX10_doctor_51 : decode cX10_doctor 51 = .ok (.if_icmp .eq 19, 3) := by decide +kernel
theorem dX10_doctor_54 : decode cX10_doctor 54 = .ok (.iload_n 3, 1) := by decide +kernel
theorem dX10_doctor_55 : decode cX10_doctor 55 = .ok (.iconst (-1), 1) := by decide +kernel
theorem dX10_doctor_56 : decode cX10_doctor 56 = .ok (.if_icmp .eq 10, 3) := by decide +kernel
theorem dX10_doctor_59 : decode cX10_doctor 59 = .ok (.iload 6, 2) := by decide +kernel
theorem dX10_doctor_61 : decode cX10_doctor 61 = .ok (.iload 4, 2) := by decide +kernel
theorem dX10_doctor_63 : decode cX10_doctor 63 = .ok (.if_icmp .ge 7, 3) := by decide +kernel
theorem dX10_doctor_66 : decode cX10_doctor 66 = .ok (.iconst 1, 1) := by decide +kernel
theorem dX10_doctor_67 : decode cX10_doctor 67 = .ok (.goto 4, 3) := by decide +kernel
theorem dX10_doctor_70 : decode cX10_doctor 70 = .ok (.iconst 0, 1) := by decide +kernel
theorem dX10_doctor_71 : decode cX10_doctor 71 = .ok (.istore 7, 2) := by decide +kernel
theorem dX10_doctor_73 : decode cX10_doctor 73 = .ok (.iload 7, 2) := by decide +kernel
theorem dX10_doctor_75 : decode cX10_doctor 75 = .ok (.ifCond .eq 8, 3) := by decide +kernel
theorem dX10_doctor_78 : decode cX10_doctor 78 = .ok (.iload 5, 2) := by decide +kernel
theorem dX10_doctor_80 : decode cX10_doctor 80 = .ok (.goto 4, 3) := by decide +kernel
theorem dX10_doctor_83 : decode cX10_doctor 83 = .ok (.iload_n 3, 1) := by decide +kernel
theorem dX10_doctor_84 : decode cX10_doctor 84 = .ok (.istore_n 3, 1) := by decide +kernel
theorem dX10_doctor_85 : decode cX10_doctor 85 = .ok (.iload 7, 2) := by decide +kernel
theorem dX10_doctor_87 : decode cX10_doctor 87 = .ok (.ifCond .eq 8, 3) := by decide +kernel
theorem dX10_doctor_90 : decode cX10_doctor 90 = .ok (.iload 6, 2) := by decide +kernel
theorem dX10_doctor_92 : decode cX10_doctor 92 = .ok (.goto 5, 3) := by decide +kernel
theorem dX10_doctor_95 : decode cX10_doctor 95 = .ok (.iload 4, 2) := by decide +kernel
theorem dX10_doctor_97 : decode cX10_doctor 97 = .ok (.istore 4, 2) := by decide +kernel
theorem dX10_doctor_99 : decode cX10_doctor 99 = .ok (.iinc 5 1, 3) := by decide +kernel
theorem dX10_doctor_102 : decode cX10_doctor 102 = .ok (.goto (-72), 3) := by decide +kernel
theorem dX10_doctor_105 : decode cX10_doctor 105 = .ok (.iload_n 2, 1) := by decide +kernel
theorem dX10_doctor_106 : decode cX10_doctor 106 = .ok (.ifCond .ne 7, 3) := by decide +kernel
theorem dX10_doctor_109 : decode cX10_doctor 109 = .ok (.iload_n 3, 1) := by decide +kernel
theorem dX10_doctor_110 : decode cX10_doctor 110 = .ok (.goto 5, 3) := by decide +kernel
theorem dX10_doctor_113 : decode cX10_doctor 113 = .ok (.iload 4, 2) := by decide +kernel
theorem dX10_doctor_115 : decode cX10_doctor 115 = .ok (.ireturn, 1) := by decide +kernel
theorem dX10_beat_0 : decode cX10_beat 0 = .ok (.iload_n 1, 1) := by decide +kernel
theorem dX10_beat_1 : decode cX10_beat 1 = .ok (.iconst 1, 1) := by decide +kernel
theorem dX10_beat_2 : decode cX10_beat 2 = .ok (.bipush 40, 2) := by decide +kernel
theorem dX10_beat_4 : decode cX10_beat 4 = .ok (.invokestatic 69, 3) := by decide +kernel
theorem dX10_beat_7 : decode cX10_beat 7 = .ok (.ifCond .ne 6, 3) := by decide +kernel
theorem dX10_beat_10 : decode cX10_beat 10 = .ok (.ldc 73, 2) := by decide +kernel
theorem dX10_beat_12 : decode cX10_beat 12 = .ok (.ireturn, 1) := by decide +kernel
theorem dX10_beat_13 : decode cX10_beat 13 = .ok (.aload_n 0, 1) := by decide +kernel
theorem dX10_beat_14 : decode cX10_beat 14 = .ok (.invokevirtual 140, 3) := by decide +kernel
theorem dX10_beat_17 : decode cX10_beat 17 = .ok (.ifCond .ne 6, 3) := by decide +kernel
theorem dX10_beat_20 : decode cX10_beat 20 = .ok (.ldc 190, 2) := by decide +kernel
theorem dX10_beat_22 : decode cX10_beat 22 = .ok (.ireturn, 1) := by decide +kernel
theorem dX10_beat_23 : decode cX10_beat 23 = .ok (.aload_n 0, 1) := by decide +kernel
theorem dX10_beat_24 : decode cX10_beat 24 = .ok (.iconst 0, 1) := by decide +kernel
theorem dX10_beat_25 : decode cX10_beat 25 = .ok (.iconst 2, 1) := by decide +kernel
theorem dX10_beat_26 : decode cX10_beat 26 = .ok (.iload_n 1, 1) := by decide +kernel
theorem dX10_beat_27 : decode cX10_beat 27 = .ok (.invokevirtual 228, 3) := by decide +kernel
theorem dX10_beat_30 : decode cX10_beat 30 = .ok (.iconst 1, 1) := by decide +kernel
theorem dX10_beat_31 : decode cX10_beat 31 = .ok (.istore_n 2, 1) := by decide +kernel
theorem dX10_beat_32 : decode cX10_beat 32 = .ok (.iload_n 2, 1) := by decide +kernel
theorem dX10_beat_33 : decode cX10_beat 33 = .ok (.sipush 601, 3) := by decide +kernel
theorem dX10_beat_36 : decode cX10_beat 36 = .ok (.if_icmp .ge 70, 3) := by decide +kernel
theorem dX10_beat_39 : decode cX10_beat 39 = .ok (.aload_n 0, 1) := by decide +kernel
theorem dX10_beat_40 : decode cX10_beat 40 = .ok (.aload_n 0, 1) := by decide +kernel
theorem dX10_beat_41 : decode cX10_beat 41 = .ok (.getfield 41, 3) := by decide +kernel
theorem dX10_beat_44 : decode cX10_beat 44 = .ok (.iconst 0, 1) := by decide +kernel
theorem dX10_beat_45 : decode cX10_beat 45 = .ok (.iaload, 1) := by decide +kernel
theorem dX10_beat_46 : decode cX10_beat 46 = .ok (.iload_n 2, 1) := by decide +kernel
theorem dX10_beat_47 : decode cX10_beat 47 = .ok (.iadd, 1) := by decide +kernel
theorem dX10_beat_48 : decode cX10_beat 48 = .ok (.iconst 1, 1) := by decide +kernel
theorem dX10_beat_49 : decode cX10_beat 49 = .ok (.isub, 1) := by decide +kernel
theorem dX10_beat_50 : decode cX10_beat 50 = .ok (.aload_n 0, 1) := by decide +kernel
theorem dX10_beat_51 : decode cX10_beat 51 = .ok (.getfield 41, 3) := by decide +kernel
theorem dX10_beat_54 : decode cX10_beat 54 = .ok (.iconst 1, 1) := by decide +kernel
theorem dX10_beat_55 : decode cX10_beat 55 = .ok (.iaload, 1) := by decide +kernel
theorem dX10_beat_56 : decode cX10_beat 56 = .ok (.invokevirtual 194, 3) := by decide +kernel
theorem dX10_beat_59 : decode cX10_beat 59 = .ok (.aload_n 0, 1) := by decide +kernel
theorem dX10_beat_60 : decode cX10_beat 60 = .ok (.getfield 168, 3) := by decide +kernel
theorem dX10_beat_63 : decode cX10_beat 63 = .ok (.ifCond .ne 12, 3) := by decide +kernel
theorem dX10_beat_66 : decode cX10_beat 66 = .ok (.aload_n 0, 1) := by decide +kernel
theorem dX10_beat_67 : decode cX10_beat 67 = .ok (.getfield 162, 3) := by decide +kernel
theorem dX10_beat_70 : decode cX10_beat 70 = .ok (.ifCond .ne 5, 3) := by decide +kernel
theorem dX10_beat_73 : decode cX10_beat 73 = .ok (.iload_n 2, 1) := by decide +kernel
theorem dX10_beat_74 : decode cX10_beat 74 = .ok (.ireturn, 1) := by decide +kernel
theorem dX10_beat_75 : decode cX10_beat 75 = .ok (.aload_n 0, 1) := by decide +kernel
theorem dX10_beat_76 : decode cX10_beat 76 = .ok (.aload_n 0, 1) := by decide +kernel
theorem dX10_beat_77 : decode cX10_beat 77 = .ok (.getfield 162, 3) := by decide +kernel
theorem dX10_beat_80 : decode cX10_beat 80 = .ok (.aload_n 0, 1) := by decide +kernel
theorem dX10_beat_81 : decode cX10_beat 81 = .ok (.getfield 17, 3) := by decide +kernel
theorem dX10_beat_84 : decode cX10_beat 84 = .ok (.iconst 3, 1) := by decide +kernel
theorem dX10_beat_85 : decode cX10_beat 85 = .ok (.iaload, 1) := by decide +kernel
theorem dX10_beat_86 : decode cX10_beat 86 = .ok (.if_icmp .ne 7, 3) := by decide +kernel
theorem dX10_beat_89 : decode cX10_beat 89 = .ok (.iconst 0, 1) := by decide +kernel
theorem dX10_beat_90 : decode cX10_beat 90 = .ok (.goto 7, 3) := by decide +kernel
theorem dX10_beat_93 : decode cX10_beat 93 = .ok (.aload_n 0, 1) := by decide +kernel
theorem dX10_beat_94 : decode cX10_beat 94 = .ok (.getfield 168, 3) := by decide +kernel
theorem dX10_beat_97 : decode cX10_beat 97 = .ok (.putfield 168, 3) := by decide +kernel
theorem dX10_beat_100 : decode cX10_beat 100 = .ok (.iinc 2 1, 3) := by decide +kernel
theorem dX10_beat_103 : decode cX10_beat 103 = .ok (.goto (-71), 3) := by decide +kernel
theorem dX10_beat_106 : decode cX10_beat 106 = .ok (.iconst (-1), 1) := by decide +kernel
theorem dX10_beat_107 : decode cX10_beat 107 = .ok (.ireturn, 1) := by decide +kernel
theorem dX10_rent_0 : decode cX10_rent 0 = .ok (.iload_n 1, 1) := by decide +kernel
theorem dX10_rent_1 : decode cX10_rent 1 = .ok (.iconst 0, 1) := by decide +kernel
theorem dX10_rent_2 : decode cX10_rent 2 = .ok (.bipush 120, 2) := by decide +kernel
theorem dX10_rent_4 : decode cX10_rent 4 = .ok (.invokestatic 69, 3) := by decide +kernel
theorem dX10_rent_7 : decode cX10_rent 7 = .ok (.ifCond .ne 6, 3) := by decide +kernel
theorem dX10_rent_10 : decode cX10_rent 10 = .ok (.ldc 73, 2) := by decide +kernel
theorem dX10_rent_12 : decode cX10_rent 12 = .ok (.ireturn, 1) := by decide +kernel
theorem dX10_rent_13 : decode cX10_rent 13 = .ok (.aload_n 0, 1) := by decide +kernel
theorem dX10_rent_14 : decode cX10_rent 14 = .ok (.invokevirtual 198, 3) := by decide +kernel
theorem dX10_rent_17 : decode cX10_rent 17 = .ok (.ifCond .ne 6, 3) := by decide +kernel
theorem dX10_rent_20 : decode cX10_rent 20 = .ok (.ldc 190, 2) := by decide +kernel
theorem dX10_rent_22 : decode cX10_rent 22 = .ok (.ireturn, 1) := by decide +kernel
theorem dX10_rent_23 : decode cX10_rent 23 = .ok (.iconst 0, 1) := by decide +kernel
theorem dX10_rent_24 : decode cX10_rent 24 = .ok (.istore_n 2, 1) := by decide +kernel
theorem dX10_rent_25 : decode cX10_rent 25 = .ok (.iconst 0, 1) := by decide +kernel
theorem dX10_rent_26 : decode cX10_rent 26 = .ok (.istore_n 3, 1) := by decide +kernel
theorem dX10_rent_27 : decode cX10_rent 27 = .ok (.iload_n 3, 1) := by decide +kernel
theorem dX10_rent_28 : decode cX10_rent 28 = .ok (.iload_n 1, 1) := by decide +kernel
theorem dX10_rent_29 : decode cX10_rent 29 = .ok (.if_icmp .ge 24, 3) := by decide +kernel
theorem dX10_rent_32 : decode cX10_rent 32 = .ok (.iload_n 2, 1) := by decide +kernel
theorem dX10_rent_33 : decode cX10_rent 33 = .ok (.aload_n 0, 1) := by decide +kernel
theorem dX10_rent_34 : decode cX10_rent 34 = .ok (.aload_n 0, 1) := by decide +kernel
theorem dX10_rent_35 : decode cX10_rent 35 = .ok (.getfield 41, 3) := by decide +kernel
theorem dX10_rent_38 : decode cX10_rent 38 = .ok (.iconst 0, 1) := by decide +kernel
theorem dX10_rent_39 : decode cX10_rent 39 = .ok (.iaload, 1) := by decide +kernel
theorem dX10_rent_40 : decode cX10_rent 40 = .ok (.iload_n 3, 1) := by decide +kernel
theorem dX10_rent_41 : decode cX10_rent 41 = .ok (.iadd, 1) := by decide +kernel
theorem dX10_rent_42 : decode cX10_rent 42 = .ok (.invokevirtual 245, 3) := by decide +kernel
theorem dX10_rent_45 : decode cX10_rent 45 = .ok (.iadd, 1) := by decide +kernel
theorem dX10_rent_46 : decode cX10_rent 46 = .ok (.istore_n 2, 1) := by decide +kernel
theorem dX10_rent_47 : decode cX10_rent 47 = .ok (.iinc 3 1, 3) := by decide +kernel
theorem dX10_rent_50 : decode cX10_rent 50 = .ok (.goto (-23), 3) := by decide +kernel
theorem dX10_rent_53 : decode cX10_rent 53 = .ok (.iload_n 2, 1) := by decide +kernel
theorem dX10_rent_54 : decode cX10_rent 54 = .ok (.ireturn, 1) := by decide +kernel
theorem dX10_lamp_0 : decode cX10_lamp 0 = .ok (.iload_n 1, 1) := by decide +kernel
theorem dX10_lamp_1 : decode cX10_lamp 1 = .ok (.iconst 0, 1) := by decide +kernel
theorem dX10_lamp_2 : decode cX10_lamp 2 = .ok (.bipush 60, 2) := by decide +kernel
theorem dX10_lamp_4 : decode cX10_lamp 4 = .ok (.invokestatic 69, 3) := by decide +kernel
theorem dX10_lamp_7 : decode cX10_lamp 7 = .ok (.ifCond .eq 14, 3) := by decide +kernel
theorem dX10_lamp_10 : decode cX10_lamp 10 = .ok (.iload_n 2, 1) := by decide +kernel
theorem dX10_lamp_11 : decode cX10_lamp 11 = .ok (.iconst 0, 1) := by decide +kernel
theorem dX10_lamp_12 : decode cX10_lamp 12 = .ok (.sipush 1000, 3) := by decide +kernel
theorem dX10_lamp_15 : decode cX10_lamp 15 = .ok (.invokestatic 69, 3) := by decide +kernel
theorem dX10_lamp_18 : decode cX10_lamp 18 = .ok (.ifCond .ne 6, 3) := by decide +kernel
theorem dX10_lamp_21 : decode cX10_lamp 21 = .ok (.ldc 73, 2) := by decide +kernel
theorem dX10_lamp_23 : decode cX10_lamp 23 = .ok (.ireturn, 1) := by decide +kernel
theorem dX10_lamp_24 : decode cX10_lamp 24 = .ok (.ldc2_w 248, 3) := by decide +kernel
theorem dX10_lamp_27 : decode cX10_lamp 27 = .ok (.lstore_n 3, 1) := by decide +kernel
theorem dX10_lamp_28 : decode cX10_lamp 28 = .ok (.iconst 0, 1) := by decide +kernel
theorem dX10_lamp_29 : decode cX10_lamp 29 = .ok (.istore 5, 2) := by decide +kernel
theorem dX10_lamp_31 : decode cX10_lamp 31 = .ok (.iload 5, 2) := by decide +kernel
theorem dX10_lamp_33 : decode cX10_lamp 33 = .ok (.iload_n 1, 1) := by decide +kernel
theorem dX10_lamp_34 : decode cX10_lamp 34 = .ok (.aload_n 0, 1) := by decide +kernel
theorem dX10_lamp_35 : decode cX10_lamp 35 = .ok (.getfield 17, 3) := by decide +kernel
theorem dX10_lamp_38 : decode cX10_lamp 38 = .ok (.iconst 3, 1) := by decide +kernel
theorem dX10_lamp_39 : decode cX10_lamp 39 = .ok (.iaload, 1) := by decide +kernel
theorem dX10_lamp_40 : decode cX10_lamp 40 = .ok (.imul, 1) := by decide +kernel
theorem dX10_lamp_41 : decode cX10_lamp 41 = .ok (.if_icmp .ge 22, 3) := by decide +kernel
theorem dX10_lamp_44 : decode cX10_lamp 44 = .ok (.lload_n 3, 1) := by decide +kernel
theorem dX10_lamp_45 : decode cX10_lamp 45 = .ok (.sipush 1000, 3) := by decide +kernel
theorem dX10_lamp_48 : decode cX10_lamp 48 = .ok (.iload_n 2, 1) := by decide +kernel
theorem dX10_lamp_49 : decode cX10_lamp 49 = .ok (.isub, 1) := by decide +kernel
theorem dX10_lamp_50 : decode cX10_lamp 50 = .ok (.i2l, 1) := by decide +kernel
theorem dX10_lamp_51 : decode cX10_lamp 51 = .ok (.lmul, 1) := by decide +kernel
theorem dX10_lamp_52 : decode cX10_lamp 52 = .ok (.ldc2_w 250, 3) := by decide +kernel
theorem dX10_lamp_55 : decode cX10_lamp 55 = .ok (.ldiv, 1) := by decide +kernel
theorem dX10_lamp_56 : decode cX10_lamp 56 = .ok (.lstore_n 3, 1) := by decide +kernel
theorem dX10_lamp_57 : decode cX10_lamp 57 = .ok (.iinc 5 1, 3) := by decide +kernel
theorem dX10_lamp_60 : decode cX10_lamp 60 = .ok (.goto (-29), 3) := by decide +kernel
theorem dX10_lamp_63 : decode cX10_lamp 63 = .ok (.lload_n 3, 1) := by decide +kernel
theorem dX10_lamp_64 : decode cX10_lamp 64 = .ok (.l2i, 1) := by decide +kernel
theorem dX10_lamp_65 : decode cX10_lamp 65 = .ok (.ireturn, 1) := by decide +kernel
theorem dX10_met_0 : decode cX10_met 0 = .ok (.aload_n 0, 1) := by decide +kernel
theorem dX10_met_1 : decode cX10_met 1 = .ok (.iload_n 1, 1) := by decide +kernel
theorem dX10_met_2 : decode cX10_met 2 = .ok (.invokevirtual 157, 3) := by decide +kernel
theorem dX10_met_5 : decode cX10_met 5 = .ok (.ifCond .ne 6, 3) := by decide +kernel
theorem dX10_met_8 : decode cX10_met 8 = .ok (.ldc 161, 2) := by decide +kernel
theorem dX10_met_10 : decode cX10_met 10 = .ok (.ireturn, 1) := by decide +kernel
theorem dX10_met_11 : decode cX10_met 11 = .ok (.iload_n 2, 1) := by decide +kernel
theorem dX10_met_12 : decode cX10_met 12 = .ok (.iconst 0, 1) := by decide +kernel
theorem dX10_met_13 : decode cX10_met 13 = .ok (.sipush 999, 3) := by decide +kernel
theorem dX10_met_16 : decode cX10_met 16 = .ok (.invokestatic 69, 3) := by decide +kernel
theorem dX10_met_19 : decode cX10_met 19 = .ok (.ifCond .ne 6, 3) := by decide +kernel
theorem dX10_met_22 : decode cX10_met 22 = .ok (.ldc 73, 2) := by decide +kernel
theorem dX10_met_24 : decode cX10_met 24 = .ok (.ireturn, 1) := by decide +kernel
theorem dX10_met_25 : decode cX10_met 25 = .ok (.aload_n 0, 1) := by decide +kernel
theorem dX10_met_26 : decode cX10_met 26 = .ok (.getfield 134, 3) := by decide +kernel
theorem dX10_met_29 : decode cX10_met 29 = .ok (.bipush 6, 2) := by decide +kernel
theorem dX10_met_31 : decode cX10_met 31 = .ok (.if_icmp .ne 6, 3) := by decide +kernel
theorem dX10_met_34 : decode cX10_met 34 = .ok (.ldc 77, 2) := by decide +kernel
theorem dX10_met_36 : decode cX10_met 36 = .ok (.ireturn, 1) := by decide +kernel
theorem dX10_met_37 : decode cX10_met 37 = .ok (.aload_n 0, 1) := by decide +kernel
theorem dX10_met_38 : decode cX10_met 38 = .ok (.getfield 57, 3) := by decide +kernel
theorem dX10_met_41 : decode cX10_met 41 = .ok (.iconst 2, 1) := by decide +kernel
theorem dX10_met_42 : decode cX10_met 42 = .ok (.aload_n 0, 1) := by decide +kernel
theorem dX10_met_43 : decode cX10_met 43 = .ok (.getfield 134, 3) := by decide +kernel
theorem dX10_met_46 : decode cX10_met 46 = .ok (.imul, 1) := by decide +kernel
theorem dX10_met_47 : decode cX10_met 47 = .ok (.iload_n 1, 1) := by decide +kernel
theorem dX10_met_48 : decode cX10_met 48 = .ok (.iastore, 1) := by decide +kernel
theorem dX10_met_49 : decode cX10_met 49 = .ok (.aload_n 0, 1) := by decide +kernel
theorem dX10_met_50 : decode cX10_met 50 = .ok (.getfield 57, 3) := by decide +kernel
theorem dX10_met_53 : decode cX10_met 53 = .ok (.iconst 2, 1) := by decide +kernel
theorem dX10_met_54 : decode cX10_met 54 = .ok (.aload_n 0, 1) := by decide +kernel
theorem dX10_met_55 : decode cX10_met 55 = .ok (.getfield 134, 3) := by decide +kernel
theorem dX10_met_58 : decode cX10_met 58 = .ok (.imul, 1) := by decide +kernel
theorem dX10_met_59 : decode cX10_met 59 = .ok (.iconst 1, 1) := by decide +kernel
theorem dX10_met_60 : decode cX10_met 60 = .ok (.iadd, 1) := by decide +kernel
theorem dX10_met_61 : decode cX10_met 61 = .ok (.iload_n 2, 1) := by decide +kernel
theorem dX10_met_62 : decode cX10_met 62 = .ok (.iastore, 1) := by decide +kernel
theorem dX10_met_63 : decode cX10_met 63 = .ok (.aload_n 0, 1) := by decide +kernel
theorem dX10_met_64 : decode cX10_met 64 = .ok (.dup, 1) := by decide +kernel
theorem dX10_met_65 : decode cX10_met 65 = .ok (.getfield 134, 3) := by decide +kernel
theorem dX10_met_68 : decode cX10_met 68 = .ok (.iconst 1, 1) := by decide +kernel
theorem dX10_met_69 : decode cX10_met 69 = .ok (.iadd, 1) := by decide +kernel
theorem dX10_met_70 : decode cX10_met 70 = .ok (.putfield 134, 3) := by decide +kernel
theorem dX10_met_73 : decode cX10_met 73 = .ok (.aload_n 0, 1) := by decide +kernel
theorem dX10_met_74 : decode cX10_met 74 = .ok (.getfield 134, 3) := by decide +kernel
theorem dX10_met_77 : decode cX10_met 77 = .ok (.ireturn, 1) := by decide +kernel
theorem dX10_isSoBy_0 : decode cX10_isSoBy 0 = .ok (.iconst 1, 1) := by decide +kernel
theorem dX10_isSoBy_1 : decode cX10_isSoBy 1 = .ok (.istore_n 3, 1) := by decide +kernel
theorem dX10_isSoBy_2 : decode cX10_isSoBy 2 = .ok (.iconst 0, 1) := by decide +kernel
theorem dX10_isSoBy_3 : decode cX10_isSoBy 3 = .ok (.istore 4, 2) := by decide +kernel
theorem dX10_isSoBy_5 : decode cX10_isSoBy 5 = .ok (.iload 4, 2) := by decide +kernel
theorem dX10_isSoBy_7 : decode cX10_isSoBy 7 = .ok (.aload_n 0, 1) := by decide +kernel
theorem dX10_isSoBy_8 : decode cX10_isSoBy 8 = .ok (.getfield 134, 3) := by decide +kernel
theorem dX10_isSoBy_11 : decode cX10_isSoBy 11 = .ok (.if_icmp .ge 52, 3) := by decide +kernel
theorem dX10_isSoBy_14 : decode cX10_isSoBy 14 = .ok (.iload_n 3, 1) := by decide +kernel
theorem dX10_isSoBy_15 : decode cX10_isSoBy 15 = .ok (.ifCond .eq 40, 3) := by decide +kernel
theorem dX10_isSoBy_18 : decode cX10_isSoBy 18 = .ok (.aload_n 0, 1) := by decide +kernel
theorem dX10_isSoBy_19 : decode cX10_isSoBy 19 = .ok (.aload_n 0, 1) := by decide +kernel
theorem dX10_isSoBy_20 : decode cX10_isSoBy 20 = .ok (.aload_n 0, 1) := by decide +kernel
theorem dX10_isSoBy_21 : decode cX10_isSoBy 21 = .ok (.getfield 57, 3) := by decide +kernel
theorem dX10_isSoBy_24 : decode cX10_isSoBy 24 = .ok (.iconst 2, 1) := by decide +kernel
theorem dX10_isSoBy_25 : decode cX10_isSoBy 25 = .ok (.iload 4, 2) := by decide +kernel
theorem dX10_isSoBy_27 : decode cX10_isSoBy 27 = .ok (.imul, 1) := by decide +kernel
theorem dX10_isSoBy_28 : decode cX10_isSoBy 28 = .ok (.iaload, 1) := by decide +kernel
theorem dX10_isSoBy_29 : decode cX10_isSoBy 29 = .ok (.iload_n 1, 1) := by decide +kernel
theorem dX10_isSoBy_30 : decode cX10_isSoBy 30 = .ok (.iload_n 2, 1) := by decide +kernel
theorem dX10_isSoBy_31 : decode cX10_isSoBy 31 = .ok (.invokevirtual 146, 3) := by decide +kernel
theorem dX10_isSoBy_34 : decode cX10_isSoBy 34 = .ok (.invokevirtual 153, 3) := by decide +kernel
theorem dX10_isSoBy_37 : decode cX10_isSoBy 37 = .ok (.aload_n 0, 1) := by decide +kernel
theorem dX10_isSoBy_38 : decode cX10_isSoBy 38 = .ok (.getfield 57, 3) := by decide +kernel
theorem dX10_isSoBy_41 : decode cX10_isSoBy 41 = .ok (.iconst 2, 1) := by decide +kernel
theorem dX10_isSoBy_42 : decode cX10_isSoBy 42 = .ok (.iload 4, 2) := by decide +kernel
theorem dX10_isSoBy_44 : decode cX10_isSoBy 44 = .ok (.imul, 1) := by decide +kernel
theorem dX10_isSoBy_45 : decode cX10_isSoBy 45 = .ok (.iconst 1, 1) := by decide +kernel
theorem dX10_isSoBy_46 : decode cX10_isSoBy 46 = .ok (.iadd, 1) := by decide +kernel
theorem dX10_isSoBy_47 : decode cX10_isSoBy 47 = .ok (.iaload, 1) := by decide +kernel
theorem dX10_isSoBy_48 : decode cX10_isSoBy 48 = .ok (.if_icmp .ne 7, 3) := by decide +kernel
theorem dX10_isSoBy_51 : decode cX10_isSoBy 51 = .ok (.iconst 1, 1) := by decide +kernel
theorem dX10_isSoBy_52 : decode cX10_isSoBy 52 = .ok (.goto 4, 3) := by decide +kernel
theorem dX10_isSoBy_55 : decode cX10_isSoBy 55 = .ok (.iconst 0, 1) := by decide +kernel
theorem dX10_isSoBy_56 : decode cX10_isSoBy 56 = .ok (.istore_n 3, 1) := by decide +kernel
theorem dX10_isSoBy_57 : decode cX10_isSoBy 57 = .ok (.iinc 4 1, 3) := by decide +kernel
theorem dX10_isSoBy_60 : decode cX10_isSoBy 60 = .ok (.goto (-55), 3) := by decide +kernel
theorem dX10_isSoBy_63 : decode cX10_isSoBy 63 = .ok (.iload_n 3, 1) := by decide +kernel
theorem dX10_isSoBy_64 : decode cX10_isSoBy 64 = .ok (.ireturn, 1) := by decide +kernel
theorem dX10_fits_0 : decode cX10_fits 0 = .ok (.iload_n 1, 1) := by decide +kernel
theorem dX10_fits_1 : decode cX10_fits 1 = .ok (.iconst 0, 1) := by decide +kernel
theorem dX10_fits_2 : decode cX10_fits 2 = .ok (.iconst 2, 1) := by decide +kernel
theorem dX10_fits_3 : decode cX10_fits 3 = .ok (.invokestatic 69, 3) := by decide +kernel
theorem dX10_fits_6 : decode cX10_fits 6 = .ok (.ifCond .ne 6, 3) := by decide +kernel
theorem dX10_fits_9 : decode cX10_fits 9 = .ok (.ldc 73, 2) := by decide +kernel
theorem dX10_fits_11 : decode cX10_fits 11 = .ok (.ireturn, 1) := by decide +kernel
theorem dX10_fits_12 : decode cX10_fits 12 = .ok (.iconst 0, 1) := by decide +kernel
theorem dX10_fits_13 : decode cX10_fits 13 = .ok (.istore_n 2, 1) := by decide +kernel
theorem dX10_fits_14 : decode cX10_fits 14 = .ok (.iconst (-1), 1) := by decide +kernel
theorem dX10_fits_15 : decode cX10_fits 15 = .ok (.istore_n 3, 1) := by decide +kernel
theorem dX10_fits_16 : decode cX10_fits 16 = .ok (.iconst (-1), 1) := by decide +kernel
theorem dX10_fits_17 : decode cX10_fits 17 = .ok (.istore 4, 2) := by decide +kernel
theorem dX10_fits_19 : decode cX10_fits 19 = .ok (.iconst 0, 1) := by decide +kernel
theorem dX10_fits_20 : decode cX10_fits 20 = .ok (.istore 5, 2) := by decide +kernel
theorem dX10_fits_22 : decode cX10_fits 22 = .ok (.iload 5, 2) := by decide +kernel
theorem dX10_fits_24 : decode cX10_fits 24 = .ok (.iconst 2, 1) := by decide +kernel
theorem dX10_fits_25 : decode cX10_fits 25 = .ok (.aload_n 0, 1) := by decide +kernel
theorem dX10_fits_26 : decode cX10_fits 26 = .ok (.getfield 17, 3) := by decide +kernel
theorem dX10_fits_29 : decode cX10_fits 29 = .ok (.iconst 0, 1) := by decide +kernel
theorem dX10_fits_30 : decode cX10_fits 30 = .ok (.iaload, 1) := by decide +kernel
theorem dX10_fits_31 : decode cX10_fits 31 = .ok (.imul, 1) := by decide +kernel
theorem dX10_fits_32 : decode cX10_fits 32 = .ok (.if_icmp .ge 42, 3) := by decide +kernel
theorem dX10_fits_35 : decode cX10_fits 35 = .ok (.aload_n 0, 1) := by decide +kernel
theorem dX10_fits_36 : decode cX10_fits 36 = .ok (.aload_n 0, 1) := by decide +kernel
theorem dX10_fits_37 : decode cX10_fits 37 = .ok (.getfield 17, 3) := by decide +kernel
theorem dX10_fits_40 : decode cX10_fits 40 = .ok (.iconst 1, 1) := by decide +kernel
theorem dX10_fits_41 : decode cX10_fits 41 = .ok (.iaload, 1) := by decide +kernel
theorem dX10_fits_42 : decode cX10_fits 42 = .ok (.iload 5, 2) := by decide +kernel
theorem dX10_fits_44 : decode cX10_fits 44 = .ok (.invokevirtual 252, 3) := by decide +kernel
theorem dX10_fits_47 : decode cX10_fits 47 = .ok (.ifCond .eq 21, 3) := by decide +kernel
theorem dX10_fits_50 : decode cX10_fits 50 = .ok (.iload_n 2, 1) := by decide +kernel
theorem dX10_fits_51 : decode cX10_fits 51 = .ok (.ifCond .ne 8, 3) := by decide +kernel
theorem dX10_fits_54 : decode cX10_fits 54 = .ok (.iload 5, 2) := by decide +kernel
theorem dX10_fits_56 : decode cX10_fits 56 = .ok (.goto 4, 3) := by decide +kernel
theorem dX10_fits_59 : decode cX10_fits 59 = .ok (.iload_n 3, 1) := by decide +kernel
theorem dX10_fits_60 : decode cX10_fits 60 = .ok (.istore_n 3, 1) := by decide +kernel
theorem dX10_fits_61 : decode cX10_fits 61 = .ok (.iload 5, 2) := by decide +kernel
theorem dX10_fits_63 : decode cX10_fits 63 = .ok (.istore 4, 2) := by decide +kernel
theorem dX10_fits_65 : decode cX10_fits 65 = .ok (.iinc 2 1, 3) := by decide +kernel
theorem dX10_fits_68 : decode cX10_fits 68 = .ok (.iinc 5 1, 3) := by decide +kernel
theorem dX10_fits_71 : decode cX10_fits 71 = .ok (.goto (-49), 3) := by decide +kernel
theorem dX10_fits_74 : decode cX10_fits 74 = .ok (.iload_n 1, 1) := by decide +kernel
theorem dX10_fits_75 : decode cX10_fits 75 = .ok (.ifCond .ne 7, 3) := by decide +kernel
theorem dX10_fits_78 : decode cX10_fits 78 = .ok (.iload_n 2, 1) := by decide +kernel
theorem dX10_fits_79 : decode cX10_fits 79 = .ok (.goto 14, 3) := by decide +kernel
theorem dX10_fits_82 : decode cX10_fits 82 = .ok (.iload_n 1, 1) := by decide +kernel
theorem dX10_fits_83 : decode cX10_fits 83 = .ok (.iconst 1, 1) := by decide +kernel
theorem dX10_fits_84 : decode cX10_fits 84 = .ok (.if_icmp .ne 7, 3) := by decide +kernel
theorem dX10_fits_87 : decode cX10_fits 87 = .ok (.iload_n 3, 1) := by decide +kernel
theorem dX10_fits_88 : decode cX10_fits 88 = .ok (.goto 5, 3) := by decide +kernel
theorem dX10_fits_91 : decode cX10_fits 91 = .ok (.iload 4, 2) := by decide +kernel
theorem dX10_fits_93 : decode cX10_fits 93 = .ok (.ireturn, 1) := by decide +kernel
theorem dX10_growths_0 : decode cX10_growths 0 = .ok (.iconst 0, 1) := by decide +kernel
theorem dX10_growths_1 : decode cX10_growths 1 = .ok (.istore_n 1, 1) := by decide +kernel
theorem dX10_growths_2 : decode cX10_growths 2 = .ok (.iconst 0, 1) := by decide +kernel
theorem dX10_growths_3 : decode cX10_growths 3 = .ok (.istore_n 2, 1) := by decide +kernel
theorem dX10_growths_4 : decode cX10_growths 4 = .ok (.iload_n 2, 1) := by decide +kernel
theorem dX10_growths_5 : decode cX10_growths 5 = .ok (.bipush 30, 2) := by decide +kernel
theorem dX10_growths_7 : decode cX10_growths 7 = .ok (.if_icmp .ge 67, 3) := by decide +kernel
theorem dX10_growths_10 : decode cX10_growths 10 = .ok (.iconst 0, 1) := by decide +kernel
theorem dX10_growths_11 : decode cX10_growths 11 = .ok (.istore_n 3, 1) := by decide +kernel
theorem dX10_growths_12 : decode cX10_growths 12 = .ok (.iconst 0, 1) := by decide +kernel
theorem dX10_growths_13 : decode cX10_growths 13 = .ok (.istore 4, 2) := by decide +kernel
theorem dX10_growths_15 : decode cX10_growths 15 = .ok (.iload 4, 2) := by decide +kernel
theorem dX10_growths_17 : decode cX10_growths 17 = .ok (.iconst 2, 1) := by decide +kernel
theorem dX10_growths_18 : decode cX10_growths 18 = .ok (.aload_n 0, 1) := by decide +kernel
theorem dX10_growths_19 : decode cX10_growths 19 = .ok (.getfield 17, 3) := by decide +kernel
theorem dX10_growths_22 : decode cX10_growths 22 = .ok (.iconst 0, 1) := by decide +kernel
theorem dX10_growths_23 : decode cX10_growths 23 = .ok (.iaload, 1) := by decide +kernel
theorem dX10_growths_24 : decode cX10_growths 24 = .ok (.imul, 1) := by decide +kernel
theorem dX10_growths_25 : decode cX10_growths 25 = .ok (.if_icmp .ge 29, 3) := by decide +kernel
theorem dX10_growths_28 : decode cX10_growths 28 = .ok (.iload_n 3, 1) := by decide +kernel
theorem dX10_growths_29 : decode cX10_growths 29 = .ok (.ifCond .ne 13, 3) := by decide +kernel
theorem dX10_growths_32 : decode cX10_growths 32 = .ok (.aload_n 0, 1) := by decide +kernel
theorem dX10_growths_33 : decode cX10_growths 33 = .ok (.iload_n 2, 1) := by decide +kernel
theorem dX10_growths_34 : decode cX10_growths 34 = .ok (.iload 4, 2) := by decide +kernel
theorem dX10_growths_36 : decode cX10_growths 36 = .ok (.invokevirtual 252, 3) := by decide +kernel
theorem dX10_growths_39 : decode cX10_growths 39 = .ok (.ifCond .eq 7, 3) := by decide +kernel
theorem dX10_growths_42 : decode cX10_growths 42 = .ok (.iconst 1, 1) := by decide +kernel
theorem dX10_growths_43 : decode cX10_growths 43 = .ok (.goto 4, 3) := by decide +kernel
theorem dX10_growths_46 : decode cX10_growths 46 = .ok (.iconst 0, 1) := by decide +kernel
theorem dX10_growths_47 : decode cX10_growths 47 = .ok (.istore_n 3, 1) := by decide +kernel
theorem dX10_growths_48 : decode cX10_growths 48 = .ok (.iinc 4 1, 3) := by decide +kernel
theorem dX10_growths_51 : decode cX10_growths 51 = .ok (.goto (-36), 3) := by decide +kernel
theorem dX10_growths_54 : decode cX10_growths 54 = .ok (.iload_n 1, 1) := by decide +kernel
theorem dX10_growths_55 : decode cX10_growths 55 = .ok (.iload_n 3, 1) := by decide +kernel
theorem dX10_growths_56 : decode cX10_growths 56 = .ok (.ifCond .eq 9, 3) := by decide +kernel
theorem dX10_growths_59 : decode cX10_growths 59 = .ok (.iconst 1, 1) := by decide +kernel
theorem dX10_growths_60 : decode cX10_growths 60 = .ok (.iload_n 2, 1) := by decide +kernel
theorem dX10_growths_61 : decode cX10_growths 61 = .ok (.ishl, 1) := by decide +kernel
theorem dX10_growths_62 : decode cX10_growths 62 = .ok (.goto 4, 3) := by decide +kernel
theorem dX10_growths_65 : decode cX10_growths 65 = .ok (.iconst 0, 1) := by decide +kernel
theorem dX10_growths_66 : decode cX10_growths 66 = .ok (.ior, 1) := by decide +kernel
theorem dX10_growths_67 : decode cX10_growths 67 = .ok (.istore_n 1, 1) := by decide +kernel
theorem dX10_growths_68 : decode cX10_growths 68 = .ok (.iinc 2 1, 3) := by decide +kernel
theorem dX10_growths_71 : decode cX10_growths 71 = .ok (.goto (-67), 3) := by decide +kernel
theorem dX10_growths_74 : decode cX10_growths 74 = .ok (.iload_n 1, 1) := by decide +kernel
theorem dX10_growths_75 : decode cX10_growths 75 = .ok (.ireturn, 1) := by decide +kernel
theorem dX10_alikeBy_0 : decode cX10_alikeBy 0 = .ok (.iconst 0, 1) := by decide +kernel
theorem dX10_alikeBy_1 : decode cX10_alikeBy 1 = .ok (.istore_n 2, 1) := by decide +kernel
theorem dX10_alikeBy_2 : decode cX10_alikeBy 2 = .ok (.iconst 0, 1) := by decide +kernel
theorem dX10_alikeBy_3 : decode cX10_alikeBy 3 = .ok (.istore_n 3, 1) := by decide +kernel
theorem dX10_alikeBy_4 : decode cX10_alikeBy 4 = .ok (.iload_n 3, 1) := by decide +kernel
theorem dX10_alikeBy_5 : decode cX10_alikeBy 5 = .ok (.sipush 1000, 3) := by decide +kernel
theorem dX10_alikeBy_8 : decode cX10_alikeBy 8 = .ok (.if_icmp .ge 16, 3) := by decide +kernel
theorem dX10_alikeBy_11 : decode cX10_alikeBy 11 = .ok (.aload_n 0, 1) := by decide +kernel
theorem dX10_alikeBy_12 : decode cX10_alikeBy 12 = .ok (.getfield 63, 3) := by decide +kernel
theorem dX10_alikeBy_15 : decode cX10_alikeBy 15 = .ok (.iload_n 3, 1) := by decide +kernel
theorem dX10_alikeBy_16 : decode cX10_alikeBy 16 = .ok (.iconst 0, 1) := by decide +kernel
theorem dX10_alikeBy_17 : decode cX10_alikeBy 17 = .ok (.iastore, 1) := by decide +kernel
theorem dX10_alikeBy_18 : decode cX10_alikeBy 18 = .ok (.iinc 3 1, 3) := by decide +kernel
theorem dX10_alikeBy_21 : decode cX10_alikeBy 21 = .ok (.goto (-17), 3) := by decide +kernel
theorem dX10_alikeBy_24 : decode cX10_alikeBy 24 = .ok (.iconst 0, 1) := by decide +kernel
theorem dX10_alikeBy_25 : decode cX10_alikeBy 25 = .ok (.istore_n 3, 1) := by decide +kernel
theorem dX10_alikeBy_26 : decode cX10_alikeBy 26 = .ok (.iload_n 3, 1) := by decide +kernel
theorem dX10_alikeBy_27 : decode cX10_alikeBy 27 = .ok (.iconst 2, 1) := by decide +kernel
theorem dX10_alikeBy_28 : decode cX10_alikeBy 28 = .ok (.aload_n 0, 1) := by decide +kernel
theorem dX10_alikeBy_29 : decode cX10_alikeBy 29 = .ok (.getfield 17, 3) := by decide +kernel
theorem dX10_alikeBy_32 : decode cX10_alikeBy 32 = .ok (.iconst 0, 1) := by decide +kernel
theorem dX10_alikeBy_33 : decode cX10_alikeBy 33 = .ok (.iaload, 1) := by decide +kernel
theorem dX10_alikeBy_34 : decode cX10_alikeBy 34 = .ok (.imul, 1) := by decide +kernel
theorem dX10_alikeBy_35 : decode cX10_alikeBy 35 = .ok (.if_icmp .ge 69, 3) := by decide +kernel
theorem dX10_alikeBy_38 : decode cX10_alikeBy 38 = .ok (.aload_n 0, 1) := by decide +kernel
theorem dX10_alikeBy_39 : decode cX10_alikeBy 39 = .ok (.aload_n 0, 1) := by decide +kernel
theorem dX10_alikeBy_40 : decode cX10_alikeBy 40 = .ok (.getfield 17, 3) := by decide +kernel
theorem dX10_alikeBy_43 : decode cX10_alikeBy 43 = .ok (.iconst 1, 1) := by decide +kernel
theorem dX10_alikeBy_44 : decode cX10_alikeBy 44 = .ok (.iaload, 1) := by decide +kernel
theorem dX10_alikeBy_45 : decode cX10_alikeBy 45 = .ok (.iload_n 3, 1) := by decide +kernel
theorem dX10_alikeBy_46 : decode cX10_alikeBy 46 = .ok (.invokevirtual 252, 3) := by decide +kernel
theorem dX10_alikeBy_49 : decode cX10_alikeBy 49 = .ok (.ifCond .eq 49, 3) := by decide +kernel
theorem dX10_alikeBy_52 : decode cX10_alikeBy 52 = .ok (.aload_n 0, 1) := by decide +kernel
theorem dX10_alikeBy_53 : decode cX10_alikeBy 53 = .ok (.aload_n 0, 1) := by decide +kernel
theorem dX10_alikeBy_54 : decode cX10_alikeBy 54 = .ok (.iload_n 1, 1) := by decide +kernel
theorem dX10_alikeBy_55 : decode cX10_alikeBy 55 = .ok (.iload_n 3, 1) := by decide +kernel
theorem dX10_alikeBy_56 : decode cX10_alikeBy 56 = .ok (.invokevirtual 150, 3) := by decide +kernel
theorem dX10_alikeBy_59 : decode cX10_alikeBy 59 = .ok (.invokevirtual 153, 3) := by decide +kernel
theorem dX10_alikeBy_62 : decode cX10_alikeBy 62 = .ok (.istore 4, 2) := by decide +kernel
theorem dX10_alikeBy_64 : decode cX10_alikeBy 64 = .ok (.aload_n 0, 1) := by decide +kernel
theorem dX10_alikeBy_65 : decode cX10_alikeBy 65 = .ok (.getfield 63, 3) := by decide +kernel
theorem dX10_alikeBy_68 : decode cX10_alikeBy 68 = .ok (.iload 4, 2) := by decide +kernel
theorem dX10_alikeBy_70 : decode cX10_alikeBy 70 = .ok (.dup2, 1) := by decide +kernel
theorem dX10_alikeBy_71 : decode cX10_alikeBy 71 = .ok (.iaload, 1) := by decide +kernel
theorem dX10_alikeBy_72 : decode cX10_alikeBy 72 = .ok (.iconst 1, 1) := by decide +kernel
theorem dX10_alikeBy_73 : decode cX10_alikeBy 73 = .ok (.iadd, 1) := by decide +kernel
theorem dX10_alikeBy_74 : decode cX10_alikeBy 74 = .ok (.iastore, 1) := by decide +kernel
theorem dX10_alikeBy_75 : decode cX10_alikeBy 75 = .ok (.aload_n 0, 1) := by decide +kernel
theorem dX10_alikeBy_76 : decode cX10_alikeBy 76 = .ok (.getfield 63, 3) := by decide +kernel
theorem dX10_alikeBy_79 : decode cX10_alikeBy 79 = .ok (.iload 4, 2) := by decide +kernel
theorem dX10_alikeBy_81 : decode cX10_alikeBy 81 = .ok (.iaload, 1) := by decide +kernel
theorem dX10_alikeBy_82 : decode cX10_alikeBy 82 = .ok (.iload_n 2, 1) := by decide +kernel
theorem dX10_alikeBy_83 : decode cX10_alikeBy 83 = .ok (.if_icmp .le 13, 3) := by decide +kernel
theorem dX10_alikeBy_86 : decode cX10_alikeBy 86 = .ok (.aload_n 0, 1) := by decide +kernel
theorem dX10_alikeBy_87 : decode cX10_alikeBy 87 = .ok (.getfield 63, 3) := by decide +kernel
theorem dX10_alikeBy_90 : decode cX10_alikeBy 90 = .ok (.iload 4, 2) := by decide +kernel
theorem dX10_alikeBy_92 : decode cX10_alikeBy 92 = .ok (.iaload, 1) := by decide +kernel
theorem dX10_alikeBy_93 : decode cX10_alikeBy 93 = .ok (.goto 4, 3) := by decide +kernel
theorem dX10_alikeBy_96 : decode cX10_alikeBy 96 = .ok (.iload_n 2, 1) := by decide +kernel
theorem dX10_alikeBy_97 : decode cX10_alikeBy 97 = .ok (.istore_n 2, 1) := by decide +kernel
theorem dX10_alikeBy_98 : decode cX10_alikeBy 98 = .ok (.iinc 3 1, 3) := by decide +kernel
theorem dX10_alikeBy_101 : decode cX10_alikeBy 101 = .ok (.goto (-75), 3) := by decide +kernel
theorem dX10_alikeBy_104 : decode cX10_alikeBy 104 = .ok (.iload_n 2, 1) := by decide +kernel
theorem dX10_alikeBy_105 : decode cX10_alikeBy 105 = .ok (.ireturn, 1) := by decide +kernel
theorem dX10_lookAt_0 : decode cX10_lookAt 0 = .ok (.aload_n 0, 1) := by decide +kernel
theorem dX10_lookAt_1 : decode cX10_lookAt 1 = .ok (.iconst 0, 1) := by decide +kernel
theorem dX10_lookAt_2 : decode cX10_lookAt 2 = .ok (.invokevirtual 255, 3) := by decide +kernel
theorem dX10_lookAt_5 : decode cX10_lookAt 5 = .ok (.istore_n 1, 1) := by decide +kernel
theorem dX10_lookAt_6 : decode cX10_lookAt 6 = .ok (.iconst (-1), 1) := by decide +kernel
theorem dX10_lookAt_7 : decode cX10_lookAt 7 = .ok (.istore_n 2, 1) := by decide +kernel
theorem dX10_lookAt_8 : decode cX10_lookAt 8 = .ok (.iconst 0, 1) := by decide +kernel
theorem dX10_lookAt_9 : decode cX10_lookAt 9 = .ok (.istore_n 3, 1) := by decide +kernel
theorem dX10_lookAt_10 : decode cX10_lookAt 10 = .ok (.iload_n 3, 1) := by decide +kernel
theorem dX10_lookAt_11 : decode cX10_lookAt 11 = .ok (.aload_n 0, 1) := by decide +kernel
theorem dX10_lookAt_12 : decode cX10_lookAt 12 = .ok (.getfield 17, 3) := by decide +kernel
theorem dX10_lookAt_15 : decode cX10_lookAt 15 = .ok (.iconst 3, 1) := by decide +kernel
theorem dX10_lookAt_16 : decode cX10_lookAt 16 = .ok (.iaload, 1) := by decide +kernel
theorem dX10_lookAt_17 : decode cX10_lookAt 17 = .ok (.if_icmp .ge 41, 3) := by decide +kernel
theorem dX10_lookAt_20 : decode cX10_lookAt 20 = .ok (.aload_n 0, 1) := by decide +kernel
theorem dX10_lookAt_21 : decode cX10_lookAt 21 = .ok (.iload_n 3, 1) := by decide +kernel
theorem dX10_lookAt_22 : decode cX10_lookAt 22 = .ok (.invokevirtual 258, 3) := by decide +kernel
theorem dX10_lookAt_25 : decode cX10_lookAt 25 = .ok (.istore 4, 2) := by decide +kernel
theorem dX10_lookAt_27 : decode cX10_lookAt 27 = .ok (.iload 4, 2) := by decide +kernel
theorem dX10_lookAt_29 : decode cX10_lookAt 29 = .ok (.iload_n 1, 1) := by decide +kernel
theorem dX10_lookAt_30 : decode cX10_lookAt 30 = .ok (.if_icmp .ge 7, 3) := by decide +kernel
theorem dX10_lookAt_33 : decode cX10_lookAt 33 = .ok (.iload_n 3, 1) := by decide +kernel
theorem dX10_lookAt_34 : decode cX10_lookAt 34 = .ok (.goto 4, 3) := by decide +kernel
theorem dX10_lookAt_37 : decode cX10_lookAt 37 = .ok (.iload_n 2, 1) := by decide +kernel
theorem dX10_lookAt_38 : decode cX10_lookAt 38 = .ok (.istore_n 2, 1) := by decide +kernel
theorem dX10_lookAt_39 : decode cX10_lookAt 39 = .ok (.iload 4, 2) := by decide +kernel
theorem dX10_lookAt_41 : decode cX10_lookAt 41 = .ok (.iload_n 1, 1) := by decide +kernel
theorem dX10_lookAt_42 : decode cX10_lookAt 42 = .ok (.if_icmp .ge 8, 3) := by decide +kernel
theorem dX10_lookAt_45 : decode cX10_lookAt 45 = .ok (.iload 4, 2) := by decide +kernel
theorem dX10_lookAt_47 : decode cX10_lookAt 47 = .ok (.goto 4, 3) := by decide +kernel
theorem dX10_lookAt_50 : decode cX10_lookAt 50 = .ok (.iload_n 1, 1) := by decide +kernel
theorem dX10_lookAt_51 : decode cX10_lookAt 51 = .ok (.istore_n 1, 1) := by decide +kernel
theorem dX10_lookAt_52 : decode cX10_lookAt 52 = .ok (.iinc 3 1, 3) := by decide +kernel
theorem dX10_lookAt_55 : decode cX10_lookAt 55 = .ok (.goto (-45), 3) := by decide +kernel
theorem dX10_lookAt_58 : decode cX10_lookAt 58 = .ok (.iload_n 2, 1) := by decide +kernel
theorem dX10_lookAt_59 : decode cX10_lookAt 59 = .ok (.ireturn, 1) := by decide +kernel
theorem dX10_write_0 : decode cX10_write 0 = .ok (.aload_n 0, 1) := by decide +kernel
theorem dX10_write_1 : decode cX10_write 1 = .ok (.iload_n 1, 1) := by decide +kernel
theorem dX10_write_2 : decode cX10_write 2 = .ok (.invokevirtual 180, 3) := by decide +kernel
theorem dX10_write_5 : decode cX10_write 5 = .ok (.ifCond .eq 11, 3) := by decide +kernel
theorem dX10_write_8 : decode cX10_write 8 = .ok (.aload_n 0, 1) := by decide +kernel
theorem dX10_write_9 : decode cX10_write 9 = .ok (.iload_n 2, 1) := by decide +kernel
theorem dX10_write_10 : decode cX10_write 10 = .ok (.invokevirtual 222, 3) := by decide +kernel
theorem dX10_write_13 : decode cX10_write 13 = .ok (.ifCond .ne 6, 3) := by decide +kernel
theorem dX10_write_16 : decode cX10_write 16 = .ok (.ldc 161, 2) := by decide +kernel
theorem dX10_write_18 : decode cX10_write 18 = .ok (.ireturn, 1) := by decide +kernel
theorem dX10_write_19 : decode cX10_write 19 = .ok (.aload_n 0, 1) := by decide +kernel
theorem dX10_write_20 : decode cX10_write 20 = .ok (.getfield 137, 3) := by decide +kernel
theorem dX10_write_23 : decode cX10_write 23 = .ok (.bipush 20, 2) := by decide +kernel
theorem dX10_write_25 : decode cX10_write 25 = .ok (.if_icmp .ne 6, 3) := by decide +kernel
theorem dX10_write_28 : decode cX10_write 28 = .ok (.ldc 77, 2) := by decide +kernel
theorem dX10_write_30 : decode cX10_write 30 = .ok (.ireturn, 1) := by decide +kernel
theorem dX10_write_31 : decode cX10_write 31 = .ok (.aload_n 0, 1) := by decide +kernel
theorem dX10_write_32 : decode cX10_write 32 = .ok (.getfield 60, 3) := by decide +kernel
theorem dX10_write_35 : decode cX10_write 35 = .ok (.iconst 2, 1) := by decide +kernel
theorem dX10_write_36 : decode cX10_write 36 = .ok (.aload_n 0, 1) := by decide +kernel
theorem dX10_write_37 : decode cX10_write 37 = .ok (.getfield 137, 3) := by decide +kernel
theorem dX10_write_40 : decode cX10_write 40 = .ok (.imul, 1) := by decide +kernel
theorem dX10_write_41 : decode cX10_write 41 = .ok (.iload_n 1, 1) := by decide +kernel
theorem dX10_write_42 : decode cX10_write 42 = .ok (.iastore, 1) := by decide +kernel
theorem dX10_write_43 : decode cX10_write 43 = .ok (.aload_n 0, 1) := by decide +kernel
theorem dX10_write_44 : decode cX10_write 44 = .ok (.getfield 60, 3) := by decide +kernel
theorem dX10_write_47 : decode cX10_write 47 = .ok (.iconst 2, 1) := by decide +kernel
theorem dX10_write_48 : decode cX10_write 48 = .ok (.aload_n 0, 1) := by decide +kernel
theorem dX10_write_49 : decode cX10_write 49 = .ok (.getfield 137, 3) := by decide +kernel
theorem dX10_write_52 : decode cX10_write 52 = .ok (.imul, 1) := by decide +kernel
theorem dX10_write_53 : decode cX10_write 53 = .ok (.iconst 1, 1) := by decide +kernel
theorem dX10_write_54 : decode cX10_write 54 = .ok (.iadd, 1) := by decide +kernel
theorem dX10_write_55 : decode cX10_write 55 = .ok (.iload_n 2, 1) := by decide +kernel
theorem dX10_write_56 : decode cX10_write 56 = .ok (.iastore, 1) := by decide +kernel
theorem dX10_write_57 : decode cX10_write 57 = .ok (.aload_n 0, 1) := by decide +kernel
theorem dX10_write_58 : decode cX10_write 58 = .ok (.dup, 1) := by decide +kernel
theorem dX10_write_59 : decode cX10_write 59 = .ok (.getfield 137, 3) := by decide +kernel
theorem dX10_write_62 : decode cX10_write 62 = .ok (.iconst 1, 1) := by decide +kernel
theorem dX10_write_63 : decode cX10_write 63 = .ok (.iadd, 1) := by decide +kernel
theorem dX10_write_64 : decode cX10_write 64 = .ok (.putfield 137, 3) := by decide +kernel
theorem dX10_write_67 : decode cX10_write 67 = .ok (.aload_n 0, 1) := by decide +kernel
theorem dX10_write_68 : decode cX10_write 68 = .ok (.getfield 137, 3) := by decide +kernel
theorem dX10_write_71 : decode cX10_write 71 = .ok (.ireturn, 1) := by decide +kernel
theorem dX10_judge_0 : decode cX10_judge 0 = .ok (.iconst 0, 1) := by decide +kernel
theorem dX10_judge_1 : decode cX10_judge 1 = .ok (.istore_n 1, 1) := by decide +kernel
theorem dX10_judge_2 : decode cX10_judge 2 = .ok (.iload_n 1, 1) := by decide +kernel
theorem dX10_judge_3 : decode cX10_judge 3 = .ok (.aload_n 0, 1) := by decide +kernel
theorem dX10_judge_4 : decode cX10_judge 4 = .ok (.getfield 137, 3) := by decide +kernel
theorem dX10_judge_7 : decode cX10_judge 7 = .ok (.if_icmp .ge 41, 3) := by decide +kernel
theorem dX10_judge_10 : decode cX10_judge 10 = .ok (.aload_n 0, 1) := by decide +kernel
theorem dX10_judge_11 : decode cX10_judge 11 = .ok (.getfield 41, 3) := by decide +kernel
theorem dX10_judge_14 : decode cX10_judge 14 = .ok (.iconst 2, 1) := by decide +kernel
theorem dX10_judge_15 : decode cX10_judge 15 = .ok (.iconst 3, 1) := by decide +kernel
theorem dX10_judge_16 : decode cX10_judge 16 = .ok (.aload_n 0, 1) := by decide +kernel
theorem dX10_judge_17 : decode cX10_judge 17 = .ok (.getfield 60, 3) := by decide +kernel
theorem dX10_judge_20 : decode cX10_judge 20 = .ok (.iconst 2, 1) := by decide +kernel
theorem dX10_judge_21 : decode cX10_judge 21 = .ok (.iload_n 1, 1) := by decide +kernel
theorem dX10_judge_22 : decode cX10_judge 22 = .ok (.imul, 1) := by decide +kernel
theorem dX10_judge_23 : decode cX10_judge 23 = .ok (.iaload, 1) := by decide +kernel
theorem dX10_judge_24 : decode cX10_judge 24 = .ok (.imul, 1) := by decide +kernel
theorem dX10_judge_25 : decode cX10_judge 25 = .ok (.iadd, 1) := by decide +kernel
theorem dX10_judge_26 : decode cX10_judge 26 = .ok (.iaload, 1) := by decide +kernel
theorem dX10_judge_27 : decode cX10_judge 27 = .ok (.aload_n 0, 1) := by decide +kernel
theorem dX10_judge_28 : decode cX10_judge 28 = .ok (.getfield 60, 3) := by decide +kernel
theorem dX10_judge_31 : decode cX10_judge 31 = .ok (.iconst 2, 1) := by decide +kernel
theorem dX10_judge_32 : decode cX10_judge 32 = .ok (.iload_n 1, 1) := by decide +kernel
theorem dX10_judge_33 : decode cX10_judge 33 = .ok (.imul, 1) := by decide +kernel
theorem dX10_judge_34 : decode cX10_judge 34 = .ok (.iconst 1, 1) := by decide +kernel
theorem dX10_judge_35 : decode cX10_judge 35 = .ok (.iadd, 1) := by decide +kernel
theorem dX10_judge_36 : decode cX10_judge 36 = .ok (.iaload, 1) := by decide +kernel
theorem dX10_judge_37 : decode cX10_judge 37 = .ok (.if_icmp .eq 5, 3) := by decide +kernel
theorem dX10_judge_40 : decode cX10_judge 40 = .ok (.iload_n 1, 1) := by decide +kernel
theorem dX10_judge_41 : decode cX10_judge 41 = .ok (.ireturn, 1) := by decide +kernel
theorem dX10_judge_42 : decode cX10_judge 42 = .ok (.iinc 1 1, 3) := by decide +kernel
theorem dX10_judge_45 : decode cX10_judge 45 = .ok (.goto (-43), 3) := by decide +kernel
theorem dX10_judge_48 : decode cX10_judge 48 = .ok (.iconst (-1), 1) := by decide +kernel
theorem dX10_judge_49 : decode cX10_judge 49 = .ok (.ireturn, 1) := by decide +kernel
theorem dX10_tear_0 : decode cX10_tear 0 = .ok (.aload_n 0, 1) := by decide +kernel
theorem dX10_tear_1 : decode cX10_tear 1 = .ok (.getfield 134, 3) := by decide +kernel
theorem dX10_tear_4 : decode cX10_tear 4 = .ok (.aload_n 0, 1) := by decide +kernel
theorem dX10_tear_5 : decode cX10_tear 5 = .ok (.getfield 137, 3) := by decide +kernel
theorem dX10_tear_8 : decode cX10_tear 8 = .ok (.iadd, 1) := by decide +kernel
theorem dX10_tear_9 : decode cX10_tear 9 = .ok (.istore_n 1, 1) := by decide +kernel
theorem dX10_tear_10 : decode cX10_tear 10 = .ok (.aload_n 0, 1) := by decide +kernel
theorem dX10_tear_11 : decode cX10_tear 11 = .ok (.iconst 0, 1) := by decide +kernel
theorem dX10_tear_12 : decode cX10_tear 12 = .ok (.putfield 134, 3) := by decide +kernel
theorem dX10_tear_15 : decode cX10_tear 15 = .ok (.aload_n 0, 1) := by decide +kernel
theorem dX10_tear_16 : decode cX10_tear 16 = .ok (.iconst 0, 1) := by decide +kernel
theorem dX10_tear_17 : decode cX10_tear 17 = .ok (.putfield 137, 3) := by decide +kernel
theorem dX10_tear_20 : decode cX10_tear 20 = .ok (.iload_n 1, 1) := by decide +kernel
theorem dX10_tear_21 : decode cX10_tear 21 = .ok (.ireturn, 1) := by decide +kernel
theorem dX10_seed_0 : decode cX10_seed 0 = .ok (.iload_n 1, 1) := by decide +kernel
theorem dX10_seed_1 : decode cX10_seed 1 = .ok (.ifCond .ge 6, 3) := by decide +kernel
theorem dX10_seed_4 : decode cX10_seed 4 = .ok (.ldc 73, 2) := by decide +kernel
theorem dX10_seed_6 : decode cX10_seed 6 = .ok (.ireturn, 1) := by decide +kernel
theorem dX10_seed_7 : decode cX10_seed 7 = .ok (.aload_n 0, 1) := by decide +kernel
theorem dX10_seed_8 : decode cX10_seed 8 = .ok (.getfield 209, 3) := by decide +kernel
theorem dX10_seed_11 : decode cX10_seed 11 = .ok (.istore_n 2, 1) := by decide +kernel
theorem dX10_seed_12 : decode cX10_seed 12 = .ok (.aload_n 0, 1) := by decide +kernel
theorem dX10_seed_13 : decode cX10_seed 13 = .ok (.iload_n 1, 1) := by decide +kernel
theorem dX10_seed_14 : decode cX10_seed 14 = .ok (.putfield 209, 3) := by decide +kernel
theorem dX10_seed_17 : decode cX10_seed 17 = .ok (.iload_n 2, 1) := by decide +kernel
theorem dX10_seed_18 : decode cX10_seed 18 = .ok (.ireturn, 1) := by decide +kernel
theorem dX10_keep_0 : decode cX10_keep 0 = .ok (.iload_n 1, 1) := by decide +kernel
theorem dX10_keep_1 : decode cX10_keep 1 = .ok (.iconst 0, 1) := by decide +kernel
theorem dX10_keep_2 : decode cX10_keep 2 = .ok (.iconst 1, 1) := by decide +kernel
theorem dX10_keep_3 : decode cX10_keep 3 = .ok (.invokestatic 69, 3) := by decide +kernel
theorem dX10_keep_6 : decode cX10_keep 6 = .ok (.ifCond .ne 6, 3) := by decide +kernel
theorem dX10_keep_9 : decode cX10_keep 9 = .ok (.ldc 161, 2) := by decide +kernel
theorem dX10_keep_11 : decode cX10_keep 11 = .ok (.ireturn, 1) := by decide +kernel
theorem dX10_keep_12 : decode cX10_keep 12 = .ok (.aload_n 0, 1) := by decide +kernel
theorem dX10_keep_13 : decode cX10_keep 13 = .ok (.getfield 41, 3) := by decide +kernel
theorem dX10_keep_16 : decode cX10_keep 16 = .ok (.iconst 0, 1) := by decide +kernel
theorem dX10_keep_17 : decode cX10_keep 17 = .ok (.aload_n 0, 1) := by decide +kernel
theorem dX10_keep_18 : decode cX10_keep 18 = .ok (.getfield 47, 3) := by decide +kernel
theorem dX10_keep_21 : decode cX10_keep 21 = .ok (.bipush 14, 2) := by decide +kernel
theorem dX10_keep_23 : decode cX10_keep 23 = .ok (.iload_n 1, 1) := by decide +kernel
theorem dX10_keep_24 : decode cX10_keep 24 = .ok (.imul, 1) := by decide +kernel
theorem dX10_keep_25 : decode cX10_keep 25 = .ok (.invokestatic 186, 3) := by decide +kernel
theorem dX10_keep_28 : decode cX10_keep 28 = .ok (.aload_n 0, 1) := by decide +kernel
theorem dX10_keep_29 : decode cX10_keep 29 = .ok (.getfield 50, 3) := by decide +kernel
theorem dX10_keep_32 : decode cX10_keep 32 = .ok (.iload_n 1, 1) := by decide +kernel
theorem dX10_keep_33 : decode cX10_keep 33 = .ok (.aload_n 0, 1) := by decide +kernel
theorem dX10_keep_34 : decode cX10_keep 34 = .ok (.getfield 209, 3) := by decide +kernel
theorem dX10_keep_37 : decode cX10_keep 37 = .ok (.iastore, 1) := by decide +kernel
theorem dX10_keep_38 : decode cX10_keep 38 = .ok (.aload_n 0, 1) := by decide +kernel
theorem dX10_keep_39 : decode cX10_keep 39 = .ok (.getfield 53, 3) := by decide +kernel
theorem dX10_keep_42 : decode cX10_keep 42 = .ok (.iload_n 1, 1) := by decide +kernel
theorem dX10_keep_43 : decode cX10_keep 43 = .ok (.iconst 1, 1) := by decide +kernel
theorem dX10_keep_44 : decode cX10_keep 44 = .ok (.bastore, 1) := by decide +kernel
theorem dX10_keep_45 : decode cX10_keep 45 = .ok (.aload_n 0, 1) := by decide +kernel
theorem dX10_keep_46 : decode cX10_keep 46 = .ok (.iconst 0, 1) := by decide +kernel
theorem dX10_keep_47 : decode cX10_keep 47 = .ok (.putfield 131, 3) := by decide +kernel
theorem dX10_keep_50 : decode cX10_keep 50 = .ok (.iconst 1, 1) := by decide +kernel
theorem dX10_keep_51 : decode cX10_keep 51 = .ok (.ireturn, 1) := by decide +kernel
theorem dX10_goBack_0 : decode cX10_goBack 0 = .ok (.iload_n 1, 1) := by decide +kernel
theorem dX10_goBack_1 : decode cX10_goBack 1 = .ok (.iconst 0, 1) := by decide +kernel
theorem dX10_goBack_2 : decode cX10_goBack 2 = .ok (.iconst 1, 1) := by decide +kernel
theorem dX10_goBack_3 : decode cX10_goBack 3 = .ok (.invokestatic 69, 3) := by decide +kernel
theorem dX10_goBack_6 : decode cX10_goBack 6 = .ok (.ifCond .ne 6, 3) := by decide +kernel
theorem dX10_goBack_9 : decode cX10_goBack 9 = .ok (.ldc 161, 2) := by decide +kernel
theorem dX10_goBack_11 : decode cX10_goBack 11 = .ok (.ireturn, 1) := by decide +kernel
theorem dX10_goBack_12 : decode cX10_goBack 12 = .ok (.aload_n 0, 1) := by decide +kernel
theorem dX10_goBack_13 : decode cX10_goBack 13 = .ok (.getfield 53, 3) := by decide +kernel
theorem dX10_goBack_16 : decode cX10_goBack 16 = .ok (.iload_n 1, 1) := by decide +kernel
theorem dX10_goBack_17 : decode cX10_goBack 17 = .ok (.baload, 1) := by decide +kernel
theorem dX10_goBack_18 : decode cX10_goBack 18 = .ok (.ifCond .ne 6, 3) := by decide +kernel
theorem dX10_goBack_21 : decode cX10_goBack 21 = .ok (.ldc 190, 2) := by decide +kernel
theorem dX10_goBack_23 : decode cX10_goBack 23 = .ok (.ireturn, 1) := by decide +kernel
theorem dX10_goBack_24 : decode cX10_goBack 24 = .ok (.aload_n 0, 1) := by decide +kernel
theorem dX10_goBack_25 : decode cX10_goBack 25 = .ok (.getfield 47, 3) := by decide +kernel
theorem dX10_goBack_28 : decode cX10_goBack 28 = .ok (.bipush 14, 2) := by decide +kernel
theorem dX10_goBack_30 : decode cX10_goBack 30 = .ok (.iload_n 1, 1) := by decide +kernel
theorem dX10_goBack_31 : decode cX10_goBack 31 = .ok (.imul, 1) := by decide +kernel
theorem dX10_goBack_32 : decode cX10_goBack 32 = .ok (.aload_n 0, 1) := by decide +kernel
theorem dX10_goBack_33 : decode cX10_goBack 33 = .ok (.getfield 41, 3) := by decide +kernel
theorem dX10_goBack_36 : decode cX10_goBack 36 = .ok (.iconst 0, 1) := by decide +kernel
theorem dX10_goBack_37 : decode cX10_goBack 37 = .ok (.invokestatic 186, 3) := by decide +kernel
theorem dX10_goBack_40 : decode cX10_goBack 40 = .ok (.aload_n 0, 1) := by decide +kernel
theorem dX10_goBack_41 : decode cX10_goBack 41 = .ok (.aload_n 0, 1) := by decide +kernel
theorem dX10_goBack_42 : decode cX10_goBack 42 = .ok (.getfield 50, 3) := by decide +kernel
theorem dX10_goBack_45 : decode cX10_goBack 45 = .ok (.iload_n 1, 1) := by decide +kernel
theorem dX10_goBack_46 : decode cX10_goBack 46 = .ok (.iaload, 1) := by decide +kernel
theorem dX10_goBack_47 : decode cX10_goBack 47 = .ok (.putfield 209, 3) := by decide +kernel
theorem dX10_goBack_50 : decode cX10_goBack 50 = .ok (.aload_n 0, 1) := by decide +kernel
theorem dX10_goBack_51 : decode cX10_goBack 51 = .ok (.iconst 0, 1) := by decide +kernel
theorem dX10_goBack_52 : decode cX10_goBack 52 = .ok (.putfield 131, 3) := by decide +kernel
theorem dX10_goBack_55 : decode cX10_goBack 55 = .ok (.iconst 1, 1) := by decide +kernel
theorem dX10_goBack_56 : decode cX10_goBack 56 = .ok (.ireturn, 1) := by decide +kernel
