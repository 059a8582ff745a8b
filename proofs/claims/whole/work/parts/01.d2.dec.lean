theorem dX9_comes_1 : decode cX9_comes 1 = .ok (.getfield 10, 3) := by decide +kernel
theorem dX9_comes_4 : decode cX9_comes 4 = .ok (.iload_n 1, 1) := by decide +kernel
theorem dX9_comes_5 : decode cX9_comes 5 = .ok (.invokevirtual 162, 3) := by decide +kernel
theorem dX9_comes_8 : decode cX9_comes 8 = .ok (.ifCond .eq 14, 3) := by decide +kernel
theorem dX9_comes_11 : decode cX9_comes 11 = .ok (.aload_n 0, 1) := by decide +kernel
theorem dX9_comes_12 : decode cX9_comes 12 = .ok (.getfield 10, 3) := by decide +kernel
theorem dX9_comes_15 : decode cX9_comes 15 = .ok (.iload_n 2, 1) := by decide +kernel
theorem dX9_comes_16 : decode cX9_comes 16 = .ok (.invokevirtual 253, 3) := by decide +kernel
theorem dX9_comes_19 : decode cX9_comes 19 = .ok (.ifCond .ne 6, 3) := by decide +kernel
theorem dX9_comes_22 : decode cX9_comes 22 = .ok (.ldc 147, 2) := by decide +kernel
theorem dX9_comes_24 : decode cX9_comes 24 = .ok (.ireturn, 1) := by decide +kernel
theorem dX9_comes_25 : decode cX9_comes 25 = .ok (.aload_n 0, 1) := by decide +kernel
theorem dX9_comes_26 : decode cX9_comes 26 = .ok (.getfield 33, 3) := by decide +kernel
theorem dX9_comes_29 : decode cX9_comes 29 = .ok (.aload_n 0, 1) := by decide +kernel
theorem dX9_comes_30 : decode cX9_comes 30 = .ok (.getfield 29, 3) := by decide +kernel
theorem dX9_comes_33 : decode cX9_comes 33 = .ok (.invokevirtual 256, 3) := by decide +kernel
theorem dX9_comes_36 : decode cX9_comes 36 = .ok (.iconst 0, 1) := by decide +kernel
theorem dX9_comes_37 : decode cX9_comes 37 = .ok (.istore_n 3, 1) := by decide +kernel
theorem dX9_comes_38 : decode cX9_comes 38 = .ok (.iload_n 3, 1) := by decide +kernel
theorem dX9_comes_39 : decode cX9_comes 39 = .ok (.sipush 300, 3) := by decide +kernel
theorem dX9_comes_42 : decode cX9_comes 42 = .ok (.if_icmp .gt 34, 3) := by decide +kernel
theorem dX9_comes_45 : decode cX9_comes 45 = .ok (.aload_n 0, 1) := by decide +kernel
theorem dX9_comes_46 : decode cX9_comes 46 = .ok (.getfield 33, 3) := by decide +kernel
theorem dX9_comes_49 : decode cX9_comes 49 = .ok (.iload_n 1, 1) := by decide +kernel
theorem dX9_comes_50 : decode cX9_comes 50 = .ok (.invokevirtual 165, 3) := by decide +kernel
theorem dX9_comes_53 : decode cX9_comes 53 = .ok (.iload_n 2, 1) := by decide +kernel
theorem dX9_comes_54 : decode cX9_comes 54 = .ok (.if_icmp .ne 5, 3) := by decide +kernel
theorem dX9_comes_57 : decode cX9_comes 57 = .ok (.iload_n 3, 1) := by decide +kernel
theorem dX9_comes_58 : decode cX9_comes 58 = .ok (.ireturn, 1) := by decide +kernel
theorem dX9_comes_59 : decode cX9_comes 59 = .ok (.aload_n 0, 1) := by decide +kernel
theorem dX9_comes_60 : decode cX9_comes 60 = .ok (.getfield 33, 3) := by decide +kernel
theorem dX9_comes_63 : decode cX9_comes 63 = .ok (.aload_n 0, 1) := by decide +kernel
theorem dX9_comes_64 : decode cX9_comes 64 = .ok (.getfield 10, 3) := by decide +kernel
theorem dX9_comes_67 : decode cX9_comes 67 = .ok (.invokevirtual 203, 3) := by decide +kernel
theorem dX9_comes_70 : decode cX9_comes 70 = .ok (.iinc 3 1, 3) := by decide +kernel
theorem dX9_comes_73 : decode cX9_comes 73 = .ok (.goto (-35), 3) := by decide +kernel
theorem dX9_comes_76 : decode cX9_comes 76 = .ok (.iconst (-1), 1) := by decide +kernel
theorem dX9_comes_77 : decode cX9_comes 77 = .ok (.ireturn, 1) := by decide +kernel
theorem dX9_meets_0 : decode cX9_meets 0 = .ok (.aload_n 0, 1) := by decide +kernel
theorem dX9_meets_1 : decode cX9_meets 1 = .ok (.iload_n 1, 1) := by decide +kernel
theorem dX9_meets_2 : decode cX9_meets 2 = .ok (.iload_n 2, 1) := by decide +kernel
theorem dX9_meets_3 : decode cX9_meets 3 = .ok (.invokevirtual 213, 3) := by decide +kernel
theorem dX9_meets_6 : decode cX9_meets 6 = .ok (.ifCond .ne 6, 3) := by decide +kernel
theorem dX9_meets_9 : decode cX9_meets 9 = .ok (.ldc 147, 2) := by decide +kernel
theorem dX9_meets_11 : decode cX9_meets 11 = .ok (.ireturn, 1) := by decide +kernel
theorem dX9_meets_12 : decode cX9_meets 12 = .ok (.aload_n 0, 1) := by decide +kernel
theorem dX9_meets_13 : decode cX9_meets 13 = .ok (.getfield 33, 3) := by decide +kernel
theorem dX9_meets_16 : decode cX9_meets 16 = .ok (.aload_n 0, 1) := by decide +kernel
theorem dX9_meets_17 : decode cX9_meets 17 = .ok (.getfield 29, 3) := by decide +kernel
theorem dX9_meets_20 : decode cX9_meets 20 = .ok (.invokevirtual 256, 3) := by decide +kernel
theorem dX9_meets_23 : decode cX9_meets 23 = .ok (.aload_n 0, 1) := by decide +kernel
theorem dX9_meets_24 : decode cX9_meets 24 = .ok (.iload_n 1, 1) := by decide +kernel
theorem dX9_meets_25 : decode cX9_meets 25 = .ok (.iload_n 2, 1) := by decide +kernel
theorem dX9_meets_26 : decode cX9_meets 26 = .ok (.invokevirtual 259, 3) := by decide +kernel
theorem dX9_meets_29 : decode cX9_meets 29 = .ok (.istore_n 3, 1) := by decide +kernel
theorem dX9_meets_30 : decode cX9_meets 30 = .ok (.iconst 0, 1) := by decide +kernel
theorem dX9_meets_31 : decode cX9_meets 31 = .ok (.istore 4, 2) := by decide +kernel
theorem dX9_meets_33 : decode cX9_meets 33 = .ok (.iload 4, 2) := by decide +kernel
theorem dX9_meets_35 : decode cX9_meets 35 = .ok (.sipush 300, 3) := by decide +kernel
theorem dX9_meets_38 : decode cX9_meets 38 = .ok (.if_icmp .gt 42, 3) := by decide +kernel
theorem dX9_meets_41 : decode cX9_meets 41 = .ok (.aload_n 0, 1) := by decide +kernel
theorem dX9_meets_42 : decode cX9_meets 42 = .ok (.iload_n 1, 1) := by decide +kernel
theorem dX9_meets_43 : decode cX9_meets 43 = .ok (.iload_n 2, 1) := by decide +kernel
theorem dX9_meets_44 : decode cX9_meets 44 = .ok (.invokevirtual 259, 3) := by decide +kernel
theorem dX9_meets_47 : decode cX9_meets 47 = .ok (.istore 5, 2) := by decide +kernel
theorem dX9_meets_49 : decode cX9_meets 49 = .ok (.iload 5, 2) := by decide +kernel
theorem dX9_meets_51 : decode cX9_meets 51 = .ok (.ifCond .eq 9, 3) := by decide +kernel
theorem dX9_meets_54 : decode cX9_meets 54 = .ok (.iload 5, 2) := by decide +kernel
theorem dX9_meets_56 : decode cX9_meets 56 = .ok (.iload_n 3, 1) := by decide +kernel
theorem dX9_meets_57 : decode cX9_meets 57 = .ok (.if_icmp .eq 6, 3) := by decide +kernel
theorem dX9_meets_60 : decode cX9_meets 60 = .ok (.iload 4, 2) := by decide +kernel
theorem dX9_meets_62 : decode cX9_meets 62 = .ok (.ireturn, 1) := by decide +kernel
theorem dX9_meets_63 : decode cX9_meets 63 = .ok (.aload_n 0, 1) := by decide +kernel
theorem dX9_meets_64 : decode cX9_meets 64 = .ok (.getfield 33, 3) := by decide +kernel
theorem dX9_meets_67 : decode cX9_meets 67 = .ok (.aload_n 0, 1) := by decide +kernel
theorem dX9_meets_68 : decode cX9_meets 68 = .ok (.getfield 10, 3) := by decide +kernel
theorem dX9_meets_71 : decode cX9_meets 71 = .ok (.invokevirtual 203, 3) := by decide +kernel
theorem dX9_meets_74 : decode cX9_meets 74 = .ok (.iinc 4 1, 3) := by decide +kernel
theorem dX9_meets_77 : decode cX9_meets 77 = .ok (.goto (-44), 3) := by decide +kernel
theorem dX9_meets_80 : decode cX9_meets 80 = .ok (.iconst (-1), 1) := by decide +kernel
theorem dX9_meets_81 : decode cX9_meets 81 = .ok (.ireturn, 1) := by decide +kernel
theorem dX9_ropes_0 : decode cX9_ropes 0 = .ok (.aload_n 0, 1) := by decide +kernel
theorem dX9_ropes_1 : decode cX9_ropes 1 = .ok (.iload_n 1, 1) := by decide +kernel
theorem dX9_ropes_2 : decode cX9_ropes 2 = .ok (.iload_n 2, 1) := by decide +kernel
theorem dX9_ropes_3 : decode cX9_ropes 3 = .ok (.invokevirtual 232, 3) := by decide +kernel
theorem dX9_ropes_6 : decode cX9_ropes 6 = .ok (.ifCond .ne 6, 3) := by decide +kernel
theorem dX9_ropes_9 : decode cX9_ropes 9 = .ok (.ldc 147, 2) := by decide +kernel
theorem dX9_ropes_11 : decode cX9_ropes 11 = .ok (.ireturn, 1) := by decide +kernel
theorem dX9_ropes_12 : decode cX9_ropes 12 = .ok (.iload_n 3, 1) := by decide +kernel
theorem dX9_ropes_13 : decode cX9_ropes 13 = .ok (.invokestatic 235, 3) := by decide +kernel
theorem dX9_ropes_16 : decode cX9_ropes 16 = .ok (.ifCond .eq 15, 3) := by decide +kernel
theorem dX9_ropes_19 : decode cX9_ropes 19 = .ok (.iload 4, 2) := by decide +kernel
theorem dX9_ropes_21 : decode cX9_ropes 21 = .ok (.iconst 0, 1) := by decide +kernel
theorem dX9_ropes_22 : decode cX9_ropes 22 = .ok (.sipush 300, 3) := by decide +kernel
theorem dX9_ropes_25 : decode cX9_ropes 25 = .ok (.invokestatic 83, 3) := by decide +kernel
theorem dX9_ropes_28 : decode cX9_ropes 28 = .ok (.ifCond .ne 6, 3) := by decide +kernel
theorem dX9_ropes_31 : decode cX9_ropes 31 = .ok (.ldc 87, 2) := by decide +kernel
theorem dX9_ropes_33 : decode cX9_ropes 33 = .ok (.ireturn, 1) := by decide +kernel
theorem dX9_ropes_34 : decode cX9_ropes 34 = .ok (.aload_n 0, 1) := by decide +kernel
theorem dX9_ropes_35 : decode cX9_ropes 35 = .ok (.getfield 10, 3) := by decide +kernel
theorem dX9_ropes_38 : decode cX9_ropes 38 = .ok (.iload_n 1, 1) := by decide +kernel
theorem dX9_ropes_39 : decode cX9_ropes 39 = .ok (.iload_n 2, 1) := by decide +kernel
theorem dX9_ropes_40 : decode cX9_ropes 40 = .ok (.invokevirtual 262, 3) := by decide +kernel
theorem dX9_ropes_43 : decode cX9_ropes 43 = .ok (.aload_n 0, 1) := by decide +kernel
theorem dX9_ropes_44 : decode cX9_ropes 44 = .ok (.getfield 29, 3) := by decide +kernel
theorem dX9_ropes_47 : decode cX9_ropes 47 = .ok (.invokevirtual 137, 3) := by decide +kernel
theorem dX9_ropes_50 : decode cX9_ropes 50 = .ok (.iconst (-1), 1) := by decide +kernel
theorem dX9_ropes_51 : decode cX9_ropes 51 = .ok (.ixor, 1) := by decide +kernel
theorem dX9_ropes_52 : decode cX9_ropes 52 = .ok (.iand, 1) := by decide +kernel
theorem dX9_ropes_53 : decode cX9_ropes 53 = .ok (.istore 5, 2) := by decide +kernel
theorem dX9_ropes_55 : decode cX9_ropes 55 = .ok (.iconst (-1), 1) := by decide +kernel
theorem dX9_ropes_56 : decode cX9_ropes 56 = .ok (.istore 6, 2) := by decide +kernel
theorem dX9_ropes_58 : decode cX9_ropes 58 = .ok (.iconst 0, 1) := by decide +kernel
theorem dX9_ropes_59 : decode cX9_ropes 59 = .ok (.istore 7, 2) := by decide +kernel
theorem dX9_ropes_61 : decode cX9_ropes 61 = .ok (.iload 7, 2) := by decide +kernel
theorem dX9_ropes_63 : decode cX9_ropes 63 = .ok (.sipush 256, 3) := by decide +kernel
theorem dX9_ropes_66 : decode cX9_ropes 66 = .ok (.if_icmp .ge 87, 3) := by decide +kernel
theorem dX9_ropes_69 : decode cX9_ropes 69 = .ok (.iload 6, 2) := by decide +kernel
theorem dX9_ropes_71 : decode cX9_ropes 71 = .ok (.iconst (-1), 1) := by decide +kernel
theorem dX9_ropes_72 : decode cX9_ropes 72 = .ok (.if_icmp .eq 16, 3) := by decide +kernel
theorem dX9_ropes_75 : decode cX9_ropes 75 = .ok (.iload 7, 2) := by decide +kernel
theorem dX9_ropes_77 : decode cX9_ropes 77 = .ok (.invokestatic 265, 3) := by decide +kernel
theorem dX9_ropes_80 : decode cX9_ropes 80 = .ok (.iload 6, 2) := by decide +kernel
theorem dX9_ropes_82 : decode cX9_ropes 82 = .ok (.invokestatic 265, 3) := by decide +kernel
theorem dX9_ropes_85 : decode cX9_ropes 85 = .ok (.if_icmp .ge 7, 3) := by decide +kernel
theorem dX9_ropes_88 : decode cX9_ropes 88 = .ok (.iconst 1, 1) := by decide +kernel
theorem dX9_ropes_89 : decode cX9_ropes 89 = .ok (.goto 4, 3) := by decide +kernel
theorem dX9_ropes_92 : decode cX9_ropes 92 = .ok (.iconst 0, 1) := by decide +kernel
theorem dX9_ropes_93 : decode cX9_ropes 93 = .ok (.istore 8, 2) := by decide +kernel
theorem dX9_ropes_95 : decode cX9_ropes 95 = .ok (.iload 8, 2) := by decide +kernel
theorem dX9_ropes_97 : decode cX9_ropes 97 = .ok (.ifCond .eq 50, 3) := by decide +kernel
theorem dX9_ropes_100 : decode cX9_ropes 100 = .ok (.iload 7, 2) := by decide +kernel
theorem dX9_ropes_102 : decode cX9_ropes 102 = .ok (.iload 5, 2) := by decide +kernel
theorem dX9_ropes_104 : decode cX9_ropes 104 = .ok (.iconst (-1), 1) := by decide +kernel
theorem dX9_ropes_105 : decode cX9_ropes 105 = .ok (.ixor, 1) := by decide +kernel
theorem dX9_ropes_106 : decode cX9_ropes 106 = .ok (.iand, 1) := by decide +kernel
theorem dX9_ropes_107 : decode cX9_ropes 107 = .ok (.ifCond .ne 40, 3) := by decide +kernel
theorem dX9_ropes_110 : decode cX9_ropes 110 = .ok (.aload_n 0, 1) := by decide +kernel
theorem dX9_ropes_111 : decode cX9_ropes 111 = .ok (.getfield 10, 3) := by decide +kernel
theorem dX9_ropes_114 : decode cX9_ropes 114 = .ok (.iload_n 1, 1) := by decide +kernel
theorem dX9_ropes_115 : decode cX9_ropes 115 = .ok (.iload_n 2, 1) := by decide +kernel
theorem dX9_ropes_116 : decode cX9_ropes 116 = .ok (.iload_n 3, 1) := by decide +kernel
theorem dX9_ropes_117 : decode cX9_ropes 117 = .ok (.aload_n 0, 1) := by decide +kernel
theorem dX9_ropes_118 : decode cX9_ropes 118 = .ok (.getfield 29, 3) := by decide +kernel
theorem dX9_ropes_121 : decode cX9_ropes 121 = .ok (.invokevirtual 134, 3) := by decide +kernel
theorem dX9_ropes_124 : decode cX9_ropes 124 = .ok (.aload_n 0, 1) := by decide +kernel
theorem dX9_ropes_125 : decode cX9_ropes 125 = .ok (.getfield 29, 3) := by decide +kernel
theorem dX9_ropes_128 : decode cX9_ropes 128 = .ok (.invokevirtual 137, 3) := by decide +kernel
theorem dX9_ropes_131 : decode cX9_ropes 131 = .ok (.iload 7, 2) := by decide +kernel
theorem dX9_ropes_133 : decode cX9_ropes 133 = .ok (.ior, 1) := by decide +kernel
theorem dX9_ropes_134 : decode cX9_ropes 134 = .ok (.iload 4, 2) := by decide +kernel
theorem dX9_ropes_136 : decode cX9_ropes 136 = .ok (.invokevirtual 238, 3) := by decide +kernel
theorem dX9_ropes_139 : decode cX9_ropes 139 = .ok (.iconst (-1), 1) := by decide +kernel
theorem dX9_ropes_140 : decode cX9_ropes 140 = .ok (.if_icmp .eq 7, 3) := by decide +kernel
theorem dX9_ropes_143 : decode cX9_ropes 143 = .ok (.iload 7, 2) := by decide +kernel
theorem dX9_ropes_145 : decode cX9_ropes 145 = .ok (.istore 6, 2) := by decide +kernel
theorem dX9_ropes_147 : decode cX9_ropes 147 = .ok (.iinc 7 1, 3) := by decide +kernel
theorem dX9_ropes_150 : decode cX9_ropes 150 = .ok (.goto (-89), 3) := by decide +kernel
theorem dX9_ropes_153 : decode cX9_ropes 153 = .ok (.iload 6, 2) := by decide +kernel
theorem dX9_ropes_155 : decode cX9_ropes 155 = .ok (.ireturn, 1) := by decide +kernel
theorem dX9_doctor_0 : decode cX9_doctor 0 = .ok (.iload_n 1, 1) := by decide +kernel
theorem dX9_doctor_1 : decode cX9_doctor 1 = .ok (.invokestatic 235, 3) := by decide +kernel
theorem dX9_doctor_4 : decode cX9_doctor 4 = .ok (.ifCond .eq 12, 3) := by decide +kernel
theorem dX9_doctor_7 : decode cX9_doctor 7 = .ok (.iload_n 2, 1) := by decide +kernel
theorem dX9_doctor_8 : decode cX9_doctor 8 = .ok (.iconst 0, 1) := by decide +kernel
theorem dX9_doctor_9 : decode cX9_doctor 9 = .ok (.iconst 1, 1) := by decide +kernel
theorem dX9_doctor_10 : decode cX9_doctor 10 = .ok (.invokestatic 83, 3) := by decide +kernel
theorem dX9_doctor_13 : decode cX9_doctor 13 = .ok (.ifCond .ne 6, 3) := by decide +kernel
theorem dX9_doctor_16 : decode cX9_doctor 16 = .ok (.ldc 87, 2) := by decide +kernel
theorem dX9_doctor_18 : decode cX9_doctor 18 = .ok (.ireturn, 1) := by decide +kernel
theorem dX9_doctor_19 : decode cX9_doctor 19 = .ok (.iconst (-1), 1) := by decide +kernel
theorem dX9_doctor_20 : decode cX9_doctor 20 = .ok (.istore_n 3, 1) := by decide +kernel
theorem dX9_doctor_21 : decode cX9_doctor 21 = .ok (.iconst (-1), 1) := by decide +kernel
theorem dX9_doctor_22 : decode cX9_doctor 22 = .ok (.istore 4, 2) := by decide +kernel
theorem dX9_doctor_24 : decode cX9_doctor 24 = .ok (.iconst 0, 1) := by decide +kernel
theorem dX9_doctor_25 : decode cX9_doctor 25 = .ok (.istore 5, 2) := by decide +kernel
theorem dX9_doctor_27 : decode cX9_doctor 27 = .ok (.iload 5, 2) := by decide +kernel
theorem dX9_doctor_29 : decode cX9_doctor 29 = .ok (.aload_n 0, 1) := by decide +kernel
theorem dX9_doctor_30 : decode cX9_doctor 30 = .ok (.getfield 10, 3) := by decide +kernel
theorem dX9_doctor_33 : decode cX9_doctor 33 = .ok (.invokevirtual 131, 3) := by decide +kernel
theorem dX9_doctor_36 : decode cX9_doctor 36 = .ok (.if_icmp .ge 44, 3) := by decide +kernel
theorem dX9_doctor_39 : decode cX9_doctor 39 = .ok (.aload_n 0, 1) := by decide +kernel
theorem dX9_doctor_40 : decode cX9_doctor 40 = .ok (.iload 5, 2) := by decide +kernel
theorem dX9_doctor_42 : decode cX9_doctor 42 = .ok (.iload_n 1, 1) := by decide +kernel
theorem dX9_doctor_43 : decode cX9_doctor 43 = .ok (.invokevirtual 270, 3) := by decide +kernel
theorem dX9_doctor_46 : decode cX9_doctor 46 = .ok (.istore 6, 2) := by decide +kernel
theorem dX9_doctor_48 : decode cX9_doctor 48 = .ok (.iload 6, 2) := by decide +kernel
theorem dX9_doctor_50 : decode cX9_doctor 50 = .ok (.iconst (-1), 1) := by decide +kernel
theorem dX9_doctor_51 : decode cX9_doctor 51 = .ok (.if_icmp .eq 23, 3) := by decide +kernel
theorem dX9_doctor_54 : decode cX9_doctor 54 = .ok (.iload 4, 2) := by decide +kernel
theorem dX9_doctor_56 : decode cX9_doctor 56 = .ok (.iconst (-1), 1) := by decide +kernel
theorem dX9_doctor_57 : decode cX9_doctor 57 = .ok (.if_icmp .eq 10, 3) := by decide +kernel
theorem dX9_doctor_60 : decode cX9_doctor 60 = .ok (.iload 6, 2) := by decide +kernel
theorem dX9_doctor_62 : decode cX9_doctor 62 = .ok (.iload 4, 2) := by decide +kernel
theorem dX9_doctor_64 : decode cX9_doctor 64 = .ok (.if_icmp .ge 10, 3) := by decide +kernel
theorem dX9_doctor_67 : decode cX9_doctor 67 = .ok (.iload 5, 2) := by decide +kernel
theorem dX9_doctor_69 : decode cX9_doctor 69 = .ok (.istore_n 3, 1) := by decide +kernel
theorem dX9_doctor_70 : decode cX9_doctor 70 = .ok (.iload 6, 2) := by decide +kernel
theorem dX9_doctor_72 : decode cX9_doctor 72 = .ok (.istore 4, 2) := by decide +kernel
theorem dX9_doctor_74 : decode cX9_doctor 74 = .ok (.iinc 5 1, 3) := by decide +kernel
theorem dX9_doctor_77 : decode cX9_doctor 77 = .ok (.goto (-50), 3) := by decide +kernel
theorem dX9_doctor_80 : decode cX9_doctor 80 = .ok (.iload_n 2, 1) := by decide +kernel
theorem dX9_doctor_81 : decode cX9_doctor 81 = .ok (.ifCond .ne 7, 3) := by decide +kernel
theorem dX9_doctor_84 : decode cX9_doctor 84 = .ok (.iload_n 3, 1) := by decide +kernel
theorem dX9_doctor_85 : decode cX9_doctor 85 = .ok (.goto 5, 3) := by decide +kernel
theorem dX9_doctor_88 : decode cX9_doctor 88 = .ok (.iload 4, 2) := by decide +kernel
theorem dX9_doctor_90 : decode cX9_doctor 90 = .ok (.ireturn, 1) := by decide +kernel
theorem dX9_beat_0 : decode cX9_beat 0 = .ok (.iload_n 1, 1) := by decide +kernel
theorem dX9_beat_1 : decode cX9_beat 1 = .ok (.invokestatic 235, 3) := by decide +kernel
theorem dX9_beat_4 : decode cX9_beat 4 = .ok (.ifCond .ne 6, 3) := by decide +kernel
theorem dX9_beat_7 : decode cX9_beat 7 = .ok (.ldc 87, 2) := by decide +kernel
theorem dX9_beat_9 : decode cX9_beat 9 = .ok (.ireturn, 1) := by decide +kernel
theorem dX9_beat_10 : decode cX9_beat 10 = .ok (.aload_n 0, 1) := by decide +kernel
theorem dX9_beat_11 : decode cX9_beat 11 = .ok (.getfield 10, 3) := by decide +kernel
theorem dX9_beat_14 : decode cX9_beat 14 = .ok (.invokevirtual 131, 3) := by decide +kernel
theorem dX9_beat_17 : decode cX9_beat 17 = .ok (.ifCond .ne 6, 3) := by decide +kernel
theorem dX9_beat_20 : decode cX9_beat 20 = .ok (.ldc 187, 2) := by decide +kernel
theorem dX9_beat_22 : decode cX9_beat 22 = .ok (.ireturn, 1) := by decide +kernel
theorem dX9_beat_23 : decode cX9_beat 23 = .ok (.aload_n 0, 1) := by decide +kernel
theorem dX9_beat_24 : decode cX9_beat 24 = .ok (.getfield 10, 3) := by decide +kernel
theorem dX9_beat_27 : decode cX9_beat 27 = .ok (.invokevirtual 131, 3) := by decide +kernel
theorem dX9_beat_30 : decode cX9_beat 30 = .ok (.iconst 1, 1) := by decide +kernel
theorem dX9_beat_31 : decode cX9_beat 31 = .ok (.isub, 1) := by decide +kernel
theorem dX9_beat_32 : decode cX9_beat 32 = .ok (.istore_n 2, 1) := by decide +kernel
theorem dX9_beat_33 : decode cX9_beat 33 = .ok (.aload_n 0, 1) := by decide +kernel
theorem dX9_beat_34 : decode cX9_beat 34 = .ok (.getfield 10, 3) := by decide +kernel
theorem dX9_beat_37 : decode cX9_beat 37 = .ok (.iconst 0, 1) := by decide +kernel
theorem dX9_beat_38 : decode cX9_beat 38 = .ok (.iload_n 2, 1) := by decide +kernel
theorem dX9_beat_39 : decode cX9_beat 39 = .ok (.iload_n 1, 1) := by decide +kernel
theorem dX9_beat_40 : decode cX9_beat 40 = .ok (.aload_n 0, 1) := by decide +kernel
theorem dX9_beat_41 : decode cX9_beat 41 = .ok (.getfield 29, 3) := by decide +kernel
theorem dX9_beat_44 : decode cX9_beat 44 = .ok (.invokevirtual 134, 3) := by decide +kernel
theorem dX9_beat_47 : decode cX9_beat 47 = .ok (.aload_n 0, 1) := by decide +kernel
theorem dX9_beat_48 : decode cX9_beat 48 = .ok (.getfield 29, 3) := by decide +kernel
theorem dX9_beat_51 : decode cX9_beat 51 = .ok (.invokevirtual 137, 3) := by decide +kernel
theorem dX9_beat_54 : decode cX9_beat 54 = .ok (.sipush 600, 3) := by decide +kernel
theorem dX9_beat_57 : decode cX9_beat 57 = .ok (.invokevirtual 238, 3) := by decide +kernel
theorem dX9_beat_60 : decode cX9_beat 60 = .ok (.istore_n 3, 1) := by decide +kernel
theorem dX9_beat_61 : decode cX9_beat 61 = .ok (.iload_n 3, 1) := by decide +kernel
theorem dX9_beat_62 : decode cX9_beat 62 = .ok (.iconst (-1), 1) := by decide +kernel
theorem dX9_beat_63 : decode cX9_beat 63 = .ok (.if_icmp .ne 5, 3) := by decide +kernel
theorem dX9_beat_66 : decode cX9_beat 66 = .ok (.iconst (-1), 1) := by decide +kernel
theorem dX9_beat_67 : decode cX9_beat 67 = .ok (.ireturn, 1) := by decide +kernel
theorem dX9_beat_68 : decode cX9_beat 68 = .ok (.aload_n 0, 1) := by decide +kernel
theorem dX9_beat_69 : decode cX9_beat 69 = .ok (.getfield 10, 3) := by decide +kernel
theorem dX9_beat_72 : decode cX9_beat 72 = .ok (.iload_n 2, 1) := by decide +kernel
theorem dX9_beat_73 : decode cX9_beat 73 = .ok (.iconst 0, 1) := by decide +kernel
theorem dX9_beat_74 : decode cX9_beat 74 = .ok (.iload_n 1, 1) := by decide +kernel
theorem dX9_beat_75 : decode cX9_beat 75 = .ok (.aload_n 0, 1) := by decide +kernel
theorem dX9_beat_76 : decode cX9_beat 76 = .ok (.getfield 29, 3) := by decide +kernel
theorem dX9_beat_79 : decode cX9_beat 79 = .ok (.invokevirtual 134, 3) := by decide +kernel
theorem dX9_beat_82 : decode cX9_beat 82 = .ok (.iload_n 3, 1) := by decide +kernel
theorem dX9_beat_83 : decode cX9_beat 83 = .ok (.iadd, 1) := by decide +kernel
theorem dX9_beat_84 : decode cX9_beat 84 = .ok (.aload_n 0, 1) := by decide +kernel
theorem dX9_beat_85 : decode cX9_beat 85 = .ok (.getfield 29, 3) := by decide +kernel
theorem dX9_beat_88 : decode cX9_beat 88 = .ok (.invokevirtual 137, 3) := by decide +kernel
theorem dX9_beat_91 : decode cX9_beat 91 = .ok (.sipush 600, 3) := by decide +kernel
theorem dX9_beat_94 : decode cX9_beat 94 = .ok (.iload_n 3, 1) := by decide +kernel
theorem dX9_beat_95 : decode cX9_beat 95 = .ok (.isub, 1) := by decide +kernel
theorem dX9_beat_96 : decode cX9_beat 96 = .ok (.invokevirtual 238, 3) := by decide +kernel
theorem dX9_beat_99 : decode cX9_beat 99 = .ok (.istore 4, 2) := by decide +kernel
theorem dX9_beat_101 : decode cX9_beat 101 = .ok (.iload 4, 2) := by decide +kernel
theorem dX9_beat_103 : decode cX9_beat 103 = .ok (.iconst (-1), 1) := by decide +kernel
theorem dX9_beat_104 : decode cX9_beat 104 = .ok (.if_icmp .ne 7, 3) := by decide +kernel
theorem dX9_beat_107 : decode cX9_beat 107 = .ok (.iconst (-1), 1) := by decide +kernel
theorem dX9_beat_108 : decode cX9_beat 108 = .ok (.goto 7, 3) := by decide +kernel
theorem dX9_beat_111 : decode cX9_beat 111 = .ok (.iload_n 3, 1) := by decide +kernel
theorem dX9_beat_112 : decode cX9_beat 112 = .ok (.iload 4, 2) := by decide +kernel
theorem dX9_beat_114 : decode cX9_beat 114 = .ok (.iadd, 1) := by decide +kernel
theorem dX9_beat_115 : decode cX9_beat 115 = .ok (.ireturn, 1) := by decide +kernel
theorem dX9_rent_0 : decode cX9_rent 0 = .ok (.iload_n 1, 1) := by decide +kernel
theorem dX9_rent_1 : decode cX9_rent 1 = .ok (.iconst 0, 1) := by decide +kernel
theorem dX9_rent_2 : decode cX9_rent 2 = .ok (.bipush 120, 2) := by decide +kernel
theorem dX9_rent_4 : decode cX9_rent 4 = .ok (.invokestatic 83, 3) := by decide +kernel
theorem dX9_rent_7 : decode cX9_rent 7 = .ok (.ifCond .ne 6, 3) := by decide +kernel
theorem dX9_rent_10 : decode cX9_rent 10 = .ok (.ldc 87, 2) := by decide +kernel
theorem dX9_rent_12 : decode cX9_rent 12 = .ok (.ireturn, 1) := by decide +kernel
theorem dX9_rent_13 : decode cX9_rent 13 = .ok (.aload_n 0, 1) := by decide +kernel
theorem dX9_rent_14 : decode cX9_rent 14 = .ok (.getfield 10, 3) := by decide +kernel
theorem dX9_rent_17 : decode cX9_rent 17 = .ok (.invokevirtual 222, 3) := by decide +kernel
theorem dX9_rent_20 : decode cX9_rent 20 = .ok (.ifCond .ne 6, 3) := by decide +kernel
theorem dX9_rent_23 : decode cX9_rent 23 = .ok (.ldc 187, 2) := by decide +kernel
theorem dX9_rent_25 : decode cX9_rent 25 = .ok (.ireturn, 1) := by decide +kernel
theorem dX9_rent_26 : decode cX9_rent 26 = .ok (.iconst 0, 1) := by decide +kernel
theorem dX9_rent_27 : decode cX9_rent 27 = .ok (.istore_n 2, 1) := by decide +kernel
theorem dX9_rent_28 : decode cX9_rent 28 = .ok (.iconst 0, 1) := by decide +kernel
theorem dX9_rent_29 : decode cX9_rent 29 = .ok (.istore_n 3, 1) := by decide +kernel
theorem dX9_rent_30 : decode cX9_rent 30 = .ok (.iload_n 3, 1) := by decide +kernel
theorem dX9_rent_31 : decode cX9_rent 31 = .ok (.iload_n 1, 1) := by decide +kernel
theorem dX9_rent_32 : decode cX9_rent 32 = .ok (.if_icmp .ge 51, 3) := by decide +kernel
theorem dX9_rent_35 : decode cX9_rent 35 = .ok (.iconst 0, 1) := by decide +kernel
theorem dX9_rent_36 : decode cX9_rent 36 = .ok (.istore 4, 2) := by decide +kernel
theorem dX9_rent_38 : decode cX9_rent 38 = .ok (.iload 4, 2) := by decide +kernel
theorem dX9_rent_40 : decode cX9_rent 40 = .ok (.aload_n 0, 1) := by decide +kernel
theorem dX9_rent_41 : decode cX9_rent 41 = .ok (.getfield 10, 3) := by decide +kernel
theorem dX9_rent_44 : decode cX9_rent 44 = .ok (.invokevirtual 226, 3) := by decide +kernel
theorem dX9_rent_47 : decode cX9_rent 47 = .ok (.if_icmp .ge 30, 3) := by decide +kernel
theorem dX9_rent_50 : decode cX9_rent 50 = .ok (.iload_n 2, 1) := by decide +kernel
theorem dX9_rent_51 : decode cX9_rent 51 = .ok (.aload_n 0, 1) := by decide +kernel
theorem dX9_rent_52 : decode cX9_rent 52 = .ok (.getfield 10, 3) := by decide +kernel
theorem dX9_rent_55 : decode cX9_rent 55 = .ok (.iload 4, 2) := by decide +kernel
theorem dX9_rent_57 : decode cX9_rent 57 = .ok (.aload_n 0, 1) := by decide +kernel
theorem dX9_rent_58 : decode cX9_rent 58 = .ok (.getfield 29, 3) := by decide +kernel
theorem dX9_rent_61 : decode cX9_rent 61 = .ok (.invokevirtual 134, 3) := by decide +kernel
theorem dX9_rent_64 : decode cX9_rent 64 = .ok (.iload_n 3, 1) := by decide +kernel
theorem dX9_rent_65 : decode cX9_rent 65 = .ok (.iadd, 1) := by decide +kernel
theorem dX9_rent_66 : decode cX9_rent 66 = .ok (.invokevirtual 156, 3) := by decide +kernel
theorem dX9_rent_69 : decode cX9_rent 69 = .ok (.iadd, 1) := by decide +kernel
theorem dX9_rent_70 : decode cX9_rent 70 = .ok (.istore_n 2, 1) := by decide +kernel
theorem dX9_rent_71 : decode cX9_rent 71 = .ok (.iinc 4 1, 3) := by decide +kernel
theorem dX9_rent_74 : decode cX9_rent 74 = .ok (.goto (-36), 3) := by decide +kernel
theorem dX9_rent_77 : decode cX9_rent 77 = .ok (.iinc 3 1, 3) := by decide +kernel
theorem dX9_rent_80 : decode cX9_rent 80 = .ok (.goto (-50), 3) := by decide +kernel
theorem dX9_rent_83 : decode cX9_rent 83 = .ok (.iload_n 2, 1) := by decide +kernel
theorem dX9_rent_84 : decode cX9_rent 84 = .ok (.ireturn, 1) := by decide +kernel
theorem dX9_lamp_0 : decode cX9_lamp 0 = .ok (.iload_n 1, 1) := by decide +kernel
theorem dX9_lamp_1 : decode cX9_lamp 1 = .ok (.iconst 0, 1) := by decide +kernel
theorem dX9_lamp_2 : decode cX9_lamp 2 = .ok (.bipush 60, 2) := by decide +kernel
theorem dX9_lamp_4 : decode cX9_lamp 4 = .ok (.invokestatic 83, 3) := by decide +kernel
theorem dX9_lamp_7 : decode cX9_lamp 7 = .ok (.ifCond .eq 14, 3) := by decide +kernel
theorem dX9_lamp_10 : decode cX9_lamp 10 = .ok (.iload_n 2, 1) := by decide +kernel
theorem dX9_lamp_11 : decode cX9_lamp 11 = .ok (.iconst 0, 1) := by decide +kernel
theorem dX9_lamp_12 : decode cX9_lamp 12 = .ok (.sipush 1000, 3) := by decide +kernel
theorem dX9_lamp_15 : decode cX9_lamp 15 = .ok (.invokestatic 83, 3) := by decide +kernel
theorem dX9_lamp_18 : decode cX9_lamp 18 = .ok (.ifCond .ne 6, 3) := by decide +kernel
theorem dX9_lamp_21 : decode cX9_lamp 21 = .ok (.ldc 87, 2) := by decide +kernel
theorem dX9_lamp_23 : decode cX9_lamp 23 = .ok (.ireturn, 1) := by decide +kernel
theorem dX9_lamp_24 : decode cX9_lamp 24 = .ok (.ldc2_w 273, 3) := by decide +kernel
theorem dX9_lamp_27 : decode cX9_lamp 27 = .ok (.lstore_n 3, 1) := by decide +kernel
theorem dX9_lamp_28 : decode cX9_lamp 28 = .ok (.iconst 0, 1) := by decide +kernel
theorem dX9_lamp_29 : decode cX9_lamp 29 = .ok (.istore 5, 2) := by decide +kernel
theorem dX9_lamp_31 : decode cX9_lamp 31 = .ok (.iload 5, 2) := by decide +kernel
theorem dX9_lamp_33 : decode cX9_lamp 33 = .ok (.iload_n 1, 1) := by decide +kernel
theorem dX9_lamp_34 : decode cX9_lamp 34 = .ok (.aload_n 0, 1) := by decide +kernel
theorem dX9_lamp_35 : decode cX9_lamp 35 = .ok (.getfield 10, 3) := by decide +kernel
theorem dX9_lamp_38 : decode cX9_lamp 38 = .ok (.invokevirtual 226, 3) := by decide +kernel
theorem dX9_lamp_41 : decode cX9_lamp 41 = .ok (.imul, 1) := by decide +kernel
theorem dX9_lamp_42 : decode cX9_lamp 42 = .ok (.if_icmp .ge 22, 3) := by decide +kernel
theorem dX9_lamp_45 : decode cX9_lamp 45 = .ok (.lload_n 3, 1) := by decide +kernel
theorem dX9_lamp_46 : decode cX9_lamp 46 = .ok (.sipush 1000, 3) := by decide +kernel
theorem dX9_lamp_49 : decode cX9_lamp 49 = .ok (.iload_n 2, 1) := by decide +kernel
theorem dX9_lamp_50 : decode cX9_lamp 50 = .ok (.isub, 1) := by decide +kernel
theorem dX9_lamp_51 : decode cX9_lamp 51 = .ok (.i2l, 1) := by decide +kernel
theorem dX9_lamp_52 : decode cX9_lamp 52 = .ok (.lmul, 1) := by decide +kernel
theorem dX9_lamp_53 : decode cX9_lamp 53 = .ok (.ldc2_w 275, 3) := by decide +kernel
theorem dX9_lamp_56 : decode cX9_lamp 56 = .ok (.ldiv, 1) := by decide +kernel
theorem dX9_lamp_57 : decode cX9_lamp 57 = .ok (.lstore_n 3, 1) := by decide +kernel
theorem dX9_lamp_58 : decode cX9_lamp 58 = .ok (.iinc 5 1, 3) := by decide +kernel
theorem dX9_lamp_61 : decode cX9_lamp 61 = .ok (.goto (-30), 3) := by decide +kernel
theorem dX9_lamp_64 : decode cX9_lamp 64 = .ok (.lload_n 3, 1) := by decide +kernel
theorem dX9_lamp_65 : decode cX9_lamp 65 = .ok (.l2i, 1) := by decide +kernel
theorem dX9_lamp_66 : decode cX9_lamp 66 = .ok (.ireturn, 1) := by decide +kernel
theorem dX9_met_0 : decode cX9_met 0 = .ok (.aload_n 0, 1) := by decide +kernel
theorem dX9_met_1 : decode cX9_met 1 = .ok (.getfield 10, 3) := by decide +kernel
theorem dX9_met_4 : decode cX9_met 4 = .ok (.iload_n 1, 1) := by decide +kernel
theorem dX9_met_5 : decode cX9_met 5 = .ok (.invokevirtual 144, 3) := by decide +kernel
theorem dX9_met_8 : decode cX9_met 8 = .ok (.ifCond .ne 6, 3) := by decide +kernel
theorem dX9_met_11 : decode cX9_met 11 = .ok (.ldc 147, 2) := by decide +kernel
theorem dX9_met_13 : decode cX9_met 13 = .ok (.ireturn, 1) := by decide +kernel
theorem dX9_met_14 : decode cX9_met 14 = .ok (.iload_n 2, 1) := by decide +kernel
theorem dX9_met_15 : decode cX9_met 15 = .ok (.iconst 0, 1) := by decide +kernel
theorem dX9_met_16 : decode cX9_met 16 = .ok (.sipush 999, 3) := by decide +kernel
theorem dX9_met_19 : decode cX9_met 19 = .ok (.invokestatic 83, 3) := by decide +kernel
theorem dX9_met_22 : decode cX9_met 22 = .ok (.ifCond .ne 6, 3) := by decide +kernel
theorem dX9_met_25 : decode cX9_met 25 = .ok (.ldc 87, 2) := by decide +kernel
theorem dX9_met_27 : decode cX9_met 27 = .ok (.ireturn, 1) := by decide +kernel
theorem dX9_met_28 : decode cX9_met 28 = .ok (.aload_n 0, 1) := by decide +kernel
theorem dX9_met_29 : decode cX9_met 29 = .ok (.getfield 55, 3) := by decide +kernel
theorem dX9_met_32 : decode cX9_met 32 = .ok (.iload_n 1, 1) := by decide +kernel
theorem dX9_met_33 : decode cX9_met 33 = .ok (.iload_n 2, 1) := by decide +kernel
theorem dX9_met_34 : decode cX9_met 34 = .ok (.invokevirtual 277, 3) := by decide +kernel
theorem dX9_met_37 : decode cX9_met 37 = .ok (.ifCond .eq 13, 3) := by decide +kernel
theorem dX9_met_40 : decode cX9_met 40 = .ok (.aload_n 0, 1) := by decide +kernel
theorem dX9_met_41 : decode cX9_met 41 = .ok (.getfield 55, 3) := by decide +kernel
theorem dX9_met_44 : decode cX9_met 44 = .ok (.invokevirtual 140, 3) := by decide +kernel
theorem dX9_met_47 : decode cX9_met 47 = .ok (.goto 5, 3) := by decide +kernel
theorem dX9_met_50 : decode cX9_met 50 = .ok (.ldc 96, 2) := by decide +kernel
theorem dX9_met_52 : decode cX9_met 52 = .ok (.ireturn, 1) := by decide +kernel
theorem dX9_fits_0 : decode cX9_fits 0 = .ok (.iload_n 1, 1) := by decide +kernel
theorem dX9_fits_1 : decode cX9_fits 1 = .ok (.iconst 0, 1) := by decide +kernel
theorem dX9_fits_2 : decode cX9_fits 2 = .ok (.iconst 2, 1) := by decide +kernel
theorem dX9_fits_3 : decode cX9_fits 3 = .ok (.invokestatic 83, 3) := by decide +kernel
theorem dX9_fits_6 : decode cX9_fits 6 = .ok (.ifCond .ne 6, 3) := by decide +kernel
theorem dX9_fits_9 : decode cX9_fits 9 = .ok (.ldc 87, 2) := by decide +kernel
theorem dX9_fits_11 : decode cX9_fits 11 = .ok (.ireturn, 1) := by decide +kernel
theorem dX9_fits_12 : decode cX9_fits 12 = .ok (.aload_n 0, 1) := by decide +kernel
theorem dX9_fits_13 : decode cX9_fits 13 = .ok (.getfield 65, 3) := by decide +kernel
theorem dX9_fits_16 : decode cX9_fits 16 = .ok (.aload_n 0, 1) := by decide +kernel
theorem dX9_fits_17 : decode cX9_fits 17 = .ok (.getfield 10, 3) := by decide +kernel
theorem dX9_fits_20 : decode cX9_fits 20 = .ok (.aload_n 0, 1) := by decide +kernel
theorem dX9_fits_21 : decode cX9_fits 21 = .ok (.getfield 55, 3) := by decide +kernel
theorem dX9_fits_24 : decode cX9_fits 24 = .ok (.aload_n 0, 1) := by decide +kernel
theorem dX9_fits_25 : decode cX9_fits 25 = .ok (.getfield 79, 3) := by decide +kernel
theorem dX9_fits_28 : decode cX9_fits 28 = .ok (.invokevirtual 279, 3) := by decide +kernel
theorem dX9_fits_31 : decode cX9_fits 31 = .ok (.iload_n 1, 1) := by decide +kernel
theorem dX9_fits_32 : decode cX9_fits 32 = .ok (.ifCond .ne 13, 3) := by decide +kernel
theorem dX9_fits_35 : decode cX9_fits 35 = .ok (.aload_n 0, 1) := by decide +kernel
theorem dX9_fits_36 : decode cX9_fits 36 = .ok (.getfield 79, 3) := by decide +kernel
theorem dX9_fits_39 : decode cX9_fits 39 = .ok (.invokevirtual 252, 3) := by decide +kernel
theorem dX9_fits_42 : decode cX9_fits 42 = .ok (.goto 25, 3) := by decide +kernel
theorem dX9_fits_45 : decode cX9_fits 45 = .ok (.iload_n 1, 1) := by decide +kernel
theorem dX9_fits_46 : decode cX9_fits 46 = .ok (.iconst 1, 1) := by decide +kernel
theorem dX9_fits_47 : decode cX9_fits 47 = .ok (.if_icmp .ne 13, 3) := by decide +kernel
theorem dX9_fits_50 : decode cX9_fits 50 = .ok (.aload_n 0, 1) := by decide +kernel
theorem dX9_fits_51 : decode cX9_fits 51 = .ok (.getfield 79, 3) := by decide +kernel
theorem dX9_fits_54 : decode cX9_fits 54 = .ok (.invokevirtual 246, 3) := by decide +kernel
theorem dX9_fits_57 : decode cX9_fits 57 = .ok (.goto 10, 3) := by decide +kernel
theorem dX9_fits_60 : decode cX9_fits 60 = .ok (.aload_n 0, 1) := by decide +kernel
theorem dX9_fits_61 : decode cX9_fits 61 = .ok (.getfield 79, 3) := by decide +kernel
theorem dX9_fits_64 : decode cX9_fits 64 = .ok (.invokevirtual 249, 3) := by decide +kernel
theorem dX9_fits_67 : decode cX9_fits 67 = .ok (.ireturn, 1) := by decide +kernel
theorem dX9_growths_0 : decode cX9_growths 0 = .ok (.aload_n 0, 1) := by decide +kernel
theorem dX9_growths_1 : decode cX9_growths 1 = .ok (.getfield 65, 3) := by decide +kernel
theorem dX9_growths_4 : decode cX9_growths 4 = .ok (.aload_n 0, 1) := by decide +kernel
theorem dX9_growths_5 : decode cX9_growths 5 = .ok (.getfield 10, 3) := by decide +kernel
theorem dX9_growths_8 : decode cX9_growths 8 = .ok (.aload_n 0, 1) := by decide +kernel
theorem dX9_growths_9 : decode cX9_growths 9 = .ok (.getfield 55, 3) := by decide +kernel
theorem dX9_growths_12 : decode cX9_growths 12 = .ok (.invokevirtual 283, 3) := by decide +kernel
theorem dX9_growths_15 : decode cX9_growths 15 = .ok (.ireturn, 1) := by decide +kernel
theorem dX9_lookAt_0 : decode cX9_lookAt 0 = .ok (.aload_n 0, 1) := by decide +kernel
theorem dX9_lookAt_1 : decode cX9_lookAt 1 = .ok (.getfield 65, 3) := by decide +kernel
theorem dX9_lookAt_4 : decode cX9_lookAt 4 = .ok (.aload_n 0, 1) := by decide +kernel
theorem dX9_lookAt_5 : decode cX9_lookAt 5 = .ok (.getfield 10, 3) := by decide +kernel
theorem dX9_lookAt_8 : decode cX9_lookAt 8 = .ok (.aload_n 0, 1) := by decide +kernel
theorem dX9_lookAt_9 : decode cX9_lookAt 9 = .ok (.getfield 55, 3) := by decide +kernel
theorem dX9_lookAt_12 : decode cX9_lookAt 12 = .ok (.aload_n 0, 1) := by decide +kernel
theorem dX9_lookAt_13 : decode cX9_lookAt 13 = .ok (.getfield 79, 3) := by decide +kernel
theorem dX9_lookAt_16 : decode cX9_lookAt 16 = .ok (.invokevirtual 279, 3) := by decide +kernel
theorem dX9_lookAt_19 : decode cX9_lookAt 19 = .ok (.aload_n 0, 1) := by decide +kernel
theorem dX9_lookAt_20 : decode cX9_lookAt 20 = .ok (.getfield 65, 3) := by decide +kernel
theorem dX9_lookAt_23 : decode cX9_lookAt 23 = .ok (.aload_n 0, 1) := by decide +kernel
theorem dX9_lookAt_24 : decode cX9_lookAt 24 = .ok (.getfield 10, 3) := by decide +kernel
theorem dX9_lookAt_27 : decode cX9_lookAt 27 = .ok (.aload_n 0, 1) := by decide +kernel
theorem dX9_lookAt_28 : decode cX9_lookAt 28 = .ok (.getfield 55, 3) := by decide +kernel
theorem dX9_lookAt_31 : decode cX9_lookAt 31 = .ok (.aload_n 0, 1) := by decide +kernel
theorem dX9_lookAt_32 : decode cX9_lookAt 32 = .ok (.getfield 79, 3) := by decide +kernel
theorem dX9_lookAt_35 : decode cX9_lookAt 35 = .ok (.invokevirtual 252, 3) := by decide +kernel
theorem dX9_lookAt_38 : decode cX9_lookAt 38 = .ok (.invokevirtual 287, 3) := by decide +kernel
theorem dX9_lookAt_41 : decode cX9_lookAt 41 = .ok (.ireturn, 1) := by decide +kernel
theorem dX9_write_0 : decode cX9_write 0 = .ok (.aload_n 0, 1) := by decide +kernel
theorem dX9_write_1 : decode cX9_write 1 = .ok (.getfield 10, 3) := by decide +kernel
theorem dX9_write_4 : decode cX9_write 4 = .ok (.iload_n 1, 1) := by decide +kernel
theorem dX9_write_5 : decode cX9_write 5 = .ok (.invokevirtual 162, 3) := by decide +kernel
theorem dX9_write_8 : decode cX9_write 8 = .ok (.ifCond .eq 14, 3) := by decide +kernel
theorem dX9_write_11 : decode cX9_write 11 = .ok (.aload_n 0, 1) := by decide +kernel
theorem dX9_write_12 : decode cX9_write 12 = .ok (.getfield 10, 3) := by decide +kernel
theorem dX9_write_15 : decode cX9_write 15 = .ok (.iload_n 2, 1) := by decide +kernel
theorem dX9_write_16 : decode cX9_write 16 = .ok (.invokevirtual 253, 3) := by decide +kernel
theorem dX9_write_19 : decode cX9_write 19 = .ok (.ifCond .ne 6, 3) := by decide +kernel
theorem dX9_write_22 : decode cX9_write 22 = .ok (.ldc 147, 2) := by decide +kernel
theorem dX9_write_24 : decode cX9_write 24 = .ok (.ireturn, 1) := by decide +kernel
theorem dX9_write_25 : decode cX9_write 25 = .ok (.aload_n 0, 1) := by decide +kernel
theorem dX9_write_26 : decode cX9_write 26 = .ok (.getfield 59, 3) := by decide +kernel
theorem dX9_write_29 : decode cX9_write 29 = .ok (.iload_n 1, 1) := by decide +kernel
theorem dX9_write_30 : decode cX9_write 30 = .ok (.iload_n 2, 1) := by decide +kernel
theorem dX9_write_31 : decode cX9_write 31 = .ok (.invokevirtual 277, 3) := by decide +kernel
theorem dX9_write_34 : decode cX9_write 34 = .ok (.ifCond .eq 13, 3) := by decide +kernel
theorem dX9_write_37 : decode cX9_write 37 = .ok (.aload_n 0, 1) := by decide +kernel
theorem dX9_write_38 : decode cX9_write 38 = .ok (.getfield 59, 3) := by decide +kernel
theorem dX9_write_41 : decode cX9_write 41 = .ok (.invokevirtual 140, 3) := by decide +kernel
theorem dX9_write_44 : decode cX9_write 44 = .ok (.goto 5, 3) := by decide +kernel
theorem dX9_write_47 : decode cX9_write 47 = .ok (.ldc 96, 2) := by decide +kernel
theorem dX9_write_49 : decode cX9_write 49 = .ok (.ireturn, 1) := by decide +kernel
theorem dX9_judge_0 : decode cX9_judge 0 = .ok (.iconst 0, 1) := by decide +kernel
theorem dX9_judge_1 : decode cX9_judge 1 = .ok (.istore_n 1, 1) := by decide +kernel
theorem dX9_judge_2 : decode cX9_judge 2 = .ok (.iload_n 1, 1) := by decide +kernel
theorem dX9_judge_3 : decode cX9_judge 3 = .ok (.aload_n 0, 1) := by decide +kernel
theorem dX9_judge_4 : decode cX9_judge 4 = .ok (.getfield 59, 3) := by decide +kernel
theorem dX9_judge_7 : decode cX9_judge 7 = .ok (.invokevirtual 140, 3) := by decide +kernel
theorem dX9_judge_10 : decode cX9_judge 10 = .ok (.if_icmp .ge 37, 3) := by decide +kernel
theorem dX9_judge_13 : decode cX9_judge 13 = .ok (.aload_n 0, 1) := by decide +kernel
theorem dX9_judge_14 : decode cX9_judge 14 = .ok (.getfield 29, 3) := by decide +kernel
theorem dX9_judge_17 : decode cX9_judge 17 = .ok (.aload_n 0, 1) := by decide +kernel
theorem dX9_judge_18 : decode cX9_judge 18 = .ok (.getfield 59, 3) := by decide +kernel
theorem dX9_judge_21 : decode cX9_judge 21 = .ok (.iload_n 1, 1) := by decide +kernel
theorem dX9_judge_22 : decode cX9_judge 22 = .ok (.invokevirtual 291, 3) := by decide +kernel
theorem dX9_judge_25 : decode cX9_judge 25 = .ok (.invokevirtual 165, 3) := by decide +kernel
theorem dX9_judge_28 : decode cX9_judge 28 = .ok (.aload_n 0, 1) := by decide +kernel
theorem dX9_judge_29 : decode cX9_judge 29 = .ok (.getfield 59, 3) := by decide +kernel
theorem dX9_judge_32 : decode cX9_judge 32 = .ok (.iload_n 1, 1) := by decide +kernel
theorem dX9_judge_33 : decode cX9_judge 33 = .ok (.invokevirtual 294, 3) := by decide +kernel
theorem dX9_judge_36 : decode cX9_judge 36 = .ok (.if_icmp .eq 5, 3) := by decide +kernel
theorem dX9_judge_39 : decode cX9_judge 39 = .ok (.iload_n 1, 1) := by decide +kernel
theorem dX9_judge_40 : decode cX9_judge 40 = .ok (.ireturn, 1) := by decide +kernel
theorem dX9_judge_41 : decode cX9_judge 41 = .ok (.iinc 1 1, 3) := by decide +kernel
theorem dX9_judge_44 : decode cX9_judge 44 = .ok (.goto (-42), 3) := by decide +kernel
theorem dX9_judge_47 : decode cX9_judge 47 = .ok (.iconst (-1), 1) := by decide +kernel
theorem dX9_judge_48 : decode cX9_judge 48 = .ok (.ireturn, 1) := by decide +kernel
theorem dX9_tear_0 : decode cX9_tear 0 = .ok (.aload_n 0, 1) := by decide +kernel
theorem dX9_tear_1 : decode cX9_tear 1 = .ok (.getfield 55, 3) := by decide +kernel
theorem dX9_tear_4 : decode cX9_tear 4 = .ok (.invokevirtual 140, 3) := by decide +kernel
theorem dX9_tear_7 : decode cX9_tear 7 = .ok (.aload_n 0, 1) := by decide +kernel
theorem dX9_tear_8 : decode cX9_tear 8 = .ok (.getfield 59, 3) := by decide +kernel
theorem dX9_tear_11 : decode cX9_tear 11 = .ok (.invokevirtual 140, 3) := by decide +kernel
theorem dX9_tear_14 : decode cX9_tear 14 = .ok (.iadd, 1) := by decide +kernel
theorem dX9_tear_15 : decode cX9_tear 15 = .ok (.istore_n 1, 1) := by decide +kernel
theorem dX9_tear_16 : decode cX9_tear 16 = .ok (.aload_n 0, 1) := by decide +kernel
theorem dX9_tear_17 : decode cX9_tear 17 = .ok (.getfield 55, 3) := by decide +kernel
theorem dX9_tear_20 : decode cX9_tear 20 = .ok (.invokevirtual 115, 3) := by decide +kernel
theorem dX9_tear_23 : decode cX9_tear 23 = .ok (.aload_n 0, 1) := by decide +kernel
theorem dX9_tear_24 : decode cX9_tear 24 = .ok (.getfield 59, 3) := by decide +kernel
theorem dX9_tear_27 : decode cX9_tear 27 = .ok (.invokevirtual 115, 3) := by decide +kernel
theorem dX9_tear_30 : decode cX9_tear 30 = .ok (.iload_n 1, 1) := by decide +kernel
theorem dX9_tear_31 : decode cX9_tear 31 = .ok (.ireturn, 1) := by decide +kernel
theorem dX9_seed_0 : decode cX9_seed 0 = .ok (.iload_n 1, 1) := by decide +kernel
theorem dX9_seed_1 : decode cX9_seed 1 = .ok (.ifCond .ge 6, 3) := by decide +kernel
theorem dX9_seed_4 : decode cX9_seed 4 = .ok (.ldc 87, 2) := by decide +kernel
theorem dX9_seed_6 : decode cX9_seed 6 = .ok (.ireturn, 1) := by decide +kernel
theorem dX9_seed_7 : decode cX9_seed 7 = .ok (.aload_n 0, 1) := by decide +kernel
theorem dX9_seed_8 : decode cX9_seed 8 = .ok (.getfield 72, 3) := by decide +kernel
theorem dX9_seed_11 : decode cX9_seed 11 = .ok (.invokevirtual 297, 3) := by decide +kernel
theorem dX9_seed_14 : decode cX9_seed 14 = .ok (.istore_n 2, 1) := by decide +kernel
theorem dX9_seed_15 : decode cX9_seed 15 = .ok (.aload_n 0, 1) := by decide +kernel
theorem dX9_seed_16 : decode cX9_seed 16 = .ok (.getfield 72, 3) := by decide +kernel
theorem dX9_seed_19 : decode cX9_seed 19 = .ok (.iload_n 1, 1) := by decide +kernel
theorem dX9_seed_20 : decode cX9_seed 20 = .ok (.invokevirtual 300, 3) := by decide +kernel
theorem dX9_seed_23 : decode cX9_seed 23 = .ok (.iload_n 2, 1) := by decide +kernel
theorem dX9_seed_24 : decode cX9_seed 24 = .ok (.ireturn, 1) := by decide +kernel
theorem dX9_keep_0 : decode cX9_keep 0 = .ok (.aload_n 0, 1) := by decide +kernel
theorem dX9_keep_1 : decode cX9_keep 1 = .ok (.getfield 46, 3) := by decide +kernel
theorem dX9_keep_4 : decode cX9_keep 4 = .ok (.iload_n 1, 1) := by decide +kernel
theorem dX9_keep_5 : decode cX9_keep 5 = .ok (.invokevirtual 303, 3) := by decide +kernel
theorem dX9_keep_8 : decode cX9_keep 8 = .ok (.ifCond .ne 6, 3) := by decide +kernel
theorem dX9_keep_11 : decode cX9_keep 11 = .ok (.ldc 147, 2) := by decide +kernel
theorem dX9_keep_13 : decode cX9_keep 13 = .ok (.ireturn, 1) := by decide +kernel
theorem dX9_keep_14 : decode cX9_keep 14 = .ok (.aload_n 0, 1) := by decide +kernel
theorem dX9_keep_15 : decode cX9_keep 15 = .ok (.getfield 46, 3) := by decide +kernel
theorem dX9_keep_18 : decode cX9_keep 18 = .ok (.iload_n 1, 1) := by decide +kernel
theorem dX9_keep_19 : decode cX9_keep 19 = .ok (.aload_n 0, 1) := by decide +kernel
theorem dX9_keep_20 : decode cX9_keep 20 = .ok (.getfield 29, 3) := by decide +kernel
theorem dX9_keep_23 : decode cX9_keep 23 = .ok (.aload_n 0, 1) := by decide +kernel
theorem dX9_keep_24 : decode cX9_keep 24 = .ok (.getfield 72, 3) := by decide +kernel
theorem dX9_keep_27 : decode cX9_keep 27 = .ok (.invokevirtual 297, 3) := by decide +kernel
theorem dX9_keep_30 : decode cX9_keep 30 = .ok (.invokevirtual 306, 3) := by decide +kernel
theorem dX9_keep_33 : decode cX9_keep 33 = .ok (.aload_n 0, 1) := by decide +kernel
theorem dX9_keep_34 : decode cX9_keep 34 = .ok (.getfield 39, 3) := by decide +kernel
theorem dX9_keep_37 : decode cX9_keep 37 = .ok (.invokevirtual 111, 3) := by decide +kernel
theorem dX9_keep_40 : decode cX9_keep 40 = .ok (.iconst 1, 1) := by decide +kernel
theorem dX9_keep_41 : decode cX9_keep 41 = .ok (.ireturn, 1) := by decide +kernel
theorem dX9_goBack_0 : decode cX9_goBack 0 = .ok (.aload_n 0, 1) := by decide +kernel
theorem dX9_goBack_1 : decode cX9_goBack 1 = .ok (.getfield 46, 3) := by decide +kernel
theorem dX9_goBack_4 : decode cX9_goBack 4 = .ok (.iload_n 1, 1) := by decide +kernel
theorem dX9_goBack_5 : decode cX9_goBack 5 = .ok (.invokevirtual 303, 3) := by decide +kernel
theorem dX9_goBack_8 : decode cX9_goBack 8 = .ok (.ifCond .ne 6, 3) := by decide +kernel
theorem dX9_goBack_11 : decode cX9_goBack 11 = .ok (.ldc 147, 2) := by decide +kernel
theorem dX9_goBack_13 : decode cX9_goBack 13 = .ok (.ireturn, 1) := by decide +kernel
theorem dX9_goBack_14 : decode cX9_goBack 14 = .ok (.aload_n 0, 1) := by decide +kernel
theorem dX9_goBack_15 : decode cX9_goBack 15 = .ok (.getfield 46, 3) := by decide +kernel
theorem dX9_goBack_18 : decode cX9_goBack 18 = .ok (.iload_n 1, 1) := by decide +kernel
theorem dX9_goBack_19 : decode cX9_goBack 19 = .ok (.invokevirtual 310, 3) := by decide +kernel
theorem dX9_goBack_22 : decode cX9_goBack 22 = .ok (.ifCond .ne 6, 3) := by decide +kernel
theorem dX9_goBack_25 : decode cX9_goBack 25 = .ok (.ldc 187, 2) := by decide +kernel
theorem dX9_goBack_27 : decode cX9_goBack 27 = .ok (.ireturn, 1) := by decide +kernel
theorem dX9_goBack_28 : decode cX9_goBack 28 = .ok (.aload_n 0, 1) := by decide +kernel
theorem dX9_goBack_29 : decode cX9_goBack 29 = .ok (.getfield 46, 3) := by decide +kernel
theorem dX9_goBack_32 : decode cX9_goBack 32 = .ok (.iload_n 1, 1) := by decide +kernel
theorem dX9_goBack_33 : decode cX9_goBack 33 = .ok (.aload_n 0, 1) := by decide +kernel
theorem dX9_goBack_34 : decode cX9_goBack 34 = .ok (.getfield 29, 3) := by decide +kernel
theorem dX9_goBack_37 : decode cX9_goBack 37 = .ok (.invokevirtual 313, 3) := by decide +kernel
theorem dX9_goBack_40 : decode cX9_goBack 40 = .ok (.aload_n 0, 1) := by decide +kernel
theorem dX9_goBack_41 : decode cX9_goBack 41 = .ok (.getfield 72, 3) := by decide +kernel
theorem dX9_goBack_44 : decode cX9_goBack 44 = .ok (.aload_n 0, 1) := by decide +kernel
theorem dX9_goBack_45 : decode cX9_goBack 45 = .ok (.getfield 46, 3) := by decide +kernel
theorem dX9_goBack_48 : decode cX9_goBack 48 = .ok (.iload_n 1, 1) := by decide +kernel
theorem dX9_goBack_49 : decode cX9_goBack 49 = .ok (.invokevirtual 316, 3) := by decide +kernel
theorem dX9_goBack_52 : decode cX9_goBack 52 = .ok (.invokevirtual 300, 3) := by decide +kernel
theorem dX9_goBack_55 : decode cX9_goBack 55 = .ok (.aload_n 0, 1) := by decide +kernel
theorem dX9_goBack_56 : decode cX9_goBack 56 = .ok (.getfield 39, 3) := by decide +kernel
theorem dX9_goBack_59 : decode cX9_goBack 59 = .ok (.invokevirtual 111, 3) := by decide +kernel
theorem dX9_goBack_62 : decode cX9_goBack 62 = .ok (.iconst 1, 1) := by decide +kernel
theorem dX9_goBack_63 : decode cX9_goBack 63 = .ok (.ireturn, 1) := by decide +kernel
theorem dX9_isWithin_0 : decode cX9_isWithin 0 = .ok (.iload_n 0, 1) := by decide +kernel
theorem dX9_isWithin_1 : decode cX9_isWithin 1 = .ok (.iload_n 1, 1) := by decide +kernel
theorem dX9_isWithin_2 : decode cX9_isWithin 2 = .ok (.if_icmp .lt 12, 3) := by decide +kernel
theorem dX9_isWithin_5 : decode cX9_isWithin 5 = .ok (.iload_n 0, 1) := by decide +kernel
theorem dX9_isWithin_6 : decode cX9_isWithin 6 = .ok (.iload_n 2, 1) := by decide +kernel
theorem dX9_isWithin_7 : decode cX9_isWithin 7 = .ok (.if_icmp .gt 7, 3) := by decide +kernel
theorem dX9_isWithin_10 : decode cX9_isWithin 10 = .ok (.iconst 1, 1) := by decide +kernel
theorem dX9_isWithin_11 : decode cX9_isWithin 11 = .ok (.goto 4, 3) := by decide +kernel
theorem dX9_isWithin_14 : decode cX9_isWithin 14 = .ok (.iconst 0, 1) := by decide +kernel
theorem dX9_isWithin_15 : decode cX9_isWithin 15 = .ok (.ireturn, 1) := by decide +kernel
theorem dX9_isPace_0 : decode cX9_isPace 0 = .ok (.iload_n 0, 1) := by decide +kernel
theorem dX9_isPace_1 : decode cX9_isPace 1 = .ok (.iconst 1, 1) := by decide +kernel
theorem dX9_isPace_2 : decode cX9_isPace 2 = .ok (.bipush 40, 2) := by decide +kernel
theorem dX9_isPace_4 : decode cX9_isPace 4 = .ok (.invokestatic 83, 3) := by decide +kernel
theorem dX9_isPace_7 : decode cX9_isPace 7 = .ok (.ireturn, 1) := by decide +kernel
theorem dX9_areTwoHouses_0 : decode cX9_areTwoHouses 0 = .ok (.aload_n 0, 1) := by decide +kernel
theorem dX9_areTwoHouses_1 : decode cX9_areTwoHouses 1 = .ok (.getfield 10, 3) := by decide +kernel
theorem dX9_areTwoHouses_4 : decode cX9_areTwoHouses 4 = .ok (.iload_n 1, 1) := by decide +kernel
theorem dX9_areTwoHouses_5 : decode cX9_areTwoHouses 5 = .ok (.invokevirtual 253, 3) := by decide +kernel
theorem dX9_areTwoHouses_8 : decode cX9_areTwoHouses 8 = .ok (.ifCond .eq 23, 3) := by decide +kernel
theorem dX9_areTwoHouses_11 : decode cX9_areTwoHouses 11 = .ok (.aload_n 0, 1) := by decide +kernel
theorem dX9_areTwoHouses_12 : decode cX9_areTwoHouses 12 = .ok (.getfield 10, 3) := by decide +kernel
theorem dX9_areTwoHouses_15 : decode cX9_areTwoHouses 15 = .ok (.iload_n 2, 1) := by decide +kernel
theorem dX9_areTwoHouses_16 : decode cX9_areTwoHouses 16 = .ok (.invokevirtual 253, 3) := by decide +kernel
theorem dX9_areTwoHouses_19 : decode cX9_areTwoHouses 19 = .ok (.ifCond .eq 12, 3) := by decide +kernel
theorem dX9_areTwoHouses_22 : decode cX9_areTwoHouses 22 = .ok (.iload_n 1, 1) := by decide +kernel
theorem dX9_areTwoHouses_23 : decode cX9_areTwoHouses 23 = .ok (.iload_n 2, 1) := by decide +kernel
theorem dX9_areTwoHouses_24 : decode cX9_areTwoHouses 24 = .ok (.if_icmp .eq 7, 3) := by decide +kernel
theorem dX9_areTwoHouses_27 : decode cX9_areTwoHouses 27 = .ok (.iconst 1, 1) := by decide +kernel
theorem dX9_areTwoHouses_28 : decode cX9_areTwoHouses 28 = .ok (.goto 4, 3) := by decide +kernel
theorem dX9_areTwoHouses_31 : decode cX9_areTwoHouses 31 = .ok (.iconst 0, 1) := by decide +kernel
theorem dX9_areTwoHouses_32 : decode cX9_areTwoHouses 32 = .ok (.ireturn, 1) := by decide +kernel
theorem dX9_areTwoWalkers_0 : decode cX9_areTwoWalkers 0 = .ok (.aload_n 0, 1) := by decide +kernel
theorem dX9_areTwoWalkers_1 : decode cX9_areTwoWalkers 1 = .ok (.getfield 10, 3) := by decide +kernel
theorem dX9_areTwoWalkers_4 : decode cX9_areTwoWalkers 4 = .ok (.iload_n 1, 1) := by decide +kernel
theorem dX9_areTwoWalkers_5 : decode cX9_areTwoWalkers 5 = .ok (.invokevirtual 162, 3) := by decide +kernel
theorem dX9_areTwoWalkers_8 : decode cX9_areTwoWalkers 8 = .ok (.ifCond .eq 23, 3) := by decide +kernel
theorem dX9_areTwoWalkers_11 : decode cX9_areTwoWalkers 11 = .ok (.aload_n 0, 1) := by decide +kernel
theorem dX9_areTwoWalkers_12 : decode cX9_areTwoWalkers 12 = .ok (.getfield 10, 3) := by decide +kernel
theorem dX9_areTwoWalkers_15 : decode cX9_areTwoWalkers 15 = .ok (.iload_n 2, 1) := by decide +kernel
theorem dX9_areTwoWalkers_16 : decode cX9_areTwoWalkers 16 = .ok (.invokevirtual 162, 3) := by decide +kernel
theorem dX9_areTwoWalkers_19 : decode cX9_areTwoWalkers 19 = .ok (.ifCond .eq 12, 3) := by decide +kernel
theorem dX9_areTwoWalkers_22 : decode cX9_areTwoWalkers 22 = .ok (.iload_n 1, 1) := by decide +kernel
theorem dX9_areTwoWalkers_23 : decode cX9_areTwoWalkers 23 = .ok (.iload_n 2, 1) := by decide +kernel
theorem dX9_areTwoWalkers_24 : decode cX9_areTwoWalkers 24 = .ok (.if_icmp .eq 7, 3) := by decide +kernel
theorem dX9_areTwoWalkers_27 : decode cX9_areTwoWalkers 27 = .ok (.iconst 1, 1) := by decide +kernel
theorem dX9_areTwoWalkers_28 : decode cX9_areTwoWalkers 28 = .ok (.goto 4, 3) := by decide +kernel
theorem dX9_areTwoWalkers_31 : decode cX9_areTwoWalkers 31 = .ok (.iconst 0, 1) := by decide +kernel
theorem dX9_areTwoWalkers_32 : decode cX9_areTwoWalkers 32 = .ok (.ireturn, 1) := by decide +kernel
theorem dX9_refusalOfMinutes_0 : decode cX9_refusalOfMinutes 0 = .ok (.iload_n 1, 1) := by decide +kernel
theorem dX9_refusalOfMinutes_1 : decode cX9_refusalOfMinutes 1 = .ok (.iconst 1, 1) := by decide +kernel
theorem dX9_refusalOfMinutes_2 : decode cX9_refusalOfMinutes 2 = .ok (.bipush 60, 2) := by decide +kernel
theorem dX9_refusalOfMinutes_4 : decode cX9_refusalOfMinutes 4 = .ok (.invokestatic 83, 3) := by decide +kernel
theorem dX9_refusalOfMinutes_7 : decode cX9_refusalOfMinutes 7 = .ok (.ifCond .ne 6, 3) := by decide +kernel
theorem dX9_refusalOfMinutes_10 : decode cX9_refusalOfMinutes 10 = .ok (.ldc 87, 2) := by decide +kernel
theorem dX9_refusalOfMinutes_12 : decode cX9_refusalOfMinutes 12 = .ok (.ireturn, 1) := by decide +kernel
theorem dX9_refusalOfMinutes_13 : decode cX9_refusalOfMinutes 13 = .ok (.aload_n 0, 1) := by decide +kernel
theorem dX9_refusalOfMinutes_14 : decode cX9_refusalOfMinutes 14 = .ok (.getfield 10, 3) := by decide +kernel
theorem dX9_refusalOfMinutes_17 : decode cX9_refusalOfMinutes 17 = .ok (.invokevirtual 222, 3) := by decide +kernel
theorem dX9_refusalOfMinutes_20 : decode cX9_refusalOfMinutes 20 = .ok (.ifCond .ne 6, 3) := by decide +kernel
theorem dX9_refusalOfMinutes_23 : decode cX9_refusalOfMinutes 23 = .ok (.ldc 187, 2) := by decide +kernel
theorem dX9_refusalOfMinutes_25 : decode cX9_refusalOfMinutes 25 = .ok (.ireturn, 1) := by decide +kernel
theorem dX9_refusalOfMinutes_26 : decode cX9_refusalOfMinutes 26 = .ok (.aload_n 0, 1) := by decide +kernel
theorem dX9_refusalOfMinutes_27 : decode cX9_refusalOfMinutes 27 = .ok (.getfield 29, 3) := by decide +kernel
theorem dX9_refusalOfMinutes_30 : decode cX9_refusalOfMinutes 30 = .ok (.invokevirtual 134, 3) := by decide +kernel
theorem dX9_refusalOfMinutes_33 : decode cX9_refusalOfMinutes 33 = .ok (.ldc_w 319, 3) := by decide +kernel
theorem dX9_refusalOfMinutes_36 : decode cX9_refusalOfMinutes 36 = .ok (.if_icmp .le 8, 3) := by decide +kernel
theorem dX9_refusalOfMinutes_39 : decode cX9_refusalOfMinutes 39 = .ok (.ldc 96, 2) := by decide +kernel
theorem dX9_refusalOfMinutes_41 : decode cX9_refusalOfMinutes 41 = .ok (.goto 4, 3) := by decide +kernel
theorem dX9_refusalOfMinutes_44 : decode cX9_refusalOfMinutes 44 = .ok (.iconst 0, 1) := by decide +kernel
theorem dX9_refusalOfMinutes_45 : decode cX9_refusalOfMinutes 45 = .ok (.ireturn, 1) := by decide +kernel
theorem dX9_directByDraws_0 : decode cX9_directByDraws 0 = .ok (.iconst 0, 1) := by decide +kernel
theorem dX9_directByDraws_1 : decode cX9_directByDraws 1 = .ok (.istore_n 1, 1) := by decide +kernel
theorem dX9_directByDraws_2 : decode cX9_directByDraws 2 = .ok (.iload_n 1, 1) := by decide +kernel
theorem dX9_directByDraws_3 : decode cX9_directByDraws 3 = .ok (.aload_n 0, 1) := by decide +kernel
theorem dX9_directByDraws_4 : decode cX9_directByDraws 4 = .ok (.getfield 10, 3) := by decide +kernel
theorem dX9_directByDraws_7 : decode cX9_directByDraws 7 = .ok (.invokevirtual 116, 3) := by decide +kernel
theorem dX9_directByDraws_10 : decode cX9_directByDraws 10 = .ok (.if_icmp .ge 88, 3) := by decide +kernel
theorem dX9_directByDraws_13 : decode cX9_directByDraws 13 = .ok (.aload_n 0, 1) := by decide +kernel
theorem dX9_directByDraws_14 : decode cX9_directByDraws 14 = .ok (.getfield 29, 3) := by decide +kernel
theorem dX9_directByDraws_17 : decode cX9_directByDraws 17 = .ok (.iload_n 1, 1) := by decide +kernel
theorem dX9_directByDraws_18 : decode cX9_directByDraws 18 = .ok (.invokevirtual 184, 3) := by decide +kernel
theorem dX9_directByDraws_21 : decode cX9_directByDraws 21 = .ok (.ifCond .ne 71, 3) := by decide +kernel
theorem dX9_directByDraws_24 : decode cX9_directByDraws 24 = .ok (.aload_n 0, 1) := by decide +kernel
theorem dX9_directByDraws_25 : decode cX9_directByDraws 25 = .ok (.getfield 72, 3) := by decide +kernel
theorem dX9_directByDraws_28 : decode cX9_directByDraws 28 = .ok (.iconst 4, 1) := by decide +kernel
theorem dX9_directByDraws_29 : decode cX9_directByDraws 29 = .ok (.invokevirtual 320, 3) := by decide +kernel
theorem dX9_directByDraws_32 : decode cX9_directByDraws 32 = .ok (.istore_n 2, 1) := by decide +kernel
theorem dX9_directByDraws_33 : decode cX9_directByDraws 33 = .ok (.iload_n 2, 1) := by decide +kernel
theorem dX9_directByDraws_34 : decode cX9_directByDraws 34 = .ok (.ifCond .ne 19, 3) := by decide +kernel
theorem dX9_directByDraws_37 : decode cX9_directByDraws 37 = .ok (.aload_n 0, 1) := by decide +kernel
theorem dX9_directByDraws_38 : decode cX9_directByDraws 38 = .ok (.getfield 29, 3) := by decide +kernel
theorem dX9_directByDraws_41 : decode cX9_directByDraws 41 = .ok (.aload_n 0, 1) := by decide +kernel
theorem dX9_directByDraws_42 : decode cX9_directByDraws 42 = .ok (.getfield 10, 3) := by decide +kernel
theorem dX9_directByDraws_45 : decode cX9_directByDraws 45 = .ok (.iload_n 1, 1) := by decide +kernel
theorem dX9_directByDraws_46 : decode cX9_directByDraws 46 = .ok (.iconst 2, 1) := by decide +kernel
theorem dX9_directByDraws_47 : decode cX9_directByDraws 47 = .ok (.invokevirtual 192, 3) := by decide +kernel
theorem dX9_directByDraws_50 : decode cX9_directByDraws 50 = .ok (.goto 42, 3) := by decide +kernel
theorem dX9_directByDraws_53 : decode cX9_directByDraws 53 = .ok (.iload_n 2, 1) := by decide +kernel
theorem dX9_directByDraws_54 : decode cX9_directByDraws 54 = .ok (.iconst 1, 1) := by decide +kernel
theorem dX9_directByDraws_55 : decode cX9_directByDraws 55 = .ok (.if_icmp .ne 19, 3) := by decide +kernel
theorem dX9_directByDraws_58 : decode cX9_directByDraws 58 = .ok (.aload_n 0, 1) := by decide +kernel
theorem dX9_directByDraws_59 : decode cX9_directByDraws 59 = .ok (.getfield 29, 3) := by decide +kernel
theorem dX9_directByDraws_62 : decode cX9_directByDraws 62 = .ok (.aload_n 0, 1) := by decide +kernel
theorem dX9_directByDraws_63 : decode cX9_directByDraws 63 = .ok (.getfield 10, 3) := by decide +kernel
theorem dX9_directByDraws_66 : decode cX9_directByDraws 66 = .ok (.iload_n 1, 1) := by decide +kernel
theorem dX9_directByDraws_67 : decode cX9_directByDraws 67 = .ok (.iconst 0, 1) := by decide +kernel
theorem dX9_directByDraws_68 : decode cX9_directByDraws 68 = .ok (.invokevirtual 192, 3) := by decide +kernel
theorem dX9_directByDraws_71 : decode cX9_directByDraws 71 = .ok (.goto 21, 3) := by decide +kernel
theorem dX9_directByDraws_74 : decode cX9_directByDraws 74 = .ok (.iload_n 2, 1) := by decide +kernel
theorem dX9_directByDraws_75 : decode cX9_directByDraws 75 = .ok (.iconst 2, 1) := by decide +kernel
theorem dX9_directByDraws_76 : decode cX9_directByDraws 76 = .ok (.if_icmp .ne 16, 3) := by decide +kernel
theorem dX9_directByDraws_79 : decode cX9_directByDraws 79 = .ok (.aload_n 0, 1) := by decide +kernel
theorem dX9_directByDraws_80 : decode cX9_directByDraws 80 = .ok (.getfield 29, 3) := by decide +kernel
theorem dX9_directByDraws_83 : decode cX9_directByDraws 83 = .ok (.aload_n 0, 1) := by decide +kernel
theorem dX9_directByDraws_84 : decode cX9_directByDraws 84 = .ok (.getfield 10, 3) := by decide +kernel
theorem dX9_directByDraws_87 : decode cX9_directByDraws 87 = .ok (.iload_n 1, 1) := by decide +kernel
theorem dX9_directByDraws_88 : decode cX9_directByDraws 88 = .ok (.iconst 1, 1) := by decide +kernel
theorem dX9_directByDraws_89 : decode cX9_directByDraws 89 = .ok (.invokevirtual 192, 3) := by decide +kernel
theorem dX9_directByDraws_92 : decode cX9_directByDraws 92 = .ok (.iinc 1 1, 3) := by decide +kernel
theorem dX9_directByDraws_95 : decode cX9_directByDraws 95 = .ok (.goto (-93), 3) := by decide +kernel
theorem dX9_directByDraws_98 : decode cX9_directByDraws 98 = .ok (.return_, 1) := by decide +kernel
theorem dX9_sideInTrial_0 : decode cX9_sideInTrial 0 = .ok (.aload_n 0, 1) := by decide +kernel
theorem dX9_sideInTrial_1 : decode cX9_sideInTrial 1 = .ok (.getfield 33, 3) := by decide +kernel
theorem dX9_sideInTrial_4 : decode cX9_sideInTrial 4 = .ok (.aload_n 0, 1) := by decide +kernel
theorem dX9_sideInTrial_5 : decode cX9_sideInTrial 5 = .ok (.getfield 10, 3) := by decide +kernel
theorem dX9_sideInTrial_8 : decode cX9_sideInTrial 8 = .ok (.iload_n 1, 1) := by decide +kernel
theorem dX9_sideInTrial_9 : decode cX9_sideInTrial 9 = .ok (.invokevirtual 180, 3) := by decide +kernel
theorem dX9_sideInTrial_12 : decode cX9_sideInTrial 12 = .ok (.aload_n 0, 1) := by decide +kernel
theorem dX9_sideInTrial_13 : decode cX9_sideInTrial 13 = .ok (.getfield 33, 3) := by decide +kernel
theorem dX9_sideInTrial_16 : decode cX9_sideInTrial 16 = .ok (.aload_n 0, 1) := by decide +kernel
theorem dX9_sideInTrial_17 : decode cX9_sideInTrial 17 = .ok (.getfield 10, 3) := by decide +kernel
theorem dX9_sideInTrial_20 : decode cX9_sideInTrial 20 = .ok (.iload_n 2, 1) := by decide +kernel
theorem dX9_sideInTrial_21 : decode cX9_sideInTrial 21 = .ok (.invokevirtual 180, 3) := by decide +kernel
theorem dX9_sideInTrial_24 : decode cX9_sideInTrial 24 = .ok (.invokestatic 323, 3) := by decide +kernel
theorem dX9_sideInTrial_27 : decode cX9_sideInTrial 27 = .ok (.ireturn, 1) := by decide +kernel
theorem dX9_farthestTime_0 : decode cX9_farthestTime 0 = .ok (.aload_n 0, 1) := by decide +kernel
theorem dX9_farthestTime_1 : decode cX9_farthestTime 1 = .ok (.getfield 10, 3) := by decide +kernel
theorem dX9_farthestTime_4 : decode cX9_farthestTime 4 = .ok (.invokevirtual 131, 3) := by decide +kernel
theorem dX9_farthestTime_7 : decode cX9_farthestTime 7 = .ok (.iconst 1, 1) := by decide +kernel
theorem dX9_farthestTime_8 : decode cX9_farthestTime 8 = .ok (.isub, 1) := by decide +kernel
theorem dX9_farthestTime_9 : decode cX9_farthestTime 9 = .ok (.istore_n 3, 1) := by decide +kernel
theorem dX9_farthestTime_10 : decode cX9_farthestTime 10 = .ok (.aload_n 0, 1) := by decide +kernel
theorem dX9_farthestTime_11 : decode cX9_farthestTime 11 = .ok (.getfield 10, 3) := by decide +kernel
theorem dX9_farthestTime_14 : decode cX9_farthestTime 14 = .ok (.iload_n 1, 1) := by decide +kernel
theorem dX9_farthestTime_15 : decode cX9_farthestTime 15 = .ok (.iconst 0, 1) := by decide +kernel
theorem dX9_farthestTime_16 : decode cX9_farthestTime 16 = .ok (.iload_n 2, 1) := by decide +kernel
theorem dX9_farthestTime_17 : decode cX9_farthestTime 17 = .ok (.aload_n 0, 1) := by decide +kernel
theorem dX9_farthestTime_18 : decode cX9_farthestTime 18 = .ok (.getfield 29, 3) := by decide +kernel
theorem dX9_farthestTime_21 : decode cX9_farthestTime 21 = .ok (.invokevirtual 134, 3) := by decide +kernel
theorem dX9_farthestTime_24 : decode cX9_farthestTime 24 = .ok (.aload_n 0, 1) := by decide +kernel
theorem dX9_farthestTime_25 : decode cX9_farthestTime 25 = .ok (.getfield 29, 3) := by decide +kernel
theorem dX9_farthestTime_28 : decode cX9_farthestTime 28 = .ok (.invokevirtual 137, 3) := by decide +kernel
theorem dX9_farthestTime_31 : decode cX9_farthestTime 31 = .ok (.sipush 300, 3) := by decide +kernel
theorem dX9_farthestTime_34 : decode cX9_farthestTime 34 = .ok (.invokevirtual 238, 3) := by decide +kernel
theorem dX9_farthestTime_37 : decode cX9_farthestTime 37 = .ok (.istore 4, 2) := by decide +kernel
theorem dX9_farthestTime_39 : decode cX9_farthestTime 39 = .ok (.aload_n 0, 1) := by decide +kernel
theorem dX9_farthestTime_40 : decode cX9_farthestTime 40 = .ok (.getfield 10, 3) := by decide +kernel
theorem dX9_farthestTime_43 : decode cX9_farthestTime 43 = .ok (.iload_n 1, 1) := by decide +kernel
theorem dX9_farthestTime_44 : decode cX9_farthestTime 44 = .ok (.iload_n 3, 1) := by decide +kernel
theorem dX9_farthestTime_45 : decode cX9_farthestTime 45 = .ok (.iload_n 2, 1) := by decide +kernel
theorem dX9_farthestTime_46 : decode cX9_farthestTime 46 = .ok (.aload_n 0, 1) := by decide +kernel
theorem dX9_farthestTime_47 : decode cX9_farthestTime 47 = .ok (.getfield 29, 3) := by decide +kernel
theorem dX9_farthestTime_50 : decode cX9_farthestTime 50 = .ok (.invokevirtual 134, 3) := by decide +kernel
theorem dX9_farthestTime_53 : decode cX9_farthestTime 53 = .ok (.aload_n 0, 1) := by decide +kernel
theorem dX9_farthestTime_54 : decode cX9_farthestTime 54 = .ok (.getfield 29, 3) := by decide +kernel
theorem dX9_farthestTime_57 : decode cX9_farthestTime 57 = .ok (.invokevirtual 137, 3) := by decide +kernel
theorem dX9_farthestTime_60 : decode cX9_farthestTime 60 = .ok (.sipush 300, 3) := by decide +kernel
theorem dX9_farthestTime_63 : decode cX9_farthestTime 63 = .ok (.invokevirtual 238, 3) := by decide +kernel
theorem dX9_farthestTime_66 : decode cX9_farthestTime 66 = .ok (.istore 5, 2) := by decide +kernel
theorem dX9_farthestTime_68 : decode cX9_farthestTime 68 = .ok (.iload 4, 2) := by decide +kernel
theorem dX9_farthestTime_70 : decode cX9_farthestTime 70 = .ok (.iconst (-1), 1) := by decide +kernel
theorem dX9_farthestTime_71 : decode cX9_farthestTime 71 = .ok (.if_icmp .eq 9, 3) := by decide +kernel
theorem dX9_farthestTime_74 : decode cX9_farthestTime 74 = .ok (.iload 5, 2) := by decide +kernel
theorem dX9_farthestTime_76 : decode cX9_farthestTime 76 = .ok (.iconst (-1), 1) := by decide +kernel
theorem dX9_farthestTime_77 : decode cX9_farthestTime 77 = .ok (.if_icmp .ne 7, 3) := by decide +kernel
theorem dX9_farthestTime_80 : decode cX9_farthestTime 80 = .ok (.iconst (-1), 1) := by decide +kernel
theorem dX9_farthestTime_81 : decode cX9_farthestTime 81 = .ok (.goto 10, 3) := by decide +kernel
theorem dX9_farthestTime_84 : decode cX9_farthestTime 84 = .ok (.iload 4, 2) := by decide +kernel
theorem dX9_farthestTime_86 : decode cX9_farthestTime 86 = .ok (.iload 5, 2) := by decide +kernel
theorem dX9_farthestTime_88 : decode cX9_farthestTime 88 = .ok (.invokestatic 326, 3) := by decide +kernel
theorem dX9_farthestTime_91 : decode cX9_farthestTime 91 = .ok (.ireturn, 1) := by decide +kernel
theorem dX10_init_0 : decode cX10_init 0 = .ok (.aload_n 0, 1) := by decide +kernel
theorem dX10_init_1 : decode cX10_init 1 = .ok (.invokespecial 1, 3) := by decide +kernel
theorem dX10_init_4 : decode cX10_init 4 = .ok (.aload_n 0, 1) := by decide +kernel
theorem dX10_init_5 : decode cX10_init 5 = .ok (.sipush 200, 3) := by decide +kernel
theorem dX10_init_8 : decode cX10_init 8 = .ok (.newarray .int, 2) := by decide +kernel
theorem dX10_init_10 : decode cX10_init 10 = .ok (.putfield 7, 3) := by decide +kernel
theorem dX10_init_13 : decode cX10_init 13 = .ok (.aload_n 0, 1) := by decide +kernel
theorem dX10_init_14 : decode cX10_init 14 = .ok (.iconst (-1), 1) := by decide +kernel
theorem dX10_init_15 : decode cX10_init 15 = .ok (.putfield 13, 3) := by decide +kernel
theorem dX10_init_18 : decode cX10_init 18 = .ok (.aload_n 0, 1) := by decide +kernel
theorem dX10_init_19 : decode cX10_init 19 = .ok (.iconst 5, 1) := by decide +kernel
theorem dX10_init_20 : decode cX10_init 20 = .ok (.newarray .int, 2) := by decide +kernel
theorem dX10_init_22 : decode cX10_init 22 = .ok (.putfield 17, 3) := by decide +kernel
theorem dX10_init_25 : decode cX10_init 25 = .ok (.aload_n 0, 1) := by decide +kernel
theorem dX10_init_26 : decode cX10_init 26 = .ok (.bipush 8, 2) := by decide +kernel
theorem dX10_init_28 : decode cX10_init 28 = .ok (.newarray .int, 2) := by decide +kernel
theorem dX10_init_30 : decode cX10_init 30 = .ok (.putfield 20, 3) := by decide +kernel
theorem dX10_init_33 : decode cX10_init 33 = .ok (.aload_n 0, 1) := by decide +kernel
theorem dX10_init_34 : decode cX10_init 34 = .ok (.iconst 4, 1) := by decide +kernel
theorem dX10_init_35 : decode cX10_init 35 = .ok (.newarray .int, 2) := by decide +kernel
theorem dX10_init_37 : decode cX10_init 37 = .ok (.putfield 23, 3) := by decide +kernel
theorem dX10_init_40 : decode cX10_init 40 = .ok (.aload_n 0, 1) := by decide +kernel
theorem dX10_init_41 : decode cX10_init 41 = .ok (.iconst 4, 1) := by decide +kernel
theorem dX10_init_42 : decode cX10_init 42 = .ok (.newarray .int, 2) := by decide +kernel
theorem dX10_init_44 : decode cX10_init 44 = .ok (.putfield 26, 3) := by decide +kernel
theorem dX10_init_47 : decode cX10_init 47 = .ok (.aload_n 0, 1) := by decide +kernel
theorem dX10_init_48 : decode cX10_init 48 = .ok (.iconst 5, 1) := by decide +kernel
theorem dX10_init_49 : decode cX10_init 49 = .ok (.newarray .int, 2) := by decide +kernel
theorem dX10_init_51 : decode cX10_init 51 = .ok (.putfield 29, 3) := by decide +kernel
theorem dX10_init_54 : decode cX10_init 54 = .ok (.aload_n 0, 1) := by decide +kernel
theorem dX10_init_55 : decode cX10_init 55 = .ok (.bipush 8, 2) := by decide +kernel
theorem dX10_init_57 : decode cX10_init 57 = .ok (.newarray .int, 2) := by decide +kernel
theorem dX10_init_59 : decode cX10_init 59 = .ok (.putfield 32, 3) := by decide +kernel
theorem dX10_init_62 : decode cX10_init 62 = .ok (.aload_n 0, 1) := by decide +kernel
theorem dX10_init_63 : decode cX10_init 63 = .ok (.iconst 4, 1) := by decide +kernel
theorem dX10_init_64 : decode cX10_init 64 = .ok (.newarray .int, 2) := by decide +kernel
theorem dX10_init_66 : decode cX10_init 66 = .ok (.putfield 35, 3) := by decide +kernel
theorem dX10_init_69 : decode cX10_init 69 = .ok (.aload_n 0, 1) := by decide +kernel
theorem dX10_init_70 : decode cX10_init 70 = .ok (.iconst 4, 1) := by decide +kernel
theorem dX10_init_71 : decode cX10_init 71 = .ok (.newarray .int, 2) := by decide +kernel
theorem dX10_init_73 : decode cX10_init 73 = .ok (.putfield 38, 3) := by decide +kernel
theorem dX10_init_76 : decode cX10_init 76 = .ok (.aload_n 0, 1) := by decide +kernel
theorem dX10_init_77 : decode cX10_init 77 = .ok (.bipush 14, 2) := by decide +kernel
theorem dX10_init_79 : decode cX10_init 79 = .ok (.newarray .int, 2) := by decide +kernel
theorem dX10_init_81 : decode cX10_init 81 = .ok (.putfield 41, 3) := by decide +kernel
theorem dX10_init_84 : decode cX10_init 84 = .ok (.aload_n 0, 1) := by decide +kernel
theorem dX10_init_85 : decode cX10_init 85 = .ok (.sipush 420, 3) := by decide +kernel
theorem dX10_init_88 : decode cX10_init 88 = .ok (.newarray .int, 2) := by decide +kernel
theorem dX10_init_90 : decode cX10_init 90 = .ok (.putfield 44, 3) := by decide +kernel
theorem dX10_init_93 : decode cX10_init 93 = .ok (.aload_n 0, 1) := by decide +kernel
theorem dX10_init_94 : decode cX10_init 94 = .ok (.bipush 28, 2) := by decide +kernel
theorem dX10_init_96 : decode cX10_init 96 = .ok (.newarray .int, 2) := by decide +kernel
theorem dX10_init_98 : decode cX10_init 98 = .ok (.putfield 47, 3) := by decide +kernel
theorem dX10_init_101 : decode cX10_init 101 = .ok (.aload_n 0, 1) := by decide +kernel
theorem dX10_init_102 : decode cX10_init 102 = .ok (.iconst 2, 1) := by decide +kernel
theorem dX10_init_103 : decode cX10_init 103 = .ok (.newarray .int, 2) := by decide +kernel
theorem dX10_init_105 : decode cX10_init 105 = .ok (.putfield 50, 3) := by decide +kernel
theorem dX10_init_108 : decode cX10_init 108 = .ok (.aload_n 0, 1) := by decide +kernel
theorem dX10_init_109 : decode cX10_init 109 = .ok (.iconst 2, 1) := by decide +kernel
theorem dX10_init_110 : decode cX10_init 110 = .ok (.newarray .boolean, 2) := by decide +kernel
theorem dX10_init_112 : decode cX10_init 112 = .ok (.putfield 53, 3) := by decide +kernel
theorem dX10_init_115 : decode cX10_init 115 = .ok (.aload_n 0, 1) := by decide +kernel
theorem dX10_init_116 : decode cX10_init 116 = .ok (.bipush 12, 2) := by decide +kernel
theorem dX10_init_118 : decode cX10_init 118 = .ok (.newarray .int, 2) := by decide +kernel
theorem dX10_init_120 : decode cX10_init 120 = .ok (.putfield 57, 3) := by decide +kernel
theorem dX10_init_123 : decode cX10_init 123 = .ok (.aload_n 0, 1) := by decide +kernel
theorem dX10_init_124 : decode cX10_init 124 = .ok (.bipush 40, 2) := by decide +kernel
theorem dX10_init_126 : decode cX10_init 126 = .ok (.newarray .int, 2) := by decide +kernel
theorem dX10_init_128 : decode cX10_init 128 = .ok (.putfield 60, 3) := by decide +kernel
theorem dX10_init_131 : decode cX10_init 131 = .ok (.aload_n 0, 1) := by decide +kernel
theorem dX10_init_132 : decode cX10_init 132 = .ok (.sipush 1000, 3) := by decide +kernel
theorem dX10_init_135 : decode cX10_init 135 = .ok (.newarray .int, 2) := by decide +kernel
theorem dX10_init_137 : decode cX10_init 137 = .ok (.putfield 63, 3) := by decide +kernel
theorem dX10_init_140 : decode cX10_init 140 = .ok (.aload_n 0, 1) := by decide +kernel
theorem dX10_init_141 : decode cX10_init 141 = .ok (.sipush 301, 3) := by decide +kernel
theorem dX10_init_144 : decode cX10_init 144 = .ok (.newarray .int, 2) := by decide +kernel
theorem dX10_init_146 : decode cX10_init 146 = .ok (.putfield 66, 3) := by decide +kernel
theorem dX10_init_149 : decode cX10_init 149 = .ok (.return_, 1) := by decide +kernel
theorem dX10_in_0 : decode cX10_in 0 = .ok (.iload_n 0, 1) := by decide +kernel
theorem dX10_in_1 : decode cX10_in 1 = .ok (.iload_n 1, 1) := by decide +kernel
theorem dX10_in_2 : decode cX10_in 2 = .ok (.if_icmp .lt 12, 3) := by decide +kernel
theorem dX10_in_5 : decode cX10_in 5 = .ok (.iload_n 0, 1) := by decide +kernel
theorem dX10_in_6 : decode cX10_in 6 = .ok (.iload_n 2, 1) := by decide +kernel
theorem dX10_in_7 : decode cX10_in 7 = .ok (.if_icmp .gt 7, 3) := by decide +kernel
theorem dX10_in_10 : decode cX10_in 10 = .ok (.iconst 1, 1) := by decide +kernel
theorem dX10_in_11 : decode cX10_in 11 = .ok (.goto 4, 3) := by decide +kernel
theorem dX10_in_14 : decode cX10_in 14 = .ok (.iconst 0, 1) := by decide +kernel
theorem dX10_in_15 : decode cX10_in 15 = .ok (.ireturn, 1) := by decide +kernel
theorem dX10_has_0 : decode cX10_has 0 = .ok (.iload_n 0, 1) := by decide +kernel
theorem dX10_has_1 : decode cX10_has 1 = .ok (.iload_n 1, 1) := by decide +kernel
theorem dX10_has_2 : decode cX10_has 2 = .ok (.ishr, 1) := by decide +kernel
theorem dX10_has_3 : decode cX10_has 3 = .ok (.iconst 1, 1) := by decide +kernel
theorem dX10_has_4 : decode cX10_has 4 = .ok (.iand, 1) := by decide +kernel
theorem dX10_has_5 : decode cX10_has 5 = .ok (.iconst 1, 1) := by decide +kernel
theorem dX10_has_6 : decode cX10_has 6 = .ok (.if_icmp .ne 7, 3) := by decide +kernel
theorem dX10_has_9 : decode cX10_has 9 = .ok (.iconst 1, 1) := by decide +kernel
theorem dX10_has_10 : decode cX10_has 10 = .ok (.goto 4, 3) := by decide +kernel
theorem dX10_has_13 : decode cX10_has 13 = .ok (.iconst 0, 1) := by decide +kernel
theorem dX10_has_14 : decode cX10_has 14 = .ok (.ireturn, 1) := by decide +kernel
theorem dX10_ones_0 : decode cX10_ones 0 = .ok (.iconst 0, 1) := by decide +kernel
theorem dX10_ones_1 : decode cX10_ones 1 = .ok (.istore_n 1, 1) := by decide +kernel
theorem dX10_ones_2 : decode cX10_ones 2 = .ok (.iconst 0, 1) := by decide +kernel
theorem dX10_ones_3 : decode cX10_ones 3 = .ok (.istore_n 2, 1) := by decide +kernel
theorem dX10_ones_4 : decode cX10_ones 4 = .ok (.iload_n 2, 1) := by decide +kernel
theorem dX10_ones_5 : decode cX10_ones 5 = .ok (.bipush 8, 2) := by decide +kernel
theorem dX10_ones_7 : decode cX10_ones 7 = .ok (.if_icmp .ge 17, 3) := by decide +kernel
theorem dX10_ones_10 : decode cX10_ones 10 = .ok (.iload_n 1, 1) := by decide +kernel
theorem dX10_ones_11 : decode cX10_ones 11 = .ok (.iload_n 0, 1) := by decide +kernel
theorem dX10_ones_12 : decode cX10_ones 12 = .ok (.iload_n 2, 1) := by decide +kernel
theorem dX10_ones_13 : decode cX10_ones 13 = .ok (.ishr, 1) := by decide +kernel
theorem dX10_ones_14 : decode cX10_ones 14 = .ok (.iconst 1, 1) := by decide +kernel
theorem dX10_ones_15 : decode cX10_ones 15 = .ok (.iand, 1) := by decide +kernel
theorem dX10_ones_16 : decode cX10_ones 16 = .ok (.iadd, 1) := by decide +kernel
theorem dX10_ones_17 : decode cX10_ones 17 = .ok (.istore_n 1, 1) := by decide +kernel
theorem dX10_ones_18 : decode cX10_ones 18 = .ok (.iinc 2 1, 3) := by decide +kernel
theorem dX10_ones_21 : decode cX10_ones 21 = .ok (.goto (-17), 3) := by decide +kernel
theorem dX10_ones_24 : decode cX10_ones 24 = .ok (.iload_n 1, 1) := by decide +kernel
theorem dX10_ones_25 : decode cX10_ones 25 = .ok (.ireturn, 1) := by decide +kernel
theorem dX10_lesser_0 : decode cX10_lesser 0 = .ok (.iload_n 0, 1) := by decide +kernel
theorem dX10_lesser_1 : decode cX10_lesser 1 = .ok (.iload_n 1, 1) := by decide +kernel
theorem dX10_lesser_2 : decode cX10_lesser 2 = .ok (.if_icmp .ge 7, 3) := by decide +kernel
theorem dX10_lesser_5 : decode cX10_lesser 5 = .ok (.iload_n 0, 1) := by decide +kernel
theorem dX10_lesser_6 : decode cX10_lesser 6 = .ok (.goto 4, 3) := by decide +kernel
theorem dX10_lesser_9 : decode cX10_lesser 9 = .ok (.iload_n 1, 1) := by decide +kernel
theorem dX10_lesser_10 : decode cX10_lesser 10 = .ok (.ireturn, 1) := by decide +kernel
theorem dX10_feed_0 : decode cX10_feed 0 = .ok (.iload_n 1, 1) := by decide +kernel
theorem dX10_feed_1 : decode cX10_feed 1 = .ok (.iconst 0, 1) := by decide +kernel
theorem dX10_feed_2 : decode cX10_feed 2 = .ok (.sipush 255, 3) := by decide +kernel
theorem dX10_feed_5 : decode cX10_feed 5 = .ok (.invokestatic 69, 3) := by decide +kernel
theorem dX10_feed_8 : decode cX10_feed 8 = .ok (.ifCond .ne 6, 3) := by decide +kernel
theorem dX10_feed_11 : decode cX10_feed 11 = .ok (.ldc 73, 2) := by decide +kernel
theorem dX10_feed_13 : decode cX10_feed 13 = .ok (.ireturn, 1) := by decide +kernel
theorem dX10_feed_14 : decode cX10_feed 14 = .ok (.aload_n 0, 1) := by decide +kernel
theorem dX10_feed_15 : decode cX10_feed 15 = .ok (.getfield 74, 3) := by decide +kernel
theorem dX10_feed_18 : decode cX10_feed 18 = .ok (.sipush 200, 3) := by decide +kernel
theorem dX10_feed_21 : decode cX10_feed 21 = .ok (.if_icmp .ne 6, 3) := by decide +kernel
theorem dX10_feed_24 : decode cX10_feed 24 = .ok (.ldc 77, 2) := by decide +kernel
theorem dX10_feed_26 : decode cX10_feed 26 = .ok (.ireturn, 1) := by decide +kernel
theorem dX10_feed_27 : decode cX10_feed 27 = .ok (.aload_n 0, 1) := by decide +kernel
theorem dX10_feed_28 : decode cX10_feed 28 = .ok (.getfield 7, 3) := by decide +kernel
theorem dX10_feed_31 : decode cX10_feed 31 = .ok (.aload_n 0, 1) := by decide +kernel
theorem dX10_feed_32 : decode cX10_feed 32 = .ok (.getfield 74, 3) := by decide +kernel
theorem dX10_feed_35 : decode cX10_feed 35 = .ok (.iload_n 1, 1) := by decide +kernel
theorem dX10_feed_36 : decode cX10_feed 36 = .ok (.iastore, 1) := by decide +kernel
theorem dX10_feed_37 : decode cX10_feed 37 = .ok (.aload_n 0, 1) := by decide +kernel
theorem dX10_feed_38 : decode cX10_feed 38 = .ok (.dup, 1) := by decide +kernel
theorem dX10_feed_39 : decode cX10_feed 39 = .ok (.getfield 74, 3) := by decide +kernel
theorem dX10_feed_42 : decode cX10_feed 42 = .ok (.iconst 1, 1) := by decide +kernel
theorem dX10_feed_43 : decode cX10_feed 43 = .ok (.iadd, 1) := by decide +kernel
theorem dX10_feed_44 : decode cX10_feed 44 = .ok (.putfield 74, 3) := by decide +kernel
theorem dX10_feed_47 : decode cX10_feed 47 = .ok (.aload_n 0, 1) := by decide +kernel
theorem dX10_feed_48 : decode cX10_feed 48 = .ok (.getfield 74, 3) := by decide +kernel
theorem dX10_feed_51 : decode cX10_feed 51 = .ok (.ireturn, 1) := by decide +kernel
theorem dX10_look_0 : decode cX10_look 0 = .ok (.aload_n 0, 1) := by decide +kernel
theorem dX10_look_1 : decode cX10_look 1 = .ok (.getfield 78, 3) := by decide +kernel
theorem dX10_look_4 : decode cX10_look 4 = .ok (.aload_n 0, 1) := by decide +kernel
theorem dX10_look_5 : decode cX10_look 5 = .ok (.getfield 74, 3) := by decide +kernel
theorem dX10_look_8 : decode cX10_look 8 = .ok (.if_icmp .ge 15, 3) := by decide +kernel
theorem dX10_look_11 : decode cX10_look 11 = .ok (.aload_n 0, 1) := by decide +kernel
theorem dX10_look_12 : decode cX10_look 12 = .ok (.getfield 7, 3) := by decide +kernel
theorem dX10_look_15 : decode cX10_look 15 = .ok (.aload_n 0, 1) := by decide +kernel
theorem dX10_look_16 : decode cX10_look 16 = .ok (.getfield 78, 3) := by decide +kernel
theorem dX10_look_19 : decode cX10_look 19 = .ok (.iaload, 1) := by decide +kernel
theorem dX10_look_20 : decode cX10_look 20 = .ok (.goto 4, 3) := by decide +kernel
theorem dX10_look_23 : decode cX10_look 23 = .ok (.iconst (-1), 1) := by decide +kernel
theorem dX10_look_24 : decode cX10_look 24 = .ok (.ireturn, 1) := by decide +kernel
theorem dX10_skips_0 : decode cX10_skips 0 = .ok (.aload_n 0, 1) := by decide +kernel
theorem dX10_skips_1 : decode cX10_skips 1 = .ok (.getfield 81, 3) := by decide +kernel
theorem dX10_skips_4 : decode cX10_skips 4 = .ok (.ifCond .ne 25, 3) := by decide +kernel
theorem dX10_skips_7 : decode cX10_skips 7 = .ok (.aload_n 0, 1) := by decide +kernel
theorem dX10_skips_8 : decode cX10_skips 8 = .ok (.invokevirtual 84, 3) := by decide +kernel
theorem dX10_skips_11 : decode cX10_skips 11 = .ok (.bipush 32, 2) := by decide +kernel
theorem dX10_skips_13 : decode cX10_skips 13 = .ok (.if_icmp .ne 16, 3) := by decide +kernel
theorem dX10_skips_16 : decode cX10_skips 16 = .ok (.aload_n 0, 1) := by decide +kernel
theorem dX10_skips_17 : decode cX10_skips 17 = .ok (.dup, 1) := by decide +kernel
theorem dX10_skips_18 : decode cX10_skips 18 = .ok (.getfield 78, 3) := by decide +kernel
theorem dX10_skips_21 : decode cX10_skips 21 = .ok (.iconst 1, 1) := by decide +kernel
theorem dX10_skips_22 : decode cX10_skips 22 = .ok (.iadd, 1) := by decide +kernel
theorem dX10_skips_23 : decode cX10_skips 23 = .ok (.putfield 78, 3) := by decide +kernel
theorem dX10_skips_26 : decode cX10_skips 26 = .ok (.goto (-26), 3) := by decide +kernel
theorem dX10_skips_29 : decode cX10_skips 29 = .ok (.return_, 1) := by decide +kernel
theorem dX10_fails_0 : decode cX10_fails 0 = .ok (.aload_n 0, 1) := by decide +kernel
theorem dX10_fails_1 : decode cX10_fails 1 = .ok (.aload_n 0, 1) := by decide +kernel
theorem dX10_fails_2 : decode cX10_fails 2 = .ok (.getfield 81, 3) := by decide +kernel
theorem dX10_fails_5 : decode cX10_fails 5 = .ok (.ifCond .ne 7, 3) := by decide +kernel
theorem dX10_fails_8 : decode cX10_fails 8 = .ok (.iload_n 1, 1) := by decide +kernel
theorem dX10_fails_9 : decode cX10_fails 9 = .ok (.goto 7, 3) := by decide +kernel
theorem dX10_fails_12 : decode cX10_fails 12 = .ok (.aload_n 0, 1) := by decide +kernel
theorem dX10_fails_13 : decode cX10_fails 13 = .ok (.getfield 81, 3) := by decide +kernel
theorem dX10_fails_16 : decode cX10_fails 16 = .ok (.putfield 81, 3) := by decide +kernel
theorem dX10_fails_19 : decode cX10_fails 19 = .ok (.return_, 1) := by decide +kernel
theorem dX10_word_0 : decode cX10_word 0 = .ok (.aload_n 0, 1) := by decide +kernel
theorem dX10_word_1 : decode cX10_word 1 = .ok (.invokevirtual 88, 3) := by decide +kernel
theorem dX10_word_4 : decode cX10_word 4 = .ok (.aload_n 0, 1) := by decide +kernel
theorem dX10_word_5 : decode cX10_word 5 = .ok (.getfield 81, 3) := by decide +kernel
theorem dX10_word_8 : decode cX10_word 8 = .ok (.ifCond .ne 29, 3) := by decide +kernel
theorem dX10_word_11 : decode cX10_word 11 = .ok (.aload_n 0, 1) := by decide +kernel
theorem dX10_word_12 : decode cX10_word 12 = .ok (.invokevirtual 84, 3) := by decide +kernel
theorem dX10_word_15 : decode cX10_word 15 = .ok (.iload_n 1, 1) := by decide +kernel
theorem dX10_word_16 : decode cX10_word 16 = .ok (.if_icmp .ne 16, 3) := by decide +kernel
theorem dX10_word_19 : decode cX10_word 19 = .ok (.aload_n 0, 1) := by decide +kernel
theorem dX10_word_20 : decode cX10_word 20 = .ok (.dup, 1) := by decide +kernel
theorem dX10_word_21 : decode cX10_word 21 = .ok (.getfield 78, 3) := by decide +kernel
theorem dX10_word_24 : decode cX10_word 24 = .ok (.iconst 1, 1) := by decide +kernel
theorem dX10_word_25 : decode cX10_word 25 = .ok (.iadd, 1) := by decide +kernel
theorem dX10_word_26 : decode cX10_word 26 = .ok (.putfield 78, 3) := by decide +kernel
theorem dX10_word_29 : decode cX10_word 29 = .ok (.goto 8, 3) := by decide +kernel
theorem dX10_word_32 : decode cX10_word 32 = .ok (.aload_n 0, 1) := by decide +kernel
theorem dX10_word_33 : decode cX10_word 33 = .ok (.iconst 1, 1) := by decide +kernel
theorem dX10_word_34 : decode cX10_word 34 = .ok (.invokevirtual 91, 3) := by decide +kernel
theorem dX10_word_37 : decode cX10_word 37 = .ok (.return_, 1) := by decide +kernel
theorem dX10_number_0 : decode cX10_number 0 = .ok (.aload_n 0, 1) := by decide +kernel
theorem dX10_number_1 : decode cX10_number 1 = .ok (.invokevirtual 88, 3) := by decide +kernel
theorem dX10_number_4 : decode cX10_number 4 = .ok (.aload_n 0, 1) := by decide +kernel
theorem dX10_number_5 : decode cX10_number 5 = .ok (.getfield 81, 3) := by decide +kernel
theorem dX10_number_8 : decode cX10_number 8 = .ok (.ifCond .eq 5, 3) := by decide +kernel
theorem dX10_number_11 : decode cX10_number 11 = .ok (.iconst 0, 1) := by decide +kernel
theorem dX10_number_12 : decode cX10_number 12 = .ok (.ireturn, 1) := by decide +kernel
theorem dX10_number_13 : decode cX10_number 13 = .ok (.aload_n 0, 1) := by decide +kernel
theorem dX10_number_14 : decode cX10_number 14 = .ok (.invokevirtual 84, 3) := by decide +kernel
theorem dX10_number_17 : decode cX10_number 17 = .ok (.bipush 48, 2) := by decide +kernel
theorem dX10_number_19 : decode cX10_number 19 = .ok (.bipush 57, 2) := by decide +kernel
theorem dX10_number_21 : decode cX10_number 21 = .ok (.invokestatic 69, 3) := by decide +kernel
theorem dX10_number_24 : decode cX10_number 24 = .ok (.ifCond .ne 10, 3) := by decide +kernel
theorem dX10_number_27 : decode cX10_number 27 = .ok (.aload_n 0, 1) := by decide +kernel
theorem dX10_number_28 : decode cX10_number 28 = .ok (.iconst 1, 1) := by decide +kernel
theorem dX10_number_29 : decode cX10_number 29 = .ok (.invokevirtual 91, 3) := by decide +kernel
theorem dX10_number_32 : decode cX10_number 32 = .ok (.iconst 0, 1) := by decide +kernel
theorem dX10_number_33 : decode cX10_number 33 = .ok (.ireturn, 1) := by decide +kernel
theorem dX10_number_34 : decode cX10_number 34 = .ok (.aload_n 0, 1) := by decide +kernel
theorem dX10_number_35 : decode cX10_number 35 = .ok (.getfield 78, 3) := by decide +kernel
theorem dX10_number_38 : decode cX10_number 38 = .ok (.istore_n 3, 1) := by decide +kernel
theorem dX10_number_39 : decode cX10_number 39 = .ok (.iconst 0, 1) := by decide +kernel
theorem dX10_number_40 : decode cX10_number 40 = .ok (.istore 4, 2) := by decide +kernel
theorem dX10_number_42 : decode cX10_number 42 = .ok (.aload_n 0, 1) := by decide +kernel
theorem dX10_number_43 : decode cX10_number 43 = .ok (.invokevirtual 84, 3) := by decide +kernel
theorem dX10_number_46 : decode cX10_number 46 = .ok (.bipush 48, 2) := by decide +kernel
theorem dX10_number_48 : decode cX10_number 48 = .ok (.bipush 57, 2) := by decide +kernel
theorem dX10_number_50 : decode cX10_number 50 = .ok (.invokestatic 69, 3) := by decide +kernel
theorem dX10_number_53 : decode cX10_number 53 = .ok (.ifCond .eq 46, 3) := by decide +kernel
theorem dX10_number_56 : decode cX10_number 56 = .ok (.aload_n 0, 1) := by decide +kernel
theorem dX10_number_57 : decode cX10_number 57 = .ok (.getfield 78, 3) := by decide +kernel
theorem dX10_number_60 : decode cX10_number 60 = .ok (.iload_n 3, 1) := by decide +kernel
theorem dX10_number_61 : decode cX10_number 61 = .ok (.isub, 1) := by decide +kernel
theorem dX10_number_62 : decode cX10_number 62 = .ok (.iconst 3, 1) := by decide +kernel
theorem dX10_number_63 : decode cX10_number 63 = .ok (.if_icmp .ge 19, 3) := by decide +kernel
theorem dX10_number_66 : decode cX10_number 66 = .ok (.bipush 10, 2) := by decide +kernel
theorem dX10_number_68 : decode cX10_number 68 = .ok (.iload 4, 2) := by decide +kernel
theorem dX10_number_70 : decode cX10_number 70 = .ok (.imul, 1) := by decide +kernel
theorem dX10_number_71 : decode cX10_number 71 = .ok (.aload_n 0, 1) := by decide +kernel
theorem dX10_number_72 : decode cX10_number 72 = .ok (.invokevirtual 84, 3) := by decide +kernel
theorem dX10_number_75 : decode cX10_number 75 = .ok (.iadd, 1) := by decide +kernel
theorem dX10_number_76 : decode cX10_number 76 = .ok (.bipush 48, 2) := by decide +kernel
theorem dX10_number_78 : decode cX10_number 78 = .ok (.isub, 1) := by decide +kernel
theorem dX10_number_79 : decode cX10_number 79 = .ok (.goto 5, 3) := by decide +kernel
theorem dX10_number_82 : decode cX10_number 82 = .ok (.iload 4, 2) := by decide +kernel
theorem dX10_number_84 : decode cX10_number 84 = .ok (.istore 4, 2) := by decide +kernel
theorem dX10_number_86 : decode cX10_number 86 = .ok (.aload_n 0, 1) := by decide +kernel
theorem dX10_number_87 : decode cX10_number 87 = .ok (.dup, 1) := by decide +kernel
theorem dX10_number_88 : decode cX10_number 88 = .ok (.getfield 78, 3) := by decide +kernel
theorem dX10_number_91 : decode cX10_number 91 = .ok (.iconst 1, 1) := by decide +kernel
theorem dX10_number_92 : decode cX10_number 92 = .ok (.iadd, 1) := by decide +kernel
theorem dX10_number_93 : decode cX10_number 93 = .ok (.putfield 78, 3) := by decide +kernel
theorem dX10_number_96 : decode cX10_number 96 = .ok (.goto (-54), 3) := by decide +kernel
theorem dX10_number_99 : decode cX10_number 99 = .ok (.aload_n 0, 1) := by decide +kernel
theorem dX10_number_100 : decode cX10_number 100 = .ok (.getfield 78, 3) := by decide +kernel
theorem dX10_number_103 : decode cX10_number 103 = .ok (.iload_n 3, 1) := by decide +kernel
theorem dX10_number_104 : decode cX10_number 104 = .ok (.isub, 1) := by decide +kernel
theorem dX10_number_105 : decode cX10_number 105 = .ok (.iconst 3, 1) := by decide +kernel
theorem dX10_number_106 : decode cX10_number 106 = .ok (.if_icmp .gt 13, 3) := by decide +kernel
theorem dX10_number_109 : decode cX10_number 109 = .ok (.iload 4, 2) := by decide +kernel
theorem dX10_number_111 : decode cX10_number 111 = .ok (.iload_n 1, 1) := by decide +kernel
theorem dX10_number_112 : decode cX10_number 112 = .ok (.iload_n 2, 1) := by decide +kernel
theorem dX10_number_113 : decode cX10_number 113 = .ok (.invokestatic 69, 3) := by decide +kernel
theorem dX10_number_116 : decode cX10_number 116 = .ok (.ifCond .ne 13, 3) := by decide +kernel
theorem dX10_number_119 : decode cX10_number 119 = .ok (.aload_n 0, 1) := by decide +kernel
theorem dX10_number_120 : decode cX10_number 120 = .ok (.iload_n 3, 1) := by decide +kernel
theorem dX10_number_121 : decode cX10_number 121 = .ok (.putfield 78, 3) := by decide +kernel
theorem dX10_number_124 : decode cX10_number 124 = .ok (.aload_n 0, 1) := by decide +kernel
theorem dX10_number_125 : decode cX10_number 125 = .ok (.iconst 2, 1) := by decide +kernel
theorem dX10_number_126 : decode cX10_number 126 = .ok (.invokevirtual 91, 3) := by decide +kernel
theorem dX10_number_129 : decode cX10_number 129 = .ok (.iload 4, 2) := by decide +kernel
theorem dX10_number_131 : decode cX10_number 131 = .ok (.ireturn, 1) := by decide +kernel
theorem dX10_readsLaw_0 : decode cX10_readsLaw 0 = .ok (.aload_n 0, 1) := by decide +kernel
theorem dX10_readsLaw_1 : decode cX10_readsLaw 1 = .ok (.getfield 95, 3) := by decide +kernel
theorem dX10_readsLaw_4 : decode cX10_readsLaw 4 = .ok (.ifCond .eq 9, 3) := by decide +kernel
theorem dX10_readsLaw_7 : decode cX10_readsLaw 7 = .ok (.aload_n 0, 1) := by decide +kernel
theorem dX10_readsLaw_8 : decode cX10_readsLaw 8 = .ok (.iconst 3, 1) := by decide +kernel
theorem dX10_readsLaw_9 : decode cX10_readsLaw 9 = .ok (.invokevirtual 91, 3) := by decide +kernel
theorem dX10_readsLaw_12 : decode cX10_readsLaw 12 = .ok (.return_, 1) := by decide +kernel
theorem dX10_readsLaw_13 : decode cX10_readsLaw 13 = .ok (.aload_n 0, 1) := by decide +kernel
theorem dX10_readsLaw_14 : decode cX10_readsLaw 14 = .ok (.dup, 1) := by decide +kernel
theorem dX10_readsLaw_15 : decode cX10_readsLaw 15 = .ok (.getfield 78, 3) := by decide +kernel
theorem dX10_readsLaw_18 : decode cX10_readsLaw 18 = .ok (.iconst 1, 1) := by decide +kernel
theorem dX10_readsLaw_19 : decode cX10_readsLaw 19 = .ok (.iadd, 1) := by decide +kernel
theorem dX10_readsLaw_20 : decode cX10_readsLaw 20 = .ok (.putfield 78, 3) := by decide +kernel
theorem dX10_readsLaw_23 : decode cX10_readsLaw 23 = .ok (.aload_n 0, 1) := by decide +kernel
theorem dX10_readsLaw_24 : decode cX10_readsLaw 24 = .ok (.iconst 1, 1) := by decide +kernel
theorem dX10_readsLaw_25 : decode cX10_readsLaw 25 = .ok (.putfield 95, 3) := by decide +kernel
theorem dX10_readsLaw_28 : decode cX10_readsLaw 28 = .ok (.aload_n 0, 1) := by decide +kernel
theorem dX10_readsLaw_29 : decode cX10_readsLaw 29 = .ok (.getfield 29, 3) := by decide +kernel
theorem dX10_readsLaw_32 : decode cX10_readsLaw 32 = .ok (.iconst 0, 1) := by decide +kernel
theorem dX10_readsLaw_33 : decode cX10_readsLaw 33 = .ok (.aload_n 0, 1) := by decide +kernel
theorem dX10_readsLaw_34 : decode cX10_readsLaw 34 = .ok (.iconst 1, 1) := by decide +kernel
theorem dX10_readsLaw_35 : decode cX10_readsLaw 35 = .ok (.bipush 60, 2) := by decide +kernel
theorem dX10_readsLaw_37 : decode cX10_readsLaw 37 = .ok (.invokevirtual 99, 3) := by decide +kernel
theorem dX10_readsLaw_40 : decode cX10_readsLaw 40 = .ok (.iastore, 1) := by decide +kernel
theorem dX10_readsLaw_41 : decode cX10_readsLaw 41 = .ok (.aload_n 0, 1) := by decide +kernel
theorem dX10_readsLaw_42 : decode cX10_readsLaw 42 = .ok (.getfield 29, 3) := by decide +kernel
theorem dX10_readsLaw_45 : decode cX10_readsLaw 45 = .ok (.iconst 1, 1) := by decide +kernel
theorem dX10_readsLaw_46 : decode cX10_readsLaw 46 = .ok (.aload_n 0, 1) := by decide +kernel
theorem dX10_readsLaw_47 : decode cX10_readsLaw 47 = .ok (.iconst 0, 1) := by decide +kernel
theorem dX10_readsLaw_48 : decode cX10_readsLaw 48 = .ok (.bipush 40, 2) := by decide +kernel
theorem dX10_readsLaw_50 : decode cX10_readsLaw 50 = .ok (.invokevirtual 99, 3) := by decide +kernel
theorem dX10_readsLaw_53 : decode cX10_readsLaw 53 = .ok (.iastore, 1) := by decide +kernel
theorem dX10_readsLaw_54 : decode cX10_readsLaw 54 = .ok (.aload_n 0, 1) := by decide +kernel
theorem dX10_readsLaw_55 : decode cX10_readsLaw 55 = .ok (.getfield 29, 3) := by decide +kernel
theorem dX10_readsLaw_58 : decode cX10_readsLaw 58 = .ok (.iconst 2, 1) := by decide +kernel
theorem dX10_readsLaw_59 : decode cX10_readsLaw 59 = .ok (.aload_n 0, 1) := by decide +kernel
theorem dX10_readsLaw_60 : decode cX10_readsLaw 60 = .ok (.iconst 1, 1) := by decide +kernel
theorem dX10_readsLaw_61 : decode cX10_readsLaw 61 = .ok (.bipush 50, 2) := by decide +kernel
theorem dX10_readsLaw_63 : decode cX10_readsLaw 63 = .ok (.invokevirtual 99, 3) := by decide +kernel
theorem dX10_readsLaw_66 : decode cX10_readsLaw 66 = .ok (.iastore, 1) := by decide +kernel
theorem dX10_readsLaw_67 : decode cX10_readsLaw 67 = .ok (.aload_n 0, 1) := by decide +kernel
theorem dX10_readsLaw_68 : decode cX10_readsLaw 68 = .ok (.bipush 59, 2) := by decide +kernel
theorem dX10_readsLaw_70 : decode cX10_readsLaw 70 = .ok (.invokevirtual 103, 3) := by decide +kernel
theorem dX10_readsLaw_73 : decode cX10_readsLaw 73 = .ok (.return_, 1) := by decide +kernel
theorem dX10_readsGaps_0 : decode cX10_readsGaps 0 = .ok (.aload_n 0, 1) := by decide +kernel
theorem dX10_readsGaps_1 : decode cX10_readsGaps 1 = .ok (.getfield 29, 3) := by decide +kernel
theorem dX10_readsGaps_4 : decode cX10_readsGaps 4 = .ok (.iconst 3, 1) := by decide +kernel
theorem dX10_readsGaps_5 : decode cX10_readsGaps 5 = .ok (.iaload, 1) := by decide +kernel
theorem dX10_readsGaps_6 : decode cX10_readsGaps 6 = .ok (.ifCond .le 9, 3) := by decide +kernel
theorem dX10_readsGaps_9 : decode cX10_readsGaps 9 = .ok (.aload_n 0, 1) := by decide +kernel
theorem dX10_readsGaps_10 : decode cX10_readsGaps 10 = .ok (.iconst 3, 1) := by decide +kernel
theorem dX10_readsGaps_11 : decode cX10_readsGaps 11 = .ok (.invokevirtual 91, 3) := by decide +kernel
theorem dX10_readsGaps_14 : decode cX10_readsGaps 14 = .ok (.return_, 1) := by decide +kernel
theorem dX10_readsGaps_15 : decode cX10_readsGaps 15 = .ok (.aload_n 0, 1) := by decide +kernel
theorem dX10_readsGaps_16 : decode cX10_readsGaps 16 = .ok (.dup, 1) := by decide +kernel
theorem dX10_readsGaps_17 : decode cX10_readsGaps 17 = .ok (.getfield 78, 3) := by decide +kernel
theorem dX10_readsGaps_20 : decode cX10_readsGaps 20 = .ok (.iconst 1, 1) := by decide +kernel
theorem dX10_readsGaps_21 : decode cX10_readsGaps 21 = .ok (.iadd, 1) := by decide +kernel
theorem dX10_readsGaps_22 : decode cX10_readsGaps 22 = .ok (.putfield 78, 3) := by decide +kernel
theorem dX10_readsGaps_25 : decode cX10_readsGaps 25 = .ok (.aload_n 0, 1) := by decide +kernel
theorem dX10_readsGaps_26 : decode cX10_readsGaps 26 = .ok (.getfield 32, 3) := by decide +kernel
theorem dX10_readsGaps_29 : decode cX10_readsGaps 29 = .ok (.iconst 0, 1) := by decide +kernel
theorem dX10_readsGaps_30 : decode cX10_readsGaps 30 = .ok (.aload_n 0, 1) := by decide +kernel
theorem dX10_readsGaps_31 : decode cX10_readsGaps 31 = .ok (.iconst 1, 1) := by decide +kernel
theorem dX10_readsGaps_32 : decode cX10_readsGaps 32 = .ok (.bipush 60, 2) := by decide +kernel
theorem dX10_readsGaps_34 : decode cX10_readsGaps 34 = .ok (.invokevirtual 99, 3) := by decide +kernel
theorem dX10_readsGaps_37 : decode cX10_readsGaps 37 = .ok (.iastore, 1) := by decide +kernel
theorem dX10_readsGaps_38 : decode cX10_readsGaps 38 = .ok (.aload_n 0, 1) := by decide +kernel
theorem dX10_readsGaps_39 : decode cX10_readsGaps 39 = .ok (.getfield 29, 3) := by decide +kernel
theorem dX10_readsGaps_42 : decode cX10_readsGaps 42 = .ok (.iconst 3, 1) := by decide +kernel
theorem dX10_readsGaps_43 : decode cX10_readsGaps 43 = .ok (.iconst 1, 1) := by decide +kernel
theorem dX10_readsGaps_44 : decode cX10_readsGaps 44 = .ok (.iastore, 1) := by decide +kernel
theorem dX10_readsGaps_45 : decode cX10_readsGaps 45 = .ok (.aload_n 0, 1) := by decide +kernel
theorem dX10_readsGaps_46 : decode cX10_readsGaps 46 = .ok (.invokevirtual 88, 3) := by decide +kernel
theorem dX10_readsGaps_49 : decode cX10_readsGaps 49 = .ok (.aload_n 0, 1) := by decide +kernel
theorem dX10_readsGaps_50 : decode cX10_readsGaps 50 = .ok (.getfield 81, 3) := by decide +kernel
theorem dX10_readsGaps_53 : decode cX10_readsGaps 53 = .ok (.ifCond .ne 76, 3) := by decide +kernel
theorem dX10_readsGaps_56 : decode cX10_readsGaps 56 = .ok (.aload_n 0, 1) := by decide +kernel
theorem dX10_readsGaps_57 : decode cX10_readsGaps 57 = .ok (.invokevirtual 84, 3) := by decide +kernel
theorem dX10_readsGaps_60 : decode cX10_readsGaps 60 = .ok (.bipush 44, 2) := by decide +kernel
theorem dX10_readsGaps_62 : decode cX10_readsGaps 62 = .ok (.if_icmp .ne 67, 3) := by decide +kernel
theorem dX10_readsGaps_65 : decode cX10_readsGaps 65 = .ok (.aload_n 0, 1) := by decide +kernel
theorem dX10_readsGaps_66 : decode cX10_readsGaps 66 = .ok (.getfield 29, 3) := by decide +kernel
theorem dX10_readsGaps_69 : decode cX10_readsGaps 69 = .ok (.iconst 3, 1) := by decide +kernel
theorem dX10_readsGaps_70 : decode cX10_readsGaps 70 = .ok (.iaload, 1) := by decide +kernel
theorem dX10_readsGaps_71 : decode cX10_readsGaps 71 = .ok (.bipush 8, 2) := by decide +kernel
theorem dX10_readsGaps_73 : decode cX10_readsGaps 73 = .ok (.if_icmp .ne 11, 3) := by decide +kernel
theorem dX10_readsGaps_76 : decode cX10_readsGaps 76 = .ok (.aload_n 0, 1) := by decide +kernel
theorem dX10_readsGaps_77 : decode cX10_readsGaps 77 = .ok (.iconst 1, 1) := by decide +kernel
theorem dX10_readsGaps_78 : decode cX10_readsGaps 78 = .ok (.invokevirtual 91, 3) := by decide +kernel
theorem dX10_readsGaps_81 : decode cX10_readsGaps 81 = .ok (.goto 41, 3) := by decide +kernel
theorem dX10_readsGaps_84 : decode cX10_readsGaps 84 = .ok (.aload_n 0, 1) := by decide +kernel
theorem dX10_readsGaps_85 : decode cX10_readsGaps 85 = .ok (.dup, 1) := by decide +kernel
theorem dX10_readsGaps_86 : decode cX10_readsGaps 86 = .ok (.getfield 78, 3) := by decide +kernel
theorem dX10_readsGaps_89 : decode cX10_readsGaps 89 = .ok (.iconst 1, 1) := by decide +kernel
theorem dX10_readsGaps_90 : decode cX10_readsGaps 90 = .ok (.iadd, 1) := by decide +kernel
theorem dX10_readsGaps_91 : decode cX10_readsGaps 91 = .ok (.putfield 78, 3) := by decide +kernel
theorem dX10_readsGaps_94 : decode cX10_readsGaps 94 = .ok (.aload_n 0, 1) := by decide +kernel
theorem dX10_readsGaps_95 : decode cX10_readsGaps 95 = .ok (.getfield 32, 3) := by decide +kernel
theorem dX10_readsGaps_98 : decode cX10_readsGaps 98 = .ok (.aload_n 0, 1) := by decide +kernel
theorem dX10_readsGaps_99 : decode cX10_readsGaps 99 = .ok (.getfield 29, 3) := by decide +kernel
theorem dX10_readsGaps_102 : decode cX10_readsGaps 102 = .ok (.iconst 3, 1) := by decide +kernel
theorem dX10_readsGaps_103 : decode cX10_readsGaps 103 = .ok (.iaload, 1) := by decide +kernel
theorem dX10_readsGaps_104 : decode cX10_readsGaps 104 = .ok (.aload_n 0, 1) := by decide +kernel
theorem dX10_readsGaps_105 : decode cX10_readsGaps 105 = .ok (.iconst 1, 1) := by decide +kernel
theorem dX10_readsGaps_106 : decode cX10_readsGaps 106 = .ok (.bipush 60, 2) := by decide +kernel
theorem dX10_readsGaps_108 : decode cX10_readsGaps 108 = .ok (.invokevirtual 99, 3) := by decide +kernel
theorem dX10_readsGaps_111 : decode cX10_readsGaps 111 = .ok (.iastore, 1) := by decide +kernel
theorem dX10_readsGaps_112 : decode cX10_readsGaps 112 = .ok (.aload_n 0, 1) := by decide +kernel
theorem dX10_readsGaps_113 : decode cX10_readsGaps 113 = .ok (.getfield 29, 3) := by decide +kernel
theorem dX10_readsGaps_116 : decode cX10_readsGaps 116 = .ok (.iconst 3, 1) := by decide +kernel
theorem dX10_readsGaps_117 : decode cX10_readsGaps 117 = .ok (.dup2, 1) := by decide +kernel
theorem dX10_readsGaps_118 : decode cX10_readsGaps 118 = .ok (.iaload, 1) := by decide +kernel
theorem dX10_readsGaps_119 : decode cX10_readsGaps 119 = .ok (.iconst 1, 1) := by decide +kernel
theorem dX10_readsGaps_120 : decode cX10_readsGaps 120 = .ok (.iadd, 1) := by decide +kernel
theorem dX10_readsGaps_121 : decode cX10_readsGaps 121 = .ok (.iastore, 1) := by decide +kernel
theorem dX10_readsGaps_122 : decode cX10_readsGaps 122 = .ok (.aload_n 0, 1) := by decide +kernel
theorem dX10_readsGaps_123 : decode cX10_readsGaps 123 = .ok (.invokevirtual 88, 3) := by decide +kernel
theorem dX10_readsGaps_126 : decode cX10_readsGaps 126 = .ok (.goto (-77), 3) := by decide +kernel
theorem dX10_readsGaps_129 : decode cX10_readsGaps 129 = .ok (.aload_n 0, 1) := by decide +kernel
theorem dX10_readsGaps_130 : decode cX10_readsGaps 130 = .ok (.bipush 59, 2) := by decide +kernel
theorem dX10_readsGaps_132 : decode cX10_readsGaps 132 = .ok (.invokevirtual 103, 3) := by decide +kernel
theorem dX10_readsGaps_135 : decode cX10_readsGaps 135 = .ok (.return_, 1) := by decide +kernel
theorem dX10_readsWalker_0 : decode cX10_readsWalker 0 = .ok (.aload_n 0, 1) := by decide +kernel
theorem dX10_readsWalker_1 : decode cX10_readsWalker 1 = .ok (.getfield 29, 3) := by decide +kernel
theorem dX10_readsWalker_4 : decode cX10_readsWalker 4 = .ok (.iconst 4, 1) := by decide +kernel
theorem dX10_readsWalker_5 : decode cX10_readsWalker 5 = .ok (.iaload, 1) := by decide +kernel
theorem dX10_readsWalker_6 : decode cX10_readsWalker 6 = .ok (.istore_n 1, 1) := by decide +kernel
theorem dX10_readsWalker_7 : decode cX10_readsWalker 7 = .ok (.iload_n 1, 1) := by decide +kernel
theorem dX10_readsWalker_8 : decode cX10_readsWalker 8 = .ok (.iconst 4, 1) := by decide +kernel
theorem dX10_readsWalker_9 : decode cX10_readsWalker 9 = .ok (.if_icmp .ne 9, 3) := by decide +kernel
theorem dX10_readsWalker_12 : decode cX10_readsWalker 12 = .ok (.aload_n 0, 1) := by decide +kernel
theorem dX10_readsWalker_13 : decode cX10_readsWalker 13 = .ok (.iconst 3, 1) := by decide +kernel
theorem dX10_readsWalker_14 : decode cX10_readsWalker 14 = .ok (.invokevirtual 91, 3) := by decide +kernel
theorem dX10_readsWalker_17 : decode cX10_readsWalker 17 = .ok (.return_, 1) := by decide +kernel
theorem dX10_readsWalker_18 : decode cX10_readsWalker 18 = .ok (.aload_n 0, 1) := by decide +kernel
theorem dX10_readsWalker_19 : decode cX10_readsWalker 19 = .ok (.dup, 1) := by decide +kernel
theorem dX10_readsWalker_20 : decode cX10_readsWalker 20 = .ok (.getfield 78, 3) := by decide +kernel
theorem dX10_readsWalker_23 : decode cX10_readsWalker 23 = .ok (.iconst 1, 1) := by decide +kernel
theorem dX10_readsWalker_24 : decode cX10_readsWalker 24 = .ok (.iadd, 1) := by decide +kernel
theorem dX10_readsWalker_25 : decode cX10_readsWalker 25 = .ok (.putfield 78, 3) := by decide +kernel
theorem dX10_readsWalker_28 : decode cX10_readsWalker 28 = .ok (.aload_n 0, 1) := by decide +kernel
theorem dX10_readsWalker_29 : decode cX10_readsWalker 29 = .ok (.getfield 35, 3) := by decide +kernel
theorem dX10_readsWalker_32 : decode cX10_readsWalker 32 = .ok (.iload_n 1, 1) := by decide +kernel
theorem dX10_readsWalker_33 : decode cX10_readsWalker 33 = .ok (.aload_n 0, 1) := by decide +kernel
theorem dX10_readsWalker_34 : decode cX10_readsWalker 34 = .ok (.iconst 0, 1) := by decide +kernel
theorem dX10_readsWalker_35 : decode cX10_readsWalker 35 = .ok (.aload_n 0, 1) := by decide +kernel
theorem dX10_readsWalker_36 : decode cX10_readsWalker 36 = .ok (.getfield 29, 3) := by decide +kernel
theorem dX10_readsWalker_39 : decode cX10_readsWalker 39 = .ok (.iconst 3, 1) := by decide +kernel
theorem dX10_readsWalker_40 : decode cX10_readsWalker 40 = .ok (.iaload, 1) := by decide +kernel
theorem dX10_readsWalker_41 : decode cX10_readsWalker 41 = .ok (.ifCond .ne 7, 3) := by decide +kernel
theorem dX10_readsWalker_44 : decode cX10_readsWalker 44 = .ok (.iconst (-1), 1) := by decide +kernel
theorem dX10_readsWalker_45 : decode cX10_readsWalker 45 = .ok (.goto 9, 3) := by decide +kernel
theorem dX10_readsWalker_48 : decode cX10_readsWalker 48 = .ok (.aload_n 0, 1) := by decide +kernel
theorem dX10_readsWalker_49 : decode cX10_readsWalker 49 = .ok (.getfield 29, 3) := by decide +kernel
theorem dX10_readsWalker_52 : decode cX10_readsWalker 52 = .ok (.iconst 3, 1) := by decide +kernel
theorem dX10_readsWalker_53 : decode cX10_readsWalker 53 = .ok (.iaload, 1) := by decide +kernel
theorem dX10_readsWalker_54 : decode cX10_readsWalker 54 = .ok (.invokevirtual 99, 3) := by decide +kernel
theorem dX10_readsWalker_57 : decode cX10_readsWalker 57 = .ok (.iastore, 1) := by decide +kernel
theorem dX10_readsWalker_58 : decode cX10_readsWalker 58 = .ok (.aload_n 0, 1) := by decide +kernel
theorem dX10_readsWalker_59 : decode cX10_readsWalker 59 = .ok (.getfield 38, 3) := by decide +kernel
theorem dX10_readsWalker_62 : decode cX10_readsWalker 62 = .ok (.iload_n 1, 1) := by decide +kernel
theorem dX10_readsWalker_63 : decode cX10_readsWalker 63 = .ok (.aload_n 0, 1) := by decide +kernel
theorem dX10_readsWalker_64 : decode cX10_readsWalker 64 = .ok (.iconst 1, 1) := by decide +kernel
