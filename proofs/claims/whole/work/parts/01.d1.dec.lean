theorem dX6_readRope_56 : decode cX6_readRope 56 = .ok (.aload_n 0, 1) := by decide +kernel
theorem dX6_readRope_57 : decode cX6_readRope 57 = .ok (.invokevirtual 68, 3) := by decide +kernel
theorem dX6_readRope_60 : decode cX6_readRope 60 = .ok (.aload_n 0, 1) := by decide +kernel
theorem dX6_readRope_61 : decode cX6_readRope 61 = .ok (.invokevirtual 31, 3) := by decide +kernel
theorem dX6_readRope_64 : decode cX6_readRope 64 = .ok (.ifCond .ne 8, 3) := by decide +kernel
theorem dX6_readRope_67 : decode cX6_readRope 67 = .ok (.aload_n 1, 1) := by decide +kernel
theorem dX6_readRope_68 : decode cX6_readRope 68 = .ok (.iload_n 3, 1) := by decide +kernel
theorem dX6_readRope_69 : decode cX6_readRope 69 = .ok (.invokevirtual 94, 3) := by decide +kernel
theorem dX6_readRope_72 : decode cX6_readRope 72 = .ok (.return_, 1) := by decide +kernel
theorem dX6_readEnd_0 : decode cX6_readEnd 0 = .ok (.aload_n 0, 1) := by decide +kernel
theorem dX6_readEnd_1 : decode cX6_readEnd 1 = .ok (.invokevirtual 28, 3) := by decide +kernel
theorem dX6_readEnd_4 : decode cX6_readEnd 4 = .ok (.aload_n 0, 1) := by decide +kernel
theorem dX6_readEnd_5 : decode cX6_readEnd 5 = .ok (.invokevirtual 39, 3) := by decide +kernel
theorem dX6_readEnd_8 : decode cX6_readEnd 8 = .ok (.bipush 59, 2) := by decide +kernel
theorem dX6_readEnd_10 : decode cX6_readEnd 10 = .ok (.if_icmp .ne 16, 3) := by decide +kernel
theorem dX6_readEnd_13 : decode cX6_readEnd 13 = .ok (.aload_n 0, 1) := by decide +kernel
theorem dX6_readEnd_14 : decode cX6_readEnd 14 = .ok (.dup, 1) := by decide +kernel
theorem dX6_readEnd_15 : decode cX6_readEnd 15 = .ok (.getfield 25, 3) := by decide +kernel
theorem dX6_readEnd_18 : decode cX6_readEnd 18 = .ok (.iconst 1, 1) := by decide +kernel
theorem dX6_readEnd_19 : decode cX6_readEnd 19 = .ok (.iadd, 1) := by decide +kernel
theorem dX6_readEnd_20 : decode cX6_readEnd 20 = .ok (.putfield 25, 3) := by decide +kernel
theorem dX6_readEnd_23 : decode cX6_readEnd 23 = .ok (.goto 12, 3) := by decide +kernel
theorem dX6_readEnd_26 : decode cX6_readEnd 26 = .ok (.aload_n 0, 1) := by decide +kernel
theorem dX6_readEnd_27 : decode cX6_readEnd 27 = .ok (.iconst 1, 1) := by decide +kernel
theorem dX6_readEnd_28 : decode cX6_readEnd 28 = .ok (.aload_n 0, 1) := by decide +kernel
theorem dX6_readEnd_29 : decode cX6_readEnd 29 = .ok (.getfield 25, 3) := by decide +kernel
theorem dX6_readEnd_32 : decode cX6_readEnd 32 = .ok (.invokevirtual 48, 3) := by decide +kernel
theorem dX6_readEnd_35 : decode cX6_readEnd 35 = .ok (.return_, 1) := by decide +kernel
theorem dX6_readNumber_0 : decode cX6_readNumber 0 = .ok (.aload_n 0, 1) := by decide +kernel
theorem dX6_readNumber_1 : decode cX6_readNumber 1 = .ok (.invokevirtual 28, 3) := by decide +kernel
theorem dX6_readNumber_4 : decode cX6_readNumber 4 = .ok (.aload_n 0, 1) := by decide +kernel
theorem dX6_readNumber_5 : decode cX6_readNumber 5 = .ok (.getfield 25, 3) := by decide +kernel
theorem dX6_readNumber_8 : decode cX6_readNumber 8 = .ok (.istore_n 3, 1) := by decide +kernel
theorem dX6_readNumber_9 : decode cX6_readNumber 9 = .ok (.iconst 0, 1) := by decide +kernel
theorem dX6_readNumber_10 : decode cX6_readNumber 10 = .ok (.istore 4, 2) := by decide +kernel
theorem dX6_readNumber_12 : decode cX6_readNumber 12 = .ok (.aload_n 0, 1) := by decide +kernel
theorem dX6_readNumber_13 : decode cX6_readNumber 13 = .ok (.getfield 25, 3) := by decide +kernel
theorem dX6_readNumber_16 : decode cX6_readNumber 16 = .ok (.aload_n 0, 1) := by decide +kernel
theorem dX6_readNumber_17 : decode cX6_readNumber 17 = .ok (.getfield 22, 3) := by decide +kernel
theorem dX6_readNumber_20 : decode cX6_readNumber 20 = .ok (.if_icmp .ge 56, 3) := by decide +kernel
theorem dX6_readNumber_23 : decode cX6_readNumber 23 = .ok (.aload_n 0, 1) := by decide +kernel
theorem dX6_readNumber_24 : decode cX6_readNumber 24 = .ok (.invokevirtual 39, 3) := by decide +kernel
theorem dX6_readNumber_27 : decode cX6_readNumber 27 = .ok (.invokestatic 97, 3) := by decide +kernel
theorem dX6_readNumber_30 : decode cX6_readNumber 30 = .ok (.ifCond .eq 46, 3) := by decide +kernel
theorem dX6_readNumber_33 : decode cX6_readNumber 33 = .ok (.aload_n 0, 1) := by decide +kernel
theorem dX6_readNumber_34 : decode cX6_readNumber 34 = .ok (.getfield 25, 3) := by decide +kernel
theorem dX6_readNumber_37 : decode cX6_readNumber 37 = .ok (.iload_n 3, 1) := by decide +kernel
theorem dX6_readNumber_38 : decode cX6_readNumber 38 = .ok (.isub, 1) := by decide +kernel
theorem dX6_readNumber_39 : decode cX6_readNumber 39 = .ok (.iconst 3, 1) := by decide +kernel
theorem dX6_readNumber_40 : decode cX6_readNumber 40 = .ok (.if_icmp .ge 19, 3) := by decide +kernel
theorem dX6_readNumber_43 : decode cX6_readNumber 43 = .ok (.iload 4, 2) := by decide +kernel
theorem dX6_readNumber_45 : decode cX6_readNumber 45 = .ok (.bipush 10, 2) := by decide +kernel
theorem dX6_readNumber_47 : decode cX6_readNumber 47 = .ok (.imul, 1) := by decide +kernel
theorem dX6_readNumber_48 : decode cX6_readNumber 48 = .ok (.aload_n 0, 1) := by decide +kernel
theorem dX6_readNumber_49 : decode cX6_readNumber 49 = .ok (.invokevirtual 39, 3) := by decide +kernel
theorem dX6_readNumber_52 : decode cX6_readNumber 52 = .ok (.iadd, 1) := by decide +kernel
theorem dX6_readNumber_53 : decode cX6_readNumber 53 = .ok (.bipush 48, 2) := by decide +kernel
theorem dX6_readNumber_55 : decode cX6_readNumber 55 = .ok (.isub, 1) := by decide +kernel
theorem dX6_readNumber_56 : decode cX6_readNumber 56 = .ok (.goto 5, 3) := by decide +kernel
theorem dX6_readNumber_59 : decode cX6_readNumber 59 = .ok (.iload 4, 2) := by decide +kernel
theorem dX6_readNumber_61 : decode cX6_readNumber 61 = .ok (.istore 4, 2) := by decide +kernel
theorem dX6_readNumber_63 : decode cX6_readNumber 63 = .ok (.aload_n 0, 1) := by decide +kernel
theorem dX6_readNumber_64 : decode cX6_readNumber 64 = .ok (.dup, 1) := by decide +kernel
theorem dX6_readNumber_65 : decode cX6_readNumber 65 = .ok (.getfield 25, 3) := by decide +kernel
theorem dX6_readNumber_68 : decode cX6_readNumber 68 = .ok (.iconst 1, 1) := by decide +kernel
theorem dX6_readNumber_69 : decode cX6_readNumber 69 = .ok (.iadd, 1) := by decide +kernel
theorem dX6_readNumber_70 : decode cX6_readNumber 70 = .ok (.putfield 25, 3) := by decide +kernel
theorem dX6_readNumber_73 : decode cX6_readNumber 73 = .ok (.goto (-61), 3) := by decide +kernel
theorem dX6_readNumber_76 : decode cX6_readNumber 76 = .ok (.aload_n 0, 1) := by decide +kernel
theorem dX6_readNumber_77 : decode cX6_readNumber 77 = .ok (.getfield 25, 3) := by decide +kernel
theorem dX6_readNumber_80 : decode cX6_readNumber 80 = .ok (.iload_n 3, 1) := by decide +kernel
theorem dX6_readNumber_81 : decode cX6_readNumber 81 = .ok (.if_icmp .ne 12, 3) := by decide +kernel
theorem dX6_readNumber_84 : decode cX6_readNumber 84 = .ok (.aload_n 0, 1) := by decide +kernel
theorem dX6_readNumber_85 : decode cX6_readNumber 85 = .ok (.iconst 1, 1) := by decide +kernel
theorem dX6_readNumber_86 : decode cX6_readNumber 86 = .ok (.iload_n 3, 1) := by decide +kernel
theorem dX6_readNumber_87 : decode cX6_readNumber 87 = .ok (.invokevirtual 48, 3) := by decide +kernel
theorem dX6_readNumber_90 : decode cX6_readNumber 90 = .ok (.goto 31, 3) := by decide +kernel
theorem dX6_readNumber_93 : decode cX6_readNumber 93 = .ok (.aload_n 0, 1) := by decide +kernel
theorem dX6_readNumber_94 : decode cX6_readNumber 94 = .ok (.getfield 25, 3) := by decide +kernel
theorem dX6_readNumber_97 : decode cX6_readNumber 97 = .ok (.iload_n 3, 1) := by decide +kernel
theorem dX6_readNumber_98 : decode cX6_readNumber 98 = .ok (.isub, 1) := by decide +kernel
theorem dX6_readNumber_99 : decode cX6_readNumber 99 = .ok (.iconst 3, 1) := by decide +kernel
theorem dX6_readNumber_100 : decode cX6_readNumber 100 = .ok (.if_icmp .gt 15, 3) := by decide +kernel
theorem dX6_readNumber_103 : decode cX6_readNumber 103 = .ok (.iload 4, 2) := by decide +kernel
theorem dX6_readNumber_105 : decode cX6_readNumber 105 = .ok (.iload_n 1, 1) := by decide +kernel
theorem dX6_readNumber_106 : decode cX6_readNumber 106 = .ok (.if_icmp .lt 9, 3) := by decide +kernel
theorem dX6_readNumber_109 : decode cX6_readNumber 109 = .ok (.iload 4, 2) := by decide +kernel
theorem dX6_readNumber_111 : decode cX6_readNumber 111 = .ok (.iload_n 2, 1) := by decide +kernel
theorem dX6_readNumber_112 : decode cX6_readNumber 112 = .ok (.if_icmp .le 9, 3) := by decide +kernel
theorem dX6_readNumber_115 : decode cX6_readNumber 115 = .ok (.aload_n 0, 1) := by decide +kernel
theorem dX6_readNumber_116 : decode cX6_readNumber 116 = .ok (.iconst 2, 1) := by decide +kernel
theorem dX6_readNumber_117 : decode cX6_readNumber 117 = .ok (.iload_n 3, 1) := by decide +kernel
theorem dX6_readNumber_118 : decode cX6_readNumber 118 = .ok (.invokevirtual 48, 3) := by decide +kernel
theorem dX6_readNumber_121 : decode cX6_readNumber 121 = .ok (.iload 4, 2) := by decide +kernel
theorem dX6_readNumber_123 : decode cX6_readNumber 123 = .ok (.ireturn, 1) := by decide +kernel
theorem dX6_isFigure_0 : decode cX6_isFigure 0 = .ok (.iload_n 0, 1) := by decide +kernel
theorem dX6_isFigure_1 : decode cX6_isFigure 1 = .ok (.bipush 48, 2) := by decide +kernel
theorem dX6_isFigure_3 : decode cX6_isFigure 3 = .ok (.if_icmp .lt 13, 3) := by decide +kernel
theorem dX6_isFigure_6 : decode cX6_isFigure 6 = .ok (.iload_n 0, 1) := by decide +kernel
theorem dX6_isFigure_7 : decode cX6_isFigure 7 = .ok (.bipush 57, 2) := by decide +kernel
theorem dX6_isFigure_9 : decode cX6_isFigure 9 = .ok (.if_icmp .gt 7, 3) := by decide +kernel
theorem dX6_isFigure_12 : decode cX6_isFigure 12 = .ok (.iconst 1, 1) := by decide +kernel
theorem dX6_isFigure_13 : decode cX6_isFigure 13 = .ok (.goto 4, 3) := by decide +kernel
theorem dX6_isFigure_16 : decode cX6_isFigure 16 = .ok (.iconst 0, 1) := by decide +kernel
theorem dX6_isFigure_17 : decode cX6_isFigure 17 = .ok (.ireturn, 1) := by decide +kernel
theorem dX6_skipBlanks_0 : decode cX6_skipBlanks 0 = .ok (.aload_n 0, 1) := by decide +kernel
theorem dX6_skipBlanks_1 : decode cX6_skipBlanks 1 = .ok (.getfield 25, 3) := by decide +kernel
theorem dX6_skipBlanks_4 : decode cX6_skipBlanks 4 = .ok (.aload_n 0, 1) := by decide +kernel
theorem dX6_skipBlanks_5 : decode cX6_skipBlanks 5 = .ok (.getfield 22, 3) := by decide +kernel
theorem dX6_skipBlanks_8 : decode cX6_skipBlanks 8 = .ok (.if_icmp .ge 25, 3) := by decide +kernel
theorem dX6_skipBlanks_11 : decode cX6_skipBlanks 11 = .ok (.aload_n 0, 1) := by decide +kernel
theorem dX6_skipBlanks_12 : decode cX6_skipBlanks 12 = .ok (.invokevirtual 39, 3) := by decide +kernel
theorem dX6_skipBlanks_15 : decode cX6_skipBlanks 15 = .ok (.bipush 32, 2) := by decide +kernel
theorem dX6_skipBlanks_17 : decode cX6_skipBlanks 17 = .ok (.if_icmp .ne 16, 3) := by decide +kernel
theorem dX6_skipBlanks_20 : decode cX6_skipBlanks 20 = .ok (.aload_n 0, 1) := by decide +kernel
theorem dX6_skipBlanks_21 : decode cX6_skipBlanks 21 = .ok (.dup, 1) := by decide +kernel
theorem dX6_skipBlanks_22 : decode cX6_skipBlanks 22 = .ok (.getfield 25, 3) := by decide +kernel
theorem dX6_skipBlanks_25 : decode cX6_skipBlanks 25 = .ok (.iconst 1, 1) := by decide +kernel
theorem dX6_skipBlanks_26 : decode cX6_skipBlanks 26 = .ok (.iadd, 1) := by decide +kernel
theorem dX6_skipBlanks_27 : decode cX6_skipBlanks 27 = .ok (.putfield 25, 3) := by decide +kernel
theorem dX6_skipBlanks_30 : decode cX6_skipBlanks 30 = .ok (.goto (-30), 3) := by decide +kernel
theorem dX6_skipBlanks_33 : decode cX6_skipBlanks 33 = .ok (.return_, 1) := by decide +kernel
theorem dX6_letter_0 : decode cX6_letter 0 = .ok (.aload_n 0, 1) := by decide +kernel
theorem dX6_letter_1 : decode cX6_letter 1 = .ok (.getfield 25, 3) := by decide +kernel
theorem dX6_letter_4 : decode cX6_letter 4 = .ok (.ifCond .lt 38, 3) := by decide +kernel
theorem dX6_letter_7 : decode cX6_letter 7 = .ok (.aload_n 0, 1) := by decide +kernel
theorem dX6_letter_8 : decode cX6_letter 8 = .ok (.getfield 25, 3) := by decide +kernel
theorem dX6_letter_11 : decode cX6_letter 11 = .ok (.aload_n 0, 1) := by decide +kernel
theorem dX6_letter_12 : decode cX6_letter 12 = .ok (.getfield 22, 3) := by decide +kernel
theorem dX6_letter_15 : decode cX6_letter 15 = .ok (.if_icmp .ge 27, 3) := by decide +kernel
theorem dX6_letter_18 : decode cX6_letter 18 = .ok (.aload_n 0, 1) := by decide +kernel
theorem dX6_letter_19 : decode cX6_letter 19 = .ok (.getfield 25, 3) := by decide +kernel
theorem dX6_letter_22 : decode cX6_letter 22 = .ok (.aload_n 0, 1) := by decide +kernel
theorem dX6_letter_23 : decode cX6_letter 23 = .ok (.getfield 11, 3) := by decide +kernel
theorem dX6_letter_26 : decode cX6_letter 26 = .ok (.arraylength, 1) := by decide +kernel
theorem dX6_letter_27 : decode cX6_letter 27 = .ok (.if_icmp .ge 15, 3) := by decide +kernel
theorem dX6_letter_30 : decode cX6_letter 30 = .ok (.aload_n 0, 1) := by decide +kernel
theorem dX6_letter_31 : decode cX6_letter 31 = .ok (.getfield 11, 3) := by decide +kernel
theorem dX6_letter_34 : decode cX6_letter 34 = .ok (.aload_n 0, 1) := by decide +kernel
theorem dX6_letter_35 : decode cX6_letter 35 = .ok (.getfield 25, 3) := by decide +kernel
theorem dX6_letter_38 : decode cX6_letter 38 = .ok (.caload, 1) := by decide +kernel
theorem dX6_letter_39 : decode cX6_letter 39 = .ok (.goto 4, 3) := by decide +kernel
theorem dX6_letter_42 : decode cX6_letter 42 = .ok (.iconst (-1), 1) := by decide +kernel
theorem dX6_letter_43 : decode cX6_letter 43 = .ok (.ireturn, 1) := by decide +kernel
theorem dX6_hasFault_0 : decode cX6_hasFault 0 = .ok (.aload_n 0, 1) := by decide +kernel
theorem dX6_hasFault_1 : decode cX6_hasFault 1 = .ok (.getfield 15, 3) := by decide +kernel
theorem dX6_hasFault_4 : decode cX6_hasFault 4 = .ok (.ifCond .eq 7, 3) := by decide +kernel
theorem dX6_hasFault_7 : decode cX6_hasFault 7 = .ok (.iconst 1, 1) := by decide +kernel
theorem dX6_hasFault_8 : decode cX6_hasFault 8 = .ok (.goto 4, 3) := by decide +kernel
theorem dX6_hasFault_11 : decode cX6_hasFault 11 = .ok (.iconst 0, 1) := by decide +kernel
theorem dX6_hasFault_12 : decode cX6_hasFault 12 = .ok (.ireturn, 1) := by decide +kernel
theorem dX6_blame_0 : decode cX6_blame 0 = .ok (.aload_n 0, 1) := by decide +kernel
theorem dX6_blame_1 : decode cX6_blame 1 = .ok (.invokevirtual 31, 3) := by decide +kernel
theorem dX6_blame_4 : decode cX6_blame 4 = .ok (.ifCond .ne 13, 3) := by decide +kernel
theorem dX6_blame_7 : decode cX6_blame 7 = .ok (.aload_n 0, 1) := by decide +kernel
theorem dX6_blame_8 : decode cX6_blame 8 = .ok (.iload_n 1, 1) := by decide +kernel
theorem dX6_blame_9 : decode cX6_blame 9 = .ok (.putfield 15, 3) := by decide +kernel
theorem dX6_blame_12 : decode cX6_blame 12 = .ok (.aload_n 0, 1) := by decide +kernel
theorem dX6_blame_13 : decode cX6_blame 13 = .ok (.iload_n 2, 1) := by decide +kernel
theorem dX6_blame_14 : decode cX6_blame 14 = .ok (.putfield 19, 3) := by decide +kernel
theorem dX6_blame_17 : decode cX6_blame 17 = .ok (.return_, 1) := by decide +kernel
theorem dX7_init_0 : decode cX7_init 0 = .ok (.aload_n 0, 1) := by decide +kernel
theorem dX7_init_1 : decode cX7_init 1 = .ok (.invokespecial 7, 3) := by decide +kernel
theorem dX7_init_4 : decode cX7_init 4 = .ok (.aload_n 0, 1) := by decide +kernel
theorem dX7_init_5 : decode cX7_init 5 = .ok (.bipush 18, 2) := by decide +kernel
theorem dX7_init_7 : decode cX7_init 7 = .ok (.newarray .int, 2) := by decide +kernel
theorem dX7_init_9 : decode cX7_init 9 = .ok (.putfield 13, 3) := by decide +kernel
theorem dX7_init_12 : decode cX7_init 12 = .ok (.return_, 1) := by decide +kernel
theorem dX7_begin_0 : decode cX7_begin 0 = .ok (.aload_n 0, 1) := by decide +kernel
theorem dX7_begin_1 : decode cX7_begin 1 = .ok (.getfield 13, 3) := by decide +kernel
theorem dX7_begin_4 : decode cX7_begin 4 = .ok (.iconst 0, 1) := by decide +kernel
theorem dX7_begin_5 : decode cX7_begin 5 = .ok (.iconst 0, 1) := by decide +kernel
theorem dX7_begin_6 : decode cX7_begin 6 = .ok (.iastore, 1) := by decide +kernel
theorem dX7_begin_7 : decode cX7_begin 7 = .ok (.aload_n 0, 1) := by decide +kernel
theorem dX7_begin_8 : decode cX7_begin 8 = .ok (.getfield 13, 3) := by decide +kernel
theorem dX7_begin_11 : decode cX7_begin 11 = .ok (.iconst 1, 1) := by decide +kernel
theorem dX7_begin_12 : decode cX7_begin 12 = .ok (.aload_n 1, 1) := by decide +kernel
theorem dX7_begin_13 : decode cX7_begin 13 = .ok (.invokevirtual 17, 3) := by decide +kernel
theorem dX7_begin_16 : decode cX7_begin 16 = .ok (.iastore, 1) := by decide +kernel
theorem dX7_begin_17 : decode cX7_begin 17 = .ok (.iconst 0, 1) := by decide +kernel
theorem dX7_begin_18 : decode cX7_begin 18 = .ok (.istore_n 2, 1) := by decide +kernel
theorem dX7_begin_19 : decode cX7_begin 19 = .ok (.iload_n 2, 1) := by decide +kernel
theorem dX7_begin_20 : decode cX7_begin 20 = .ok (.iconst 4, 1) := by decide +kernel
theorem dX7_begin_21 : decode cX7_begin 21 = .ok (.if_icmp .ge 26, 3) := by decide +kernel
theorem dX7_begin_24 : decode cX7_begin 24 = .ok (.aload_n 0, 1) := by decide +kernel
theorem dX7_begin_25 : decode cX7_begin 25 = .ok (.iload_n 2, 1) := by decide +kernel
theorem dX7_begin_26 : decode cX7_begin 26 = .ok (.aload_n 1, 1) := by decide +kernel
theorem dX7_begin_27 : decode cX7_begin 27 = .ok (.iload_n 2, 1) := by decide +kernel
theorem dX7_begin_28 : decode cX7_begin 28 = .ok (.invokevirtual 21, 3) := by decide +kernel
theorem dX7_begin_31 : decode cX7_begin 31 = .ok (.invokevirtual 25, 3) := by decide +kernel
theorem dX7_begin_34 : decode cX7_begin 34 = .ok (.aload_n 0, 1) := by decide +kernel
theorem dX7_begin_35 : decode cX7_begin 35 = .ok (.iload_n 2, 1) := by decide +kernel
theorem dX7_begin_36 : decode cX7_begin 36 = .ok (.iconst 3, 1) := by decide +kernel
theorem dX7_begin_37 : decode cX7_begin 37 = .ok (.iconst 1, 1) := by decide +kernel
theorem dX7_begin_38 : decode cX7_begin 38 = .ok (.invokevirtual 29, 3) := by decide +kernel
theorem dX7_begin_41 : decode cX7_begin 41 = .ok (.iinc 2 1, 3) := by decide +kernel
theorem dX7_begin_44 : decode cX7_begin 44 = .ok (.goto (-25), 3) := by decide +kernel
theorem dX7_begin_47 : decode cX7_begin 47 = .ok (.return_, 1) := by decide +kernel
theorem dX7_copyFrom_0 : decode cX7_copyFrom 0 = .ok (.aload_n 1, 1) := by decide +kernel
theorem dX7_copyFrom_1 : decode cX7_copyFrom 1 = .ok (.getfield 13, 3) := by decide +kernel
theorem dX7_copyFrom_4 : decode cX7_copyFrom 4 = .ok (.iconst 0, 1) := by decide +kernel
theorem dX7_copyFrom_5 : decode cX7_copyFrom 5 = .ok (.aload_n 0, 1) := by decide +kernel
theorem dX7_copyFrom_6 : decode cX7_copyFrom 6 = .ok (.getfield 13, 3) := by decide +kernel
theorem dX7_copyFrom_9 : decode cX7_copyFrom 9 = .ok (.iconst 0, 1) := by decide +kernel
theorem dX7_copyFrom_10 : decode cX7_copyFrom 10 = .ok (.bipush 18, 2) := by decide +kernel
theorem dX7_copyFrom_12 : decode cX7_copyFrom 12 = .ok (.invokestatic 33, 3) := by decide +kernel
theorem dX7_copyFrom_15 : decode cX7_copyFrom 15 = .ok (.return_, 1) := by decide +kernel
theorem dX7_writeTo_0 : decode cX7_writeTo 0 = .ok (.aload_n 1, 1) := by decide +kernel
theorem dX7_writeTo_1 : decode cX7_writeTo 1 = .ok (.ifnull 28, 3) := by decide +kernel
theorem dX7_writeTo_4 : decode cX7_writeTo 4 = .ok (.iload_n 2, 1) := by decide +kernel
theorem dX7_writeTo_5 : decode cX7_writeTo 5 = .ok (.ifCond .lt 24, 3) := by decide +kernel
theorem dX7_writeTo_8 : decode cX7_writeTo 8 = .ok (.iload_n 2, 1) := by decide +kernel
theorem dX7_writeTo_9 : decode cX7_writeTo 9 = .ok (.aload_n 1, 1) := by decide +kernel
theorem dX7_writeTo_10 : decode cX7_writeTo 10 = .ok (.arraylength, 1) := by decide +kernel
theorem dX7_writeTo_11 : decode cX7_writeTo 11 = .ok (.bipush 18, 2) := by decide +kernel
theorem dX7_writeTo_13 : decode cX7_writeTo 13 = .ok (.isub, 1) := by decide +kernel
theorem dX7_writeTo_14 : decode cX7_writeTo 14 = .ok (.if_icmp .gt 15, 3) := by decide +kernel
theorem dX7_writeTo_17 : decode cX7_writeTo 17 = .ok (.aload_n 0, 1) := by decide +kernel
theorem dX7_writeTo_18 : decode cX7_writeTo 18 = .ok (.getfield 13, 3) := by decide +kernel
theorem dX7_writeTo_21 : decode cX7_writeTo 21 = .ok (.iconst 0, 1) := by decide +kernel
theorem dX7_writeTo_22 : decode cX7_writeTo 22 = .ok (.aload_n 1, 1) := by decide +kernel
theorem dX7_writeTo_23 : decode cX7_writeTo 23 = .ok (.iload_n 2, 1) := by decide +kernel
theorem dX7_writeTo_24 : decode cX7_writeTo 24 = .ok (.bipush 18, 2) := by decide +kernel
theorem dX7_writeTo_26 : decode cX7_writeTo 26 = .ok (.invokestatic 33, 3) := by decide +kernel
theorem dX7_writeTo_29 : decode cX7_writeTo 29 = .ok (.return_, 1) := by decide +kernel
theorem dX7_readFrom_0 : decode cX7_readFrom 0 = .ok (.aload_n 1, 1) := by decide +kernel
theorem dX7_readFrom_1 : decode cX7_readFrom 1 = .ok (.ifnull 28, 3) := by decide +kernel
theorem dX7_readFrom_4 : decode cX7_readFrom 4 = .ok (.iload_n 2, 1) := by decide +kernel
theorem dX7_readFrom_5 : decode cX7_readFrom 5 = .ok (.ifCond .lt 24, 3) := by decide +kernel
theorem dX7_readFrom_8 : decode cX7_readFrom 8 = .ok (.iload_n 2, 1) := by decide +kernel
theorem dX7_readFrom_9 : decode cX7_readFrom 9 = .ok (.aload_n 1, 1) := by decide +kernel
theorem dX7_readFrom_10 : decode cX7_readFrom 10 = .ok (.arraylength, 1) := by decide +kernel
theorem dX7_readFrom_11 : decode cX7_readFrom 11 = .ok (.bipush 18, 2) := by decide +kernel
theorem dX7_readFrom_13 : decode cX7_readFrom 13 = .ok (.isub, 1) := by decide +kernel
theorem dX7_readFrom_14 : decode cX7_readFrom 14 = .ok (.if_icmp .gt 15, 3) := by decide +kernel
theorem dX7_readFrom_17 : decode cX7_readFrom 17 = .ok (.aload_n 1, 1) := by decide +kernel
theorem dX7_readFrom_18 : decode cX7_readFrom 18 = .ok (.iload_n 2, 1) := by decide +kernel
theorem dX7_readFrom_19 : decode cX7_readFrom 19 = .ok (.aload_n 0, 1) := by decide +kernel
theorem dX7_readFrom_20 : decode cX7_readFrom 20 = .ok (.getfield 13, 3) := by decide +kernel
theorem dX7_readFrom_23 : decode cX7_readFrom 23 = .ok (.iconst 0, 1) := by decide +kernel
theorem dX7_readFrom_24 : decode cX7_readFrom 24 = .ok (.bipush 18, 2) := by decide +kernel
theorem dX7_readFrom_26 : decode cX7_readFrom 26 = .ok (.invokestatic 33, 3) := by decide +kernel
theorem dX7_readFrom_29 : decode cX7_readFrom 29 = .ok (.return_, 1) := by decide +kernel
theorem dX7_clock_0 : decode cX7_clock 0 = .ok (.aload_n 0, 1) := by decide +kernel
theorem dX7_clock_1 : decode cX7_clock 1 = .ok (.getfield 13, 3) := by decide +kernel
theorem dX7_clock_4 : decode cX7_clock 4 = .ok (.iconst 0, 1) := by decide +kernel
theorem dX7_clock_5 : decode cX7_clock 5 = .ok (.iaload, 1) := by decide +kernel
theorem dX7_clock_6 : decode cX7_clock 6 = .ok (.ireturn, 1) := by decide +kernel
theorem dX7_ropeSet_0 : decode cX7_ropeSet 0 = .ok (.aload_n 0, 1) := by decide +kernel
theorem dX7_ropeSet_1 : decode cX7_ropeSet 1 = .ok (.getfield 13, 3) := by decide +kernel
theorem dX7_ropeSet_4 : decode cX7_ropeSet 4 = .ok (.iconst 1, 1) := by decide +kernel
theorem dX7_ropeSet_5 : decode cX7_ropeSet 5 = .ok (.iaload, 1) := by decide +kernel
theorem dX7_ropeSet_6 : decode cX7_ropeSet 6 = .ok (.ireturn, 1) := by decide +kernel
theorem dX7_hasRope_0 : decode cX7_hasRope 0 = .ok (.aload_n 0, 1) := by decide +kernel
theorem dX7_hasRope_1 : decode cX7_hasRope 1 = .ok (.getfield 13, 3) := by decide +kernel
theorem dX7_hasRope_4 : decode cX7_hasRope 4 = .ok (.iconst 1, 1) := by decide +kernel
theorem dX7_hasRope_5 : decode cX7_hasRope 5 = .ok (.iaload, 1) := by decide +kernel
theorem dX7_hasRope_6 : decode cX7_hasRope 6 = .ok (.iload_n 1, 1) := by decide +kernel
theorem dX7_hasRope_7 : decode cX7_hasRope 7 = .ok (.ishr, 1) := by decide +kernel
theorem dX7_hasRope_8 : decode cX7_hasRope 8 = .ok (.iconst 1, 1) := by decide +kernel
theorem dX7_hasRope_9 : decode cX7_hasRope 9 = .ok (.iand, 1) := by decide +kernel
theorem dX7_hasRope_10 : decode cX7_hasRope 10 = .ok (.iconst 1, 1) := by decide +kernel
theorem dX7_hasRope_11 : decode cX7_hasRope 11 = .ok (.if_icmp .ne 7, 3) := by decide +kernel
theorem dX7_hasRope_14 : decode cX7_hasRope 14 = .ok (.iconst 1, 1) := by decide +kernel
theorem dX7_hasRope_15 : decode cX7_hasRope 15 = .ok (.goto 4, 3) := by decide +kernel
theorem dX7_hasRope_18 : decode cX7_hasRope 18 = .ok (.iconst 0, 1) := by decide +kernel
theorem dX7_hasRope_19 : decode cX7_hasRope 19 = .ok (.ireturn, 1) := by decide +kernel
theorem dX7_layRope_0 : decode cX7_layRope 0 = .ok (.iload_n 2, 1) := by decide +kernel
theorem dX7_layRope_1 : decode cX7_layRope 1 = .ok (.ifCond .eq 18, 3) := by decide +kernel
theorem dX7_layRope_4 : decode cX7_layRope 4 = .ok (.aload_n 0, 1) := by decide +kernel
theorem dX7_layRope_5 : decode cX7_layRope 5 = .ok (.getfield 13, 3) := by decide +kernel
theorem dX7_layRope_8 : decode cX7_layRope 8 = .ok (.iconst 1, 1) := by decide +kernel
theorem dX7_layRope_9 : decode cX7_layRope 9 = .ok (.dup2, 1) := by decide +kernel
theorem dX7_layRope_10 : decode cX7_layRope 10 = .ok (.iaload, 1) := by decide +kernel
theorem dX7_layRope_11 : decode cX7_layRope 11 = .ok (.iconst 1, 1) := by decide +kernel
theorem dX7_layRope_12 : decode cX7_layRope 12 = .ok (.iload_n 1, 1) := by decide +kernel
theorem dX7_layRope_13 : decode cX7_layRope 13 = .ok (.ishl, 1) := by decide +kernel
theorem dX7_layRope_14 : decode cX7_layRope 14 = .ok (.ior, 1) := by decide +kernel
theorem dX7_layRope_15 : decode cX7_layRope 15 = .ok (.iastore, 1) := by decide +kernel
theorem dX7_layRope_16 : decode cX7_layRope 16 = .ok (.goto 17, 3) := by decide +kernel
theorem dX7_layRope_19 : decode cX7_layRope 19 = .ok (.aload_n 0, 1) := by decide +kernel
theorem dX7_layRope_20 : decode cX7_layRope 20 = .ok (.getfield 13, 3) := by decide +kernel
theorem dX7_layRope_23 : decode cX7_layRope 23 = .ok (.iconst 1, 1) := by decide +kernel
theorem dX7_layRope_24 : decode cX7_layRope 24 = .ok (.dup2, 1) := by decide +kernel
theorem dX7_layRope_25 : decode cX7_layRope 25 = .ok (.iaload, 1) := by decide +kernel
theorem dX7_layRope_26 : decode cX7_layRope 26 = .ok (.iconst 1, 1) := by decide +kernel
theorem dX7_layRope_27 : decode cX7_layRope 27 = .ok (.iload_n 1, 1) := by decide +kernel
theorem dX7_layRope_28 : decode cX7_layRope 28 = .ok (.ishl, 1) := by decide +kernel
theorem dX7_layRope_29 : decode cX7_layRope 29 = .ok (.iconst (-1), 1) := by decide +kernel
theorem dX7_layRope_30 : decode cX7_layRope 30 = .ok (.ixor, 1) := by decide +kernel
theorem dX7_layRope_31 : decode cX7_layRope 31 = .ok (.iand, 1) := by decide +kernel
theorem dX7_layRope_32 : decode cX7_layRope 32 = .ok (.iastore, 1) := by decide +kernel
theorem dX7_layRope_33 : decode cX7_layRope 33 = .ok (.return_, 1) := by decide +kernel
theorem dX7_houseOf_0 : decode cX7_houseOf 0 = .ok (.aload_n 0, 1) := by decide +kernel
theorem dX7_houseOf_1 : decode cX7_houseOf 1 = .ok (.iload_n 1, 1) := by decide +kernel
theorem dX7_houseOf_2 : decode cX7_houseOf 2 = .ok (.iconst 0, 1) := by decide +kernel
theorem dX7_houseOf_3 : decode cX7_houseOf 3 = .ok (.invokevirtual 39, 3) := by decide +kernel
theorem dX7_houseOf_6 : decode cX7_houseOf 6 = .ok (.ireturn, 1) := by decide +kernel
theorem dX7_gapOf_0 : decode cX7_gapOf 0 = .ok (.aload_n 0, 1) := by decide +kernel
theorem dX7_gapOf_1 : decode cX7_gapOf 1 = .ok (.iload_n 1, 1) := by decide +kernel
theorem dX7_gapOf_2 : decode cX7_gapOf 2 = .ok (.iconst 1, 1) := by decide +kernel
theorem dX7_gapOf_3 : decode cX7_gapOf 3 = .ok (.invokevirtual 39, 3) := by decide +kernel
theorem dX7_gapOf_6 : decode cX7_gapOf 6 = .ok (.ireturn, 1) := by decide +kernel
theorem dX7_yardsOf_0 : decode cX7_yardsOf 0 = .ok (.aload_n 0, 1) := by decide +kernel
theorem dX7_yardsOf_1 : decode cX7_yardsOf 1 = .ok (.iload_n 1, 1) := by decide +kernel
theorem dX7_yardsOf_2 : decode cX7_yardsOf 2 = .ok (.iconst 2, 1) := by decide +kernel
theorem dX7_yardsOf_3 : decode cX7_yardsOf 3 = .ok (.invokevirtual 39, 3) := by decide +kernel
theorem dX7_yardsOf_6 : decode cX7_yardsOf 6 = .ok (.ireturn, 1) := by decide +kernel
theorem dX7_wayOf_0 : decode cX7_wayOf 0 = .ok (.aload_n 0, 1) := by decide +kernel
theorem dX7_wayOf_1 : decode cX7_wayOf 1 = .ok (.iload_n 1, 1) := by decide +kernel
theorem dX7_wayOf_2 : decode cX7_wayOf 2 = .ok (.iconst 3, 1) := by decide +kernel
theorem dX7_wayOf_3 : decode cX7_wayOf 3 = .ok (.invokevirtual 39, 3) := by decide +kernel
theorem dX7_wayOf_6 : decode cX7_wayOf 6 = .ok (.ireturn, 1) := by decide +kernel
theorem dX7_isInGap_0 : decode cX7_isInGap 0 = .ok (.aload_n 0, 1) := by decide +kernel
theorem dX7_isInGap_1 : decode cX7_isInGap 1 = .ok (.iload_n 1, 1) := by decide +kernel
theorem dX7_isInGap_2 : decode cX7_isInGap 2 = .ok (.iconst 1, 1) := by decide +kernel
theorem dX7_isInGap_3 : decode cX7_isInGap 3 = .ok (.invokevirtual 39, 3) := by decide +kernel
theorem dX7_isInGap_6 : decode cX7_isInGap 6 = .ok (.iconst (-1), 1) := by decide +kernel
theorem dX7_isInGap_7 : decode cX7_isInGap 7 = .ok (.if_icmp .eq 7, 3) := by decide +kernel
theorem dX7_isInGap_10 : decode cX7_isInGap 10 = .ok (.iconst 1, 1) := by decide +kernel
theorem dX7_isInGap_11 : decode cX7_isInGap 11 = .ok (.goto 4, 3) := by decide +kernel
theorem dX7_isInGap_14 : decode cX7_isInGap 14 = .ok (.iconst 0, 1) := by decide +kernel
theorem dX7_isInGap_15 : decode cX7_isInGap 15 = .ok (.ireturn, 1) := by decide +kernel
theorem dX7_placeOf_0 : decode cX7_placeOf 0 = .ok (.aload_n 0, 1) := by decide +kernel
theorem dX7_placeOf_1 : decode cX7_placeOf 1 = .ok (.iload_n 2, 1) := by decide +kernel
theorem dX7_placeOf_2 : decode cX7_placeOf 2 = .ok (.invokevirtual 43, 3) := by decide +kernel
theorem dX7_placeOf_5 : decode cX7_placeOf 5 = .ok (.ifCond .ne 17, 3) := by decide +kernel
theorem dX7_placeOf_8 : decode cX7_placeOf 8 = .ok (.aload_n 1, 1) := by decide +kernel
theorem dX7_placeOf_9 : decode cX7_placeOf 9 = .ok (.aload_n 0, 1) := by decide +kernel
theorem dX7_placeOf_10 : decode cX7_placeOf 10 = .ok (.iload_n 2, 1) := by decide +kernel
theorem dX7_placeOf_11 : decode cX7_placeOf 11 = .ok (.invokevirtual 47, 3) := by decide +kernel
theorem dX7_placeOf_14 : decode cX7_placeOf 14 = .ok (.aload_n 0, 1) := by decide +kernel
theorem dX7_placeOf_15 : decode cX7_placeOf 15 = .ok (.invokevirtual 50, 3) := by decide +kernel
theorem dX7_placeOf_18 : decode cX7_placeOf 18 = .ok (.invokevirtual 53, 3) := by decide +kernel
theorem dX7_placeOf_21 : decode cX7_placeOf 21 = .ok (.ireturn, 1) := by decide +kernel
theorem dX7_placeOf_22 : decode cX7_placeOf 22 = .ok (.aload_n 0, 1) := by decide +kernel
theorem dX7_placeOf_23 : decode cX7_placeOf 23 = .ok (.iload_n 2, 1) := by decide +kernel
theorem dX7_placeOf_24 : decode cX7_placeOf 24 = .ok (.invokevirtual 56, 3) := by decide +kernel
theorem dX7_placeOf_27 : decode cX7_placeOf 27 = .ok (.istore_n 3, 1) := by decide +kernel
theorem dX7_placeOf_28 : decode cX7_placeOf 28 = .ok (.aload_n 1, 1) := by decide +kernel
theorem dX7_placeOf_29 : decode cX7_placeOf 29 = .ok (.iload_n 3, 1) := by decide +kernel
theorem dX7_placeOf_30 : decode cX7_placeOf 30 = .ok (.aload_n 0, 1) := by decide +kernel
theorem dX7_placeOf_31 : decode cX7_placeOf 31 = .ok (.invokevirtual 50, 3) := by decide +kernel
theorem dX7_placeOf_34 : decode cX7_placeOf 34 = .ok (.invokevirtual 59, 3) := by decide +kernel
theorem dX7_placeOf_37 : decode cX7_placeOf 37 = .ok (.istore 4, 2) := by decide +kernel
theorem dX7_placeOf_39 : decode cX7_placeOf 39 = .ok (.aload_n 0, 1) := by decide +kernel
theorem dX7_placeOf_40 : decode cX7_placeOf 40 = .ok (.iload_n 2, 1) := by decide +kernel
theorem dX7_placeOf_41 : decode cX7_placeOf 41 = .ok (.invokevirtual 62, 3) := by decide +kernel
theorem dX7_placeOf_44 : decode cX7_placeOf 44 = .ok (.iload 4, 2) := by decide +kernel
theorem dX7_placeOf_46 : decode cX7_placeOf 46 = .ok (.invokestatic 65, 3) := by decide +kernel
theorem dX7_placeOf_49 : decode cX7_placeOf 49 = .ok (.istore 5, 2) := by decide +kernel
theorem dX7_placeOf_51 : decode cX7_placeOf 51 = .ok (.aload_n 1, 1) := by decide +kernel
theorem dX7_placeOf_52 : decode cX7_placeOf 52 = .ok (.iload_n 3, 1) := by decide +kernel
theorem dX7_placeOf_53 : decode cX7_placeOf 53 = .ok (.aload_n 0, 1) := by decide +kernel
theorem dX7_placeOf_54 : decode cX7_placeOf 54 = .ok (.invokevirtual 50, 3) := by decide +kernel
theorem dX7_placeOf_57 : decode cX7_placeOf 57 = .ok (.invokevirtual 53, 3) := by decide +kernel
theorem dX7_placeOf_60 : decode cX7_placeOf 60 = .ok (.aload_n 0, 1) := by decide +kernel
theorem dX7_placeOf_61 : decode cX7_placeOf 61 = .ok (.iload_n 2, 1) := by decide +kernel
theorem dX7_placeOf_62 : decode cX7_placeOf 62 = .ok (.invokevirtual 70, 3) := by decide +kernel
theorem dX7_placeOf_65 : decode cX7_placeOf 65 = .ok (.iconst 2, 1) := by decide +kernel
theorem dX7_placeOf_66 : decode cX7_placeOf 66 = .ok (.if_icmp .ne 8, 3) := by decide +kernel
theorem dX7_placeOf_69 : decode cX7_placeOf 69 = .ok (.iload 5, 2) := by decide +kernel
theorem dX7_placeOf_71 : decode cX7_placeOf 71 = .ok (.goto 8, 3) := by decide +kernel
theorem dX7_placeOf_74 : decode cX7_placeOf 74 = .ok (.iload 4, 2) := by decide +kernel
theorem dX7_placeOf_76 : decode cX7_placeOf 76 = .ok (.iload 5, 2) := by decide +kernel
theorem dX7_placeOf_78 : decode cX7_placeOf 78 = .ok (.isub, 1) := by decide +kernel
theorem dX7_placeOf_79 : decode cX7_placeOf 79 = .ok (.iadd, 1) := by decide +kernel
theorem dX7_placeOf_80 : decode cX7_placeOf 80 = .ok (.ireturn, 1) := by decide +kernel
theorem dX7_direct_0 : decode cX7_direct 0 = .ok (.aload_n 0, 1) := by decide +kernel
theorem dX7_direct_1 : decode cX7_direct 1 = .ok (.iload_n 2, 1) := by decide +kernel
theorem dX7_direct_2 : decode cX7_direct 2 = .ok (.invokevirtual 43, 3) := by decide +kernel
theorem dX7_direct_5 : decode cX7_direct 5 = .ok (.ifCond .eq 41, 3) := by decide +kernel
theorem dX7_direct_8 : decode cX7_direct 8 = .ok (.iload_n 3, 1) := by decide +kernel
theorem dX7_direct_9 : decode cX7_direct 9 = .ok (.aload_n 0, 1) := by decide +kernel
theorem dX7_direct_10 : decode cX7_direct 10 = .ok (.iload_n 2, 1) := by decide +kernel
theorem dX7_direct_11 : decode cX7_direct 11 = .ok (.invokevirtual 70, 3) := by decide +kernel
theorem dX7_direct_14 : decode cX7_direct 14 = .ok (.if_icmp .eq 32, 3) := by decide +kernel
theorem dX7_direct_17 : decode cX7_direct 17 = .ok (.aload_n 0, 1) := by decide +kernel
theorem dX7_direct_18 : decode cX7_direct 18 = .ok (.iload_n 2, 1) := by decide +kernel
theorem dX7_direct_19 : decode cX7_direct 19 = .ok (.iconst 2, 1) := by decide +kernel
theorem dX7_direct_20 : decode cX7_direct 20 = .ok (.iconst 0, 1) := by decide +kernel
theorem dX7_direct_21 : decode cX7_direct 21 = .ok (.aload_n 1, 1) := by decide +kernel
theorem dX7_direct_22 : decode cX7_direct 22 = .ok (.aload_n 0, 1) := by decide +kernel
theorem dX7_direct_23 : decode cX7_direct 23 = .ok (.iload_n 2, 1) := by decide +kernel
theorem dX7_direct_24 : decode cX7_direct 24 = .ok (.invokevirtual 56, 3) := by decide +kernel
theorem dX7_direct_27 : decode cX7_direct 27 = .ok (.aload_n 0, 1) := by decide +kernel
theorem dX7_direct_28 : decode cX7_direct 28 = .ok (.invokevirtual 50, 3) := by decide +kernel
theorem dX7_direct_31 : decode cX7_direct 31 = .ok (.invokevirtual 59, 3) := by decide +kernel
theorem dX7_direct_34 : decode cX7_direct 34 = .ok (.aload_n 0, 1) := by decide +kernel
theorem dX7_direct_35 : decode cX7_direct 35 = .ok (.iload_n 2, 1) := by decide +kernel
theorem dX7_direct_36 : decode cX7_direct 36 = .ok (.invokevirtual 62, 3) := by decide +kernel
theorem dX7_direct_39 : decode cX7_direct 39 = .ok (.isub, 1) := by decide +kernel
theorem dX7_direct_40 : decode cX7_direct 40 = .ok (.invokestatic 73, 3) := by decide +kernel
theorem dX7_direct_43 : decode cX7_direct 43 = .ok (.invokevirtual 29, 3) := by decide +kernel
theorem dX7_direct_46 : decode cX7_direct 46 = .ok (.aload_n 0, 1) := by decide +kernel
theorem dX7_direct_47 : decode cX7_direct 47 = .ok (.iload_n 2, 1) := by decide +kernel
theorem dX7_direct_48 : decode cX7_direct 48 = .ok (.iconst 3, 1) := by decide +kernel
theorem dX7_direct_49 : decode cX7_direct 49 = .ok (.iload_n 3, 1) := by decide +kernel
theorem dX7_direct_50 : decode cX7_direct 50 = .ok (.invokevirtual 29, 3) := by decide +kernel
theorem dX7_direct_53 : decode cX7_direct 53 = .ok (.return_, 1) := by decide +kernel
theorem dX7_passMinute_0 : decode cX7_passMinute 0 = .ok (.iconst 0, 1) := by decide +kernel
theorem dX7_passMinute_1 : decode cX7_passMinute 1 = .ok (.istore_n 2, 1) := by decide +kernel
theorem dX7_passMinute_2 : decode cX7_passMinute 2 = .ok (.iload_n 2, 1) := by decide +kernel
theorem dX7_passMinute_3 : decode cX7_passMinute 3 = .ok (.aload_n 1, 1) := by decide +kernel
theorem dX7_passMinute_4 : decode cX7_passMinute 4 = .ok (.invokevirtual 76, 3) := by decide +kernel
theorem dX7_passMinute_7 : decode cX7_passMinute 7 = .ok (.if_icmp .ge 21, 3) := by decide +kernel
theorem dX7_passMinute_10 : decode cX7_passMinute 10 = .ok (.aload_n 0, 1) := by decide +kernel
theorem dX7_passMinute_11 : decode cX7_passMinute 11 = .ok (.aload_n 1, 1) := by decide +kernel
theorem dX7_passMinute_12 : decode cX7_passMinute 12 = .ok (.iload_n 2, 1) := by decide +kernel
theorem dX7_passMinute_13 : decode cX7_passMinute 13 = .ok (.invokevirtual 79, 3) := by decide +kernel
theorem dX7_passMinute_16 : decode cX7_passMinute 16 = .ok (.aload_n 0, 1) := by decide +kernel
theorem dX7_passMinute_17 : decode cX7_passMinute 17 = .ok (.aload_n 1, 1) := by decide +kernel
theorem dX7_passMinute_18 : decode cX7_passMinute 18 = .ok (.iload_n 2, 1) := by decide +kernel
theorem dX7_passMinute_19 : decode cX7_passMinute 19 = .ok (.invokevirtual 83, 3) := by decide +kernel
theorem dX7_passMinute_22 : decode cX7_passMinute 22 = .ok (.iinc 2 1, 3) := by decide +kernel
theorem dX7_passMinute_25 : decode cX7_passMinute 25 = .ok (.goto (-23), 3) := by decide +kernel
theorem dX7_passMinute_28 : decode cX7_passMinute 28 = .ok (.aload_n 0, 1) := by decide +kernel
theorem dX7_passMinute_29 : decode cX7_passMinute 29 = .ok (.getfield 13, 3) := by decide +kernel
theorem dX7_passMinute_32 : decode cX7_passMinute 32 = .ok (.iconst 0, 1) := by decide +kernel
theorem dX7_passMinute_33 : decode cX7_passMinute 33 = .ok (.dup2, 1) := by decide +kernel
theorem dX7_passMinute_34 : decode cX7_passMinute 34 = .ok (.iaload, 1) := by decide +kernel
theorem dX7_passMinute_35 : decode cX7_passMinute 35 = .ok (.iconst 1, 1) := by decide +kernel
theorem dX7_passMinute_36 : decode cX7_passMinute 36 = .ok (.iadd, 1) := by decide +kernel
theorem dX7_passMinute_37 : decode cX7_passMinute 37 = .ok (.iastore, 1) := by decide +kernel
theorem dX7_passMinute_38 : decode cX7_passMinute 38 = .ok (.return_, 1) := by decide +kernel
theorem dX7_leaveHouse_0 : decode cX7_leaveHouse 0 = .ok (.aload_n 0, 1) := by decide +kernel
theorem dX7_leaveHouse_1 : decode cX7_leaveHouse 1 = .ok (.iload_n 2, 1) := by decide +kernel
theorem dX7_leaveHouse_2 : decode cX7_leaveHouse 2 = .ok (.invokevirtual 43, 3) := by decide +kernel
theorem dX7_leaveHouse_5 : decode cX7_leaveHouse 5 = .ok (.ifCond .ne 12, 3) := by decide +kernel
theorem dX7_leaveHouse_8 : decode cX7_leaveHouse 8 = .ok (.aload_n 0, 1) := by decide +kernel
theorem dX7_leaveHouse_9 : decode cX7_leaveHouse 9 = .ok (.iload_n 2, 1) := by decide +kernel
theorem dX7_leaveHouse_10 : decode cX7_leaveHouse 10 = .ok (.invokevirtual 70, 3) := by decide +kernel
theorem dX7_leaveHouse_13 : decode cX7_leaveHouse 13 = .ok (.iconst 1, 1) := by decide +kernel
theorem dX7_leaveHouse_14 : decode cX7_leaveHouse 14 = .ok (.if_icmp .ne 4, 3) := by decide +kernel
theorem dX7_leaveHouse_17 : decode cX7_leaveHouse 17 = .ok (.return_, 1) := by decide +kernel
theorem dX7_leaveHouse_18 : decode cX7_leaveHouse 18 = .ok (.aload_n 0, 1) := by decide +kernel
theorem dX7_leaveHouse_19 : decode cX7_leaveHouse 19 = .ok (.iload_n 2, 1) := by decide +kernel
theorem dX7_leaveHouse_20 : decode cX7_leaveHouse 20 = .ok (.invokevirtual 70, 3) := by decide +kernel
theorem dX7_leaveHouse_23 : decode cX7_leaveHouse 23 = .ok (.iconst 2, 1) := by decide +kernel
theorem dX7_leaveHouse_24 : decode cX7_leaveHouse 24 = .ok (.if_icmp .ne 11, 3) := by decide +kernel
theorem dX7_leaveHouse_27 : decode cX7_leaveHouse 27 = .ok (.aload_n 0, 1) := by decide +kernel
theorem dX7_leaveHouse_28 : decode cX7_leaveHouse 28 = .ok (.iload_n 2, 1) := by decide +kernel
theorem dX7_leaveHouse_29 : decode cX7_leaveHouse 29 = .ok (.invokevirtual 47, 3) := by decide +kernel
theorem dX7_leaveHouse_32 : decode cX7_leaveHouse 32 = .ok (.goto 10, 3) := by decide +kernel
theorem dX7_leaveHouse_35 : decode cX7_leaveHouse 35 = .ok (.aload_n 0, 1) := by decide +kernel
theorem dX7_leaveHouse_36 : decode cX7_leaveHouse 36 = .ok (.iload_n 2, 1) := by decide +kernel
theorem dX7_leaveHouse_37 : decode cX7_leaveHouse 37 = .ok (.invokevirtual 47, 3) := by decide +kernel
theorem dX7_leaveHouse_40 : decode cX7_leaveHouse 40 = .ok (.iconst 1, 1) := by decide +kernel
theorem dX7_leaveHouse_41 : decode cX7_leaveHouse 41 = .ok (.isub, 1) := by decide +kernel
theorem dX7_leaveHouse_42 : decode cX7_leaveHouse 42 = .ok (.istore_n 3, 1) := by decide +kernel
theorem dX7_leaveHouse_43 : decode cX7_leaveHouse 43 = .ok (.aload_n 1, 1) := by decide +kernel
theorem dX7_leaveHouse_44 : decode cX7_leaveHouse 44 = .ok (.iload_n 3, 1) := by decide +kernel
theorem dX7_leaveHouse_45 : decode cX7_leaveHouse 45 = .ok (.invokevirtual 86, 3) := by decide +kernel
theorem dX7_leaveHouse_48 : decode cX7_leaveHouse 48 = .ok (.ifCond .eq 27, 3) := by decide +kernel
theorem dX7_leaveHouse_51 : decode cX7_leaveHouse 51 = .ok (.aload_n 0, 1) := by decide +kernel
theorem dX7_leaveHouse_52 : decode cX7_leaveHouse 52 = .ok (.iload_n 2, 1) := by decide +kernel
theorem dX7_leaveHouse_53 : decode cX7_leaveHouse 53 = .ok (.iconst 0, 1) := by decide +kernel
theorem dX7_leaveHouse_54 : decode cX7_leaveHouse 54 = .ok (.iconst (-1), 1) := by decide +kernel
theorem dX7_leaveHouse_55 : decode cX7_leaveHouse 55 = .ok (.invokevirtual 29, 3) := by decide +kernel
theorem dX7_leaveHouse_58 : decode cX7_leaveHouse 58 = .ok (.aload_n 0, 1) := by decide +kernel
theorem dX7_leaveHouse_59 : decode cX7_leaveHouse 59 = .ok (.iload_n 2, 1) := by decide +kernel
theorem dX7_leaveHouse_60 : decode cX7_leaveHouse 60 = .ok (.iconst 1, 1) := by decide +kernel
theorem dX7_leaveHouse_61 : decode cX7_leaveHouse 61 = .ok (.iload_n 3, 1) := by decide +kernel
theorem dX7_leaveHouse_62 : decode cX7_leaveHouse 62 = .ok (.invokevirtual 29, 3) := by decide +kernel
theorem dX7_leaveHouse_65 : decode cX7_leaveHouse 65 = .ok (.aload_n 0, 1) := by decide +kernel
theorem dX7_leaveHouse_66 : decode cX7_leaveHouse 66 = .ok (.iload_n 2, 1) := by decide +kernel
theorem dX7_leaveHouse_67 : decode cX7_leaveHouse 67 = .ok (.iconst 2, 1) := by decide +kernel
theorem dX7_leaveHouse_68 : decode cX7_leaveHouse 68 = .ok (.iconst 0, 1) := by decide +kernel
theorem dX7_leaveHouse_69 : decode cX7_leaveHouse 69 = .ok (.invokevirtual 29, 3) := by decide +kernel
theorem dX7_leaveHouse_72 : decode cX7_leaveHouse 72 = .ok (.goto 10, 3) := by decide +kernel
theorem dX7_leaveHouse_75 : decode cX7_leaveHouse 75 = .ok (.aload_n 0, 1) := by decide +kernel
theorem dX7_leaveHouse_76 : decode cX7_leaveHouse 76 = .ok (.iload_n 2, 1) := by decide +kernel
theorem dX7_leaveHouse_77 : decode cX7_leaveHouse 77 = .ok (.iconst 3, 1) := by decide +kernel
theorem dX7_leaveHouse_78 : decode cX7_leaveHouse 78 = .ok (.iconst 1, 1) := by decide +kernel
theorem dX7_leaveHouse_79 : decode cX7_leaveHouse 79 = .ok (.invokevirtual 29, 3) := by decide +kernel
theorem dX7_leaveHouse_82 : decode cX7_leaveHouse 82 = .ok (.return_, 1) := by decide +kernel
theorem dX7_stride_0 : decode cX7_stride 0 = .ok (.aload_n 0, 1) := by decide +kernel
theorem dX7_stride_1 : decode cX7_stride 1 = .ok (.iload_n 2, 1) := by decide +kernel
theorem dX7_stride_2 : decode cX7_stride 2 = .ok (.invokevirtual 43, 3) := by decide +kernel
theorem dX7_stride_5 : decode cX7_stride 5 = .ok (.ifCond .ne 4, 3) := by decide +kernel
theorem dX7_stride_8 : decode cX7_stride 8 = .ok (.return_, 1) := by decide +kernel
theorem dX7_stride_9 : decode cX7_stride 9 = .ok (.aload_n 0, 1) := by decide +kernel
theorem dX7_stride_10 : decode cX7_stride 10 = .ok (.iload_n 2, 1) := by decide +kernel
theorem dX7_stride_11 : decode cX7_stride 11 = .ok (.invokevirtual 56, 3) := by decide +kernel
theorem dX7_stride_14 : decode cX7_stride 14 = .ok (.istore_n 3, 1) := by decide +kernel
theorem dX7_stride_15 : decode cX7_stride 15 = .ok (.aload_n 1, 1) := by decide +kernel
theorem dX7_stride_16 : decode cX7_stride 16 = .ok (.iload_n 2, 1) := by decide +kernel
theorem dX7_stride_17 : decode cX7_stride 17 = .ok (.invokevirtual 89, 3) := by decide +kernel
theorem dX7_stride_20 : decode cX7_stride 20 = .ok (.istore 4, 2) := by decide +kernel
theorem dX7_stride_22 : decode cX7_stride 22 = .ok (.aload_n 0, 1) := by decide +kernel
theorem dX7_stride_23 : decode cX7_stride 23 = .ok (.iload_n 2, 1) := by decide +kernel
theorem dX7_stride_24 : decode cX7_stride 24 = .ok (.invokevirtual 62, 3) := by decide +kernel
theorem dX7_stride_27 : decode cX7_stride 27 = .ok (.aload_n 0, 1) := by decide +kernel
theorem dX7_stride_28 : decode cX7_stride 28 = .ok (.iload_n 3, 1) := by decide +kernel
theorem dX7_stride_29 : decode cX7_stride 29 = .ok (.invokevirtual 92, 3) := by decide +kernel
theorem dX7_stride_32 : decode cX7_stride 32 = .ok (.ifCond .eq 10, 3) := by decide +kernel
theorem dX7_stride_35 : decode cX7_stride 35 = .ok (.iconst 2, 1) := by decide +kernel
theorem dX7_stride_36 : decode cX7_stride 36 = .ok (.iload 4, 2) := by decide +kernel
theorem dX7_stride_38 : decode cX7_stride 38 = .ok (.imul, 1) := by decide +kernel
theorem dX7_stride_39 : decode cX7_stride 39 = .ok (.goto 5, 3) := by decide +kernel
theorem dX7_stride_42 : decode cX7_stride 42 = .ok (.iload 4, 2) := by decide +kernel
theorem dX7_stride_44 : decode cX7_stride 44 = .ok (.iadd, 1) := by decide +kernel
theorem dX7_stride_45 : decode cX7_stride 45 = .ok (.istore 5, 2) := by decide +kernel
theorem dX7_stride_47 : decode cX7_stride 47 = .ok (.iload 5, 2) := by decide +kernel
theorem dX7_stride_49 : decode cX7_stride 49 = .ok (.aload_n 1, 1) := by decide +kernel
theorem dX7_stride_50 : decode cX7_stride 50 = .ok (.iload_n 3, 1) := by decide +kernel
theorem dX7_stride_51 : decode cX7_stride 51 = .ok (.aload_n 0, 1) := by decide +kernel
theorem dX7_stride_52 : decode cX7_stride 52 = .ok (.invokevirtual 50, 3) := by decide +kernel
theorem dX7_stride_55 : decode cX7_stride 55 = .ok (.invokevirtual 59, 3) := by decide +kernel
theorem dX7_stride_58 : decode cX7_stride 58 = .ok (.if_icmp .lt 27, 3) := by decide +kernel
theorem dX7_stride_61 : decode cX7_stride 61 = .ok (.aload_n 0, 1) := by decide +kernel
theorem dX7_stride_62 : decode cX7_stride 62 = .ok (.iload_n 2, 1) := by decide +kernel
theorem dX7_stride_63 : decode cX7_stride 63 = .ok (.aload_n 0, 1) := by decide +kernel
theorem dX7_stride_64 : decode cX7_stride 64 = .ok (.iload_n 2, 1) := by decide +kernel
theorem dX7_stride_65 : decode cX7_stride 65 = .ok (.invokevirtual 70, 3) := by decide +kernel
theorem dX7_stride_68 : decode cX7_stride 68 = .ok (.iconst 2, 1) := by decide +kernel
theorem dX7_stride_69 : decode cX7_stride 69 = .ok (.if_icmp .ne 9, 3) := by decide +kernel
theorem dX7_stride_72 : decode cX7_stride 72 = .ok (.iload_n 3, 1) := by decide +kernel
theorem dX7_stride_73 : decode cX7_stride 73 = .ok (.iconst 1, 1) := by decide +kernel
theorem dX7_stride_74 : decode cX7_stride 74 = .ok (.iadd, 1) := by decide +kernel
theorem dX7_stride_75 : decode cX7_stride 75 = .ok (.goto 4, 3) := by decide +kernel
theorem dX7_stride_78 : decode cX7_stride 78 = .ok (.iload_n 3, 1) := by decide +kernel
theorem dX7_stride_79 : decode cX7_stride 79 = .ok (.invokevirtual 25, 3) := by decide +kernel
theorem dX7_stride_82 : decode cX7_stride 82 = .ok (.goto 11, 3) := by decide +kernel
theorem dX7_stride_85 : decode cX7_stride 85 = .ok (.aload_n 0, 1) := by decide +kernel
theorem dX7_stride_86 : decode cX7_stride 86 = .ok (.iload_n 2, 1) := by decide +kernel
theorem dX7_stride_87 : decode cX7_stride 87 = .ok (.iconst 2, 1) := by decide +kernel
theorem dX7_stride_88 : decode cX7_stride 88 = .ok (.iload 5, 2) := by decide +kernel
theorem dX7_stride_90 : decode cX7_stride 90 = .ok (.invokevirtual 29, 3) := by decide +kernel
theorem dX7_stride_93 : decode cX7_stride 93 = .ok (.return_, 1) := by decide +kernel
theorem dX7_stand_0 : decode cX7_stand 0 = .ok (.aload_n 0, 1) := by decide +kernel
theorem dX7_stand_1 : decode cX7_stand 1 = .ok (.iload_n 1, 1) := by decide +kernel
theorem dX7_stand_2 : decode cX7_stand 2 = .ok (.iconst 0, 1) := by decide +kernel
theorem dX7_stand_3 : decode cX7_stand 3 = .ok (.iload_n 2, 1) := by decide +kernel
theorem dX7_stand_4 : decode cX7_stand 4 = .ok (.invokevirtual 29, 3) := by decide +kernel
theorem dX7_stand_7 : decode cX7_stand 7 = .ok (.aload_n 0, 1) := by decide +kernel
theorem dX7_stand_8 : decode cX7_stand 8 = .ok (.iload_n 1, 1) := by decide +kernel
theorem dX7_stand_9 : decode cX7_stand 9 = .ok (.iconst 1, 1) := by decide +kernel
theorem dX7_stand_10 : decode cX7_stand 10 = .ok (.iconst (-1), 1) := by decide +kernel
theorem dX7_stand_11 : decode cX7_stand 11 = .ok (.invokevirtual 29, 3) := by decide +kernel
theorem dX7_stand_14 : decode cX7_stand 14 = .ok (.aload_n 0, 1) := by decide +kernel
theorem dX7_stand_15 : decode cX7_stand 15 = .ok (.iload_n 1, 1) := by decide +kernel
theorem dX7_stand_16 : decode cX7_stand 16 = .ok (.iconst 2, 1) := by decide +kernel
theorem dX7_stand_17 : decode cX7_stand 17 = .ok (.iconst 0, 1) := by decide +kernel
theorem dX7_stand_18 : decode cX7_stand 18 = .ok (.invokevirtual 29, 3) := by decide +kernel
theorem dX7_stand_21 : decode cX7_stand 21 = .ok (.return_, 1) := by decide +kernel
theorem dX7_get_0 : decode cX7_get 0 = .ok (.iconst 2, 1) := by decide +kernel
theorem dX7_get_1 : decode cX7_get 1 = .ok (.iload_n 1, 1) := by decide +kernel
theorem dX7_get_2 : decode cX7_get 2 = .ok (.iconst 4, 1) := by decide +kernel
theorem dX7_get_3 : decode cX7_get 3 = .ok (.imul, 1) := by decide +kernel
theorem dX7_get_4 : decode cX7_get 4 = .ok (.iadd, 1) := by decide +kernel
theorem dX7_get_5 : decode cX7_get 5 = .ok (.iload_n 2, 1) := by decide +kernel
theorem dX7_get_6 : decode cX7_get 6 = .ok (.iadd, 1) := by decide +kernel
theorem dX7_get_7 : decode cX7_get 7 = .ok (.istore_n 3, 1) := by decide +kernel
theorem dX7_get_8 : decode cX7_get 8 = .ok (.iload_n 3, 1) := by decide +kernel
theorem dX7_get_9 : decode cX7_get 9 = .ok (.ifCond .lt 21, 3) := by decide +kernel
theorem dX7_get_12 : decode cX7_get 12 = .ok (.iload_n 3, 1) := by decide +kernel
theorem dX7_get_13 : decode cX7_get 13 = .ok (.aload_n 0, 1) := by decide +kernel
theorem dX7_get_14 : decode cX7_get 14 = .ok (.getfield 13, 3) := by decide +kernel
theorem dX7_get_17 : decode cX7_get 17 = .ok (.arraylength, 1) := by decide +kernel
theorem dX7_get_18 : decode cX7_get 18 = .ok (.if_icmp .ge 12, 3) := by decide +kernel
theorem dX7_get_21 : decode cX7_get 21 = .ok (.aload_n 0, 1) := by decide +kernel
theorem dX7_get_22 : decode cX7_get 22 = .ok (.getfield 13, 3) := by decide +kernel
theorem dX7_get_25 : decode cX7_get 25 = .ok (.iload_n 3, 1) := by decide +kernel
theorem dX7_get_26 : decode cX7_get 26 = .ok (.iaload, 1) := by decide +kernel
theorem dX7_get_27 : decode cX7_get 27 = .ok (.goto 4, 3) := by decide +kernel
theorem dX7_get_30 : decode cX7_get 30 = .ok (.iconst (-1), 1) := by decide +kernel
theorem dX7_get_31 : decode cX7_get 31 = .ok (.ireturn, 1) := by decide +kernel
theorem dX7_set_0 : decode cX7_set 0 = .ok (.iconst 2, 1) := by decide +kernel
theorem dX7_set_1 : decode cX7_set 1 = .ok (.iload_n 1, 1) := by decide +kernel
theorem dX7_set_2 : decode cX7_set 2 = .ok (.iconst 4, 1) := by decide +kernel
theorem dX7_set_3 : decode cX7_set 3 = .ok (.imul, 1) := by decide +kernel
theorem dX7_set_4 : decode cX7_set 4 = .ok (.iadd, 1) := by decide +kernel
theorem dX7_set_5 : decode cX7_set 5 = .ok (.iload_n 2, 1) := by decide +kernel
theorem dX7_set_6 : decode cX7_set 6 = .ok (.iadd, 1) := by decide +kernel
theorem dX7_set_7 : decode cX7_set 7 = .ok (.istore 4, 2) := by decide +kernel
theorem dX7_set_9 : decode cX7_set 9 = .ok (.iload 4, 2) := by decide +kernel
theorem dX7_set_11 : decode cX7_set 11 = .ok (.ifCond .lt 21, 3) := by decide +kernel
theorem dX7_set_14 : decode cX7_set 14 = .ok (.iload 4, 2) := by decide +kernel
theorem dX7_set_16 : decode cX7_set 16 = .ok (.aload_n 0, 1) := by decide +kernel
theorem dX7_set_17 : decode cX7_set 17 = .ok (.getfield 13, 3) := by decide +kernel
theorem dX7_set_20 : decode cX7_set 20 = .ok (.arraylength, 1) := by decide +kernel
theorem dX7_set_21 : decode cX7_set 21 = .ok (.if_icmp .ge 11, 3) := by decide +kernel
theorem dX7_set_24 : decode cX7_set 24 = .ok (.aload_n 0, 1) := by decide +kernel
theorem dX7_set_25 : decode cX7_set 25 = .ok (.getfield 13, 3) := by decide +kernel
theorem dX7_set_28 : decode cX7_set 28 = .ok (.iload 4, 2) := by decide +kernel
theorem dX7_set_30 : decode cX7_set 30 = .ok (.iload_n 3, 1) := by decide +kernel
theorem dX7_set_31 : decode cX7_set 31 = .ok (.iastore, 1) := by decide +kernel
theorem dX7_set_32 : decode cX7_set 32 = .ok (.return_, 1) := by decide +kernel
theorem dX8_init_0 : decode cX8_init 0 = .ok (.aload_n 0, 1) := by decide +kernel
theorem dX8_init_1 : decode cX8_init 1 = .ok (.invokespecial 3, 3) := by decide +kernel
theorem dX8_init_4 : decode cX8_init 4 = .ok (.aload_n 0, 1) := by decide +kernel
theorem dX8_init_5 : decode cX8_init 5 = .ok (.iconst (-1), 1) := by decide +kernel
theorem dX8_init_6 : decode cX8_init 6 = .ok (.putfield 9, 3) := by decide +kernel
theorem dX8_init_9 : decode cX8_init 9 = .ok (.aload_n 0, 1) := by decide +kernel
theorem dX8_init_10 : decode cX8_init 10 = .ok (.iconst (-1), 1) := by decide +kernel
theorem dX8_init_11 : decode cX8_init 11 = .ok (.putfield 15, 3) := by decide +kernel
theorem dX8_init_14 : decode cX8_init 14 = .ok (.return_, 1) := by decide +kernel
theorem dX8_clear_0 : decode cX8_clear 0 = .ok (.aload_n 0, 1) := by decide +kernel
theorem dX8_clear_1 : decode cX8_clear 1 = .ok (.iconst (-1), 1) := by decide +kernel
theorem dX8_clear_2 : decode cX8_clear 2 = .ok (.putfield 9, 3) := by decide +kernel
theorem dX8_clear_5 : decode cX8_clear 5 = .ok (.aload_n 0, 1) := by decide +kernel
theorem dX8_clear_6 : decode cX8_clear 6 = .ok (.iconst (-1), 1) := by decide +kernel
theorem dX8_clear_7 : decode cX8_clear 7 = .ok (.putfield 15, 3) := by decide +kernel
theorem dX8_clear_10 : decode cX8_clear 10 = .ok (.aload_n 0, 1) := by decide +kernel
theorem dX8_clear_11 : decode cX8_clear 11 = .ok (.iconst 0, 1) := by decide +kernel
theorem dX8_clear_12 : decode cX8_clear 12 = .ok (.putfield 18, 3) := by decide +kernel
theorem dX8_clear_15 : decode cX8_clear 15 = .ok (.return_, 1) := by decide +kernel
theorem dX8_note_0 : decode cX8_note 0 = .ok (.aload_n 0, 1) := by decide +kernel
theorem dX8_note_1 : decode cX8_note 1 = .ok (.aload_n 0, 1) := by decide +kernel
theorem dX8_note_2 : decode cX8_note 2 = .ok (.getfield 18, 3) := by decide +kernel
theorem dX8_note_5 : decode cX8_note 5 = .ok (.ifCond .ne 7, 3) := by decide +kernel
theorem dX8_note_8 : decode cX8_note 8 = .ok (.iload_n 1, 1) := by decide +kernel
theorem dX8_note_9 : decode cX8_note 9 = .ok (.goto 7, 3) := by decide +kernel
theorem dX8_note_12 : decode cX8_note 12 = .ok (.aload_n 0, 1) := by decide +kernel
theorem dX8_note_13 : decode cX8_note 13 = .ok (.getfield 9, 3) := by decide +kernel
theorem dX8_note_16 : decode cX8_note 16 = .ok (.putfield 9, 3) := by decide +kernel
theorem dX8_note_19 : decode cX8_note 19 = .ok (.aload_n 0, 1) := by decide +kernel
theorem dX8_note_20 : decode cX8_note 20 = .ok (.iload_n 1, 1) := by decide +kernel
theorem dX8_note_21 : decode cX8_note 21 = .ok (.putfield 15, 3) := by decide +kernel
theorem dX8_note_24 : decode cX8_note 24 = .ok (.aload_n 0, 1) := by decide +kernel
theorem dX8_note_25 : decode cX8_note 25 = .ok (.dup, 1) := by decide +kernel
theorem dX8_note_26 : decode cX8_note 26 = .ok (.getfield 18, 3) := by decide +kernel
theorem dX8_note_29 : decode cX8_note 29 = .ok (.iconst 1, 1) := by decide +kernel
theorem dX8_note_30 : decode cX8_note 30 = .ok (.iadd, 1) := by decide +kernel
theorem dX8_note_31 : decode cX8_note 31 = .ok (.putfield 18, 3) := by decide +kernel
theorem dX8_note_34 : decode cX8_note 34 = .ok (.return_, 1) := by decide +kernel
theorem dX8_first_0 : decode cX8_first 0 = .ok (.aload_n 0, 1) := by decide +kernel
theorem dX8_first_1 : decode cX8_first 1 = .ok (.getfield 9, 3) := by decide +kernel
theorem dX8_first_4 : decode cX8_first 4 = .ok (.ireturn, 1) := by decide +kernel
theorem dX8_last_0 : decode cX8_last 0 = .ok (.aload_n 0, 1) := by decide +kernel
theorem dX8_last_1 : decode cX8_last 1 = .ok (.getfield 15, 3) := by decide +kernel
theorem dX8_last_4 : decode cX8_last 4 = .ok (.ireturn, 1) := by decide +kernel
theorem dX8_size_0 : decode cX8_size 0 = .ok (.aload_n 0, 1) := by decide +kernel
theorem dX8_size_1 : decode cX8_size 1 = .ok (.getfield 18, 3) := by decide +kernel
theorem dX8_size_4 : decode cX8_size 4 = .ok (.ireturn, 1) := by decide +kernel
theorem dX9_init_0 : decode cX9_init 0 = .ok (.aload_n 0, 1) := by decide +kernel
theorem dX9_init_1 : decode cX9_init 1 = .ok (.invokespecial 1, 3) := by decide +kernel
theorem dX9_init_4 : decode cX9_init 4 = .ok (.aload_n 0, 1) := by decide +kernel
theorem dX9_init_5 : decode cX9_init 5 = .ok (.new 7, 3) := by decide +kernel
theorem dX9_init_8 : decode cX9_init 8 = .ok (.dup, 1) := by decide +kernel
theorem dX9_init_9 : decode cX9_init 9 = .ok (.invokespecial 9, 3) := by decide +kernel
theorem dX9_init_12 : decode cX9_init 12 = .ok (.putfield 10, 3) := by decide +kernel
theorem dX9_init_15 : decode cX9_init 15 = .ok (.aload_n 0, 1) := by decide +kernel
theorem dX9_init_16 : decode cX9_init 16 = .ok (.new 7, 3) := by decide +kernel
theorem dX9_init_19 : decode cX9_init 19 = .ok (.dup, 1) := by decide +kernel
theorem dX9_init_20 : decode cX9_init 20 = .ok (.invokespecial 9, 3) := by decide +kernel
theorem dX9_init_23 : decode cX9_init 23 = .ok (.putfield 16, 3) := by decide +kernel
theorem dX9_init_26 : decode cX9_init 26 = .ok (.aload_n 0, 1) := by decide +kernel
theorem dX9_init_27 : decode cX9_init 27 = .ok (.new 19, 3) := by decide +kernel
theorem dX9_init_30 : decode cX9_init 30 = .ok (.dup, 1) := by decide +kernel
theorem dX9_init_31 : decode cX9_init 31 = .ok (.invokespecial 21, 3) := by decide +kernel
theorem dX9_init_34 : decode cX9_init 34 = .ok (.putfield 22, 3) := by decide +kernel
theorem dX9_init_37 : decode cX9_init 37 = .ok (.aload_n 0, 1) := by decide +kernel
theorem dX9_init_38 : decode cX9_init 38 = .ok (.new 26, 3) := by decide +kernel
theorem dX9_init_41 : decode cX9_init 41 = .ok (.dup, 1) := by decide +kernel
theorem dX9_init_42 : decode cX9_init 42 = .ok (.invokespecial 28, 3) := by decide +kernel
theorem dX9_init_45 : decode cX9_init 45 = .ok (.putfield 29, 3) := by decide +kernel
theorem dX9_init_48 : decode cX9_init 48 = .ok (.aload_n 0, 1) := by decide +kernel
theorem dX9_init_49 : decode cX9_init 49 = .ok (.new 26, 3) := by decide +kernel
theorem dX9_init_52 : decode cX9_init 52 = .ok (.dup, 1) := by decide +kernel
theorem dX9_init_53 : decode cX9_init 53 = .ok (.invokespecial 28, 3) := by decide +kernel
theorem dX9_init_56 : decode cX9_init 56 = .ok (.putfield 33, 3) := by decide +kernel
theorem dX9_init_59 : decode cX9_init 59 = .ok (.aload_n 0, 1) := by decide +kernel
theorem dX9_init_60 : decode cX9_init 60 = .ok (.new 36, 3) := by decide +kernel
theorem dX9_init_63 : decode cX9_init 63 = .ok (.dup, 1) := by decide +kernel
theorem dX9_init_64 : decode cX9_init 64 = .ok (.invokespecial 38, 3) := by decide +kernel
theorem dX9_init_67 : decode cX9_init 67 = .ok (.putfield 39, 3) := by decide +kernel
theorem dX9_init_70 : decode cX9_init 70 = .ok (.aload_n 0, 1) := by decide +kernel
theorem dX9_init_71 : decode cX9_init 71 = .ok (.new 43, 3) := by decide +kernel
theorem dX9_init_74 : decode cX9_init 74 = .ok (.dup, 1) := by decide +kernel
theorem dX9_init_75 : decode cX9_init 75 = .ok (.invokespecial 45, 3) := by decide +kernel
theorem dX9_init_78 : decode cX9_init 78 = .ok (.putfield 46, 3) := by decide +kernel
theorem dX9_init_81 : decode cX9_init 81 = .ok (.aload_n 0, 1) := by decide +kernel
theorem dX9_init_82 : decode cX9_init 82 = .ok (.new 50, 3) := by decide +kernel
theorem dX9_init_85 : decode cX9_init 85 = .ok (.dup, 1) := by decide +kernel
theorem dX9_init_86 : decode cX9_init 86 = .ok (.bipush 6, 2) := by decide +kernel
theorem dX9_init_88 : decode cX9_init 88 = .ok (.invokespecial 52, 3) := by decide +kernel
theorem dX9_init_91 : decode cX9_init 91 = .ok (.putfield 55, 3) := by decide +kernel
theorem dX9_init_94 : decode cX9_init 94 = .ok (.aload_n 0, 1) := by decide +kernel
theorem dX9_init_95 : decode cX9_init 95 = .ok (.new 50, 3) := by decide +kernel
theorem dX9_init_98 : decode cX9_init 98 = .ok (.dup, 1) := by decide +kernel
theorem dX9_init_99 : decode cX9_init 99 = .ok (.bipush 20, 2) := by decide +kernel
theorem dX9_init_101 : decode cX9_init 101 = .ok (.invokespecial 52, 3) := by decide +kernel
theorem dX9_init_104 : decode cX9_init 104 = .ok (.putfield 59, 3) := by decide +kernel
theorem dX9_init_107 : decode cX9_init 107 = .ok (.aload_n 0, 1) := by decide +kernel
theorem dX9_init_108 : decode cX9_init 108 = .ok (.new 62, 3) := by decide +kernel
theorem dX9_init_111 : decode cX9_init 111 = .ok (.dup, 1) := by decide +kernel
theorem dX9_init_112 : decode cX9_init 112 = .ok (.invokespecial 64, 3) := by decide +kernel
theorem dX9_init_115 : decode cX9_init 115 = .ok (.putfield 65, 3) := by decide +kernel
theorem dX9_init_118 : decode cX9_init 118 = .ok (.aload_n 0, 1) := by decide +kernel
theorem dX9_init_119 : decode cX9_init 119 = .ok (.new 69, 3) := by decide +kernel
theorem dX9_init_122 : decode cX9_init 122 = .ok (.dup, 1) := by decide +kernel
theorem dX9_init_123 : decode cX9_init 123 = .ok (.invokespecial 71, 3) := by decide +kernel
theorem dX9_init_126 : decode cX9_init 126 = .ok (.putfield 72, 3) := by decide +kernel
theorem dX9_init_129 : decode cX9_init 129 = .ok (.aload_n 0, 1) := by decide +kernel
theorem dX9_init_130 : decode cX9_init 130 = .ok (.new 76, 3) := by decide +kernel
theorem dX9_init_133 : decode cX9_init 133 = .ok (.dup, 1) := by decide +kernel
theorem dX9_init_134 : decode cX9_init 134 = .ok (.invokespecial 78, 3) := by decide +kernel
theorem dX9_init_137 : decode cX9_init 137 = .ok (.putfield 79, 3) := by decide +kernel
theorem dX9_init_140 : decode cX9_init 140 = .ok (.return_, 1) := by decide +kernel
theorem dX9_feed_0 : decode cX9_feed 0 = .ok (.iload_n 1, 1) := by decide +kernel
theorem dX9_feed_1 : decode cX9_feed 1 = .ok (.iconst 0, 1) := by decide +kernel
theorem dX9_feed_2 : decode cX9_feed 2 = .ok (.sipush 255, 3) := by decide +kernel
theorem dX9_feed_5 : decode cX9_feed 5 = .ok (.invokestatic 83, 3) := by decide +kernel
theorem dX9_feed_8 : decode cX9_feed 8 = .ok (.ifCond .ne 6, 3) := by decide +kernel
theorem dX9_feed_11 : decode cX9_feed 11 = .ok (.ldc 87, 2) := by decide +kernel
theorem dX9_feed_13 : decode cX9_feed 13 = .ok (.ireturn, 1) := by decide +kernel
theorem dX9_feed_14 : decode cX9_feed 14 = .ok (.aload_n 0, 1) := by decide +kernel
theorem dX9_feed_15 : decode cX9_feed 15 = .ok (.getfield 22, 3) := by decide +kernel
theorem dX9_feed_18 : decode cX9_feed 18 = .ok (.iload_n 1, 1) := by decide +kernel
theorem dX9_feed_19 : decode cX9_feed 19 = .ok (.invokevirtual 88, 3) := by decide +kernel
theorem dX9_feed_22 : decode cX9_feed 22 = .ok (.ifCond .eq 13, 3) := by decide +kernel
theorem dX9_feed_25 : decode cX9_feed 25 = .ok (.aload_n 0, 1) := by decide +kernel
theorem dX9_feed_26 : decode cX9_feed 26 = .ok (.getfield 22, 3) := by decide +kernel
theorem dX9_feed_29 : decode cX9_feed 29 = .ok (.invokevirtual 92, 3) := by decide +kernel
theorem dX9_feed_32 : decode cX9_feed 32 = .ok (.goto 5, 3) := by decide +kernel
theorem dX9_feed_35 : decode cX9_feed 35 = .ok (.ldc 96, 2) := by decide +kernel
theorem dX9_feed_37 : decode cX9_feed 37 = .ok (.ireturn, 1) := by decide +kernel
theorem dX9_street_0 : decode cX9_street 0 = .ok (.aload_n 0, 1) := by decide +kernel
theorem dX9_street_1 : decode cX9_street 1 = .ok (.getfield 16, 3) := by decide +kernel
theorem dX9_street_4 : decode cX9_street 4 = .ok (.invokevirtual 97, 3) := by decide +kernel
theorem dX9_street_7 : decode cX9_street 7 = .ok (.aload_n 0, 1) := by decide +kernel
theorem dX9_street_8 : decode cX9_street 8 = .ok (.getfield 22, 3) := by decide +kernel
theorem dX9_street_11 : decode cX9_street 11 = .ok (.aload_n 0, 1) := by decide +kernel
theorem dX9_street_12 : decode cX9_street 12 = .ok (.getfield 16, 3) := by decide +kernel
theorem dX9_street_15 : decode cX9_street 15 = .ok (.invokevirtual 100, 3) := by decide +kernel
theorem dX9_street_18 : decode cX9_street 18 = .ok (.istore_n 1, 1) := by decide +kernel
theorem dX9_street_19 : decode cX9_street 19 = .ok (.aload_n 0, 1) := by decide +kernel
theorem dX9_street_20 : decode cX9_street 20 = .ok (.getfield 22, 3) := by decide +kernel
theorem dX9_street_23 : decode cX9_street 23 = .ok (.invokevirtual 104, 3) := by decide +kernel
theorem dX9_street_26 : decode cX9_street 26 = .ok (.iload_n 1, 1) := by decide +kernel
theorem dX9_street_27 : decode cX9_street 27 = .ok (.ifCond .eq 8, 3) := by decide +kernel
theorem dX9_street_30 : decode cX9_street 30 = .ok (.bipush (-10), 2) := by decide +kernel
theorem dX9_street_32 : decode cX9_street 32 = .ok (.iload_n 1, 1) := by decide +kernel
theorem dX9_street_33 : decode cX9_street 33 = .ok (.isub, 1) := by decide +kernel
theorem dX9_street_34 : decode cX9_street 34 = .ok (.ireturn, 1) := by decide +kernel
theorem dX9_street_35 : decode cX9_street 35 = .ok (.aload_n 0, 1) := by decide +kernel
theorem dX9_street_36 : decode cX9_street 36 = .ok (.getfield 10, 3) := by decide +kernel
theorem dX9_street_39 : decode cX9_street 39 = .ok (.astore_n 2, 1) := by decide +kernel
theorem dX9_street_40 : decode cX9_street 40 = .ok (.aload_n 0, 1) := by decide +kernel
theorem dX9_street_41 : decode cX9_street 41 = .ok (.aload_n 0, 1) := by decide +kernel
theorem dX9_street_42 : decode cX9_street 42 = .ok (.getfield 16, 3) := by decide +kernel
theorem dX9_street_45 : decode cX9_street 45 = .ok (.putfield 10, 3) := by decide +kernel
theorem dX9_street_48 : decode cX9_street 48 = .ok (.aload_n 0, 1) := by decide +kernel
theorem dX9_street_49 : decode cX9_street 49 = .ok (.aload_n 2, 1) := by decide +kernel
theorem dX9_street_50 : decode cX9_street 50 = .ok (.putfield 16, 3) := by decide +kernel
theorem dX9_street_53 : decode cX9_street 53 = .ok (.aload_n 0, 1) := by decide +kernel
theorem dX9_street_54 : decode cX9_street 54 = .ok (.getfield 29, 3) := by decide +kernel
theorem dX9_street_57 : decode cX9_street 57 = .ok (.aload_n 0, 1) := by decide +kernel
theorem dX9_street_58 : decode cX9_street 58 = .ok (.getfield 10, 3) := by decide +kernel
theorem dX9_street_61 : decode cX9_street 61 = .ok (.invokevirtual 107, 3) := by decide +kernel
theorem dX9_street_64 : decode cX9_street 64 = .ok (.aload_n 0, 1) := by decide +kernel
theorem dX9_street_65 : decode cX9_street 65 = .ok (.getfield 39, 3) := by decide +kernel
theorem dX9_street_68 : decode cX9_street 68 = .ok (.invokevirtual 111, 3) := by decide +kernel
theorem dX9_street_71 : decode cX9_street 71 = .ok (.aload_n 0, 1) := by decide +kernel
theorem dX9_street_72 : decode cX9_street 72 = .ok (.getfield 46, 3) := by decide +kernel
theorem dX9_street_75 : decode cX9_street 75 = .ok (.invokevirtual 114, 3) := by decide +kernel
theorem dX9_street_78 : decode cX9_street 78 = .ok (.aload_n 0, 1) := by decide +kernel
theorem dX9_street_79 : decode cX9_street 79 = .ok (.getfield 55, 3) := by decide +kernel
theorem dX9_street_82 : decode cX9_street 82 = .ok (.invokevirtual 115, 3) := by decide +kernel
theorem dX9_street_85 : decode cX9_street 85 = .ok (.aload_n 0, 1) := by decide +kernel
theorem dX9_street_86 : decode cX9_street 86 = .ok (.getfield 59, 3) := by decide +kernel
theorem dX9_street_89 : decode cX9_street 89 = .ok (.invokevirtual 115, 3) := by decide +kernel
theorem dX9_street_92 : decode cX9_street 92 = .ok (.aload_n 0, 1) := by decide +kernel
theorem dX9_street_93 : decode cX9_street 93 = .ok (.getfield 10, 3) := by decide +kernel
theorem dX9_street_96 : decode cX9_street 96 = .ok (.invokevirtual 116, 3) := by decide +kernel
theorem dX9_street_99 : decode cX9_street 99 = .ok (.ireturn, 1) := by decide +kernel
theorem dX9_fault_0 : decode cX9_fault 0 = .ok (.aload_n 0, 1) := by decide +kernel
theorem dX9_fault_1 : decode cX9_fault 1 = .ok (.getfield 22, 3) := by decide +kernel
theorem dX9_fault_4 : decode cX9_fault 4 = .ok (.invokevirtual 119, 3) := by decide +kernel
theorem dX9_fault_7 : decode cX9_fault 7 = .ok (.ireturn, 1) := by decide +kernel
theorem dX9_told_0 : decode cX9_told 0 = .ok (.iload_n 1, 1) := by decide +kernel
theorem dX9_told_1 : decode cX9_told 1 = .ok (.tableswitch 147 0 10 #[59, 67, 75, 83, 91, 99, 107, 115, 123, 131, 139], 59) := by decide +kernel
theorem dX9_told_60 : decode cX9_told 60 = .ok (.aload_n 0, 1) := by decide +kernel
theorem dX9_told_61 : decode cX9_told 61 = .ok (.getfield 10, 3) := by decide +kernel
theorem dX9_told_64 : decode cX9_told 64 = .ok (.invokevirtual 122, 3) := by decide +kernel
theorem dX9_told_67 : decode cX9_told 67 = .ok (.ireturn, 1) := by decide +kernel
theorem dX9_told_68 : decode cX9_told 68 = .ok (.aload_n 0, 1) := by decide +kernel
theorem dX9_told_69 : decode cX9_told 69 = .ok (.getfield 10, 3) := by decide +kernel
theorem dX9_told_72 : decode cX9_told 72 = .ok (.invokevirtual 125, 3) := by decide +kernel
theorem dX9_told_75 : decode cX9_told 75 = .ok (.ireturn, 1) := by decide +kernel
theorem dX9_told_76 : decode cX9_told 76 = .ok (.aload_n 0, 1) := by decide +kernel
theorem dX9_told_77 : decode cX9_told 77 = .ok (.getfield 10, 3) := by decide +kernel
theorem dX9_told_80 : decode cX9_told 80 = .ok (.invokevirtual 128, 3) := by decide +kernel
theorem dX9_told_83 : decode cX9_told 83 = .ok (.ireturn, 1) := by decide +kernel
theorem dX9_told_84 : decode cX9_told 84 = .ok (.aload_n 0, 1) := by decide +kernel
theorem dX9_told_85 : decode cX9_told 85 = .ok (.getfield 10, 3) := by decide +kernel
theorem dX9_told_88 : decode cX9_told 88 = .ok (.invokevirtual 131, 3) := by decide +kernel
theorem dX9_told_91 : decode cX9_told 91 = .ok (.ireturn, 1) := by decide +kernel
theorem dX9_told_92 : decode cX9_told 92 = .ok (.aload_n 0, 1) := by decide +kernel
theorem dX9_told_93 : decode cX9_told 93 = .ok (.getfield 10, 3) := by decide +kernel
theorem dX9_told_96 : decode cX9_told 96 = .ok (.invokevirtual 116, 3) := by decide +kernel
theorem dX9_told_99 : decode cX9_told 99 = .ok (.ireturn, 1) := by decide +kernel
theorem dX9_told_100 : decode cX9_told 100 = .ok (.aload_n 0, 1) := by decide +kernel
theorem dX9_told_101 : decode cX9_told 101 = .ok (.getfield 22, 3) := by decide +kernel
theorem dX9_told_104 : decode cX9_told 104 = .ok (.invokevirtual 92, 3) := by decide +kernel
theorem dX9_told_107 : decode cX9_told 107 = .ok (.ireturn, 1) := by decide +kernel
theorem dX9_told_108 : decode cX9_told 108 = .ok (.aload_n 0, 1) := by decide +kernel
theorem dX9_told_109 : decode cX9_told 109 = .ok (.getfield 29, 3) := by decide +kernel
theorem dX9_told_112 : decode cX9_told 112 = .ok (.invokevirtual 134, 3) := by decide +kernel
theorem dX9_told_115 : decode cX9_told 115 = .ok (.ireturn, 1) := by decide +kernel
theorem dX9_told_116 : decode cX9_told 116 = .ok (.aload_n 0, 1) := by decide +kernel
theorem dX9_told_117 : decode cX9_told 117 = .ok (.getfield 29, 3) := by decide +kernel
theorem dX9_told_120 : decode cX9_told 120 = .ok (.invokevirtual 137, 3) := by decide +kernel
theorem dX9_told_123 : decode cX9_told 123 = .ok (.ireturn, 1) := by decide +kernel
theorem dX9_told_124 : decode cX9_told 124 = .ok (.aload_n 0, 1) := by decide +kernel
theorem dX9_told_125 : decode cX9_told 125 = .ok (.getfield 55, 3) := by decide +kernel
theorem dX9_told_128 : decode cX9_told 128 = .ok (.invokevirtual 140, 3) := by decide +kernel
theorem dX9_told_131 : decode cX9_told 131 = .ok (.ireturn, 1) := by decide +kernel
theorem dX9_told_132 : decode cX9_told 132 = .ok (.aload_n 0, 1) := by decide +kernel
theorem dX9_told_133 : decode cX9_told 133 = .ok (.getfield 59, 3) := by decide +kernel
theorem dX9_told_136 : decode cX9_told 136 = .ok (.invokevirtual 140, 3) := by decide +kernel
theorem dX9_told_139 : decode cX9_told 139 = .ok (.ireturn, 1) := by decide +kernel
theorem dX9_told_140 : decode cX9_told 140 = .ok (.aload_n 0, 1) := by decide +kernel
theorem dX9_told_141 : decode cX9_told 141 = .ok (.getfield 39, 3) := by decide +kernel
theorem dX9_told_144 : decode cX9_told 144 = .ok (.invokevirtual 143, 3) := by decide +kernel
theorem dX9_told_147 : decode cX9_told 147 = .ok (.ireturn, 1) := by decide +kernel
theorem dX9_told_148 : decode cX9_told 148 = .ok (.ldc 87, 2) := by decide +kernel
theorem dX9_told_150 : decode cX9_told 150 = .ok (.ireturn, 1) := by decide +kernel
theorem dX9_gap_0 : decode cX9_gap 0 = .ok (.aload_n 0, 1) := by decide +kernel
theorem dX9_gap_1 : decode cX9_gap 1 = .ok (.getfield 10, 3) := by decide +kernel
theorem dX9_gap_4 : decode cX9_gap 4 = .ok (.iload_n 1, 1) := by decide +kernel
theorem dX9_gap_5 : decode cX9_gap 5 = .ok (.invokevirtual 144, 3) := by decide +kernel
theorem dX9_gap_8 : decode cX9_gap 8 = .ok (.ifCond .ne 6, 3) := by decide +kernel
theorem dX9_gap_11 : decode cX9_gap 11 = .ok (.ldc 147, 2) := by decide +kernel
theorem dX9_gap_13 : decode cX9_gap 13 = .ok (.ireturn, 1) := by decide +kernel
theorem dX9_gap_14 : decode cX9_gap 14 = .ok (.iload_n 2, 1) := by decide +kernel
theorem dX9_gap_15 : decode cX9_gap 15 = .ok (.tableswitch 87 0 3 #[29, 38, 54, 70], 29) := by decide +kernel
theorem dX9_gap_44 : decode cX9_gap 44 = .ok (.aload_n 0, 1) := by decide +kernel
theorem dX9_gap_45 : decode cX9_gap 45 = .ok (.getfield 10, 3) := by decide +kernel
theorem dX9_gap_48 : decode cX9_gap 48 = .ok (.iload_n 1, 1) := by decide +kernel
theorem dX9_gap_49 : decode cX9_gap 49 = .ok (.invokevirtual 148, 3) := by decide +kernel
theorem dX9_gap_52 : decode cX9_gap 52 = .ok (.ireturn, 1) := by decide +kernel
theorem dX9_gap_53 : decode cX9_gap 53 = .ok (.aload_n 0, 1) := by decide +kernel
theorem dX9_gap_54 : decode cX9_gap 54 = .ok (.getfield 10, 3) := by decide +kernel
theorem dX9_gap_57 : decode cX9_gap 57 = .ok (.iload_n 1, 1) := by decide +kernel
theorem dX9_gap_58 : decode cX9_gap 58 = .ok (.aload_n 0, 1) := by decide +kernel
theorem dX9_gap_59 : decode cX9_gap 59 = .ok (.getfield 29, 3) := by decide +kernel
theorem dX9_gap_62 : decode cX9_gap 62 = .ok (.invokevirtual 134, 3) := by decide +kernel
theorem dX9_gap_65 : decode cX9_gap 65 = .ok (.invokevirtual 152, 3) := by decide +kernel
theorem dX9_gap_68 : decode cX9_gap 68 = .ok (.ireturn, 1) := by decide +kernel
theorem dX9_gap_69 : decode cX9_gap 69 = .ok (.aload_n 0, 1) := by decide +kernel
theorem dX9_gap_70 : decode cX9_gap 70 = .ok (.getfield 10, 3) := by decide +kernel
theorem dX9_gap_73 : decode cX9_gap 73 = .ok (.iload_n 1, 1) := by decide +kernel
theorem dX9_gap_74 : decode cX9_gap 74 = .ok (.aload_n 0, 1) := by decide +kernel
theorem dX9_gap_75 : decode cX9_gap 75 = .ok (.getfield 29, 3) := by decide +kernel
theorem dX9_gap_78 : decode cX9_gap 78 = .ok (.invokevirtual 134, 3) := by decide +kernel
theorem dX9_gap_81 : decode cX9_gap 81 = .ok (.invokevirtual 156, 3) := by decide +kernel
theorem dX9_gap_84 : decode cX9_gap 84 = .ok (.ireturn, 1) := by decide +kernel
theorem dX9_gap_85 : decode cX9_gap 85 = .ok (.aload_n 0, 1) := by decide +kernel
theorem dX9_gap_86 : decode cX9_gap 86 = .ok (.getfield 29, 3) := by decide +kernel
theorem dX9_gap_89 : decode cX9_gap 89 = .ok (.iload_n 1, 1) := by decide +kernel
theorem dX9_gap_90 : decode cX9_gap 90 = .ok (.invokevirtual 159, 3) := by decide +kernel
theorem dX9_gap_93 : decode cX9_gap 93 = .ok (.ifCond .eq 7, 3) := by decide +kernel
theorem dX9_gap_96 : decode cX9_gap 96 = .ok (.iconst 1, 1) := by decide +kernel
theorem dX9_gap_97 : decode cX9_gap 97 = .ok (.goto 4, 3) := by decide +kernel
theorem dX9_gap_100 : decode cX9_gap 100 = .ok (.iconst 0, 1) := by decide +kernel
theorem dX9_gap_101 : decode cX9_gap 101 = .ok (.ireturn, 1) := by decide +kernel
theorem dX9_gap_102 : decode cX9_gap 102 = .ok (.ldc 87, 2) := by decide +kernel
theorem dX9_gap_104 : decode cX9_gap 104 = .ok (.ireturn, 1) := by decide +kernel
theorem dX9_walker_0 : decode cX9_walker 0 = .ok (.aload_n 0, 1) := by decide +kernel
theorem dX9_walker_1 : decode cX9_walker 1 = .ok (.getfield 10, 3) := by decide +kernel
theorem dX9_walker_4 : decode cX9_walker 4 = .ok (.iload_n 1, 1) := by decide +kernel
theorem dX9_walker_5 : decode cX9_walker 5 = .ok (.invokevirtual 162, 3) := by decide +kernel
theorem dX9_walker_8 : decode cX9_walker 8 = .ok (.ifCond .ne 6, 3) := by decide +kernel
theorem dX9_walker_11 : decode cX9_walker 11 = .ok (.ldc 147, 2) := by decide +kernel
theorem dX9_walker_13 : decode cX9_walker 13 = .ok (.ireturn, 1) := by decide +kernel
theorem dX9_walker_14 : decode cX9_walker 14 = .ok (.iload_n 2, 1) := by decide +kernel
theorem dX9_walker_15 : decode cX9_walker 15 = .ok (.tableswitch 95 0 5 #[37, 46, 55, 64, 73, 82], 37) := by decide +kernel
theorem dX9_walker_52 : decode cX9_walker 52 = .ok (.aload_n 0, 1) := by decide +kernel
theorem dX9_walker_53 : decode cX9_walker 53 = .ok (.getfield 29, 3) := by decide +kernel
theorem dX9_walker_56 : decode cX9_walker 56 = .ok (.iload_n 1, 1) := by decide +kernel
theorem dX9_walker_57 : decode cX9_walker 57 = .ok (.invokevirtual 165, 3) := by decide +kernel
theorem dX9_walker_60 : decode cX9_walker 60 = .ok (.ireturn, 1) := by decide +kernel
theorem dX9_walker_61 : decode cX9_walker 61 = .ok (.aload_n 0, 1) := by decide +kernel
theorem dX9_walker_62 : decode cX9_walker 62 = .ok (.getfield 29, 3) := by decide +kernel
theorem dX9_walker_65 : decode cX9_walker 65 = .ok (.iload_n 1, 1) := by decide +kernel
theorem dX9_walker_66 : decode cX9_walker 66 = .ok (.invokevirtual 168, 3) := by decide +kernel
theorem dX9_walker_69 : decode cX9_walker 69 = .ok (.ireturn, 1) := by decide +kernel
theorem dX9_walker_70 : decode cX9_walker 70 = .ok (.aload_n 0, 1) := by decide +kernel
theorem dX9_walker_71 : decode cX9_walker 71 = .ok (.getfield 29, 3) := by decide +kernel
theorem dX9_walker_74 : decode cX9_walker 74 = .ok (.iload_n 1, 1) := by decide +kernel
theorem dX9_walker_75 : decode cX9_walker 75 = .ok (.invokevirtual 171, 3) := by decide +kernel
theorem dX9_walker_78 : decode cX9_walker 78 = .ok (.ireturn, 1) := by decide +kernel
theorem dX9_walker_79 : decode cX9_walker 79 = .ok (.aload_n 0, 1) := by decide +kernel
theorem dX9_walker_80 : decode cX9_walker 80 = .ok (.getfield 29, 3) := by decide +kernel
theorem dX9_walker_83 : decode cX9_walker 83 = .ok (.iload_n 1, 1) := by decide +kernel
theorem dX9_walker_84 : decode cX9_walker 84 = .ok (.invokevirtual 174, 3) := by decide +kernel
theorem dX9_walker_87 : decode cX9_walker 87 = .ok (.ireturn, 1) := by decide +kernel
theorem dX9_walker_88 : decode cX9_walker 88 = .ok (.aload_n 0, 1) := by decide +kernel
theorem dX9_walker_89 : decode cX9_walker 89 = .ok (.getfield 10, 3) := by decide +kernel
theorem dX9_walker_92 : decode cX9_walker 92 = .ok (.iload_n 1, 1) := by decide +kernel
theorem dX9_walker_93 : decode cX9_walker 93 = .ok (.invokevirtual 177, 3) := by decide +kernel
theorem dX9_walker_96 : decode cX9_walker 96 = .ok (.ireturn, 1) := by decide +kernel
theorem dX9_walker_97 : decode cX9_walker 97 = .ok (.aload_n 0, 1) := by decide +kernel
theorem dX9_walker_98 : decode cX9_walker 98 = .ok (.getfield 29, 3) := by decide +kernel
theorem dX9_walker_101 : decode cX9_walker 101 = .ok (.aload_n 0, 1) := by decide +kernel
theorem dX9_walker_102 : decode cX9_walker 102 = .ok (.getfield 10, 3) := by decide +kernel
theorem dX9_walker_105 : decode cX9_walker 105 = .ok (.iload_n 1, 1) := by decide +kernel
theorem dX9_walker_106 : decode cX9_walker 106 = .ok (.invokevirtual 180, 3) := by decide +kernel
theorem dX9_walker_109 : decode cX9_walker 109 = .ok (.ireturn, 1) := by decide +kernel
theorem dX9_walker_110 : decode cX9_walker 110 = .ok (.ldc 87, 2) := by decide +kernel
theorem dX9_walker_112 : decode cX9_walker 112 = .ok (.ireturn, 1) := by decide +kernel
theorem dX9_go_0 : decode cX9_go 0 = .ok (.aload_n 0, 1) := by decide +kernel
theorem dX9_go_1 : decode cX9_go 1 = .ok (.getfield 10, 3) := by decide +kernel
theorem dX9_go_4 : decode cX9_go 4 = .ok (.iload_n 1, 1) := by decide +kernel
theorem dX9_go_5 : decode cX9_go 5 = .ok (.invokevirtual 162, 3) := by decide +kernel
theorem dX9_go_8 : decode cX9_go 8 = .ok (.ifCond .ne 6, 3) := by decide +kernel
theorem dX9_go_11 : decode cX9_go 11 = .ok (.ldc 147, 2) := by decide +kernel
theorem dX9_go_13 : decode cX9_go 13 = .ok (.ireturn, 1) := by decide +kernel
theorem dX9_go_14 : decode cX9_go 14 = .ok (.iload_n 2, 1) := by decide +kernel
theorem dX9_go_15 : decode cX9_go 15 = .ok (.iconst 0, 1) := by decide +kernel
theorem dX9_go_16 : decode cX9_go 16 = .ok (.iconst 2, 1) := by decide +kernel
theorem dX9_go_17 : decode cX9_go 17 = .ok (.invokestatic 83, 3) := by decide +kernel
theorem dX9_go_20 : decode cX9_go 20 = .ok (.ifCond .ne 6, 3) := by decide +kernel
theorem dX9_go_23 : decode cX9_go 23 = .ok (.ldc 87, 2) := by decide +kernel
theorem dX9_go_25 : decode cX9_go 25 = .ok (.ireturn, 1) := by decide +kernel
theorem dX9_go_26 : decode cX9_go 26 = .ok (.aload_n 0, 1) := by decide +kernel
theorem dX9_go_27 : decode cX9_go 27 = .ok (.getfield 29, 3) := by decide +kernel
theorem dX9_go_30 : decode cX9_go 30 = .ok (.iload_n 1, 1) := by decide +kernel
theorem dX9_go_31 : decode cX9_go 31 = .ok (.invokevirtual 184, 3) := by decide +kernel
theorem dX9_go_34 : decode cX9_go 34 = .ok (.ifCond .eq 11, 3) := by decide +kernel
theorem dX9_go_37 : decode cX9_go 37 = .ok (.iload_n 2, 1) := by decide +kernel
theorem dX9_go_38 : decode cX9_go 38 = .ok (.iconst 1, 1) := by decide +kernel
theorem dX9_go_39 : decode cX9_go 39 = .ok (.if_icmp .ne 6, 3) := by decide +kernel
theorem dX9_go_42 : decode cX9_go 42 = .ok (.ldc 187, 2) := by decide +kernel
theorem dX9_go_44 : decode cX9_go 44 = .ok (.ireturn, 1) := by decide +kernel
theorem dX9_go_45 : decode cX9_go 45 = .ok (.aload_n 0, 1) := by decide +kernel
theorem dX9_go_46 : decode cX9_go 46 = .ok (.getfield 39, 3) := by decide +kernel
theorem dX9_go_49 : decode cX9_go 49 = .ok (.aload_n 0, 1) := by decide +kernel
theorem dX9_go_50 : decode cX9_go 50 = .ok (.getfield 29, 3) := by decide +kernel
theorem dX9_go_53 : decode cX9_go 53 = .ok (.invokevirtual 188, 3) := by decide +kernel
theorem dX9_go_56 : decode cX9_go 56 = .ok (.aload_n 0, 1) := by decide +kernel
theorem dX9_go_57 : decode cX9_go 57 = .ok (.getfield 29, 3) := by decide +kernel
theorem dX9_go_60 : decode cX9_go 60 = .ok (.aload_n 0, 1) := by decide +kernel
theorem dX9_go_61 : decode cX9_go 61 = .ok (.getfield 10, 3) := by decide +kernel
theorem dX9_go_64 : decode cX9_go 64 = .ok (.iload_n 1, 1) := by decide +kernel
theorem dX9_go_65 : decode cX9_go 65 = .ok (.iload_n 2, 1) := by decide +kernel
theorem dX9_go_66 : decode cX9_go 66 = .ok (.invokevirtual 192, 3) := by decide +kernel
theorem dX9_go_69 : decode cX9_go 69 = .ok (.aload_n 0, 1) := by decide +kernel
theorem dX9_go_70 : decode cX9_go 70 = .ok (.getfield 29, 3) := by decide +kernel
theorem dX9_go_73 : decode cX9_go 73 = .ok (.aload_n 0, 1) := by decide +kernel
theorem dX9_go_74 : decode cX9_go 74 = .ok (.getfield 10, 3) := by decide +kernel
theorem dX9_go_77 : decode cX9_go 77 = .ok (.iload_n 1, 1) := by decide +kernel
theorem dX9_go_78 : decode cX9_go 78 = .ok (.invokevirtual 180, 3) := by decide +kernel
theorem dX9_go_81 : decode cX9_go 81 = .ok (.ireturn, 1) := by decide +kernel
theorem dX9_rope_0 : decode cX9_rope 0 = .ok (.aload_n 0, 1) := by decide +kernel
theorem dX9_rope_1 : decode cX9_rope 1 = .ok (.getfield 10, 3) := by decide +kernel
theorem dX9_rope_4 : decode cX9_rope 4 = .ok (.iload_n 1, 1) := by decide +kernel
theorem dX9_rope_5 : decode cX9_rope 5 = .ok (.invokevirtual 144, 3) := by decide +kernel
theorem dX9_rope_8 : decode cX9_rope 8 = .ok (.ifCond .ne 6, 3) := by decide +kernel
theorem dX9_rope_11 : decode cX9_rope 11 = .ok (.ldc 147, 2) := by decide +kernel
theorem dX9_rope_13 : decode cX9_rope 13 = .ok (.ireturn, 1) := by decide +kernel
theorem dX9_rope_14 : decode cX9_rope 14 = .ok (.aload_n 0, 1) := by decide +kernel
theorem dX9_rope_15 : decode cX9_rope 15 = .ok (.getfield 29, 3) := by decide +kernel
theorem dX9_rope_18 : decode cX9_rope 18 = .ok (.iload_n 1, 1) := by decide +kernel
theorem dX9_rope_19 : decode cX9_rope 19 = .ok (.invokevirtual 159, 3) := by decide +kernel
theorem dX9_rope_22 : decode cX9_rope 22 = .ok (.ifCond .eq 7, 3) := by decide +kernel
theorem dX9_rope_25 : decode cX9_rope 25 = .ok (.iconst 1, 1) := by decide +kernel
theorem dX9_rope_26 : decode cX9_rope 26 = .ok (.goto 4, 3) := by decide +kernel
theorem dX9_rope_29 : decode cX9_rope 29 = .ok (.iconst 0, 1) := by decide +kernel
theorem dX9_rope_30 : decode cX9_rope 30 = .ok (.istore_n 3, 1) := by decide +kernel
theorem dX9_rope_31 : decode cX9_rope 31 = .ok (.aload_n 0, 1) := by decide +kernel
theorem dX9_rope_32 : decode cX9_rope 32 = .ok (.getfield 39, 3) := by decide +kernel
theorem dX9_rope_35 : decode cX9_rope 35 = .ok (.aload_n 0, 1) := by decide +kernel
theorem dX9_rope_36 : decode cX9_rope 36 = .ok (.getfield 29, 3) := by decide +kernel
theorem dX9_rope_39 : decode cX9_rope 39 = .ok (.invokevirtual 188, 3) := by decide +kernel
theorem dX9_rope_42 : decode cX9_rope 42 = .ok (.aload_n 0, 1) := by decide +kernel
theorem dX9_rope_43 : decode cX9_rope 43 = .ok (.getfield 29, 3) := by decide +kernel
theorem dX9_rope_46 : decode cX9_rope 46 = .ok (.iload_n 1, 1) := by decide +kernel
theorem dX9_rope_47 : decode cX9_rope 47 = .ok (.iload_n 2, 1) := by decide +kernel
theorem dX9_rope_48 : decode cX9_rope 48 = .ok (.invokevirtual 196, 3) := by decide +kernel
theorem dX9_rope_51 : decode cX9_rope 51 = .ok (.iload_n 3, 1) := by decide +kernel
theorem dX9_rope_52 : decode cX9_rope 52 = .ok (.ireturn, 1) := by decide +kernel
theorem dX9_minute_0 : decode cX9_minute 0 = .ok (.aload_n 0, 1) := by decide +kernel
theorem dX9_minute_1 : decode cX9_minute 1 = .ok (.iload_n 1, 1) := by decide +kernel
theorem dX9_minute_2 : decode cX9_minute 2 = .ok (.invokevirtual 200, 3) := by decide +kernel
theorem dX9_minute_5 : decode cX9_minute 5 = .ok (.istore_n 2, 1) := by decide +kernel
theorem dX9_minute_6 : decode cX9_minute 6 = .ok (.iload_n 2, 1) := by decide +kernel
theorem dX9_minute_7 : decode cX9_minute 7 = .ok (.ifCond .eq 5, 3) := by decide +kernel
theorem dX9_minute_10 : decode cX9_minute 10 = .ok (.iload_n 2, 1) := by decide +kernel
theorem dX9_minute_11 : decode cX9_minute 11 = .ok (.ireturn, 1) := by decide +kernel
theorem dX9_minute_12 : decode cX9_minute 12 = .ok (.iconst 0, 1) := by decide +kernel
theorem dX9_minute_13 : decode cX9_minute 13 = .ok (.istore_n 3, 1) := by decide +kernel
theorem dX9_minute_14 : decode cX9_minute 14 = .ok (.iload_n 3, 1) := by decide +kernel
theorem dX9_minute_15 : decode cX9_minute 15 = .ok (.iload_n 1, 1) := by decide +kernel
theorem dX9_minute_16 : decode cX9_minute 16 = .ok (.if_icmp .ge 31, 3) := by decide +kernel
theorem dX9_minute_19 : decode cX9_minute 19 = .ok (.aload_n 0, 1) := by decide +kernel
theorem dX9_minute_20 : decode cX9_minute 20 = .ok (.getfield 39, 3) := by decide +kernel
theorem dX9_minute_23 : decode cX9_minute 23 = .ok (.aload_n 0, 1) := by decide +kernel
theorem dX9_minute_24 : decode cX9_minute 24 = .ok (.getfield 29, 3) := by decide +kernel
theorem dX9_minute_27 : decode cX9_minute 27 = .ok (.invokevirtual 188, 3) := by decide +kernel
theorem dX9_minute_30 : decode cX9_minute 30 = .ok (.aload_n 0, 1) := by decide +kernel
theorem dX9_minute_31 : decode cX9_minute 31 = .ok (.getfield 29, 3) := by decide +kernel
theorem dX9_minute_34 : decode cX9_minute 34 = .ok (.aload_n 0, 1) := by decide +kernel
theorem dX9_minute_35 : decode cX9_minute 35 = .ok (.getfield 10, 3) := by decide +kernel
theorem dX9_minute_38 : decode cX9_minute 38 = .ok (.invokevirtual 203, 3) := by decide +kernel
theorem dX9_minute_41 : decode cX9_minute 41 = .ok (.iinc 3 1, 3) := by decide +kernel
theorem dX9_minute_44 : decode cX9_minute 44 = .ok (.goto (-30), 3) := by decide +kernel
theorem dX9_minute_47 : decode cX9_minute 47 = .ok (.aload_n 0, 1) := by decide +kernel
theorem dX9_minute_48 : decode cX9_minute 48 = .ok (.getfield 29, 3) := by decide +kernel
theorem dX9_minute_51 : decode cX9_minute 51 = .ok (.invokevirtual 134, 3) := by decide +kernel
theorem dX9_minute_54 : decode cX9_minute 54 = .ok (.ireturn, 1) := by decide +kernel
theorem dX9_drift_0 : decode cX9_drift 0 = .ok (.aload_n 0, 1) := by decide +kernel
theorem dX9_drift_1 : decode cX9_drift 1 = .ok (.iload_n 1, 1) := by decide +kernel
theorem dX9_drift_2 : decode cX9_drift 2 = .ok (.invokevirtual 200, 3) := by decide +kernel
theorem dX9_drift_5 : decode cX9_drift 5 = .ok (.istore_n 2, 1) := by decide +kernel
theorem dX9_drift_6 : decode cX9_drift 6 = .ok (.iload_n 2, 1) := by decide +kernel
theorem dX9_drift_7 : decode cX9_drift 7 = .ok (.ifCond .eq 5, 3) := by decide +kernel
theorem dX9_drift_10 : decode cX9_drift 10 = .ok (.iload_n 2, 1) := by decide +kernel
theorem dX9_drift_11 : decode cX9_drift 11 = .ok (.ireturn, 1) := by decide +kernel
theorem dX9_drift_12 : decode cX9_drift 12 = .ok (.iconst 0, 1) := by decide +kernel
theorem dX9_drift_13 : decode cX9_drift 13 = .ok (.istore_n 3, 1) := by decide +kernel
theorem dX9_drift_14 : decode cX9_drift 14 = .ok (.iload_n 3, 1) := by decide +kernel
theorem dX9_drift_15 : decode cX9_drift 15 = .ok (.iload_n 1, 1) := by decide +kernel
theorem dX9_drift_16 : decode cX9_drift 16 = .ok (.if_icmp .ge 35, 3) := by decide +kernel
theorem dX9_drift_19 : decode cX9_drift 19 = .ok (.aload_n 0, 1) := by decide +kernel
theorem dX9_drift_20 : decode cX9_drift 20 = .ok (.getfield 39, 3) := by decide +kernel
theorem dX9_drift_23 : decode cX9_drift 23 = .ok (.aload_n 0, 1) := by decide +kernel
theorem dX9_drift_24 : decode cX9_drift 24 = .ok (.getfield 29, 3) := by decide +kernel
theorem dX9_drift_27 : decode cX9_drift 27 = .ok (.invokevirtual 188, 3) := by decide +kernel
theorem dX9_drift_30 : decode cX9_drift 30 = .ok (.aload_n 0, 1) := by decide +kernel
theorem dX9_drift_31 : decode cX9_drift 31 = .ok (.invokevirtual 206, 3) := by decide +kernel
theorem dX9_drift_34 : decode cX9_drift 34 = .ok (.aload_n 0, 1) := by decide +kernel
theorem dX9_drift_35 : decode cX9_drift 35 = .ok (.getfield 29, 3) := by decide +kernel
theorem dX9_drift_38 : decode cX9_drift 38 = .ok (.aload_n 0, 1) := by decide +kernel
theorem dX9_drift_39 : decode cX9_drift 39 = .ok (.getfield 10, 3) := by decide +kernel
theorem dX9_drift_42 : decode cX9_drift 42 = .ok (.invokevirtual 203, 3) := by decide +kernel
theorem dX9_drift_45 : decode cX9_drift 45 = .ok (.iinc 3 1, 3) := by decide +kernel
theorem dX9_drift_48 : decode cX9_drift 48 = .ok (.goto (-34), 3) := by decide +kernel
theorem dX9_drift_51 : decode cX9_drift 51 = .ok (.aload_n 0, 1) := by decide +kernel
theorem dX9_drift_52 : decode cX9_drift 52 = .ok (.getfield 29, 3) := by decide +kernel
theorem dX9_drift_55 : decode cX9_drift 55 = .ok (.invokevirtual 134, 3) := by decide +kernel
theorem dX9_drift_58 : decode cX9_drift 58 = .ok (.ireturn, 1) := by decide +kernel
theorem dX9_undo_0 : decode cX9_undo 0 = .ok (.iload_n 1, 1) := by decide +kernel
theorem dX9_undo_1 : decode cX9_undo 1 = .ok (.iconst 1, 1) := by decide +kernel
theorem dX9_undo_2 : decode cX9_undo 2 = .ok (.bipush 30, 2) := by decide +kernel
theorem dX9_undo_4 : decode cX9_undo 4 = .ok (.invokestatic 83, 3) := by decide +kernel
theorem dX9_undo_7 : decode cX9_undo 7 = .ok (.ifCond .ne 6, 3) := by decide +kernel
theorem dX9_undo_10 : decode cX9_undo 10 = .ok (.ldc 87, 2) := by decide +kernel
theorem dX9_undo_12 : decode cX9_undo 12 = .ok (.ireturn, 1) := by decide +kernel
theorem dX9_undo_13 : decode cX9_undo 13 = .ok (.iload_n 1, 1) := by decide +kernel
theorem dX9_undo_14 : decode cX9_undo 14 = .ok (.aload_n 0, 1) := by decide +kernel
theorem dX9_undo_15 : decode cX9_undo 15 = .ok (.getfield 39, 3) := by decide +kernel
theorem dX9_undo_18 : decode cX9_undo 18 = .ok (.invokevirtual 143, 3) := by decide +kernel
theorem dX9_undo_21 : decode cX9_undo 21 = .ok (.if_icmp .le 6, 3) := by decide +kernel
theorem dX9_undo_24 : decode cX9_undo 24 = .ok (.ldc 187, 2) := by decide +kernel
theorem dX9_undo_26 : decode cX9_undo 26 = .ok (.ireturn, 1) := by decide +kernel
theorem dX9_undo_27 : decode cX9_undo 27 = .ok (.aload_n 0, 1) := by decide +kernel
theorem dX9_undo_28 : decode cX9_undo 28 = .ok (.getfield 39, 3) := by decide +kernel
theorem dX9_undo_31 : decode cX9_undo 31 = .ok (.iload_n 1, 1) := by decide +kernel
theorem dX9_undo_32 : decode cX9_undo 32 = .ok (.aload_n 0, 1) := by decide +kernel
theorem dX9_undo_33 : decode cX9_undo 33 = .ok (.getfield 29, 3) := by decide +kernel
theorem dX9_undo_36 : decode cX9_undo 36 = .ok (.invokevirtual 209, 3) := by decide +kernel
theorem dX9_undo_39 : decode cX9_undo 39 = .ok (.aload_n 0, 1) := by decide +kernel
theorem dX9_undo_40 : decode cX9_undo 40 = .ok (.getfield 29, 3) := by decide +kernel
theorem dX9_undo_43 : decode cX9_undo 43 = .ok (.invokevirtual 134, 3) := by decide +kernel
theorem dX9_undo_46 : decode cX9_undo 46 = .ok (.ireturn, 1) := by decide +kernel
theorem dX9_apart_0 : decode cX9_apart 0 = .ok (.aload_n 0, 1) := by decide +kernel
theorem dX9_apart_1 : decode cX9_apart 1 = .ok (.iload_n 1, 1) := by decide +kernel
theorem dX9_apart_2 : decode cX9_apart 2 = .ok (.iload_n 2, 1) := by decide +kernel
theorem dX9_apart_3 : decode cX9_apart 3 = .ok (.invokevirtual 213, 3) := by decide +kernel
theorem dX9_apart_6 : decode cX9_apart 6 = .ok (.ifCond .ne 6, 3) := by decide +kernel
theorem dX9_apart_9 : decode cX9_apart 9 = .ok (.ldc 147, 2) := by decide +kernel
theorem dX9_apart_11 : decode cX9_apart 11 = .ok (.ireturn, 1) := by decide +kernel
theorem dX9_apart_12 : decode cX9_apart 12 = .ok (.aload_n 0, 1) := by decide +kernel
theorem dX9_apart_13 : decode cX9_apart 13 = .ok (.getfield 29, 3) := by decide +kernel
theorem dX9_apart_16 : decode cX9_apart 16 = .ok (.aload_n 0, 1) := by decide +kernel
theorem dX9_apart_17 : decode cX9_apart 17 = .ok (.getfield 10, 3) := by decide +kernel
theorem dX9_apart_20 : decode cX9_apart 20 = .ok (.iload_n 1, 1) := by decide +kernel
theorem dX9_apart_21 : decode cX9_apart 21 = .ok (.invokevirtual 180, 3) := by decide +kernel
theorem dX9_apart_24 : decode cX9_apart 24 = .ok (.aload_n 0, 1) := by decide +kernel
theorem dX9_apart_25 : decode cX9_apart 25 = .ok (.getfield 29, 3) := by decide +kernel
theorem dX9_apart_28 : decode cX9_apart 28 = .ok (.aload_n 0, 1) := by decide +kernel
theorem dX9_apart_29 : decode cX9_apart 29 = .ok (.getfield 10, 3) := by decide +kernel
theorem dX9_apart_32 : decode cX9_apart 32 = .ok (.iload_n 2, 1) := by decide +kernel
theorem dX9_apart_33 : decode cX9_apart 33 = .ok (.invokevirtual 180, 3) := by decide +kernel
theorem dX9_apart_36 : decode cX9_apart 36 = .ok (.isub, 1) := by decide +kernel
theorem dX9_apart_37 : decode cX9_apart 37 = .ok (.invokestatic 217, 3) := by decide +kernel
theorem dX9_apart_40 : decode cX9_apart 40 = .ok (.ireturn, 1) := by decide +kernel
theorem dX9_howLong_0 : decode cX9_howLong 0 = .ok (.iload_n 1, 1) := by decide +kernel
theorem dX9_howLong_1 : decode cX9_howLong 1 = .ok (.iconst 0, 1) := by decide +kernel
theorem dX9_howLong_2 : decode cX9_howLong 2 = .ok (.bipush 120, 2) := by decide +kernel
theorem dX9_howLong_4 : decode cX9_howLong 4 = .ok (.invokestatic 83, 3) := by decide +kernel
theorem dX9_howLong_7 : decode cX9_howLong 7 = .ok (.ifCond .ne 6, 3) := by decide +kernel
theorem dX9_howLong_10 : decode cX9_howLong 10 = .ok (.ldc 87, 2) := by decide +kernel
theorem dX9_howLong_12 : decode cX9_howLong 12 = .ok (.ireturn, 1) := by decide +kernel
theorem dX9_howLong_13 : decode cX9_howLong 13 = .ok (.aload_n 0, 1) := by decide +kernel
theorem dX9_howLong_14 : decode cX9_howLong 14 = .ok (.getfield 10, 3) := by decide +kernel
theorem dX9_howLong_17 : decode cX9_howLong 17 = .ok (.invokevirtual 222, 3) := by decide +kernel
theorem dX9_howLong_20 : decode cX9_howLong 20 = .ok (.ifCond .eq 21, 3) := by decide +kernel
theorem dX9_howLong_23 : decode cX9_howLong 23 = .ok (.aload_n 0, 1) := by decide +kernel
theorem dX9_howLong_24 : decode cX9_howLong 24 = .ok (.getfield 10, 3) := by decide +kernel
theorem dX9_howLong_27 : decode cX9_howLong 27 = .ok (.aload_n 0, 1) := by decide +kernel
theorem dX9_howLong_28 : decode cX9_howLong 28 = .ok (.getfield 10, 3) := by decide +kernel
theorem dX9_howLong_31 : decode cX9_howLong 31 = .ok (.invokevirtual 226, 3) := by decide +kernel
theorem dX9_howLong_34 : decode cX9_howLong 34 = .ok (.iload_n 1, 1) := by decide +kernel
theorem dX9_howLong_35 : decode cX9_howLong 35 = .ok (.invokevirtual 229, 3) := by decide +kernel
theorem dX9_howLong_38 : decode cX9_howLong 38 = .ok (.goto 5, 3) := by decide +kernel
theorem dX9_howLong_41 : decode cX9_howLong 41 = .ok (.ldc 187, 2) := by decide +kernel
theorem dX9_howLong_43 : decode cX9_howLong 43 = .ok (.ireturn, 1) := by decide +kernel
theorem dX9_takes_0 : decode cX9_takes 0 = .ok (.aload_n 0, 1) := by decide +kernel
theorem dX9_takes_1 : decode cX9_takes 1 = .ok (.iload_n 1, 1) := by decide +kernel
theorem dX9_takes_2 : decode cX9_takes 2 = .ok (.iload_n 2, 1) := by decide +kernel
theorem dX9_takes_3 : decode cX9_takes 3 = .ok (.invokevirtual 232, 3) := by decide +kernel
theorem dX9_takes_6 : decode cX9_takes 6 = .ok (.ifCond .ne 6, 3) := by decide +kernel
theorem dX9_takes_9 : decode cX9_takes 9 = .ok (.ldc 147, 2) := by decide +kernel
theorem dX9_takes_11 : decode cX9_takes 11 = .ok (.ireturn, 1) := by decide +kernel
theorem dX9_takes_12 : decode cX9_takes 12 = .ok (.iload_n 3, 1) := by decide +kernel
theorem dX9_takes_13 : decode cX9_takes 13 = .ok (.invokestatic 235, 3) := by decide +kernel
theorem dX9_takes_16 : decode cX9_takes 16 = .ok (.ifCond .eq 14, 3) := by decide +kernel
theorem dX9_takes_19 : decode cX9_takes 19 = .ok (.iload 4, 2) := by decide +kernel
theorem dX9_takes_21 : decode cX9_takes 21 = .ok (.iconst 0, 1) := by decide +kernel
theorem dX9_takes_22 : decode cX9_takes 22 = .ok (.bipush 119, 2) := by decide +kernel
theorem dX9_takes_24 : decode cX9_takes 24 = .ok (.invokestatic 83, 3) := by decide +kernel
theorem dX9_takes_27 : decode cX9_takes 27 = .ok (.ifCond .ne 6, 3) := by decide +kernel
theorem dX9_takes_30 : decode cX9_takes 30 = .ok (.ldc 87, 2) := by decide +kernel
theorem dX9_takes_32 : decode cX9_takes 32 = .ok (.ireturn, 1) := by decide +kernel
theorem dX9_takes_33 : decode cX9_takes 33 = .ok (.aload_n 0, 1) := by decide +kernel
theorem dX9_takes_34 : decode cX9_takes 34 = .ok (.getfield 10, 3) := by decide +kernel
theorem dX9_takes_37 : decode cX9_takes 37 = .ok (.iload_n 1, 1) := by decide +kernel
theorem dX9_takes_38 : decode cX9_takes 38 = .ok (.iload_n 2, 1) := by decide +kernel
theorem dX9_takes_39 : decode cX9_takes 39 = .ok (.iload_n 3, 1) := by decide +kernel
theorem dX9_takes_40 : decode cX9_takes 40 = .ok (.iload 4, 2) := by decide +kernel
theorem dX9_takes_42 : decode cX9_takes 42 = .ok (.aload_n 0, 1) := by decide +kernel
theorem dX9_takes_43 : decode cX9_takes 43 = .ok (.getfield 29, 3) := by decide +kernel
theorem dX9_takes_46 : decode cX9_takes 46 = .ok (.invokevirtual 137, 3) := by decide +kernel
theorem dX9_takes_49 : decode cX9_takes 49 = .ok (.sipush 300, 3) := by decide +kernel
theorem dX9_takes_52 : decode cX9_takes 52 = .ok (.invokevirtual 238, 3) := by decide +kernel
theorem dX9_takes_55 : decode cX9_takes 55 = .ok (.ireturn, 1) := by decide +kernel
theorem dX9_setOut_0 : decode cX9_setOut 0 = .ok (.aload_n 0, 1) := by decide +kernel
theorem dX9_setOut_1 : decode cX9_setOut 1 = .ok (.iload_n 1, 1) := by decide +kernel
theorem dX9_setOut_2 : decode cX9_setOut 2 = .ok (.iload_n 2, 1) := by decide +kernel
theorem dX9_setOut_3 : decode cX9_setOut 3 = .ok (.invokevirtual 232, 3) := by decide +kernel
theorem dX9_setOut_6 : decode cX9_setOut 6 = .ok (.ifCond .ne 6, 3) := by decide +kernel
theorem dX9_setOut_9 : decode cX9_setOut 9 = .ok (.ldc 147, 2) := by decide +kernel
theorem dX9_setOut_11 : decode cX9_setOut 11 = .ok (.ireturn, 1) := by decide +kernel
theorem dX9_setOut_12 : decode cX9_setOut 12 = .ok (.iload_n 3, 1) := by decide +kernel
theorem dX9_setOut_13 : decode cX9_setOut 13 = .ok (.invokestatic 235, 3) := by decide +kernel
theorem dX9_setOut_16 : decode cX9_setOut 16 = .ok (.ifCond .eq 24, 3) := by decide +kernel
theorem dX9_setOut_19 : decode cX9_setOut 19 = .ok (.iload 4, 2) := by decide +kernel
theorem dX9_setOut_21 : decode cX9_setOut 21 = .ok (.iconst 0, 1) := by decide +kernel
theorem dX9_setOut_22 : decode cX9_setOut 22 = .ok (.bipush 119, 2) := by decide +kernel
theorem dX9_setOut_24 : decode cX9_setOut 24 = .ok (.invokestatic 83, 3) := by decide +kernel
theorem dX9_setOut_27 : decode cX9_setOut 27 = .ok (.ifCond .eq 13, 3) := by decide +kernel
theorem dX9_setOut_30 : decode cX9_setOut 30 = .ok (.iload 5, 2) := by decide +kernel
theorem dX9_setOut_32 : decode cX9_setOut 32 = .ok (.iconst 0, 1) := by decide +kernel
theorem dX9_setOut_33 : decode cX9_setOut 33 = .ok (.iconst 2, 1) := by decide +kernel
theorem dX9_setOut_34 : decode cX9_setOut 34 = .ok (.invokestatic 83, 3) := by decide +kernel
theorem dX9_setOut_37 : decode cX9_setOut 37 = .ok (.ifCond .ne 6, 3) := by decide +kernel
theorem dX9_setOut_40 : decode cX9_setOut 40 = .ok (.ldc 87, 2) := by decide +kernel
theorem dX9_setOut_42 : decode cX9_setOut 42 = .ok (.ireturn, 1) := by decide +kernel
theorem dX9_setOut_43 : decode cX9_setOut 43 = .ok (.aload_n 0, 1) := by decide +kernel
theorem dX9_setOut_44 : decode cX9_setOut 44 = .ok (.getfield 79, 3) := by decide +kernel
theorem dX9_setOut_47 : decode cX9_setOut 47 = .ok (.invokevirtual 242, 3) := by decide +kernel
theorem dX9_setOut_50 : decode cX9_setOut 50 = .ok (.iconst 0, 1) := by decide +kernel
theorem dX9_setOut_51 : decode cX9_setOut 51 = .ok (.istore 6, 2) := by decide +kernel
theorem dX9_setOut_53 : decode cX9_setOut 53 = .ok (.iload 6, 2) := by decide +kernel
theorem dX9_setOut_55 : decode cX9_setOut 55 = .ok (.iload 4, 2) := by decide +kernel
theorem dX9_setOut_57 : decode cX9_setOut 57 = .ok (.if_icmp .gt 46, 3) := by decide +kernel
theorem dX9_setOut_60 : decode cX9_setOut 60 = .ok (.aload_n 0, 1) := by decide +kernel
theorem dX9_setOut_61 : decode cX9_setOut 61 = .ok (.getfield 10, 3) := by decide +kernel
theorem dX9_setOut_64 : decode cX9_setOut 64 = .ok (.iload_n 1, 1) := by decide +kernel
theorem dX9_setOut_65 : decode cX9_setOut 65 = .ok (.iload_n 2, 1) := by decide +kernel
theorem dX9_setOut_66 : decode cX9_setOut 66 = .ok (.iload_n 3, 1) := by decide +kernel
theorem dX9_setOut_67 : decode cX9_setOut 67 = .ok (.iload 6, 2) := by decide +kernel
theorem dX9_setOut_69 : decode cX9_setOut 69 = .ok (.aload_n 0, 1) := by decide +kernel
theorem dX9_setOut_70 : decode cX9_setOut 70 = .ok (.getfield 29, 3) := by decide +kernel
theorem dX9_setOut_73 : decode cX9_setOut 73 = .ok (.invokevirtual 137, 3) := by decide +kernel
theorem dX9_setOut_76 : decode cX9_setOut 76 = .ok (.iload 4, 2) := by decide +kernel
theorem dX9_setOut_78 : decode cX9_setOut 78 = .ok (.iload 6, 2) := by decide +kernel
theorem dX9_setOut_80 : decode cX9_setOut 80 = .ok (.isub, 1) := by decide +kernel
theorem dX9_setOut_81 : decode cX9_setOut 81 = .ok (.invokevirtual 238, 3) := by decide +kernel
theorem dX9_setOut_84 : decode cX9_setOut 84 = .ok (.iconst (-1), 1) := by decide +kernel
theorem dX9_setOut_85 : decode cX9_setOut 85 = .ok (.if_icmp .eq 12, 3) := by decide +kernel
theorem dX9_setOut_88 : decode cX9_setOut 88 = .ok (.aload_n 0, 1) := by decide +kernel
theorem dX9_setOut_89 : decode cX9_setOut 89 = .ok (.getfield 79, 3) := by decide +kernel
theorem dX9_setOut_92 : decode cX9_setOut 92 = .ok (.iload 6, 2) := by decide +kernel
theorem dX9_setOut_94 : decode cX9_setOut 94 = .ok (.invokevirtual 243, 3) := by decide +kernel
theorem dX9_setOut_97 : decode cX9_setOut 97 = .ok (.iinc 6 1, 3) := by decide +kernel
theorem dX9_setOut_100 : decode cX9_setOut 100 = .ok (.goto (-47), 3) := by decide +kernel
theorem dX9_setOut_103 : decode cX9_setOut 103 = .ok (.iload 5, 2) := by decide +kernel
theorem dX9_setOut_105 : decode cX9_setOut 105 = .ok (.ifCond .ne 13, 3) := by decide +kernel
theorem dX9_setOut_108 : decode cX9_setOut 108 = .ok (.aload_n 0, 1) := by decide +kernel
theorem dX9_setOut_109 : decode cX9_setOut 109 = .ok (.getfield 79, 3) := by decide +kernel
theorem dX9_setOut_112 : decode cX9_setOut 112 = .ok (.invokevirtual 246, 3) := by decide +kernel
theorem dX9_setOut_115 : decode cX9_setOut 115 = .ok (.goto 26, 3) := by decide +kernel
theorem dX9_setOut_118 : decode cX9_setOut 118 = .ok (.iload 5, 2) := by decide +kernel
theorem dX9_setOut_120 : decode cX9_setOut 120 = .ok (.iconst 1, 1) := by decide +kernel
theorem dX9_setOut_121 : decode cX9_setOut 121 = .ok (.if_icmp .ne 13, 3) := by decide +kernel
theorem dX9_setOut_124 : decode cX9_setOut 124 = .ok (.aload_n 0, 1) := by decide +kernel
theorem dX9_setOut_125 : decode cX9_setOut 125 = .ok (.getfield 79, 3) := by decide +kernel
theorem dX9_setOut_128 : decode cX9_setOut 128 = .ok (.invokevirtual 249, 3) := by decide +kernel
theorem dX9_setOut_131 : decode cX9_setOut 131 = .ok (.goto 10, 3) := by decide +kernel
theorem dX9_setOut_134 : decode cX9_setOut 134 = .ok (.aload_n 0, 1) := by decide +kernel
theorem dX9_setOut_135 : decode cX9_setOut 135 = .ok (.getfield 79, 3) := by decide +kernel
theorem dX9_setOut_138 : decode cX9_setOut 138 = .ok (.invokevirtual 252, 3) := by decide +kernel
theorem dX9_setOut_141 : decode cX9_setOut 141 = .ok (.ireturn, 1) := by decide +kernel
theorem dX9_comes_0 : decode cX9_comes 0 = .ok (.aload_n 0, 1) := by decide +kernel
