theorem dX10_readsWalker_65 : decode cX10_readsWalker 65 = .ok (.bipush 40, 2) := by decide +kernel
theorem dX10_readsWalker_67 : decode cX10_readsWalker 67 = .ok (.invokevirtual 99, 3) := by decide +kernel
theorem dX10_readsWalker_70 : decode cX10_readsWalker 70 = .ok (.iastore, 1) := by decide +kernel
theorem dX10_readsWalker_71 : decode cX10_readsWalker 71 = .ok (.aload_n 0, 1) := by decide +kernel
theorem dX10_readsWalker_72 : decode cX10_readsWalker 72 = .ok (.bipush 59, 2) := by decide +kernel
theorem dX10_readsWalker_74 : decode cX10_readsWalker 74 = .ok (.invokevirtual 103, 3) := by decide +kernel
theorem dX10_readsWalker_77 : decode cX10_readsWalker 77 = .ok (.aload_n 0, 1) := by decide +kernel
theorem dX10_readsWalker_78 : decode cX10_readsWalker 78 = .ok (.getfield 29, 3) := by decide +kernel
theorem dX10_readsWalker_81 : decode cX10_readsWalker 81 = .ok (.iconst 4, 1) := by decide +kernel
theorem dX10_readsWalker_82 : decode cX10_readsWalker 82 = .ok (.dup2, 1) := by decide +kernel
theorem dX10_readsWalker_83 : decode cX10_readsWalker 83 = .ok (.iaload, 1) := by decide +kernel
theorem dX10_readsWalker_84 : decode cX10_readsWalker 84 = .ok (.iconst 1, 1) := by decide +kernel
theorem dX10_readsWalker_85 : decode cX10_readsWalker 85 = .ok (.iadd, 1) := by decide +kernel
theorem dX10_readsWalker_86 : decode cX10_readsWalker 86 = .ok (.iastore, 1) := by decide +kernel
theorem dX10_readsWalker_87 : decode cX10_readsWalker 87 = .ok (.return_, 1) := by decide +kernel
theorem dX10_readsRope_0 : decode cX10_readsRope 0 = .ok (.aload_n 0, 1) := by decide +kernel
theorem dX10_readsRope_1 : decode cX10_readsRope 1 = .ok (.dup, 1) := by decide +kernel
theorem dX10_readsRope_2 : decode cX10_readsRope 2 = .ok (.getfield 78, 3) := by decide +kernel
theorem dX10_readsRope_5 : decode cX10_readsRope 5 = .ok (.iconst 1, 1) := by decide +kernel
theorem dX10_readsRope_6 : decode cX10_readsRope 6 = .ok (.iadd, 1) := by decide +kernel
theorem dX10_readsRope_7 : decode cX10_readsRope 7 = .ok (.putfield 78, 3) := by decide +kernel
theorem dX10_readsRope_10 : decode cX10_readsRope 10 = .ok (.aload_n 0, 1) := by decide +kernel
theorem dX10_readsRope_11 : decode cX10_readsRope 11 = .ok (.invokevirtual 88, 3) := by decide +kernel
theorem dX10_readsRope_14 : decode cX10_readsRope 14 = .ok (.aload_n 0, 1) := by decide +kernel
theorem dX10_readsRope_15 : decode cX10_readsRope 15 = .ok (.getfield 78, 3) := by decide +kernel
theorem dX10_readsRope_18 : decode cX10_readsRope 18 = .ok (.istore_n 1, 1) := by decide +kernel
theorem dX10_readsRope_19 : decode cX10_readsRope 19 = .ok (.aload_n 0, 1) := by decide +kernel
theorem dX10_readsRope_20 : decode cX10_readsRope 20 = .ok (.iconst 0, 1) := by decide +kernel
theorem dX10_readsRope_21 : decode cX10_readsRope 21 = .ok (.aload_n 0, 1) := by decide +kernel
theorem dX10_readsRope_22 : decode cX10_readsRope 22 = .ok (.getfield 29, 3) := by decide +kernel
theorem dX10_readsRope_25 : decode cX10_readsRope 25 = .ok (.iconst 3, 1) := by decide +kernel
theorem dX10_readsRope_26 : decode cX10_readsRope 26 = .ok (.iaload, 1) := by decide +kernel
theorem dX10_readsRope_27 : decode cX10_readsRope 27 = .ok (.iconst 1, 1) := by decide +kernel
theorem dX10_readsRope_28 : decode cX10_readsRope 28 = .ok (.isub, 1) := by decide +kernel
theorem dX10_readsRope_29 : decode cX10_readsRope 29 = .ok (.invokevirtual 99, 3) := by decide +kernel
theorem dX10_readsRope_32 : decode cX10_readsRope 32 = .ok (.istore_n 2, 1) := by decide +kernel
theorem dX10_readsRope_33 : decode cX10_readsRope 33 = .ok (.aload_n 0, 1) := by decide +kernel
theorem dX10_readsRope_34 : decode cX10_readsRope 34 = .ok (.getfield 81, 3) := by decide +kernel
theorem dX10_readsRope_37 : decode cX10_readsRope 37 = .ok (.ifCond .ne 24, 3) := by decide +kernel
theorem dX10_readsRope_40 : decode cX10_readsRope 40 = .ok (.aload_n 0, 1) := by decide +kernel
theorem dX10_readsRope_41 : decode cX10_readsRope 41 = .ok (.getfield 106, 3) := by decide +kernel
theorem dX10_readsRope_44 : decode cX10_readsRope 44 = .ok (.iload_n 2, 1) := by decide +kernel
theorem dX10_readsRope_45 : decode cX10_readsRope 45 = .ok (.invokestatic 109, 3) := by decide +kernel
theorem dX10_readsRope_48 : decode cX10_readsRope 48 = .ok (.ifCond .eq 13, 3) := by decide +kernel
theorem dX10_readsRope_51 : decode cX10_readsRope 51 = .ok (.aload_n 0, 1) := by decide +kernel
theorem dX10_readsRope_52 : decode cX10_readsRope 52 = .ok (.iload_n 1, 1) := by decide +kernel
theorem dX10_readsRope_53 : decode cX10_readsRope 53 = .ok (.putfield 78, 3) := by decide +kernel
theorem dX10_readsRope_56 : decode cX10_readsRope 56 = .ok (.aload_n 0, 1) := by decide +kernel
theorem dX10_readsRope_57 : decode cX10_readsRope 57 = .ok (.iconst 4, 1) := by decide +kernel
theorem dX10_readsRope_58 : decode cX10_readsRope 58 = .ok (.invokevirtual 91, 3) := by decide +kernel
theorem dX10_readsRope_61 : decode cX10_readsRope 61 = .ok (.aload_n 0, 1) := by decide +kernel
theorem dX10_readsRope_62 : decode cX10_readsRope 62 = .ok (.dup, 1) := by decide +kernel
theorem dX10_readsRope_63 : decode cX10_readsRope 63 = .ok (.getfield 106, 3) := by decide +kernel
theorem dX10_readsRope_66 : decode cX10_readsRope 66 = .ok (.aload_n 0, 1) := by decide +kernel
theorem dX10_readsRope_67 : decode cX10_readsRope 67 = .ok (.getfield 81, 3) := by decide +kernel
theorem dX10_readsRope_70 : decode cX10_readsRope 70 = .ok (.ifCond .ne 9, 3) := by decide +kernel
theorem dX10_readsRope_73 : decode cX10_readsRope 73 = .ok (.iconst 1, 1) := by decide +kernel
theorem dX10_readsRope_74 : decode cX10_readsRope 74 = .ok (.iload_n 2, 1) := by decide +kernel
theorem dX10_readsRope_75 : decode cX10_readsRope 75 = .ok (.ishl, 1) := by decide +kernel
theorem dX10_readsRope_76 : decode cX10_readsRope 76 = .ok (.goto 4, 3) := by decide +kernel
theorem dX10_readsRope_79 : decode cX10_readsRope 79 = .ok (.iconst 0, 1) := by decide +kernel
theorem dX10_readsRope_80 : decode cX10_readsRope 80 = .ok (.ior, 1) := by decide +kernel
theorem dX10_readsRope_81 : decode cX10_readsRope 81 = .ok (.putfield 106, 3) := by decide +kernel
theorem dX10_readsRope_84 : decode cX10_readsRope 84 = .ok (.aload_n 0, 1) := by decide +kernel
theorem dX10_readsRope_85 : decode cX10_readsRope 85 = .ok (.bipush 59, 2) := by decide +kernel
theorem dX10_readsRope_87 : decode cX10_readsRope 87 = .ok (.invokevirtual 103, 3) := by decide +kernel
theorem dX10_readsRope_90 : decode cX10_readsRope 90 = .ok (.return_, 1) := by decide +kernel
theorem dX10_reads_0 : decode cX10_reads 0 = .ok (.aload_n 0, 1) := by decide +kernel
theorem dX10_reads_1 : decode cX10_reads 1 = .ok (.getfield 81, 3) := by decide +kernel
theorem dX10_reads_4 : decode cX10_reads 4 = .ok (.ifCond .ne 102, 3) := by decide +kernel
theorem dX10_reads_7 : decode cX10_reads 7 = .ok (.aload_n 0, 1) := by decide +kernel
theorem dX10_reads_8 : decode cX10_reads 8 = .ok (.invokevirtual 84, 3) := by decide +kernel
theorem dX10_reads_11 : decode cX10_reads 11 = .ok (.iconst (-1), 1) := by decide +kernel
theorem dX10_reads_12 : decode cX10_reads 12 = .ok (.if_icmp .eq 94, 3) := by decide +kernel
theorem dX10_reads_15 : decode cX10_reads 15 = .ok (.aload_n 0, 1) := by decide +kernel
theorem dX10_reads_16 : decode cX10_reads 16 = .ok (.invokevirtual 84, 3) := by decide +kernel
theorem dX10_reads_19 : decode cX10_reads 19 = .ok (.bipush 115, 2) := by decide +kernel
theorem dX10_reads_21 : decode cX10_reads 21 = .ok (.if_icmp .ne 10, 3) := by decide +kernel
theorem dX10_reads_24 : decode cX10_reads 24 = .ok (.aload_n 0, 1) := by decide +kernel
theorem dX10_reads_25 : decode cX10_reads 25 = .ok (.invokevirtual 113, 3) := by decide +kernel
theorem dX10_reads_28 : decode cX10_reads 28 = .ok (.goto 71, 3) := by decide +kernel
theorem dX10_reads_31 : decode cX10_reads 31 = .ok (.aload_n 0, 1) := by decide +kernel
theorem dX10_reads_32 : decode cX10_reads 32 = .ok (.getfield 95, 3) := by decide +kernel
theorem dX10_reads_35 : decode cX10_reads 35 = .ok (.ifCond .ne 11, 3) := by decide +kernel
theorem dX10_reads_38 : decode cX10_reads 38 = .ok (.aload_n 0, 1) := by decide +kernel
theorem dX10_reads_39 : decode cX10_reads 39 = .ok (.iconst 1, 1) := by decide +kernel
theorem dX10_reads_40 : decode cX10_reads 40 = .ok (.invokevirtual 91, 3) := by decide +kernel
theorem dX10_reads_43 : decode cX10_reads 43 = .ok (.goto 56, 3) := by decide +kernel
theorem dX10_reads_46 : decode cX10_reads 46 = .ok (.aload_n 0, 1) := by decide +kernel
theorem dX10_reads_47 : decode cX10_reads 47 = .ok (.invokevirtual 84, 3) := by decide +kernel
theorem dX10_reads_50 : decode cX10_reads 50 = .ok (.bipush 104, 2) := by decide +kernel
theorem dX10_reads_52 : decode cX10_reads 52 = .ok (.if_icmp .ne 10, 3) := by decide +kernel
theorem dX10_reads_55 : decode cX10_reads 55 = .ok (.aload_n 0, 1) := by decide +kernel
theorem dX10_reads_56 : decode cX10_reads 56 = .ok (.invokevirtual 116, 3) := by decide +kernel
theorem dX10_reads_59 : decode cX10_reads 59 = .ok (.goto 40, 3) := by decide +kernel
theorem dX10_reads_62 : decode cX10_reads 62 = .ok (.aload_n 0, 1) := by decide +kernel
theorem dX10_reads_63 : decode cX10_reads 63 = .ok (.invokevirtual 84, 3) := by decide +kernel
theorem dX10_reads_66 : decode cX10_reads 66 = .ok (.bipush 119, 2) := by decide +kernel
theorem dX10_reads_68 : decode cX10_reads 68 = .ok (.if_icmp .ne 10, 3) := by decide +kernel
theorem dX10_reads_71 : decode cX10_reads 71 = .ok (.aload_n 0, 1) := by decide +kernel
theorem dX10_reads_72 : decode cX10_reads 72 = .ok (.invokevirtual 119, 3) := by decide +kernel
theorem dX10_reads_75 : decode cX10_reads 75 = .ok (.goto 24, 3) := by decide +kernel
theorem dX10_reads_78 : decode cX10_reads 78 = .ok (.aload_n 0, 1) := by decide +kernel
theorem dX10_reads_79 : decode cX10_reads 79 = .ok (.invokevirtual 84, 3) := by decide +kernel
theorem dX10_reads_82 : decode cX10_reads 82 = .ok (.bipush 114, 2) := by decide +kernel
theorem dX10_reads_84 : decode cX10_reads 84 = .ok (.if_icmp .ne 10, 3) := by decide +kernel
theorem dX10_reads_87 : decode cX10_reads 87 = .ok (.aload_n 0, 1) := by decide +kernel
theorem dX10_reads_88 : decode cX10_reads 88 = .ok (.invokevirtual 122, 3) := by decide +kernel
theorem dX10_reads_91 : decode cX10_reads 91 = .ok (.goto 8, 3) := by decide +kernel
theorem dX10_reads_94 : decode cX10_reads 94 = .ok (.aload_n 0, 1) := by decide +kernel
theorem dX10_reads_95 : decode cX10_reads 95 = .ok (.iconst 1, 1) := by decide +kernel
theorem dX10_reads_96 : decode cX10_reads 96 = .ok (.invokevirtual 91, 3) := by decide +kernel
theorem dX10_reads_99 : decode cX10_reads 99 = .ok (.aload_n 0, 1) := by decide +kernel
theorem dX10_reads_100 : decode cX10_reads 100 = .ok (.invokevirtual 88, 3) := by decide +kernel
theorem dX10_reads_103 : decode cX10_reads 103 = .ok (.goto (-103), 3) := by decide +kernel
theorem dX10_reads_106 : decode cX10_reads 106 = .ok (.return_, 1) := by decide +kernel
theorem dX10_takesAll_0 : decode cX10_takesAll 0 = .ok (.iconst 0, 1) := by decide +kernel
theorem dX10_takesAll_1 : decode cX10_takesAll 1 = .ok (.istore_n 1, 1) := by decide +kernel
theorem dX10_takesAll_2 : decode cX10_takesAll 2 = .ok (.iload_n 1, 1) := by decide +kernel
theorem dX10_takesAll_3 : decode cX10_takesAll 3 = .ok (.iconst 5, 1) := by decide +kernel
theorem dX10_takesAll_4 : decode cX10_takesAll 4 = .ok (.if_icmp .ge 21, 3) := by decide +kernel
theorem dX10_takesAll_7 : decode cX10_takesAll 7 = .ok (.aload_n 0, 1) := by decide +kernel
theorem dX10_takesAll_8 : decode cX10_takesAll 8 = .ok (.getfield 17, 3) := by decide +kernel
theorem dX10_takesAll_11 : decode cX10_takesAll 11 = .ok (.iload_n 1, 1) := by decide +kernel
theorem dX10_takesAll_12 : decode cX10_takesAll 12 = .ok (.aload_n 0, 1) := by decide +kernel
theorem dX10_takesAll_13 : decode cX10_takesAll 13 = .ok (.getfield 29, 3) := by decide +kernel
theorem dX10_takesAll_16 : decode cX10_takesAll 16 = .ok (.iload_n 1, 1) := by decide +kernel
theorem dX10_takesAll_17 : decode cX10_takesAll 17 = .ok (.iaload, 1) := by decide +kernel
theorem dX10_takesAll_18 : decode cX10_takesAll 18 = .ok (.iastore, 1) := by decide +kernel
theorem dX10_takesAll_19 : decode cX10_takesAll 19 = .ok (.iinc 1 1, 3) := by decide +kernel
theorem dX10_takesAll_22 : decode cX10_takesAll 22 = .ok (.goto (-20), 3) := by decide +kernel
theorem dX10_takesAll_25 : decode cX10_takesAll 25 = .ok (.iconst 0, 1) := by decide +kernel
theorem dX10_takesAll_26 : decode cX10_takesAll 26 = .ok (.istore_n 1, 1) := by decide +kernel
theorem dX10_takesAll_27 : decode cX10_takesAll 27 = .ok (.iload_n 1, 1) := by decide +kernel
theorem dX10_takesAll_28 : decode cX10_takesAll 28 = .ok (.bipush 8, 2) := by decide +kernel
theorem dX10_takesAll_30 : decode cX10_takesAll 30 = .ok (.if_icmp .ge 21, 3) := by decide +kernel
theorem dX10_takesAll_33 : decode cX10_takesAll 33 = .ok (.aload_n 0, 1) := by decide +kernel
theorem dX10_takesAll_34 : decode cX10_takesAll 34 = .ok (.getfield 20, 3) := by decide +kernel
theorem dX10_takesAll_37 : decode cX10_takesAll 37 = .ok (.iload_n 1, 1) := by decide +kernel
theorem dX10_takesAll_38 : decode cX10_takesAll 38 = .ok (.aload_n 0, 1) := by decide +kernel
theorem dX10_takesAll_39 : decode cX10_takesAll 39 = .ok (.getfield 32, 3) := by decide +kernel
theorem dX10_takesAll_42 : decode cX10_takesAll 42 = .ok (.iload_n 1, 1) := by decide +kernel
theorem dX10_takesAll_43 : decode cX10_takesAll 43 = .ok (.iaload, 1) := by decide +kernel
theorem dX10_takesAll_44 : decode cX10_takesAll 44 = .ok (.iastore, 1) := by decide +kernel
theorem dX10_takesAll_45 : decode cX10_takesAll 45 = .ok (.iinc 1 1, 3) := by decide +kernel
theorem dX10_takesAll_48 : decode cX10_takesAll 48 = .ok (.goto (-21), 3) := by decide +kernel
theorem dX10_takesAll_51 : decode cX10_takesAll 51 = .ok (.iconst 0, 1) := by decide +kernel
theorem dX10_takesAll_52 : decode cX10_takesAll 52 = .ok (.istore_n 1, 1) := by decide +kernel
theorem dX10_takesAll_53 : decode cX10_takesAll 53 = .ok (.iload_n 1, 1) := by decide +kernel
theorem dX10_takesAll_54 : decode cX10_takesAll 54 = .ok (.bipush 14, 2) := by decide +kernel
theorem dX10_takesAll_56 : decode cX10_takesAll 56 = .ok (.if_icmp .ge 16, 3) := by decide +kernel
theorem dX10_takesAll_59 : decode cX10_takesAll 59 = .ok (.aload_n 0, 1) := by decide +kernel
theorem dX10_takesAll_60 : decode cX10_takesAll 60 = .ok (.getfield 41, 3) := by decide +kernel
theorem dX10_takesAll_63 : decode cX10_takesAll 63 = .ok (.iload_n 1, 1) := by decide +kernel
theorem dX10_takesAll_64 : decode cX10_takesAll 64 = .ok (.iconst 0, 1) := by decide +kernel
theorem dX10_takesAll_65 : decode cX10_takesAll 65 = .ok (.iastore, 1) := by decide +kernel
theorem dX10_takesAll_66 : decode cX10_takesAll 66 = .ok (.iinc 1 1, 3) := by decide +kernel
theorem dX10_takesAll_69 : decode cX10_takesAll 69 = .ok (.goto (-16), 3) := by decide +kernel
theorem dX10_takesAll_72 : decode cX10_takesAll 72 = .ok (.iconst 0, 1) := by decide +kernel
theorem dX10_takesAll_73 : decode cX10_takesAll 73 = .ok (.istore_n 1, 1) := by decide +kernel
theorem dX10_takesAll_74 : decode cX10_takesAll 74 = .ok (.iload_n 1, 1) := by decide +kernel
theorem dX10_takesAll_75 : decode cX10_takesAll 75 = .ok (.iconst 4, 1) := by decide +kernel
theorem dX10_takesAll_76 : decode cX10_takesAll 76 = .ok (.if_icmp .ge 62, 3) := by decide +kernel
theorem dX10_takesAll_79 : decode cX10_takesAll 79 = .ok (.aload_n 0, 1) := by decide +kernel
theorem dX10_takesAll_80 : decode cX10_takesAll 80 = .ok (.getfield 23, 3) := by decide +kernel
theorem dX10_takesAll_83 : decode cX10_takesAll 83 = .ok (.iload_n 1, 1) := by decide +kernel
theorem dX10_takesAll_84 : decode cX10_takesAll 84 = .ok (.aload_n 0, 1) := by decide +kernel
theorem dX10_takesAll_85 : decode cX10_takesAll 85 = .ok (.getfield 35, 3) := by decide +kernel
theorem dX10_takesAll_88 : decode cX10_takesAll 88 = .ok (.iload_n 1, 1) := by decide +kernel
theorem dX10_takesAll_89 : decode cX10_takesAll 89 = .ok (.iaload, 1) := by decide +kernel
theorem dX10_takesAll_90 : decode cX10_takesAll 90 = .ok (.iastore, 1) := by decide +kernel
theorem dX10_takesAll_91 : decode cX10_takesAll 91 = .ok (.aload_n 0, 1) := by decide +kernel
theorem dX10_takesAll_92 : decode cX10_takesAll 92 = .ok (.getfield 26, 3) := by decide +kernel
theorem dX10_takesAll_95 : decode cX10_takesAll 95 = .ok (.iload_n 1, 1) := by decide +kernel
theorem dX10_takesAll_96 : decode cX10_takesAll 96 = .ok (.aload_n 0, 1) := by decide +kernel
theorem dX10_takesAll_97 : decode cX10_takesAll 97 = .ok (.getfield 38, 3) := by decide +kernel
theorem dX10_takesAll_100 : decode cX10_takesAll 100 = .ok (.iload_n 1, 1) := by decide +kernel
theorem dX10_takesAll_101 : decode cX10_takesAll 101 = .ok (.iaload, 1) := by decide +kernel
theorem dX10_takesAll_102 : decode cX10_takesAll 102 = .ok (.iastore, 1) := by decide +kernel
theorem dX10_takesAll_103 : decode cX10_takesAll 103 = .ok (.aload_n 0, 1) := by decide +kernel
theorem dX10_takesAll_104 : decode cX10_takesAll 104 = .ok (.getfield 41, 3) := by decide +kernel
theorem dX10_takesAll_107 : decode cX10_takesAll 107 = .ok (.iconst 2, 1) := by decide +kernel
theorem dX10_takesAll_108 : decode cX10_takesAll 108 = .ok (.iconst 3, 1) := by decide +kernel
theorem dX10_takesAll_109 : decode cX10_takesAll 109 = .ok (.iload_n 1, 1) := by decide +kernel
theorem dX10_takesAll_110 : decode cX10_takesAll 110 = .ok (.imul, 1) := by decide +kernel
theorem dX10_takesAll_111 : decode cX10_takesAll 111 = .ok (.iadd, 1) := by decide +kernel
theorem dX10_takesAll_112 : decode cX10_takesAll 112 = .ok (.aload_n 0, 1) := by decide +kernel
theorem dX10_takesAll_113 : decode cX10_takesAll 113 = .ok (.getfield 35, 3) := by decide +kernel
theorem dX10_takesAll_116 : decode cX10_takesAll 116 = .ok (.iload_n 1, 1) := by decide +kernel
theorem dX10_takesAll_117 : decode cX10_takesAll 117 = .ok (.iaload, 1) := by decide +kernel
theorem dX10_takesAll_118 : decode cX10_takesAll 118 = .ok (.iastore, 1) := by decide +kernel
theorem dX10_takesAll_119 : decode cX10_takesAll 119 = .ok (.aload_n 0, 1) := by decide +kernel
theorem dX10_takesAll_120 : decode cX10_takesAll 120 = .ok (.getfield 41, 3) := by decide +kernel
theorem dX10_takesAll_123 : decode cX10_takesAll 123 = .ok (.iconst 2, 1) := by decide +kernel
theorem dX10_takesAll_124 : decode cX10_takesAll 124 = .ok (.iconst 3, 1) := by decide +kernel
theorem dX10_takesAll_125 : decode cX10_takesAll 125 = .ok (.iload_n 1, 1) := by decide +kernel
theorem dX10_takesAll_126 : decode cX10_takesAll 126 = .ok (.imul, 1) := by decide +kernel
theorem dX10_takesAll_127 : decode cX10_takesAll 127 = .ok (.iadd, 1) := by decide +kernel
theorem dX10_takesAll_128 : decode cX10_takesAll 128 = .ok (.iconst 2, 1) := by decide +kernel
theorem dX10_takesAll_129 : decode cX10_takesAll 129 = .ok (.iadd, 1) := by decide +kernel
theorem dX10_takesAll_130 : decode cX10_takesAll 130 = .ok (.iconst 1, 1) := by decide +kernel
theorem dX10_takesAll_131 : decode cX10_takesAll 131 = .ok (.iastore, 1) := by decide +kernel
theorem dX10_takesAll_132 : decode cX10_takesAll 132 = .ok (.iinc 1 1, 3) := by decide +kernel
theorem dX10_takesAll_135 : decode cX10_takesAll 135 = .ok (.goto (-61), 3) := by decide +kernel
theorem dX10_takesAll_138 : decode cX10_takesAll 138 = .ok (.aload_n 0, 1) := by decide +kernel
theorem dX10_takesAll_139 : decode cX10_takesAll 139 = .ok (.getfield 41, 3) := by decide +kernel
theorem dX10_takesAll_142 : decode cX10_takesAll 142 = .ok (.iconst 1, 1) := by decide +kernel
theorem dX10_takesAll_143 : decode cX10_takesAll 143 = .ok (.aload_n 0, 1) := by decide +kernel
theorem dX10_takesAll_144 : decode cX10_takesAll 144 = .ok (.getfield 106, 3) := by decide +kernel
theorem dX10_takesAll_147 : decode cX10_takesAll 147 = .ok (.iastore, 1) := by decide +kernel
theorem dX10_takesAll_148 : decode cX10_takesAll 148 = .ok (.return_, 1) := by decide +kernel
theorem dX10_street_0 : decode cX10_street 0 = .ok (.aload_n 0, 1) := by decide +kernel
theorem dX10_street_1 : decode cX10_street 1 = .ok (.iconst 0, 1) := by decide +kernel
theorem dX10_street_2 : decode cX10_street 2 = .ok (.putfield 78, 3) := by decide +kernel
theorem dX10_street_5 : decode cX10_street 5 = .ok (.aload_n 0, 1) := by decide +kernel
theorem dX10_street_6 : decode cX10_street 6 = .ok (.iconst 0, 1) := by decide +kernel
theorem dX10_street_7 : decode cX10_street 7 = .ok (.putfield 81, 3) := by decide +kernel
theorem dX10_street_10 : decode cX10_street 10 = .ok (.aload_n 0, 1) := by decide +kernel
theorem dX10_street_11 : decode cX10_street 11 = .ok (.iconst 0, 1) := by decide +kernel
theorem dX10_street_12 : decode cX10_street 12 = .ok (.putfield 106, 3) := by decide +kernel
theorem dX10_street_15 : decode cX10_street 15 = .ok (.aload_n 0, 1) := by decide +kernel
theorem dX10_street_16 : decode cX10_street 16 = .ok (.iconst 0, 1) := by decide +kernel
theorem dX10_street_17 : decode cX10_street 17 = .ok (.putfield 95, 3) := by decide +kernel
theorem dX10_street_20 : decode cX10_street 20 = .ok (.iconst 0, 1) := by decide +kernel
theorem dX10_street_21 : decode cX10_street 21 = .ok (.istore_n 1, 1) := by decide +kernel
theorem dX10_street_22 : decode cX10_street 22 = .ok (.iload_n 1, 1) := by decide +kernel
theorem dX10_street_23 : decode cX10_street 23 = .ok (.bipush 8, 2) := by decide +kernel
theorem dX10_street_25 : decode cX10_street 25 = .ok (.if_icmp .ge 16, 3) := by decide +kernel
theorem dX10_street_28 : decode cX10_street 28 = .ok (.aload_n 0, 1) := by decide +kernel
theorem dX10_street_29 : decode cX10_street 29 = .ok (.getfield 32, 3) := by decide +kernel
theorem dX10_street_32 : decode cX10_street 32 = .ok (.iload_n 1, 1) := by decide +kernel
theorem dX10_street_33 : decode cX10_street 33 = .ok (.iconst 0, 1) := by decide +kernel
theorem dX10_street_34 : decode cX10_street 34 = .ok (.iastore, 1) := by decide +kernel
theorem dX10_street_35 : decode cX10_street 35 = .ok (.iinc 1 1, 3) := by decide +kernel
theorem dX10_street_38 : decode cX10_street 38 = .ok (.goto (-16), 3) := by decide +kernel
theorem dX10_street_41 : decode cX10_street 41 = .ok (.iconst 0, 1) := by decide +kernel
theorem dX10_street_42 : decode cX10_street 42 = .ok (.istore_n 1, 1) := by decide +kernel
theorem dX10_street_43 : decode cX10_street 43 = .ok (.iload_n 1, 1) := by decide +kernel
theorem dX10_street_44 : decode cX10_street 44 = .ok (.iconst 5, 1) := by decide +kernel
theorem dX10_street_45 : decode cX10_street 45 = .ok (.if_icmp .ge 16, 3) := by decide +kernel
theorem dX10_street_48 : decode cX10_street 48 = .ok (.aload_n 0, 1) := by decide +kernel
theorem dX10_street_49 : decode cX10_street 49 = .ok (.getfield 29, 3) := by decide +kernel
theorem dX10_street_52 : decode cX10_street 52 = .ok (.iload_n 1, 1) := by decide +kernel
theorem dX10_street_53 : decode cX10_street 53 = .ok (.iconst 0, 1) := by decide +kernel
theorem dX10_street_54 : decode cX10_street 54 = .ok (.iastore, 1) := by decide +kernel
theorem dX10_street_55 : decode cX10_street 55 = .ok (.iinc 1 1, 3) := by decide +kernel
theorem dX10_street_58 : decode cX10_street 58 = .ok (.goto (-15), 3) := by decide +kernel
theorem dX10_street_61 : decode cX10_street 61 = .ok (.iconst 0, 1) := by decide +kernel
theorem dX10_street_62 : decode cX10_street 62 = .ok (.istore_n 1, 1) := by decide +kernel
theorem dX10_street_63 : decode cX10_street 63 = .ok (.iload_n 1, 1) := by decide +kernel
theorem dX10_street_64 : decode cX10_street 64 = .ok (.iconst 4, 1) := by decide +kernel
theorem dX10_street_65 : decode cX10_street 65 = .ok (.if_icmp .ge 23, 3) := by decide +kernel
theorem dX10_street_68 : decode cX10_street 68 = .ok (.aload_n 0, 1) := by decide +kernel
theorem dX10_street_69 : decode cX10_street 69 = .ok (.getfield 35, 3) := by decide +kernel
theorem dX10_street_72 : decode cX10_street 72 = .ok (.iload_n 1, 1) := by decide +kernel
theorem dX10_street_73 : decode cX10_street 73 = .ok (.iconst 0, 1) := by decide +kernel
theorem dX10_street_74 : decode cX10_street 74 = .ok (.iastore, 1) := by decide +kernel
theorem dX10_street_75 : decode cX10_street 75 = .ok (.aload_n 0, 1) := by decide +kernel
theorem dX10_street_76 : decode cX10_street 76 = .ok (.getfield 38, 3) := by decide +kernel
theorem dX10_street_79 : decode cX10_street 79 = .ok (.iload_n 1, 1) := by decide +kernel
theorem dX10_street_80 : decode cX10_street 80 = .ok (.iconst 0, 1) := by decide +kernel
theorem dX10_street_81 : decode cX10_street 81 = .ok (.iastore, 1) := by decide +kernel
theorem dX10_street_82 : decode cX10_street 82 = .ok (.iinc 1 1, 3) := by decide +kernel
theorem dX10_street_85 : decode cX10_street 85 = .ok (.goto (-22), 3) := by decide +kernel
theorem dX10_street_88 : decode cX10_street 88 = .ok (.aload_n 0, 1) := by decide +kernel
theorem dX10_street_89 : decode cX10_street 89 = .ok (.invokevirtual 88, 3) := by decide +kernel
theorem dX10_street_92 : decode cX10_street 92 = .ok (.aload_n 0, 1) := by decide +kernel
theorem dX10_street_93 : decode cX10_street 93 = .ok (.invokevirtual 125, 3) := by decide +kernel
theorem dX10_street_96 : decode cX10_street 96 = .ok (.aload_n 0, 1) := by decide +kernel
theorem dX10_street_97 : decode cX10_street 97 = .ok (.iconst 0, 1) := by decide +kernel
theorem dX10_street_98 : decode cX10_street 98 = .ok (.putfield 74, 3) := by decide +kernel
theorem dX10_street_101 : decode cX10_street 101 = .ok (.aload_n 0, 1) := by decide +kernel
theorem dX10_street_102 : decode cX10_street 102 = .ok (.aload_n 0, 1) := by decide +kernel
theorem dX10_street_103 : decode cX10_street 103 = .ok (.getfield 81, 3) := by decide +kernel
theorem dX10_street_106 : decode cX10_street 106 = .ok (.ifCond .ne 7, 3) := by decide +kernel
theorem dX10_street_109 : decode cX10_street 109 = .ok (.iconst (-1), 1) := by decide +kernel
theorem dX10_street_110 : decode cX10_street 110 = .ok (.goto 7, 3) := by decide +kernel
theorem dX10_street_113 : decode cX10_street 113 = .ok (.aload_n 0, 1) := by decide +kernel
theorem dX10_street_114 : decode cX10_street 114 = .ok (.getfield 78, 3) := by decide +kernel
theorem dX10_street_117 : decode cX10_street 117 = .ok (.putfield 13, 3) := by decide +kernel
theorem dX10_street_120 : decode cX10_street 120 = .ok (.aload_n 0, 1) := by decide +kernel
theorem dX10_street_121 : decode cX10_street 121 = .ok (.getfield 81, 3) := by decide +kernel
theorem dX10_street_124 : decode cX10_street 124 = .ok (.ifCond .eq 11, 3) := by decide +kernel
theorem dX10_street_127 : decode cX10_street 127 = .ok (.bipush (-10), 2) := by decide +kernel
theorem dX10_street_129 : decode cX10_street 129 = .ok (.aload_n 0, 1) := by decide +kernel
theorem dX10_street_130 : decode cX10_street 130 = .ok (.getfield 81, 3) := by decide +kernel
theorem dX10_street_133 : decode cX10_street 133 = .ok (.isub, 1) := by decide +kernel
theorem dX10_street_134 : decode cX10_street 134 = .ok (.ireturn, 1) := by decide +kernel
theorem dX10_street_135 : decode cX10_street 135 = .ok (.aload_n 0, 1) := by decide +kernel
theorem dX10_street_136 : decode cX10_street 136 = .ok (.invokevirtual 128, 3) := by decide +kernel
theorem dX10_street_139 : decode cX10_street 139 = .ok (.aload_n 0, 1) := by decide +kernel
theorem dX10_street_140 : decode cX10_street 140 = .ok (.iconst 0, 1) := by decide +kernel
theorem dX10_street_141 : decode cX10_street 141 = .ok (.putfield 131, 3) := by decide +kernel
theorem dX10_street_144 : decode cX10_street 144 = .ok (.aload_n 0, 1) := by decide +kernel
theorem dX10_street_145 : decode cX10_street 145 = .ok (.iconst 0, 1) := by decide +kernel
theorem dX10_street_146 : decode cX10_street 146 = .ok (.putfield 134, 3) := by decide +kernel
theorem dX10_street_149 : decode cX10_street 149 = .ok (.aload_n 0, 1) := by decide +kernel
theorem dX10_street_150 : decode cX10_street 150 = .ok (.iconst 0, 1) := by decide +kernel
theorem dX10_street_151 : decode cX10_street 151 = .ok (.putfield 137, 3) := by decide +kernel
theorem dX10_street_154 : decode cX10_street 154 = .ok (.aload_n 0, 1) := by decide +kernel
theorem dX10_street_155 : decode cX10_street 155 = .ok (.getfield 53, 3) := by decide +kernel
theorem dX10_street_158 : decode cX10_street 158 = .ok (.iconst 0, 1) := by decide +kernel
theorem dX10_street_159 : decode cX10_street 159 = .ok (.iconst 0, 1) := by decide +kernel
theorem dX10_street_160 : decode cX10_street 160 = .ok (.bastore, 1) := by decide +kernel
theorem dX10_street_161 : decode cX10_street 161 = .ok (.aload_n 0, 1) := by decide +kernel
theorem dX10_street_162 : decode cX10_street 162 = .ok (.getfield 53, 3) := by decide +kernel
theorem dX10_street_165 : decode cX10_street 165 = .ok (.iconst 1, 1) := by decide +kernel
theorem dX10_street_166 : decode cX10_street 166 = .ok (.iconst 0, 1) := by decide +kernel
theorem dX10_street_167 : decode cX10_street 167 = .ok (.bastore, 1) := by decide +kernel
theorem dX10_street_168 : decode cX10_street 168 = .ok (.aload_n 0, 1) := by decide +kernel
theorem dX10_street_169 : decode cX10_street 169 = .ok (.getfield 17, 3) := by decide +kernel
theorem dX10_street_172 : decode cX10_street 172 = .ok (.iconst 4, 1) := by decide +kernel
theorem dX10_street_173 : decode cX10_street 173 = .ok (.iaload, 1) := by decide +kernel
theorem dX10_street_174 : decode cX10_street 174 = .ok (.ireturn, 1) := by decide +kernel
theorem dX10_fault_0 : decode cX10_fault 0 = .ok (.aload_n 0, 1) := by decide +kernel
theorem dX10_fault_1 : decode cX10_fault 1 = .ok (.getfield 13, 3) := by decide +kernel
theorem dX10_fault_4 : decode cX10_fault 4 = .ok (.ireturn, 1) := by decide +kernel
theorem dX10_isStreet_0 : decode cX10_isStreet 0 = .ok (.aload_n 0, 1) := by decide +kernel
theorem dX10_isStreet_1 : decode cX10_isStreet 1 = .ok (.getfield 17, 3) := by decide +kernel
theorem dX10_isStreet_4 : decode cX10_isStreet 4 = .ok (.iconst 0, 1) := by decide +kernel
theorem dX10_isStreet_5 : decode cX10_isStreet 5 = .ok (.iaload, 1) := by decide +kernel
theorem dX10_isStreet_6 : decode cX10_isStreet 6 = .ok (.ifCond .le 7, 3) := by decide +kernel
theorem dX10_isStreet_9 : decode cX10_isStreet 9 = .ok (.iconst 1, 1) := by decide +kernel
theorem dX10_isStreet_10 : decode cX10_isStreet 10 = .ok (.goto 4, 3) := by decide +kernel
theorem dX10_isStreet_13 : decode cX10_isStreet 13 = .ok (.iconst 0, 1) := by decide +kernel
theorem dX10_isStreet_14 : decode cX10_isStreet 14 = .ok (.ireturn, 1) := by decide +kernel
theorem dX10_houses_0 : decode cX10_houses 0 = .ok (.aload_n 0, 1) := by decide +kernel
theorem dX10_houses_1 : decode cX10_houses 1 = .ok (.getfield 17, 3) := by decide +kernel
theorem dX10_houses_4 : decode cX10_houses 4 = .ok (.iconst 3, 1) := by decide +kernel
theorem dX10_houses_5 : decode cX10_houses 5 = .ok (.iaload, 1) := by decide +kernel
theorem dX10_houses_6 : decode cX10_houses 6 = .ok (.ifCond .ne 7, 3) := by decide +kernel
theorem dX10_houses_9 : decode cX10_houses 9 = .ok (.iconst 0, 1) := by decide +kernel
theorem dX10_houses_10 : decode cX10_houses 10 = .ok (.goto 11, 3) := by decide +kernel
theorem dX10_houses_13 : decode cX10_houses 13 = .ok (.aload_n 0, 1) := by decide +kernel
theorem dX10_houses_14 : decode cX10_houses 14 = .ok (.getfield 17, 3) := by decide +kernel
theorem dX10_houses_17 : decode cX10_houses 17 = .ok (.iconst 3, 1) := by decide +kernel
theorem dX10_houses_18 : decode cX10_houses 18 = .ok (.iaload, 1) := by decide +kernel
theorem dX10_houses_19 : decode cX10_houses 19 = .ok (.iconst 1, 1) := by decide +kernel
theorem dX10_houses_20 : decode cX10_houses 20 = .ok (.iadd, 1) := by decide +kernel
theorem dX10_houses_21 : decode cX10_houses 21 = .ok (.ireturn, 1) := by decide +kernel
theorem dX10_isGap_0 : decode cX10_isGap 0 = .ok (.iload_n 1, 1) := by decide +kernel
theorem dX10_isGap_1 : decode cX10_isGap 1 = .ok (.iconst 0, 1) := by decide +kernel
theorem dX10_isGap_2 : decode cX10_isGap 2 = .ok (.aload_n 0, 1) := by decide +kernel
theorem dX10_isGap_3 : decode cX10_isGap 3 = .ok (.getfield 17, 3) := by decide +kernel
theorem dX10_isGap_6 : decode cX10_isGap 6 = .ok (.iconst 3, 1) := by decide +kernel
theorem dX10_isGap_7 : decode cX10_isGap 7 = .ok (.iaload, 1) := by decide +kernel
theorem dX10_isGap_8 : decode cX10_isGap 8 = .ok (.iconst 1, 1) := by decide +kernel
theorem dX10_isGap_9 : decode cX10_isGap 9 = .ok (.isub, 1) := by decide +kernel
theorem dX10_isGap_10 : decode cX10_isGap 10 = .ok (.invokestatic 69, 3) := by decide +kernel
theorem dX10_isGap_13 : decode cX10_isGap 13 = .ok (.ireturn, 1) := by decide +kernel
theorem dX10_isHouse_0 : decode cX10_isHouse 0 = .ok (.iload_n 1, 1) := by decide +kernel
theorem dX10_isHouse_1 : decode cX10_isHouse 1 = .ok (.iconst 0, 1) := by decide +kernel
theorem dX10_isHouse_2 : decode cX10_isHouse 2 = .ok (.aload_n 0, 1) := by decide +kernel
theorem dX10_isHouse_3 : decode cX10_isHouse 3 = .ok (.invokevirtual 140, 3) := by decide +kernel
theorem dX10_isHouse_6 : decode cX10_isHouse 6 = .ok (.iconst 1, 1) := by decide +kernel
theorem dX10_isHouse_7 : decode cX10_isHouse 7 = .ok (.isub, 1) := by decide +kernel
theorem dX10_isHouse_8 : decode cX10_isHouse 8 = .ok (.invokestatic 69, 3) := by decide +kernel
theorem dX10_isHouse_11 : decode cX10_isHouse 11 = .ok (.ireturn, 1) := by decide +kernel
theorem dX10_isWalker_0 : decode cX10_isWalker 0 = .ok (.iload_n 1, 1) := by decide +kernel
theorem dX10_isWalker_1 : decode cX10_isWalker 1 = .ok (.iconst 0, 1) := by decide +kernel
theorem dX10_isWalker_2 : decode cX10_isWalker 2 = .ok (.aload_n 0, 1) := by decide +kernel
theorem dX10_isWalker_3 : decode cX10_isWalker 3 = .ok (.getfield 17, 3) := by decide +kernel
theorem dX10_isWalker_6 : decode cX10_isWalker 6 = .ok (.iconst 4, 1) := by decide +kernel
theorem dX10_isWalker_7 : decode cX10_isWalker 7 = .ok (.iaload, 1) := by decide +kernel
theorem dX10_isWalker_8 : decode cX10_isWalker 8 = .ok (.iconst 1, 1) := by decide +kernel
theorem dX10_isWalker_9 : decode cX10_isWalker 9 = .ok (.isub, 1) := by decide +kernel
theorem dX10_isWalker_10 : decode cX10_isWalker 10 = .ok (.invokestatic 69, 3) := by decide +kernel
theorem dX10_isWalker_13 : decode cX10_isWalker 13 = .ok (.ireturn, 1) := by decide +kernel
theorem dX10_told_0 : decode cX10_told 0 = .ok (.iload_n 1, 1) := by decide +kernel
theorem dX10_told_1 : decode cX10_told 1 = .ok (.tableswitch 126 0 10 #[59, 66, 73, 80, 85, 92, 97, 104, 111, 116, 121], 59) := by decide +kernel
theorem dX10_told_60 : decode cX10_told 60 = .ok (.aload_n 0, 1) := by decide +kernel
theorem dX10_told_61 : decode cX10_told 61 = .ok (.getfield 17, 3) := by decide +kernel
theorem dX10_told_64 : decode cX10_told 64 = .ok (.iconst 0, 1) := by decide +kernel
theorem dX10_told_65 : decode cX10_told 65 = .ok (.iaload, 1) := by decide +kernel
theorem dX10_told_66 : decode cX10_told 66 = .ok (.ireturn, 1) := by decide +kernel
theorem dX10_told_67 : decode cX10_told 67 = .ok (.aload_n 0, 1) := by decide +kernel
theorem dX10_told_68 : decode cX10_told 68 = .ok (.getfield 17, 3) := by decide +kernel
theorem dX10_told_71 : decode cX10_told 71 = .ok (.iconst 1, 1) := by decide +kernel
theorem dX10_told_72 : decode cX10_told 72 = .ok (.iaload, 1) := by decide +kernel
theorem dX10_told_73 : decode cX10_told 73 = .ok (.ireturn, 1) := by decide +kernel
theorem dX10_told_74 : decode cX10_told 74 = .ok (.aload_n 0, 1) := by decide +kernel
theorem dX10_told_75 : decode cX10_told 75 = .ok (.getfield 17, 3) := by decide +kernel
theorem dX10_told_78 : decode cX10_told 78 = .ok (.iconst 2, 1) := by decide +kernel
theorem dX10_told_79 : decode cX10_told 79 = .ok (.iaload, 1) := by decide +kernel
theorem dX10_told_80 : decode cX10_told 80 = .ok (.ireturn, 1) := by decide +kernel
theorem dX10_told_81 : decode cX10_told 81 = .ok (.aload_n 0, 1) := by decide +kernel
theorem dX10_told_82 : decode cX10_told 82 = .ok (.invokevirtual 140, 3) := by decide +kernel
theorem dX10_told_85 : decode cX10_told 85 = .ok (.ireturn, 1) := by decide +kernel
theorem dX10_told_86 : decode cX10_told 86 = .ok (.aload_n 0, 1) := by decide +kernel
theorem dX10_told_87 : decode cX10_told 87 = .ok (.getfield 17, 3) := by decide +kernel
theorem dX10_told_90 : decode cX10_told 90 = .ok (.iconst 4, 1) := by decide +kernel
theorem dX10_told_91 : decode cX10_told 91 = .ok (.iaload, 1) := by decide +kernel
theorem dX10_told_92 : decode cX10_told 92 = .ok (.ireturn, 1) := by decide +kernel
theorem dX10_told_93 : decode cX10_told 93 = .ok (.aload_n 0, 1) := by decide +kernel
theorem dX10_told_94 : decode cX10_told 94 = .ok (.getfield 74, 3) := by decide +kernel
theorem dX10_told_97 : decode cX10_told 97 = .ok (.ireturn, 1) := by decide +kernel
theorem dX10_told_98 : decode cX10_told 98 = .ok (.aload_n 0, 1) := by decide +kernel
theorem dX10_told_99 : decode cX10_told 99 = .ok (.getfield 41, 3) := by decide +kernel
theorem dX10_told_102 : decode cX10_told 102 = .ok (.iconst 0, 1) := by decide +kernel
theorem dX10_told_103 : decode cX10_told 103 = .ok (.iaload, 1) := by decide +kernel
theorem dX10_told_104 : decode cX10_told 104 = .ok (.ireturn, 1) := by decide +kernel
theorem dX10_told_105 : decode cX10_told 105 = .ok (.aload_n 0, 1) := by decide +kernel
theorem dX10_told_106 : decode cX10_told 106 = .ok (.getfield 41, 3) := by decide +kernel
theorem dX10_told_109 : decode cX10_told 109 = .ok (.iconst 1, 1) := by decide +kernel
theorem dX10_told_110 : decode cX10_told 110 = .ok (.iaload, 1) := by decide +kernel
theorem dX10_told_111 : decode cX10_told 111 = .ok (.ireturn, 1) := by decide +kernel
theorem dX10_told_112 : decode cX10_told 112 = .ok (.aload_n 0, 1) := by decide +kernel
theorem dX10_told_113 : decode cX10_told 113 = .ok (.getfield 134, 3) := by decide +kernel
theorem dX10_told_116 : decode cX10_told 116 = .ok (.ireturn, 1) := by decide +kernel
theorem dX10_told_117 : decode cX10_told 117 = .ok (.aload_n 0, 1) := by decide +kernel
theorem dX10_told_118 : decode cX10_told 118 = .ok (.getfield 137, 3) := by decide +kernel
theorem dX10_told_121 : decode cX10_told 121 = .ok (.ireturn, 1) := by decide +kernel
theorem dX10_told_122 : decode cX10_told 122 = .ok (.aload_n 0, 1) := by decide +kernel
theorem dX10_told_123 : decode cX10_told 123 = .ok (.getfield 131, 3) := by decide +kernel
theorem dX10_told_126 : decode cX10_told 126 = .ok (.ireturn, 1) := by decide +kernel
theorem dX10_told_127 : decode cX10_told 127 = .ok (.ldc 73, 2) := by decide +kernel
theorem dX10_told_129 : decode cX10_told 129 = .ok (.ireturn, 1) := by decide +kernel
theorem dX10_yardsBy_0 : decode cX10_yardsBy 0 = .ok (.iload_n 3, 1) := by decide +kernel
theorem dX10_yardsBy_1 : decode cX10_yardsBy 1 = .ok (.iconst 2, 1) := by decide +kernel
theorem dX10_yardsBy_2 : decode cX10_yardsBy 2 = .ok (.aload_n 0, 1) := by decide +kernel
theorem dX10_yardsBy_3 : decode cX10_yardsBy 3 = .ok (.getfield 17, 3) := by decide +kernel
theorem dX10_yardsBy_6 : decode cX10_yardsBy 6 = .ok (.iconst 0, 1) := by decide +kernel
theorem dX10_yardsBy_7 : decode cX10_yardsBy 7 = .ok (.iaload, 1) := by decide +kernel
theorem dX10_yardsBy_8 : decode cX10_yardsBy 8 = .ok (.imul, 1) := by decide +kernel
theorem dX10_yardsBy_9 : decode cX10_yardsBy 9 = .ok (.irem, 1) := by decide +kernel
theorem dX10_yardsBy_10 : decode cX10_yardsBy 10 = .ok (.istore 4, 2) := by decide +kernel
theorem dX10_yardsBy_12 : decode cX10_yardsBy 12 = .ok (.aload_n 0, 1) := by decide +kernel
theorem dX10_yardsBy_13 : decode cX10_yardsBy 13 = .ok (.getfield 20, 3) := by decide +kernel
theorem dX10_yardsBy_16 : decode cX10_yardsBy 16 = .ok (.iload_n 1, 1) := by decide +kernel
theorem dX10_yardsBy_17 : decode cX10_yardsBy 17 = .ok (.iaload, 1) := by decide +kernel
theorem dX10_yardsBy_18 : decode cX10_yardsBy 18 = .ok (.iload_n 2, 1) := by decide +kernel
theorem dX10_yardsBy_19 : decode cX10_yardsBy 19 = .ok (.iload 4, 2) := by decide +kernel
theorem dX10_yardsBy_21 : decode cX10_yardsBy 21 = .ok (.iconst 2, 1) := by decide +kernel
theorem dX10_yardsBy_22 : decode cX10_yardsBy 22 = .ok (.aload_n 0, 1) := by decide +kernel
theorem dX10_yardsBy_23 : decode cX10_yardsBy 23 = .ok (.getfield 17, 3) := by decide +kernel
theorem dX10_yardsBy_26 : decode cX10_yardsBy 26 = .ok (.iconst 0, 1) := by decide +kernel
theorem dX10_yardsBy_27 : decode cX10_yardsBy 27 = .ok (.iaload, 1) := by decide +kernel
theorem dX10_yardsBy_28 : decode cX10_yardsBy 28 = .ok (.imul, 1) := by decide +kernel
theorem dX10_yardsBy_29 : decode cX10_yardsBy 29 = .ok (.iload 4, 2) := by decide +kernel
theorem dX10_yardsBy_31 : decode cX10_yardsBy 31 = .ok (.isub, 1) := by decide +kernel
theorem dX10_yardsBy_32 : decode cX10_yardsBy 32 = .ok (.invokestatic 143, 3) := by decide +kernel
theorem dX10_yardsBy_35 : decode cX10_yardsBy 35 = .ok (.imul, 1) := by decide +kernel
theorem dX10_yardsBy_36 : decode cX10_yardsBy 36 = .ok (.bipush 10, 2) := by decide +kernel
theorem dX10_yardsBy_38 : decode cX10_yardsBy 38 = .ok (.idiv, 1) := by decide +kernel
theorem dX10_yardsBy_39 : decode cX10_yardsBy 39 = .ok (.iadd, 1) := by decide +kernel
theorem dX10_yardsBy_40 : decode cX10_yardsBy 40 = .ok (.ireturn, 1) := by decide +kernel
theorem dX10_yardsOf_0 : decode cX10_yardsOf 0 = .ok (.aload_n 0, 1) := by decide +kernel
theorem dX10_yardsOf_1 : decode cX10_yardsOf 1 = .ok (.iload_n 1, 1) := by decide +kernel
theorem dX10_yardsOf_2 : decode cX10_yardsOf 2 = .ok (.aload_n 0, 1) := by decide +kernel
theorem dX10_yardsOf_3 : decode cX10_yardsOf 3 = .ok (.getfield 17, 3) := by decide +kernel
theorem dX10_yardsOf_6 : decode cX10_yardsOf 6 = .ok (.iconst 1, 1) := by decide +kernel
theorem dX10_yardsOf_7 : decode cX10_yardsOf 7 = .ok (.iaload, 1) := by decide +kernel
theorem dX10_yardsOf_8 : decode cX10_yardsOf 8 = .ok (.iload_n 2, 1) := by decide +kernel
theorem dX10_yardsOf_9 : decode cX10_yardsOf 9 = .ok (.invokevirtual 146, 3) := by decide +kernel
theorem dX10_yardsOf_12 : decode cX10_yardsOf 12 = .ok (.ireturn, 1) := by decide +kernel
theorem dX10_nightHouses_0 : decode cX10_nightHouses 0 = .ok (.iload_n 1, 1) := by decide +kernel
theorem dX10_nightHouses_1 : decode cX10_nightHouses 1 = .ok (.aload_n 0, 1) := by decide +kernel
theorem dX10_nightHouses_2 : decode cX10_nightHouses 2 = .ok (.getfield 17, 3) := by decide +kernel
theorem dX10_nightHouses_5 : decode cX10_nightHouses 5 = .ok (.iconst 2, 1) := by decide +kernel
theorem dX10_nightHouses_6 : decode cX10_nightHouses 6 = .ok (.iaload, 1) := by decide +kernel
theorem dX10_nightHouses_7 : decode cX10_nightHouses 7 = .ok (.idiv, 1) := by decide +kernel
theorem dX10_nightHouses_8 : decode cX10_nightHouses 8 = .ok (.iconst 1, 1) := by decide +kernel
theorem dX10_nightHouses_9 : decode cX10_nightHouses 9 = .ok (.isub, 1) := by decide +kernel
theorem dX10_nightHouses_10 : decode cX10_nightHouses 10 = .ok (.istore_n 2, 1) := by decide +kernel
theorem dX10_nightHouses_11 : decode cX10_nightHouses 11 = .ok (.iload_n 2, 1) := by decide +kernel
theorem dX10_nightHouses_12 : decode cX10_nightHouses 12 = .ok (.ifCond .ge 7, 3) := by decide +kernel
theorem dX10_nightHouses_15 : decode cX10_nightHouses 15 = .ok (.iconst 0, 1) := by decide +kernel
theorem dX10_nightHouses_16 : decode cX10_nightHouses 16 = .ok (.goto 4, 3) := by decide +kernel
theorem dX10_nightHouses_19 : decode cX10_nightHouses 19 = .ok (.iload_n 2, 1) := by decide +kernel
theorem dX10_nightHouses_20 : decode cX10_nightHouses 20 = .ok (.ireturn, 1) := by decide +kernel
theorem dX10_allNightHouses_0 : decode cX10_allNightHouses 0 = .ok (.iconst 0, 1) := by decide +kernel
theorem dX10_allNightHouses_1 : decode cX10_allNightHouses 1 = .ok (.istore_n 2, 1) := by decide +kernel
theorem dX10_allNightHouses_2 : decode cX10_allNightHouses 2 = .ok (.iconst 0, 1) := by decide +kernel
theorem dX10_allNightHouses_3 : decode cX10_allNightHouses 3 = .ok (.istore_n 3, 1) := by decide +kernel
theorem dX10_allNightHouses_4 : decode cX10_allNightHouses 4 = .ok (.iload_n 3, 1) := by decide +kernel
theorem dX10_allNightHouses_5 : decode cX10_allNightHouses 5 = .ok (.aload_n 0, 1) := by decide +kernel
theorem dX10_allNightHouses_6 : decode cX10_allNightHouses 6 = .ok (.getfield 17, 3) := by decide +kernel
theorem dX10_allNightHouses_9 : decode cX10_allNightHouses 9 = .ok (.iconst 3, 1) := by decide +kernel
theorem dX10_allNightHouses_10 : decode cX10_allNightHouses 10 = .ok (.iaload, 1) := by decide +kernel
theorem dX10_allNightHouses_11 : decode cX10_allNightHouses 11 = .ok (.if_icmp .ge 22, 3) := by decide +kernel
theorem dX10_allNightHouses_14 : decode cX10_allNightHouses 14 = .ok (.iload_n 2, 1) := by decide +kernel
theorem dX10_allNightHouses_15 : decode cX10_allNightHouses 15 = .ok (.aload_n 0, 1) := by decide +kernel
theorem dX10_allNightHouses_16 : decode cX10_allNightHouses 16 = .ok (.aload_n 0, 1) := by decide +kernel
theorem dX10_allNightHouses_17 : decode cX10_allNightHouses 17 = .ok (.iload_n 3, 1) := by decide +kernel
theorem dX10_allNightHouses_18 : decode cX10_allNightHouses 18 = .ok (.iload_n 1, 1) := by decide +kernel
theorem dX10_allNightHouses_19 : decode cX10_allNightHouses 19 = .ok (.invokevirtual 150, 3) := by decide +kernel
theorem dX10_allNightHouses_22 : decode cX10_allNightHouses 22 = .ok (.invokevirtual 153, 3) := by decide +kernel
theorem dX10_allNightHouses_25 : decode cX10_allNightHouses 25 = .ok (.iadd, 1) := by decide +kernel
theorem dX10_allNightHouses_26 : decode cX10_allNightHouses 26 = .ok (.istore_n 2, 1) := by decide +kernel
theorem dX10_allNightHouses_27 : decode cX10_allNightHouses 27 = .ok (.iinc 3 1, 3) := by decide +kernel
theorem dX10_allNightHouses_30 : decode cX10_allNightHouses 30 = .ok (.goto (-26), 3) := by decide +kernel
theorem dX10_allNightHouses_33 : decode cX10_allNightHouses 33 = .ok (.iload_n 2, 1) := by decide +kernel
theorem dX10_allNightHouses_34 : decode cX10_allNightHouses 34 = .ok (.ireturn, 1) := by decide +kernel
theorem dX10_gap_0 : decode cX10_gap 0 = .ok (.aload_n 0, 1) := by decide +kernel
theorem dX10_gap_1 : decode cX10_gap 1 = .ok (.iload_n 1, 1) := by decide +kernel
theorem dX10_gap_2 : decode cX10_gap 2 = .ok (.invokevirtual 157, 3) := by decide +kernel
theorem dX10_gap_5 : decode cX10_gap 5 = .ok (.ifCond .ne 6, 3) := by decide +kernel
theorem dX10_gap_8 : decode cX10_gap 8 = .ok (.ldc 161, 2) := by decide +kernel
theorem dX10_gap_10 : decode cX10_gap 10 = .ok (.ireturn, 1) := by decide +kernel
theorem dX10_gap_11 : decode cX10_gap 11 = .ok (.iload_n 2, 1) := by decide +kernel
theorem dX10_gap_12 : decode cX10_gap 12 = .ok (.tableswitch 78 0 3 #[32, 39, 51, 67], 32) := by decide +kernel
theorem dX10_gap_44 : decode cX10_gap 44 = .ok (.aload_n 0, 1) := by decide +kernel
theorem dX10_gap_45 : decode cX10_gap 45 = .ok (.getfield 20, 3) := by decide +kernel
theorem dX10_gap_48 : decode cX10_gap 48 = .ok (.iload_n 1, 1) := by decide +kernel
theorem dX10_gap_49 : decode cX10_gap 49 = .ok (.iaload, 1) := by decide +kernel
theorem dX10_gap_50 : decode cX10_gap 50 = .ok (.ireturn, 1) := by decide +kernel
theorem dX10_gap_51 : decode cX10_gap 51 = .ok (.aload_n 0, 1) := by decide +kernel
theorem dX10_gap_52 : decode cX10_gap 52 = .ok (.iload_n 1, 1) := by decide +kernel
theorem dX10_gap_53 : decode cX10_gap 53 = .ok (.aload_n 0, 1) := by decide +kernel
theorem dX10_gap_54 : decode cX10_gap 54 = .ok (.getfield 41, 3) := by decide +kernel
theorem dX10_gap_57 : decode cX10_gap 57 = .ok (.iconst 0, 1) := by decide +kernel
theorem dX10_gap_58 : decode cX10_gap 58 = .ok (.iaload, 1) := by decide +kernel
theorem dX10_gap_59 : decode cX10_gap 59 = .ok (.invokevirtual 150, 3) := by decide +kernel
theorem dX10_gap_62 : decode cX10_gap 62 = .ok (.ireturn, 1) := by decide +kernel
theorem dX10_gap_63 : decode cX10_gap 63 = .ok (.aload_n 0, 1) := by decide +kernel
theorem dX10_gap_64 : decode cX10_gap 64 = .ok (.aload_n 0, 1) := by decide +kernel
theorem dX10_gap_65 : decode cX10_gap 65 = .ok (.iload_n 1, 1) := by decide +kernel
theorem dX10_gap_66 : decode cX10_gap 66 = .ok (.aload_n 0, 1) := by decide +kernel
theorem dX10_gap_67 : decode cX10_gap 67 = .ok (.getfield 41, 3) := by decide +kernel
theorem dX10_gap_70 : decode cX10_gap 70 = .ok (.iconst 0, 1) := by decide +kernel
theorem dX10_gap_71 : decode cX10_gap 71 = .ok (.iaload, 1) := by decide +kernel
theorem dX10_gap_72 : decode cX10_gap 72 = .ok (.invokevirtual 150, 3) := by decide +kernel
theorem dX10_gap_75 : decode cX10_gap 75 = .ok (.invokevirtual 153, 3) := by decide +kernel
theorem dX10_gap_78 : decode cX10_gap 78 = .ok (.ireturn, 1) := by decide +kernel
theorem dX10_gap_79 : decode cX10_gap 79 = .ok (.aload_n 0, 1) := by decide +kernel
theorem dX10_gap_80 : decode cX10_gap 80 = .ok (.getfield 41, 3) := by decide +kernel
theorem dX10_gap_83 : decode cX10_gap 83 = .ok (.iconst 1, 1) := by decide +kernel
theorem dX10_gap_84 : decode cX10_gap 84 = .ok (.iaload, 1) := by decide +kernel
theorem dX10_gap_85 : decode cX10_gap 85 = .ok (.iload_n 1, 1) := by decide +kernel
theorem dX10_gap_86 : decode cX10_gap 86 = .ok (.ishr, 1) := by decide +kernel
theorem dX10_gap_87 : decode cX10_gap 87 = .ok (.iconst 1, 1) := by decide +kernel
theorem dX10_gap_88 : decode cX10_gap 88 = .ok (.iand, 1) := by decide +kernel
theorem dX10_gap_89 : decode cX10_gap 89 = .ok (.ireturn, 1) := by decide +kernel
theorem dX10_gap_90 : decode cX10_gap 90 = .ok (.ldc 73, 2) := by decide +kernel
theorem dX10_gap_92 : decode cX10_gap 92 = .ok (.ireturn, 1) := by decide +kernel
theorem dX10_tries_0 : decode cX10_tries 0 = .ok (.aload_n 0, 1) := by decide +kernel
theorem dX10_tries_1 : decode cX10_tries 1 = .ok (.aload_n 0, 1) := by decide +kernel
theorem dX10_tries_2 : decode cX10_tries 2 = .ok (.getfield 41, 3) := by decide +kernel
theorem dX10_tries_5 : decode cX10_tries 5 = .ok (.iconst 2, 1) := by decide +kernel
theorem dX10_tries_6 : decode cX10_tries 6 = .ok (.iconst 3, 1) := by decide +kernel
theorem dX10_tries_7 : decode cX10_tries 7 = .ok (.iload_n 1, 1) := by decide +kernel
theorem dX10_tries_8 : decode cX10_tries 8 = .ok (.imul, 1) := by decide +kernel
theorem dX10_tries_9 : decode cX10_tries 9 = .ok (.iadd, 1) := by decide +kernel
theorem dX10_tries_10 : decode cX10_tries 10 = .ok (.iaload, 1) := by decide +kernel
theorem dX10_tries_11 : decode cX10_tries 11 = .ok (.putfield 162, 3) := by decide +kernel
theorem dX10_tries_14 : decode cX10_tries 14 = .ok (.aload_n 0, 1) := by decide +kernel
theorem dX10_tries_15 : decode cX10_tries 15 = .ok (.aload_n 0, 1) := by decide +kernel
theorem dX10_tries_16 : decode cX10_tries 16 = .ok (.getfield 41, 3) := by decide +kernel
theorem dX10_tries_19 : decode cX10_tries 19 = .ok (.iconst 2, 1) := by decide +kernel
theorem dX10_tries_20 : decode cX10_tries 20 = .ok (.iconst 3, 1) := by decide +kernel
theorem dX10_tries_21 : decode cX10_tries 21 = .ok (.iload_n 1, 1) := by decide +kernel
theorem dX10_tries_22 : decode cX10_tries 22 = .ok (.imul, 1) := by decide +kernel
theorem dX10_tries_23 : decode cX10_tries 23 = .ok (.iadd, 1) := by decide +kernel
theorem dX10_tries_24 : decode cX10_tries 24 = .ok (.iconst 1, 1) := by decide +kernel
theorem dX10_tries_25 : decode cX10_tries 25 = .ok (.iadd, 1) := by decide +kernel
theorem dX10_tries_26 : decode cX10_tries 26 = .ok (.iaload, 1) := by decide +kernel
theorem dX10_tries_27 : decode cX10_tries 27 = .ok (.putfield 165, 3) := by decide +kernel
theorem dX10_tries_30 : decode cX10_tries 30 = .ok (.aload_n 0, 1) := by decide +kernel
theorem dX10_tries_31 : decode cX10_tries 31 = .ok (.aload_n 0, 1) := by decide +kernel
theorem dX10_tries_32 : decode cX10_tries 32 = .ok (.getfield 41, 3) := by decide +kernel
theorem dX10_tries_35 : decode cX10_tries 35 = .ok (.iconst 2, 1) := by decide +kernel
theorem dX10_tries_36 : decode cX10_tries 36 = .ok (.iconst 3, 1) := by decide +kernel
theorem dX10_tries_37 : decode cX10_tries 37 = .ok (.iload_n 1, 1) := by decide +kernel
theorem dX10_tries_38 : decode cX10_tries 38 = .ok (.imul, 1) := by decide +kernel
theorem dX10_tries_39 : decode cX10_tries 39 = .ok (.iadd, 1) := by decide +kernel
theorem dX10_tries_40 : decode cX10_tries 40 = .ok (.iconst 2, 1) := by decide +kernel
theorem dX10_tries_41 : decode cX10_tries 41 = .ok (.iadd, 1) := by decide +kernel
theorem dX10_tries_42 : decode cX10_tries 42 = .ok (.iaload, 1) := by decide +kernel
theorem dX10_tries_43 : decode cX10_tries 43 = .ok (.putfield 168, 3) := by decide +kernel
theorem dX10_tries_46 : decode cX10_tries 46 = .ok (.aload_n 0, 1) := by decide +kernel
theorem dX10_tries_47 : decode cX10_tries 47 = .ok (.aload_n 0, 1) := by decide +kernel
theorem dX10_tries_48 : decode cX10_tries 48 = .ok (.getfield 26, 3) := by decide +kernel
theorem dX10_tries_51 : decode cX10_tries 51 = .ok (.iload_n 1, 1) := by decide +kernel
theorem dX10_tries_52 : decode cX10_tries 52 = .ok (.iaload, 1) := by decide +kernel
theorem dX10_tries_53 : decode cX10_tries 53 = .ok (.putfield 171, 3) := by decide +kernel
theorem dX10_tries_56 : decode cX10_tries 56 = .ok (.return_, 1) := by decide +kernel
theorem dX10_setsOut_0 : decode cX10_setsOut 0 = .ok (.aload_n 0, 1) := by decide +kernel
theorem dX10_setsOut_1 : decode cX10_setsOut 1 = .ok (.iload_n 1, 1) := by decide +kernel
theorem dX10_setsOut_2 : decode cX10_setsOut 2 = .ok (.putfield 162, 3) := by decide +kernel
theorem dX10_setsOut_5 : decode cX10_setsOut 5 = .ok (.aload_n 0, 1) := by decide +kernel
theorem dX10_setsOut_6 : decode cX10_setsOut 6 = .ok (.iconst 0, 1) := by decide +kernel
theorem dX10_setsOut_7 : decode cX10_setsOut 7 = .ok (.putfield 165, 3) := by decide +kernel
theorem dX10_setsOut_10 : decode cX10_setsOut 10 = .ok (.aload_n 0, 1) := by decide +kernel
theorem dX10_setsOut_11 : decode cX10_setsOut 11 = .ok (.iload_n 2, 1) := by decide +kernel
theorem dX10_setsOut_12 : decode cX10_setsOut 12 = .ok (.putfield 168, 3) := by decide +kernel
theorem dX10_setsOut_15 : decode cX10_setsOut 15 = .ok (.aload_n 0, 1) := by decide +kernel
theorem dX10_setsOut_16 : decode cX10_setsOut 16 = .ok (.iload_n 3, 1) := by decide +kernel
theorem dX10_setsOut_17 : decode cX10_setsOut 17 = .ok (.putfield 171, 3) := by decide +kernel
theorem dX10_setsOut_20 : decode cX10_setsOut 20 = .ok (.return_, 1) := by decide +kernel
theorem dX10_walks_0 : decode cX10_walks 0 = .ok (.aload_n 0, 1) := by decide +kernel
theorem dX10_walks_1 : decode cX10_walks 1 = .ok (.getfield 162, 3) := by decide +kernel
theorem dX10_walks_4 : decode cX10_walks 4 = .ok (.bipush 100, 2) := by decide +kernel
theorem dX10_walks_6 : decode cX10_walks 6 = .ok (.if_icmp .ge 67, 3) := by decide +kernel
theorem dX10_walks_9 : decode cX10_walks 9 = .ok (.aload_n 0, 1) := by decide +kernel
theorem dX10_walks_10 : decode cX10_walks 10 = .ok (.getfield 168, 3) := by decide +kernel
theorem dX10_walks_13 : decode cX10_walks 13 = .ok (.iconst 2, 1) := by decide +kernel
theorem dX10_walks_14 : decode cX10_walks 14 = .ok (.if_icmp .ne 10, 3) := by decide +kernel
theorem dX10_walks_17 : decode cX10_walks 17 = .ok (.aload_n 0, 1) := by decide +kernel
theorem dX10_walks_18 : decode cX10_walks 18 = .ok (.getfield 162, 3) := by decide +kernel
theorem dX10_walks_21 : decode cX10_walks 21 = .ok (.goto 9, 3) := by decide +kernel
theorem dX10_walks_24 : decode cX10_walks 24 = .ok (.aload_n 0, 1) := by decide +kernel
theorem dX10_walks_25 : decode cX10_walks 25 = .ok (.getfield 162, 3) := by decide +kernel
theorem dX10_walks_28 : decode cX10_walks 28 = .ok (.iconst 1, 1) := by decide +kernel
theorem dX10_walks_29 : decode cX10_walks 29 = .ok (.isub, 1) := by decide +kernel
theorem dX10_walks_30 : decode cX10_walks 30 = .ok (.istore_n 3, 1) := by decide +kernel
theorem dX10_walks_31 : decode cX10_walks 31 = .ok (.aload_n 0, 1) := by decide +kernel
theorem dX10_walks_32 : decode cX10_walks 32 = .ok (.getfield 168, 3) := by decide +kernel
theorem dX10_walks_35 : decode cX10_walks 35 = .ok (.iconst 1, 1) := by decide +kernel
theorem dX10_walks_36 : decode cX10_walks 36 = .ok (.if_icmp .eq 16, 3) := by decide +kernel
theorem dX10_walks_39 : decode cX10_walks 39 = .ok (.aload_n 0, 1) := by decide +kernel
theorem dX10_walks_40 : decode cX10_walks 40 = .ok (.iload_n 3, 1) := by decide +kernel
theorem dX10_walks_41 : decode cX10_walks 41 = .ok (.invokevirtual 157, 3) := by decide +kernel
theorem dX10_walks_44 : decode cX10_walks 44 = .ok (.ifCond .ne 8, 3) := by decide +kernel
theorem dX10_walks_47 : decode cX10_walks 47 = .ok (.aload_n 0, 1) := by decide +kernel
theorem dX10_walks_48 : decode cX10_walks 48 = .ok (.iconst 1, 1) := by decide +kernel
theorem dX10_walks_49 : decode cX10_walks 49 = .ok (.putfield 168, 3) := by decide +kernel
theorem dX10_walks_52 : decode cX10_walks 52 = .ok (.aload_n 0, 1) := by decide +kernel
theorem dX10_walks_53 : decode cX10_walks 53 = .ok (.getfield 168, 3) := by decide +kernel
theorem dX10_walks_56 : decode cX10_walks 56 = .ok (.iconst 1, 1) := by decide +kernel
theorem dX10_walks_57 : decode cX10_walks 57 = .ok (.if_icmp .eq 16, 3) := by decide +kernel
theorem dX10_walks_60 : decode cX10_walks 60 = .ok (.aload_n 0, 1) := by decide +kernel
theorem dX10_walks_61 : decode cX10_walks 61 = .ok (.bipush 100, 2) := by decide +kernel
theorem dX10_walks_63 : decode cX10_walks 63 = .ok (.iload_n 3, 1) := by decide +kernel
theorem dX10_walks_64 : decode cX10_walks 64 = .ok (.iadd, 1) := by decide +kernel
theorem dX10_walks_65 : decode cX10_walks 65 = .ok (.putfield 162, 3) := by decide +kernel
theorem dX10_walks_68 : decode cX10_walks 68 = .ok (.aload_n 0, 1) := by decide +kernel
theorem dX10_walks_69 : decode cX10_walks 69 = .ok (.iconst 0, 1) := by decide +kernel
theorem dX10_walks_70 : decode cX10_walks 70 = .ok (.putfield 165, 3) := by decide +kernel
theorem dX10_walks_73 : decode cX10_walks 73 = .ok (.aload_n 0, 1) := by decide +kernel
theorem dX10_walks_74 : decode cX10_walks 74 = .ok (.getfield 162, 3) := by decide +kernel
theorem dX10_walks_77 : decode cX10_walks 77 = .ok (.bipush 100, 2) := by decide +kernel
theorem dX10_walks_79 : decode cX10_walks 79 = .ok (.if_icmp .lt 78, 3) := by decide +kernel
theorem dX10_walks_82 : decode cX10_walks 82 = .ok (.aload_n 0, 1) := by decide +kernel
theorem dX10_walks_83 : decode cX10_walks 83 = .ok (.getfield 162, 3) := by decide +kernel
theorem dX10_walks_86 : decode cX10_walks 86 = .ok (.bipush 100, 2) := by decide +kernel
theorem dX10_walks_88 : decode cX10_walks 88 = .ok (.isub, 1) := by decide +kernel
theorem dX10_walks_89 : decode cX10_walks 89 = .ok (.istore_n 3, 1) := by decide +kernel
theorem dX10_walks_90 : decode cX10_walks 90 = .ok (.aload_n 0, 1) := by decide +kernel
theorem dX10_walks_91 : decode cX10_walks 91 = .ok (.dup, 1) := by decide +kernel
theorem dX10_walks_92 : decode cX10_walks 92 = .ok (.getfield 165, 3) := by decide +kernel
theorem dX10_walks_95 : decode cX10_walks 95 = .ok (.iload_n 2, 1) := by decide +kernel
theorem dX10_walks_96 : decode cX10_walks 96 = .ok (.iload_n 3, 1) := by decide +kernel
theorem dX10_walks_97 : decode cX10_walks 97 = .ok (.invokestatic 109, 3) := by decide +kernel
theorem dX10_walks_100 : decode cX10_walks 100 = .ok (.ifCond .eq 12, 3) := by decide +kernel
theorem dX10_walks_103 : decode cX10_walks 103 = .ok (.iconst 2, 1) := by decide +kernel
theorem dX10_walks_104 : decode cX10_walks 104 = .ok (.aload_n 0, 1) := by decide +kernel
theorem dX10_walks_105 : decode cX10_walks 105 = .ok (.getfield 171, 3) := by decide +kernel
theorem dX10_walks_108 : decode cX10_walks 108 = .ok (.imul, 1) := by decide +kernel
theorem dX10_walks_109 : decode cX10_walks 109 = .ok (.goto 7, 3) := by decide +kernel
theorem dX10_walks_112 : decode cX10_walks 112 = .ok (.aload_n 0, 1) := by decide +kernel
theorem dX10_walks_113 : decode cX10_walks 113 = .ok (.getfield 171, 3) := by decide +kernel
theorem dX10_walks_116 : decode cX10_walks 116 = .ok (.iadd, 1) := by decide +kernel
theorem dX10_walks_117 : decode cX10_walks 117 = .ok (.putfield 165, 3) := by decide +kernel
theorem dX10_walks_120 : decode cX10_walks 120 = .ok (.aload_n 0, 1) := by decide +kernel
theorem dX10_walks_121 : decode cX10_walks 121 = .ok (.getfield 165, 3) := by decide +kernel
theorem dX10_walks_124 : decode cX10_walks 124 = .ok (.aload_n 0, 1) := by decide +kernel
theorem dX10_walks_125 : decode cX10_walks 125 = .ok (.iload_n 3, 1) := by decide +kernel
theorem dX10_walks_126 : decode cX10_walks 126 = .ok (.iload_n 1, 1) := by decide +kernel
theorem dX10_walks_127 : decode cX10_walks 127 = .ok (.invokevirtual 150, 3) := by decide +kernel
theorem dX10_walks_130 : decode cX10_walks 130 = .ok (.if_icmp .lt 27, 3) := by decide +kernel
theorem dX10_walks_133 : decode cX10_walks 133 = .ok (.aload_n 0, 1) := by decide +kernel
theorem dX10_walks_134 : decode cX10_walks 134 = .ok (.aload_n 0, 1) := by decide +kernel
theorem dX10_walks_135 : decode cX10_walks 135 = .ok (.getfield 168, 3) := by decide +kernel
theorem dX10_walks_138 : decode cX10_walks 138 = .ok (.iconst 2, 1) := by decide +kernel
theorem dX10_walks_139 : decode cX10_walks 139 = .ok (.if_icmp .ne 9, 3) := by decide +kernel
theorem dX10_walks_142 : decode cX10_walks 142 = .ok (.iload_n 3, 1) := by decide +kernel
theorem dX10_walks_143 : decode cX10_walks 143 = .ok (.iconst 1, 1) := by decide +kernel
theorem dX10_walks_144 : decode cX10_walks 144 = .ok (.iadd, 1) := by decide +kernel
theorem dX10_walks_145 : decode cX10_walks 145 = .ok (.goto 4, 3) := by decide +kernel
theorem dX10_walks_148 : decode cX10_walks 148 = .ok (.iload_n 3, 1) := by decide +kernel
theorem dX10_walks_149 : decode cX10_walks 149 = .ok (.putfield 162, 3) := by decide +kernel
theorem dX10_walks_152 : decode cX10_walks 152 = .ok (.aload_n 0, 1) := by decide +kernel
theorem dX10_walks_153 : decode cX10_walks 153 = .ok (.iconst 0, 1) := by decide +kernel
theorem dX10_walks_154 : decode cX10_walks 154 = .ok (.putfield 165, 3) := by decide +kernel
theorem dX10_walks_157 : decode cX10_walks 157 = .ok (.return_, 1) := by decide +kernel
theorem dX10_whereAt_0 : decode cX10_whereAt 0 = .ok (.aload_n 0, 1) := by decide +kernel
theorem dX10_whereAt_1 : decode cX10_whereAt 1 = .ok (.getfield 162, 3) := by decide +kernel
theorem dX10_whereAt_4 : decode cX10_whereAt 4 = .ok (.bipush 100, 2) := by decide +kernel
theorem dX10_whereAt_6 : decode cX10_whereAt 6 = .ok (.if_icmp .ge 10, 3) := by decide +kernel
theorem dX10_whereAt_9 : decode cX10_whereAt 9 = .ok (.aload_n 0, 1) := by decide +kernel
theorem dX10_whereAt_10 : decode cX10_whereAt 10 = .ok (.getfield 162, 3) := by decide +kernel
theorem dX10_whereAt_13 : decode cX10_whereAt 13 = .ok (.goto 10, 3) := by decide +kernel
theorem dX10_whereAt_16 : decode cX10_whereAt 16 = .ok (.aload_n 0, 1) := by decide +kernel
theorem dX10_whereAt_17 : decode cX10_whereAt 17 = .ok (.getfield 162, 3) := by decide +kernel
theorem dX10_whereAt_20 : decode cX10_whereAt 20 = .ok (.bipush 100, 2) := by decide +kernel
theorem dX10_whereAt_22 : decode cX10_whereAt 22 = .ok (.isub, 1) := by decide +kernel
theorem dX10_whereAt_23 : decode cX10_whereAt 23 = .ok (.istore_n 2, 1) := by decide +kernel
theorem dX10_whereAt_24 : decode cX10_whereAt 24 = .ok (.iconst 0, 1) := by decide +kernel
theorem dX10_whereAt_25 : decode cX10_whereAt 25 = .ok (.istore_n 3, 1) := by decide +kernel
theorem dX10_whereAt_26 : decode cX10_whereAt 26 = .ok (.iconst 0, 1) := by decide +kernel
theorem dX10_whereAt_27 : decode cX10_whereAt 27 = .ok (.istore 4, 2) := by decide +kernel
theorem dX10_whereAt_29 : decode cX10_whereAt 29 = .ok (.iload 4, 2) := by decide +kernel
theorem dX10_whereAt_31 : decode cX10_whereAt 31 = .ok (.iload_n 2, 1) := by decide +kernel
theorem dX10_whereAt_32 : decode cX10_whereAt 32 = .ok (.if_icmp .ge 19, 3) := by decide +kernel
theorem dX10_whereAt_35 : decode cX10_whereAt 35 = .ok (.iload_n 3, 1) := by decide +kernel
theorem dX10_whereAt_36 : decode cX10_whereAt 36 = .ok (.aload_n 0, 1) := by decide +kernel
theorem dX10_whereAt_37 : decode cX10_whereAt 37 = .ok (.iload 4, 2) := by decide +kernel
theorem dX10_whereAt_39 : decode cX10_whereAt 39 = .ok (.iload_n 1, 1) := by decide +kernel
theorem dX10_whereAt_40 : decode cX10_whereAt 40 = .ok (.invokevirtual 150, 3) := by decide +kernel
theorem dX10_whereAt_43 : decode cX10_whereAt 43 = .ok (.iadd, 1) := by decide +kernel
theorem dX10_whereAt_44 : decode cX10_whereAt 44 = .ok (.istore_n 3, 1) := by decide +kernel
theorem dX10_whereAt_45 : decode cX10_whereAt 45 = .ok (.iinc 4 1, 3) := by decide +kernel
theorem dX10_whereAt_48 : decode cX10_whereAt 48 = .ok (.goto (-19), 3) := by decide +kernel
theorem dX10_whereAt_51 : decode cX10_whereAt 51 = .ok (.aload_n 0, 1) := by decide +kernel
theorem dX10_whereAt_52 : decode cX10_whereAt 52 = .ok (.getfield 162, 3) := by decide +kernel
theorem dX10_whereAt_55 : decode cX10_whereAt 55 = .ok (.bipush 100, 2) := by decide +kernel
theorem dX10_whereAt_57 : decode cX10_whereAt 57 = .ok (.if_icmp .lt 43, 3) := by decide +kernel
theorem dX10_whereAt_60 : decode cX10_whereAt 60 = .ok (.aload_n 0, 1) := by decide +kernel
theorem dX10_whereAt_61 : decode cX10_whereAt 61 = .ok (.iload_n 2, 1) := by decide +kernel
theorem dX10_whereAt_62 : decode cX10_whereAt 62 = .ok (.iload_n 1, 1) := by decide +kernel
theorem dX10_whereAt_63 : decode cX10_whereAt 63 = .ok (.invokevirtual 150, 3) := by decide +kernel
theorem dX10_whereAt_66 : decode cX10_whereAt 66 = .ok (.istore 4, 2) := by decide +kernel
theorem dX10_whereAt_68 : decode cX10_whereAt 68 = .ok (.aload_n 0, 1) := by decide +kernel
theorem dX10_whereAt_69 : decode cX10_whereAt 69 = .ok (.getfield 165, 3) := by decide +kernel
theorem dX10_whereAt_72 : decode cX10_whereAt 72 = .ok (.iload 4, 2) := by decide +kernel
theorem dX10_whereAt_74 : decode cX10_whereAt 74 = .ok (.invokestatic 143, 3) := by decide +kernel
theorem dX10_whereAt_77 : decode cX10_whereAt 77 = .ok (.istore 5, 2) := by decide +kernel
theorem dX10_whereAt_79 : decode cX10_whereAt 79 = .ok (.iload_n 3, 1) := by decide +kernel
theorem dX10_whereAt_80 : decode cX10_whereAt 80 = .ok (.aload_n 0, 1) := by decide +kernel
theorem dX10_whereAt_81 : decode cX10_whereAt 81 = .ok (.getfield 168, 3) := by decide +kernel
theorem dX10_whereAt_84 : decode cX10_whereAt 84 = .ok (.iconst 2, 1) := by decide +kernel
theorem dX10_whereAt_85 : decode cX10_whereAt 85 = .ok (.if_icmp .ne 8, 3) := by decide +kernel
theorem dX10_whereAt_88 : decode cX10_whereAt 88 = .ok (.iload 5, 2) := by decide +kernel
theorem dX10_whereAt_90 : decode cX10_whereAt 90 = .ok (.goto 8, 3) := by decide +kernel
theorem dX10_whereAt_93 : decode cX10_whereAt 93 = .ok (.iload 4, 2) := by decide +kernel
theorem dX10_whereAt_95 : decode cX10_whereAt 95 = .ok (.iload 5, 2) := by decide +kernel
theorem dX10_whereAt_97 : decode cX10_whereAt 97 = .ok (.isub, 1) := by decide +kernel
theorem dX10_whereAt_98 : decode cX10_whereAt 98 = .ok (.iadd, 1) := by decide +kernel
theorem dX10_whereAt_99 : decode cX10_whereAt 99 = .ok (.istore_n 3, 1) := by decide +kernel
theorem dX10_whereAt_100 : decode cX10_whereAt 100 = .ok (.iload_n 3, 1) := by decide +kernel
theorem dX10_whereAt_101 : decode cX10_whereAt 101 = .ok (.ireturn, 1) := by decide +kernel
theorem dX10_whereIs_0 : decode cX10_whereIs 0 = .ok (.aload_n 0, 1) := by decide +kernel
theorem dX10_whereIs_1 : decode cX10_whereIs 1 = .ok (.iload_n 1, 1) := by decide +kernel
theorem dX10_whereIs_2 : decode cX10_whereIs 2 = .ok (.invokevirtual 174, 3) := by decide +kernel
theorem dX10_whereIs_5 : decode cX10_whereIs 5 = .ok (.aload_n 0, 1) := by decide +kernel
theorem dX10_whereIs_6 : decode cX10_whereIs 6 = .ok (.aload_n 0, 1) := by decide +kernel
theorem dX10_whereIs_7 : decode cX10_whereIs 7 = .ok (.getfield 41, 3) := by decide +kernel
theorem dX10_whereIs_10 : decode cX10_whereIs 10 = .ok (.iconst 0, 1) := by decide +kernel
theorem dX10_whereIs_11 : decode cX10_whereIs 11 = .ok (.iaload, 1) := by decide +kernel
theorem dX10_whereIs_12 : decode cX10_whereIs 12 = .ok (.invokevirtual 177, 3) := by decide +kernel
theorem dX10_whereIs_15 : decode cX10_whereIs 15 = .ok (.ireturn, 1) := by decide +kernel
theorem dX10_walker_0 : decode cX10_walker 0 = .ok (.aload_n 0, 1) := by decide +kernel
theorem dX10_walker_1 : decode cX10_walker 1 = .ok (.iload_n 1, 1) := by decide +kernel
theorem dX10_walker_2 : decode cX10_walker 2 = .ok (.invokevirtual 180, 3) := by decide +kernel
theorem dX10_walker_5 : decode cX10_walker 5 = .ok (.ifCond .ne 6, 3) := by decide +kernel
theorem dX10_walker_8 : decode cX10_walker 8 = .ok (.ldc 161, 2) := by decide +kernel
theorem dX10_walker_10 : decode cX10_walker 10 = .ok (.ireturn, 1) := by decide +kernel
theorem dX10_walker_11 : decode cX10_walker 11 = .ok (.aload_n 0, 1) := by decide +kernel
theorem dX10_walker_12 : decode cX10_walker 12 = .ok (.getfield 41, 3) := by decide +kernel
theorem dX10_walker_15 : decode cX10_walker 15 = .ok (.iconst 2, 1) := by decide +kernel
theorem dX10_walker_16 : decode cX10_walker 16 = .ok (.iconst 3, 1) := by decide +kernel
theorem dX10_walker_17 : decode cX10_walker 17 = .ok (.iload_n 1, 1) := by decide +kernel
theorem dX10_walker_18 : decode cX10_walker 18 = .ok (.imul, 1) := by decide +kernel
theorem dX10_walker_19 : decode cX10_walker 19 = .ok (.iadd, 1) := by decide +kernel
theorem dX10_walker_20 : decode cX10_walker 20 = .ok (.iaload, 1) := by decide +kernel
theorem dX10_walker_21 : decode cX10_walker 21 = .ok (.istore_n 3, 1) := by decide +kernel
theorem dX10_walker_22 : decode cX10_walker 22 = .ok (.iload_n 2, 1) := by decide +kernel
theorem dX10_walker_23 : decode cX10_walker 23 = .ok (.tableswitch 103 0 5 #[37, 49, 64, 77, 90, 97], 37) := by decide +kernel
theorem dX10_walker_60 : decode cX10_walker 60 = .ok (.iload_n 3, 1) := by decide +kernel
theorem dX10_walker_61 : decode cX10_walker 61 = .ok (.bipush 100, 2) := by decide +kernel
theorem dX10_walker_63 : decode cX10_walker 63 = .ok (.if_icmp .ge 7, 3) := by decide +kernel
theorem dX10_walker_66 : decode cX10_walker 66 = .ok (.iload_n 3, 1) := by decide +kernel
theorem dX10_walker_67 : decode cX10_walker 67 = .ok (.goto 4, 3) := by decide +kernel
theorem dX10_walker_70 : decode cX10_walker 70 = .ok (.iconst (-1), 1) := by decide +kernel
theorem dX10_walker_71 : decode cX10_walker 71 = .ok (.ireturn, 1) := by decide +kernel
theorem dX10_walker_72 : decode cX10_walker 72 = .ok (.iload_n 3, 1) := by decide +kernel
theorem dX10_walker_73 : decode cX10_walker 73 = .ok (.bipush 100, 2) := by decide +kernel
theorem dX10_walker_75 : decode cX10_walker 75 = .ok (.if_icmp .ge 7, 3) := by decide +kernel
theorem dX10_walker_78 : decode cX10_walker 78 = .ok (.iconst (-1), 1) := by decide +kernel
theorem dX10_walker_79 : decode cX10_walker 79 = .ok (.goto 7, 3) := by decide +kernel
theorem dX10_walker_82 : decode cX10_walker 82 = .ok (.iload_n 3, 1) := by decide +kernel
theorem dX10_walker_83 : decode cX10_walker 83 = .ok (.bipush 100, 2) := by decide +kernel
theorem dX10_walker_85 : decode cX10_walker 85 = .ok (.isub, 1) := by decide +kernel
theorem dX10_walker_86 : decode cX10_walker 86 = .ok (.ireturn, 1) := by decide +kernel
theorem dX10_walker_87 : decode cX10_walker 87 = .ok (.aload_n 0, 1) := by decide +kernel
theorem dX10_walker_88 : decode cX10_walker 88 = .ok (.getfield 41, 3) := by decide +kernel
theorem dX10_walker_91 : decode cX10_walker 91 = .ok (.iconst 2, 1) := by decide +kernel
theorem dX10_walker_92 : decode cX10_walker 92 = .ok (.iconst 3, 1) := by decide +kernel
theorem dX10_walker_93 : decode cX10_walker 93 = .ok (.iload_n 1, 1) := by decide +kernel
theorem dX10_walker_94 : decode cX10_walker 94 = .ok (.imul, 1) := by decide +kernel
theorem dX10_walker_95 : decode cX10_walker 95 = .ok (.iadd, 1) := by decide +kernel
theorem dX10_walker_96 : decode cX10_walker 96 = .ok (.iconst 1, 1) := by decide +kernel
theorem dX10_walker_97 : decode cX10_walker 97 = .ok (.iadd, 1) := by decide +kernel
theorem dX10_walker_98 : decode cX10_walker 98 = .ok (.iaload, 1) := by decide +kernel
theorem dX10_walker_99 : decode cX10_walker 99 = .ok (.ireturn, 1) := by decide +kernel
theorem dX10_walker_100 : decode cX10_walker 100 = .ok (.aload_n 0, 1) := by decide +kernel
theorem dX10_walker_101 : decode cX10_walker 101 = .ok (.getfield 41, 3) := by decide +kernel
theorem dX10_walker_104 : decode cX10_walker 104 = .ok (.iconst 2, 1) := by decide +kernel
theorem dX10_walker_105 : decode cX10_walker 105 = .ok (.iconst 3, 1) := by decide +kernel
theorem dX10_walker_106 : decode cX10_walker 106 = .ok (.iload_n 1, 1) := by decide +kernel
theorem dX10_walker_107 : decode cX10_walker 107 = .ok (.imul, 1) := by decide +kernel
theorem dX10_walker_108 : decode cX10_walker 108 = .ok (.iadd, 1) := by decide +kernel
theorem dX10_walker_109 : decode cX10_walker 109 = .ok (.iconst 2, 1) := by decide +kernel
theorem dX10_walker_110 : decode cX10_walker 110 = .ok (.iadd, 1) := by decide +kernel
theorem dX10_walker_111 : decode cX10_walker 111 = .ok (.iaload, 1) := by decide +kernel
theorem dX10_walker_112 : decode cX10_walker 112 = .ok (.ireturn, 1) := by decide +kernel
theorem dX10_walker_113 : decode cX10_walker 113 = .ok (.aload_n 0, 1) := by decide +kernel
theorem dX10_walker_114 : decode cX10_walker 114 = .ok (.getfield 26, 3) := by decide +kernel
theorem dX10_walker_117 : decode cX10_walker 117 = .ok (.iload_n 1, 1) := by decide +kernel
theorem dX10_walker_118 : decode cX10_walker 118 = .ok (.iaload, 1) := by decide +kernel
theorem dX10_walker_119 : decode cX10_walker 119 = .ok (.ireturn, 1) := by decide +kernel
theorem dX10_walker_120 : decode cX10_walker 120 = .ok (.aload_n 0, 1) := by decide +kernel
theorem dX10_walker_121 : decode cX10_walker 121 = .ok (.iload_n 1, 1) := by decide +kernel
theorem dX10_walker_122 : decode cX10_walker 122 = .ok (.invokevirtual 183, 3) := by decide +kernel
theorem dX10_walker_125 : decode cX10_walker 125 = .ok (.ireturn, 1) := by decide +kernel
theorem dX10_walker_126 : decode cX10_walker 126 = .ok (.ldc 73, 2) := by decide +kernel
theorem dX10_walker_128 : decode cX10_walker 128 = .ok (.ireturn, 1) := by decide +kernel
theorem dX10_copies_0 : decode cX10_copies 0 = .ok (.iconst 0, 1) := by decide +kernel
theorem dX10_copies_1 : decode cX10_copies 1 = .ok (.istore 4, 2) := by decide +kernel
theorem dX10_copies_3 : decode cX10_copies 3 = .ok (.iload 4, 2) := by decide +kernel
theorem dX10_copies_5 : decode cX10_copies 5 = .ok (.bipush 14, 2) := by decide +kernel
theorem dX10_copies_7 : decode cX10_copies 7 = .ok (.if_icmp .ge 21, 3) := by decide +kernel
theorem dX10_copies_10 : decode cX10_copies 10 = .ok (.aload_n 2, 1) := by decide +kernel
theorem dX10_copies_11 : decode cX10_copies 11 = .ok (.iload_n 3, 1) := by decide +kernel
theorem dX10_copies_12 : decode cX10_copies 12 = .ok (.iload 4, 2) := by decide +kernel
theorem dX10_copies_14 : decode cX10_copies 14 = .ok (.iadd, 1) := by decide +kernel
theorem dX10_copies_15 : decode cX10_copies 15 = .ok (.aload_n 0, 1) := by decide +kernel
theorem dX10_copies_16 : decode cX10_copies 16 = .ok (.iload_n 1, 1) := by decide +kernel
theorem dX10_copies_17 : decode cX10_copies 17 = .ok (.iload 4, 2) := by decide +kernel
theorem dX10_copies_19 : decode cX10_copies 19 = .ok (.iadd, 1) := by decide +kernel
theorem dX10_copies_20 : decode cX10_copies 20 = .ok (.iaload, 1) := by decide +kernel
theorem dX10_copies_21 : decode cX10_copies 21 = .ok (.iastore, 1) := by decide +kernel
theorem dX10_copies_22 : decode cX10_copies 22 = .ok (.iinc 4 1, 3) := by decide +kernel
theorem dX10_copies_25 : decode cX10_copies 25 = .ok (.goto (-22), 3) := by decide +kernel
theorem dX10_copies_28 : decode cX10_copies 28 = .ok (.return_, 1) := by decide +kernel
theorem dX10_notes_0 : decode cX10_notes 0 = .ok (.aload_n 0, 1) := by decide +kernel
theorem dX10_notes_1 : decode cX10_notes 1 = .ok (.getfield 131, 3) := by decide +kernel
theorem dX10_notes_4 : decode cX10_notes 4 = .ok (.bipush 30, 2) := by decide +kernel
theorem dX10_notes_6 : decode cX10_notes 6 = .ok (.if_icmp .ne 43, 3) := by decide +kernel
theorem dX10_notes_9 : decode cX10_notes 9 = .ok (.iconst 0, 1) := by decide +kernel
theorem dX10_notes_10 : decode cX10_notes 10 = .ok (.istore_n 1, 1) := by decide +kernel
theorem dX10_notes_11 : decode cX10_notes 11 = .ok (.iload_n 1, 1) := by decide +kernel
theorem dX10_notes_12 : decode cX10_notes 12 = .ok (.sipush 406, 3) := by decide +kernel
theorem dX10_notes_15 : decode cX10_notes 15 = .ok (.if_icmp .ge 24, 3) := by decide +kernel
theorem dX10_notes_18 : decode cX10_notes 18 = .ok (.aload_n 0, 1) := by decide +kernel
theorem dX10_notes_19 : decode cX10_notes 19 = .ok (.getfield 44, 3) := by decide +kernel
theorem dX10_notes_22 : decode cX10_notes 22 = .ok (.iload_n 1, 1) := by decide +kernel
theorem dX10_notes_23 : decode cX10_notes 23 = .ok (.aload_n 0, 1) := by decide +kernel
theorem dX10_notes_24 : decode cX10_notes 24 = .ok (.getfield 44, 3) := by decide +kernel
theorem dX10_notes_27 : decode cX10_notes 27 = .ok (.iload_n 1, 1) := by decide +kernel
theorem dX10_notes_28 : decode cX10_notes 28 = .ok (.bipush 14, 2) := by decide +kernel
theorem dX10_notes_30 : decode cX10_notes 30 = .ok (.iadd, 1) := by decide +kernel
theorem dX10_notes_31 : decode cX10_notes 31 = .ok (.iaload, 1) := by decide +kernel
theorem dX10_notes_32 : decode cX10_notes 32 = .ok (.iastore, 1) := by decide +kernel
theorem dX10_notes_33 : decode cX10_notes 33 = .ok (.iinc 1 1, 3) := by decide +kernel
theorem dX10_notes_36 : decode cX10_notes 36 = .ok (.goto (-25), 3) := by decide +kernel
theorem dX10_notes_39 : decode cX10_notes 39 = .ok (.aload_n 0, 1) := by decide +kernel
theorem dX10_notes_40 : decode cX10_notes 40 = .ok (.dup, 1) := by decide +kernel
theorem dX10_notes_41 : decode cX10_notes 41 = .ok (.getfield 131, 3) := by decide +kernel
theorem dX10_notes_44 : decode cX10_notes 44 = .ok (.iconst 1, 1) := by decide +kernel
theorem dX10_notes_45 : decode cX10_notes 45 = .ok (.isub, 1) := by decide +kernel
theorem dX10_notes_46 : decode cX10_notes 46 = .ok (.putfield 131, 3) := by decide +kernel
theorem dX10_notes_49 : decode cX10_notes 49 = .ok (.aload_n 0, 1) := by decide +kernel
theorem dX10_notes_50 : decode cX10_notes 50 = .ok (.getfield 41, 3) := by decide +kernel
theorem dX10_notes_53 : decode cX10_notes 53 = .ok (.iconst 0, 1) := by decide +kernel
theorem dX10_notes_54 : decode cX10_notes 54 = .ok (.aload_n 0, 1) := by decide +kernel
theorem dX10_notes_55 : decode cX10_notes 55 = .ok (.getfield 44, 3) := by decide +kernel
theorem dX10_notes_58 : decode cX10_notes 58 = .ok (.bipush 14, 2) := by decide +kernel
theorem dX10_notes_60 : decode cX10_notes 60 = .ok (.aload_n 0, 1) := by decide +kernel
theorem dX10_notes_61 : decode cX10_notes 61 = .ok (.getfield 131, 3) := by decide +kernel
theorem dX10_notes_64 : decode cX10_notes 64 = .ok (.imul, 1) := by decide +kernel
theorem dX10_notes_65 : decode cX10_notes 65 = .ok (.invokestatic 186, 3) := by decide +kernel
theorem dX10_notes_68 : decode cX10_notes 68 = .ok (.aload_n 0, 1) := by decide +kernel
theorem dX10_notes_69 : decode cX10_notes 69 = .ok (.dup, 1) := by decide +kernel
theorem dX10_notes_70 : decode cX10_notes 70 = .ok (.getfield 131, 3) := by decide +kernel
theorem dX10_notes_73 : decode cX10_notes 73 = .ok (.iconst 1, 1) := by decide +kernel
theorem dX10_notes_74 : decode cX10_notes 74 = .ok (.iadd, 1) := by decide +kernel
theorem dX10_notes_75 : decode cX10_notes 75 = .ok (.putfield 131, 3) := by decide +kernel
theorem dX10_notes_78 : decode cX10_notes 78 = .ok (.return_, 1) := by decide +kernel
theorem dX10_go_0 : decode cX10_go 0 = .ok (.aload_n 0, 1) := by decide +kernel
theorem dX10_go_1 : decode cX10_go 1 = .ok (.iload_n 1, 1) := by decide +kernel
theorem dX10_go_2 : decode cX10_go 2 = .ok (.invokevirtual 180, 3) := by decide +kernel
theorem dX10_go_5 : decode cX10_go 5 = .ok (.ifCond .ne 6, 3) := by decide +kernel
theorem dX10_go_8 : decode cX10_go 8 = .ok (.ldc 161, 2) := by decide +kernel
theorem dX10_go_10 : decode cX10_go 10 = .ok (.ireturn, 1) := by decide +kernel
theorem dX10_go_11 : decode cX10_go 11 = .ok (.iload_n 2, 1) := by decide +kernel
theorem dX10_go_12 : decode cX10_go 12 = .ok (.iconst 0, 1) := by decide +kernel
theorem dX10_go_13 : decode cX10_go 13 = .ok (.iconst 2, 1) := by decide +kernel
theorem dX10_go_14 : decode cX10_go 14 = .ok (.invokestatic 69, 3) := by decide +kernel
theorem dX10_go_17 : decode cX10_go 17 = .ok (.ifCond .ne 6, 3) := by decide +kernel
theorem dX10_go_20 : decode cX10_go 20 = .ok (.ldc 73, 2) := by decide +kernel
theorem dX10_go_22 : decode cX10_go 22 = .ok (.ireturn, 1) := by decide +kernel
theorem dX10_go_23 : decode cX10_go 23 = .ok (.iconst 2, 1) := by decide +kernel
theorem dX10_go_24 : decode cX10_go 24 = .ok (.iconst 3, 1) := by decide +kernel
theorem dX10_go_25 : decode cX10_go 25 = .ok (.iload_n 1, 1) := by decide +kernel
theorem dX10_go_26 : decode cX10_go 26 = .ok (.imul, 1) := by decide +kernel
theorem dX10_go_27 : decode cX10_go 27 = .ok (.iadd, 1) := by decide +kernel
theorem dX10_go_28 : decode cX10_go 28 = .ok (.istore_n 3, 1) := by decide +kernel
theorem dX10_go_29 : decode cX10_go 29 = .ok (.aload_n 0, 1) := by decide +kernel
theorem dX10_go_30 : decode cX10_go 30 = .ok (.getfield 41, 3) := by decide +kernel
theorem dX10_go_33 : decode cX10_go 33 = .ok (.iload_n 3, 1) := by decide +kernel
theorem dX10_go_34 : decode cX10_go 34 = .ok (.iaload, 1) := by decide +kernel
theorem dX10_go_35 : decode cX10_go 35 = .ok (.bipush 100, 2) := by decide +kernel
theorem dX10_go_37 : decode cX10_go 37 = .ok (.if_icmp .lt 7, 3) := by decide +kernel
theorem dX10_go_40 : decode cX10_go 40 = .ok (.iconst 1, 1) := by decide +kernel
theorem dX10_go_41 : decode cX10_go 41 = .ok (.goto 4, 3) := by decide +kernel
theorem dX10_go_44 : decode cX10_go 44 = .ok (.iconst 0, 1) := by decide +kernel
theorem dX10_go_45 : decode cX10_go 45 = .ok (.istore 4, 2) := by decide +kernel
theorem dX10_go_47 : decode cX10_go 47 = .ok (.iload 4, 2) := by decide +kernel
theorem dX10_go_49 : decode cX10_go 49 = .ok (.ifCond .eq 11, 3) := by decide +kernel
theorem dX10_go_52 : decode cX10_go 52 = .ok (.iload_n 2, 1) := by decide +kernel
theorem dX10_go_53 : decode cX10_go 53 = .ok (.iconst 1, 1) := by decide +kernel
theorem dX10_go_54 : decode cX10_go 54 = .ok (.if_icmp .ne 6, 3) := by decide +kernel
theorem dX10_go_57 : decode cX10_go 57 = .ok (.ldc 190, 2) := by decide +kernel
theorem dX10_go_59 : decode cX10_go 59 = .ok (.ireturn, 1) := by decide +kernel
theorem dX10_go_60 : decode cX10_go 60 = .ok (.aload_n 0, 1) := by decide +kernel
theorem dX10_go_61 : decode cX10_go 61 = .ok (.invokevirtual 191, 3) := by decide +kernel
theorem dX10_go_64 : decode cX10_go 64 = .ok (.iload 4, 2) := by decide +kernel
theorem dX10_go_66 : decode cX10_go 66 = .ok (.ifCond .eq 64, 3) := by decide +kernel
theorem dX10_go_69 : decode cX10_go 69 = .ok (.aload_n 0, 1) := by decide +kernel
theorem dX10_go_70 : decode cX10_go 70 = .ok (.getfield 41, 3) := by decide +kernel
theorem dX10_go_73 : decode cX10_go 73 = .ok (.iload_n 3, 1) := by decide +kernel
theorem dX10_go_74 : decode cX10_go 74 = .ok (.iconst 2, 1) := by decide +kernel
theorem dX10_go_75 : decode cX10_go 75 = .ok (.iadd, 1) := by decide +kernel
theorem dX10_go_76 : decode cX10_go 76 = .ok (.iaload, 1) := by decide +kernel
theorem dX10_go_77 : decode cX10_go 77 = .ok (.iload_n 2, 1) := by decide +kernel
theorem dX10_go_78 : decode cX10_go 78 = .ok (.if_icmp .eq 52, 3) := by decide +kernel
theorem dX10_go_81 : decode cX10_go 81 = .ok (.aload_n 0, 1) := by decide +kernel
theorem dX10_go_82 : decode cX10_go 82 = .ok (.aload_n 0, 1) := by decide +kernel
theorem dX10_go_83 : decode cX10_go 83 = .ok (.getfield 41, 3) := by decide +kernel
theorem dX10_go_86 : decode cX10_go 86 = .ok (.iload_n 3, 1) := by decide +kernel
theorem dX10_go_87 : decode cX10_go 87 = .ok (.iaload, 1) := by decide +kernel
theorem dX10_go_88 : decode cX10_go 88 = .ok (.bipush 100, 2) := by decide +kernel
theorem dX10_go_90 : decode cX10_go 90 = .ok (.isub, 1) := by decide +kernel
theorem dX10_go_91 : decode cX10_go 91 = .ok (.aload_n 0, 1) := by decide +kernel
theorem dX10_go_92 : decode cX10_go 92 = .ok (.getfield 41, 3) := by decide +kernel
theorem dX10_go_95 : decode cX10_go 95 = .ok (.iconst 0, 1) := by decide +kernel
theorem dX10_go_96 : decode cX10_go 96 = .ok (.iaload, 1) := by decide +kernel
theorem dX10_go_97 : decode cX10_go 97 = .ok (.invokevirtual 150, 3) := by decide +kernel
theorem dX10_go_100 : decode cX10_go 100 = .ok (.aload_n 0, 1) := by decide +kernel
theorem dX10_go_101 : decode cX10_go 101 = .ok (.getfield 41, 3) := by decide +kernel
theorem dX10_go_104 : decode cX10_go 104 = .ok (.iload_n 3, 1) := by decide +kernel
theorem dX10_go_105 : decode cX10_go 105 = .ok (.iconst 1, 1) := by decide +kernel
theorem dX10_go_106 : decode cX10_go 106 = .ok (.iadd, 1) := by decide +kernel
theorem dX10_go_107 : decode cX10_go 107 = .ok (.iaload, 1) := by decide +kernel
theorem dX10_go_108 : decode cX10_go 108 = .ok (.isub, 1) := by decide +kernel
theorem dX10_go_109 : decode cX10_go 109 = .ok (.istore 5, 2) := by decide +kernel
theorem dX10_go_111 : decode cX10_go 111 = .ok (.aload_n 0, 1) := by decide +kernel
theorem dX10_go_112 : decode cX10_go 112 = .ok (.getfield 41, 3) := by decide +kernel
theorem dX10_go_115 : decode cX10_go 115 = .ok (.iload_n 3, 1) := by decide +kernel
theorem dX10_go_116 : decode cX10_go 116 = .ok (.iconst 1, 1) := by decide +kernel
theorem dX10_go_117 : decode cX10_go 117 = .ok (.iadd, 1) := by decide +kernel
theorem dX10_go_118 : decode cX10_go 118 = .ok (.iload 5, 2) := by decide +kernel
theorem dX10_go_120 : decode cX10_go 120 = .ok (.ifCond .ge 7, 3) := by decide +kernel
theorem dX10_go_123 : decode cX10_go 123 = .ok (.iconst 0, 1) := by decide +kernel
theorem dX10_go_124 : decode cX10_go 124 = .ok (.goto 5, 3) := by decide +kernel
theorem dX10_go_127 : decode cX10_go 127 = .ok (.iload 5, 2) := by decide +kernel
theorem dX10_go_129 : decode cX10_go 129 = .ok (.iastore, 1) := by decide +kernel
theorem dX10_go_130 : decode cX10_go 130 = .ok (.aload_n 0, 1) := by decide +kernel
theorem dX10_go_131 : decode cX10_go 131 = .ok (.getfield 41, 3) := by decide +kernel
theorem dX10_go_134 : decode cX10_go 134 = .ok (.iload_n 3, 1) := by decide +kernel
theorem dX10_go_135 : decode cX10_go 135 = .ok (.iconst 2, 1) := by decide +kernel
theorem dX10_go_136 : decode cX10_go 136 = .ok (.iadd, 1) := by decide +kernel
theorem dX10_go_137 : decode cX10_go 137 = .ok (.iload_n 2, 1) := by decide +kernel
theorem dX10_go_138 : decode cX10_go 138 = .ok (.iastore, 1) := by decide +kernel
theorem dX10_go_139 : decode cX10_go 139 = .ok (.aload_n 0, 1) := by decide +kernel
theorem dX10_go_140 : decode cX10_go 140 = .ok (.iload_n 1, 1) := by decide +kernel
theorem dX10_go_141 : decode cX10_go 141 = .ok (.invokevirtual 183, 3) := by decide +kernel
theorem dX10_go_144 : decode cX10_go 144 = .ok (.ireturn, 1) := by decide +kernel
theorem dX10_rope_0 : decode cX10_rope 0 = .ok (.aload_n 0, 1) := by decide +kernel
theorem dX10_rope_1 : decode cX10_rope 1 = .ok (.iload_n 1, 1) := by decide +kernel
theorem dX10_rope_2 : decode cX10_rope 2 = .ok (.invokevirtual 157, 3) := by decide +kernel
theorem dX10_rope_5 : decode cX10_rope 5 = .ok (.ifCond .ne 6, 3) := by decide +kernel
theorem dX10_rope_8 : decode cX10_rope 8 = .ok (.ldc 161, 2) := by decide +kernel
theorem dX10_rope_10 : decode cX10_rope 10 = .ok (.ireturn, 1) := by decide +kernel
theorem dX10_rope_11 : decode cX10_rope 11 = .ok (.aload_n 0, 1) := by decide +kernel
theorem dX10_rope_12 : decode cX10_rope 12 = .ok (.invokevirtual 191, 3) := by decide +kernel
theorem dX10_rope_15 : decode cX10_rope 15 = .ok (.aload_n 0, 1) := by decide +kernel
theorem dX10_rope_16 : decode cX10_rope 16 = .ok (.getfield 41, 3) := by decide +kernel
theorem dX10_rope_19 : decode cX10_rope 19 = .ok (.iconst 1, 1) := by decide +kernel
theorem dX10_rope_20 : decode cX10_rope 20 = .ok (.iaload, 1) := by decide +kernel
theorem dX10_rope_21 : decode cX10_rope 21 = .ok (.iload_n 1, 1) := by decide +kernel
theorem dX10_rope_22 : decode cX10_rope 22 = .ok (.ishr, 1) := by decide +kernel
theorem dX10_rope_23 : decode cX10_rope 23 = .ok (.iconst 1, 1) := by decide +kernel
theorem dX10_rope_24 : decode cX10_rope 24 = .ok (.iand, 1) := by decide +kernel
theorem dX10_rope_25 : decode cX10_rope 25 = .ok (.istore_n 3, 1) := by decide +kernel
theorem dX10_rope_26 : decode cX10_rope 26 = .ok (.aload_n 0, 1) := by decide +kernel
theorem dX10_rope_27 : decode cX10_rope 27 = .ok (.getfield 41, 3) := by decide +kernel
theorem dX10_rope_30 : decode cX10_rope 30 = .ok (.iconst 1, 1) := by decide +kernel
theorem dX10_rope_31 : decode cX10_rope 31 = .ok (.iload_n 2, 1) := by decide +kernel
theorem dX10_rope_32 : decode cX10_rope 32 = .ok (.ifCond .eq 16, 3) := by decide +kernel
theorem dX10_rope_35 : decode cX10_rope 35 = .ok (.aload_n 0, 1) := by decide +kernel
theorem dX10_rope_36 : decode cX10_rope 36 = .ok (.getfield 41, 3) := by decide +kernel
theorem dX10_rope_39 : decode cX10_rope 39 = .ok (.iconst 1, 1) := by decide +kernel
theorem dX10_rope_40 : decode cX10_rope 40 = .ok (.iaload, 1) := by decide +kernel
theorem dX10_rope_41 : decode cX10_rope 41 = .ok (.iconst 1, 1) := by decide +kernel
theorem dX10_rope_42 : decode cX10_rope 42 = .ok (.iload_n 1, 1) := by decide +kernel
theorem dX10_rope_43 : decode cX10_rope 43 = .ok (.ishl, 1) := by decide +kernel
theorem dX10_rope_44 : decode cX10_rope 44 = .ok (.ior, 1) := by decide +kernel
theorem dX10_rope_45 : decode cX10_rope 45 = .ok (.goto 15, 3) := by decide +kernel
theorem dX10_rope_48 : decode cX10_rope 48 = .ok (.aload_n 0, 1) := by decide +kernel
theorem dX10_rope_49 : decode cX10_rope 49 = .ok (.getfield 41, 3) := by decide +kernel
theorem dX10_rope_52 : decode cX10_rope 52 = .ok (.iconst 1, 1) := by decide +kernel
theorem dX10_rope_53 : decode cX10_rope 53 = .ok (.iaload, 1) := by decide +kernel
theorem dX10_rope_54 : decode cX10_rope 54 = .ok (.iconst 1, 1) := by decide +kernel
theorem dX10_rope_55 : decode cX10_rope 55 = .ok (.iload_n 1, 1) := by decide +kernel
theorem dX10_rope_56 : decode cX10_rope 56 = .ok (.ishl, 1) := by decide +kernel
theorem dX10_rope_57 : decode cX10_rope 57 = .ok (.iconst (-1), 1) := by decide +kernel
theorem dX10_rope_58 : decode cX10_rope 58 = .ok (.ixor, 1) := by decide +kernel
theorem dX10_rope_59 : decode cX10_rope 59 = .ok (.iand, 1) := by decide +kernel
theorem dX10_rope_60 : decode cX10_rope 60 = .ok (.iastore, 1) := by decide +kernel
theorem dX10_rope_61 : decode cX10_rope 61 = .ok (.iload_n 3, 1) := by decide +kernel
theorem dX10_rope_62 : decode cX10_rope 62 = .ok (.ireturn, 1) := by decide +kernel
theorem dX10_passes_0 : decode cX10_passes 0 = .ok (.iconst 0, 1) := by decide +kernel
theorem dX10_passes_1 : decode cX10_passes 1 = .ok (.istore_n 1, 1) := by decide +kernel
theorem dX10_passes_2 : decode cX10_passes 2 = .ok (.iload_n 1, 1) := by decide +kernel
theorem dX10_passes_3 : decode cX10_passes 3 = .ok (.aload_n 0, 1) := by decide +kernel
theorem dX10_passes_4 : decode cX10_passes 4 = .ok (.getfield 17, 3) := by decide +kernel
theorem dX10_passes_7 : decode cX10_passes 7 = .ok (.iconst 4, 1) := by decide +kernel
theorem dX10_passes_8 : decode cX10_passes 8 = .ok (.iaload, 1) := by decide +kernel
theorem dX10_passes_9 : decode cX10_passes 9 = .ok (.if_icmp .ge 76, 3) := by decide +kernel
theorem dX10_passes_12 : decode cX10_passes 12 = .ok (.aload_n 0, 1) := by decide +kernel
theorem dX10_passes_13 : decode cX10_passes 13 = .ok (.iload_n 1, 1) := by decide +kernel
theorem dX10_passes_14 : decode cX10_passes 14 = .ok (.invokevirtual 174, 3) := by decide +kernel
theorem dX10_passes_17 : decode cX10_passes 17 = .ok (.aload_n 0, 1) := by decide +kernel
theorem dX10_passes_18 : decode cX10_passes 18 = .ok (.aload_n 0, 1) := by decide +kernel
theorem dX10_passes_19 : decode cX10_passes 19 = .ok (.getfield 41, 3) := by decide +kernel
theorem dX10_passes_22 : decode cX10_passes 22 = .ok (.iconst 0, 1) := by decide +kernel
theorem dX10_passes_23 : decode cX10_passes 23 = .ok (.iaload, 1) := by decide +kernel
theorem dX10_passes_24 : decode cX10_passes 24 = .ok (.aload_n 0, 1) := by decide +kernel
theorem dX10_passes_25 : decode cX10_passes 25 = .ok (.getfield 41, 3) := by decide +kernel
theorem dX10_passes_28 : decode cX10_passes 28 = .ok (.iconst 1, 1) := by decide +kernel
theorem dX10_passes_29 : decode cX10_passes 29 = .ok (.iaload, 1) := by decide +kernel
theorem dX10_passes_30 : decode cX10_passes 30 = .ok (.invokevirtual 194, 3) := by decide +kernel
theorem dX10_passes_33 : decode cX10_passes 33 = .ok (.aload_n 0, 1) := by decide +kernel
theorem dX10_passes_34 : decode cX10_passes 34 = .ok (.getfield 41, 3) := by decide +kernel
theorem dX10_passes_37 : decode cX10_passes 37 = .ok (.iconst 2, 1) := by decide +kernel
theorem dX10_passes_38 : decode cX10_passes 38 = .ok (.iconst 3, 1) := by decide +kernel
theorem dX10_passes_39 : decode cX10_passes 39 = .ok (.iload_n 1, 1) := by decide +kernel
theorem dX10_passes_40 : decode cX10_passes 40 = .ok (.imul, 1) := by decide +kernel
theorem dX10_passes_41 : decode cX10_passes 41 = .ok (.iadd, 1) := by decide +kernel
theorem dX10_passes_42 : decode cX10_passes 42 = .ok (.aload_n 0, 1) := by decide +kernel
theorem dX10_passes_43 : decode cX10_passes 43 = .ok (.getfield 162, 3) := by decide +kernel
theorem dX10_passes_46 : decode cX10_passes 46 = .ok (.iastore, 1) := by decide +kernel
theorem dX10_passes_47 : decode cX10_passes 47 = .ok (.aload_n 0, 1) := by decide +kernel
theorem dX10_passes_48 : decode cX10_passes 48 = .ok (.getfield 41, 3) := by decide +kernel
theorem dX10_passes_51 : decode cX10_passes 51 = .ok (.iconst 2, 1) := by decide +kernel
theorem dX10_passes_52 : decode cX10_passes 52 = .ok (.iconst 3, 1) := by decide +kernel
theorem dX10_passes_53 : decode cX10_passes 53 = .ok (.iload_n 1, 1) := by decide +kernel
theorem dX10_passes_54 : decode cX10_passes 54 = .ok (.imul, 1) := by decide +kernel
theorem dX10_passes_55 : decode cX10_passes 55 = .ok (.iadd, 1) := by decide +kernel
theorem dX10_passes_56 : decode cX10_passes 56 = .ok (.iconst 1, 1) := by decide +kernel
theorem dX10_passes_57 : decode cX10_passes 57 = .ok (.iadd, 1) := by decide +kernel
theorem dX10_passes_58 : decode cX10_passes 58 = .ok (.aload_n 0, 1) := by decide +kernel
theorem dX10_passes_59 : decode cX10_passes 59 = .ok (.getfield 165, 3) := by decide +kernel
theorem dX10_passes_62 : decode cX10_passes 62 = .ok (.iastore, 1) := by decide +kernel
theorem dX10_passes_63 : decode cX10_passes 63 = .ok (.aload_n 0, 1) := by decide +kernel
theorem dX10_passes_64 : decode cX10_passes 64 = .ok (.getfield 41, 3) := by decide +kernel
theorem dX10_passes_67 : decode cX10_passes 67 = .ok (.iconst 2, 1) := by decide +kernel
theorem dX10_passes_68 : decode cX10_passes 68 = .ok (.iconst 3, 1) := by decide +kernel
theorem dX10_passes_69 : decode cX10_passes 69 = .ok (.iload_n 1, 1) := by decide +kernel
theorem dX10_passes_70 : decode cX10_passes 70 = .ok (.imul, 1) := by decide +kernel
theorem dX10_passes_71 : decode cX10_passes 71 = .ok (.iadd, 1) := by decide +kernel
theorem dX10_passes_72 : decode cX10_passes 72 = .ok (.iconst 2, 1) := by decide +kernel
theorem dX10_passes_73 : decode cX10_passes 73 = .ok (.iadd, 1) := by decide +kernel
theorem dX10_passes_74 : decode cX10_passes 74 = .ok (.aload_n 0, 1) := by decide +kernel
theorem dX10_passes_75 : decode cX10_passes 75 = .ok (.getfield 168, 3) := by decide +kernel
theorem dX10_passes_78 : decode cX10_passes 78 = .ok (.iastore, 1) := by decide +kernel
theorem dX10_passes_79 : decode cX10_passes 79 = .ok (.iinc 1 1, 3) := by decide +kernel
theorem dX10_passes_82 : decode cX10_passes 82 = .ok (.goto (-80), 3) := by decide +kernel
theorem dX10_passes_85 : decode cX10_passes 85 = .ok (.aload_n 0, 1) := by decide +kernel
theorem dX10_passes_86 : decode cX10_passes 86 = .ok (.getfield 41, 3) := by decide +kernel
theorem dX10_passes_89 : decode cX10_passes 89 = .ok (.iconst 0, 1) := by decide +kernel
theorem dX10_passes_90 : decode cX10_passes 90 = .ok (.dup2, 1) := by decide +kernel
theorem dX10_passes_91 : decode cX10_passes 91 = .ok (.iaload, 1) := by decide +kernel
theorem dX10_passes_92 : decode cX10_passes 92 = .ok (.iconst 1, 1) := by decide +kernel
theorem dX10_passes_93 : decode cX10_passes 93 = .ok (.iadd, 1) := by decide +kernel
theorem dX10_passes_94 : decode cX10_passes 94 = .ok (.iastore, 1) := by decide +kernel
theorem dX10_passes_95 : decode cX10_passes 95 = .ok (.return_, 1) := by decide +kernel
theorem dX10_barred_0 : decode cX10_barred 0 = .ok (.iload_n 1, 1) := by decide +kernel
theorem dX10_barred_1 : decode cX10_barred 1 = .ok (.iconst 1, 1) := by decide +kernel
theorem dX10_barred_2 : decode cX10_barred 2 = .ok (.bipush 60, 2) := by decide +kernel
theorem dX10_barred_4 : decode cX10_barred 4 = .ok (.invokestatic 69, 3) := by decide +kernel
theorem dX10_barred_7 : decode cX10_barred 7 = .ok (.ifCond .ne 8, 3) := by decide +kernel
theorem dX10_barred_10 : decode cX10_barred 10 = .ok (.ldc 73, 2) := by decide +kernel
theorem dX10_barred_12 : decode cX10_barred 12 = .ok (.goto 32, 3) := by decide +kernel
theorem dX10_barred_15 : decode cX10_barred 15 = .ok (.aload_n 0, 1) := by decide +kernel
theorem dX10_barred_16 : decode cX10_barred 16 = .ok (.invokevirtual 198, 3) := by decide +kernel
theorem dX10_barred_19 : decode cX10_barred 19 = .ok (.ifCond .ne 8, 3) := by decide +kernel
theorem dX10_barred_22 : decode cX10_barred 22 = .ok (.ldc 190, 2) := by decide +kernel
theorem dX10_barred_24 : decode cX10_barred 24 = .ok (.goto 20, 3) := by decide +kernel
theorem dX10_barred_27 : decode cX10_barred 27 = .ok (.aload_n 0, 1) := by decide +kernel
theorem dX10_barred_28 : decode cX10_barred 28 = .ok (.getfield 41, 3) := by decide +kernel
theorem dX10_barred_31 : decode cX10_barred 31 = .ok (.iconst 0, 1) := by decide +kernel
theorem dX10_barred_32 : decode cX10_barred 32 = .ok (.iaload, 1) := by decide +kernel
theorem dX10_barred_33 : decode cX10_barred 33 = .ok (.ldc 202, 2) := by decide +kernel
theorem dX10_barred_35 : decode cX10_barred 35 = .ok (.if_icmp .le 8, 3) := by decide +kernel
theorem dX10_barred_38 : decode cX10_barred 38 = .ok (.ldc 77, 2) := by decide +kernel
theorem dX10_barred_40 : decode cX10_barred 40 = .ok (.goto 4, 3) := by decide +kernel
theorem dX10_barred_43 : decode cX10_barred 43 = .ok (.iconst 0, 1) := by decide +kernel
theorem dX10_barred_44 : decode cX10_barred 44 = .ok (.ireturn, 1) := by decide +kernel
theorem dX10_minute_0 : decode cX10_minute 0 = .ok (.aload_n 0, 1) := by decide +kernel
theorem dX10_minute_1 : decode cX10_minute 1 = .ok (.iload_n 1, 1) := by decide +kernel
theorem dX10_minute_2 : decode cX10_minute 2 = .ok (.invokevirtual 203, 3) := by decide +kernel
theorem dX10_minute_5 : decode cX10_minute 5 = .ok (.istore_n 2, 1) := by decide +kernel
theorem dX10_minute_6 : decode cX10_minute 6 = .ok (.iconst 0, 1) := by decide +kernel
theorem dX10_minute_7 : decode cX10_minute 7 = .ok (.istore_n 3, 1) := by decide +kernel
theorem dX10_minute_8 : decode cX10_minute 8 = .ok (.iload_n 3, 1) := by decide +kernel
theorem dX10_minute_9 : decode cX10_minute 9 = .ok (.iload_n 1, 1) := by decide +kernel
theorem dX10_minute_10 : decode cX10_minute 10 = .ok (.if_icmp .ge 21, 3) := by decide +kernel
theorem dX10_minute_13 : decode cX10_minute 13 = .ok (.iload_n 2, 1) := by decide +kernel
theorem dX10_minute_14 : decode cX10_minute 14 = .ok (.ifCond .ne 17, 3) := by decide +kernel
theorem dX10_minute_17 : decode cX10_minute 17 = .ok (.aload_n 0, 1) := by decide +kernel
theorem dX10_minute_18 : decode cX10_minute 18 = .ok (.invokevirtual 191, 3) := by decide +kernel
theorem dX10_minute_21 : decode cX10_minute 21 = .ok (.aload_n 0, 1) := by decide +kernel
theorem dX10_minute_22 : decode cX10_minute 22 = .ok (.invokevirtual 206, 3) := by decide +kernel
theorem dX10_minute_25 : decode cX10_minute 25 = .ok (.iinc 3 1, 3) := by decide +kernel
theorem dX10_minute_28 : decode cX10_minute 28 = .ok (.goto (-20), 3) := by decide +kernel
theorem dX10_minute_31 : decode cX10_minute 31 = .ok (.iload_n 2, 1) := by decide +kernel
theorem dX10_minute_32 : decode cX10_minute 32 = .ok (.ifCond .ne 12, 3) := by decide +kernel
theorem dX10_minute_35 : decode cX10_minute 35 = .ok (.aload_n 0, 1) := by decide +kernel
theorem dX10_minute_36 : decode cX10_minute 36 = .ok (.getfield 41, 3) := by decide +kernel
theorem dX10_minute_39 : decode cX10_minute 39 = .ok (.iconst 0, 1) := by decide +kernel
theorem dX10_minute_40 : decode cX10_minute 40 = .ok (.iaload, 1) := by decide +kernel
theorem dX10_minute_41 : decode cX10_minute 41 = .ok (.goto 4, 3) := by decide +kernel
theorem dX10_minute_44 : decode cX10_minute 44 = .ok (.iload_n 2, 1) := by decide +kernel
theorem dX10_minute_45 : decode cX10_minute 45 = .ok (.ireturn, 1) := by decide +kernel
theorem dX10_draw_0 : decode cX10_draw 0 = .ok (.aload_n 0, 1) := by decide +kernel
theorem dX10_draw_1 : decode cX10_draw 1 = .ok (.aload_n 0, 1) := by decide +kernel
theorem dX10_draw_2 : decode cX10_draw 2 = .ok (.getfield 209, 3) := by decide +kernel
theorem dX10_draw_5 : decode cX10_draw 5 = .ok (.i2l, 1) := by decide +kernel
theorem dX10_draw_6 : decode cX10_draw 6 = .ok (.ldc2_w 212, 3) := by decide +kernel
theorem dX10_draw_9 : decode cX10_draw 9 = .ok (.lmul, 1) := by decide +kernel
theorem dX10_draw_10 : decode cX10_draw 10 = .ok (.ldc2_w 214, 3) := by decide +kernel
theorem dX10_draw_13 : decode cX10_draw 13 = .ok (.ladd, 1) := by decide +kernel
theorem dX10_draw_14 : decode cX10_draw 14 = .ok (.ldc2_w 216, 3) := by decide +kernel
theorem dX10_draw_17 : decode cX10_draw 17 = .ok (.land, 1) := by decide +kernel
theorem dX10_draw_18 : decode cX10_draw 18 = .ok (.l2i, 1) := by decide +kernel
theorem dX10_draw_19 : decode cX10_draw 19 = .ok (.putfield 209, 3) := by decide +kernel
theorem dX10_draw_22 : decode cX10_draw 22 = .ok (.aload_n 0, 1) := by decide +kernel
theorem dX10_draw_23 : decode cX10_draw 23 = .ok (.getfield 209, 3) := by decide +kernel
theorem dX10_draw_26 : decode cX10_draw 26 = .ok (.ldc 218, 2) := by decide +kernel
theorem dX10_draw_28 : decode cX10_draw 28 = .ok (.idiv, 1) := by decide +kernel
theorem dX10_draw_29 : decode cX10_draw 29 = .ok (.iload_n 1, 1) := by decide +kernel
theorem dX10_draw_30 : decode cX10_draw 30 = .ok (.irem, 1) := by decide +kernel
theorem dX10_draw_31 : decode cX10_draw 31 = .ok (.ireturn, 1) := by decide +kernel
theorem dX10_drift_0 : decode cX10_drift 0 = .ok (.aload_n 0, 1) := by decide +kernel
theorem dX10_drift_1 : decode cX10_drift 1 = .ok (.iload_n 1, 1) := by decide +kernel
theorem dX10_drift_2 : decode cX10_drift 2 = .ok (.invokevirtual 203, 3) := by decide +kernel
theorem dX10_drift_5 : decode cX10_drift 5 = .ok (.istore_n 2, 1) := by decide +kernel
theorem dX10_drift_6 : decode cX10_drift 6 = .ok (.iconst 0, 1) := by decide +kernel
theorem dX10_drift_7 : decode cX10_drift 7 = .ok (.istore_n 3, 1) := by decide +kernel
theorem dX10_drift_8 : decode cX10_drift 8 = .ok (.iload_n 3, 1) := by decide +kernel
theorem dX10_drift_9 : decode cX10_drift 9 = .ok (.iload_n 1, 1) := by decide +kernel
theorem dX10_drift_10 : decode cX10_drift 10 = .ok (.if_icmp .ge 119, 3) := by decide +kernel
theorem dX10_drift_13 : decode cX10_drift 13 = .ok (.iload_n 2, 1) := by decide +kernel
theorem dX10_drift_14 : decode cX10_drift 14 = .ok (.ifCond .ne 115, 3) := by decide +kernel
theorem dX10_drift_17 : decode cX10_drift 17 = .ok (.aload_n 0, 1) := by decide +kernel
theorem dX10_drift_18 : decode cX10_drift 18 = .ok (.invokevirtual 191, 3) := by decide +kernel
theorem dX10_drift_21 : decode cX10_drift 21 = .ok (.iconst 0, 1) := by decide +kernel
theorem dX10_drift_22 : decode cX10_drift 22 = .ok (.istore 4, 2) := by decide +kernel
theorem dX10_drift_24 : decode cX10_drift 24 = .ok (.iload 4, 2) := by decide +kernel
theorem dX10_drift_26 : decode cX10_drift 26 = .ok (.aload_n 0, 1) := by decide +kernel
theorem dX10_drift_27 : decode cX10_drift 27 = .ok (.getfield 17, 3) := by decide +kernel
theorem dX10_drift_30 : decode cX10_drift 30 = .ok (.iconst 4, 1) := by decide +kernel
theorem dX10_drift_31 : decode cX10_drift 31 = .ok (.iaload, 1) := by decide +kernel
theorem dX10_drift_32 : decode cX10_drift 32 = .ok (.if_icmp .ge 87, 3) := by decide +kernel
theorem dX10_drift_35 : decode cX10_drift 35 = .ok (.aload_n 0, 1) := by decide +kernel
theorem dX10_drift_36 : decode cX10_drift 36 = .ok (.getfield 41, 3) := by decide +kernel
theorem dX10_drift_39 : decode cX10_drift 39 = .ok (.iconst 2, 1) := by decide +kernel
theorem dX10_drift_40 : decode cX10_drift 40 = .ok (.iconst 3, 1) := by decide +kernel
theorem dX10_drift_41 : decode cX10_drift 41 = .ok (.iload 4, 2) := by decide +kernel
theorem dX10_drift_43 : decode cX10_drift 43 = .ok (.imul, 1) := by decide +kernel
theorem dX10_drift_44 : decode cX10_drift 44 = .ok (.iadd, 1) := by decide +kernel
theorem dX10_drift_45 : decode cX10_drift 45 = .ok (.iaload, 1) := by decide +kernel
theorem dX10_drift_46 : decode cX10_drift 46 = .ok (.bipush 100, 2) := by decide +kernel
theorem dX10_drift_48 : decode cX10_drift 48 = .ok (.if_icmp .ge 65, 3) := by decide +kernel
theorem dX10_drift_51 : decode cX10_drift 51 = .ok (.aload_n 0, 1) := by decide +kernel
theorem dX10_drift_52 : decode cX10_drift 52 = .ok (.iconst 4, 1) := by decide +kernel
theorem dX10_drift_53 : decode cX10_drift 53 = .ok (.invokevirtual 219, 3) := by decide +kernel
theorem dX10_drift_56 : decode cX10_drift 56 = .ok (.istore 5, 2) := by decide +kernel
theorem dX10_drift_58 : decode cX10_drift 58 = .ok (.aload_n 0, 1) := by decide +kernel
theorem dX10_drift_59 : decode cX10_drift 59 = .ok (.getfield 41, 3) := by decide +kernel
theorem dX10_drift_62 : decode cX10_drift 62 = .ok (.iconst 2, 1) := by decide +kernel
theorem dX10_drift_63 : decode cX10_drift 63 = .ok (.iconst 3, 1) := by decide +kernel
theorem dX10_drift_64 : decode cX10_drift 64 = .ok (.iload 4, 2) := by decide +kernel
theorem dX10_drift_66 : decode cX10_drift 66 = .ok (.imul, 1) := by decide +kernel
theorem dX10_drift_67 : decode cX10_drift 67 = .ok (.iadd, 1) := by decide +kernel
theorem dX10_drift_68 : decode cX10_drift 68 = .ok (.iconst 2, 1) := by decide +kernel
theorem dX10_drift_69 : decode cX10_drift 69 = .ok (.iadd, 1) := by decide +kernel
theorem dX10_drift_70 : decode cX10_drift 70 = .ok (.iload 5, 2) := by decide +kernel
theorem dX10_drift_72 : decode cX10_drift 72 = .ok (.ifCond .ne 7, 3) := by decide +kernel
theorem dX10_drift_75 : decode cX10_drift 75 = .ok (.iconst 2, 1) := by decide +kernel
theorem dX10_drift_76 : decode cX10_drift 76 = .ok (.goto 36, 3) := by decide +kernel
theorem dX10_drift_79 : decode cX10_drift 79 = .ok (.iload 5, 2) := by decide +kernel
theorem dX10_drift_81 : decode cX10_drift 81 = .ok (.iconst 1, 1) := by decide +kernel
theorem dX10_drift_82 : decode cX10_drift 82 = .ok (.if_icmp .ne 7, 3) := by decide +kernel
theorem dX10_drift_85 : decode cX10_drift 85 = .ok (.iconst 0, 1) := by decide +kernel
theorem dX10_drift_86 : decode cX10_drift 86 = .ok (.goto 26, 3) := by decide +kernel
theorem dX10_drift_89 : decode cX10_drift 89 = .ok (.iload 5, 2) := by decide +kernel
theorem dX10_drift_91 : decode cX10_drift 91 = .ok (.iconst 2, 1) := by decide +kernel
theorem dX10_drift_92 : decode cX10_drift 92 = .ok (.if_icmp .ne 7, 3) := by decide +kernel
theorem dX10_drift_95 : decode cX10_drift 95 = .ok (.iconst 1, 1) := by decide +kernel
theorem dX10_drift_96 : decode cX10_drift 96 = .ok (.goto 16, 3) := by decide +kernel
theorem dX10_drift_99 : decode cX10_drift 99 = .ok (.aload_n 0, 1) := by decide +kernel
theorem dX10_drift_100 : decode cX10_drift 100 = .ok (.getfield 41, 3) := by decide +kernel
theorem dX10_drift_103 : decode cX10_drift 103 = .ok (.iconst 2, 1) := by decide +kernel
theorem dX10_drift_104 : decode cX10_drift 104 = .ok (.iconst 3, 1) := by decide +kernel
theorem dX10_drift_105 : decode cX10_drift 105 = .ok (.iload 4, 2) := by decide +kernel
theorem dX10_drift_107 : decode cX10_drift 107 = .ok (.imul, 1) := by decide +kernel
