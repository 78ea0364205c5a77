theorem d_R_init_0 : decode b_R_init 0 = .ok (.aload_n 0, 1) := by decide +kernel
theorem d_R_init_1 : decode b_R_init 1 = .ok (.invokespecial 3, 3) := by decide +kernel
theorem d_R_init_4 : decode b_R_init 4 = .ok (.aload_n 0, 1) := by decide +kernel
theorem d_R_init_5 : decode b_R_init 5 = .ok (.new 9, 3) := by decide +kernel
theorem d_R_init_8 : decode b_R_init 8 = .ok (.dup, 1) := by decide +kernel
theorem d_R_init_9 : decode b_R_init 9 = .ok (.invokespecial 11, 3) := by decide +kernel
theorem d_R_init_12 : decode b_R_init 12 = .ok (.putfield 12, 3) := by decide +kernel
theorem d_R_init_15 : decode b_R_init 15 = .ok (.aload_n 0, 1) := by decide +kernel
theorem d_R_init_16 : decode b_R_init 16 = .ok (.aload_n 1, 1) := by decide +kernel
theorem d_R_init_17 : decode b_R_init 17 = .ok (.putfield 18, 3) := by decide +kernel
theorem d_R_init_20 : decode b_R_init 20 = .ok (.aload_n 0, 1) := by decide +kernel
theorem d_R_init_21 : decode b_R_init 21 = .ok (.aload_n 1, 1) := by decide +kernel
theorem d_R_init_22 : decode b_R_init 22 = .ok (.getfield 22, 3) := by decide +kernel
theorem d_R_init_25 : decode b_R_init 25 = .ok (.putfield 28, 3) := by decide +kernel
theorem d_R_init_28 : decode b_R_init 28 = .ok (.return_, 1) := by decide +kernel
theorem d_R_canStandAlone_0 : decode b_R_canStandAlone 0 = .ok (.aload_n 0, 1) := by decide +kernel
theorem d_R_canStandAlone_1 : decode b_R_canStandAlone 1 = .ok (.aload_n 0, 1) := by decide +kernel
theorem d_R_canStandAlone_2 : decode b_R_canStandAlone 2 = .ok (.getfield 12, 3) := by decide +kernel
theorem d_R_canStandAlone_5 : decode b_R_canStandAlone 5 = .ok (.iload_n 1, 1) := by decide +kernel
theorem d_R_canStandAlone_6 : decode b_R_canStandAlone 6 = .ok (.iconst 0, 1) := by decide +kernel
theorem d_R_canStandAlone_7 : decode b_R_canStandAlone 7 = .ok (.invokevirtual 29, 3) := by decide +kernel
theorem d_R_canStandAlone_10 : decode b_R_canStandAlone 10 = .ok (.aload_n 0, 1) := by decide +kernel
theorem d_R_canStandAlone_11 : decode b_R_canStandAlone 11 = .ok (.getfield 12, 3) := by decide +kernel
theorem d_R_canStandAlone_14 : decode b_R_canStandAlone 14 = .ok (.invokevirtual 33, 3) := by decide +kernel
theorem d_R_canStandAlone_17 : decode b_R_canStandAlone 17 = .ok (.ifCond .eq 28, 3) := by decide +kernel
theorem d_R_canStandAlone_20 : decode b_R_canStandAlone 20 = .ok (.aload_n 0, 1) := by decide +kernel
theorem d_R_canStandAlone_21 : decode b_R_canStandAlone 21 = .ok (.getfield 18, 3) := by decide +kernel
theorem d_R_canStandAlone_24 : decode b_R_canStandAlone 24 = .ok (.getfield 37, 3) := by decide +kernel
theorem d_R_canStandAlone_27 : decode b_R_canStandAlone 27 = .ok (.iload_n 1, 1) := by decide +kernel
theorem d_R_canStandAlone_28 : decode b_R_canStandAlone 28 = .ok (.aaload, 1) := by decide +kernel
theorem d_R_canStandAlone_29 : decode b_R_canStandAlone 29 = .ok (.getfield 41, 3) := by decide +kernel
theorem d_R_canStandAlone_32 : decode b_R_canStandAlone 32 = .ok (.ifCond .eq 13, 3) := by decide +kernel
theorem d_R_canStandAlone_35 : decode b_R_canStandAlone 35 = .ok (.aload_n 0, 1) := by decide +kernel
theorem d_R_canStandAlone_36 : decode b_R_canStandAlone 36 = .ok (.aload_n 0, 1) := by decide +kernel
theorem d_R_canStandAlone_37 : decode b_R_canStandAlone 37 = .ok (.getfield 12, 3) := by decide +kernel
theorem d_R_canStandAlone_40 : decode b_R_canStandAlone 40 = .ok (.iload_n 1, 1) := by decide +kernel
theorem d_R_canStandAlone_41 : decode b_R_canStandAlone 41 = .ok (.iconst 1, 1) := by decide +kernel
theorem d_R_canStandAlone_42 : decode b_R_canStandAlone 42 = .ok (.invokevirtual 29, 3) := by decide +kernel
theorem d_R_canStandAlone_45 : decode b_R_canStandAlone 45 = .ok (.aload_n 0, 1) := by decide +kernel
theorem d_R_canStandAlone_46 : decode b_R_canStandAlone 46 = .ok (.getfield 12, 3) := by decide +kernel
theorem d_R_canStandAlone_49 : decode b_R_canStandAlone 49 = .ok (.invokevirtual 33, 3) := by decide +kernel
theorem d_R_canStandAlone_52 : decode b_R_canStandAlone 52 = .ok (.ifCond .ne 7, 3) := by decide +kernel
theorem d_R_canStandAlone_55 : decode b_R_canStandAlone 55 = .ok (.iconst 1, 1) := by decide +kernel
theorem d_R_canStandAlone_56 : decode b_R_canStandAlone 56 = .ok (.goto 4, 3) := by decide +kernel
theorem d_R_canStandAlone_59 : decode b_R_canStandAlone 59 = .ok (.iconst 0, 1) := by decide +kernel
theorem d_R_canStandAlone_60 : decode b_R_canStandAlone 60 = .ok (.ireturn, 1) := by decide +kernel
theorem d_R_open_0 : decode b_R_open 0 = .ok (.aload_n 0, 1) := by decide +kernel
theorem d_R_open_1 : decode b_R_open 1 = .ok (.aload_n 1, 1) := by decide +kernel
theorem d_R_open_2 : decode b_R_open 2 = .ok (.iload_n 3, 1) := by decide +kernel
theorem d_R_open_3 : decode b_R_open 3 = .ok (.iload 4, 2) := by decide +kernel
theorem d_R_open_5 : decode b_R_open 5 = .ok (.invokevirtual 29, 3) := by decide +kernel
theorem d_R_open_8 : decode b_R_open 8 = .ok (.iconst 0, 1) := by decide +kernel
theorem d_R_open_9 : decode b_R_open 9 = .ok (.istore 6, 2) := by decide +kernel
theorem d_R_open_11 : decode b_R_open 11 = .ok (.iload 6, 2) := by decide +kernel
theorem d_R_open_13 : decode b_R_open 13 = .ok (.iload 5, 2) := by decide +kernel
theorem d_R_open_15 : decode b_R_open 15 = .ok (.if_icmp .ge 26, 3) := by decide +kernel
theorem d_R_open_18 : decode b_R_open 18 = .ok (.iload 6, 2) := by decide +kernel
theorem d_R_open_20 : decode b_R_open 20 = .ok (.iload_n 3, 1) := by decide +kernel
theorem d_R_open_21 : decode b_R_open 21 = .ok (.if_icmp .eq 14, 3) := by decide +kernel
theorem d_R_open_24 : decode b_R_open 24 = .ok (.aload_n 0, 1) := by decide +kernel
theorem d_R_open_25 : decode b_R_open 25 = .ok (.aload_n 1, 1) := by decide +kernel
theorem d_R_open_26 : decode b_R_open 26 = .ok (.aload_n 2, 1) := by decide +kernel
theorem d_R_open_27 : decode b_R_open 27 = .ok (.iload 6, 2) := by decide +kernel
theorem d_R_open_29 : decode b_R_open 29 = .ok (.iload_n 3, 1) := by decide +kernel
theorem d_R_open_30 : decode b_R_open 30 = .ok (.iload 4, 2) := by decide +kernel
theorem d_R_open_32 : decode b_R_open 32 = .ok (.invokevirtual 47, 3) := by decide +kernel
theorem d_R_open_35 : decode b_R_open 35 = .ok (.iinc 6 1, 3) := by decide +kernel
theorem d_R_open_38 : decode b_R_open 38 = .ok (.goto (-27), 3) := by decide +kernel
theorem d_R_open_41 : decode b_R_open 41 = .ok (.return_, 1) := by decide +kernel
theorem d_R_openAlone_0 : decode b_R_openAlone 0 = .ok (.aload_n 0, 1) := by decide +kernel
theorem d_R_openAlone_1 : decode b_R_openAlone 1 = .ok (.getfield 18, 3) := by decide +kernel
theorem d_R_openAlone_4 : decode b_R_openAlone 4 = .ok (.getfield 37, 3) := by decide +kernel
theorem d_R_openAlone_7 : decode b_R_openAlone 7 = .ok (.iload_n 2, 1) := by decide +kernel
theorem d_R_openAlone_8 : decode b_R_openAlone 8 = .ok (.aaload, 1) := by decide +kernel
theorem d_R_openAlone_9 : decode b_R_openAlone 9 = .ok (.astore 4, 2) := by decide +kernel
theorem d_R_openAlone_11 : decode b_R_openAlone 11 = .ok (.aload_n 0, 1) := by decide +kernel
theorem d_R_openAlone_12 : decode b_R_openAlone 12 = .ok (.getfield 28, 3) := by decide +kernel
theorem d_R_openAlone_15 : decode b_R_openAlone 15 = .ok (.bipush 100, 2) := by decide +kernel
theorem d_R_openAlone_17 : decode b_R_openAlone 17 = .ok (.invokevirtual 51, 3) := by decide +kernel
theorem d_R_openAlone_20 : decode b_R_openAlone 20 = .ok (.iconst 1, 1) := by decide +kernel
theorem d_R_openAlone_21 : decode b_R_openAlone 21 = .ok (.isub, 1) := by decide +kernel
theorem d_R_openAlone_22 : decode b_R_openAlone 22 = .ok (.istore 5, 2) := by decide +kernel
theorem d_R_openAlone_24 : decode b_R_openAlone 24 = .ok (.aload_n 0, 1) := by decide +kernel
theorem d_R_openAlone_25 : decode b_R_openAlone 25 = .ok (.getfield 28, 3) := by decide +kernel
theorem d_R_openAlone_28 : decode b_R_openAlone 28 = .ok (.aload 4, 2) := by decide +kernel
theorem d_R_openAlone_30 : decode b_R_openAlone 30 = .ok (.getfield 57, 3) := by decide +kernel
theorem d_R_openAlone_33 : decode b_R_openAlone 33 = .ok (.iconst 1, 1) := by decide +kernel
theorem d_R_openAlone_34 : decode b_R_openAlone 34 = .ok (.iadd, 1) := by decide +kernel
theorem d_R_openAlone_35 : decode b_R_openAlone 35 = .ok (.invokevirtual 51, 3) := by decide +kernel
theorem d_R_openAlone_38 : decode b_R_openAlone 38 = .ok (.aload 4, 2) := by decide +kernel
theorem d_R_openAlone_40 : decode b_R_openAlone 40 = .ok (.getfield 61, 3) := by decide +kernel
theorem d_R_openAlone_43 : decode b_R_openAlone 43 = .ok (.isub, 1) := by decide +kernel
theorem d_R_openAlone_44 : decode b_R_openAlone 44 = .ok (.istore 6, 2) := by decide +kernel
theorem d_R_openAlone_46 : decode b_R_openAlone 46 = .ok (.aload_n 1, 1) := by decide +kernel
theorem d_R_openAlone_47 : decode b_R_openAlone 47 = .ok (.aload_n 0, 1) := by decide +kernel
theorem d_R_openAlone_48 : decode b_R_openAlone 48 = .ok (.getfield 28, 3) := by decide +kernel
theorem d_R_openAlone_51 : decode b_R_openAlone 51 = .ok (.aload 4, 2) := by decide +kernel
theorem d_R_openAlone_53 : decode b_R_openAlone 53 = .ok (.getfield 64, 3) := by decide +kernel
theorem d_R_openAlone_56 : decode b_R_openAlone 56 = .ok (.invokevirtual 51, 3) := by decide +kernel
theorem d_R_openAlone_59 : decode b_R_openAlone 59 = .ok (.iload 5, 2) := by decide +kernel
theorem d_R_openAlone_61 : decode b_R_openAlone 61 = .ok (.iload 6, 2) := by decide +kernel
theorem d_R_openAlone_63 : decode b_R_openAlone 63 = .ok (.invokestatic 67, 3) := by decide +kernel
theorem d_R_openAlone_66 : decode b_R_openAlone 66 = .ok (.invokevirtual 73, 3) := by decide +kernel
theorem d_R_openAlone_69 : decode b_R_openAlone 69 = .ok (.aload_n 1, 1) := by decide +kernel
theorem d_R_openAlone_70 : decode b_R_openAlone 70 = .ok (.aload_n 0, 1) := by decide +kernel
theorem d_R_openAlone_71 : decode b_R_openAlone 71 = .ok (.getfield 28, 3) := by decide +kernel
theorem d_R_openAlone_74 : decode b_R_openAlone 74 = .ok (.aload 4, 2) := by decide +kernel
theorem d_R_openAlone_76 : decode b_R_openAlone 76 = .ok (.getfield 77, 3) := by decide +kernel
theorem d_R_openAlone_79 : decode b_R_openAlone 79 = .ok (.invokevirtual 51, 3) := by decide +kernel
theorem d_R_openAlone_82 : decode b_R_openAlone 82 = .ok (.invokevirtual 80, 3) := by decide +kernel
theorem d_R_openAlone_85 : decode b_R_openAlone 85 = .ok (.iconst 0, 1) := by decide +kernel
theorem d_R_openAlone_86 : decode b_R_openAlone 86 = .ok (.istore 7, 2) := by decide +kernel
theorem d_R_openAlone_88 : decode b_R_openAlone 88 = .ok (.iload 7, 2) := by decide +kernel
theorem d_R_openAlone_90 : decode b_R_openAlone 90 = .ok (.aload_n 0, 1) := by decide +kernel
theorem d_R_openAlone_91 : decode b_R_openAlone 91 = .ok (.getfield 18, 3) := by decide +kernel
theorem d_R_openAlone_94 : decode b_R_openAlone 94 = .ok (.getfield 84, 3) := by decide +kernel
theorem d_R_openAlone_97 : decode b_R_openAlone 97 = .ok (.if_icmp .ge 64, 3) := by decide +kernel
theorem d_R_openAlone_100 : decode b_R_openAlone 100 = .ok (.aload_n 0, 1) := by decide +kernel
theorem d_R_openAlone_101 : decode b_R_openAlone 101 = .ok (.getfield 18, 3) := by decide +kernel
theorem d_R_openAlone_104 : decode b_R_openAlone 104 = .ok (.getfield 87, 3) := by decide +kernel
theorem d_R_openAlone_107 : decode b_R_openAlone 107 = .ok (.iload 7, 2) := by decide +kernel
theorem d_R_openAlone_109 : decode b_R_openAlone 109 = .ok (.iaload, 1) := by decide +kernel
theorem d_R_openAlone_110 : decode b_R_openAlone 110 = .ok (.iload_n 2, 1) := by decide +kernel
theorem d_R_openAlone_111 : decode b_R_openAlone 111 = .ok (.if_icmp .ne 44, 3) := by decide +kernel
theorem d_R_openAlone_114 : decode b_R_openAlone 114 = .ok (.aload 4, 2) := by decide +kernel
theorem d_R_openAlone_116 : decode b_R_openAlone 116 = .ok (.aload_n 0, 1) := by decide +kernel
theorem d_R_openAlone_117 : decode b_R_openAlone 117 = .ok (.getfield 18, 3) := by decide +kernel
theorem d_R_openAlone_120 : decode b_R_openAlone 120 = .ok (.getfield 91, 3) := by decide +kernel
theorem d_R_openAlone_123 : decode b_R_openAlone 123 = .ok (.iload 7, 2) := by decide +kernel
theorem d_R_openAlone_125 : decode b_R_openAlone 125 = .ok (.iaload, 1) := by decide +kernel
theorem d_R_openAlone_126 : decode b_R_openAlone 126 = .ok (.iload_n 3, 1) := by decide +kernel
theorem d_R_openAlone_127 : decode b_R_openAlone 127 = .ok (.invokevirtual 94, 3) := by decide +kernel
theorem d_R_openAlone_130 : decode b_R_openAlone 130 = .ok (.istore 8, 2) := by decide +kernel
theorem d_R_openAlone_132 : decode b_R_openAlone 132 = .ok (.aload_n 1, 1) := by decide +kernel
theorem d_R_openAlone_133 : decode b_R_openAlone 133 = .ok (.aload_n 0, 1) := by decide +kernel
theorem d_R_openAlone_134 : decode b_R_openAlone 134 = .ok (.aload 4, 2) := by decide +kernel
theorem d_R_openAlone_136 : decode b_R_openAlone 136 = .ok (.iload 8, 2) := by decide +kernel
theorem d_R_openAlone_138 : decode b_R_openAlone 138 = .ok (.aload_n 0, 1) := by decide +kernel
theorem d_R_openAlone_139 : decode b_R_openAlone 139 = .ok (.getfield 18, 3) := by decide +kernel
theorem d_R_openAlone_142 : decode b_R_openAlone 142 = .ok (.getfield 97, 3) := by decide +kernel
theorem d_R_openAlone_145 : decode b_R_openAlone 145 = .ok (.iload 7, 2) := by decide +kernel
theorem d_R_openAlone_147 : decode b_R_openAlone 147 = .ok (.iaload, 1) := by decide +kernel
theorem d_R_openAlone_148 : decode b_R_openAlone 148 = .ok (.iconst 1, 1) := by decide +kernel
theorem d_R_openAlone_149 : decode b_R_openAlone 149 = .ok (.invokevirtual 100, 3) := by decide +kernel
theorem d_R_openAlone_152 : decode b_R_openAlone 152 = .ok (.invokevirtual 80, 3) := by decide +kernel
theorem d_R_openAlone_155 : decode b_R_openAlone 155 = .ok (.iinc 7 1, 3) := by decide +kernel
theorem d_R_openAlone_158 : decode b_R_openAlone 158 = .ok (.goto (-70), 3) := by decide +kernel
theorem d_R_openAlone_161 : decode b_R_openAlone 161 = .ok (.return_, 1) := by decide +kernel
theorem d_R_keepGaps_0 : decode b_R_keepGaps 0 = .ok (.aload_n 0, 1) := by decide +kernel
theorem d_R_keepGaps_1 : decode b_R_keepGaps 1 = .ok (.getfield 18, 3) := by decide +kernel
theorem d_R_keepGaps_4 : decode b_R_keepGaps 4 = .ok (.iload_n 3, 1) := by decide +kernel
theorem d_R_keepGaps_5 : decode b_R_keepGaps 5 = .ok (.iload 4, 2) := by decide +kernel
theorem d_R_keepGaps_7 : decode b_R_keepGaps 7 = .ok (.invokevirtual 104, 3) := by decide +kernel
theorem d_R_keepGaps_10 : decode b_R_keepGaps 10 = .ok (.istore 6, 2) := by decide +kernel
theorem d_R_keepGaps_12 : decode b_R_keepGaps 12 = .ok (.aload_n 0, 1) := by decide +kernel
theorem d_R_keepGaps_13 : decode b_R_keepGaps 13 = .ok (.getfield 18, 3) := by decide +kernel
theorem d_R_keepGaps_16 : decode b_R_keepGaps 16 = .ok (.iload 4, 2) := by decide +kernel
theorem d_R_keepGaps_18 : decode b_R_keepGaps 18 = .ok (.iload_n 3, 1) := by decide +kernel
theorem d_R_keepGaps_19 : decode b_R_keepGaps 19 = .ok (.invokevirtual 104, 3) := by decide +kernel
theorem d_R_keepGaps_22 : decode b_R_keepGaps 22 = .ok (.istore 7, 2) := by decide +kernel
theorem d_R_keepGaps_24 : decode b_R_keepGaps 24 = .ok (.iload 6, 2) := by decide +kernel
theorem d_R_keepGaps_26 : decode b_R_keepGaps 26 = .ok (.iconst (-1), 1) := by decide +kernel
theorem d_R_keepGaps_27 : decode b_R_keepGaps 27 = .ok (.if_icmp .ne 10, 3) := by decide +kernel
theorem d_R_keepGaps_30 : decode b_R_keepGaps 30 = .ok (.iload 7, 2) := by decide +kernel
theorem d_R_keepGaps_32 : decode b_R_keepGaps 32 = .ok (.iconst (-1), 1) := by decide +kernel
theorem d_R_keepGaps_33 : decode b_R_keepGaps 33 = .ok (.if_icmp .ne 4, 3) := by decide +kernel
theorem d_R_keepGaps_36 : decode b_R_keepGaps 36 = .ok (.return_, 1) := by decide +kernel
theorem d_R_keepGaps_37 : decode b_R_keepGaps 37 = .ok (.aload_n 0, 1) := by decide +kernel
theorem d_R_keepGaps_38 : decode b_R_keepGaps 38 = .ok (.getfield 18, 3) := by decide +kernel
theorem d_R_keepGaps_41 : decode b_R_keepGaps 41 = .ok (.getfield 37, 3) := by decide +kernel
theorem d_R_keepGaps_44 : decode b_R_keepGaps 44 = .ok (.iload 4, 2) := by decide +kernel
theorem d_R_keepGaps_46 : decode b_R_keepGaps 46 = .ok (.aaload, 1) := by decide +kernel
theorem d_R_keepGaps_47 : decode b_R_keepGaps 47 = .ok (.astore 8, 2) := by decide +kernel
theorem d_R_keepGaps_49 : decode b_R_keepGaps 49 = .ok (.aload_n 0, 1) := by decide +kernel
theorem d_R_keepGaps_50 : decode b_R_keepGaps 50 = .ok (.getfield 18, 3) := by decide +kernel
theorem d_R_keepGaps_53 : decode b_R_keepGaps 53 = .ok (.getfield 37, 3) := by decide +kernel
theorem d_R_keepGaps_56 : decode b_R_keepGaps 56 = .ok (.iload_n 3, 1) := by decide +kernel
theorem d_R_keepGaps_57 : decode b_R_keepGaps 57 = .ok (.aaload, 1) := by decide +kernel
theorem d_R_keepGaps_58 : decode b_R_keepGaps 58 = .ok (.getfield 107, 3) := by decide +kernel
theorem d_R_keepGaps_61 : decode b_R_keepGaps 61 = .ok (.istore 9, 2) := by decide +kernel
theorem d_R_keepGaps_63 : decode b_R_keepGaps 63 = .ok (.aload_n 0, 1) := by decide +kernel
theorem d_R_keepGaps_64 : decode b_R_keepGaps 64 = .ok (.getfield 18, 3) := by decide +kernel
theorem d_R_keepGaps_67 : decode b_R_keepGaps 67 = .ok (.iload_n 3, 1) := by decide +kernel
theorem d_R_keepGaps_68 : decode b_R_keepGaps 68 = .ok (.iload 4, 2) := by decide +kernel
theorem d_R_keepGaps_70 : decode b_R_keepGaps 70 = .ok (.invokevirtual 110, 3) := by decide +kernel
theorem d_R_keepGaps_73 : decode b_R_keepGaps 73 = .ok (.istore 10, 2) := by decide +kernel
theorem d_R_keepGaps_75 : decode b_R_keepGaps 75 = .ok (.aload_n 0, 1) := by decide +kernel
theorem d_R_keepGaps_76 : decode b_R_keepGaps 76 = .ok (.getfield 18, 3) := by decide +kernel
theorem d_R_keepGaps_79 : decode b_R_keepGaps 79 = .ok (.iload_n 3, 1) := by decide +kernel
theorem d_R_keepGaps_80 : decode b_R_keepGaps 80 = .ok (.iload 4, 2) := by decide +kernel
theorem d_R_keepGaps_82 : decode b_R_keepGaps 82 = .ok (.invokevirtual 113, 3) := by decide +kernel
theorem d_R_keepGaps_85 : decode b_R_keepGaps 85 = .ok (.istore 11, 2) := by decide +kernel
theorem d_R_keepGaps_87 : decode b_R_keepGaps 87 = .ok (.iload 11, 2) := by decide +kernel
theorem d_R_keepGaps_89 : decode b_R_keepGaps 89 = .ok (.iload 10, 2) := by decide +kernel
theorem d_R_keepGaps_91 : decode b_R_keepGaps 91 = .ok (.if_icmp .gt 104, 3) := by decide +kernel
theorem d_R_keepGaps_94 : decode b_R_keepGaps 94 = .ok (.aload 8, 2) := by decide +kernel
theorem d_R_keepGaps_96 : decode b_R_keepGaps 96 = .ok (.iload 11, 2) := by decide +kernel
theorem d_R_keepGaps_98 : decode b_R_keepGaps 98 = .ok (.iload 5, 2) := by decide +kernel
theorem d_R_keepGaps_100 : decode b_R_keepGaps 100 = .ok (.invokevirtual 94, 3) := by decide +kernel
theorem d_R_keepGaps_103 : decode b_R_keepGaps 103 = .ok (.istore 12, 2) := by decide +kernel
theorem d_R_keepGaps_105 : decode b_R_keepGaps 105 = .ok (.iload 6, 2) := by decide +kernel
theorem d_R_keepGaps_107 : decode b_R_keepGaps 107 = .ok (.iconst (-1), 1) := by decide +kernel
theorem d_R_keepGaps_108 : decode b_R_keepGaps 108 = .ok (.if_icmp .eq 39, 3) := by decide +kernel
theorem d_R_keepGaps_111 : decode b_R_keepGaps 111 = .ok (.aload_n 0, 1) := by decide +kernel
theorem d_R_keepGaps_112 : decode b_R_keepGaps 112 = .ok (.getfield 18, 3) := by decide +kernel
theorem d_R_keepGaps_115 : decode b_R_keepGaps 115 = .ok (.iload_n 3, 1) := by decide +kernel
theorem d_R_keepGaps_116 : decode b_R_keepGaps 116 = .ok (.aload_n 2, 1) := by decide +kernel
theorem d_R_keepGaps_117 : decode b_R_keepGaps 117 = .ok (.iload 11, 2) := by decide +kernel
theorem d_R_keepGaps_119 : decode b_R_keepGaps 119 = .ok (.iconst 1, 1) := by decide +kernel
theorem d_R_keepGaps_120 : decode b_R_keepGaps 120 = .ok (.invokevirtual 116, 3) := by decide +kernel
theorem d_R_keepGaps_123 : decode b_R_keepGaps 123 = .ok (.iload 6, 2) := by decide +kernel
theorem d_R_keepGaps_125 : decode b_R_keepGaps 125 = .ok (.iload 9, 2) := by decide +kernel
theorem d_R_keepGaps_127 : decode b_R_keepGaps 127 = .ok (.imul, 1) := by decide +kernel
theorem d_R_keepGaps_128 : decode b_R_keepGaps 128 = .ok (.iadd, 1) := by decide +kernel
theorem d_R_keepGaps_129 : decode b_R_keepGaps 129 = .ok (.istore 13, 2) := by decide +kernel
theorem d_R_keepGaps_131 : decode b_R_keepGaps 131 = .ok (.aload_n 1, 1) := by decide +kernel
theorem d_R_keepGaps_132 : decode b_R_keepGaps 132 = .ok (.aload_n 0, 1) := by decide +kernel
theorem d_R_keepGaps_133 : decode b_R_keepGaps 133 = .ok (.aload 8, 2) := by decide +kernel
theorem d_R_keepGaps_135 : decode b_R_keepGaps 135 = .ok (.iload 12, 2) := by decide +kernel
theorem d_R_keepGaps_137 : decode b_R_keepGaps 137 = .ok (.iload 13, 2) := by decide +kernel
theorem d_R_keepGaps_139 : decode b_R_keepGaps 139 = .ok (.iload 9, 2) := by decide +kernel
theorem d_R_keepGaps_141 : decode b_R_keepGaps 141 = .ok (.invokevirtual 100, 3) := by decide +kernel
theorem d_R_keepGaps_144 : decode b_R_keepGaps 144 = .ok (.invokevirtual 80, 3) := by decide +kernel
theorem d_R_keepGaps_147 : decode b_R_keepGaps 147 = .ok (.iload 7, 2) := by decide +kernel
theorem d_R_keepGaps_149 : decode b_R_keepGaps 149 = .ok (.iconst (-1), 1) := by decide +kernel
theorem d_R_keepGaps_150 : decode b_R_keepGaps 150 = .ok (.if_icmp .eq 39, 3) := by decide +kernel
theorem d_R_keepGaps_153 : decode b_R_keepGaps 153 = .ok (.aload_n 0, 1) := by decide +kernel
theorem d_R_keepGaps_154 : decode b_R_keepGaps 154 = .ok (.getfield 18, 3) := by decide +kernel
theorem d_R_keepGaps_157 : decode b_R_keepGaps 157 = .ok (.iload_n 3, 1) := by decide +kernel
theorem d_R_keepGaps_158 : decode b_R_keepGaps 158 = .ok (.aload_n 2, 1) := by decide +kernel
theorem d_R_keepGaps_159 : decode b_R_keepGaps 159 = .ok (.iload 11, 2) := by decide +kernel
theorem d_R_keepGaps_161 : decode b_R_keepGaps 161 = .ok (.iconst 0, 1) := by decide +kernel
theorem d_R_keepGaps_162 : decode b_R_keepGaps 162 = .ok (.invokevirtual 116, 3) := by decide +kernel
theorem d_R_keepGaps_165 : decode b_R_keepGaps 165 = .ok (.iload 7, 2) := by decide +kernel
theorem d_R_keepGaps_167 : decode b_R_keepGaps 167 = .ok (.iload 9, 2) := by decide +kernel
theorem d_R_keepGaps_169 : decode b_R_keepGaps 169 = .ok (.imul, 1) := by decide +kernel
theorem d_R_keepGaps_170 : decode b_R_keepGaps 170 = .ok (.isub, 1) := by decide +kernel
theorem d_R_keepGaps_171 : decode b_R_keepGaps 171 = .ok (.istore 13, 2) := by decide +kernel
theorem d_R_keepGaps_173 : decode b_R_keepGaps 173 = .ok (.aload_n 1, 1) := by decide +kernel
theorem d_R_keepGaps_174 : decode b_R_keepGaps 174 = .ok (.aload_n 0, 1) := by decide +kernel
theorem d_R_keepGaps_175 : decode b_R_keepGaps 175 = .ok (.aload 8, 2) := by decide +kernel
theorem d_R_keepGaps_177 : decode b_R_keepGaps 177 = .ok (.iload 12, 2) := by decide +kernel
theorem d_R_keepGaps_179 : decode b_R_keepGaps 179 = .ok (.iload 13, 2) := by decide +kernel
theorem d_R_keepGaps_181 : decode b_R_keepGaps 181 = .ok (.iload 9, 2) := by decide +kernel
theorem d_R_keepGaps_183 : decode b_R_keepGaps 183 = .ok (.invokevirtual 120, 3) := by decide +kernel
theorem d_R_keepGaps_186 : decode b_R_keepGaps 186 = .ok (.invokevirtual 123, 3) := by decide +kernel
theorem d_R_keepGaps_189 : decode b_R_keepGaps 189 = .ok (.iinc 11 1, 3) := by decide +kernel
theorem d_R_keepGaps_192 : decode b_R_keepGaps 192 = .ok (.goto (-105), 3) := by decide +kernel
theorem d_R_keepGaps_195 : decode b_R_keepGaps 195 = .ok (.return_, 1) := by decide +kernel
theorem d_R_firstStart_0 : decode b_R_firstStart 0 = .ok (.aload_n 1, 1) := by decide +kernel
theorem d_R_firstStart_1 : decode b_R_firstStart 1 = .ok (.iload_n 2, 1) := by decide +kernel
theorem d_R_firstStart_2 : decode b_R_firstStart 2 = .ok (.iconst 0, 1) := by decide +kernel
theorem d_R_firstStart_3 : decode b_R_firstStart 3 = .ok (.invokevirtual 126, 3) := by decide +kernel
theorem d_R_firstStart_6 : decode b_R_firstStart 6 = .ok (.istore 5, 2) := by decide +kernel
theorem d_R_firstStart_8 : decode b_R_firstStart 8 = .ok (.iload_n 2, 1) := by decide +kernel
theorem d_R_firstStart_9 : decode b_R_firstStart 9 = .ok (.iload 5, 2) := by decide +kernel
theorem d_R_firstStart_11 : decode b_R_firstStart 11 = .ok (.aload_n 1, 1) := by decide +kernel
theorem d_R_firstStart_12 : decode b_R_firstStart 12 = .ok (.getfield 107, 3) := by decide +kernel
theorem d_R_firstStart_15 : decode b_R_firstStart 15 = .ok (.imul, 1) := by decide +kernel
theorem d_R_firstStart_16 : decode b_R_firstStart 16 = .ok (.isub, 1) := by decide +kernel
theorem d_R_firstStart_17 : decode b_R_firstStart 17 = .ok (.istore 6, 2) := by decide +kernel
theorem d_R_firstStart_19 : decode b_R_firstStart 19 = .ok (.iload 4, 2) := by decide +kernel
theorem d_R_firstStart_21 : decode b_R_firstStart 21 = .ok (.aload_n 1, 1) := by decide +kernel
theorem d_R_firstStart_22 : decode b_R_firstStart 22 = .ok (.getfield 107, 3) := by decide +kernel
theorem d_R_firstStart_25 : decode b_R_firstStart 25 = .ok (.imul, 1) := by decide +kernel
theorem d_R_firstStart_26 : decode b_R_firstStart 26 = .ok (.istore 7, 2) := by decide +kernel
theorem d_R_firstStart_28 : decode b_R_firstStart 28 = .ok (.iload 7, 2) := by decide +kernel
theorem d_R_firstStart_30 : decode b_R_firstStart 30 = .ok (.iconst 1, 1) := by decide +kernel
theorem d_R_firstStart_31 : decode b_R_firstStart 31 = .ok (.if_icmp .ge 7, 3) := by decide +kernel
theorem d_R_firstStart_34 : decode b_R_firstStart 34 = .ok (.iconst 0, 1) := by decide +kernel
theorem d_R_firstStart_35 : decode b_R_firstStart 35 = .ok (.goto 21, 3) := by decide +kernel
theorem d_R_firstStart_38 : decode b_R_firstStart 38 = .ok (.iload 6, 2) := by decide +kernel
theorem d_R_firstStart_40 : decode b_R_firstStart 40 = .ok (.iload 4, 2) := by decide +kernel
theorem d_R_firstStart_42 : decode b_R_firstStart 42 = .ok (.imul, 1) := by decide +kernel
theorem d_R_firstStart_43 : decode b_R_firstStart 43 = .ok (.iload_n 3, 1) := by decide +kernel
theorem d_R_firstStart_44 : decode b_R_firstStart 44 = .ok (.aload_n 1, 1) := by decide +kernel
theorem d_R_firstStart_45 : decode b_R_firstStart 45 = .ok (.getfield 107, 3) := by decide +kernel
theorem d_R_firstStart_48 : decode b_R_firstStart 48 = .ok (.imul, 1) := by decide +kernel
theorem d_R_firstStart_49 : decode b_R_firstStart 49 = .ok (.isub, 1) := by decide +kernel
theorem d_R_firstStart_50 : decode b_R_firstStart 50 = .ok (.iload 7, 2) := by decide +kernel
theorem d_R_firstStart_52 : decode b_R_firstStart 52 = .ok (.invokestatic 130, 3) := by decide +kernel
theorem d_R_firstStart_55 : decode b_R_firstStart 55 = .ok (.ineg, 1) := by decide +kernel
theorem d_R_firstStart_56 : decode b_R_firstStart 56 = .ok (.istore 8, 2) := by decide +kernel
theorem d_R_firstStart_58 : decode b_R_firstStart 58 = .ok (.aload_n 0, 1) := by decide +kernel
theorem d_R_firstStart_59 : decode b_R_firstStart 59 = .ok (.getfield 28, 3) := by decide +kernel
theorem d_R_firstStart_62 : decode b_R_firstStart 62 = .ok (.iload 8, 2) := by decide +kernel
theorem d_R_firstStart_64 : decode b_R_firstStart 64 = .ok (.invokevirtual 51, 3) := by decide +kernel
theorem d_R_firstStart_67 : decode b_R_firstStart 67 = .ok (.iload 5, 2) := by decide +kernel
theorem d_R_firstStart_69 : decode b_R_firstStart 69 = .ok (.isub, 1) := by decide +kernel
theorem d_R_firstStart_70 : decode b_R_firstStart 70 = .ok (.ireturn, 1) := by decide +kernel
theorem d_R_lastStart_0 : decode b_R_lastStart 0 = .ok (.aload_n 1, 1) := by decide +kernel
theorem d_R_lastStart_1 : decode b_R_lastStart 1 = .ok (.iload_n 2, 1) := by decide +kernel
theorem d_R_lastStart_2 : decode b_R_lastStart 2 = .ok (.iconst 1, 1) := by decide +kernel
theorem d_R_lastStart_3 : decode b_R_lastStart 3 = .ok (.invokevirtual 126, 3) := by decide +kernel
theorem d_R_lastStart_6 : decode b_R_lastStart 6 = .ok (.istore 5, 2) := by decide +kernel
theorem d_R_lastStart_8 : decode b_R_lastStart 8 = .ok (.iload_n 2, 1) := by decide +kernel
theorem d_R_lastStart_9 : decode b_R_lastStart 9 = .ok (.iload 5, 2) := by decide +kernel
theorem d_R_lastStart_11 : decode b_R_lastStart 11 = .ok (.aload_n 1, 1) := by decide +kernel
theorem d_R_lastStart_12 : decode b_R_lastStart 12 = .ok (.getfield 107, 3) := by decide +kernel
theorem d_R_lastStart_15 : decode b_R_lastStart 15 = .ok (.imul, 1) := by decide +kernel
theorem d_R_lastStart_16 : decode b_R_lastStart 16 = .ok (.isub, 1) := by decide +kernel
theorem d_R_lastStart_17 : decode b_R_lastStart 17 = .ok (.istore 6, 2) := by decide +kernel
theorem d_R_lastStart_19 : decode b_R_lastStart 19 = .ok (.iload 4, 2) := by decide +kernel
theorem d_R_lastStart_21 : decode b_R_lastStart 21 = .ok (.aload_n 1, 1) := by decide +kernel
theorem d_R_lastStart_22 : decode b_R_lastStart 22 = .ok (.getfield 107, 3) := by decide +kernel
theorem d_R_lastStart_25 : decode b_R_lastStart 25 = .ok (.imul, 1) := by decide +kernel
theorem d_R_lastStart_26 : decode b_R_lastStart 26 = .ok (.istore 7, 2) := by decide +kernel
theorem d_R_lastStart_28 : decode b_R_lastStart 28 = .ok (.iload 7, 2) := by decide +kernel
theorem d_R_lastStart_30 : decode b_R_lastStart 30 = .ok (.iconst 1, 1) := by decide +kernel
theorem d_R_lastStart_31 : decode b_R_lastStart 31 = .ok (.if_icmp .ge 7, 3) := by decide +kernel
theorem d_R_lastStart_34 : decode b_R_lastStart 34 = .ok (.iconst 0, 1) := by decide +kernel
theorem d_R_lastStart_35 : decode b_R_lastStart 35 = .ok (.goto 20, 3) := by decide +kernel
theorem d_R_lastStart_38 : decode b_R_lastStart 38 = .ok (.iload_n 3, 1) := by decide +kernel
theorem d_R_lastStart_39 : decode b_R_lastStart 39 = .ok (.aload_n 1, 1) := by decide +kernel
theorem d_R_lastStart_40 : decode b_R_lastStart 40 = .ok (.getfield 107, 3) := by decide +kernel
theorem d_R_lastStart_43 : decode b_R_lastStart 43 = .ok (.imul, 1) := by decide +kernel
theorem d_R_lastStart_44 : decode b_R_lastStart 44 = .ok (.iload 6, 2) := by decide +kernel
theorem d_R_lastStart_46 : decode b_R_lastStart 46 = .ok (.iload 4, 2) := by decide +kernel
theorem d_R_lastStart_48 : decode b_R_lastStart 48 = .ok (.imul, 1) := by decide +kernel
theorem d_R_lastStart_49 : decode b_R_lastStart 49 = .ok (.isub, 1) := by decide +kernel
theorem d_R_lastStart_50 : decode b_R_lastStart 50 = .ok (.iload 7, 2) := by decide +kernel
theorem d_R_lastStart_52 : decode b_R_lastStart 52 = .ok (.invokestatic 130, 3) := by decide +kernel
theorem d_R_lastStart_55 : decode b_R_lastStart 55 = .ok (.istore 8, 2) := by decide +kernel
theorem d_R_lastStart_57 : decode b_R_lastStart 57 = .ok (.aload_n 0, 1) := by decide +kernel
theorem d_R_lastStart_58 : decode b_R_lastStart 58 = .ok (.getfield 28, 3) := by decide +kernel
theorem d_R_lastStart_61 : decode b_R_lastStart 61 = .ok (.iload 8, 2) := by decide +kernel
theorem d_R_lastStart_63 : decode b_R_lastStart 63 = .ok (.iconst 1, 1) := by decide +kernel
theorem d_R_lastStart_64 : decode b_R_lastStart 64 = .ok (.iadd, 1) := by decide +kernel
theorem d_R_lastStart_65 : decode b_R_lastStart 65 = .ok (.invokevirtual 51, 3) := by decide +kernel
theorem d_R_lastStart_68 : decode b_R_lastStart 68 = .ok (.iconst 1, 1) := by decide +kernel
theorem d_R_lastStart_69 : decode b_R_lastStart 69 = .ok (.isub, 1) := by decide +kernel
theorem d_R_lastStart_70 : decode b_R_lastStart 70 = .ok (.iload 5, 2) := by decide +kernel
theorem d_R_lastStart_72 : decode b_R_lastStart 72 = .ok (.isub, 1) := by decide +kernel
theorem d_R_lastStart_73 : decode b_R_lastStart 73 = .ok (.ireturn, 1) := by decide +kernel
theorem d_R_hasRoom_0 : decode b_R_hasRoom 0 = .ok (.aload_n 0, 1) := by decide +kernel
theorem d_R_hasRoom_1 : decode b_R_hasRoom 1 = .ok (.getfield 28, 3) := by decide +kernel
theorem d_R_hasRoom_4 : decode b_R_hasRoom 4 = .ok (.iload_n 3, 1) := by decide +kernel
theorem d_R_hasRoom_5 : decode b_R_hasRoom 5 = .ok (.invokevirtual 51, 3) := by decide +kernel
theorem d_R_hasRoom_8 : decode b_R_hasRoom 8 = .ok (.istore 5, 2) := by decide +kernel
theorem d_R_hasRoom_10 : decode b_R_hasRoom 10 = .ok (.iload 5, 2) := by decide +kernel
theorem d_R_hasRoom_12 : decode b_R_hasRoom 12 = .ok (.aload_n 0, 1) := by decide +kernel
theorem d_R_hasRoom_13 : decode b_R_hasRoom 13 = .ok (.getfield 18, 3) := by decide +kernel
theorem d_R_hasRoom_16 : decode b_R_hasRoom 16 = .ok (.getfield 37, 3) := by decide +kernel
theorem d_R_hasRoom_19 : decode b_R_hasRoom 19 = .ok (.iload_n 2, 1) := by decide +kernel
theorem d_R_hasRoom_20 : decode b_R_hasRoom 20 = .ok (.aaload, 1) := by decide +kernel
theorem d_R_hasRoom_21 : decode b_R_hasRoom 21 = .ok (.getfield 61, 3) := by decide +kernel
theorem d_R_hasRoom_24 : decode b_R_hasRoom 24 = .ok (.iadd, 1) := by decide +kernel
theorem d_R_hasRoom_25 : decode b_R_hasRoom 25 = .ok (.istore 6, 2) := by decide +kernel
theorem d_R_hasRoom_27 : decode b_R_hasRoom 27 = .ok (.aload_n 0, 1) := by decide +kernel
theorem d_R_hasRoom_28 : decode b_R_hasRoom 28 = .ok (.aload_n 1, 1) := by decide +kernel
theorem d_R_hasRoom_29 : decode b_R_hasRoom 29 = .ok (.iload_n 2, 1) := by decide +kernel
theorem d_R_hasRoom_30 : decode b_R_hasRoom 30 = .ok (.iload 5, 2) := by decide +kernel
theorem d_R_hasRoom_32 : decode b_R_hasRoom 32 = .ok (.iload 4, 2) := by decide +kernel
theorem d_R_hasRoom_34 : decode b_R_hasRoom 34 = .ok (.invokevirtual 133, 3) := by decide +kernel
theorem d_R_hasRoom_37 : decode b_R_hasRoom 37 = .ok (.ifCond .eq 5, 3) := by decide +kernel
theorem d_R_hasRoom_40 : decode b_R_hasRoom 40 = .ok (.iconst 0, 1) := by decide +kernel
theorem d_R_hasRoom_41 : decode b_R_hasRoom 41 = .ok (.ireturn, 1) := by decide +kernel
theorem d_R_hasRoom_42 : decode b_R_hasRoom 42 = .ok (.iconst 0, 1) := by decide +kernel
theorem d_R_hasRoom_43 : decode b_R_hasRoom 43 = .ok (.istore 7, 2) := by decide +kernel
theorem d_R_hasRoom_45 : decode b_R_hasRoom 45 = .ok (.iload 7, 2) := by decide +kernel
theorem d_R_hasRoom_47 : decode b_R_hasRoom 47 = .ok (.iload 4, 2) := by decide +kernel
theorem d_R_hasRoom_49 : decode b_R_hasRoom 49 = .ok (.if_icmp .ge 144, 3) := by decide +kernel
theorem d_R_hasRoom_52 : decode b_R_hasRoom 52 = .ok (.iload 7, 2) := by decide +kernel
theorem d_R_hasRoom_54 : decode b_R_hasRoom 54 = .ok (.iload_n 2, 1) := by decide +kernel
theorem d_R_hasRoom_55 : decode b_R_hasRoom 55 = .ok (.if_icmp .eq 132, 3) := by decide +kernel
theorem d_R_hasRoom_58 : decode b_R_hasRoom 58 = .ok (.aload_n 0, 1) := by decide +kernel
theorem d_R_hasRoom_59 : decode b_R_hasRoom 59 = .ok (.getfield 28, 3) := by decide +kernel
theorem d_R_hasRoom_62 : decode b_R_hasRoom 62 = .ok (.aload_n 1, 1) := by decide +kernel
theorem d_R_hasRoom_63 : decode b_R_hasRoom 63 = .ok (.getfield 137, 3) := by decide +kernel
theorem d_R_hasRoom_66 : decode b_R_hasRoom 66 = .ok (.iload 7, 2) := by decide +kernel
theorem d_R_hasRoom_68 : decode b_R_hasRoom 68 = .ok (.iaload, 1) := by decide +kernel
theorem d_R_hasRoom_69 : decode b_R_hasRoom 69 = .ok (.invokevirtual 51, 3) := by decide +kernel
theorem d_R_hasRoom_72 : decode b_R_hasRoom 72 = .ok (.istore 8, 2) := by decide +kernel
theorem d_R_hasRoom_74 : decode b_R_hasRoom 74 = .ok (.iload 8, 2) := by decide +kernel
theorem d_R_hasRoom_76 : decode b_R_hasRoom 76 = .ok (.aload_n 0, 1) := by decide +kernel
theorem d_R_hasRoom_77 : decode b_R_hasRoom 77 = .ok (.getfield 18, 3) := by decide +kernel
theorem d_R_hasRoom_80 : decode b_R_hasRoom 80 = .ok (.getfield 37, 3) := by decide +kernel
theorem d_R_hasRoom_83 : decode b_R_hasRoom 83 = .ok (.iload 7, 2) := by decide +kernel
theorem d_R_hasRoom_85 : decode b_R_hasRoom 85 = .ok (.aaload, 1) := by decide +kernel
theorem d_R_hasRoom_86 : decode b_R_hasRoom 86 = .ok (.getfield 61, 3) := by decide +kernel
theorem d_R_hasRoom_89 : decode b_R_hasRoom 89 = .ok (.iadd, 1) := by decide +kernel
theorem d_R_hasRoom_90 : decode b_R_hasRoom 90 = .ok (.istore 9, 2) := by decide +kernel
theorem d_R_hasRoom_92 : decode b_R_hasRoom 92 = .ok (.iload 5, 2) := by decide +kernel
theorem d_R_hasRoom_94 : decode b_R_hasRoom 94 = .ok (.iload 9, 2) := by decide +kernel
theorem d_R_hasRoom_96 : decode b_R_hasRoom 96 = .ok (.if_icmp .ge 14, 3) := by decide +kernel
theorem d_R_hasRoom_99 : decode b_R_hasRoom 99 = .ok (.iload 8, 2) := by decide +kernel
theorem d_R_hasRoom_101 : decode b_R_hasRoom 101 = .ok (.iload 6, 2) := by decide +kernel
theorem d_R_hasRoom_103 : decode b_R_hasRoom 103 = .ok (.if_icmp .ge 7, 3) := by decide +kernel
theorem d_R_hasRoom_106 : decode b_R_hasRoom 106 = .ok (.iconst 1, 1) := by decide +kernel
theorem d_R_hasRoom_107 : decode b_R_hasRoom 107 = .ok (.goto 4, 3) := by decide +kernel
theorem d_R_hasRoom_110 : decode b_R_hasRoom 110 = .ok (.iconst 0, 1) := by decide +kernel
theorem d_R_hasRoom_111 : decode b_R_hasRoom 111 = .ok (.istore 10, 2) := by decide +kernel
theorem d_R_hasRoom_113 : decode b_R_hasRoom 113 = .ok (.aload_n 0, 1) := by decide +kernel
theorem d_R_hasRoom_114 : decode b_R_hasRoom 114 = .ok (.getfield 18, 3) := by decide +kernel
theorem d_R_hasRoom_117 : decode b_R_hasRoom 117 = .ok (.getfield 37, 3) := by decide +kernel
theorem d_R_hasRoom_120 : decode b_R_hasRoom 120 = .ok (.iload 7, 2) := by decide +kernel
theorem d_R_hasRoom_122 : decode b_R_hasRoom 122 = .ok (.aaload, 1) := by decide +kernel
theorem d_R_hasRoom_123 : decode b_R_hasRoom 123 = .ok (.getfield 142, 3) := by decide +kernel
theorem d_R_hasRoom_126 : decode b_R_hasRoom 126 = .ok (.aload_n 0, 1) := by decide +kernel
theorem d_R_hasRoom_127 : decode b_R_hasRoom 127 = .ok (.getfield 18, 3) := by decide +kernel
theorem d_R_hasRoom_130 : decode b_R_hasRoom 130 = .ok (.getfield 37, 3) := by decide +kernel
theorem d_R_hasRoom_133 : decode b_R_hasRoom 133 = .ok (.iload_n 2, 1) := by decide +kernel
theorem d_R_hasRoom_134 : decode b_R_hasRoom 134 = .ok (.aaload, 1) := by decide +kernel
theorem d_R_hasRoom_135 : decode b_R_hasRoom 135 = .ok (.getfield 142, 3) := by decide +kernel
theorem d_R_hasRoom_138 : decode b_R_hasRoom 138 = .ok (.if_icmp .ne 7, 3) := by decide +kernel
theorem d_R_hasRoom_141 : decode b_R_hasRoom 141 = .ok (.iconst 1, 1) := by decide +kernel
theorem d_R_hasRoom_142 : decode b_R_hasRoom 142 = .ok (.goto 4, 3) := by decide +kernel
theorem d_R_hasRoom_145 : decode b_R_hasRoom 145 = .ok (.iconst 0, 1) := by decide +kernel
theorem d_R_hasRoom_146 : decode b_R_hasRoom 146 = .ok (.istore 11, 2) := by decide +kernel
theorem d_R_hasRoom_148 : decode b_R_hasRoom 148 = .ok (.iload 10, 2) := by decide +kernel
theorem d_R_hasRoom_150 : decode b_R_hasRoom 150 = .ok (.ifCond .eq 10, 3) := by decide +kernel
theorem d_R_hasRoom_153 : decode b_R_hasRoom 153 = .ok (.iload 11, 2) := by decide +kernel
theorem d_R_hasRoom_155 : decode b_R_hasRoom 155 = .ok (.ifCond .eq 5, 3) := by decide +kernel
theorem d_R_hasRoom_158 : decode b_R_hasRoom 158 = .ok (.iconst 0, 1) := by decide +kernel
theorem d_R_hasRoom_159 : decode b_R_hasRoom 159 = .ok (.ireturn, 1) := by decide +kernel
theorem d_R_hasRoom_160 : decode b_R_hasRoom 160 = .ok (.iload 10, 2) := by decide +kernel
theorem d_R_hasRoom_162 : decode b_R_hasRoom 162 = .ok (.ifCond .eq 25, 3) := by decide +kernel
theorem d_R_hasRoom_165 : decode b_R_hasRoom 165 = .ok (.iload 8, 2) := by decide +kernel
theorem d_R_hasRoom_167 : decode b_R_hasRoom 167 = .ok (.iload 5, 2) := by decide +kernel
theorem d_R_hasRoom_169 : decode b_R_hasRoom 169 = .ok (.if_icmp .le 18, 3) := by decide +kernel
theorem d_R_hasRoom_172 : decode b_R_hasRoom 172 = .ok (.aload_n 0, 1) := by decide +kernel
theorem d_R_hasRoom_173 : decode b_R_hasRoom 173 = .ok (.aload_n 1, 1) := by decide +kernel
theorem d_R_hasRoom_174 : decode b_R_hasRoom 174 = .ok (.iload_n 2, 1) := by decide +kernel
theorem d_R_hasRoom_175 : decode b_R_hasRoom 175 = .ok (.iload 8, 2) := by decide +kernel
theorem d_R_hasRoom_177 : decode b_R_hasRoom 177 = .ok (.iload 4, 2) := by decide +kernel
theorem d_R_hasRoom_179 : decode b_R_hasRoom 179 = .ok (.invokevirtual 133, 3) := by decide +kernel
theorem d_R_hasRoom_182 : decode b_R_hasRoom 182 = .ok (.ifCond .eq 5, 3) := by decide +kernel
theorem d_R_hasRoom_185 : decode b_R_hasRoom 185 = .ok (.iconst 0, 1) := by decide +kernel
theorem d_R_hasRoom_186 : decode b_R_hasRoom 186 = .ok (.ireturn, 1) := by decide +kernel
theorem d_R_hasRoom_187 : decode b_R_hasRoom 187 = .ok (.iinc 7 1, 3) := by decide +kernel
theorem d_R_hasRoom_190 : decode b_R_hasRoom 190 = .ok (.goto (-145), 3) := by decide +kernel
theorem d_R_hasRoom_193 : decode b_R_hasRoom 193 = .ok (.iconst 1, 1) := by decide +kernel
theorem d_R_hasRoom_194 : decode b_R_hasRoom 194 = .ok (.ireturn, 1) := by decide +kernel
theorem d_R_isCrowded_0 : decode b_R_isCrowded 0 = .ok (.aload_n 0, 1) := by decide +kernel
theorem d_R_isCrowded_1 : decode b_R_isCrowded 1 = .ok (.getfield 18, 3) := by decide +kernel
theorem d_R_isCrowded_4 : decode b_R_isCrowded 4 = .ok (.getfield 37, 3) := by decide +kernel
theorem d_R_isCrowded_7 : decode b_R_isCrowded 7 = .ok (.iload_n 2, 1) := by decide +kernel
theorem d_R_isCrowded_8 : decode b_R_isCrowded 8 = .ok (.aaload, 1) := by decide +kernel
theorem d_R_isCrowded_9 : decode b_R_isCrowded 9 = .ok (.getfield 145, 3) := by decide +kernel
theorem d_R_isCrowded_12 : decode b_R_isCrowded 12 = .ok (.istore 5, 2) := by decide +kernel
theorem d_R_isCrowded_14 : decode b_R_isCrowded 14 = .ok (.iconst 1, 1) := by decide +kernel
theorem d_R_isCrowded_15 : decode b_R_isCrowded 15 = .ok (.istore 6, 2) := by decide +kernel
theorem d_R_isCrowded_17 : decode b_R_isCrowded 17 = .ok (.iconst 0, 1) := by decide +kernel
theorem d_R_isCrowded_18 : decode b_R_isCrowded 18 = .ok (.istore 7, 2) := by decide +kernel
theorem d_R_isCrowded_20 : decode b_R_isCrowded 20 = .ok (.iload 7, 2) := by decide +kernel
theorem d_R_isCrowded_22 : decode b_R_isCrowded 22 = .ok (.iload 4, 2) := by decide +kernel
theorem d_R_isCrowded_24 : decode b_R_isCrowded 24 = .ok (.if_icmp .ge 78, 3) := by decide +kernel
theorem d_R_isCrowded_27 : decode b_R_isCrowded 27 = .ok (.iload 7, 2) := by decide +kernel
theorem d_R_isCrowded_29 : decode b_R_isCrowded 29 = .ok (.iload_n 2, 1) := by decide +kernel
theorem d_R_isCrowded_30 : decode b_R_isCrowded 30 = .ok (.if_icmp .eq 66, 3) := by decide +kernel
theorem d_R_isCrowded_33 : decode b_R_isCrowded 33 = .ok (.aload_n 0, 1) := by decide +kernel
theorem d_R_isCrowded_34 : decode b_R_isCrowded 34 = .ok (.getfield 18, 3) := by decide +kernel
theorem d_R_isCrowded_37 : decode b_R_isCrowded 37 = .ok (.getfield 37, 3) := by decide +kernel
theorem d_R_isCrowded_40 : decode b_R_isCrowded 40 = .ok (.iload 7, 2) := by decide +kernel
theorem d_R_isCrowded_42 : decode b_R_isCrowded 42 = .ok (.aaload, 1) := by decide +kernel
theorem d_R_isCrowded_43 : decode b_R_isCrowded 43 = .ok (.getfield 145, 3) := by decide +kernel
theorem d_R_isCrowded_46 : decode b_R_isCrowded 46 = .ok (.iload 5, 2) := by decide +kernel
theorem d_R_isCrowded_48 : decode b_R_isCrowded 48 = .ok (.if_icmp .ne 48, 3) := by decide +kernel
theorem d_R_isCrowded_51 : decode b_R_isCrowded 51 = .ok (.aload_n 0, 1) := by decide +kernel
theorem d_R_isCrowded_52 : decode b_R_isCrowded 52 = .ok (.getfield 28, 3) := by decide +kernel
theorem d_R_isCrowded_55 : decode b_R_isCrowded 55 = .ok (.aload_n 1, 1) := by decide +kernel
theorem d_R_isCrowded_56 : decode b_R_isCrowded 56 = .ok (.getfield 137, 3) := by decide +kernel
theorem d_R_isCrowded_59 : decode b_R_isCrowded 59 = .ok (.iload 7, 2) := by decide +kernel
theorem d_R_isCrowded_61 : decode b_R_isCrowded 61 = .ok (.iaload, 1) := by decide +kernel
theorem d_R_isCrowded_62 : decode b_R_isCrowded 62 = .ok (.invokevirtual 51, 3) := by decide +kernel
theorem d_R_isCrowded_65 : decode b_R_isCrowded 65 = .ok (.istore 8, 2) := by decide +kernel
theorem d_R_isCrowded_67 : decode b_R_isCrowded 67 = .ok (.iload 8, 2) := by decide +kernel
theorem d_R_isCrowded_69 : decode b_R_isCrowded 69 = .ok (.iload_n 3, 1) := by decide +kernel
theorem d_R_isCrowded_70 : decode b_R_isCrowded 70 = .ok (.if_icmp .gt 26, 3) := by decide +kernel
theorem d_R_isCrowded_73 : decode b_R_isCrowded 73 = .ok (.iload_n 3, 1) := by decide +kernel
theorem d_R_isCrowded_74 : decode b_R_isCrowded 74 = .ok (.iload 8, 2) := by decide +kernel
theorem d_R_isCrowded_76 : decode b_R_isCrowded 76 = .ok (.aload_n 0, 1) := by decide +kernel
theorem d_R_isCrowded_77 : decode b_R_isCrowded 77 = .ok (.getfield 18, 3) := by decide +kernel
theorem d_R_isCrowded_80 : decode b_R_isCrowded 80 = .ok (.getfield 37, 3) := by decide +kernel
theorem d_R_isCrowded_83 : decode b_R_isCrowded 83 = .ok (.iload 7, 2) := by decide +kernel
theorem d_R_isCrowded_85 : decode b_R_isCrowded 85 = .ok (.aaload, 1) := by decide +kernel
theorem d_R_isCrowded_86 : decode b_R_isCrowded 86 = .ok (.getfield 61, 3) := by decide +kernel
theorem d_R_isCrowded_89 : decode b_R_isCrowded 89 = .ok (.iadd, 1) := by decide +kernel
theorem d_R_isCrowded_90 : decode b_R_isCrowded 90 = .ok (.if_icmp .ge 6, 3) := by decide +kernel
theorem d_R_isCrowded_93 : decode b_R_isCrowded 93 = .ok (.iinc 6 1, 3) := by decide +kernel
theorem d_R_isCrowded_96 : decode b_R_isCrowded 96 = .ok (.iinc 7 1, 3) := by decide +kernel
theorem d_R_isCrowded_99 : decode b_R_isCrowded 99 = .ok (.goto (-79), 3) := by decide +kernel
theorem d_R_isCrowded_102 : decode b_R_isCrowded 102 = .ok (.iload 5, 2) := by decide +kernel
theorem d_R_isCrowded_104 : decode b_R_isCrowded 104 = .ok (.iconst 0, 1) := by decide +kernel
theorem d_R_isCrowded_105 : decode b_R_isCrowded 105 = .ok (.iconst 3, 1) := by decide +kernel
theorem d_R_isCrowded_106 : decode b_R_isCrowded 106 = .ok (.invokestatic 148, 3) := by decide +kernel
theorem d_R_isCrowded_109 : decode b_R_isCrowded 109 = .ok (.ifCond .eq 18, 3) := by decide +kernel
theorem d_R_isCrowded_112 : decode b_R_isCrowded 112 = .ok (.iload 6, 2) := by decide +kernel
theorem d_R_isCrowded_114 : decode b_R_isCrowded 114 = .ok (.aload_n 0, 1) := by decide +kernel
theorem d_R_isCrowded_115 : decode b_R_isCrowded 115 = .ok (.getfield 18, 3) := by decide +kernel
theorem d_R_isCrowded_118 : decode b_R_isCrowded 118 = .ok (.getfield 152, 3) := by decide +kernel
theorem d_R_isCrowded_121 : decode b_R_isCrowded 121 = .ok (.iload 5, 2) := by decide +kernel
theorem d_R_isCrowded_123 : decode b_R_isCrowded 123 = .ok (.iaload, 1) := by decide +kernel
theorem d_R_isCrowded_124 : decode b_R_isCrowded 124 = .ok (.if_icmp .le 7, 3) := by decide +kernel
theorem d_R_isCrowded_127 : decode b_R_isCrowded 127 = .ok (.iconst 1, 1) := by decide +kernel
theorem d_R_isCrowded_128 : decode b_R_isCrowded 128 = .ok (.goto 4, 3) := by decide +kernel
theorem d_R_isCrowded_131 : decode b_R_isCrowded 131 = .ok (.iconst 0, 1) := by decide +kernel
theorem d_R_isCrowded_132 : decode b_R_isCrowded 132 = .ok (.ireturn, 1) := by decide +kernel
theorem d_S_init_0 : decode b_S_init 0 = .ok (.aload_n 0, 1) := by decide +kernel
theorem d_S_init_1 : decode b_S_init 1 = .ok (.invokespecial 3, 3) := by decide +kernel
theorem d_S_init_4 : decode b_S_init 4 = .ok (.aload_n 0, 1) := by decide +kernel
theorem d_S_init_5 : decode b_S_init 5 = .ok (.new 9, 3) := by decide +kernel
theorem d_S_init_8 : decode b_S_init 8 = .ok (.dup, 1) := by decide +kernel
theorem d_S_init_9 : decode b_S_init 9 = .ok (.invokespecial 11, 3) := by decide +kernel
theorem d_S_init_12 : decode b_S_init 12 = .ok (.putfield 12, 3) := by decide +kernel
theorem d_S_init_15 : decode b_S_init 15 = .ok (.aload_n 0, 1) := by decide +kernel
theorem d_S_init_16 : decode b_S_init 16 = .ok (.new 9, 3) := by decide +kernel
theorem d_S_init_19 : decode b_S_init 19 = .ok (.dup, 1) := by decide +kernel
theorem d_S_init_20 : decode b_S_init 20 = .ok (.invokespecial 11, 3) := by decide +kernel
theorem d_S_init_23 : decode b_S_init 23 = .ok (.putfield 18, 3) := by decide +kernel
theorem d_S_init_26 : decode b_S_init 26 = .ok (.aload_n 0, 1) := by decide +kernel
theorem d_S_init_27 : decode b_S_init 27 = .ok (.bipush 12, 2) := by decide +kernel
theorem d_S_init_29 : decode b_S_init 29 = .ok (.anewarray 21, 3) := by decide +kernel
theorem d_S_init_32 : decode b_S_init 32 = .ok (.putfield 23, 3) := by decide +kernel
theorem d_S_init_35 : decode b_S_init 35 = .ok (.aload_n 0, 1) := by decide +kernel
theorem d_S_init_36 : decode b_S_init 36 = .ok (.bipush 6, 2) := by decide +kernel
theorem d_S_init_38 : decode b_S_init 38 = .ok (.newarray .int, 2) := by decide +kernel
theorem d_S_init_40 : decode b_S_init 40 = .ok (.putfield 27, 3) := by decide +kernel
theorem d_S_init_43 : decode b_S_init 43 = .ok (.aload_n 0, 1) := by decide +kernel
theorem d_S_init_44 : decode b_S_init 44 = .ok (.bipush 6, 2) := by decide +kernel
theorem d_S_init_46 : decode b_S_init 46 = .ok (.newarray .int, 2) := by decide +kernel
theorem d_S_init_48 : decode b_S_init 48 = .ok (.putfield 31, 3) := by decide +kernel
theorem d_S_init_51 : decode b_S_init 51 = .ok (.aload_n 0, 1) := by decide +kernel
theorem d_S_init_52 : decode b_S_init 52 = .ok (.aload_n 1, 1) := by decide +kernel
theorem d_S_init_53 : decode b_S_init 53 = .ok (.putfield 34, 3) := by decide +kernel
theorem d_S_init_56 : decode b_S_init 56 = .ok (.aload_n 0, 1) := by decide +kernel
theorem d_S_init_57 : decode b_S_init 57 = .ok (.aload_n 2, 1) := by decide +kernel
theorem d_S_init_58 : decode b_S_init 58 = .ok (.putfield 38, 3) := by decide +kernel
theorem d_S_init_61 : decode b_S_init 61 = .ok (.aload_n 0, 1) := by decide +kernel
theorem d_S_init_62 : decode b_S_init 62 = .ok (.aload_n 3, 1) := by decide +kernel
theorem d_S_init_63 : decode b_S_init 63 = .ok (.putfield 42, 3) := by decide +kernel
theorem d_S_init_66 : decode b_S_init 66 = .ok (.iconst 0, 1) := by decide +kernel
theorem d_S_init_67 : decode b_S_init 67 = .ok (.istore 4, 2) := by decide +kernel
theorem d_S_init_69 : decode b_S_init 69 = .ok (.iload 4, 2) := by decide +kernel
theorem d_S_init_71 : decode b_S_init 71 = .ok (.aload_n 0, 1) := by decide +kernel
theorem d_S_init_72 : decode b_S_init 72 = .ok (.getfield 23, 3) := by decide +kernel
theorem d_S_init_75 : decode b_S_init 75 = .ok (.arraylength, 1) := by decide +kernel
theorem d_S_init_76 : decode b_S_init 76 = .ok (.if_icmp .ge 23, 3) := by decide +kernel
theorem d_S_init_79 : decode b_S_init 79 = .ok (.aload_n 0, 1) := by decide +kernel
theorem d_S_init_80 : decode b_S_init 80 = .ok (.getfield 23, 3) := by decide +kernel
theorem d_S_init_83 : decode b_S_init 83 = .ok (.iload 4, 2) := by decide +kernel
theorem d_S_init_85 : decode b_S_init 85 = .ok (.new 21, 3) := by decide +kernel
theorem d_S_init_88 : decode b_S_init 88 = .ok (.dup, 1) := by decide +kernel
theorem d_S_init_89 : decode b_S_init 89 = .ok (.invokespecial 45, 3) := by decide +kernel
theorem d_S_init_92 : decode b_S_init 92 = .ok (.aastore, 1) := by decide +kernel
theorem d_S_init_93 : decode b_S_init 93 = .ok (.iinc 4 1, 3) := by decide +kernel
theorem d_S_init_96 : decode b_S_init 96 = .ok (.goto (-27), 3) := by decide +kernel
theorem d_S_init_99 : decode b_S_init 99 = .ok (.return_, 1) := by decide +kernel
theorem d_S_seek_0 : decode b_S_seek 0 = .ok (.aload_n 0, 1) := by decide +kernel
theorem d_S_seek_1 : decode b_S_seek 1 = .ok (.iload_n 2, 1) := by decide +kernel
theorem d_S_seek_2 : decode b_S_seek 2 = .ok (.putfield 46, 3) := by decide +kernel
theorem d_S_seek_5 : decode b_S_seek 5 = .ok (.aload_n 0, 1) := by decide +kernel
theorem d_S_seek_6 : decode b_S_seek 6 = .ok (.iload_n 1, 1) := by decide +kernel
theorem d_S_seek_7 : decode b_S_seek 7 = .ok (.putfield 50, 3) := by decide +kernel
theorem d_S_seek_10 : decode b_S_seek 10 = .ok (.aload_n 0, 1) := by decide +kernel
theorem d_S_seek_11 : decode b_S_seek 11 = .ok (.iconst 0, 1) := by decide +kernel
theorem d_S_seek_12 : decode b_S_seek 12 = .ok (.putfield 54, 3) := by decide +kernel
theorem d_S_seek_15 : decode b_S_seek 15 = .ok (.aload_n 0, 1) := by decide +kernel
theorem d_S_seek_16 : decode b_S_seek 16 = .ok (.iconst 0, 1) := by decide +kernel
theorem d_S_seek_17 : decode b_S_seek 17 = .ok (.putfield 57, 3) := by decide +kernel
theorem d_S_seek_20 : decode b_S_seek 20 = .ok (.aload_n 0, 1) := by decide +kernel
theorem d_S_seek_21 : decode b_S_seek 21 = .ok (.iconst 0, 1) := by decide +kernel
theorem d_S_seek_22 : decode b_S_seek 22 = .ok (.putfield 60, 3) := by decide +kernel
theorem d_S_seek_25 : decode b_S_seek 25 = .ok (.aload_n 0, 1) := by decide +kernel
theorem d_S_seek_26 : decode b_S_seek 26 = .ok (.iconst 0, 1) := by decide +kernel
theorem d_S_seek_27 : decode b_S_seek 27 = .ok (.invokevirtual 63, 3) := by decide +kernel
theorem d_S_seek_30 : decode b_S_seek 30 = .ok (.return_, 1) := by decide +kernel
theorem d_S_tryStarts_0 : decode b_S_tryStarts 0 = .ok (.iload_n 1, 1) := by decide +kernel
theorem d_S_tryStarts_1 : decode b_S_tryStarts 1 = .ok (.aload_n 0, 1) := by decide +kernel
theorem d_S_tryStarts_2 : decode b_S_tryStarts 2 = .ok (.getfield 34, 3) := by decide +kernel
theorem d_S_tryStarts_5 : decode b_S_tryStarts 5 = .ok (.getfield 67, 3) := by decide +kernel
theorem d_S_tryStarts_8 : decode b_S_tryStarts 8 = .ok (.if_icmp .ge 9, 3) := by decide +kernel
theorem d_S_tryStarts_11 : decode b_S_tryStarts 11 = .ok (.iload_n 1, 1) := by decide +kernel
theorem d_S_tryStarts_12 : decode b_S_tryStarts 12 = .ok (.bipush 6, 2) := by decide +kernel
theorem d_S_tryStarts_14 : decode b_S_tryStarts 14 = .ok (.if_icmp .lt 4, 3) := by decide +kernel
theorem d_S_tryStarts_17 : decode b_S_tryStarts 17 = .ok (.return_, 1) := by decide +kernel
theorem d_S_tryStarts_18 : decode b_S_tryStarts 18 = .ok (.aload_n 0, 1) := by decide +kernel
theorem d_S_tryStarts_19 : decode b_S_tryStarts 19 = .ok (.getfield 34, 3) := by decide +kernel
theorem d_S_tryStarts_22 : decode b_S_tryStarts 22 = .ok (.getfield 72, 3) := by decide +kernel
theorem d_S_tryStarts_25 : decode b_S_tryStarts 25 = .ok (.iload_n 1, 1) := by decide +kernel
theorem d_S_tryStarts_26 : decode b_S_tryStarts 26 = .ok (.aaload, 1) := by decide +kernel
theorem d_S_tryStarts_27 : decode b_S_tryStarts 27 = .ok (.astore_n 2, 1) := by decide +kernel
theorem d_S_tryStarts_28 : decode b_S_tryStarts 28 = .ok (.aload_n 2, 1) := by decide +kernel
theorem d_S_tryStarts_29 : decode b_S_tryStarts 29 = .ok (.getfield 76, 3) := by decide +kernel
theorem d_S_tryStarts_32 : decode b_S_tryStarts 32 = .ok (.ifCond .eq 15, 3) := by decide +kernel
theorem d_S_tryStarts_35 : decode b_S_tryStarts 35 = .ok (.aload_n 0, 1) := by decide +kernel
theorem d_S_tryStarts_36 : decode b_S_tryStarts 36 = .ok (.getfield 42, 3) := by decide +kernel
theorem d_S_tryStarts_39 : decode b_S_tryStarts 39 = .ok (.getfield 81, 3) := by decide +kernel
theorem d_S_tryStarts_42 : decode b_S_tryStarts 42 = .ok (.iload_n 1, 1) := by decide +kernel
theorem d_S_tryStarts_43 : decode b_S_tryStarts 43 = .ok (.iaload, 1) := by decide +kernel
theorem d_S_tryStarts_44 : decode b_S_tryStarts 44 = .ok (.goto 4, 3) := by decide +kernel
theorem d_S_tryStarts_47 : decode b_S_tryStarts 47 = .ok (.iconst 0, 1) := by decide +kernel
theorem d_S_tryStarts_48 : decode b_S_tryStarts 48 = .ok (.istore_n 3, 1) := by decide +kernel
theorem d_S_tryStarts_49 : decode b_S_tryStarts 49 = .ok (.aload_n 2, 1) := by decide +kernel
theorem d_S_tryStarts_50 : decode b_S_tryStarts 50 = .ok (.getfield 76, 3) := by decide +kernel
theorem d_S_tryStarts_53 : decode b_S_tryStarts 53 = .ok (.ifCond .eq 7, 3) := by decide +kernel
theorem d_S_tryStarts_56 : decode b_S_tryStarts 56 = .ok (.iload_n 3, 1) := by decide +kernel
theorem d_S_tryStarts_57 : decode b_S_tryStarts 57 = .ok (.goto 5, 3) := by decide +kernel
theorem d_S_tryStarts_60 : decode b_S_tryStarts 60 = .ok (.bipush 99, 2) := by decide +kernel
theorem d_S_tryStarts_62 : decode b_S_tryStarts 62 = .ok (.istore 4, 2) := by decide +kernel
theorem d_S_tryStarts_64 : decode b_S_tryStarts 64 = .ok (.aload_n 2, 1) := by decide +kernel
theorem d_S_tryStarts_65 : decode b_S_tryStarts 65 = .ok (.getfield 76, 3) := by decide +kernel
theorem d_S_tryStarts_68 : decode b_S_tryStarts 68 = .ok (.ifCond .eq 15, 3) := by decide +kernel
theorem d_S_tryStarts_71 : decode b_S_tryStarts 71 = .ok (.aload_n 0, 1) := by decide +kernel
theorem d_S_tryStarts_72 : decode b_S_tryStarts 72 = .ok (.getfield 42, 3) := by decide +kernel
theorem d_S_tryStarts_75 : decode b_S_tryStarts 75 = .ok (.getfield 84, 3) := by decide +kernel
theorem d_S_tryStarts_78 : decode b_S_tryStarts 78 = .ok (.iload_n 1, 1) := by decide +kernel
theorem d_S_tryStarts_79 : decode b_S_tryStarts 79 = .ok (.iaload, 1) := by decide +kernel
theorem d_S_tryStarts_80 : decode b_S_tryStarts 80 = .ok (.goto 4, 3) := by decide +kernel
theorem d_S_tryStarts_83 : decode b_S_tryStarts 83 = .ok (.iconst 0, 1) := by decide +kernel
theorem d_S_tryStarts_84 : decode b_S_tryStarts 84 = .ok (.istore 5, 2) := by decide +kernel
theorem d_S_tryStarts_86 : decode b_S_tryStarts 86 = .ok (.aload_n 2, 1) := by decide +kernel
theorem d_S_tryStarts_87 : decode b_S_tryStarts 87 = .ok (.getfield 76, 3) := by decide +kernel
theorem d_S_tryStarts_90 : decode b_S_tryStarts 90 = .ok (.ifCond .eq 8, 3) := by decide +kernel
theorem d_S_tryStarts_93 : decode b_S_tryStarts 93 = .ok (.iload 5, 2) := by decide +kernel
theorem d_S_tryStarts_95 : decode b_S_tryStarts 95 = .ok (.goto 15, 3) := by decide +kernel
theorem d_S_tryStarts_98 : decode b_S_tryStarts 98 = .ok (.aload_n 2, 1) := by decide +kernel
theorem d_S_tryStarts_99 : decode b_S_tryStarts 99 = .ok (.getfield 87, 3) := by decide +kernel
theorem d_S_tryStarts_102 : decode b_S_tryStarts 102 = .ok (.ifCond .eq 7, 3) := by decide +kernel
theorem d_S_tryStarts_105 : decode b_S_tryStarts 105 = .ok (.iconst 1, 1) := by decide +kernel
theorem d_S_tryStarts_106 : decode b_S_tryStarts 106 = .ok (.goto 4, 3) := by decide +kernel
theorem d_S_tryStarts_109 : decode b_S_tryStarts 109 = .ok (.iconst 0, 1) := by decide +kernel
theorem d_S_tryStarts_110 : decode b_S_tryStarts 110 = .ok (.istore 6, 2) := by decide +kernel
theorem d_S_tryStarts_112 : decode b_S_tryStarts 112 = .ok (.iload 5, 2) := by decide +kernel
theorem d_S_tryStarts_114 : decode b_S_tryStarts 114 = .ok (.istore 7, 2) := by decide +kernel
theorem d_S_tryStarts_116 : decode b_S_tryStarts 116 = .ok (.iload 7, 2) := by decide +kernel
theorem d_S_tryStarts_118 : decode b_S_tryStarts 118 = .ok (.iload 6, 2) := by decide +kernel
theorem d_S_tryStarts_120 : decode b_S_tryStarts 120 = .ok (.if_icmp .gt 35, 3) := by decide +kernel
theorem d_S_tryStarts_123 : decode b_S_tryStarts 123 = .ok (.aload_n 0, 1) := by decide +kernel
theorem d_S_tryStarts_124 : decode b_S_tryStarts 124 = .ok (.getfield 38, 3) := by decide +kernel
theorem d_S_tryStarts_127 : decode b_S_tryStarts 127 = .ok (.aload_n 0, 1) := by decide +kernel
theorem d_S_tryStarts_128 : decode b_S_tryStarts 128 = .ok (.getfield 23, 3) := by decide +kernel
theorem d_S_tryStarts_131 : decode b_S_tryStarts 131 = .ok (.iload_n 1, 1) := by decide +kernel
theorem d_S_tryStarts_132 : decode b_S_tryStarts 132 = .ok (.iconst 2, 1) := by decide +kernel
theorem d_S_tryStarts_133 : decode b_S_tryStarts 133 = .ok (.imul, 1) := by decide +kernel
theorem d_S_tryStarts_134 : decode b_S_tryStarts 134 = .ok (.iload 7, 2) := by decide +kernel
theorem d_S_tryStarts_136 : decode b_S_tryStarts 136 = .ok (.iadd, 1) := by decide +kernel
theorem d_S_tryStarts_137 : decode b_S_tryStarts 137 = .ok (.aaload, 1) := by decide +kernel
theorem d_S_tryStarts_138 : decode b_S_tryStarts 138 = .ok (.aload_n 0, 1) := by decide +kernel
theorem d_S_tryStarts_139 : decode b_S_tryStarts 139 = .ok (.getfield 12, 3) := by decide +kernel
theorem d_S_tryStarts_142 : decode b_S_tryStarts 142 = .ok (.iload_n 1, 1) := by decide +kernel
theorem d_S_tryStarts_143 : decode b_S_tryStarts 143 = .ok (.iload 7, 2) := by decide +kernel
theorem d_S_tryStarts_145 : decode b_S_tryStarts 145 = .ok (.iload_n 1, 1) := by decide +kernel
theorem d_S_tryStarts_146 : decode b_S_tryStarts 146 = .ok (.invokevirtual 90, 3) := by decide +kernel
theorem d_S_tryStarts_149 : decode b_S_tryStarts 149 = .ok (.iinc 7 1, 3) := by decide +kernel
theorem d_S_tryStarts_152 : decode b_S_tryStarts 152 = .ok (.goto (-36), 3) := by decide +kernel
theorem d_S_tryStarts_155 : decode b_S_tryStarts 155 = .ok (.iload_n 3, 1) := by decide +kernel
theorem d_S_tryStarts_156 : decode b_S_tryStarts 156 = .ok (.istore 7, 2) := by decide +kernel
theorem d_S_tryStarts_158 : decode b_S_tryStarts 158 = .ok (.iload 7, 2) := by decide +kernel
theorem d_S_tryStarts_160 : decode b_S_tryStarts 160 = .ok (.iload 4, 2) := by decide +kernel
theorem d_S_tryStarts_162 : decode b_S_tryStarts 162 = .ok (.if_icmp .gt 49, 3) := by decide +kernel
theorem d_S_tryStarts_165 : decode b_S_tryStarts 165 = .ok (.aload_n 0, 1) := by decide +kernel
theorem d_S_tryStarts_166 : decode b_S_tryStarts 166 = .ok (.getfield 57, 3) := by decide +kernel
theorem d_S_tryStarts_169 : decode b_S_tryStarts 169 = .ok (.ifCond .ne 42, 3) := by decide +kernel
theorem d_S_tryStarts_172 : decode b_S_tryStarts 172 = .ok (.iload 5, 2) := by decide +kernel
theorem d_S_tryStarts_174 : decode b_S_tryStarts 174 = .ok (.istore 8, 2) := by decide +kernel
theorem d_S_tryStarts_176 : decode b_S_tryStarts 176 = .ok (.iload 8, 2) := by decide +kernel
theorem d_S_tryStarts_178 : decode b_S_tryStarts 178 = .ok (.iload 6, 2) := by decide +kernel
theorem d_S_tryStarts_180 : decode b_S_tryStarts 180 = .ok (.if_icmp .gt 25, 3) := by decide +kernel
theorem d_S_tryStarts_183 : decode b_S_tryStarts 183 = .ok (.aload_n 0, 1) := by decide +kernel
theorem d_S_tryStarts_184 : decode b_S_tryStarts 184 = .ok (.getfield 57, 3) := by decide +kernel
theorem d_S_tryStarts_187 : decode b_S_tryStarts 187 = .ok (.ifCond .ne 18, 3) := by decide +kernel
theorem d_S_tryStarts_190 : decode b_S_tryStarts 190 = .ok (.aload_n 0, 1) := by decide +kernel
theorem d_S_tryStarts_191 : decode b_S_tryStarts 191 = .ok (.iload_n 1, 1) := by decide +kernel
theorem d_S_tryStarts_192 : decode b_S_tryStarts 192 = .ok (.iload 7, 2) := by decide +kernel
theorem d_S_tryStarts_194 : decode b_S_tryStarts 194 = .ok (.iload 8, 2) := by decide +kernel
theorem d_S_tryStarts_196 : decode b_S_tryStarts 196 = .ok (.invokevirtual 96, 3) := by decide +kernel
theorem d_S_tryStarts_199 : decode b_S_tryStarts 199 = .ok (.iinc 8 1, 3) := by decide +kernel
theorem d_S_tryStarts_202 : decode b_S_tryStarts 202 = .ok (.goto (-26), 3) := by decide +kernel
theorem d_S_tryStarts_205 : decode b_S_tryStarts 205 = .ok (.iinc 7 1, 3) := by decide +kernel
theorem d_S_tryStarts_208 : decode b_S_tryStarts 208 = .ok (.goto (-50), 3) := by decide +kernel
theorem d_S_tryStarts_211 : decode b_S_tryStarts 211 = .ok (.return_, 1) := by decide +kernel
theorem d_S_tryOne_0 : decode b_S_tryOne 0 = .ok (.aload_n 0, 1) := by decide +kernel
theorem d_S_tryOne_1 : decode b_S_tryOne 1 = .ok (.getfield 54, 3) := by decide +kernel
theorem d_S_tryOne_4 : decode b_S_tryOne 4 = .ok (.aload_n 0, 1) := by decide +kernel
theorem d_S_tryOne_5 : decode b_S_tryOne 5 = .ok (.getfield 50, 3) := by decide +kernel
theorem d_S_tryOne_8 : decode b_S_tryOne 8 = .ok (.if_icmp .lt 9, 3) := by decide +kernel
theorem d_S_tryOne_11 : decode b_S_tryOne 11 = .ok (.aload_n 0, 1) := by decide +kernel
theorem d_S_tryOne_12 : decode b_S_tryOne 12 = .ok (.iconst 1, 1) := by decide +kernel
theorem d_S_tryOne_13 : decode b_S_tryOne 13 = .ok (.putfield 57, 3) := by decide +kernel
theorem d_S_tryOne_16 : decode b_S_tryOne 16 = .ok (.return_, 1) := by decide +kernel
theorem d_S_tryOne_17 : decode b_S_tryOne 17 = .ok (.aload_n 0, 1) := by decide +kernel
theorem d_S_tryOne_18 : decode b_S_tryOne 18 = .ok (.dup, 1) := by decide +kernel
theorem d_S_tryOne_19 : decode b_S_tryOne 19 = .ok (.getfield 54, 3) := by decide +kernel
theorem d_S_tryOne_22 : decode b_S_tryOne 22 = .ok (.iconst 1, 1) := by decide +kernel
theorem d_S_tryOne_23 : decode b_S_tryOne 23 = .ok (.iadd, 1) := by decide +kernel
theorem d_S_tryOne_24 : decode b_S_tryOne 24 = .ok (.putfield 54, 3) := by decide +kernel
theorem d_S_tryOne_27 : decode b_S_tryOne 27 = .ok (.aload_n 0, 1) := by decide +kernel
theorem d_S_tryOne_28 : decode b_S_tryOne 28 = .ok (.getfield 34, 3) := by decide +kernel
theorem d_S_tryOne_31 : decode b_S_tryOne 31 = .ok (.iload_n 1, 1) := by decide +kernel
theorem d_S_tryOne_32 : decode b_S_tryOne 32 = .ok (.iload_n 2, 1) := by decide +kernel
theorem d_S_tryOne_33 : decode b_S_tryOne 33 = .ok (.invokevirtual 100, 3) := by decide +kernel
theorem d_S_tryOne_36 : decode b_S_tryOne 36 = .ok (.iload_n 1, 1) := by decide +kernel
theorem d_S_tryOne_37 : decode b_S_tryOne 37 = .ok (.ifCond .le 14, 3) := by decide +kernel
theorem d_S_tryOne_40 : decode b_S_tryOne 40 = .ok (.aload_n 0, 1) := by decide +kernel
theorem d_S_tryOne_41 : decode b_S_tryOne 41 = .ok (.getfield 27, 3) := by decide +kernel
theorem d_S_tryOne_44 : decode b_S_tryOne 44 = .ok (.iload_n 1, 1) := by decide +kernel
theorem d_S_tryOne_45 : decode b_S_tryOne 45 = .ok (.iconst 1, 1) := by decide +kernel
theorem d_S_tryOne_46 : decode b_S_tryOne 46 = .ok (.isub, 1) := by decide +kernel
theorem d_S_tryOne_47 : decode b_S_tryOne 47 = .ok (.iaload, 1) := by decide +kernel
theorem d_S_tryOne_48 : decode b_S_tryOne 48 = .ok (.goto 4, 3) := by decide +kernel
theorem d_S_tryOne_51 : decode b_S_tryOne 51 = .ok (.iconst 0, 1) := by decide +kernel
theorem d_S_tryOne_52 : decode b_S_tryOne 52 = .ok (.invokestatic 104, 3) := by decide +kernel
theorem d_S_tryOne_55 : decode b_S_tryOne 55 = .ok (.istore 4, 2) := by decide +kernel
theorem d_S_tryOne_57 : decode b_S_tryOne 57 = .ok (.iload_n 1, 1) := by decide +kernel
theorem d_S_tryOne_58 : decode b_S_tryOne 58 = .ok (.ifCond .le 14, 3) := by decide +kernel
theorem d_S_tryOne_61 : decode b_S_tryOne 61 = .ok (.aload_n 0, 1) := by decide +kernel
theorem d_S_tryOne_62 : decode b_S_tryOne 62 = .ok (.getfield 31, 3) := by decide +kernel
theorem d_S_tryOne_65 : decode b_S_tryOne 65 = .ok (.iload_n 1, 1) := by decide +kernel
theorem d_S_tryOne_66 : decode b_S_tryOne 66 = .ok (.iconst 1, 1) := by decide +kernel
theorem d_S_tryOne_67 : decode b_S_tryOne 67 = .ok (.isub, 1) := by decide +kernel
theorem d_S_tryOne_68 : decode b_S_tryOne 68 = .ok (.iaload, 1) := by decide +kernel
theorem d_S_tryOne_69 : decode b_S_tryOne 69 = .ok (.goto 4, 3) := by decide +kernel
theorem d_S_tryOne_72 : decode b_S_tryOne 72 = .ok (.iconst 0, 1) := by decide +kernel
theorem d_S_tryOne_73 : decode b_S_tryOne 73 = .ok (.aload_n 0, 1) := by decide +kernel
theorem d_S_tryOne_74 : decode b_S_tryOne 74 = .ok (.iload_n 1, 1) := by decide +kernel
theorem d_S_tryOne_75 : decode b_S_tryOne 75 = .ok (.iload_n 2, 1) := by decide +kernel
theorem d_S_tryOne_76 : decode b_S_tryOne 76 = .ok (.iload_n 3, 1) := by decide +kernel
theorem d_S_tryOne_77 : decode b_S_tryOne 77 = .ok (.invokevirtual 109, 3) := by decide +kernel
theorem d_S_tryOne_80 : decode b_S_tryOne 80 = .ok (.ifCond .eq 7, 3) := by decide +kernel
theorem d_S_tryOne_83 : decode b_S_tryOne 83 = .ok (.iconst 1, 1) := by decide +kernel
theorem d_S_tryOne_84 : decode b_S_tryOne 84 = .ok (.goto 4, 3) := by decide +kernel
theorem d_S_tryOne_87 : decode b_S_tryOne 87 = .ok (.iconst 0, 1) := by decide +kernel
theorem d_S_tryOne_88 : decode b_S_tryOne 88 = .ok (.iadd, 1) := by decide +kernel
theorem d_S_tryOne_89 : decode b_S_tryOne 89 = .ok (.istore 5, 2) := by decide +kernel
theorem d_S_tryOne_91 : decode b_S_tryOne 91 = .ok (.aload_n 0, 1) := by decide +kernel
theorem d_S_tryOne_92 : decode b_S_tryOne 92 = .ok (.iload 4, 2) := by decide +kernel
theorem d_S_tryOne_94 : decode b_S_tryOne 94 = .ok (.iload 5, 2) := by decide +kernel
theorem d_S_tryOne_96 : decode b_S_tryOne 96 = .ok (.invokevirtual 113, 3) := by decide +kernel
theorem d_S_tryOne_99 : decode b_S_tryOne 99 = .ok (.ifCond .eq 13, 3) := by decide +kernel
theorem d_S_tryOne_102 : decode b_S_tryOne 102 = .ok (.aload_n 0, 1) := by decide +kernel
theorem d_S_tryOne_103 : decode b_S_tryOne 103 = .ok (.iload_n 1, 1) := by decide +kernel
theorem d_S_tryOne_104 : decode b_S_tryOne 104 = .ok (.iload_n 2, 1) := by decide +kernel
theorem d_S_tryOne_105 : decode b_S_tryOne 105 = .ok (.iload_n 3, 1) := by decide +kernel
theorem d_S_tryOne_106 : decode b_S_tryOne 106 = .ok (.invokevirtual 117, 3) := by decide +kernel
theorem d_S_tryOne_109 : decode b_S_tryOne 109 = .ok (.ifCond .ne 4, 3) := by decide +kernel
theorem d_S_tryOne_112 : decode b_S_tryOne 112 = .ok (.return_, 1) := by decide +kernel
theorem d_S_tryOne_113 : decode b_S_tryOne 113 = .ok (.aload_n 0, 1) := by decide +kernel
theorem d_S_tryOne_114 : decode b_S_tryOne 114 = .ok (.getfield 12, 3) := by decide +kernel
theorem d_S_tryOne_117 : decode b_S_tryOne 117 = .ok (.iload_n 1, 1) := by decide +kernel
theorem d_S_tryOne_118 : decode b_S_tryOne 118 = .ok (.iload_n 2, 1) := by decide +kernel
theorem d_S_tryOne_119 : decode b_S_tryOne 119 = .ok (.iload_n 3, 1) := by decide +kernel
theorem d_S_tryOne_120 : decode b_S_tryOne 120 = .ok (.invokevirtual 120, 3) := by decide +kernel
theorem d_S_tryOne_123 : decode b_S_tryOne 123 = .ok (.aload_n 0, 1) := by decide +kernel
theorem d_S_tryOne_124 : decode b_S_tryOne 124 = .ok (.getfield 27, 3) := by decide +kernel
theorem d_S_tryOne_127 : decode b_S_tryOne 127 = .ok (.iload_n 1, 1) := by decide +kernel
theorem d_S_tryOne_128 : decode b_S_tryOne 128 = .ok (.iload 4, 2) := by decide +kernel
theorem d_S_tryOne_130 : decode b_S_tryOne 130 = .ok (.iastore, 1) := by decide +kernel
theorem d_S_tryOne_131 : decode b_S_tryOne 131 = .ok (.aload_n 0, 1) := by decide +kernel
theorem d_S_tryOne_132 : decode b_S_tryOne 132 = .ok (.getfield 31, 3) := by decide +kernel
theorem d_S_tryOne_135 : decode b_S_tryOne 135 = .ok (.iload_n 1, 1) := by decide +kernel
theorem d_S_tryOne_136 : decode b_S_tryOne 136 = .ok (.iload 5, 2) := by decide +kernel
theorem d_S_tryOne_138 : decode b_S_tryOne 138 = .ok (.iastore, 1) := by decide +kernel
theorem d_S_tryOne_139 : decode b_S_tryOne 139 = .ok (.iload_n 1, 1) := by decide +kernel
theorem d_S_tryOne_140 : decode b_S_tryOne 140 = .ok (.aload_n 0, 1) := by decide +kernel
theorem d_S_tryOne_141 : decode b_S_tryOne 141 = .ok (.getfield 34, 3) := by decide +kernel
theorem d_S_tryOne_144 : decode b_S_tryOne 144 = .ok (.getfield 67, 3) := by decide +kernel
theorem d_S_tryOne_147 : decode b_S_tryOne 147 = .ok (.iconst 1, 1) := by decide +kernel
theorem d_S_tryOne_148 : decode b_S_tryOne 148 = .ok (.isub, 1) := by decide +kernel
theorem d_S_tryOne_149 : decode b_S_tryOne 149 = .ok (.if_icmp .ne 11, 3) := by decide +kernel
theorem d_S_tryOne_152 : decode b_S_tryOne 152 = .ok (.aload_n 0, 1) := by decide +kernel
theorem d_S_tryOne_153 : decode b_S_tryOne 153 = .ok (.iload_n 1, 1) := by decide +kernel
theorem d_S_tryOne_154 : decode b_S_tryOne 154 = .ok (.invokevirtual 123, 3) := by decide +kernel
theorem d_S_tryOne_157 : decode b_S_tryOne 157 = .ok (.goto 10, 3) := by decide +kernel
theorem d_S_tryOne_160 : decode b_S_tryOne 160 = .ok (.aload_n 0, 1) := by decide +kernel
theorem d_S_tryOne_161 : decode b_S_tryOne 161 = .ok (.iload_n 1, 1) := by decide +kernel
theorem d_S_tryOne_162 : decode b_S_tryOne 162 = .ok (.iconst 1, 1) := by decide +kernel
theorem d_S_tryOne_163 : decode b_S_tryOne 163 = .ok (.iadd, 1) := by decide +kernel
theorem d_S_tryOne_164 : decode b_S_tryOne 164 = .ok (.invokevirtual 63, 3) := by decide +kernel
theorem d_S_tryOne_167 : decode b_S_tryOne 167 = .ok (.return_, 1) := by decide +kernel
theorem d_S_isMove_0 : decode b_S_isMove 0 = .ok (.aload_n 0, 1) := by decide +kernel
theorem d_S_isMove_1 : decode b_S_isMove 1 = .ok (.getfield 46, 3) := by decide +kernel
theorem d_S_isMove_4 : decode b_S_isMove 4 = .ok (.ifCond .eq 20, 3) := by decide +kernel
theorem d_S_isMove_7 : decode b_S_isMove 7 = .ok (.aload_n 0, 1) := by decide +kernel
theorem d_S_isMove_8 : decode b_S_isMove 8 = .ok (.getfield 42, 3) := by decide +kernel
theorem d_S_isMove_11 : decode b_S_isMove 11 = .ok (.iload_n 1, 1) := by decide +kernel
theorem d_S_isMove_12 : decode b_S_isMove 12 = .ok (.iload_n 2, 1) := by decide +kernel
theorem d_S_isMove_13 : decode b_S_isMove 13 = .ok (.iload_n 3, 1) := by decide +kernel
theorem d_S_isMove_14 : decode b_S_isMove 14 = .ok (.invokevirtual 126, 3) := by decide +kernel
theorem d_S_isMove_17 : decode b_S_isMove 17 = .ok (.ifCond .eq 7, 3) := by decide +kernel
theorem d_S_isMove_20 : decode b_S_isMove 20 = .ok (.iconst 1, 1) := by decide +kernel
theorem d_S_isMove_21 : decode b_S_isMove 21 = .ok (.goto 4, 3) := by decide +kernel
theorem d_S_isMove_24 : decode b_S_isMove 24 = .ok (.iconst 0, 1) := by decide +kernel
theorem d_S_isMove_25 : decode b_S_isMove 25 = .ok (.ireturn, 1) := by decide +kernel
theorem d_S_isBetter_0 : decode b_S_isBetter 0 = .ok (.aload_n 0, 1) := by decide +kernel
theorem d_S_isBetter_1 : decode b_S_isBetter 1 = .ok (.getfield 60, 3) := by decide +kernel
theorem d_S_isBetter_4 : decode b_S_isBetter 4 = .ok (.ifCond .eq 27, 3) := by decide +kernel
theorem d_S_isBetter_7 : decode b_S_isBetter 7 = .ok (.iload_n 2, 1) := by decide +kernel
theorem d_S_isBetter_8 : decode b_S_isBetter 8 = .ok (.aload_n 0, 1) := by decide +kernel
theorem d_S_isBetter_9 : decode b_S_isBetter 9 = .ok (.getfield 129, 3) := by decide +kernel
theorem d_S_isBetter_12 : decode b_S_isBetter 12 = .ok (.if_icmp .lt 19, 3) := by decide +kernel
theorem d_S_isBetter_15 : decode b_S_isBetter 15 = .ok (.iload_n 2, 1) := by decide +kernel
theorem d_S_isBetter_16 : decode b_S_isBetter 16 = .ok (.aload_n 0, 1) := by decide +kernel
theorem d_S_isBetter_17 : decode b_S_isBetter 17 = .ok (.getfield 129, 3) := by decide +kernel
theorem d_S_isBetter_20 : decode b_S_isBetter 20 = .ok (.if_icmp .ne 15, 3) := by decide +kernel
theorem d_S_isBetter_23 : decode b_S_isBetter 23 = .ok (.iload_n 1, 1) := by decide +kernel
theorem d_S_isBetter_24 : decode b_S_isBetter 24 = .ok (.aload_n 0, 1) := by decide +kernel
theorem d_S_isBetter_25 : decode b_S_isBetter 25 = .ok (.getfield 132, 3) := by decide +kernel
theorem d_S_isBetter_28 : decode b_S_isBetter 28 = .ok (.if_icmp .ge 7, 3) := by decide +kernel
theorem d_S_isBetter_31 : decode b_S_isBetter 31 = .ok (.iconst 1, 1) := by decide +kernel
theorem d_S_isBetter_32 : decode b_S_isBetter 32 = .ok (.goto 4, 3) := by decide +kernel
theorem d_S_isBetter_35 : decode b_S_isBetter 35 = .ok (.iconst 0, 1) := by decide +kernel
theorem d_S_isBetter_36 : decode b_S_isBetter 36 = .ok (.ireturn, 1) := by decide +kernel
theorem d_S_keepsRules_0 : decode b_S_keepsRules 0 = .ok (.aload_n 0, 1) := by decide +kernel
theorem d_S_keepsRules_1 : decode b_S_keepsRules 1 = .ok (.getfield 34, 3) := by decide +kernel
theorem d_S_keepsRules_4 : decode b_S_keepsRules 4 = .ok (.getfield 135, 3) := by decide +kernel
theorem d_S_keepsRules_7 : decode b_S_keepsRules 7 = .ok (.iload_n 2, 1) := by decide +kernel
theorem d_S_keepsRules_8 : decode b_S_keepsRules 8 = .ok (.invokevirtual 139, 3) := by decide +kernel
theorem d_S_keepsRules_11 : decode b_S_keepsRules 11 = .ok (.ifCond .eq 51, 3) := by decide +kernel
theorem d_S_keepsRules_14 : decode b_S_keepsRules 14 = .ok (.aload_n 0, 1) := by decide +kernel
theorem d_S_keepsRules_15 : decode b_S_keepsRules 15 = .ok (.getfield 23, 3) := by decide +kernel
theorem d_S_keepsRules_18 : decode b_S_keepsRules 18 = .ok (.iload_n 1, 1) := by decide +kernel
theorem d_S_keepsRules_19 : decode b_S_keepsRules 19 = .ok (.iconst 2, 1) := by decide +kernel
theorem d_S_keepsRules_20 : decode b_S_keepsRules 20 = .ok (.imul, 1) := by decide +kernel
theorem d_S_keepsRules_21 : decode b_S_keepsRules 21 = .ok (.iload_n 3, 1) := by decide +kernel
theorem d_S_keepsRules_22 : decode b_S_keepsRules 22 = .ok (.iadd, 1) := by decide +kernel
theorem d_S_keepsRules_23 : decode b_S_keepsRules 23 = .ok (.aaload, 1) := by decide +kernel
theorem d_S_keepsRules_24 : decode b_S_keepsRules 24 = .ok (.aload_n 0, 1) := by decide +kernel
theorem d_S_keepsRules_25 : decode b_S_keepsRules 25 = .ok (.getfield 34, 3) := by decide +kernel
theorem d_S_keepsRules_28 : decode b_S_keepsRules 28 = .ok (.getfield 135, 3) := by decide +kernel
theorem d_S_keepsRules_31 : decode b_S_keepsRules 31 = .ok (.iload_n 2, 1) := by decide +kernel
theorem d_S_keepsRules_32 : decode b_S_keepsRules 32 = .ok (.invokevirtual 145, 3) := by decide +kernel
theorem d_S_keepsRules_35 : decode b_S_keepsRules 35 = .ok (.invokevirtual 149, 3) := by decide +kernel
theorem d_S_keepsRules_38 : decode b_S_keepsRules 38 = .ok (.ifCond .eq 24, 3) := by decide +kernel
theorem d_S_keepsRules_41 : decode b_S_keepsRules 41 = .ok (.aload_n 0, 1) := by decide +kernel
theorem d_S_keepsRules_42 : decode b_S_keepsRules 42 = .ok (.getfield 38, 3) := by decide +kernel
theorem d_S_keepsRules_45 : decode b_S_keepsRules 45 = .ok (.aload_n 0, 1) := by decide +kernel
theorem d_S_keepsRules_46 : decode b_S_keepsRules 46 = .ok (.getfield 12, 3) := by decide +kernel
theorem d_S_keepsRules_49 : decode b_S_keepsRules 49 = .ok (.iload_n 1, 1) := by decide +kernel
theorem d_S_keepsRules_50 : decode b_S_keepsRules 50 = .ok (.iload_n 2, 1) := by decide +kernel
theorem d_S_keepsRules_51 : decode b_S_keepsRules 51 = .ok (.iload_n 1, 1) := by decide +kernel
theorem d_S_keepsRules_52 : decode b_S_keepsRules 52 = .ok (.invokevirtual 152, 3) := by decide +kernel
theorem d_S_keepsRules_55 : decode b_S_keepsRules 55 = .ok (.ifCond .eq 7, 3) := by decide +kernel
theorem d_S_keepsRules_58 : decode b_S_keepsRules 58 = .ok (.iconst 1, 1) := by decide +kernel
theorem d_S_keepsRules_59 : decode b_S_keepsRules 59 = .ok (.goto 4, 3) := by decide +kernel
theorem d_S_keepsRules_62 : decode b_S_keepsRules 62 = .ok (.iconst 0, 1) := by decide +kernel
theorem d_S_keepsRules_63 : decode b_S_keepsRules 63 = .ok (.ireturn, 1) := by decide +kernel
theorem d_S_keepAsBest_0 : decode b_S_keepAsBest 0 = .ok (.aload_n 0, 1) := by decide +kernel
theorem d_S_keepAsBest_1 : decode b_S_keepAsBest 1 = .ok (.iconst 1, 1) := by decide +kernel
theorem d_S_keepAsBest_2 : decode b_S_keepAsBest 2 = .ok (.putfield 60, 3) := by decide +kernel
theorem d_S_keepAsBest_5 : decode b_S_keepAsBest 5 = .ok (.aload_n 0, 1) := by decide +kernel
theorem d_S_keepAsBest_6 : decode b_S_keepAsBest 6 = .ok (.aload_n 0, 1) := by decide +kernel
theorem d_S_keepAsBest_7 : decode b_S_keepAsBest 7 = .ok (.getfield 27, 3) := by decide +kernel
theorem d_S_keepAsBest_10 : decode b_S_keepAsBest 10 = .ok (.iload_n 1, 1) := by decide +kernel
theorem d_S_keepAsBest_11 : decode b_S_keepAsBest 11 = .ok (.iaload, 1) := by decide +kernel
theorem d_S_keepAsBest_12 : decode b_S_keepAsBest 12 = .ok (.putfield 132, 3) := by decide +kernel
theorem d_S_keepAsBest_15 : decode b_S_keepAsBest 15 = .ok (.aload_n 0, 1) := by decide +kernel
theorem d_S_keepAsBest_16 : decode b_S_keepAsBest 16 = .ok (.aload_n 0, 1) := by decide +kernel
theorem d_S_keepAsBest_17 : decode b_S_keepAsBest 17 = .ok (.getfield 31, 3) := by decide +kernel
theorem d_S_keepAsBest_20 : decode b_S_keepAsBest 20 = .ok (.iload_n 1, 1) := by decide +kernel
theorem d_S_keepAsBest_21 : decode b_S_keepAsBest 21 = .ok (.iaload, 1) := by decide +kernel
theorem d_S_keepAsBest_22 : decode b_S_keepAsBest 22 = .ok (.putfield 129, 3) := by decide +kernel
theorem d_S_keepAsBest_25 : decode b_S_keepAsBest 25 = .ok (.iconst 0, 1) := by decide +kernel
theorem d_S_keepAsBest_26 : decode b_S_keepAsBest 26 = .ok (.istore_n 2, 1) := by decide +kernel
theorem d_S_keepAsBest_27 : decode b_S_keepAsBest 27 = .ok (.iload_n 2, 1) := by decide +kernel
theorem d_S_keepAsBest_28 : decode b_S_keepAsBest 28 = .ok (.iload_n 1, 1) := by decide +kernel
theorem d_S_keepAsBest_29 : decode b_S_keepAsBest 29 = .ok (.if_icmp .gt 35, 3) := by decide +kernel
theorem d_S_keepAsBest_32 : decode b_S_keepAsBest 32 = .ok (.aload_n 0, 1) := by decide +kernel
theorem d_S_keepAsBest_33 : decode b_S_keepAsBest 33 = .ok (.getfield 18, 3) := by decide +kernel
theorem d_S_keepAsBest_36 : decode b_S_keepAsBest 36 = .ok (.iload_n 2, 1) := by decide +kernel
theorem d_S_keepAsBest_37 : decode b_S_keepAsBest 37 = .ok (.aload_n 0, 1) := by decide +kernel
theorem d_S_keepAsBest_38 : decode b_S_keepAsBest 38 = .ok (.getfield 12, 3) := by decide +kernel
theorem d_S_keepAsBest_41 : decode b_S_keepAsBest 41 = .ok (.getfield 81, 3) := by decide +kernel
theorem d_S_keepAsBest_44 : decode b_S_keepAsBest 44 = .ok (.iload_n 2, 1) := by decide +kernel
theorem d_S_keepAsBest_45 : decode b_S_keepAsBest 45 = .ok (.iaload, 1) := by decide +kernel
theorem d_S_keepAsBest_46 : decode b_S_keepAsBest 46 = .ok (.aload_n 0, 1) := by decide +kernel
theorem d_S_keepAsBest_47 : decode b_S_keepAsBest 47 = .ok (.getfield 12, 3) := by decide +kernel
theorem d_S_keepAsBest_50 : decode b_S_keepAsBest 50 = .ok (.getfield 84, 3) := by decide +kernel
theorem d_S_keepAsBest_53 : decode b_S_keepAsBest 53 = .ok (.iload_n 2, 1) := by decide +kernel
theorem d_S_keepAsBest_54 : decode b_S_keepAsBest 54 = .ok (.iaload, 1) := by decide +kernel
theorem d_S_keepAsBest_55 : decode b_S_keepAsBest 55 = .ok (.invokevirtual 120, 3) := by decide +kernel
theorem d_S_keepAsBest_58 : decode b_S_keepAsBest 58 = .ok (.iinc 2 1, 3) := by decide +kernel
theorem d_S_keepAsBest_61 : decode b_S_keepAsBest 61 = .ok (.goto (-34), 3) := by decide +kernel
theorem d_S_keepAsBest_64 : decode b_S_keepAsBest 64 = .ok (.return_, 1) := by decide +kernel
theorem d_H_init_0 : decode b_H_init 0 = .ok (.aload_n 0, 1) := by decide +kernel
theorem d_H_init_1 : decode b_H_init 1 = .ok (.invokespecial 3, 3) := by decide +kernel
theorem d_H_init_4 : decode b_H_init 4 = .ok (.aload_n 0, 1) := by decide +kernel
theorem d_H_init_5 : decode b_H_init 5 = .ok (.bipush 6, 2) := by decide +kernel
theorem d_H_init_7 : decode b_H_init 7 = .ok (.newarray .int, 2) := by decide +kernel
theorem d_H_init_9 : decode b_H_init 9 = .ok (.putfield 9, 3) := by decide +kernel
theorem d_H_init_12 : decode b_H_init 12 = .ok (.aload_n 0, 1) := by decide +kernel
theorem d_H_init_13 : decode b_H_init 13 = .ok (.aload_n 1, 1) := by decide +kernel
theorem d_H_init_14 : decode b_H_init 14 = .ok (.putfield 15, 3) := by decide +kernel
theorem d_H_init_17 : decode b_H_init 17 = .ok (.aload_n 0, 1) := by decide +kernel
theorem d_H_init_18 : decode b_H_init 18 = .ok (.aload_n 2, 1) := by decide +kernel
theorem d_H_init_19 : decode b_H_init 19 = .ok (.putfield 19, 3) := by decide +kernel
theorem d_H_init_22 : decode b_H_init 22 = .ok (.return_, 1) := by decide +kernel
theorem d_H_begin_0 : decode b_H_begin 0 = .ok (.aload_n 0, 1) := by decide +kernel
theorem d_H_begin_1 : decode b_H_begin 1 = .ok (.iload_n 1, 1) := by decide +kernel
theorem d_H_begin_2 : decode b_H_begin 2 = .ok (.putfield 23, 3) := by decide +kernel
theorem d_H_begin_5 : decode b_H_begin 5 = .ok (.return_, 1) := by decide +kernel
theorem d_H_drawEnd_0 : decode b_H_drawEnd 0 = .ok (.iconst 0, 1) := by decide +kernel
theorem d_H_drawEnd_1 : decode b_H_drawEnd 1 = .ok (.istore_n 2, 1) := by decide +kernel
theorem d_H_drawEnd_2 : decode b_H_drawEnd 2 = .ok (.iload_n 2, 1) := by decide +kernel
theorem d_H_drawEnd_3 : decode b_H_drawEnd 3 = .ok (.aload_n 0, 1) := by decide +kernel
theorem d_H_drawEnd_4 : decode b_H_drawEnd 4 = .ok (.getfield 15, 3) := by decide +kernel
theorem d_H_drawEnd_7 : decode b_H_drawEnd 7 = .ok (.getfield 27, 3) := by decide +kernel
theorem d_H_drawEnd_10 : decode b_H_drawEnd 10 = .ok (.if_icmp .ge 27, 3) := by decide +kernel
theorem d_H_drawEnd_13 : decode b_H_drawEnd 13 = .ok (.aload_n 0, 1) := by decide +kernel
theorem d_H_drawEnd_14 : decode b_H_drawEnd 14 = .ok (.getfield 9, 3) := by decide +kernel
theorem d_H_drawEnd_17 : decode b_H_drawEnd 17 = .ok (.iload_n 2, 1) := by decide +kernel
theorem d_H_drawEnd_18 : decode b_H_drawEnd 18 = .ok (.aload_n 0, 1) := by decide +kernel
theorem d_H_drawEnd_19 : decode b_H_drawEnd 19 = .ok (.getfield 15, 3) := by decide +kernel
theorem d_H_drawEnd_22 : decode b_H_drawEnd 22 = .ok (.getfield 32, 3) := by decide +kernel
theorem d_H_drawEnd_25 : decode b_H_drawEnd 25 = .ok (.iload_n 2, 1) := by decide +kernel
theorem d_H_drawEnd_26 : decode b_H_drawEnd 26 = .ok (.aaload, 1) := by decide +kernel
theorem d_H_drawEnd_27 : decode b_H_drawEnd 27 = .ok (.getfield 36, 3) := by decide +kernel
theorem d_H_drawEnd_30 : decode b_H_drawEnd 30 = .ok (.iastore, 1) := by decide +kernel
theorem d_H_drawEnd_31 : decode b_H_drawEnd 31 = .ok (.iinc 2 1, 3) := by decide +kernel
theorem d_H_drawEnd_34 : decode b_H_drawEnd 34 = .ok (.goto (-32), 3) := by decide +kernel
theorem d_H_drawEnd_37 : decode b_H_drawEnd 37 = .ok (.iconst 0, 1) := by decide +kernel
theorem d_H_drawEnd_38 : decode b_H_drawEnd 38 = .ok (.istore_n 2, 1) := by decide +kernel
theorem d_H_drawEnd_39 : decode b_H_drawEnd 39 = .ok (.iconst 0, 1) := by decide +kernel
theorem d_H_drawEnd_40 : decode b_H_drawEnd 40 = .ok (.istore_n 3, 1) := by decide +kernel
theorem d_H_drawEnd_41 : decode b_H_drawEnd 41 = .ok (.iload_n 3, 1) := by decide +kernel
theorem d_H_drawEnd_42 : decode b_H_drawEnd 42 = .ok (.sipush 400, 3) := by decide +kernel
theorem d_H_drawEnd_45 : decode b_H_drawEnd 45 = .ok (.if_icmp .ge 47, 3) := by decide +kernel
theorem d_H_drawEnd_48 : decode b_H_drawEnd 48 = .ok (.aload_n 0, 1) := by decide +kernel
theorem d_H_drawEnd_49 : decode b_H_drawEnd 49 = .ok (.iload_n 1, 1) := by decide +kernel
theorem d_H_drawEnd_50 : decode b_H_drawEnd 50 = .ok (.invokevirtual 41, 3) := by decide +kernel
theorem d_H_drawEnd_53 : decode b_H_drawEnd 53 = .ok (.istore 4, 2) := by decide +kernel
theorem d_H_drawEnd_55 : decode b_H_drawEnd 55 = .ok (.iload 4, 2) := by decide +kernel
theorem d_H_drawEnd_57 : decode b_H_drawEnd 57 = .ok (.ifCond .ne 29, 3) := by decide +kernel
theorem d_H_drawEnd_60 : decode b_H_drawEnd 60 = .ok (.aload_n 0, 1) := by decide +kernel
theorem d_H_drawEnd_61 : decode b_H_drawEnd 61 = .ok (.getfield 15, 3) := by decide +kernel
theorem d_H_drawEnd_64 : decode b_H_drawEnd 64 = .ok (.getfield 45, 3) := by decide +kernel
theorem d_H_drawEnd_67 : decode b_H_drawEnd 67 = .ok (.iload_n 3, 1) := by decide +kernel
theorem d_H_drawEnd_68 : decode b_H_drawEnd 68 = .ok (.invokevirtual 49, 3) := by decide +kernel
theorem d_H_drawEnd_71 : decode b_H_drawEnd 71 = .ok (.ifCond .eq 15, 3) := by decide +kernel
theorem d_H_drawEnd_74 : decode b_H_drawEnd 74 = .ok (.aload_n 0, 1) := by decide +kernel
theorem d_H_drawEnd_75 : decode b_H_drawEnd 75 = .ok (.iload_n 3, 1) := by decide +kernel
theorem d_H_drawEnd_76 : decode b_H_drawEnd 76 = .ok (.invokevirtual 54, 3) := by decide +kernel
theorem d_H_drawEnd_79 : decode b_H_drawEnd 79 = .ok (.ifCond .eq 7, 3) := by decide +kernel
theorem d_H_drawEnd_82 : decode b_H_drawEnd 82 = .ok (.iload_n 3, 1) := by decide +kernel
theorem d_H_drawEnd_83 : decode b_H_drawEnd 83 = .ok (.iconst 1, 1) := by decide +kernel
theorem d_H_drawEnd_84 : decode b_H_drawEnd 84 = .ok (.iadd, 1) := by decide +kernel
theorem d_H_drawEnd_85 : decode b_H_drawEnd 85 = .ok (.istore_n 2, 1) := by decide +kernel
theorem d_H_drawEnd_86 : decode b_H_drawEnd 86 = .ok (.iinc 3 1, 3) := by decide +kernel
theorem d_H_drawEnd_89 : decode b_H_drawEnd 89 = .ok (.goto (-48), 3) := by decide +kernel
theorem d_H_drawEnd_92 : decode b_H_drawEnd 92 = .ok (.iconst 0, 1) := by decide +kernel
theorem d_H_drawEnd_93 : decode b_H_drawEnd 93 = .ok (.istore_n 3, 1) := by decide +kernel
theorem d_H_drawEnd_94 : decode b_H_drawEnd 94 = .ok (.iload_n 3, 1) := by decide +kernel
theorem d_H_drawEnd_95 : decode b_H_drawEnd 95 = .ok (.aload_n 0, 1) := by decide +kernel
theorem d_H_drawEnd_96 : decode b_H_drawEnd 96 = .ok (.getfield 15, 3) := by decide +kernel
theorem d_H_drawEnd_99 : decode b_H_drawEnd 99 = .ok (.getfield 27, 3) := by decide +kernel
theorem d_H_drawEnd_102 : decode b_H_drawEnd 102 = .ok (.if_icmp .ge 33, 3) := by decide +kernel
theorem d_H_drawEnd_105 : decode b_H_drawEnd 105 = .ok (.aload_n 0, 1) := by decide +kernel
theorem d_H_drawEnd_106 : decode b_H_drawEnd 106 = .ok (.getfield 9, 3) := by decide +kernel
theorem d_H_drawEnd_109 : decode b_H_drawEnd 109 = .ok (.iload_n 3, 1) := by decide +kernel
theorem d_H_drawEnd_110 : decode b_H_drawEnd 110 = .ok (.iaload, 1) := by decide +kernel
theorem d_H_drawEnd_111 : decode b_H_drawEnd 111 = .ok (.ifCond .le 18, 3) := by decide +kernel
theorem d_H_drawEnd_114 : decode b_H_drawEnd 114 = .ok (.iload_n 2, 1) := by decide +kernel
theorem d_H_drawEnd_115 : decode b_H_drawEnd 115 = .ok (.sipush 400, 3) := by decide +kernel
theorem d_H_drawEnd_118 : decode b_H_drawEnd 118 = .ok (.aload_n 0, 1) := by decide +kernel
theorem d_H_drawEnd_119 : decode b_H_drawEnd 119 = .ok (.getfield 9, 3) := by decide +kernel
theorem d_H_drawEnd_122 : decode b_H_drawEnd 122 = .ok (.iload_n 3, 1) := by decide +kernel
theorem d_H_drawEnd_123 : decode b_H_drawEnd 123 = .ok (.iaload, 1) := by decide +kernel
theorem d_H_drawEnd_124 : decode b_H_drawEnd 124 = .ok (.iadd, 1) := by decide +kernel
theorem d_H_drawEnd_125 : decode b_H_drawEnd 125 = .ok (.invokestatic 57, 3) := by decide +kernel
theorem d_H_drawEnd_128 : decode b_H_drawEnd 128 = .ok (.istore_n 2, 1) := by decide +kernel
theorem d_H_drawEnd_129 : decode b_H_drawEnd 129 = .ok (.iinc 3 1, 3) := by decide +kernel
theorem d_H_drawEnd_132 : decode b_H_drawEnd 132 = .ok (.goto (-38), 3) := by decide +kernel
theorem d_H_drawEnd_135 : decode b_H_drawEnd 135 = .ok (.iload_n 2, 1) := by decide +kernel
theorem d_H_drawEnd_136 : decode b_H_drawEnd 136 = .ok (.ireturn, 1) := by decide +kernel
theorem d_H_drawWet_0 : decode b_H_drawWet 0 = .ok (.aload_n 0, 1) := by decide +kernel
theorem d_H_drawWet_1 : decode b_H_drawWet 1 = .ok (.aload_n 0, 1) := by decide +kernel
theorem d_H_drawWet_2 : decode b_H_drawWet 2 = .ok (.getfield 23, 3) := by decide +kernel
theorem d_H_drawWet_5 : decode b_H_drawWet 5 = .ok (.ldc 63, 2) := by decide +kernel
theorem d_H_drawWet_7 : decode b_H_drawWet 7 = .ok (.imul, 1) := by decide +kernel
theorem d_H_drawWet_8 : decode b_H_drawWet 8 = .ok (.sipush 12345, 3) := by decide +kernel
theorem d_H_drawWet_11 : decode b_H_drawWet 11 = .ok (.iadd, 1) := by decide +kernel
theorem d_H_drawWet_12 : decode b_H_drawWet 12 = .ok (.ldc 64, 2) := by decide +kernel
theorem d_H_drawWet_14 : decode b_H_drawWet 14 = .ok (.iand, 1) := by decide +kernel
theorem d_H_drawWet_15 : decode b_H_drawWet 15 = .ok (.putfield 23, 3) := by decide +kernel
theorem d_H_drawWet_18 : decode b_H_drawWet 18 = .ok (.aload_n 0, 1) := by decide +kernel
theorem d_H_drawWet_19 : decode b_H_drawWet 19 = .ok (.getfield 23, 3) := by decide +kernel
theorem d_H_drawWet_22 : decode b_H_drawWet 22 = .ok (.ldc 65, 2) := by decide +kernel
theorem d_H_drawWet_24 : decode b_H_drawWet 24 = .ok (.idiv, 1) := by decide +kernel
theorem d_H_drawWet_25 : decode b_H_drawWet 25 = .ok (.bipush 100, 2) := by decide +kernel
theorem d_H_drawWet_27 : decode b_H_drawWet 27 = .ok (.irem, 1) := by decide +kernel
theorem d_H_drawWet_28 : decode b_H_drawWet 28 = .ok (.iload_n 1, 1) := by decide +kernel
theorem d_H_drawWet_29 : decode b_H_drawWet 29 = .ok (.if_icmp .ge 7, 3) := by decide +kernel
theorem d_H_drawWet_32 : decode b_H_drawWet 32 = .ok (.iconst 1, 1) := by decide +kernel
theorem d_H_drawWet_33 : decode b_H_drawWet 33 = .ok (.goto 4, 3) := by decide +kernel
theorem d_H_drawWet_36 : decode b_H_drawWet 36 = .ok (.iconst 0, 1) := by decide +kernel
theorem d_H_drawWet_37 : decode b_H_drawWet 37 = .ok (.ireturn, 1) := by decide +kernel
theorem d_H_goOn_0 : decode b_H_goOn 0 = .ok (.iconst 0, 1) := by decide +kernel
theorem d_H_goOn_1 : decode b_H_goOn 1 = .ok (.istore_n 2, 1) := by decide +kernel
theorem d_H_goOn_2 : decode b_H_goOn 2 = .ok (.iconst 0, 1) := by decide +kernel
theorem d_H_goOn_3 : decode b_H_goOn 3 = .ok (.istore_n 3, 1) := by decide +kernel
theorem d_H_goOn_4 : decode b_H_goOn 4 = .ok (.iload_n 3, 1) := by decide +kernel
theorem d_H_goOn_5 : decode b_H_goOn 5 = .ok (.aload_n 0, 1) := by decide +kernel
theorem d_H_goOn_6 : decode b_H_goOn 6 = .ok (.getfield 15, 3) := by decide +kernel
theorem d_H_goOn_9 : decode b_H_goOn 9 = .ok (.getfield 27, 3) := by decide +kernel
theorem d_H_goOn_12 : decode b_H_goOn 12 = .ok (.if_icmp .ge 43, 3) := by decide +kernel
theorem d_H_goOn_15 : decode b_H_goOn 15 = .ok (.aload_n 0, 1) := by decide +kernel
theorem d_H_goOn_16 : decode b_H_goOn 16 = .ok (.getfield 9, 3) := by decide +kernel
theorem d_H_goOn_19 : decode b_H_goOn 19 = .ok (.iload_n 3, 1) := by decide +kernel
theorem d_H_goOn_20 : decode b_H_goOn 20 = .ok (.iaload, 1) := by decide +kernel
theorem d_H_goOn_21 : decode b_H_goOn 21 = .ok (.ifCond .le 28, 3) := by decide +kernel
theorem d_H_goOn_24 : decode b_H_goOn 24 = .ok (.aload_n 0, 1) := by decide +kernel
theorem d_H_goOn_25 : decode b_H_goOn 25 = .ok (.getfield 19, 3) := by decide +kernel
theorem d_H_goOn_28 : decode b_H_goOn 28 = .ok (.getfield 66, 3) := by decide +kernel
theorem d_H_goOn_31 : decode b_H_goOn 31 = .ok (.iload_n 3, 1) := by decide +kernel
theorem d_H_goOn_32 : decode b_H_goOn 32 = .ok (.iaload, 1) := by decide +kernel
theorem d_H_goOn_33 : decode b_H_goOn 33 = .ok (.iload_n 1, 1) := by decide +kernel
theorem d_H_goOn_34 : decode b_H_goOn 34 = .ok (.if_icmp .gt 15, 3) := by decide +kernel
theorem d_H_goOn_37 : decode b_H_goOn 37 = .ok (.aload_n 0, 1) := by decide +kernel
theorem d_H_goOn_38 : decode b_H_goOn 38 = .ok (.getfield 9, 3) := by decide +kernel
theorem d_H_goOn_41 : decode b_H_goOn 41 = .ok (.iload_n 3, 1) := by decide +kernel
theorem d_H_goOn_42 : decode b_H_goOn 42 = .ok (.dup2, 1) := by decide +kernel
theorem d_H_goOn_43 : decode b_H_goOn 43 = .ok (.iaload, 1) := by decide +kernel
theorem d_H_goOn_44 : decode b_H_goOn 44 = .ok (.iconst 1, 1) := by decide +kernel
theorem d_H_goOn_45 : decode b_H_goOn 45 = .ok (.isub, 1) := by decide +kernel
theorem d_H_goOn_46 : decode b_H_goOn 46 = .ok (.iastore, 1) := by decide +kernel
theorem d_H_goOn_47 : decode b_H_goOn 47 = .ok (.iconst 1, 1) := by decide +kernel
theorem d_H_goOn_48 : decode b_H_goOn 48 = .ok (.istore_n 2, 1) := by decide +kernel
theorem d_H_goOn_49 : decode b_H_goOn 49 = .ok (.iinc 3 1, 3) := by decide +kernel
theorem d_H_goOn_52 : decode b_H_goOn 52 = .ok (.goto (-48), 3) := by decide +kernel
theorem d_H_goOn_55 : decode b_H_goOn 55 = .ok (.iload_n 2, 1) := by decide +kernel
theorem d_H_goOn_56 : decode b_H_goOn 56 = .ok (.ireturn, 1) := by decide +kernel
theorem d_W_init_0 : decode b_W_init 0 = .ok (.aload_n 0, 1) := by decide +kernel
theorem d_W_init_1 : decode b_W_init 1 = .ok (.invokespecial 1, 3) := by decide +kernel
theorem d_W_init_4 : decode b_W_init 4 = .ok (.return_, 1) := by decide +kernel
theorem d_W_set_0 : decode b_W_set 0 = .ok (.aload_n 0, 1) := by decide +kernel
theorem d_W_set_1 : decode b_W_set 1 = .ok (.iload_n 1, 1) := by decide +kernel
theorem d_W_set_2 : decode b_W_set 2 = .ok (.putfield 7, 3) := by decide +kernel
theorem d_W_set_5 : decode b_W_set 5 = .ok (.aload_n 0, 1) := by decide +kernel
theorem d_W_set_6 : decode b_W_set 6 = .ok (.iload_n 2, 1) := by decide +kernel
theorem d_W_set_7 : decode b_W_set 7 = .ok (.putfield 13, 3) := by decide +kernel
theorem d_W_set_10 : decode b_W_set 10 = .ok (.return_, 1) := by decide +kernel
theorem d_W_raiseLeast_0 : decode b_W_raiseLeast 0 = .ok (.aload_n 0, 1) := by decide +kernel
theorem d_W_raiseLeast_1 : decode b_W_raiseLeast 1 = .ok (.aload_n 0, 1) := by decide +kernel
theorem d_W_raiseLeast_2 : decode b_W_raiseLeast 2 = .ok (.getfield 7, 3) := by decide +kernel
theorem d_W_raiseLeast_5 : decode b_W_raiseLeast 5 = .ok (.iload_n 1, 1) := by decide +kernel
theorem d_W_raiseLeast_6 : decode b_W_raiseLeast 6 = .ok (.invokestatic 16, 3) := by decide +kernel
theorem d_W_raiseLeast_9 : decode b_W_raiseLeast 9 = .ok (.putfield 7, 3) := by decide +kernel
theorem d_W_raiseLeast_12 : decode b_W_raiseLeast 12 = .ok (.return_, 1) := by decide +kernel
theorem d_W_lowerGreatest_0 : decode b_W_lowerGreatest 0 = .ok (.aload_n 0, 1) := by decide +kernel
theorem d_W_lowerGreatest_1 : decode b_W_lowerGreatest 1 = .ok (.aload_n 0, 1) := by decide +kernel
theorem d_W_lowerGreatest_2 : decode b_W_lowerGreatest 2 = .ok (.getfield 13, 3) := by decide +kernel
theorem d_W_lowerGreatest_5 : decode b_W_lowerGreatest 5 = .ok (.iload_n 1, 1) := by decide +kernel
theorem d_W_lowerGreatest_6 : decode b_W_lowerGreatest 6 = .ok (.invokestatic 22, 3) := by decide +kernel
theorem d_W_lowerGreatest_9 : decode b_W_lowerGreatest 9 = .ok (.putfield 13, 3) := by decide +kernel
theorem d_W_lowerGreatest_12 : decode b_W_lowerGreatest 12 = .ok (.return_, 1) := by decide +kernel
theorem d_W_holds_0 : decode b_W_holds 0 = .ok (.aload_n 0, 1) := by decide +kernel
theorem d_W_holds_1 : decode b_W_holds 1 = .ok (.getfield 7, 3) := by decide +kernel
theorem d_W_holds_4 : decode b_W_holds 4 = .ok (.iload_n 1, 1) := by decide +kernel
theorem d_W_holds_5 : decode b_W_holds 5 = .ok (.if_icmp .gt 15, 3) := by decide +kernel
theorem d_W_holds_8 : decode b_W_holds 8 = .ok (.iload_n 1, 1) := by decide +kernel
theorem d_W_holds_9 : decode b_W_holds 9 = .ok (.aload_n 0, 1) := by decide +kernel
theorem d_W_holds_10 : decode b_W_holds 10 = .ok (.getfield 13, 3) := by decide +kernel
theorem d_W_holds_13 : decode b_W_holds 13 = .ok (.if_icmp .gt 7, 3) := by decide +kernel
theorem d_W_holds_16 : decode b_W_holds 16 = .ok (.iconst 1, 1) := by decide +kernel
theorem d_W_holds_17 : decode b_W_holds 17 = .ok (.goto 4, 3) := by decide +kernel
theorem d_W_holds_20 : decode b_W_holds 20 = .ok (.iconst 0, 1) := by decide +kernel
theorem d_W_holds_21 : decode b_W_holds 21 = .ok (.ireturn, 1) := by decide +kernel
theorem d_W_isEmpty_0 : decode b_W_isEmpty 0 = .ok (.aload_n 0, 1) := by decide +kernel
theorem d_W_isEmpty_1 : decode b_W_isEmpty 1 = .ok (.getfield 7, 3) := by decide +kernel
theorem d_W_isEmpty_4 : decode b_W_isEmpty 4 = .ok (.aload_n 0, 1) := by decide +kernel
theorem d_W_isEmpty_5 : decode b_W_isEmpty 5 = .ok (.getfield 13, 3) := by decide +kernel
theorem d_W_isEmpty_8 : decode b_W_isEmpty 8 = .ok (.if_icmp .le 7, 3) := by decide +kernel
theorem d_W_isEmpty_11 : decode b_W_isEmpty 11 = .ok (.iconst 1, 1) := by decide +kernel
theorem d_W_isEmpty_12 : decode b_W_isEmpty 12 = .ok (.goto 4, 3) := by decide +kernel
theorem d_W_isEmpty_15 : decode b_W_isEmpty 15 = .ok (.iconst 0, 1) := by decide +kernel
theorem d_W_isEmpty_16 : decode b_W_isEmpty 16 = .ok (.ireturn, 1) := by decide +kernel
theorem d_K_init_0 : decode b_K_init 0 = .ok (.aload_n 0, 1) := by decide +kernel
theorem d_K_init_1 : decode b_K_init 1 = .ok (.invokespecial 3, 3) := by decide +kernel
theorem d_K_init_4 : decode b_K_init 4 = .ok (.aload_n 0, 1) := by decide +kernel
theorem d_K_init_5 : decode b_K_init 5 = .ok (.iconst 1, 1) := by decide +kernel
theorem d_K_init_6 : decode b_K_init 6 = .ok (.putfield 9, 3) := by decide +kernel
theorem d_K_init_9 : decode b_K_init 9 = .ok (.aload_n 0, 1) := by decide +kernel
theorem d_K_init_10 : decode b_K_init 10 = .ok (.sipush 999, 3) := by decide +kernel
theorem d_K_init_13 : decode b_K_init 13 = .ok (.putfield 15, 3) := by decide +kernel
theorem d_K_init_16 : decode b_K_init 16 = .ok (.return_, 1) := by decide +kernel
theorem d_K_setSpeed_0 : decode b_K_setSpeed 0 = .ok (.aload_n 0, 1) := by decide +kernel
theorem d_K_setSpeed_1 : decode b_K_setSpeed 1 = .ok (.iconst 1, 1) := by decide +kernel
theorem d_K_setSpeed_2 : decode b_K_setSpeed 2 = .ok (.bipush 50, 2) := by decide +kernel
theorem d_K_setSpeed_4 : decode b_K_setSpeed 4 = .ok (.iload_n 1, 1) := by decide +kernel
theorem d_K_setSpeed_5 : decode b_K_setSpeed 5 = .ok (.invokestatic 18, 3) := by decide +kernel
theorem d_K_setSpeed_8 : decode b_K_setSpeed 8 = .ok (.invokestatic 24, 3) := by decide +kernel
theorem d_K_setSpeed_11 : decode b_K_setSpeed 11 = .ok (.putfield 9, 3) := by decide +kernel
theorem d_K_setSpeed_14 : decode b_K_setSpeed 14 = .ok (.aload_n 0, 1) := by decide +kernel
theorem d_K_setSpeed_15 : decode b_K_setSpeed 15 = .ok (.aload_n 0, 1) := by decide +kernel
theorem d_K_setSpeed_16 : decode b_K_setSpeed 16 = .ok (.getfield 9, 3) := by decide +kernel
theorem d_K_setSpeed_19 : decode b_K_setSpeed 19 = .ok (.iconst 1, 1) := by decide +kernel
theorem d_K_setSpeed_20 : decode b_K_setSpeed 20 = .ok (.if_icmp .ge 7, 3) := by decide +kernel
theorem d_K_setSpeed_23 : decode b_K_setSpeed 23 = .ok (.iconst 0, 1) := by decide +kernel
theorem d_K_setSpeed_24 : decode b_K_setSpeed 24 = .ok (.goto 24, 3) := by decide +kernel
theorem d_K_setSpeed_27 : decode b_K_setSpeed 27 = .ok (.aload_n 0, 1) := by decide +kernel
theorem d_K_setSpeed_28 : decode b_K_setSpeed 28 = .ok (.getfield 27, 3) := by decide +kernel
theorem d_K_setSpeed_31 : decode b_K_setSpeed 31 = .ok (.aload_n 0, 1) := by decide +kernel
theorem d_K_setSpeed_32 : decode b_K_setSpeed 32 = .ok (.getfield 30, 3) := by decide +kernel
theorem d_K_setSpeed_35 : decode b_K_setSpeed 35 = .ok (.isub, 1) := by decide +kernel
theorem d_K_setSpeed_36 : decode b_K_setSpeed 36 = .ok (.aload_n 0, 1) := by decide +kernel
theorem d_K_setSpeed_37 : decode b_K_setSpeed 37 = .ok (.getfield 9, 3) := by decide +kernel
theorem d_K_setSpeed_40 : decode b_K_setSpeed 40 = .ok (.iadd, 1) := by decide +kernel
theorem d_K_setSpeed_41 : decode b_K_setSpeed 41 = .ok (.iconst 1, 1) := by decide +kernel
theorem d_K_setSpeed_42 : decode b_K_setSpeed 42 = .ok (.isub, 1) := by decide +kernel
theorem d_K_setSpeed_43 : decode b_K_setSpeed 43 = .ok (.aload_n 0, 1) := by decide +kernel
theorem d_K_setSpeed_44 : decode b_K_setSpeed 44 = .ok (.getfield 9, 3) := by decide +kernel
theorem d_K_setSpeed_47 : decode b_K_setSpeed 47 = .ok (.idiv, 1) := by decide +kernel
theorem d_K_setSpeed_48 : decode b_K_setSpeed 48 = .ok (.putfield 33, 3) := by decide +kernel
theorem d_K_setSpeed_51 : decode b_K_setSpeed 51 = .ok (.return_, 1) := by decide +kernel
theorem d_K_comesTo_0 : decode b_K_comesTo 0 = .ok (.aload_n 0, 1) := by decide +kernel
theorem d_K_comesTo_1 : decode b_K_comesTo 1 = .ok (.getfield 30, 3) := by decide +kernel
theorem d_K_comesTo_4 : decode b_K_comesTo 4 = .ok (.iload_n 1, 1) := by decide +kernel
theorem d_K_comesTo_5 : decode b_K_comesTo 5 = .ok (.if_icmp .gt 15, 3) := by decide +kernel
theorem d_K_comesTo_8 : decode b_K_comesTo 8 = .ok (.iload_n 1, 1) := by decide +kernel
theorem d_K_comesTo_9 : decode b_K_comesTo 9 = .ok (.aload_n 0, 1) := by decide +kernel
theorem d_K_comesTo_10 : decode b_K_comesTo 10 = .ok (.getfield 27, 3) := by decide +kernel
theorem d_K_comesTo_13 : decode b_K_comesTo 13 = .ok (.if_icmp .gt 7, 3) := by decide +kernel
theorem d_K_comesTo_16 : decode b_K_comesTo 16 = .ok (.iconst 1, 1) := by decide +kernel
theorem d_K_comesTo_17 : decode b_K_comesTo 17 = .ok (.goto 4, 3) := by decide +kernel
theorem d_K_comesTo_20 : decode b_K_comesTo 20 = .ok (.iconst 0, 1) := by decide +kernel
theorem d_K_comesTo_21 : decode b_K_comesTo 21 = .ok (.ireturn, 1) := by decide +kernel
theorem d_K_wayTo_0 : decode b_K_wayTo 0 = .ok (.iload_n 2, 1) := by decide +kernel
theorem d_K_wayTo_1 : decode b_K_wayTo 1 = .ok (.ifCond .ne 12, 3) := by decide +kernel
theorem d_K_wayTo_4 : decode b_K_wayTo 4 = .ok (.iload_n 1, 1) := by decide +kernel
theorem d_K_wayTo_5 : decode b_K_wayTo 5 = .ok (.aload_n 0, 1) := by decide +kernel
theorem d_K_wayTo_6 : decode b_K_wayTo 6 = .ok (.getfield 30, 3) := by decide +kernel
theorem d_K_wayTo_9 : decode b_K_wayTo 9 = .ok (.isub, 1) := by decide +kernel
theorem d_K_wayTo_10 : decode b_K_wayTo 10 = .ok (.goto 9, 3) := by decide +kernel
theorem d_K_wayTo_13 : decode b_K_wayTo 13 = .ok (.aload_n 0, 1) := by decide +kernel
theorem d_K_wayTo_14 : decode b_K_wayTo 14 = .ok (.getfield 27, 3) := by decide +kernel
theorem d_K_wayTo_17 : decode b_K_wayTo 17 = .ok (.iload_n 1, 1) := by decide +kernel
theorem d_K_wayTo_18 : decode b_K_wayTo 18 = .ok (.isub, 1) := by decide +kernel
theorem d_K_wayTo_19 : decode b_K_wayTo 19 = .ok (.ireturn, 1) := by decide +kernel
theorem d_K_wholeDays_0 : decode b_K_wholeDays 0 = .ok (.iload_n 1, 1) := by decide +kernel
theorem d_K_wholeDays_1 : decode b_K_wholeDays 1 = .ok (.ifCond .eq 20, 3) := by decide +kernel
theorem d_K_wholeDays_4 : decode b_K_wholeDays 4 = .ok (.iload_n 2, 1) := by decide +kernel
theorem d_K_wholeDays_5 : decode b_K_wholeDays 5 = .ok (.ifCond .eq 20, 3) := by decide +kernel
theorem d_K_wholeDays_8 : decode b_K_wholeDays 8 = .ok (.iload_n 1, 1) := by decide +kernel
theorem d_K_wholeDays_9 : decode b_K_wholeDays 9 = .ok (.aload_n 0, 1) := by decide +kernel
theorem d_K_wholeDays_10 : decode b_K_wholeDays 10 = .ok (.getfield 27, 3) := by decide +kernel
theorem d_K_wholeDays_13 : decode b_K_wholeDays 13 = .ok (.aload_n 0, 1) := by decide +kernel
theorem d_K_wholeDays_14 : decode b_K_wholeDays 14 = .ok (.getfield 30, 3) := by decide +kernel
theorem d_K_wholeDays_17 : decode b_K_wholeDays 17 = .ok (.isub, 1) := by decide +kernel
theorem d_K_wholeDays_18 : decode b_K_wholeDays 18 = .ok (.if_icmp .ge 7, 3) := by decide +kernel
theorem d_K_wholeDays_21 : decode b_K_wholeDays 21 = .ok (.iconst 1, 1) := by decide +kernel
theorem d_K_wholeDays_22 : decode b_K_wholeDays 22 = .ok (.goto 4, 3) := by decide +kernel
theorem d_K_wholeDays_25 : decode b_K_wholeDays 25 = .ok (.iconst 0, 1) := by decide +kernel
theorem d_K_wholeDays_26 : decode b_K_wholeDays 26 = .ok (.istore_n 3, 1) := by decide +kernel
theorem d_K_wholeDays_27 : decode b_K_wholeDays 27 = .ok (.aload_n 0, 1) := by decide +kernel
theorem d_K_wholeDays_28 : decode b_K_wholeDays 28 = .ok (.getfield 9, 3) := by decide +kernel
theorem d_K_wholeDays_31 : decode b_K_wholeDays 31 = .ok (.iconst 1, 1) := by decide +kernel
theorem d_K_wholeDays_32 : decode b_K_wholeDays 32 = .ok (.if_icmp .ge 7, 3) := by decide +kernel
theorem d_K_wholeDays_35 : decode b_K_wholeDays 35 = .ok (.iconst 0, 1) := by decide +kernel
theorem d_K_wholeDays_36 : decode b_K_wholeDays 36 = .ok (.goto 19, 3) := by decide +kernel
theorem d_K_wholeDays_39 : decode b_K_wholeDays 39 = .ok (.iload_n 3, 1) := by decide +kernel
theorem d_K_wholeDays_40 : decode b_K_wholeDays 40 = .ok (.ifCond .eq 7, 3) := by decide +kernel
theorem d_K_wholeDays_43 : decode b_K_wholeDays 43 = .ok (.iload_n 1, 1) := by decide +kernel
theorem d_K_wholeDays_44 : decode b_K_wholeDays 44 = .ok (.goto 6, 3) := by decide +kernel
theorem d_K_wholeDays_47 : decode b_K_wholeDays 47 = .ok (.iload_n 1, 1) := by decide +kernel
theorem d_K_wholeDays_48 : decode b_K_wholeDays 48 = .ok (.iconst 1, 1) := by decide +kernel
theorem d_K_wholeDays_49 : decode b_K_wholeDays 49 = .ok (.isub, 1) := by decide +kernel
theorem d_K_wholeDays_50 : decode b_K_wholeDays 50 = .ok (.aload_n 0, 1) := by decide +kernel
theorem d_K_wholeDays_51 : decode b_K_wholeDays 51 = .ok (.getfield 9, 3) := by decide +kernel
theorem d_K_wholeDays_54 : decode b_K_wholeDays 54 = .ok (.idiv, 1) := by decide +kernel
theorem d_K_wholeDays_55 : decode b_K_wholeDays 55 = .ok (.ireturn, 1) := by decide +kernel
theorem d_J_floorDiv_0 : decode b_J_floorDiv 0 = .ok (.iload_n 0, 1) := by decide +kernel
theorem d_J_floorDiv_1 : decode b_J_floorDiv 1 = .ok (.iload_n 1, 1) := by decide +kernel
theorem d_J_floorDiv_2 : decode b_J_floorDiv 2 = .ok (.idiv, 1) := by decide +kernel
theorem d_J_floorDiv_3 : decode b_J_floorDiv 3 = .ok (.istore_n 2, 1) := by decide +kernel
theorem d_J_floorDiv_4 : decode b_J_floorDiv 4 = .ok (.iload_n 0, 1) := by decide +kernel
theorem d_J_floorDiv_5 : decode b_J_floorDiv 5 = .ok (.iload_n 1, 1) := by decide +kernel
theorem d_J_floorDiv_6 : decode b_J_floorDiv 6 = .ok (.ixor, 1) := by decide +kernel
theorem d_J_floorDiv_7 : decode b_J_floorDiv 7 = .ok (.ifCond .ge 14, 3) := by decide +kernel
theorem d_J_floorDiv_10 : decode b_J_floorDiv 10 = .ok (.iload_n 2, 1) := by decide +kernel
theorem d_J_floorDiv_11 : decode b_J_floorDiv 11 = .ok (.iload_n 1, 1) := by decide +kernel
theorem d_J_floorDiv_12 : decode b_J_floorDiv 12 = .ok (.imul, 1) := by decide +kernel
theorem d_J_floorDiv_13 : decode b_J_floorDiv 13 = .ok (.iload_n 0, 1) := by decide +kernel
theorem d_J_floorDiv_14 : decode b_J_floorDiv 14 = .ok (.if_icmp .eq 7, 3) := by decide +kernel
theorem d_J_floorDiv_17 : decode b_J_floorDiv 17 = .ok (.iload_n 2, 1) := by decide +kernel
theorem d_J_floorDiv_18 : decode b_J_floorDiv 18 = .ok (.iconst 1, 1) := by decide +kernel
theorem d_J_floorDiv_19 : decode b_J_floorDiv 19 = .ok (.isub, 1) := by decide +kernel
theorem d_J_floorDiv_20 : decode b_J_floorDiv 20 = .ok (.ireturn, 1) := by decide +kernel
theorem d_J_floorDiv_21 : decode b_J_floorDiv 21 = .ok (.iload_n 2, 1) := by decide +kernel
theorem d_J_floorDiv_22 : decode b_J_floorDiv 22 = .ok (.ireturn, 1) := by decide +kernel
theorem d_J_max_0 : decode b_J_max 0 = .ok (.iload_n 0, 1) := by decide +kernel
theorem d_J_max_1 : decode b_J_max 1 = .ok (.iload_n 1, 1) := by decide +kernel
theorem d_J_max_2 : decode b_J_max 2 = .ok (.if_icmp .lt 7, 3) := by decide +kernel
theorem d_J_max_5 : decode b_J_max 5 = .ok (.iload_n 0, 1) := by decide +kernel
theorem d_J_max_6 : decode b_J_max 6 = .ok (.goto 4, 3) := by decide +kernel
theorem d_J_max_9 : decode b_J_max 9 = .ok (.iload_n 1, 1) := by decide +kernel
theorem d_J_max_10 : decode b_J_max 10 = .ok (.ireturn, 1) := by decide +kernel
theorem d_J_min_0 : decode b_J_min 0 = .ok (.iload_n 0, 1) := by decide +kernel
theorem d_J_min_1 : decode b_J_min 1 = .ok (.iload_n 1, 1) := by decide +kernel
theorem d_J_min_2 : decode b_J_min 2 = .ok (.if_icmp .gt 7, 3) := by decide +kernel
theorem d_J_min_5 : decode b_J_min 5 = .ok (.iload_n 0, 1) := by decide +kernel
theorem d_J_min_6 : decode b_J_min 6 = .ok (.goto 4, 3) := by decide +kernel
theorem d_J_min_9 : decode b_J_min 9 = .ok (.iload_n 1, 1) := by decide +kernel
theorem d_J_min_10 : decode b_J_min 10 = .ok (.ireturn, 1) := by decide +kernel
