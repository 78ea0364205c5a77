theorem d_D_init_0 : decode b_D_init 0 = .ok (.aload_n 0, 1) := by decide +kernel
theorem d_D_init_1 : decode b_D_init 1 = .ok (.invokespecial 3, 3) := by decide +kernel
theorem d_D_init_4 : decode b_D_init 4 = .ok (.aload_n 0, 1) := by decide +kernel
theorem d_D_init_5 : decode b_D_init 5 = .ok (.sipush 200, 3) := by decide +kernel
theorem d_D_init_8 : decode b_D_init 8 = .ok (.newarray .boolean, 2) := by decide +kernel
theorem d_D_init_10 : decode b_D_init 10 = .ok (.putfield 9, 3) := by decide +kernel
theorem d_D_init_13 : decode b_D_init 13 = .ok (.aload_n 0, 1) := by decide +kernel
theorem d_D_init_14 : decode b_D_init 14 = .ok (.sipush 200, 3) := by decide +kernel
theorem d_D_init_17 : decode b_D_init 17 = .ok (.newarray .int, 2) := by decide +kernel
theorem d_D_init_19 : decode b_D_init 19 = .ok (.putfield 15, 3) := by decide +kernel
theorem d_D_init_22 : decode b_D_init 22 = .ok (.aload_n 0, 1) := by decide +kernel
theorem d_D_init_23 : decode b_D_init 23 = .ok (.sipush 200, 3) := by decide +kernel
theorem d_D_init_26 : decode b_D_init 26 = .ok (.newarray .int, 2) := by decide +kernel
theorem d_D_init_28 : decode b_D_init 28 = .ok (.putfield 19, 3) := by decide +kernel
theorem d_D_init_31 : decode b_D_init 31 = .ok (.aload_n 0, 1) := by decide +kernel
theorem d_D_init_32 : decode b_D_init 32 = .ok (.invokevirtual 22, 3) := by decide +kernel
theorem d_D_init_35 : decode b_D_init 35 = .ok (.return_, 1) := by decide +kernel
theorem d_D_isWorking_0 : decode b_D_isWorking 0 = .ok (.iload_n 1, 1) := by decide +kernel
theorem d_D_isWorking_1 : decode b_D_isWorking 1 = .ok (.sipush 200, 3) := by decide +kernel
theorem d_D_isWorking_4 : decode b_D_isWorking 4 = .ok (.if_icmp .ge 16, 3) := by decide +kernel
theorem d_D_isWorking_7 : decode b_D_isWorking 7 = .ok (.iload_n 1, 1) := by decide +kernel
theorem d_D_isWorking_8 : decode b_D_isWorking 8 = .ok (.ifCond .lt 16, 3) := by decide +kernel
theorem d_D_isWorking_11 : decode b_D_isWorking 11 = .ok (.aload_n 0, 1) := by decide +kernel
theorem d_D_isWorking_12 : decode b_D_isWorking 12 = .ok (.getfield 9, 3) := by decide +kernel
theorem d_D_isWorking_15 : decode b_D_isWorking 15 = .ok (.iload_n 1, 1) := by decide +kernel
theorem d_D_isWorking_16 : decode b_D_isWorking 16 = .ok (.baload, 1) := by decide +kernel
theorem d_D_isWorking_17 : decode b_D_isWorking 17 = .ok (.ifCond .ne 7, 3) := by decide +kernel
theorem d_D_isWorking_20 : decode b_D_isWorking 20 = .ok (.iconst 1, 1) := by decide +kernel
theorem d_D_isWorking_21 : decode b_D_isWorking 21 = .ok (.goto 4, 3) := by decide +kernel
theorem d_D_isWorking_24 : decode b_D_isWorking 24 = .ok (.iconst 0, 1) := by decide +kernel
theorem d_D_isWorking_25 : decode b_D_isWorking 25 = .ok (.ireturn, 1) := by decide +kernel
theorem d_D_giveRest_0 : decode b_D_giveRest 0 = .ok (.iload_n 1, 1) := by decide +kernel
theorem d_D_giveRest_1 : decode b_D_giveRest 1 = .ok (.iconst 0, 1) := by decide +kernel
theorem d_D_giveRest_2 : decode b_D_giveRest 2 = .ok (.sipush 199, 3) := by decide +kernel
theorem d_D_giveRest_5 : decode b_D_giveRest 5 = .ok (.invokestatic 25, 3) := by decide +kernel
theorem d_D_giveRest_8 : decode b_D_giveRest 8 = .ok (.ifCond .eq 33, 3) := by decide +kernel
theorem d_D_giveRest_11 : decode b_D_giveRest 11 = .ok (.aload_n 0, 1) := by decide +kernel
theorem d_D_giveRest_12 : decode b_D_giveRest 12 = .ok (.getfield 9, 3) := by decide +kernel
theorem d_D_giveRest_15 : decode b_D_giveRest 15 = .ok (.iload_n 1, 1) := by decide +kernel
theorem d_D_giveRest_16 : decode b_D_giveRest 16 = .ok (.baload, 1) := by decide +kernel
theorem d_D_giveRest_17 : decode b_D_giveRest 17 = .ok (.ifCond .ne 24, 3) := by decide +kernel
theorem d_D_giveRest_20 : decode b_D_giveRest 20 = .ok (.aload_n 0, 1) := by decide +kernel
theorem d_D_giveRest_21 : decode b_D_giveRest 21 = .ok (.getfield 9, 3) := by decide +kernel
theorem d_D_giveRest_24 : decode b_D_giveRest 24 = .ok (.iload_n 1, 1) := by decide +kernel
theorem d_D_giveRest_25 : decode b_D_giveRest 25 = .ok (.iconst 1, 1) := by decide +kernel
theorem d_D_giveRest_26 : decode b_D_giveRest 26 = .ok (.bastore, 1) := by decide +kernel
theorem d_D_giveRest_27 : decode b_D_giveRest 27 = .ok (.aload_n 0, 1) := by decide +kernel
theorem d_D_giveRest_28 : decode b_D_giveRest 28 = .ok (.dup, 1) := by decide +kernel
theorem d_D_giveRest_29 : decode b_D_giveRest 29 = .ok (.getfield 29, 3) := by decide +kernel
theorem d_D_giveRest_32 : decode b_D_giveRest 32 = .ok (.iconst 1, 1) := by decide +kernel
theorem d_D_giveRest_33 : decode b_D_giveRest 33 = .ok (.iadd, 1) := by decide +kernel
theorem d_D_giveRest_34 : decode b_D_giveRest 34 = .ok (.putfield 29, 3) := by decide +kernel
theorem d_D_giveRest_37 : decode b_D_giveRest 37 = .ok (.aload_n 0, 1) := by decide +kernel
theorem d_D_giveRest_38 : decode b_D_giveRest 38 = .ok (.invokevirtual 22, 3) := by decide +kernel
theorem d_D_giveRest_41 : decode b_D_giveRest 41 = .ok (.return_, 1) := by decide +kernel
theorem d_D_before_0 : decode b_D_before 0 = .ok (.iload_n 1, 1) := by decide +kernel
theorem d_D_before_1 : decode b_D_before 1 = .ok (.ifCond .ge 5, 3) := by decide +kernel
theorem d_D_before_4 : decode b_D_before 4 = .ok (.iconst 0, 1) := by decide +kernel
theorem d_D_before_5 : decode b_D_before 5 = .ok (.ireturn, 1) := by decide +kernel
theorem d_D_before_6 : decode b_D_before 6 = .ok (.iload_n 1, 1) := by decide +kernel
theorem d_D_before_7 : decode b_D_before 7 = .ok (.sipush 200, 3) := by decide +kernel
theorem d_D_before_10 : decode b_D_before 10 = .ok (.if_icmp .ge 12, 3) := by decide +kernel
theorem d_D_before_13 : decode b_D_before 13 = .ok (.aload_n 0, 1) := by decide +kernel
theorem d_D_before_14 : decode b_D_before 14 = .ok (.getfield 15, 3) := by decide +kernel
theorem d_D_before_17 : decode b_D_before 17 = .ok (.iload_n 1, 1) := by decide +kernel
theorem d_D_before_18 : decode b_D_before 18 = .ok (.iaload, 1) := by decide +kernel
theorem d_D_before_19 : decode b_D_before 19 = .ok (.goto 9, 3) := by decide +kernel
theorem d_D_before_22 : decode b_D_before 22 = .ok (.iload_n 1, 1) := by decide +kernel
theorem d_D_before_23 : decode b_D_before 23 = .ok (.aload_n 0, 1) := by decide +kernel
theorem d_D_before_24 : decode b_D_before 24 = .ok (.getfield 29, 3) := by decide +kernel
theorem d_D_before_27 : decode b_D_before 27 = .ok (.isub, 1) := by decide +kernel
theorem d_D_before_28 : decode b_D_before 28 = .ok (.ireturn, 1) := by decide +kernel
theorem d_D_dayOf_0 : decode b_D_dayOf 0 = .ok (.iload_n 1, 1) := by decide +kernel
theorem d_D_dayOf_1 : decode b_D_dayOf 1 = .ok (.ifCond .ge 5, 3) := by decide +kernel
theorem d_D_dayOf_4 : decode b_D_dayOf 4 = .ok (.iconst 0, 1) := by decide +kernel
theorem d_D_dayOf_5 : decode b_D_dayOf 5 = .ok (.ireturn, 1) := by decide +kernel
theorem d_D_dayOf_6 : decode b_D_dayOf 6 = .ok (.iload_n 1, 1) := by decide +kernel
theorem d_D_dayOf_7 : decode b_D_dayOf 7 = .ok (.sipush 200, 3) := by decide +kernel
theorem d_D_dayOf_10 : decode b_D_dayOf 10 = .ok (.aload_n 0, 1) := by decide +kernel
theorem d_D_dayOf_11 : decode b_D_dayOf 11 = .ok (.getfield 29, 3) := by decide +kernel
theorem d_D_dayOf_14 : decode b_D_dayOf 14 = .ok (.isub, 1) := by decide +kernel
theorem d_D_dayOf_15 : decode b_D_dayOf 15 = .ok (.if_icmp .ge 12, 3) := by decide +kernel
theorem d_D_dayOf_18 : decode b_D_dayOf 18 = .ok (.aload_n 0, 1) := by decide +kernel
theorem d_D_dayOf_19 : decode b_D_dayOf 19 = .ok (.getfield 19, 3) := by decide +kernel
theorem d_D_dayOf_22 : decode b_D_dayOf 22 = .ok (.iload_n 1, 1) := by decide +kernel
theorem d_D_dayOf_23 : decode b_D_dayOf 23 = .ok (.iaload, 1) := by decide +kernel
theorem d_D_dayOf_24 : decode b_D_dayOf 24 = .ok (.goto 9, 3) := by decide +kernel
theorem d_D_dayOf_27 : decode b_D_dayOf 27 = .ok (.iload_n 1, 1) := by decide +kernel
theorem d_D_dayOf_28 : decode b_D_dayOf 28 = .ok (.aload_n 0, 1) := by decide +kernel
theorem d_D_dayOf_29 : decode b_D_dayOf 29 = .ok (.getfield 29, 3) := by decide +kernel
theorem d_D_dayOf_32 : decode b_D_dayOf 32 = .ok (.iadd, 1) := by decide +kernel
theorem d_D_dayOf_33 : decode b_D_dayOf 33 = .ok (.ireturn, 1) := by decide +kernel
theorem d_D_countWorkingDays_0 : decode b_D_countWorkingDays 0 = .ok (.iconst 0, 1) := by decide +kernel
theorem d_D_countWorkingDays_1 : decode b_D_countWorkingDays 1 = .ok (.istore_n 1, 1) := by decide +kernel
theorem d_D_countWorkingDays_2 : decode b_D_countWorkingDays 2 = .ok (.iconst 0, 1) := by decide +kernel
theorem d_D_countWorkingDays_3 : decode b_D_countWorkingDays 3 = .ok (.istore_n 2, 1) := by decide +kernel
theorem d_D_countWorkingDays_4 : decode b_D_countWorkingDays 4 = .ok (.iload_n 2, 1) := by decide +kernel
theorem d_D_countWorkingDays_5 : decode b_D_countWorkingDays 5 = .ok (.sipush 200, 3) := by decide +kernel
theorem d_D_countWorkingDays_8 : decode b_D_countWorkingDays 8 = .ok (.if_icmp .ge 35, 3) := by decide +kernel
theorem d_D_countWorkingDays_11 : decode b_D_countWorkingDays 11 = .ok (.aload_n 0, 1) := by decide +kernel
theorem d_D_countWorkingDays_12 : decode b_D_countWorkingDays 12 = .ok (.getfield 15, 3) := by decide +kernel
theorem d_D_countWorkingDays_15 : decode b_D_countWorkingDays 15 = .ok (.iload_n 2, 1) := by decide +kernel
theorem d_D_countWorkingDays_16 : decode b_D_countWorkingDays 16 = .ok (.iload_n 1, 1) := by decide +kernel
theorem d_D_countWorkingDays_17 : decode b_D_countWorkingDays 17 = .ok (.iastore, 1) := by decide +kernel
theorem d_D_countWorkingDays_18 : decode b_D_countWorkingDays 18 = .ok (.aload_n 0, 1) := by decide +kernel
theorem d_D_countWorkingDays_19 : decode b_D_countWorkingDays 19 = .ok (.getfield 9, 3) := by decide +kernel
theorem d_D_countWorkingDays_22 : decode b_D_countWorkingDays 22 = .ok (.iload_n 2, 1) := by decide +kernel
theorem d_D_countWorkingDays_23 : decode b_D_countWorkingDays 23 = .ok (.baload, 1) := by decide +kernel
theorem d_D_countWorkingDays_24 : decode b_D_countWorkingDays 24 = .ok (.ifCond .ne 13, 3) := by decide +kernel
theorem d_D_countWorkingDays_27 : decode b_D_countWorkingDays 27 = .ok (.aload_n 0, 1) := by decide +kernel
theorem d_D_countWorkingDays_28 : decode b_D_countWorkingDays 28 = .ok (.getfield 19, 3) := by decide +kernel
theorem d_D_countWorkingDays_31 : decode b_D_countWorkingDays 31 = .ok (.iload_n 1, 1) := by decide +kernel
theorem d_D_countWorkingDays_32 : decode b_D_countWorkingDays 32 = .ok (.iload_n 2, 1) := by decide +kernel
theorem d_D_countWorkingDays_33 : decode b_D_countWorkingDays 33 = .ok (.iastore, 1) := by decide +kernel
theorem d_D_countWorkingDays_34 : decode b_D_countWorkingDays 34 = .ok (.iinc 1 1, 3) := by decide +kernel
theorem d_D_countWorkingDays_37 : decode b_D_countWorkingDays 37 = .ok (.iinc 2 1, 3) := by decide +kernel
theorem d_D_countWorkingDays_40 : decode b_D_countWorkingDays 40 = .ok (.goto (-36), 3) := by decide +kernel
theorem d_D_countWorkingDays_43 : decode b_D_countWorkingDays 43 = .ok (.return_, 1) := by decide +kernel
theorem d_L_init_0 : decode b_L_init 0 = .ok (.aload_n 0, 1) := by decide +kernel
theorem d_L_init_1 : decode b_L_init 1 = .ok (.invokespecial 3, 3) := by decide +kernel
theorem d_L_init_4 : decode b_L_init 4 = .ok (.aload_n 0, 1) := by decide +kernel
theorem d_L_init_5 : decode b_L_init 5 = .ok (.new 9, 3) := by decide +kernel
theorem d_L_init_8 : decode b_L_init 8 = .ok (.dup, 1) := by decide +kernel
theorem d_L_init_9 : decode b_L_init 9 = .ok (.invokespecial 11, 3) := by decide +kernel
theorem d_L_init_12 : decode b_L_init 12 = .ok (.putfield 12, 3) := by decide +kernel
theorem d_L_init_15 : decode b_L_init 15 = .ok (.aload_n 0, 1) := by decide +kernel
theorem d_L_init_16 : decode b_L_init 16 = .ok (.iconst 4, 1) := by decide +kernel
theorem d_L_init_17 : decode b_L_init 17 = .ok (.newarray .int, 2) := by decide +kernel
theorem d_L_init_19 : decode b_L_init 19 = .ok (.putfield 18, 3) := by decide +kernel
theorem d_L_init_22 : decode b_L_init 22 = .ok (.aload_n 0, 1) := by decide +kernel
theorem d_L_init_23 : decode b_L_init 23 = .ok (.bipush 6, 2) := by decide +kernel
theorem d_L_init_25 : decode b_L_init 25 = .ok (.anewarray 22, 3) := by decide +kernel
theorem d_L_init_28 : decode b_L_init 28 = .ok (.putfield 24, 3) := by decide +kernel
theorem d_L_init_31 : decode b_L_init 31 = .ok (.aload_n 0, 1) := by decide +kernel
theorem d_L_init_32 : decode b_L_init 32 = .ok (.bipush 36, 2) := by decide +kernel
theorem d_L_init_34 : decode b_L_init 34 = .ok (.newarray .int, 2) := by decide +kernel
theorem d_L_init_36 : decode b_L_init 36 = .ok (.putfield 28, 3) := by decide +kernel
theorem d_L_init_39 : decode b_L_init 39 = .ok (.aload_n 0, 1) := by decide +kernel
theorem d_L_init_40 : decode b_L_init 40 = .ok (.iconst 4, 1) := by decide +kernel
theorem d_L_init_41 : decode b_L_init 41 = .ok (.newarray .int, 2) := by decide +kernel
theorem d_L_init_43 : decode b_L_init 43 = .ok (.putfield 31, 3) := by decide +kernel
theorem d_L_init_46 : decode b_L_init 46 = .ok (.aload_n 0, 1) := by decide +kernel
theorem d_L_init_47 : decode b_L_init 47 = .ok (.bipush 8, 2) := by decide +kernel
theorem d_L_init_49 : decode b_L_init 49 = .ok (.newarray .int, 2) := by decide +kernel
theorem d_L_init_51 : decode b_L_init 51 = .ok (.putfield 34, 3) := by decide +kernel
theorem d_L_init_54 : decode b_L_init 54 = .ok (.aload_n 0, 1) := by decide +kernel
theorem d_L_init_55 : decode b_L_init 55 = .ok (.bipush 8, 2) := by decide +kernel
theorem d_L_init_57 : decode b_L_init 57 = .ok (.newarray .int, 2) := by decide +kernel
theorem d_L_init_59 : decode b_L_init 59 = .ok (.putfield 37, 3) := by decide +kernel
theorem d_L_init_62 : decode b_L_init 62 = .ok (.aload_n 0, 1) := by decide +kernel
theorem d_L_init_63 : decode b_L_init 63 = .ok (.bipush 8, 2) := by decide +kernel
theorem d_L_init_65 : decode b_L_init 65 = .ok (.newarray .int, 2) := by decide +kernel
theorem d_L_init_67 : decode b_L_init 67 = .ok (.putfield 40, 3) := by decide +kernel
theorem d_L_init_70 : decode b_L_init 70 = .ok (.iconst 0, 1) := by decide +kernel
theorem d_L_init_71 : decode b_L_init 71 = .ok (.istore_n 1, 1) := by decide +kernel
theorem d_L_init_72 : decode b_L_init 72 = .ok (.iload_n 1, 1) := by decide +kernel
theorem d_L_init_73 : decode b_L_init 73 = .ok (.bipush 6, 2) := by decide +kernel
theorem d_L_init_75 : decode b_L_init 75 = .ok (.if_icmp .ge 22, 3) := by decide +kernel
theorem d_L_init_78 : decode b_L_init 78 = .ok (.aload_n 0, 1) := by decide +kernel
theorem d_L_init_79 : decode b_L_init 79 = .ok (.getfield 24, 3) := by decide +kernel
theorem d_L_init_82 : decode b_L_init 82 = .ok (.iload_n 1, 1) := by decide +kernel
theorem d_L_init_83 : decode b_L_init 83 = .ok (.new 22, 3) := by decide +kernel
theorem d_L_init_86 : decode b_L_init 86 = .ok (.dup, 1) := by decide +kernel
theorem d_L_init_87 : decode b_L_init 87 = .ok (.invokespecial 43, 3) := by decide +kernel
theorem d_L_init_90 : decode b_L_init 90 = .ok (.aastore, 1) := by decide +kernel
theorem d_L_init_91 : decode b_L_init 91 = .ok (.iinc 1 1, 3) := by decide +kernel
theorem d_L_init_94 : decode b_L_init 94 = .ok (.goto (-22), 3) := by decide +kernel
theorem d_L_init_97 : decode b_L_init 97 = .ok (.iconst 0, 1) := by decide +kernel
theorem d_L_init_98 : decode b_L_init 98 = .ok (.istore_n 1, 1) := by decide +kernel
theorem d_L_init_99 : decode b_L_init 99 = .ok (.iload_n 1, 1) := by decide +kernel
theorem d_L_init_100 : decode b_L_init 100 = .ok (.aload_n 0, 1) := by decide +kernel
theorem d_L_init_101 : decode b_L_init 101 = .ok (.getfield 28, 3) := by decide +kernel
theorem d_L_init_104 : decode b_L_init 104 = .ok (.arraylength, 1) := by decide +kernel
theorem d_L_init_105 : decode b_L_init 105 = .ok (.if_icmp .ge 16, 3) := by decide +kernel
theorem d_L_init_108 : decode b_L_init 108 = .ok (.aload_n 0, 1) := by decide +kernel
theorem d_L_init_109 : decode b_L_init 109 = .ok (.getfield 28, 3) := by decide +kernel
theorem d_L_init_112 : decode b_L_init 112 = .ok (.iload_n 1, 1) := by decide +kernel
theorem d_L_init_113 : decode b_L_init 113 = .ok (.iconst (-1), 1) := by decide +kernel
theorem d_L_init_114 : decode b_L_init 114 = .ok (.iastore, 1) := by decide +kernel
theorem d_L_init_115 : decode b_L_init 115 = .ok (.iinc 1 1, 3) := by decide +kernel
theorem d_L_init_118 : decode b_L_init 118 = .ok (.goto (-19), 3) := by decide +kernel
theorem d_L_init_121 : decode b_L_init 121 = .ok (.iconst 0, 1) := by decide +kernel
theorem d_L_init_122 : decode b_L_init 122 = .ok (.istore_n 1, 1) := by decide +kernel
theorem d_L_init_123 : decode b_L_init 123 = .ok (.iload_n 1, 1) := by decide +kernel
theorem d_L_init_124 : decode b_L_init 124 = .ok (.iconst 4, 1) := by decide +kernel
theorem d_L_init_125 : decode b_L_init 125 = .ok (.if_icmp .ge 16, 3) := by decide +kernel
theorem d_L_init_128 : decode b_L_init 128 = .ok (.aload_n 0, 1) := by decide +kernel
theorem d_L_init_129 : decode b_L_init 129 = .ok (.getfield 31, 3) := by decide +kernel
theorem d_L_init_132 : decode b_L_init 132 = .ok (.iload_n 1, 1) := by decide +kernel
theorem d_L_init_133 : decode b_L_init 133 = .ok (.iconst 4, 1) := by decide +kernel
theorem d_L_init_134 : decode b_L_init 134 = .ok (.iastore, 1) := by decide +kernel
theorem d_L_init_135 : decode b_L_init 135 = .ok (.iinc 1 1, 3) := by decide +kernel
theorem d_L_init_138 : decode b_L_init 138 = .ok (.goto (-15), 3) := by decide +kernel
theorem d_L_init_141 : decode b_L_init 141 = .ok (.return_, 1) := by decide +kernel
theorem d_L_addCrew_0 : decode b_L_addCrew 0 = .ok (.aload_n 0, 1) := by decide +kernel
theorem d_L_addCrew_1 : decode b_L_addCrew 1 = .ok (.getfield 44, 3) := by decide +kernel
theorem d_L_addCrew_4 : decode b_L_addCrew 4 = .ok (.iconst 4, 1) := by decide +kernel
theorem d_L_addCrew_5 : decode b_L_addCrew 5 = .ok (.if_icmp .lt 5, 3) := by decide +kernel
theorem d_L_addCrew_8 : decode b_L_addCrew 8 = .ok (.iconst (-1), 1) := by decide +kernel
theorem d_L_addCrew_9 : decode b_L_addCrew 9 = .ok (.ireturn, 1) := by decide +kernel
theorem d_L_addCrew_10 : decode b_L_addCrew 10 = .ok (.aload_n 0, 1) := by decide +kernel
theorem d_L_addCrew_11 : decode b_L_addCrew 11 = .ok (.getfield 18, 3) := by decide +kernel
theorem d_L_addCrew_14 : decode b_L_addCrew 14 = .ok (.aload_n 0, 1) := by decide +kernel
theorem d_L_addCrew_15 : decode b_L_addCrew 15 = .ok (.getfield 44, 3) := by decide +kernel
theorem d_L_addCrew_18 : decode b_L_addCrew 18 = .ok (.iload_n 1, 1) := by decide +kernel
theorem d_L_addCrew_19 : decode b_L_addCrew 19 = .ok (.iastore, 1) := by decide +kernel
theorem d_L_addCrew_20 : decode b_L_addCrew 20 = .ok (.aload_n 0, 1) := by decide +kernel
theorem d_L_addCrew_21 : decode b_L_addCrew 21 = .ok (.dup, 1) := by decide +kernel
theorem d_L_addCrew_22 : decode b_L_addCrew 22 = .ok (.getfield 44, 3) := by decide +kernel
theorem d_L_addCrew_25 : decode b_L_addCrew 25 = .ok (.iconst 1, 1) := by decide +kernel
theorem d_L_addCrew_26 : decode b_L_addCrew 26 = .ok (.iadd, 1) := by decide +kernel
theorem d_L_addCrew_27 : decode b_L_addCrew 27 = .ok (.putfield 44, 3) := by decide +kernel
theorem d_L_addCrew_30 : decode b_L_addCrew 30 = .ok (.aload_n 0, 1) := by decide +kernel
theorem d_L_addCrew_31 : decode b_L_addCrew 31 = .ok (.getfield 44, 3) := by decide +kernel
theorem d_L_addCrew_34 : decode b_L_addCrew 34 = .ok (.iconst 1, 1) := by decide +kernel
theorem d_L_addCrew_35 : decode b_L_addCrew 35 = .ok (.isub, 1) := by decide +kernel
theorem d_L_addCrew_36 : decode b_L_addCrew 36 = .ok (.ireturn, 1) := by decide +kernel
theorem d_L_addWork_0 : decode b_L_addWork 0 = .ok (.aload_n 0, 1) := by decide +kernel
theorem d_L_addWork_1 : decode b_L_addWork 1 = .ok (.getfield 48, 3) := by decide +kernel
theorem d_L_addWork_4 : decode b_L_addWork 4 = .ok (.bipush 6, 2) := by decide +kernel
theorem d_L_addWork_6 : decode b_L_addWork 6 = .ok (.if_icmp .ge 12, 3) := by decide +kernel
theorem d_L_addWork_9 : decode b_L_addWork 9 = .ok (.iload_n 1, 1) := by decide +kernel
theorem d_L_addWork_10 : decode b_L_addWork 10 = .ok (.iconst 0, 1) := by decide +kernel
theorem d_L_addWork_11 : decode b_L_addWork 11 = .ok (.iconst 3, 1) := by decide +kernel
theorem d_L_addWork_12 : decode b_L_addWork 12 = .ok (.invokestatic 51, 3) := by decide +kernel
theorem d_L_addWork_15 : decode b_L_addWork 15 = .ok (.ifCond .ne 5, 3) := by decide +kernel
theorem d_L_addWork_18 : decode b_L_addWork 18 = .ok (.iconst (-1), 1) := by decide +kernel
theorem d_L_addWork_19 : decode b_L_addWork 19 = .ok (.ireturn, 1) := by decide +kernel
theorem d_L_addWork_20 : decode b_L_addWork 20 = .ok (.aload_n 0, 1) := by decide +kernel
theorem d_L_addWork_21 : decode b_L_addWork 21 = .ok (.getfield 24, 3) := by decide +kernel
theorem d_L_addWork_24 : decode b_L_addWork 24 = .ok (.aload_n 0, 1) := by decide +kernel
theorem d_L_addWork_25 : decode b_L_addWork 25 = .ok (.getfield 48, 3) := by decide +kernel
theorem d_L_addWork_28 : decode b_L_addWork 28 = .ok (.aaload, 1) := by decide +kernel
theorem d_L_addWork_29 : decode b_L_addWork 29 = .ok (.astore 6, 2) := by decide +kernel
theorem d_L_addWork_31 : decode b_L_addWork 31 = .ok (.aload 6, 2) := by decide +kernel
theorem d_L_addWork_33 : decode b_L_addWork 33 = .ok (.iload_n 1, 1) := by decide +kernel
theorem d_L_addWork_34 : decode b_L_addWork 34 = .ok (.putfield 55, 3) := by decide +kernel
theorem d_L_addWork_37 : decode b_L_addWork 37 = .ok (.aload 6, 2) := by decide +kernel
theorem d_L_addWork_39 : decode b_L_addWork 39 = .ok (.aload_n 0, 1) := by decide +kernel
theorem d_L_addWork_40 : decode b_L_addWork 40 = .ok (.getfield 18, 3) := by decide +kernel
theorem d_L_addWork_43 : decode b_L_addWork 43 = .ok (.iload_n 1, 1) := by decide +kernel
theorem d_L_addWork_44 : decode b_L_addWork 44 = .ok (.iaload, 1) := by decide +kernel
theorem d_L_addWork_45 : decode b_L_addWork 45 = .ok (.putfield 58, 3) := by decide +kernel
theorem d_L_addWork_48 : decode b_L_addWork 48 = .ok (.aload 6, 2) := by decide +kernel
theorem d_L_addWork_50 : decode b_L_addWork 50 = .ok (.iload_n 2, 1) := by decide +kernel
theorem d_L_addWork_51 : decode b_L_addWork 51 = .ok (.putfield 61, 3) := by decide +kernel
theorem d_L_addWork_54 : decode b_L_addWork 54 = .ok (.aload 6, 2) := by decide +kernel
theorem d_L_addWork_56 : decode b_L_addWork 56 = .ok (.iload_n 3, 1) := by decide +kernel
theorem d_L_addWork_57 : decode b_L_addWork 57 = .ok (.putfield 64, 3) := by decide +kernel
theorem d_L_addWork_60 : decode b_L_addWork 60 = .ok (.aload 6, 2) := by decide +kernel
theorem d_L_addWork_62 : decode b_L_addWork 62 = .ok (.iload 5, 2) := by decide +kernel
theorem d_L_addWork_64 : decode b_L_addWork 64 = .ok (.putfield 67, 3) := by decide +kernel
theorem d_L_addWork_67 : decode b_L_addWork 67 = .ok (.aload 6, 2) := by decide +kernel
theorem d_L_addWork_69 : decode b_L_addWork 69 = .ok (.iload 4, 2) := by decide +kernel
theorem d_L_addWork_71 : decode b_L_addWork 71 = .ok (.invokevirtual 71, 3) := by decide +kernel
theorem d_L_addWork_74 : decode b_L_addWork 74 = .ok (.aload_n 0, 1) := by decide +kernel
theorem d_L_addWork_75 : decode b_L_addWork 75 = .ok (.dup, 1) := by decide +kernel
theorem d_L_addWork_76 : decode b_L_addWork 76 = .ok (.getfield 48, 3) := by decide +kernel
theorem d_L_addWork_79 : decode b_L_addWork 79 = .ok (.iconst 1, 1) := by decide +kernel
theorem d_L_addWork_80 : decode b_L_addWork 80 = .ok (.iadd, 1) := by decide +kernel
theorem d_L_addWork_81 : decode b_L_addWork 81 = .ok (.putfield 48, 3) := by decide +kernel
theorem d_L_addWork_84 : decode b_L_addWork 84 = .ok (.aload_n 0, 1) := by decide +kernel
theorem d_L_addWork_85 : decode b_L_addWork 85 = .ok (.getfield 48, 3) := by decide +kernel
theorem d_L_addWork_88 : decode b_L_addWork 88 = .ok (.iconst 1, 1) := by decide +kernel
theorem d_L_addWork_89 : decode b_L_addWork 89 = .ok (.isub, 1) := by decide +kernel
theorem d_L_addWork_90 : decode b_L_addWork 90 = .ok (.ireturn, 1) := by decide +kernel
theorem d_L_addBar_0 : decode b_L_addBar 0 = .ok (.aload_n 0, 1) := by decide +kernel
theorem d_L_addBar_1 : decode b_L_addBar 1 = .ok (.getfield 75, 3) := by decide +kernel
theorem d_L_addBar_4 : decode b_L_addBar 4 = .ok (.bipush 8, 2) := by decide +kernel
theorem d_L_addBar_6 : decode b_L_addBar 6 = .ok (.if_icmp .ge 43, 3) := by decide +kernel
theorem d_L_addBar_9 : decode b_L_addBar 9 = .ok (.aload_n 0, 1) := by decide +kernel
theorem d_L_addBar_10 : decode b_L_addBar 10 = .ok (.getfield 34, 3) := by decide +kernel
theorem d_L_addBar_13 : decode b_L_addBar 13 = .ok (.aload_n 0, 1) := by decide +kernel
theorem d_L_addBar_14 : decode b_L_addBar 14 = .ok (.getfield 75, 3) := by decide +kernel
theorem d_L_addBar_17 : decode b_L_addBar 17 = .ok (.iload_n 1, 1) := by decide +kernel
theorem d_L_addBar_18 : decode b_L_addBar 18 = .ok (.iastore, 1) := by decide +kernel
theorem d_L_addBar_19 : decode b_L_addBar 19 = .ok (.aload_n 0, 1) := by decide +kernel
theorem d_L_addBar_20 : decode b_L_addBar 20 = .ok (.getfield 37, 3) := by decide +kernel
theorem d_L_addBar_23 : decode b_L_addBar 23 = .ok (.aload_n 0, 1) := by decide +kernel
theorem d_L_addBar_24 : decode b_L_addBar 24 = .ok (.getfield 75, 3) := by decide +kernel
theorem d_L_addBar_27 : decode b_L_addBar 27 = .ok (.iload_n 2, 1) := by decide +kernel
theorem d_L_addBar_28 : decode b_L_addBar 28 = .ok (.iastore, 1) := by decide +kernel
theorem d_L_addBar_29 : decode b_L_addBar 29 = .ok (.aload_n 0, 1) := by decide +kernel
theorem d_L_addBar_30 : decode b_L_addBar 30 = .ok (.getfield 40, 3) := by decide +kernel
theorem d_L_addBar_33 : decode b_L_addBar 33 = .ok (.aload_n 0, 1) := by decide +kernel
theorem d_L_addBar_34 : decode b_L_addBar 34 = .ok (.getfield 75, 3) := by decide +kernel
theorem d_L_addBar_37 : decode b_L_addBar 37 = .ok (.iload_n 3, 1) := by decide +kernel
theorem d_L_addBar_38 : decode b_L_addBar 38 = .ok (.iastore, 1) := by decide +kernel
theorem d_L_addBar_39 : decode b_L_addBar 39 = .ok (.aload_n 0, 1) := by decide +kernel
theorem d_L_addBar_40 : decode b_L_addBar 40 = .ok (.dup, 1) := by decide +kernel
theorem d_L_addBar_41 : decode b_L_addBar 41 = .ok (.getfield 75, 3) := by decide +kernel
theorem d_L_addBar_44 : decode b_L_addBar 44 = .ok (.iconst 1, 1) := by decide +kernel
theorem d_L_addBar_45 : decode b_L_addBar 45 = .ok (.iadd, 1) := by decide +kernel
theorem d_L_addBar_46 : decode b_L_addBar 46 = .ok (.putfield 75, 3) := by decide +kernel
theorem d_L_addBar_49 : decode b_L_addBar 49 = .ok (.return_, 1) := by decide +kernel
theorem d_L_setGap_0 : decode b_L_setGap 0 = .ok (.iload_n 1, 1) := by decide +kernel
theorem d_L_setGap_1 : decode b_L_setGap 1 = .ok (.iconst 0, 1) := by decide +kernel
theorem d_L_setGap_2 : decode b_L_setGap 2 = .ok (.iconst 5, 1) := by decide +kernel
theorem d_L_setGap_3 : decode b_L_setGap 3 = .ok (.invokestatic 51, 3) := by decide +kernel
theorem d_L_setGap_6 : decode b_L_setGap 6 = .ok (.ifCond .eq 24, 3) := by decide +kernel
theorem d_L_setGap_9 : decode b_L_setGap 9 = .ok (.iload_n 2, 1) := by decide +kernel
theorem d_L_setGap_10 : decode b_L_setGap 10 = .ok (.iconst 0, 1) := by decide +kernel
theorem d_L_setGap_11 : decode b_L_setGap 11 = .ok (.iconst 5, 1) := by decide +kernel
theorem d_L_setGap_12 : decode b_L_setGap 12 = .ok (.invokestatic 51, 3) := by decide +kernel
theorem d_L_setGap_15 : decode b_L_setGap 15 = .ok (.ifCond .eq 15, 3) := by decide +kernel
theorem d_L_setGap_18 : decode b_L_setGap 18 = .ok (.aload_n 0, 1) := by decide +kernel
theorem d_L_setGap_19 : decode b_L_setGap 19 = .ok (.getfield 28, 3) := by decide +kernel
theorem d_L_setGap_22 : decode b_L_setGap 22 = .ok (.iload_n 1, 1) := by decide +kernel
theorem d_L_setGap_23 : decode b_L_setGap 23 = .ok (.bipush 6, 2) := by decide +kernel
theorem d_L_setGap_25 : decode b_L_setGap 25 = .ok (.imul, 1) := by decide +kernel
theorem d_L_setGap_26 : decode b_L_setGap 26 = .ok (.iload_n 2, 1) := by decide +kernel
theorem d_L_setGap_27 : decode b_L_setGap 27 = .ok (.iadd, 1) := by decide +kernel
theorem d_L_setGap_28 : decode b_L_setGap 28 = .ok (.iload_n 3, 1) := by decide +kernel
theorem d_L_setGap_29 : decode b_L_setGap 29 = .ok (.iastore, 1) := by decide +kernel
theorem d_L_setGap_30 : decode b_L_setGap 30 = .ok (.return_, 1) := by decide +kernel
theorem d_L_gapBetween_0 : decode b_L_gapBetween 0 = .ok (.iload_n 1, 1) := by decide +kernel
theorem d_L_gapBetween_1 : decode b_L_gapBetween 1 = .ok (.iconst 0, 1) := by decide +kernel
theorem d_L_gapBetween_2 : decode b_L_gapBetween 2 = .ok (.iconst 5, 1) := by decide +kernel
theorem d_L_gapBetween_3 : decode b_L_gapBetween 3 = .ok (.invokestatic 51, 3) := by decide +kernel
theorem d_L_gapBetween_6 : decode b_L_gapBetween 6 = .ok (.ifCond .eq 16, 3) := by decide +kernel
theorem d_L_gapBetween_9 : decode b_L_gapBetween 9 = .ok (.iload_n 2, 1) := by decide +kernel
theorem d_L_gapBetween_10 : decode b_L_gapBetween 10 = .ok (.iconst 0, 1) := by decide +kernel
theorem d_L_gapBetween_11 : decode b_L_gapBetween 11 = .ok (.iconst 5, 1) := by decide +kernel
theorem d_L_gapBetween_12 : decode b_L_gapBetween 12 = .ok (.invokestatic 51, 3) := by decide +kernel
theorem d_L_gapBetween_15 : decode b_L_gapBetween 15 = .ok (.ifCond .eq 7, 3) := by decide +kernel
theorem d_L_gapBetween_18 : decode b_L_gapBetween 18 = .ok (.iconst 1, 1) := by decide +kernel
theorem d_L_gapBetween_19 : decode b_L_gapBetween 19 = .ok (.goto 4, 3) := by decide +kernel
theorem d_L_gapBetween_22 : decode b_L_gapBetween 22 = .ok (.iconst 0, 1) := by decide +kernel
theorem d_L_gapBetween_23 : decode b_L_gapBetween 23 = .ok (.istore_n 3, 1) := by decide +kernel
theorem d_L_gapBetween_24 : decode b_L_gapBetween 24 = .ok (.iload_n 3, 1) := by decide +kernel
theorem d_L_gapBetween_25 : decode b_L_gapBetween 25 = .ok (.ifCond .eq 17, 3) := by decide +kernel
theorem d_L_gapBetween_28 : decode b_L_gapBetween 28 = .ok (.aload_n 0, 1) := by decide +kernel
theorem d_L_gapBetween_29 : decode b_L_gapBetween 29 = .ok (.getfield 28, 3) := by decide +kernel
theorem d_L_gapBetween_32 : decode b_L_gapBetween 32 = .ok (.iload_n 1, 1) := by decide +kernel
theorem d_L_gapBetween_33 : decode b_L_gapBetween 33 = .ok (.bipush 6, 2) := by decide +kernel
theorem d_L_gapBetween_35 : decode b_L_gapBetween 35 = .ok (.imul, 1) := by decide +kernel
theorem d_L_gapBetween_36 : decode b_L_gapBetween 36 = .ok (.iload_n 2, 1) := by decide +kernel
theorem d_L_gapBetween_37 : decode b_L_gapBetween 37 = .ok (.iadd, 1) := by decide +kernel
theorem d_L_gapBetween_38 : decode b_L_gapBetween 38 = .ok (.iaload, 1) := by decide +kernel
theorem d_L_gapBetween_39 : decode b_L_gapBetween 39 = .ok (.goto 4, 3) := by decide +kernel
theorem d_L_gapBetween_42 : decode b_L_gapBetween 42 = .ok (.iconst (-1), 1) := by decide +kernel
theorem d_L_gapBetween_43 : decode b_L_gapBetween 43 = .ok (.ireturn, 1) := by decide +kernel
theorem d_L_firstShared_0 : decode b_L_firstShared 0 = .ok (.aload_n 0, 1) := by decide +kernel
theorem d_L_firstShared_1 : decode b_L_firstShared 1 = .ok (.getfield 24, 3) := by decide +kernel
theorem d_L_firstShared_4 : decode b_L_firstShared 4 = .ok (.iload_n 1, 1) := by decide +kernel
theorem d_L_firstShared_5 : decode b_L_firstShared 5 = .ok (.aaload, 1) := by decide +kernel
theorem d_L_firstShared_6 : decode b_L_firstShared 6 = .ok (.getfield 61, 3) := by decide +kernel
theorem d_L_firstShared_9 : decode b_L_firstShared 9 = .ok (.aload_n 0, 1) := by decide +kernel
theorem d_L_firstShared_10 : decode b_L_firstShared 10 = .ok (.getfield 24, 3) := by decide +kernel
theorem d_L_firstShared_13 : decode b_L_firstShared 13 = .ok (.iload_n 2, 1) := by decide +kernel
theorem d_L_firstShared_14 : decode b_L_firstShared 14 = .ok (.aaload, 1) := by decide +kernel
theorem d_L_firstShared_15 : decode b_L_firstShared 15 = .ok (.getfield 61, 3) := by decide +kernel
theorem d_L_firstShared_18 : decode b_L_firstShared 18 = .ok (.invokestatic 78, 3) := by decide +kernel
theorem d_L_firstShared_21 : decode b_L_firstShared 21 = .ok (.ireturn, 1) := by decide +kernel
theorem d_L_lastShared_0 : decode b_L_lastShared 0 = .ok (.aload_n 0, 1) := by decide +kernel
theorem d_L_lastShared_1 : decode b_L_lastShared 1 = .ok (.getfield 24, 3) := by decide +kernel
theorem d_L_lastShared_4 : decode b_L_lastShared 4 = .ok (.iload_n 1, 1) := by decide +kernel
theorem d_L_lastShared_5 : decode b_L_lastShared 5 = .ok (.aaload, 1) := by decide +kernel
theorem d_L_lastShared_6 : decode b_L_lastShared 6 = .ok (.getfield 64, 3) := by decide +kernel
theorem d_L_lastShared_9 : decode b_L_lastShared 9 = .ok (.aload_n 0, 1) := by decide +kernel
theorem d_L_lastShared_10 : decode b_L_lastShared 10 = .ok (.getfield 24, 3) := by decide +kernel
theorem d_L_lastShared_13 : decode b_L_lastShared 13 = .ok (.iload_n 2, 1) := by decide +kernel
theorem d_L_lastShared_14 : decode b_L_lastShared 14 = .ok (.aaload, 1) := by decide +kernel
theorem d_L_lastShared_15 : decode b_L_lastShared 15 = .ok (.getfield 64, 3) := by decide +kernel
theorem d_L_lastShared_18 : decode b_L_lastShared 18 = .ok (.invokestatic 84, 3) := by decide +kernel
theorem d_L_lastShared_21 : decode b_L_lastShared 21 = .ok (.ireturn, 1) := by decide +kernel
theorem d_L_endOf_0 : decode b_L_endOf 0 = .ok (.aload_n 0, 1) := by decide +kernel
theorem d_L_endOf_1 : decode b_L_endOf 1 = .ok (.getfield 12, 3) := by decide +kernel
theorem d_L_endOf_4 : decode b_L_endOf 4 = .ok (.aload_n 0, 1) := by decide +kernel
theorem d_L_endOf_5 : decode b_L_endOf 5 = .ok (.getfield 12, 3) := by decide +kernel
theorem d_L_endOf_8 : decode b_L_endOf 8 = .ok (.iload_n 2, 1) := by decide +kernel
theorem d_L_endOf_9 : decode b_L_endOf 9 = .ok (.invokevirtual 87, 3) := by decide +kernel
theorem d_L_endOf_12 : decode b_L_endOf 12 = .ok (.aload_n 0, 1) := by decide +kernel
theorem d_L_endOf_13 : decode b_L_endOf 13 = .ok (.getfield 24, 3) := by decide +kernel
theorem d_L_endOf_16 : decode b_L_endOf 16 = .ok (.iload_n 1, 1) := by decide +kernel
theorem d_L_endOf_17 : decode b_L_endOf 17 = .ok (.aaload, 1) := by decide +kernel
theorem d_L_endOf_18 : decode b_L_endOf 18 = .ok (.getfield 91, 3) := by decide +kernel
theorem d_L_endOf_21 : decode b_L_endOf 21 = .ok (.iadd, 1) := by decide +kernel
theorem d_L_endOf_22 : decode b_L_endOf 22 = .ok (.iconst 1, 1) := by decide +kernel
theorem d_L_endOf_23 : decode b_L_endOf 23 = .ok (.isub, 1) := by decide +kernel
theorem d_L_endOf_24 : decode b_L_endOf 24 = .ok (.invokevirtual 94, 3) := by decide +kernel
theorem d_L_endOf_27 : decode b_L_endOf 27 = .ok (.iconst 1, 1) := by decide +kernel
theorem d_L_endOf_28 : decode b_L_endOf 28 = .ok (.iadd, 1) := by decide +kernel
theorem d_L_endOf_29 : decode b_L_endOf 29 = .ok (.ireturn, 1) := by decide +kernel
theorem d_L_passTime_0 : decode b_L_passTime 0 = .ok (.aload_n 0, 1) := by decide +kernel
theorem d_L_passTime_1 : decode b_L_passTime 1 = .ok (.getfield 24, 3) := by decide +kernel
theorem d_L_passTime_4 : decode b_L_passTime 4 = .ok (.iload_n 1, 1) := by decide +kernel
theorem d_L_passTime_5 : decode b_L_passTime 5 = .ok (.aaload, 1) := by decide +kernel
theorem d_L_passTime_6 : decode b_L_passTime 6 = .ok (.astore 5, 2) := by decide +kernel
theorem d_L_passTime_8 : decode b_L_passTime 8 = .ok (.aload 5, 2) := by decide +kernel
theorem d_L_passTime_10 : decode b_L_passTime 10 = .ok (.iload_n 3, 1) := by decide +kernel
theorem d_L_passTime_11 : decode b_L_passTime 11 = .ok (.aload_n 2, 1) := by decide +kernel
theorem d_L_passTime_12 : decode b_L_passTime 12 = .ok (.getfield 97, 3) := by decide +kernel
theorem d_L_passTime_15 : decode b_L_passTime 15 = .ok (.iload_n 1, 1) := by decide +kernel
theorem d_L_passTime_16 : decode b_L_passTime 16 = .ok (.iaload, 1) := by decide +kernel
theorem d_L_passTime_17 : decode b_L_passTime 17 = .ok (.invokevirtual 102, 3) := by decide +kernel
theorem d_L_passTime_20 : decode b_L_passTime 20 = .ok (.istore 6, 2) := by decide +kernel
theorem d_L_passTime_22 : decode b_L_passTime 22 = .ok (.aload 5, 2) := by decide +kernel
theorem d_L_passTime_24 : decode b_L_passTime 24 = .ok (.iload 6, 2) := by decide +kernel
theorem d_L_passTime_26 : decode b_L_passTime 26 = .ok (.iload 4, 2) := by decide +kernel
theorem d_L_passTime_28 : decode b_L_passTime 28 = .ok (.invokevirtual 105, 3) := by decide +kernel
theorem d_L_passTime_31 : decode b_L_passTime 31 = .ok (.istore 7, 2) := by decide +kernel
theorem d_L_passTime_33 : decode b_L_passTime 33 = .ok (.aload_n 0, 1) := by decide +kernel
theorem d_L_passTime_34 : decode b_L_passTime 34 = .ok (.getfield 12, 3) := by decide +kernel
theorem d_L_passTime_37 : decode b_L_passTime 37 = .ok (.aload_n 0, 1) := by decide +kernel
theorem d_L_passTime_38 : decode b_L_passTime 38 = .ok (.getfield 12, 3) := by decide +kernel
theorem d_L_passTime_41 : decode b_L_passTime 41 = .ok (.aload_n 2, 1) := by decide +kernel
theorem d_L_passTime_42 : decode b_L_passTime 42 = .ok (.getfield 109, 3) := by decide +kernel
theorem d_L_passTime_45 : decode b_L_passTime 45 = .ok (.iload_n 1, 1) := by decide +kernel
theorem d_L_passTime_46 : decode b_L_passTime 46 = .ok (.iaload, 1) := by decide +kernel
theorem d_L_passTime_47 : decode b_L_passTime 47 = .ok (.invokevirtual 87, 3) := by decide +kernel
theorem d_L_passTime_50 : decode b_L_passTime 50 = .ok (.iload 7, 2) := by decide +kernel
theorem d_L_passTime_52 : decode b_L_passTime 52 = .ok (.iadd, 1) := by decide +kernel
theorem d_L_passTime_53 : decode b_L_passTime 53 = .ok (.invokevirtual 94, 3) := by decide +kernel
theorem d_L_passTime_56 : decode b_L_passTime 56 = .ok (.istore 8, 2) := by decide +kernel
theorem d_L_passTime_58 : decode b_L_passTime 58 = .ok (.iload 8, 2) := by decide +kernel
theorem d_L_passTime_60 : decode b_L_passTime 60 = .ok (.aload 5, 2) := by decide +kernel
theorem d_L_passTime_62 : decode b_L_passTime 62 = .ok (.getfield 112, 3) := by decide +kernel
theorem d_L_passTime_65 : decode b_L_passTime 65 = .ok (.imul, 1) := by decide +kernel
theorem d_L_passTime_66 : decode b_L_passTime 66 = .ok (.iload 6, 2) := by decide +kernel
theorem d_L_passTime_68 : decode b_L_passTime 68 = .ok (.iadd, 1) := by decide +kernel
theorem d_L_passTime_69 : decode b_L_passTime 69 = .ok (.iload 7, 2) := by decide +kernel
theorem d_L_passTime_71 : decode b_L_passTime 71 = .ok (.aload 5, 2) := by decide +kernel
theorem d_L_passTime_73 : decode b_L_passTime 73 = .ok (.getfield 112, 3) := by decide +kernel
theorem d_L_passTime_76 : decode b_L_passTime 76 = .ok (.imul, 1) := by decide +kernel
theorem d_L_passTime_77 : decode b_L_passTime 77 = .ok (.isub, 1) := by decide +kernel
theorem d_L_passTime_78 : decode b_L_passTime 78 = .ok (.ireturn, 1) := by decide +kernel
theorem d_L_placeOn_0 : decode b_L_placeOn 0 = .ok (.aload_n 0, 1) := by decide +kernel
theorem d_L_placeOn_1 : decode b_L_placeOn 1 = .ok (.getfield 24, 3) := by decide +kernel
theorem d_L_placeOn_4 : decode b_L_placeOn 4 = .ok (.iload_n 1, 1) := by decide +kernel
theorem d_L_placeOn_5 : decode b_L_placeOn 5 = .ok (.aaload, 1) := by decide +kernel
theorem d_L_placeOn_6 : decode b_L_placeOn 6 = .ok (.astore 4, 2) := by decide +kernel
theorem d_L_placeOn_8 : decode b_L_placeOn 8 = .ok (.aload_n 2, 1) := by decide +kernel
theorem d_L_placeOn_9 : decode b_L_placeOn 9 = .ok (.getfield 109, 3) := by decide +kernel
theorem d_L_placeOn_12 : decode b_L_placeOn 12 = .ok (.iload_n 1, 1) := by decide +kernel
theorem d_L_placeOn_13 : decode b_L_placeOn 13 = .ok (.iaload, 1) := by decide +kernel
theorem d_L_placeOn_14 : decode b_L_placeOn 14 = .ok (.istore 5, 2) := by decide +kernel
theorem d_L_placeOn_16 : decode b_L_placeOn 16 = .ok (.iconst 0, 1) := by decide +kernel
theorem d_L_placeOn_17 : decode b_L_placeOn 17 = .ok (.istore 6, 2) := by decide +kernel
theorem d_L_placeOn_19 : decode b_L_placeOn 19 = .ok (.iload_n 3, 1) := by decide +kernel
theorem d_L_placeOn_20 : decode b_L_placeOn 20 = .ok (.aload_n 0, 1) := by decide +kernel
theorem d_L_placeOn_21 : decode b_L_placeOn 21 = .ok (.iload_n 1, 1) := by decide +kernel
theorem d_L_placeOn_22 : decode b_L_placeOn 22 = .ok (.iload 5, 2) := by decide +kernel
theorem d_L_placeOn_24 : decode b_L_placeOn 24 = .ok (.invokevirtual 115, 3) := by decide +kernel
theorem d_L_placeOn_27 : decode b_L_placeOn 27 = .ok (.if_icmp .lt 19, 3) := by decide +kernel
theorem d_L_placeOn_30 : decode b_L_placeOn 30 = .ok (.aload 4, 2) := by decide +kernel
theorem d_L_placeOn_32 : decode b_L_placeOn 32 = .ok (.getfield 64, 3) := by decide +kernel
theorem d_L_placeOn_35 : decode b_L_placeOn 35 = .ok (.aload 4, 2) := by decide +kernel
theorem d_L_placeOn_37 : decode b_L_placeOn 37 = .ok (.getfield 61, 3) := by decide +kernel
theorem d_L_placeOn_40 : decode b_L_placeOn 40 = .ok (.isub, 1) := by decide +kernel
theorem d_L_placeOn_41 : decode b_L_placeOn 41 = .ok (.istore 6, 2) := by decide +kernel
theorem d_L_placeOn_43 : decode b_L_placeOn 43 = .ok (.goto 35, 3) := by decide +kernel
theorem d_L_placeOn_46 : decode b_L_placeOn 46 = .ok (.iload_n 3, 1) := by decide +kernel
theorem d_L_placeOn_47 : decode b_L_placeOn 47 = .ok (.iload 5, 2) := by decide +kernel
theorem d_L_placeOn_49 : decode b_L_placeOn 49 = .ok (.if_icmp .le 29, 3) := by decide +kernel
theorem d_L_placeOn_52 : decode b_L_placeOn 52 = .ok (.aload_n 0, 1) := by decide +kernel
theorem d_L_placeOn_53 : decode b_L_placeOn 53 = .ok (.getfield 12, 3) := by decide +kernel
theorem d_L_placeOn_56 : decode b_L_placeOn 56 = .ok (.iload_n 3, 1) := by decide +kernel
theorem d_L_placeOn_57 : decode b_L_placeOn 57 = .ok (.invokevirtual 87, 3) := by decide +kernel
theorem d_L_placeOn_60 : decode b_L_placeOn 60 = .ok (.aload_n 0, 1) := by decide +kernel
theorem d_L_placeOn_61 : decode b_L_placeOn 61 = .ok (.getfield 12, 3) := by decide +kernel
theorem d_L_placeOn_64 : decode b_L_placeOn 64 = .ok (.iload 5, 2) := by decide +kernel
theorem d_L_placeOn_66 : decode b_L_placeOn 66 = .ok (.invokevirtual 87, 3) := by decide +kernel
theorem d_L_placeOn_69 : decode b_L_placeOn 69 = .ok (.isub, 1) := by decide +kernel
theorem d_L_placeOn_70 : decode b_L_placeOn 70 = .ok (.aload 4, 2) := by decide +kernel
theorem d_L_placeOn_72 : decode b_L_placeOn 72 = .ok (.getfield 112, 3) := by decide +kernel
theorem d_L_placeOn_75 : decode b_L_placeOn 75 = .ok (.imul, 1) := by decide +kernel
theorem d_L_placeOn_76 : decode b_L_placeOn 76 = .ok (.istore 6, 2) := by decide +kernel
theorem d_L_placeOn_78 : decode b_L_placeOn 78 = .ok (.aload_n 2, 1) := by decide +kernel
theorem d_L_placeOn_79 : decode b_L_placeOn 79 = .ok (.getfield 97, 3) := by decide +kernel
theorem d_L_placeOn_82 : decode b_L_placeOn 82 = .ok (.iload_n 1, 1) := by decide +kernel
theorem d_L_placeOn_83 : decode b_L_placeOn 83 = .ok (.iaload, 1) := by decide +kernel
theorem d_L_placeOn_84 : decode b_L_placeOn 84 = .ok (.ifCond .ne 14, 3) := by decide +kernel
theorem d_L_placeOn_87 : decode b_L_placeOn 87 = .ok (.aload 4, 2) := by decide +kernel
theorem d_L_placeOn_89 : decode b_L_placeOn 89 = .ok (.getfield 61, 3) := by decide +kernel
theorem d_L_placeOn_92 : decode b_L_placeOn 92 = .ok (.iload 6, 2) := by decide +kernel
theorem d_L_placeOn_94 : decode b_L_placeOn 94 = .ok (.iadd, 1) := by decide +kernel
theorem d_L_placeOn_95 : decode b_L_placeOn 95 = .ok (.goto 11, 3) := by decide +kernel
theorem d_L_placeOn_98 : decode b_L_placeOn 98 = .ok (.aload 4, 2) := by decide +kernel
theorem d_L_placeOn_100 : decode b_L_placeOn 100 = .ok (.getfield 64, 3) := by decide +kernel
theorem d_L_placeOn_103 : decode b_L_placeOn 103 = .ok (.iload 6, 2) := by decide +kernel
theorem d_L_placeOn_105 : decode b_L_placeOn 105 = .ok (.isub, 1) := by decide +kernel
theorem d_L_placeOn_106 : decode b_L_placeOn 106 = .ok (.ireturn, 1) := by decide +kernel
theorem d_L_daysOfCrew_0 : decode b_L_daysOfCrew 0 = .ok (.iconst 0, 1) := by decide +kernel
theorem d_L_daysOfCrew_1 : decode b_L_daysOfCrew 1 = .ok (.istore_n 2, 1) := by decide +kernel
theorem d_L_daysOfCrew_2 : decode b_L_daysOfCrew 2 = .ok (.iconst 0, 1) := by decide +kernel
theorem d_L_daysOfCrew_3 : decode b_L_daysOfCrew 3 = .ok (.istore_n 3, 1) := by decide +kernel
theorem d_L_daysOfCrew_4 : decode b_L_daysOfCrew 4 = .ok (.iload_n 3, 1) := by decide +kernel
theorem d_L_daysOfCrew_5 : decode b_L_daysOfCrew 5 = .ok (.aload_n 0, 1) := by decide +kernel
theorem d_L_daysOfCrew_6 : decode b_L_daysOfCrew 6 = .ok (.getfield 48, 3) := by decide +kernel
theorem d_L_daysOfCrew_9 : decode b_L_daysOfCrew 9 = .ok (.if_icmp .ge 34, 3) := by decide +kernel
theorem d_L_daysOfCrew_12 : decode b_L_daysOfCrew 12 = .ok (.aload_n 0, 1) := by decide +kernel
theorem d_L_daysOfCrew_13 : decode b_L_daysOfCrew 13 = .ok (.getfield 24, 3) := by decide +kernel
theorem d_L_daysOfCrew_16 : decode b_L_daysOfCrew 16 = .ok (.iload_n 3, 1) := by decide +kernel
theorem d_L_daysOfCrew_17 : decode b_L_daysOfCrew 17 = .ok (.aaload, 1) := by decide +kernel
theorem d_L_daysOfCrew_18 : decode b_L_daysOfCrew 18 = .ok (.getfield 55, 3) := by decide +kernel
theorem d_L_daysOfCrew_21 : decode b_L_daysOfCrew 21 = .ok (.iload_n 1, 1) := by decide +kernel
theorem d_L_daysOfCrew_22 : decode b_L_daysOfCrew 22 = .ok (.if_icmp .ne 15, 3) := by decide +kernel
theorem d_L_daysOfCrew_25 : decode b_L_daysOfCrew 25 = .ok (.iload_n 2, 1) := by decide +kernel
theorem d_L_daysOfCrew_26 : decode b_L_daysOfCrew 26 = .ok (.aload_n 0, 1) := by decide +kernel
theorem d_L_daysOfCrew_27 : decode b_L_daysOfCrew 27 = .ok (.getfield 24, 3) := by decide +kernel
theorem d_L_daysOfCrew_30 : decode b_L_daysOfCrew 30 = .ok (.iload_n 3, 1) := by decide +kernel
theorem d_L_daysOfCrew_31 : decode b_L_daysOfCrew 31 = .ok (.aaload, 1) := by decide +kernel
theorem d_L_daysOfCrew_32 : decode b_L_daysOfCrew 32 = .ok (.getfield 91, 3) := by decide +kernel
theorem d_L_daysOfCrew_35 : decode b_L_daysOfCrew 35 = .ok (.iadd, 1) := by decide +kernel
theorem d_L_daysOfCrew_36 : decode b_L_daysOfCrew 36 = .ok (.istore_n 2, 1) := by decide +kernel
theorem d_L_daysOfCrew_37 : decode b_L_daysOfCrew 37 = .ok (.iinc 3 1, 3) := by decide +kernel
theorem d_L_daysOfCrew_40 : decode b_L_daysOfCrew 40 = .ok (.goto (-36), 3) := by decide +kernel
theorem d_L_daysOfCrew_43 : decode b_L_daysOfCrew 43 = .ok (.iload_n 2, 1) := by decide +kernel
theorem d_L_daysOfCrew_44 : decode b_L_daysOfCrew 44 = .ok (.ireturn, 1) := by decide +kernel
theorem d_L_frozenWorks_0 : decode b_L_frozenWorks 0 = .ok (.iconst 0, 1) := by decide +kernel
theorem d_L_frozenWorks_1 : decode b_L_frozenWorks 1 = .ok (.istore_n 1, 1) := by decide +kernel
theorem d_L_frozenWorks_2 : decode b_L_frozenWorks 2 = .ok (.iconst 0, 1) := by decide +kernel
theorem d_L_frozenWorks_3 : decode b_L_frozenWorks 3 = .ok (.istore_n 2, 1) := by decide +kernel
theorem d_L_frozenWorks_4 : decode b_L_frozenWorks 4 = .ok (.iload_n 2, 1) := by decide +kernel
theorem d_L_frozenWorks_5 : decode b_L_frozenWorks 5 = .ok (.aload_n 0, 1) := by decide +kernel
theorem d_L_frozenWorks_6 : decode b_L_frozenWorks 6 = .ok (.getfield 48, 3) := by decide +kernel
theorem d_L_frozenWorks_9 : decode b_L_frozenWorks 9 = .ok (.if_icmp .ge 24, 3) := by decide +kernel
theorem d_L_frozenWorks_12 : decode b_L_frozenWorks 12 = .ok (.aload_n 0, 1) := by decide +kernel
theorem d_L_frozenWorks_13 : decode b_L_frozenWorks 13 = .ok (.getfield 24, 3) := by decide +kernel
theorem d_L_frozenWorks_16 : decode b_L_frozenWorks 16 = .ok (.iload_n 2, 1) := by decide +kernel
theorem d_L_frozenWorks_17 : decode b_L_frozenWorks 17 = .ok (.aaload, 1) := by decide +kernel
theorem d_L_frozenWorks_18 : decode b_L_frozenWorks 18 = .ok (.getfield 118, 3) := by decide +kernel
theorem d_L_frozenWorks_21 : decode b_L_frozenWorks 21 = .ok (.ifCond .eq 6, 3) := by decide +kernel
theorem d_L_frozenWorks_24 : decode b_L_frozenWorks 24 = .ok (.iinc 1 1, 3) := by decide +kernel
theorem d_L_frozenWorks_27 : decode b_L_frozenWorks 27 = .ok (.iinc 2 1, 3) := by decide +kernel
theorem d_L_frozenWorks_30 : decode b_L_frozenWorks 30 = .ok (.goto (-26), 3) := by decide +kernel
theorem d_L_frozenWorks_33 : decode b_L_frozenWorks 33 = .ok (.iload_n 1, 1) := by decide +kernel
theorem d_L_frozenWorks_34 : decode b_L_frozenWorks 34 = .ok (.ireturn, 1) := by decide +kernel
theorem d_P_init_0 : decode b_P_init 0 = .ok (.aload_n 0, 1) := by decide +kernel
theorem d_P_init_1 : decode b_P_init 1 = .ok (.invokespecial 3, 3) := by decide +kernel
theorem d_P_init_4 : decode b_P_init 4 = .ok (.aload_n 0, 1) := by decide +kernel
theorem d_P_init_5 : decode b_P_init 5 = .ok (.bipush 6, 2) := by decide +kernel
theorem d_P_init_7 : decode b_P_init 7 = .ok (.newarray .int, 2) := by decide +kernel
theorem d_P_init_9 : decode b_P_init 9 = .ok (.putfield 9, 3) := by decide +kernel
theorem d_P_init_12 : decode b_P_init 12 = .ok (.aload_n 0, 1) := by decide +kernel
theorem d_P_init_13 : decode b_P_init 13 = .ok (.bipush 6, 2) := by decide +kernel
theorem d_P_init_15 : decode b_P_init 15 = .ok (.newarray .int, 2) := by decide +kernel
theorem d_P_init_17 : decode b_P_init 17 = .ok (.putfield 15, 3) := by decide +kernel
theorem d_P_init_20 : decode b_P_init 20 = .ok (.return_, 1) := by decide +kernel
theorem d_P_put_0 : decode b_P_put 0 = .ok (.iload_n 1, 1) := by decide +kernel
theorem d_P_put_1 : decode b_P_put 1 = .ok (.iconst 0, 1) := by decide +kernel
theorem d_P_put_2 : decode b_P_put 2 = .ok (.iconst 5, 1) := by decide +kernel
theorem d_P_put_3 : decode b_P_put 3 = .ok (.invokestatic 18, 3) := by decide +kernel
theorem d_P_put_6 : decode b_P_put 6 = .ok (.ifCond .eq 17, 3) := by decide +kernel
theorem d_P_put_9 : decode b_P_put 9 = .ok (.aload_n 0, 1) := by decide +kernel
theorem d_P_put_10 : decode b_P_put 10 = .ok (.getfield 9, 3) := by decide +kernel
theorem d_P_put_13 : decode b_P_put 13 = .ok (.iload_n 1, 1) := by decide +kernel
theorem d_P_put_14 : decode b_P_put 14 = .ok (.iload_n 2, 1) := by decide +kernel
theorem d_P_put_15 : decode b_P_put 15 = .ok (.iastore, 1) := by decide +kernel
theorem d_P_put_16 : decode b_P_put 16 = .ok (.aload_n 0, 1) := by decide +kernel
theorem d_P_put_17 : decode b_P_put 17 = .ok (.getfield 15, 3) := by decide +kernel
theorem d_P_put_20 : decode b_P_put 20 = .ok (.iload_n 1, 1) := by decide +kernel
theorem d_P_put_21 : decode b_P_put 21 = .ok (.iload_n 3, 1) := by decide +kernel
theorem d_P_put_22 : decode b_P_put 22 = .ok (.iastore, 1) := by decide +kernel
theorem d_P_put_23 : decode b_P_put 23 = .ok (.return_, 1) := by decide +kernel
theorem d_P_isElsewhere_0 : decode b_P_isElsewhere 0 = .ok (.iload_n 1, 1) := by decide +kernel
theorem d_P_isElsewhere_1 : decode b_P_isElsewhere 1 = .ok (.iconst 0, 1) := by decide +kernel
theorem d_P_isElsewhere_2 : decode b_P_isElsewhere 2 = .ok (.iconst 5, 1) := by decide +kernel
theorem d_P_isElsewhere_3 : decode b_P_isElsewhere 3 = .ok (.invokestatic 18, 3) := by decide +kernel
theorem d_P_isElsewhere_6 : decode b_P_isElsewhere 6 = .ok (.ifCond .eq 27, 3) := by decide +kernel
theorem d_P_isElsewhere_9 : decode b_P_isElsewhere 9 = .ok (.aload_n 0, 1) := by decide +kernel
theorem d_P_isElsewhere_10 : decode b_P_isElsewhere 10 = .ok (.getfield 9, 3) := by decide +kernel
theorem d_P_isElsewhere_13 : decode b_P_isElsewhere 13 = .ok (.iload_n 1, 1) := by decide +kernel
theorem d_P_isElsewhere_14 : decode b_P_isElsewhere 14 = .ok (.iaload, 1) := by decide +kernel
theorem d_P_isElsewhere_15 : decode b_P_isElsewhere 15 = .ok (.iload_n 2, 1) := by decide +kernel
theorem d_P_isElsewhere_16 : decode b_P_isElsewhere 16 = .ok (.if_icmp .ne 13, 3) := by decide +kernel
theorem d_P_isElsewhere_19 : decode b_P_isElsewhere 19 = .ok (.aload_n 0, 1) := by decide +kernel
theorem d_P_isElsewhere_20 : decode b_P_isElsewhere 20 = .ok (.getfield 15, 3) := by decide +kernel
theorem d_P_isElsewhere_23 : decode b_P_isElsewhere 23 = .ok (.iload_n 1, 1) := by decide +kernel
theorem d_P_isElsewhere_24 : decode b_P_isElsewhere 24 = .ok (.iaload, 1) := by decide +kernel
theorem d_P_isElsewhere_25 : decode b_P_isElsewhere 25 = .ok (.iload_n 3, 1) := by decide +kernel
theorem d_P_isElsewhere_26 : decode b_P_isElsewhere 26 = .ok (.if_icmp .eq 7, 3) := by decide +kernel
theorem d_P_isElsewhere_29 : decode b_P_isElsewhere 29 = .ok (.iconst 1, 1) := by decide +kernel
theorem d_P_isElsewhere_30 : decode b_P_isElsewhere 30 = .ok (.goto 4, 3) := by decide +kernel
theorem d_P_isElsewhere_33 : decode b_P_isElsewhere 33 = .ok (.iconst 0, 1) := by decide +kernel
theorem d_P_isElsewhere_34 : decode b_P_isElsewhere 34 = .ok (.ireturn, 1) := by decide +kernel
