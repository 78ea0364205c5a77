theorem d_T_init_0 : decode b_T_init 0 = .ok (.aload_n 0, 1) := by decide +kernel
theorem d_T_init_1 : decode b_T_init 1 = .ok (.invokespecial 1, 3) := by decide +kernel
theorem d_T_init_4 : decode b_T_init 4 = .ok (.aload_n 0, 1) := by decide +kernel
theorem d_T_init_5 : decode b_T_init 5 = .ok (.new 7, 3) := by decide +kernel
theorem d_T_init_8 : decode b_T_init 8 = .ok (.dup, 1) := by decide +kernel
theorem d_T_init_9 : decode b_T_init 9 = .ok (.invokespecial 9, 3) := by decide +kernel
theorem d_T_init_12 : decode b_T_init 12 = .ok (.putfield 10, 3) := by decide +kernel
theorem d_T_init_15 : decode b_T_init 15 = .ok (.aload_n 0, 1) := by decide +kernel
theorem d_T_init_16 : decode b_T_init 16 = .ok (.new 16, 3) := by decide +kernel
theorem d_T_init_19 : decode b_T_init 19 = .ok (.dup, 1) := by decide +kernel
theorem d_T_init_20 : decode b_T_init 20 = .ok (.aload_n 0, 1) := by decide +kernel
theorem d_T_init_21 : decode b_T_init 21 = .ok (.getfield 10, 3) := by decide +kernel
theorem d_T_init_24 : decode b_T_init 24 = .ok (.invokespecial 18, 3) := by decide +kernel
theorem d_T_init_27 : decode b_T_init 27 = .ok (.putfield 21, 3) := by decide +kernel
theorem d_T_init_30 : decode b_T_init 30 = .ok (.aload_n 0, 1) := by decide +kernel
theorem d_T_init_31 : decode b_T_init 31 = .ok (.new 25, 3) := by decide +kernel
theorem d_T_init_34 : decode b_T_init 34 = .ok (.dup, 1) := by decide +kernel
theorem d_T_init_35 : decode b_T_init 35 = .ok (.invokespecial 27, 3) := by decide +kernel
theorem d_T_init_38 : decode b_T_init 38 = .ok (.putfield 28, 3) := by decide +kernel
theorem d_T_init_41 : decode b_T_init 41 = .ok (.aload_n 0, 1) := by decide +kernel
theorem d_T_init_42 : decode b_T_init 42 = .ok (.new 32, 3) := by decide +kernel
theorem d_T_init_45 : decode b_T_init 45 = .ok (.dup, 1) := by decide +kernel
theorem d_T_init_46 : decode b_T_init 46 = .ok (.aload_n 0, 1) := by decide +kernel
theorem d_T_init_47 : decode b_T_init 47 = .ok (.getfield 10, 3) := by decide +kernel
theorem d_T_init_50 : decode b_T_init 50 = .ok (.aload_n 0, 1) := by decide +kernel
theorem d_T_init_51 : decode b_T_init 51 = .ok (.getfield 21, 3) := by decide +kernel
theorem d_T_init_54 : decode b_T_init 54 = .ok (.aload_n 0, 1) := by decide +kernel
theorem d_T_init_55 : decode b_T_init 55 = .ok (.getfield 28, 3) := by decide +kernel
theorem d_T_init_58 : decode b_T_init 58 = .ok (.invokespecial 34, 3) := by decide +kernel
theorem d_T_init_61 : decode b_T_init 61 = .ok (.putfield 37, 3) := by decide +kernel
theorem d_T_init_64 : decode b_T_init 64 = .ok (.aload_n 0, 1) := by decide +kernel
theorem d_T_init_65 : decode b_T_init 65 = .ok (.new 41, 3) := by decide +kernel
theorem d_T_init_68 : decode b_T_init 68 = .ok (.dup, 1) := by decide +kernel
theorem d_T_init_69 : decode b_T_init 69 = .ok (.invokespecial 43, 3) := by decide +kernel
theorem d_T_init_72 : decode b_T_init 72 = .ok (.putfield 44, 3) := by decide +kernel
theorem d_T_init_75 : decode b_T_init 75 = .ok (.aload_n 0, 1) := by decide +kernel
theorem d_T_init_76 : decode b_T_init 76 = .ok (.new 48, 3) := by decide +kernel
theorem d_T_init_79 : decode b_T_init 79 = .ok (.dup, 1) := by decide +kernel
theorem d_T_init_80 : decode b_T_init 80 = .ok (.aload_n 0, 1) := by decide +kernel
theorem d_T_init_81 : decode b_T_init 81 = .ok (.getfield 10, 3) := by decide +kernel
theorem d_T_init_84 : decode b_T_init 84 = .ok (.aload_n 0, 1) := by decide +kernel
theorem d_T_init_85 : decode b_T_init 85 = .ok (.getfield 28, 3) := by decide +kernel
theorem d_T_init_88 : decode b_T_init 88 = .ok (.invokespecial 50, 3) := by decide +kernel
theorem d_T_init_91 : decode b_T_init 91 = .ok (.putfield 53, 3) := by decide +kernel
theorem d_T_init_94 : decode b_T_init 94 = .ok (.aload_n 0, 1) := by decide +kernel
theorem d_T_init_95 : decode b_T_init 95 = .ok (.bipush 6, 2) := by decide +kernel
theorem d_T_init_97 : decode b_T_init 97 = .ok (.newarray .boolean, 2) := by decide +kernel
theorem d_T_init_99 : decode b_T_init 99 = .ok (.putfield 57, 3) := by decide +kernel
theorem d_T_init_102 : decode b_T_init 102 = .ok (.return_, 1) := by decide +kernel
theorem d_T_crew_0 : decode b_T_crew 0 = .ok (.iload_n 1, 1) := by decide +kernel
theorem d_T_crew_1 : decode b_T_crew 1 = .ok (.invokestatic 61, 3) := by decide +kernel
theorem d_T_crew_4 : decode b_T_crew 4 = .ok (.ifCond .eq 14, 3) := by decide +kernel
theorem d_T_crew_7 : decode b_T_crew 7 = .ok (.aload_n 0, 1) := by decide +kernel
theorem d_T_crew_8 : decode b_T_crew 8 = .ok (.getfield 10, 3) := by decide +kernel
theorem d_T_crew_11 : decode b_T_crew 11 = .ok (.getfield 65, 3) := by decide +kernel
theorem d_T_crew_14 : decode b_T_crew 14 = .ok (.iconst 4, 1) := by decide +kernel
theorem d_T_crew_15 : decode b_T_crew 15 = .ok (.if_icmp .lt 5, 3) := by decide +kernel
theorem d_T_crew_18 : decode b_T_crew 18 = .ok (.iconst (-1), 1) := by decide +kernel
theorem d_T_crew_19 : decode b_T_crew 19 = .ok (.ireturn, 1) := by decide +kernel
theorem d_T_crew_20 : decode b_T_crew 20 = .ok (.aload_n 0, 1) := by decide +kernel
theorem d_T_crew_21 : decode b_T_crew 21 = .ok (.getfield 10, 3) := by decide +kernel
theorem d_T_crew_24 : decode b_T_crew 24 = .ok (.iload_n 1, 1) := by decide +kernel
theorem d_T_crew_25 : decode b_T_crew 25 = .ok (.invokevirtual 69, 3) := by decide +kernel
theorem d_T_crew_28 : decode b_T_crew 28 = .ok (.istore_n 2, 1) := by decide +kernel
theorem d_T_crew_29 : decode b_T_crew 29 = .ok (.aload_n 0, 1) := by decide +kernel
theorem d_T_crew_30 : decode b_T_crew 30 = .ok (.invokevirtual 73, 3) := by decide +kernel
theorem d_T_crew_33 : decode b_T_crew 33 = .ok (.iload_n 2, 1) := by decide +kernel
theorem d_T_crew_34 : decode b_T_crew 34 = .ok (.ireturn, 1) := by decide +kernel
theorem d_T_work_0 : decode b_T_work 0 = .ok (.iload_n 1, 1) := by decide +kernel
theorem d_T_work_1 : decode b_T_work 1 = .ok (.ifCond .lt 18, 3) := by decide +kernel
theorem d_T_work_4 : decode b_T_work 4 = .ok (.iload_n 1, 1) := by decide +kernel
theorem d_T_work_5 : decode b_T_work 5 = .ok (.aload_n 0, 1) := by decide +kernel
theorem d_T_work_6 : decode b_T_work 6 = .ok (.getfield 10, 3) := by decide +kernel
theorem d_T_work_9 : decode b_T_work 9 = .ok (.getfield 65, 3) := by decide +kernel
theorem d_T_work_12 : decode b_T_work 12 = .ok (.if_icmp .ge 7, 3) := by decide +kernel
theorem d_T_work_15 : decode b_T_work 15 = .ok (.iconst 1, 1) := by decide +kernel
theorem d_T_work_16 : decode b_T_work 16 = .ok (.goto 4, 3) := by decide +kernel
theorem d_T_work_19 : decode b_T_work 19 = .ok (.iconst 0, 1) := by decide +kernel
theorem d_T_work_20 : decode b_T_work 20 = .ok (.istore 6, 2) := by decide +kernel
theorem d_T_work_22 : decode b_T_work 22 = .ok (.iconst 0, 1) := by decide +kernel
theorem d_T_work_23 : decode b_T_work 23 = .ok (.iload_n 2, 1) := by decide +kernel
theorem d_T_work_24 : decode b_T_work 24 = .ok (.if_icmp .gt 19, 3) := by decide +kernel
theorem d_T_work_27 : decode b_T_work 27 = .ok (.iload_n 2, 1) := by decide +kernel
theorem d_T_work_28 : decode b_T_work 28 = .ok (.iload_n 3, 1) := by decide +kernel
theorem d_T_work_29 : decode b_T_work 29 = .ok (.if_icmp .ge 14, 3) := by decide +kernel
theorem d_T_work_32 : decode b_T_work 32 = .ok (.iload_n 3, 1) := by decide +kernel
theorem d_T_work_33 : decode b_T_work 33 = .ok (.sipush 200, 3) := by decide +kernel
theorem d_T_work_36 : decode b_T_work 36 = .ok (.if_icmp .gt 7, 3) := by decide +kernel
theorem d_T_work_39 : decode b_T_work 39 = .ok (.iconst 1, 1) := by decide +kernel
theorem d_T_work_40 : decode b_T_work 40 = .ok (.goto 4, 3) := by decide +kernel
theorem d_T_work_43 : decode b_T_work 43 = .ok (.iconst 0, 1) := by decide +kernel
theorem d_T_work_44 : decode b_T_work 44 = .ok (.istore 7, 2) := by decide +kernel
theorem d_T_work_46 : decode b_T_work 46 = .ok (.iload 6, 2) := by decide +kernel
theorem d_T_work_48 : decode b_T_work 48 = .ok (.ifCond .eq 31, 3) := by decide +kernel
theorem d_T_work_51 : decode b_T_work 51 = .ok (.iload 7, 2) := by decide +kernel
theorem d_T_work_53 : decode b_T_work 53 = .ok (.ifCond .eq 26, 3) := by decide +kernel
theorem d_T_work_56 : decode b_T_work 56 = .ok (.iload 4, 2) := by decide +kernel
theorem d_T_work_58 : decode b_T_work 58 = .ok (.iconst 1, 1) := by decide +kernel
theorem d_T_work_59 : decode b_T_work 59 = .ok (.bipush 50, 2) := by decide +kernel
theorem d_T_work_61 : decode b_T_work 61 = .ok (.invokestatic 76, 3) := by decide +kernel
theorem d_T_work_64 : decode b_T_work 64 = .ok (.ifCond .eq 15, 3) := by decide +kernel
theorem d_T_work_67 : decode b_T_work 67 = .ok (.aload_n 0, 1) := by decide +kernel
theorem d_T_work_68 : decode b_T_work 68 = .ok (.getfield 10, 3) := by decide +kernel
theorem d_T_work_71 : decode b_T_work 71 = .ok (.getfield 80, 3) := by decide +kernel
theorem d_T_work_74 : decode b_T_work 74 = .ok (.bipush 6, 2) := by decide +kernel
theorem d_T_work_76 : decode b_T_work 76 = .ok (.if_icmp .lt 5, 3) := by decide +kernel
theorem d_T_work_79 : decode b_T_work 79 = .ok (.iconst (-1), 1) := by decide +kernel
theorem d_T_work_80 : decode b_T_work 80 = .ok (.ireturn, 1) := by decide +kernel
theorem d_T_work_81 : decode b_T_work 81 = .ok (.aload_n 0, 1) := by decide +kernel
theorem d_T_work_82 : decode b_T_work 82 = .ok (.getfield 10, 3) := by decide +kernel
theorem d_T_work_85 : decode b_T_work 85 = .ok (.iload_n 1, 1) := by decide +kernel
theorem d_T_work_86 : decode b_T_work 86 = .ok (.iload_n 2, 1) := by decide +kernel
theorem d_T_work_87 : decode b_T_work 87 = .ok (.iload_n 3, 1) := by decide +kernel
theorem d_T_work_88 : decode b_T_work 88 = .ok (.iload 4, 2) := by decide +kernel
theorem d_T_work_90 : decode b_T_work 90 = .ok (.iload 5, 2) := by decide +kernel
theorem d_T_work_92 : decode b_T_work 92 = .ok (.invokevirtual 83, 3) := by decide +kernel
theorem d_T_work_95 : decode b_T_work 95 = .ok (.istore 8, 2) := by decide +kernel
theorem d_T_work_97 : decode b_T_work 97 = .ok (.aload_n 0, 1) := by decide +kernel
theorem d_T_work_98 : decode b_T_work 98 = .ok (.invokevirtual 73, 3) := by decide +kernel
theorem d_T_work_101 : decode b_T_work 101 = .ok (.iload 8, 2) := by decide +kernel
theorem d_T_work_103 : decode b_T_work 103 = .ok (.ireturn, 1) := by decide +kernel
theorem d_T_after_0 : decode b_T_after 0 = .ok (.aload_n 0, 1) := by decide +kernel
theorem d_T_after_1 : decode b_T_after 1 = .ok (.iload_n 1, 1) := by decide +kernel
theorem d_T_after_2 : decode b_T_after 2 = .ok (.invokevirtual 87, 3) := by decide +kernel
theorem d_T_after_5 : decode b_T_after 5 = .ok (.ifCond .eq 26, 3) := by decide +kernel
theorem d_T_after_8 : decode b_T_after 8 = .ok (.aload_n 0, 1) := by decide +kernel
theorem d_T_after_9 : decode b_T_after 9 = .ok (.iload_n 2, 1) := by decide +kernel
theorem d_T_after_10 : decode b_T_after 10 = .ok (.invokevirtual 87, 3) := by decide +kernel
theorem d_T_after_13 : decode b_T_after 13 = .ok (.ifCond .eq 18, 3) := by decide +kernel
theorem d_T_after_16 : decode b_T_after 16 = .ok (.iload_n 1, 1) := by decide +kernel
theorem d_T_after_17 : decode b_T_after 17 = .ok (.iload_n 2, 1) := by decide +kernel
theorem d_T_after_18 : decode b_T_after 18 = .ok (.if_icmp .eq 13, 3) := by decide +kernel
theorem d_T_after_21 : decode b_T_after 21 = .ok (.iload_n 3, 1) := by decide +kernel
theorem d_T_after_22 : decode b_T_after 22 = .ok (.iconst 0, 1) := by decide +kernel
theorem d_T_after_23 : decode b_T_after 23 = .ok (.bipush 30, 2) := by decide +kernel
theorem d_T_after_25 : decode b_T_after 25 = .ok (.invokestatic 76, 3) := by decide +kernel
theorem d_T_after_28 : decode b_T_after 28 = .ok (.ifCond .ne 5, 3) := by decide +kernel
theorem d_T_after_31 : decode b_T_after 31 = .ok (.iconst 0, 1) := by decide +kernel
theorem d_T_after_32 : decode b_T_after 32 = .ok (.ireturn, 1) := by decide +kernel
theorem d_T_after_33 : decode b_T_after 33 = .ok (.aload_n 0, 1) := by decide +kernel
theorem d_T_after_34 : decode b_T_after 34 = .ok (.getfield 10, 3) := by decide +kernel
theorem d_T_after_37 : decode b_T_after 37 = .ok (.iload_n 1, 1) := by decide +kernel
theorem d_T_after_38 : decode b_T_after 38 = .ok (.iload_n 2, 1) := by decide +kernel
theorem d_T_after_39 : decode b_T_after 39 = .ok (.iload_n 3, 1) := by decide +kernel
theorem d_T_after_40 : decode b_T_after 40 = .ok (.invokevirtual 90, 3) := by decide +kernel
theorem d_T_after_43 : decode b_T_after 43 = .ok (.aload_n 0, 1) := by decide +kernel
theorem d_T_after_44 : decode b_T_after 44 = .ok (.invokevirtual 73, 3) := by decide +kernel
theorem d_T_after_47 : decode b_T_after 47 = .ok (.iconst 1, 1) := by decide +kernel
theorem d_T_after_48 : decode b_T_after 48 = .ok (.ireturn, 1) := by decide +kernel
theorem d_T_season_0 : decode b_T_season 0 = .ok (.aload_n 0, 1) := by decide +kernel
theorem d_T_season_1 : decode b_T_season 1 = .ok (.iload_n 1, 1) := by decide +kernel
theorem d_T_season_2 : decode b_T_season 2 = .ok (.invokevirtual 87, 3) := by decide +kernel
theorem d_T_season_5 : decode b_T_season 5 = .ok (.ifCond .eq 19, 3) := by decide +kernel
theorem d_T_season_8 : decode b_T_season 8 = .ok (.iload_n 2, 1) := by decide +kernel
theorem d_T_season_9 : decode b_T_season 9 = .ok (.ifCond .lt 15, 3) := by decide +kernel
theorem d_T_season_12 : decode b_T_season 12 = .ok (.iload_n 3, 1) := by decide +kernel
theorem d_T_season_13 : decode b_T_season 13 = .ok (.iload_n 2, 1) := by decide +kernel
theorem d_T_season_14 : decode b_T_season 14 = .ok (.if_icmp .lt 10, 3) := by decide +kernel
theorem d_T_season_17 : decode b_T_season 17 = .ok (.iload_n 3, 1) := by decide +kernel
theorem d_T_season_18 : decode b_T_season 18 = .ok (.sipush 999, 3) := by decide +kernel
theorem d_T_season_21 : decode b_T_season 21 = .ok (.if_icmp .le 5, 3) := by decide +kernel
theorem d_T_season_24 : decode b_T_season 24 = .ok (.iconst 0, 1) := by decide +kernel
theorem d_T_season_25 : decode b_T_season 25 = .ok (.ireturn, 1) := by decide +kernel
theorem d_T_season_26 : decode b_T_season 26 = .ok (.aload_n 0, 1) := by decide +kernel
theorem d_T_season_27 : decode b_T_season 27 = .ok (.getfield 10, 3) := by decide +kernel
theorem d_T_season_30 : decode b_T_season 30 = .ok (.getfield 94, 3) := by decide +kernel
theorem d_T_season_33 : decode b_T_season 33 = .ok (.iload_n 1, 1) := by decide +kernel
theorem d_T_season_34 : decode b_T_season 34 = .ok (.aaload, 1) := by decide +kernel
theorem d_T_season_35 : decode b_T_season 35 = .ok (.astore 4, 2) := by decide +kernel
theorem d_T_season_37 : decode b_T_season 37 = .ok (.aload 4, 2) := by decide +kernel
theorem d_T_season_39 : decode b_T_season 39 = .ok (.iload_n 2, 1) := by decide +kernel
theorem d_T_season_40 : decode b_T_season 40 = .ok (.putfield 98, 3) := by decide +kernel
theorem d_T_season_43 : decode b_T_season 43 = .ok (.aload 4, 2) := by decide +kernel
theorem d_T_season_45 : decode b_T_season 45 = .ok (.iload_n 3, 1) := by decide +kernel
theorem d_T_season_46 : decode b_T_season 46 = .ok (.putfield 103, 3) := by decide +kernel
theorem d_T_season_49 : decode b_T_season 49 = .ok (.aload_n 0, 1) := by decide +kernel
theorem d_T_season_50 : decode b_T_season 50 = .ok (.invokevirtual 73, 3) := by decide +kernel
theorem d_T_season_53 : decode b_T_season 53 = .ok (.iconst 1, 1) := by decide +kernel
theorem d_T_season_54 : decode b_T_season 54 = .ok (.ireturn, 1) := by decide +kernel
theorem d_T_bar_0 : decode b_T_bar 0 = .ok (.aload_n 0, 1) := by decide +kernel
theorem d_T_bar_1 : decode b_T_bar 1 = .ok (.iload_n 1, 1) := by decide +kernel
theorem d_T_bar_2 : decode b_T_bar 2 = .ok (.invokevirtual 87, 3) := by decide +kernel
theorem d_T_bar_5 : decode b_T_bar 5 = .ok (.ifCond .eq 42, 3) := by decide +kernel
theorem d_T_bar_8 : decode b_T_bar 8 = .ok (.aload_n 0, 1) := by decide +kernel
theorem d_T_bar_9 : decode b_T_bar 9 = .ok (.getfield 10, 3) := by decide +kernel
theorem d_T_bar_12 : decode b_T_bar 12 = .ok (.getfield 94, 3) := by decide +kernel
theorem d_T_bar_15 : decode b_T_bar 15 = .ok (.iload_n 1, 1) := by decide +kernel
theorem d_T_bar_16 : decode b_T_bar 16 = .ok (.aaload, 1) := by decide +kernel
theorem d_T_bar_17 : decode b_T_bar 17 = .ok (.iload_n 2, 1) := by decide +kernel
theorem d_T_bar_18 : decode b_T_bar 18 = .ok (.invokevirtual 106, 3) := by decide +kernel
theorem d_T_bar_21 : decode b_T_bar 21 = .ok (.ifCond .eq 26, 3) := by decide +kernel
theorem d_T_bar_24 : decode b_T_bar 24 = .ok (.iload_n 3, 1) := by decide +kernel
theorem d_T_bar_25 : decode b_T_bar 25 = .ok (.iconst 0, 1) := by decide +kernel
theorem d_T_bar_26 : decode b_T_bar 26 = .ok (.sipush 999, 3) := by decide +kernel
theorem d_T_bar_29 : decode b_T_bar 29 = .ok (.invokestatic 76, 3) := by decide +kernel
theorem d_T_bar_32 : decode b_T_bar 32 = .ok (.ifCond .eq 15, 3) := by decide +kernel
theorem d_T_bar_35 : decode b_T_bar 35 = .ok (.aload_n 0, 1) := by decide +kernel
theorem d_T_bar_36 : decode b_T_bar 36 = .ok (.getfield 10, 3) := by decide +kernel
theorem d_T_bar_39 : decode b_T_bar 39 = .ok (.getfield 109, 3) := by decide +kernel
theorem d_T_bar_42 : decode b_T_bar 42 = .ok (.bipush 8, 2) := by decide +kernel
theorem d_T_bar_44 : decode b_T_bar 44 = .ok (.if_icmp .lt 5, 3) := by decide +kernel
theorem d_T_bar_47 : decode b_T_bar 47 = .ok (.iconst 0, 1) := by decide +kernel
theorem d_T_bar_48 : decode b_T_bar 48 = .ok (.ireturn, 1) := by decide +kernel
theorem d_T_bar_49 : decode b_T_bar 49 = .ok (.aload_n 0, 1) := by decide +kernel
theorem d_T_bar_50 : decode b_T_bar 50 = .ok (.getfield 10, 3) := by decide +kernel
theorem d_T_bar_53 : decode b_T_bar 53 = .ok (.iload_n 1, 1) := by decide +kernel
theorem d_T_bar_54 : decode b_T_bar 54 = .ok (.iload_n 2, 1) := by decide +kernel
theorem d_T_bar_55 : decode b_T_bar 55 = .ok (.iload_n 3, 1) := by decide +kernel
theorem d_T_bar_56 : decode b_T_bar 56 = .ok (.invokevirtual 112, 3) := by decide +kernel
theorem d_T_bar_59 : decode b_T_bar 59 = .ok (.aload_n 0, 1) := by decide +kernel
theorem d_T_bar_60 : decode b_T_bar 60 = .ok (.invokevirtual 73, 3) := by decide +kernel
theorem d_T_bar_63 : decode b_T_bar 63 = .ok (.iconst 1, 1) := by decide +kernel
theorem d_T_bar_64 : decode b_T_bar 64 = .ok (.ireturn, 1) := by decide +kernel
theorem d_T_rest_0 : decode b_T_rest 0 = .ok (.iload_n 1, 1) := by decide +kernel
theorem d_T_rest_1 : decode b_T_rest 1 = .ok (.iconst 0, 1) := by decide +kernel
theorem d_T_rest_2 : decode b_T_rest 2 = .ok (.sipush 199, 3) := by decide +kernel
theorem d_T_rest_5 : decode b_T_rest 5 = .ok (.invokestatic 76, 3) := by decide +kernel
theorem d_T_rest_8 : decode b_T_rest 8 = .ok (.ifCond .eq 17, 3) := by decide +kernel
theorem d_T_rest_11 : decode b_T_rest 11 = .ok (.aload_n 0, 1) := by decide +kernel
theorem d_T_rest_12 : decode b_T_rest 12 = .ok (.getfield 10, 3) := by decide +kernel
theorem d_T_rest_15 : decode b_T_rest 15 = .ok (.getfield 115, 3) := by decide +kernel
theorem d_T_rest_18 : decode b_T_rest 18 = .ok (.iload_n 1, 1) := by decide +kernel
theorem d_T_rest_19 : decode b_T_rest 19 = .ok (.invokevirtual 119, 3) := by decide +kernel
theorem d_T_rest_22 : decode b_T_rest 22 = .ok (.ifCond .ne 5, 3) := by decide +kernel
theorem d_T_rest_25 : decode b_T_rest 25 = .ok (.iconst 0, 1) := by decide +kernel
theorem d_T_rest_26 : decode b_T_rest 26 = .ok (.ireturn, 1) := by decide +kernel
theorem d_T_rest_27 : decode b_T_rest 27 = .ok (.aload_n 0, 1) := by decide +kernel
theorem d_T_rest_28 : decode b_T_rest 28 = .ok (.getfield 10, 3) := by decide +kernel
theorem d_T_rest_31 : decode b_T_rest 31 = .ok (.getfield 115, 3) := by decide +kernel
theorem d_T_rest_34 : decode b_T_rest 34 = .ok (.iload_n 1, 1) := by decide +kernel
theorem d_T_rest_35 : decode b_T_rest 35 = .ok (.invokevirtual 124, 3) := by decide +kernel
theorem d_T_rest_38 : decode b_T_rest 38 = .ok (.aload_n 0, 1) := by decide +kernel
theorem d_T_rest_39 : decode b_T_rest 39 = .ok (.invokevirtual 73, 3) := by decide +kernel
theorem d_T_rest_42 : decode b_T_rest 42 = .ok (.iconst 1, 1) := by decide +kernel
theorem d_T_rest_43 : decode b_T_rest 43 = .ok (.ireturn, 1) := by decide +kernel
theorem d_T_most_0 : decode b_T_most 0 = .ok (.iload_n 1, 1) := by decide +kernel
theorem d_T_most_1 : decode b_T_most 1 = .ok (.invokestatic 61, 3) := by decide +kernel
theorem d_T_most_4 : decode b_T_most 4 = .ok (.ifCond .eq 13, 3) := by decide +kernel
theorem d_T_most_7 : decode b_T_most 7 = .ok (.iload_n 2, 1) := by decide +kernel
theorem d_T_most_8 : decode b_T_most 8 = .ok (.iconst 0, 1) := by decide +kernel
theorem d_T_most_9 : decode b_T_most 9 = .ok (.bipush 6, 2) := by decide +kernel
theorem d_T_most_11 : decode b_T_most 11 = .ok (.invokestatic 76, 3) := by decide +kernel
theorem d_T_most_14 : decode b_T_most 14 = .ok (.ifCond .ne 5, 3) := by decide +kernel
theorem d_T_most_17 : decode b_T_most 17 = .ok (.iconst (-1), 1) := by decide +kernel
theorem d_T_most_18 : decode b_T_most 18 = .ok (.ireturn, 1) := by decide +kernel
theorem d_T_most_19 : decode b_T_most 19 = .ok (.aload_n 0, 1) := by decide +kernel
theorem d_T_most_20 : decode b_T_most 20 = .ok (.getfield 10, 3) := by decide +kernel
theorem d_T_most_23 : decode b_T_most 23 = .ok (.getfield 128, 3) := by decide +kernel
theorem d_T_most_26 : decode b_T_most 26 = .ok (.iload_n 1, 1) := by decide +kernel
theorem d_T_most_27 : decode b_T_most 27 = .ok (.iaload, 1) := by decide +kernel
theorem d_T_most_28 : decode b_T_most 28 = .ok (.istore_n 3, 1) := by decide +kernel
theorem d_T_most_29 : decode b_T_most 29 = .ok (.aload_n 0, 1) := by decide +kernel
theorem d_T_most_30 : decode b_T_most 30 = .ok (.getfield 10, 3) := by decide +kernel
theorem d_T_most_33 : decode b_T_most 33 = .ok (.getfield 128, 3) := by decide +kernel
theorem d_T_most_36 : decode b_T_most 36 = .ok (.iload_n 1, 1) := by decide +kernel
theorem d_T_most_37 : decode b_T_most 37 = .ok (.iload_n 2, 1) := by decide +kernel
theorem d_T_most_38 : decode b_T_most 38 = .ok (.iastore, 1) := by decide +kernel
theorem d_T_most_39 : decode b_T_most 39 = .ok (.aload_n 0, 1) := by decide +kernel
theorem d_T_most_40 : decode b_T_most 40 = .ok (.invokevirtual 73, 3) := by decide +kernel
theorem d_T_most_43 : decode b_T_most 43 = .ok (.iload_n 3, 1) := by decide +kernel
theorem d_T_most_44 : decode b_T_most 44 = .ok (.ireturn, 1) := by decide +kernel
theorem d_T_learned_0 : decode b_T_learned 0 = .ok (.aload_n 0, 1) := by decide +kernel
theorem d_T_learned_1 : decode b_T_learned 1 = .ok (.iload_n 1, 1) := by decide +kernel
theorem d_T_learned_2 : decode b_T_learned 2 = .ok (.invokevirtual 87, 3) := by decide +kernel
theorem d_T_learned_5 : decode b_T_learned 5 = .ok (.ifCond .eq 25, 3) := by decide +kernel
theorem d_T_learned_8 : decode b_T_learned 8 = .ok (.iload_n 2, 1) := by decide +kernel
theorem d_T_learned_9 : decode b_T_learned 9 = .ok (.iconst 1, 1) := by decide +kernel
theorem d_T_learned_10 : decode b_T_learned 10 = .ok (.sipush 10000, 3) := by decide +kernel
theorem d_T_learned_13 : decode b_T_learned 13 = .ok (.invokestatic 76, 3) := by decide +kernel
theorem d_T_learned_16 : decode b_T_learned 16 = .ok (.ifCond .eq 14, 3) := by decide +kernel
theorem d_T_learned_19 : decode b_T_learned 19 = .ok (.iload_n 3, 1) := by decide +kernel
theorem d_T_learned_20 : decode b_T_learned 20 = .ok (.iconst 1, 1) := by decide +kernel
theorem d_T_learned_21 : decode b_T_learned 21 = .ok (.sipush 1000, 3) := by decide +kernel
theorem d_T_learned_24 : decode b_T_learned 24 = .ok (.invokestatic 76, 3) := by decide +kernel
theorem d_T_learned_27 : decode b_T_learned 27 = .ok (.ifCond .ne 5, 3) := by decide +kernel
theorem d_T_learned_30 : decode b_T_learned 30 = .ok (.iconst (-1), 1) := by decide +kernel
theorem d_T_learned_31 : decode b_T_learned 31 = .ok (.ireturn, 1) := by decide +kernel
theorem d_T_learned_32 : decode b_T_learned 32 = .ok (.aload_n 0, 1) := by decide +kernel
theorem d_T_learned_33 : decode b_T_learned 33 = .ok (.getfield 10, 3) := by decide +kernel
theorem d_T_learned_36 : decode b_T_learned 36 = .ok (.getfield 94, 3) := by decide +kernel
theorem d_T_learned_39 : decode b_T_learned 39 = .ok (.iload_n 1, 1) := by decide +kernel
theorem d_T_learned_40 : decode b_T_learned 40 = .ok (.aaload, 1) := by decide +kernel
theorem d_T_learned_41 : decode b_T_learned 41 = .ok (.astore 4, 2) := by decide +kernel
theorem d_T_learned_43 : decode b_T_learned 43 = .ok (.aload 4, 2) := by decide +kernel
theorem d_T_learned_45 : decode b_T_learned 45 = .ok (.iload_n 2, 1) := by decide +kernel
theorem d_T_learned_46 : decode b_T_learned 46 = .ok (.iload_n 3, 1) := by decide +kernel
theorem d_T_learned_47 : decode b_T_learned 47 = .ok (.idiv, 1) := by decide +kernel
theorem d_T_learned_48 : decode b_T_learned 48 = .ok (.invokevirtual 132, 3) := by decide +kernel
theorem d_T_learned_51 : decode b_T_learned 51 = .ok (.aload_n 0, 1) := by decide +kernel
theorem d_T_learned_52 : decode b_T_learned 52 = .ok (.invokevirtual 73, 3) := by decide +kernel
theorem d_T_learned_55 : decode b_T_learned 55 = .ok (.aload 4, 2) := by decide +kernel
theorem d_T_learned_57 : decode b_T_learned 57 = .ok (.getfield 135, 3) := by decide +kernel
theorem d_T_learned_60 : decode b_T_learned 60 = .ok (.ireturn, 1) := by decide +kernel
theorem d_T_run_0 : decode b_T_run 0 = .ok (.iload_n 1, 1) := by decide +kernel
theorem d_T_run_1 : decode b_T_run 1 = .ok (.iconst 1, 1) := by decide +kernel
theorem d_T_run_2 : decode b_T_run 2 = .ok (.sipush 20000, 3) := by decide +kernel
theorem d_T_run_5 : decode b_T_run 5 = .ok (.invokestatic 76, 3) := by decide +kernel
theorem d_T_run_8 : decode b_T_run 8 = .ok (.ifCond .eq 13, 3) := by decide +kernel
theorem d_T_run_11 : decode b_T_run 11 = .ok (.aload_n 0, 1) := by decide +kernel
theorem d_T_run_12 : decode b_T_run 12 = .ok (.getfield 10, 3) := by decide +kernel
theorem d_T_run_15 : decode b_T_run 15 = .ok (.getfield 80, 3) := by decide +kernel
theorem d_T_run_18 : decode b_T_run 18 = .ok (.ifCond .ne 5, 3) := by decide +kernel
theorem d_T_run_21 : decode b_T_run 21 = .ok (.iconst (-1), 1) := by decide +kernel
theorem d_T_run_22 : decode b_T_run 22 = .ok (.ireturn, 1) := by decide +kernel
theorem d_T_run_23 : decode b_T_run 23 = .ok (.aload_n 0, 1) := by decide +kernel
theorem d_T_run_24 : decode b_T_run 24 = .ok (.getfield 37, 3) := by decide +kernel
theorem d_T_run_27 : decode b_T_run 27 = .ok (.iload_n 1, 1) := by decide +kernel
theorem d_T_run_28 : decode b_T_run 28 = .ok (.iconst 0, 1) := by decide +kernel
theorem d_T_run_29 : decode b_T_run 29 = .ok (.invokevirtual 138, 3) := by decide +kernel
theorem d_T_run_32 : decode b_T_run 32 = .ok (.aload_n 0, 1) := by decide +kernel
theorem d_T_run_33 : decode b_T_run 33 = .ok (.iconst 0, 1) := by decide +kernel
theorem d_T_run_34 : decode b_T_run 34 = .ok (.invokevirtual 142, 3) := by decide +kernel
theorem d_T_run_37 : decode b_T_run 37 = .ok (.ifCond .eq 10, 3) := by decide +kernel
theorem d_T_run_40 : decode b_T_run 40 = .ok (.aload_n 0, 1) := by decide +kernel
theorem d_T_run_41 : decode b_T_run 41 = .ok (.getfield 146, 3) := by decide +kernel
theorem d_T_run_44 : decode b_T_run 44 = .ok (.goto 4, 3) := by decide +kernel
theorem d_T_run_47 : decode b_T_run 47 = .ok (.iconst (-1), 1) := by decide +kernel
theorem d_T_run_48 : decode b_T_run 48 = .ok (.ireturn, 1) := by decide +kernel
theorem d_T_proved_0 : decode b_T_proved 0 = .ok (.aload_n 0, 1) := by decide +kernel
theorem d_T_proved_1 : decode b_T_proved 1 = .ok (.getfield 149, 3) := by decide +kernel
theorem d_T_proved_4 : decode b_T_proved 4 = .ok (.ireturn, 1) := by decide +kernel
theorem d_T_tried_0 : decode b_T_tried 0 = .ok (.aload_n 0, 1) := by decide +kernel
theorem d_T_tried_1 : decode b_T_tried 1 = .ok (.getfield 153, 3) := by decide +kernel
theorem d_T_tried_4 : decode b_T_tried 4 = .ok (.ireturn, 1) := by decide +kernel
theorem d_T_told_0 : decode b_T_told 0 = .ok (.aload_n 0, 1) := by decide +kernel
theorem d_T_told_1 : decode b_T_told 1 = .ok (.iload_n 1, 1) := by decide +kernel
theorem d_T_told_2 : decode b_T_told 2 = .ok (.invokevirtual 156, 3) := by decide +kernel
theorem d_T_told_5 : decode b_T_told 5 = .ok (.ifCond .ne 5, 3) := by decide +kernel
theorem d_T_told_8 : decode b_T_told 8 = .ok (.iconst (-1), 1) := by decide +kernel
theorem d_T_told_9 : decode b_T_told 9 = .ok (.ireturn, 1) := by decide +kernel
theorem d_T_told_10 : decode b_T_told 10 = .ok (.iload_n 2, 1) := by decide +kernel
theorem d_T_told_11 : decode b_T_told 11 = .ok (.tableswitch 63 0 2 #[25, 35, 53], 25) := by decide +kernel
theorem d_T_told_36 : decode b_T_told 36 = .ok (.aload_n 0, 1) := by decide +kernel
theorem d_T_told_37 : decode b_T_told 37 = .ok (.getfield 28, 3) := by decide +kernel
theorem d_T_told_40 : decode b_T_told 40 = .ok (.getfield 159, 3) := by decide +kernel
theorem d_T_told_43 : decode b_T_told 43 = .ok (.iload_n 1, 1) := by decide +kernel
theorem d_T_told_44 : decode b_T_told 44 = .ok (.iaload, 1) := by decide +kernel
theorem d_T_told_45 : decode b_T_told 45 = .ok (.ireturn, 1) := by decide +kernel
theorem d_T_told_46 : decode b_T_told 46 = .ok (.aload_n 0, 1) := by decide +kernel
theorem d_T_told_47 : decode b_T_told 47 = .ok (.getfield 10, 3) := by decide +kernel
theorem d_T_told_50 : decode b_T_told 50 = .ok (.iload_n 1, 1) := by decide +kernel
theorem d_T_told_51 : decode b_T_told 51 = .ok (.aload_n 0, 1) := by decide +kernel
theorem d_T_told_52 : decode b_T_told 52 = .ok (.getfield 28, 3) := by decide +kernel
theorem d_T_told_55 : decode b_T_told 55 = .ok (.getfield 159, 3) := by decide +kernel
theorem d_T_told_58 : decode b_T_told 58 = .ok (.iload_n 1, 1) := by decide +kernel
theorem d_T_told_59 : decode b_T_told 59 = .ok (.iaload, 1) := by decide +kernel
theorem d_T_told_60 : decode b_T_told 60 = .ok (.invokevirtual 162, 3) := by decide +kernel
theorem d_T_told_63 : decode b_T_told 63 = .ok (.ireturn, 1) := by decide +kernel
theorem d_T_told_64 : decode b_T_told 64 = .ok (.aload_n 0, 1) := by decide +kernel
theorem d_T_told_65 : decode b_T_told 65 = .ok (.getfield 28, 3) := by decide +kernel
theorem d_T_told_68 : decode b_T_told 68 = .ok (.getfield 166, 3) := by decide +kernel
theorem d_T_told_71 : decode b_T_told 71 = .ok (.iload_n 1, 1) := by decide +kernel
theorem d_T_told_72 : decode b_T_told 72 = .ok (.iaload, 1) := by decide +kernel
theorem d_T_told_73 : decode b_T_told 73 = .ok (.ireturn, 1) := by decide +kernel
theorem d_T_told_74 : decode b_T_told 74 = .ok (.iconst (-1), 1) := by decide +kernel
theorem d_T_told_75 : decode b_T_told 75 = .ok (.ireturn, 1) := by decide +kernel
theorem d_T_at_0 : decode b_T_at 0 = .ok (.aload_n 0, 1) := by decide +kernel
theorem d_T_at_1 : decode b_T_at 1 = .ok (.iload_n 1, 1) := by decide +kernel
theorem d_T_at_2 : decode b_T_at 2 = .ok (.invokevirtual 156, 3) := by decide +kernel
theorem d_T_at_5 : decode b_T_at 5 = .ok (.ifCond .eq 7, 3) := by decide +kernel
theorem d_T_at_8 : decode b_T_at 8 = .ok (.iload_n 2, 1) := by decide +kernel
theorem d_T_at_9 : decode b_T_at 9 = .ok (.ifCond .ge 5, 3) := by decide +kernel
theorem d_T_at_12 : decode b_T_at 12 = .ok (.iconst (-1), 1) := by decide +kernel
theorem d_T_at_13 : decode b_T_at 13 = .ok (.ireturn, 1) := by decide +kernel
theorem d_T_at_14 : decode b_T_at 14 = .ok (.aload_n 0, 1) := by decide +kernel
theorem d_T_at_15 : decode b_T_at 15 = .ok (.getfield 10, 3) := by decide +kernel
theorem d_T_at_18 : decode b_T_at 18 = .ok (.iload_n 1, 1) := by decide +kernel
theorem d_T_at_19 : decode b_T_at 19 = .ok (.aload_n 0, 1) := by decide +kernel
theorem d_T_at_20 : decode b_T_at 20 = .ok (.getfield 28, 3) := by decide +kernel
theorem d_T_at_23 : decode b_T_at 23 = .ok (.iload_n 2, 1) := by decide +kernel
theorem d_T_at_24 : decode b_T_at 24 = .ok (.invokevirtual 169, 3) := by decide +kernel
theorem d_T_at_27 : decode b_T_at 27 = .ok (.ireturn, 1) := by decide +kernel
theorem d_T_passes_0 : decode b_T_passes 0 = .ok (.aload_n 0, 1) := by decide +kernel
theorem d_T_passes_1 : decode b_T_passes 1 = .ok (.iload_n 1, 1) := by decide +kernel
theorem d_T_passes_2 : decode b_T_passes 2 = .ok (.invokevirtual 156, 3) := by decide +kernel
theorem d_T_passes_5 : decode b_T_passes 5 = .ok (.ifCond .eq 29, 3) := by decide +kernel
theorem d_T_passes_8 : decode b_T_passes 8 = .ok (.aload_n 0, 1) := by decide +kernel
theorem d_T_passes_9 : decode b_T_passes 9 = .ok (.getfield 10, 3) := by decide +kernel
theorem d_T_passes_12 : decode b_T_passes 12 = .ok (.getfield 94, 3) := by decide +kernel
theorem d_T_passes_15 : decode b_T_passes 15 = .ok (.iload_n 1, 1) := by decide +kernel
theorem d_T_passes_16 : decode b_T_passes 16 = .ok (.aaload, 1) := by decide +kernel
theorem d_T_passes_17 : decode b_T_passes 17 = .ok (.iload_n 2, 1) := by decide +kernel
theorem d_T_passes_18 : decode b_T_passes 18 = .ok (.invokevirtual 106, 3) := by decide +kernel
theorem d_T_passes_21 : decode b_T_passes 21 = .ok (.ifCond .eq 13, 3) := by decide +kernel
theorem d_T_passes_24 : decode b_T_passes 24 = .ok (.iload 4, 2) := by decide +kernel
theorem d_T_passes_26 : decode b_T_passes 26 = .ok (.iconst 0, 1) := by decide +kernel
theorem d_T_passes_27 : decode b_T_passes 27 = .ok (.iconst 1, 1) := by decide +kernel
theorem d_T_passes_28 : decode b_T_passes 28 = .ok (.invokestatic 76, 3) := by decide +kernel
theorem d_T_passes_31 : decode b_T_passes 31 = .ok (.ifCond .ne 5, 3) := by decide +kernel
theorem d_T_passes_34 : decode b_T_passes 34 = .ok (.iconst (-1), 1) := by decide +kernel
theorem d_T_passes_35 : decode b_T_passes 35 = .ok (.ireturn, 1) := by decide +kernel
theorem d_T_passes_36 : decode b_T_passes 36 = .ok (.aload_n 0, 1) := by decide +kernel
theorem d_T_passes_37 : decode b_T_passes 37 = .ok (.getfield 10, 3) := by decide +kernel
theorem d_T_passes_40 : decode b_T_passes 40 = .ok (.iload_n 1, 1) := by decide +kernel
theorem d_T_passes_41 : decode b_T_passes 41 = .ok (.aload_n 0, 1) := by decide +kernel
theorem d_T_passes_42 : decode b_T_passes 42 = .ok (.getfield 28, 3) := by decide +kernel
theorem d_T_passes_45 : decode b_T_passes 45 = .ok (.iload_n 2, 1) := by decide +kernel
theorem d_T_passes_46 : decode b_T_passes 46 = .ok (.iload_n 3, 1) := by decide +kernel
theorem d_T_passes_47 : decode b_T_passes 47 = .ok (.invokevirtual 173, 3) := by decide +kernel
theorem d_T_passes_50 : decode b_T_passes 50 = .ok (.istore 5, 2) := by decide +kernel
theorem d_T_passes_52 : decode b_T_passes 52 = .ok (.aload_n 0, 1) := by decide +kernel
theorem d_T_passes_53 : decode b_T_passes 53 = .ok (.getfield 10, 3) := by decide +kernel
theorem d_T_passes_56 : decode b_T_passes 56 = .ok (.getfield 94, 3) := by decide +kernel
theorem d_T_passes_59 : decode b_T_passes 59 = .ok (.iload_n 1, 1) := by decide +kernel
theorem d_T_passes_60 : decode b_T_passes 60 = .ok (.aaload, 1) := by decide +kernel
theorem d_T_passes_61 : decode b_T_passes 61 = .ok (.getfield 135, 3) := by decide +kernel
theorem d_T_passes_64 : decode b_T_passes 64 = .ok (.istore 6, 2) := by decide +kernel
theorem d_T_passes_66 : decode b_T_passes 66 = .ok (.iload 5, 2) := by decide +kernel
theorem d_T_passes_68 : decode b_T_passes 68 = .ok (.iload 6, 2) := by decide +kernel
theorem d_T_passes_70 : decode b_T_passes 70 = .ok (.invokestatic 177, 3) := by decide +kernel
theorem d_T_passes_73 : decode b_T_passes 73 = .ok (.istore 7, 2) := by decide +kernel
theorem d_T_passes_75 : decode b_T_passes 75 = .ok (.iload 7, 2) := by decide +kernel
theorem d_T_passes_77 : decode b_T_passes 77 = .ok (.iconst 1, 1) := by decide +kernel
theorem d_T_passes_78 : decode b_T_passes 78 = .ok (.if_icmp .ge 7, 3) := by decide +kernel
theorem d_T_passes_81 : decode b_T_passes 81 = .ok (.iconst (-1), 1) := by decide +kernel
theorem d_T_passes_82 : decode b_T_passes 82 = .ok (.goto 18, 3) := by decide +kernel
theorem d_T_passes_85 : decode b_T_passes 85 = .ok (.iload 4, 2) := by decide +kernel
theorem d_T_passes_87 : decode b_T_passes 87 = .ok (.ifCond .ne 8, 3) := by decide +kernel
theorem d_T_passes_90 : decode b_T_passes 90 = .ok (.iload 5, 2) := by decide +kernel
theorem d_T_passes_92 : decode b_T_passes 92 = .ok (.goto 5, 3) := by decide +kernel
theorem d_T_passes_95 : decode b_T_passes 95 = .ok (.iload 6, 2) := by decide +kernel
theorem d_T_passes_97 : decode b_T_passes 97 = .ok (.iload 7, 2) := by decide +kernel
theorem d_T_passes_99 : decode b_T_passes 99 = .ok (.idiv, 1) := by decide +kernel
theorem d_T_passes_100 : decode b_T_passes 100 = .ok (.ireturn, 1) := by decide +kernel
theorem d_T_crosses_0 : decode b_T_crosses 0 = .ok (.aload_n 0, 1) := by decide +kernel
theorem d_T_crosses_1 : decode b_T_crosses 1 = .ok (.iload_n 1, 1) := by decide +kernel
theorem d_T_crosses_2 : decode b_T_crosses 2 = .ok (.invokevirtual 156, 3) := by decide +kernel
theorem d_T_crosses_5 : decode b_T_crosses 5 = .ok (.ifCond .eq 11, 3) := by decide +kernel
theorem d_T_crosses_8 : decode b_T_crosses 8 = .ok (.aload_n 0, 1) := by decide +kernel
theorem d_T_crosses_9 : decode b_T_crosses 9 = .ok (.iload_n 2, 1) := by decide +kernel
theorem d_T_crosses_10 : decode b_T_crosses 10 = .ok (.invokevirtual 156, 3) := by decide +kernel
theorem d_T_crosses_13 : decode b_T_crosses 13 = .ok (.ifCond .ne 5, 3) := by decide +kernel
theorem d_T_crosses_16 : decode b_T_crosses 16 = .ok (.iconst 0, 1) := by decide +kernel
theorem d_T_crosses_17 : decode b_T_crosses 17 = .ok (.ireturn, 1) := by decide +kernel
theorem d_T_crosses_18 : decode b_T_crosses 18 = .ok (.iconst 0, 1) := by decide +kernel
theorem d_T_crosses_19 : decode b_T_crosses 19 = .ok (.istore_n 3, 1) := by decide +kernel
theorem d_T_crosses_20 : decode b_T_crosses 20 = .ok (.iconst 0, 1) := by decide +kernel
theorem d_T_crosses_21 : decode b_T_crosses 21 = .ok (.istore 4, 2) := by decide +kernel
theorem d_T_crosses_23 : decode b_T_crosses 23 = .ok (.aload_n 0, 1) := by decide +kernel
theorem d_T_crosses_24 : decode b_T_crosses 24 = .ok (.getfield 10, 3) := by decide +kernel
theorem d_T_crosses_27 : decode b_T_crosses 27 = .ok (.iload_n 1, 1) := by decide +kernel
theorem d_T_crosses_28 : decode b_T_crosses 28 = .ok (.iload_n 2, 1) := by decide +kernel
theorem d_T_crosses_29 : decode b_T_crosses 29 = .ok (.invokevirtual 180, 3) := by decide +kernel
theorem d_T_crosses_32 : decode b_T_crosses 32 = .ok (.istore 5, 2) := by decide +kernel
theorem d_T_crosses_34 : decode b_T_crosses 34 = .ok (.aload_n 0, 1) := by decide +kernel
theorem d_T_crosses_35 : decode b_T_crosses 35 = .ok (.getfield 10, 3) := by decide +kernel
theorem d_T_crosses_38 : decode b_T_crosses 38 = .ok (.iload_n 1, 1) := by decide +kernel
theorem d_T_crosses_39 : decode b_T_crosses 39 = .ok (.iload_n 2, 1) := by decide +kernel
theorem d_T_crosses_40 : decode b_T_crosses 40 = .ok (.invokevirtual 183, 3) := by decide +kernel
theorem d_T_crosses_43 : decode b_T_crosses 43 = .ok (.istore 6, 2) := by decide +kernel
theorem d_T_crosses_45 : decode b_T_crosses 45 = .ok (.iload 6, 2) := by decide +kernel
theorem d_T_crosses_47 : decode b_T_crosses 47 = .ok (.iload 5, 2) := by decide +kernel
theorem d_T_crosses_49 : decode b_T_crosses 49 = .ok (.if_icmp .gt 105, 3) := by decide +kernel
theorem d_T_crosses_52 : decode b_T_crosses 52 = .ok (.aload_n 0, 1) := by decide +kernel
theorem d_T_crosses_53 : decode b_T_crosses 53 = .ok (.getfield 10, 3) := by decide +kernel
theorem d_T_crosses_56 : decode b_T_crosses 56 = .ok (.iload_n 1, 1) := by decide +kernel
theorem d_T_crosses_57 : decode b_T_crosses 57 = .ok (.aload_n 0, 1) := by decide +kernel
theorem d_T_crosses_58 : decode b_T_crosses 58 = .ok (.getfield 28, 3) := by decide +kernel
theorem d_T_crosses_61 : decode b_T_crosses 61 = .ok (.iload 6, 2) := by decide +kernel
theorem d_T_crosses_63 : decode b_T_crosses 63 = .ok (.iconst 0, 1) := by decide +kernel
theorem d_T_crosses_64 : decode b_T_crosses 64 = .ok (.invokevirtual 173, 3) := by decide +kernel
theorem d_T_crosses_67 : decode b_T_crosses 67 = .ok (.aload_n 0, 1) := by decide +kernel
theorem d_T_crosses_68 : decode b_T_crosses 68 = .ok (.getfield 10, 3) := by decide +kernel
theorem d_T_crosses_71 : decode b_T_crosses 71 = .ok (.getfield 94, 3) := by decide +kernel
theorem d_T_crosses_74 : decode b_T_crosses 74 = .ok (.iload_n 2, 1) := by decide +kernel
theorem d_T_crosses_75 : decode b_T_crosses 75 = .ok (.aaload, 1) := by decide +kernel
theorem d_T_crosses_76 : decode b_T_crosses 76 = .ok (.getfield 135, 3) := by decide +kernel
theorem d_T_crosses_79 : decode b_T_crosses 79 = .ok (.imul, 1) := by decide +kernel
theorem d_T_crosses_80 : decode b_T_crosses 80 = .ok (.istore 7, 2) := by decide +kernel
theorem d_T_crosses_82 : decode b_T_crosses 82 = .ok (.aload_n 0, 1) := by decide +kernel
theorem d_T_crosses_83 : decode b_T_crosses 83 = .ok (.getfield 10, 3) := by decide +kernel
theorem d_T_crosses_86 : decode b_T_crosses 86 = .ok (.iload_n 2, 1) := by decide +kernel
theorem d_T_crosses_87 : decode b_T_crosses 87 = .ok (.aload_n 0, 1) := by decide +kernel
theorem d_T_crosses_88 : decode b_T_crosses 88 = .ok (.getfield 28, 3) := by decide +kernel
theorem d_T_crosses_91 : decode b_T_crosses 91 = .ok (.iload 6, 2) := by decide +kernel
theorem d_T_crosses_93 : decode b_T_crosses 93 = .ok (.iconst 0, 1) := by decide +kernel
theorem d_T_crosses_94 : decode b_T_crosses 94 = .ok (.invokevirtual 173, 3) := by decide +kernel
theorem d_T_crosses_97 : decode b_T_crosses 97 = .ok (.aload_n 0, 1) := by decide +kernel
theorem d_T_crosses_98 : decode b_T_crosses 98 = .ok (.getfield 10, 3) := by decide +kernel
theorem d_T_crosses_101 : decode b_T_crosses 101 = .ok (.getfield 94, 3) := by decide +kernel
theorem d_T_crosses_104 : decode b_T_crosses 104 = .ok (.iload_n 1, 1) := by decide +kernel
theorem d_T_crosses_105 : decode b_T_crosses 105 = .ok (.aaload, 1) := by decide +kernel
theorem d_T_crosses_106 : decode b_T_crosses 106 = .ok (.getfield 135, 3) := by decide +kernel
theorem d_T_crosses_109 : decode b_T_crosses 109 = .ok (.imul, 1) := by decide +kernel
theorem d_T_crosses_110 : decode b_T_crosses 110 = .ok (.istore 8, 2) := by decide +kernel
theorem d_T_crosses_112 : decode b_T_crosses 112 = .ok (.iload_n 3, 1) := by decide +kernel
theorem d_T_crosses_113 : decode b_T_crosses 113 = .ok (.ifCond .ne 10, 3) := by decide +kernel
theorem d_T_crosses_116 : decode b_T_crosses 116 = .ok (.iload 7, 2) := by decide +kernel
theorem d_T_crosses_118 : decode b_T_crosses 118 = .ok (.iload 8, 2) := by decide +kernel
theorem d_T_crosses_120 : decode b_T_crosses 120 = .ok (.if_icmp .ge 7, 3) := by decide +kernel
theorem d_T_crosses_123 : decode b_T_crosses 123 = .ok (.iconst 1, 1) := by decide +kernel
theorem d_T_crosses_124 : decode b_T_crosses 124 = .ok (.goto 4, 3) := by decide +kernel
theorem d_T_crosses_127 : decode b_T_crosses 127 = .ok (.iconst 0, 1) := by decide +kernel
theorem d_T_crosses_128 : decode b_T_crosses 128 = .ok (.istore_n 3, 1) := by decide +kernel
theorem d_T_crosses_129 : decode b_T_crosses 129 = .ok (.iload 4, 2) := by decide +kernel
theorem d_T_crosses_131 : decode b_T_crosses 131 = .ok (.ifCond .ne 10, 3) := by decide +kernel
theorem d_T_crosses_134 : decode b_T_crosses 134 = .ok (.iload 8, 2) := by decide +kernel
theorem d_T_crosses_136 : decode b_T_crosses 136 = .ok (.iload 7, 2) := by decide +kernel
theorem d_T_crosses_138 : decode b_T_crosses 138 = .ok (.if_icmp .ge 7, 3) := by decide +kernel
theorem d_T_crosses_141 : decode b_T_crosses 141 = .ok (.iconst 1, 1) := by decide +kernel
theorem d_T_crosses_142 : decode b_T_crosses 142 = .ok (.goto 4, 3) := by decide +kernel
theorem d_T_crosses_145 : decode b_T_crosses 145 = .ok (.iconst 0, 1) := by decide +kernel
theorem d_T_crosses_146 : decode b_T_crosses 146 = .ok (.istore 4, 2) := by decide +kernel
theorem d_T_crosses_148 : decode b_T_crosses 148 = .ok (.iinc 6 1, 3) := by decide +kernel
theorem d_T_crosses_151 : decode b_T_crosses 151 = .ok (.goto (-106), 3) := by decide +kernel
theorem d_T_crosses_154 : decode b_T_crosses 154 = .ok (.iload_n 3, 1) := by decide +kernel
theorem d_T_crosses_155 : decode b_T_crosses 155 = .ok (.ifCond .eq 12, 3) := by decide +kernel
theorem d_T_crosses_158 : decode b_T_crosses 158 = .ok (.iload 4, 2) := by decide +kernel
theorem d_T_crosses_160 : decode b_T_crosses 160 = .ok (.ifCond .eq 7, 3) := by decide +kernel
theorem d_T_crosses_163 : decode b_T_crosses 163 = .ok (.iconst 1, 1) := by decide +kernel
theorem d_T_crosses_164 : decode b_T_crosses 164 = .ok (.goto 4, 3) := by decide +kernel
theorem d_T_crosses_167 : decode b_T_crosses 167 = .ok (.iconst 0, 1) := by decide +kernel
theorem d_T_crosses_168 : decode b_T_crosses 168 = .ok (.ireturn, 1) := by decide +kernel
theorem d_T_under_0 : decode b_T_under 0 = .ok (.aload_n 0, 1) := by decide +kernel
theorem d_T_under_1 : decode b_T_under 1 = .ok (.getfield 186, 3) := by decide +kernel
theorem d_T_under_4 : decode b_T_under 4 = .ok (.ifCond .eq 14, 3) := by decide +kernel
theorem d_T_under_7 : decode b_T_under 7 = .ok (.iload_n 1, 1) := by decide +kernel
theorem d_T_under_8 : decode b_T_under 8 = .ok (.invokestatic 61, 3) := by decide +kernel
theorem d_T_under_11 : decode b_T_under 11 = .ok (.ifCond .eq 7, 3) := by decide +kernel
theorem d_T_under_14 : decode b_T_under 14 = .ok (.iload_n 2, 1) := by decide +kernel
theorem d_T_under_15 : decode b_T_under 15 = .ok (.ifCond .ge 5, 3) := by decide +kernel
theorem d_T_under_18 : decode b_T_under 18 = .ok (.iconst (-1), 1) := by decide +kernel
theorem d_T_under_19 : decode b_T_under 19 = .ok (.ireturn, 1) := by decide +kernel
theorem d_T_under_20 : decode b_T_under 20 = .ok (.aload_n 0, 1) := by decide +kernel
theorem d_T_under_21 : decode b_T_under 21 = .ok (.getfield 10, 3) := by decide +kernel
theorem d_T_under_24 : decode b_T_under 24 = .ok (.getfield 115, 3) := by decide +kernel
theorem d_T_under_27 : decode b_T_under 27 = .ok (.iload_n 2, 1) := by decide +kernel
theorem d_T_under_28 : decode b_T_under 28 = .ok (.invokevirtual 119, 3) := by decide +kernel
theorem d_T_under_31 : decode b_T_under 31 = .ok (.ifCond .ne 5, 3) := by decide +kernel
theorem d_T_under_34 : decode b_T_under 34 = .ok (.iconst 0, 1) := by decide +kernel
theorem d_T_under_35 : decode b_T_under 35 = .ok (.ireturn, 1) := by decide +kernel
theorem d_T_under_36 : decode b_T_under 36 = .ok (.iconst 0, 1) := by decide +kernel
theorem d_T_under_37 : decode b_T_under 37 = .ok (.istore_n 3, 1) := by decide +kernel
theorem d_T_under_38 : decode b_T_under 38 = .ok (.iconst 0, 1) := by decide +kernel
theorem d_T_under_39 : decode b_T_under 39 = .ok (.istore 4, 2) := by decide +kernel
theorem d_T_under_41 : decode b_T_under 41 = .ok (.iload 4, 2) := by decide +kernel
theorem d_T_under_43 : decode b_T_under 43 = .ok (.aload_n 0, 1) := by decide +kernel
theorem d_T_under_44 : decode b_T_under 44 = .ok (.getfield 10, 3) := by decide +kernel
theorem d_T_under_47 : decode b_T_under 47 = .ok (.getfield 80, 3) := by decide +kernel
theorem d_T_under_50 : decode b_T_under 50 = .ok (.if_icmp .ge 62, 3) := by decide +kernel
theorem d_T_under_53 : decode b_T_under 53 = .ok (.aload_n 0, 1) := by decide +kernel
theorem d_T_under_54 : decode b_T_under 54 = .ok (.getfield 28, 3) := by decide +kernel
theorem d_T_under_57 : decode b_T_under 57 = .ok (.getfield 159, 3) := by decide +kernel
theorem d_T_under_60 : decode b_T_under 60 = .ok (.iload 4, 2) := by decide +kernel
theorem d_T_under_62 : decode b_T_under 62 = .ok (.iaload, 1) := by decide +kernel
theorem d_T_under_63 : decode b_T_under 63 = .ok (.istore 5, 2) := by decide +kernel
theorem d_T_under_65 : decode b_T_under 65 = .ok (.aload_n 0, 1) := by decide +kernel
theorem d_T_under_66 : decode b_T_under 66 = .ok (.getfield 10, 3) := by decide +kernel
theorem d_T_under_69 : decode b_T_under 69 = .ok (.getfield 94, 3) := by decide +kernel
theorem d_T_under_72 : decode b_T_under 72 = .ok (.iload 4, 2) := by decide +kernel
theorem d_T_under_74 : decode b_T_under 74 = .ok (.aaload, 1) := by decide +kernel
theorem d_T_under_75 : decode b_T_under 75 = .ok (.getfield 189, 3) := by decide +kernel
theorem d_T_under_78 : decode b_T_under 78 = .ok (.iload_n 1, 1) := by decide +kernel
theorem d_T_under_79 : decode b_T_under 79 = .ok (.if_icmp .ne 27, 3) := by decide +kernel
theorem d_T_under_82 : decode b_T_under 82 = .ok (.iload 5, 2) := by decide +kernel
theorem d_T_under_84 : decode b_T_under 84 = .ok (.iload_n 2, 1) := by decide +kernel
theorem d_T_under_85 : decode b_T_under 85 = .ok (.if_icmp .gt 21, 3) := by decide +kernel
theorem d_T_under_88 : decode b_T_under 88 = .ok (.iload_n 2, 1) := by decide +kernel
theorem d_T_under_89 : decode b_T_under 89 = .ok (.aload_n 0, 1) := by decide +kernel
theorem d_T_under_90 : decode b_T_under 90 = .ok (.getfield 10, 3) := by decide +kernel
theorem d_T_under_93 : decode b_T_under 93 = .ok (.iload 4, 2) := by decide +kernel
theorem d_T_under_95 : decode b_T_under 95 = .ok (.iload 5, 2) := by decide +kernel
theorem d_T_under_97 : decode b_T_under 97 = .ok (.invokevirtual 162, 3) := by decide +kernel
theorem d_T_under_100 : decode b_T_under 100 = .ok (.if_icmp .ge 6, 3) := by decide +kernel
theorem d_T_under_103 : decode b_T_under 103 = .ok (.iinc 3 1, 3) := by decide +kernel
theorem d_T_under_106 : decode b_T_under 106 = .ok (.iinc 4 1, 3) := by decide +kernel
theorem d_T_under_109 : decode b_T_under 109 = .ok (.goto (-68), 3) := by decide +kernel
theorem d_T_under_112 : decode b_T_under 112 = .ok (.iload_n 3, 1) := by decide +kernel
theorem d_T_under_113 : decode b_T_under 113 = .ok (.ireturn, 1) := by decide +kernel
theorem d_T_bound_0 : decode b_T_bound 0 = .ok (.iconst 0, 1) := by decide +kernel
theorem d_T_bound_1 : decode b_T_bound 1 = .ok (.istore_n 1, 1) := by decide +kernel
theorem d_T_bound_2 : decode b_T_bound 2 = .ok (.iconst 0, 1) := by decide +kernel
theorem d_T_bound_3 : decode b_T_bound 3 = .ok (.istore_n 2, 1) := by decide +kernel
theorem d_T_bound_4 : decode b_T_bound 4 = .ok (.iload_n 2, 1) := by decide +kernel
theorem d_T_bound_5 : decode b_T_bound 5 = .ok (.aload_n 0, 1) := by decide +kernel
theorem d_T_bound_6 : decode b_T_bound 6 = .ok (.getfield 10, 3) := by decide +kernel
theorem d_T_bound_9 : decode b_T_bound 9 = .ok (.getfield 65, 3) := by decide +kernel
theorem d_T_bound_12 : decode b_T_bound 12 = .ok (.if_icmp .ge 22, 3) := by decide +kernel
theorem d_T_bound_15 : decode b_T_bound 15 = .ok (.iload_n 1, 1) := by decide +kernel
theorem d_T_bound_16 : decode b_T_bound 16 = .ok (.aload_n 0, 1) := by decide +kernel
theorem d_T_bound_17 : decode b_T_bound 17 = .ok (.getfield 10, 3) := by decide +kernel
theorem d_T_bound_20 : decode b_T_bound 20 = .ok (.iload_n 2, 1) := by decide +kernel
theorem d_T_bound_21 : decode b_T_bound 21 = .ok (.invokevirtual 192, 3) := by decide +kernel
theorem d_T_bound_24 : decode b_T_bound 24 = .ok (.invokestatic 195, 3) := by decide +kernel
theorem d_T_bound_27 : decode b_T_bound 27 = .ok (.istore_n 1, 1) := by decide +kernel
theorem d_T_bound_28 : decode b_T_bound 28 = .ok (.iinc 2 1, 3) := by decide +kernel
theorem d_T_bound_31 : decode b_T_bound 31 = .ok (.goto (-27), 3) := by decide +kernel
theorem d_T_bound_34 : decode b_T_bound 34 = .ok (.iload_n 1, 1) := by decide +kernel
theorem d_T_bound_35 : decode b_T_bound 35 = .ok (.ireturn, 1) := by decide +kernel
theorem d_T_lone_0 : decode b_T_lone 0 = .ok (.iconst 0, 1) := by decide +kernel
theorem d_T_lone_1 : decode b_T_lone 1 = .ok (.istore_n 2, 1) := by decide +kernel
theorem d_T_lone_2 : decode b_T_lone 2 = .ok (.iconst 0, 1) := by decide +kernel
theorem d_T_lone_3 : decode b_T_lone 3 = .ok (.istore_n 3, 1) := by decide +kernel
theorem d_T_lone_4 : decode b_T_lone 4 = .ok (.iload_n 3, 1) := by decide +kernel
theorem d_T_lone_5 : decode b_T_lone 5 = .ok (.aload_n 0, 1) := by decide +kernel
theorem d_T_lone_6 : decode b_T_lone 6 = .ok (.getfield 10, 3) := by decide +kernel
theorem d_T_lone_9 : decode b_T_lone 9 = .ok (.getfield 80, 3) := by decide +kernel
theorem d_T_lone_12 : decode b_T_lone 12 = .ok (.if_icmp .ge 30, 3) := by decide +kernel
theorem d_T_lone_15 : decode b_T_lone 15 = .ok (.aload_n 0, 1) := by decide +kernel
theorem d_T_lone_16 : decode b_T_lone 16 = .ok (.getfield 21, 3) := by decide +kernel
theorem d_T_lone_19 : decode b_T_lone 19 = .ok (.iload_n 3, 1) := by decide +kernel
theorem d_T_lone_20 : decode b_T_lone 20 = .ok (.invokevirtual 200, 3) := by decide +kernel
theorem d_T_lone_23 : decode b_T_lone 23 = .ok (.ifCond .ne 13, 3) := by decide +kernel
theorem d_T_lone_26 : decode b_T_lone 26 = .ok (.iload_n 2, 1) := by decide +kernel
theorem d_T_lone_27 : decode b_T_lone 27 = .ok (.iload_n 1, 1) := by decide +kernel
theorem d_T_lone_28 : decode b_T_lone 28 = .ok (.if_icmp .ne 5, 3) := by decide +kernel
theorem d_T_lone_31 : decode b_T_lone 31 = .ok (.iload_n 3, 1) := by decide +kernel
theorem d_T_lone_32 : decode b_T_lone 32 = .ok (.ireturn, 1) := by decide +kernel
theorem d_T_lone_33 : decode b_T_lone 33 = .ok (.iinc 2 1, 3) := by decide +kernel
theorem d_T_lone_36 : decode b_T_lone 36 = .ok (.iinc 3 1, 3) := by decide +kernel
theorem d_T_lone_39 : decode b_T_lone 39 = .ok (.goto (-35), 3) := by decide +kernel
theorem d_T_lone_42 : decode b_T_lone 42 = .ok (.iconst (-1), 1) := by decide +kernel
theorem d_T_lone_43 : decode b_T_lone 43 = .ok (.ireturn, 1) := by decide +kernel
theorem d_T_late_0 : decode b_T_late 0 = .ok (.aload_n 0, 1) := by decide +kernel
theorem d_T_late_1 : decode b_T_late 1 = .ok (.iload_n 1, 1) := by decide +kernel
theorem d_T_late_2 : decode b_T_late 2 = .ok (.invokevirtual 156, 3) := by decide +kernel
theorem d_T_late_5 : decode b_T_late 5 = .ok (.ifCond .eq 13, 3) := by decide +kernel
theorem d_T_late_8 : decode b_T_late 8 = .ok (.iload_n 2, 1) := by decide +kernel
theorem d_T_late_9 : decode b_T_late 9 = .ok (.iconst 0, 1) := by decide +kernel
theorem d_T_late_10 : decode b_T_late 10 = .ok (.bipush 100, 2) := by decide +kernel
theorem d_T_late_12 : decode b_T_late 12 = .ok (.invokestatic 76, 3) := by decide +kernel
theorem d_T_late_15 : decode b_T_late 15 = .ok (.ifCond .ne 5, 3) := by decide +kernel
theorem d_T_late_18 : decode b_T_late 18 = .ok (.iconst 0, 1) := by decide +kernel
theorem d_T_late_19 : decode b_T_late 19 = .ok (.ireturn, 1) := by decide +kernel
theorem d_T_late_20 : decode b_T_late 20 = .ok (.aload_n 0, 1) := by decide +kernel
theorem d_T_late_21 : decode b_T_late 21 = .ok (.getfield 10, 3) := by decide +kernel
theorem d_T_late_24 : decode b_T_late 24 = .ok (.getfield 94, 3) := by decide +kernel
theorem d_T_late_27 : decode b_T_late 27 = .ok (.iload_n 1, 1) := by decide +kernel
theorem d_T_late_28 : decode b_T_late 28 = .ok (.aaload, 1) := by decide +kernel
theorem d_T_late_29 : decode b_T_late 29 = .ok (.aload_n 0, 1) := by decide +kernel
theorem d_T_late_30 : decode b_T_late 30 = .ok (.getfield 28, 3) := by decide +kernel
theorem d_T_late_33 : decode b_T_late 33 = .ok (.getfield 159, 3) := by decide +kernel
theorem d_T_late_36 : decode b_T_late 36 = .ok (.iload_n 1, 1) := by decide +kernel
theorem d_T_late_37 : decode b_T_late 37 = .ok (.iaload, 1) := by decide +kernel
theorem d_T_late_38 : decode b_T_late 38 = .ok (.iload_n 2, 1) := by decide +kernel
theorem d_T_late_39 : decode b_T_late 39 = .ok (.iadd, 1) := by decide +kernel
theorem d_T_late_40 : decode b_T_late 40 = .ok (.putfield 203, 3) := by decide +kernel
theorem d_T_late_43 : decode b_T_late 43 = .ok (.iconst 1, 1) := by decide +kernel
theorem d_T_late_44 : decode b_T_late 44 = .ok (.ireturn, 1) := by decide +kernel
theorem d_T_freeze_0 : decode b_T_freeze 0 = .ok (.aload_n 0, 1) := by decide +kernel
theorem d_T_freeze_1 : decode b_T_freeze 1 = .ok (.getfield 186, 3) := by decide +kernel
theorem d_T_freeze_4 : decode b_T_freeze 4 = .ok (.ifCond .eq 7, 3) := by decide +kernel
theorem d_T_freeze_7 : decode b_T_freeze 7 = .ok (.iload_n 1, 1) := by decide +kernel
theorem d_T_freeze_8 : decode b_T_freeze 8 = .ok (.ifCond .ge 5, 3) := by decide +kernel
theorem d_T_freeze_11 : decode b_T_freeze 11 = .ok (.iconst (-1), 1) := by decide +kernel
theorem d_T_freeze_12 : decode b_T_freeze 12 = .ok (.ireturn, 1) := by decide +kernel
theorem d_T_freeze_13 : decode b_T_freeze 13 = .ok (.iconst 0, 1) := by decide +kernel
theorem d_T_freeze_14 : decode b_T_freeze 14 = .ok (.istore_n 2, 1) := by decide +kernel
theorem d_T_freeze_15 : decode b_T_freeze 15 = .ok (.iload_n 2, 1) := by decide +kernel
theorem d_T_freeze_16 : decode b_T_freeze 16 = .ok (.aload_n 0, 1) := by decide +kernel
theorem d_T_freeze_17 : decode b_T_freeze 17 = .ok (.getfield 10, 3) := by decide +kernel
theorem d_T_freeze_20 : decode b_T_freeze 20 = .ok (.getfield 80, 3) := by decide +kernel
theorem d_T_freeze_23 : decode b_T_freeze 23 = .ok (.if_icmp .ge 39, 3) := by decide +kernel
theorem d_T_freeze_26 : decode b_T_freeze 26 = .ok (.aload_n 0, 1) := by decide +kernel
theorem d_T_freeze_27 : decode b_T_freeze 27 = .ok (.getfield 10, 3) := by decide +kernel
theorem d_T_freeze_30 : decode b_T_freeze 30 = .ok (.getfield 94, 3) := by decide +kernel
theorem d_T_freeze_33 : decode b_T_freeze 33 = .ok (.iload_n 2, 1) := by decide +kernel
theorem d_T_freeze_34 : decode b_T_freeze 34 = .ok (.aaload, 1) := by decide +kernel
theorem d_T_freeze_35 : decode b_T_freeze 35 = .ok (.aload_n 0, 1) := by decide +kernel
theorem d_T_freeze_36 : decode b_T_freeze 36 = .ok (.getfield 28, 3) := by decide +kernel
theorem d_T_freeze_39 : decode b_T_freeze 39 = .ok (.getfield 159, 3) := by decide +kernel
theorem d_T_freeze_42 : decode b_T_freeze 42 = .ok (.iload_n 2, 1) := by decide +kernel
theorem d_T_freeze_43 : decode b_T_freeze 43 = .ok (.iaload, 1) := by decide +kernel
theorem d_T_freeze_44 : decode b_T_freeze 44 = .ok (.iload_n 1, 1) := by decide +kernel
theorem d_T_freeze_45 : decode b_T_freeze 45 = .ok (.if_icmp .ge 7, 3) := by decide +kernel
theorem d_T_freeze_48 : decode b_T_freeze 48 = .ok (.iconst 1, 1) := by decide +kernel
theorem d_T_freeze_49 : decode b_T_freeze 49 = .ok (.goto 4, 3) := by decide +kernel
theorem d_T_freeze_52 : decode b_T_freeze 52 = .ok (.iconst 0, 1) := by decide +kernel
theorem d_T_freeze_53 : decode b_T_freeze 53 = .ok (.putfield 206, 3) := by decide +kernel
theorem d_T_freeze_56 : decode b_T_freeze 56 = .ok (.iinc 2 1, 3) := by decide +kernel
theorem d_T_freeze_59 : decode b_T_freeze 59 = .ok (.goto (-44), 3) := by decide +kernel
theorem d_T_freeze_62 : decode b_T_freeze 62 = .ok (.aload_n 0, 1) := by decide +kernel
theorem d_T_freeze_63 : decode b_T_freeze 63 = .ok (.getfield 10, 3) := by decide +kernel
theorem d_T_freeze_66 : decode b_T_freeze 66 = .ok (.invokevirtual 209, 3) := by decide +kernel
theorem d_T_freeze_69 : decode b_T_freeze 69 = .ok (.ireturn, 1) := by decide +kernel
theorem d_T_replan_0 : decode b_T_replan 0 = .ok (.iload_n 1, 1) := by decide +kernel
theorem d_T_replan_1 : decode b_T_replan 1 = .ok (.iconst 1, 1) := by decide +kernel
theorem d_T_replan_2 : decode b_T_replan 2 = .ok (.sipush 20000, 3) := by decide +kernel
theorem d_T_replan_5 : decode b_T_replan 5 = .ok (.invokestatic 76, 3) := by decide +kernel
theorem d_T_replan_8 : decode b_T_replan 8 = .ok (.ifCond .eq 10, 3) := by decide +kernel
theorem d_T_replan_11 : decode b_T_replan 11 = .ok (.aload_n 0, 1) := by decide +kernel
theorem d_T_replan_12 : decode b_T_replan 12 = .ok (.getfield 186, 3) := by decide +kernel
theorem d_T_replan_15 : decode b_T_replan 15 = .ok (.ifCond .ne 5, 3) := by decide +kernel
theorem d_T_replan_18 : decode b_T_replan 18 = .ok (.iconst (-1), 1) := by decide +kernel
theorem d_T_replan_19 : decode b_T_replan 19 = .ok (.ireturn, 1) := by decide +kernel
theorem d_T_replan_20 : decode b_T_replan 20 = .ok (.aload_n 0, 1) := by decide +kernel
theorem d_T_replan_21 : decode b_T_replan 21 = .ok (.getfield 37, 3) := by decide +kernel
theorem d_T_replan_24 : decode b_T_replan 24 = .ok (.iload_n 1, 1) := by decide +kernel
theorem d_T_replan_25 : decode b_T_replan 25 = .ok (.iconst 1, 1) := by decide +kernel
theorem d_T_replan_26 : decode b_T_replan 26 = .ok (.invokevirtual 138, 3) := by decide +kernel
theorem d_T_replan_29 : decode b_T_replan 29 = .ok (.aload_n 0, 1) := by decide +kernel
theorem d_T_replan_30 : decode b_T_replan 30 = .ok (.iconst 1, 1) := by decide +kernel
theorem d_T_replan_31 : decode b_T_replan 31 = .ok (.invokevirtual 142, 3) := by decide +kernel
theorem d_T_replan_34 : decode b_T_replan 34 = .ok (.ifCond .eq 13, 3) := by decide +kernel
theorem d_T_replan_37 : decode b_T_replan 37 = .ok (.aload_n 0, 1) := by decide +kernel
theorem d_T_replan_38 : decode b_T_replan 38 = .ok (.getfield 37, 3) := by decide +kernel
theorem d_T_replan_41 : decode b_T_replan 41 = .ok (.getfield 213, 3) := by decide +kernel
theorem d_T_replan_44 : decode b_T_replan 44 = .ok (.goto 4, 3) := by decide +kernel
theorem d_T_replan_47 : decode b_T_replan 47 = .ok (.iconst (-1), 1) := by decide +kernel
theorem d_T_replan_48 : decode b_T_replan 48 = .ok (.ireturn, 1) := by decide +kernel
theorem d_T_moved_0 : decode b_T_moved 0 = .ok (.aload_n 0, 1) := by decide +kernel
theorem d_T_moved_1 : decode b_T_moved 1 = .ok (.iload_n 1, 1) := by decide +kernel
theorem d_T_moved_2 : decode b_T_moved 2 = .ok (.invokevirtual 156, 3) := by decide +kernel
theorem d_T_moved_5 : decode b_T_moved 5 = .ok (.ifCond .eq 16, 3) := by decide +kernel
theorem d_T_moved_8 : decode b_T_moved 8 = .ok (.aload_n 0, 1) := by decide +kernel
theorem d_T_moved_9 : decode b_T_moved 9 = .ok (.getfield 57, 3) := by decide +kernel
theorem d_T_moved_12 : decode b_T_moved 12 = .ok (.iload_n 1, 1) := by decide +kernel
theorem d_T_moved_13 : decode b_T_moved 13 = .ok (.baload, 1) := by decide +kernel
theorem d_T_moved_14 : decode b_T_moved 14 = .ok (.ifCond .eq 7, 3) := by decide +kernel
theorem d_T_moved_17 : decode b_T_moved 17 = .ok (.iconst 1, 1) := by decide +kernel
theorem d_T_moved_18 : decode b_T_moved 18 = .ok (.goto 4, 3) := by decide +kernel
theorem d_T_moved_21 : decode b_T_moved 21 = .ok (.iconst 0, 1) := by decide +kernel
theorem d_T_moved_22 : decode b_T_moved 22 = .ok (.ireturn, 1) := by decide +kernel
theorem d_T_slack_0 : decode b_T_slack 0 = .ok (.aload_n 0, 1) := by decide +kernel
theorem d_T_slack_1 : decode b_T_slack 1 = .ok (.iload_n 1, 1) := by decide +kernel
theorem d_T_slack_2 : decode b_T_slack 2 = .ok (.invokevirtual 156, 3) := by decide +kernel
theorem d_T_slack_5 : decode b_T_slack 5 = .ok (.ifCond .ne 5, 3) := by decide +kernel
theorem d_T_slack_8 : decode b_T_slack 8 = .ok (.iconst (-1), 1) := by decide +kernel
theorem d_T_slack_9 : decode b_T_slack 9 = .ok (.ireturn, 1) := by decide +kernel
theorem d_T_slack_10 : decode b_T_slack 10 = .ok (.aload_n 0, 1) := by decide +kernel
theorem d_T_slack_11 : decode b_T_slack 11 = .ok (.getfield 21, 3) := by decide +kernel
theorem d_T_slack_14 : decode b_T_slack 14 = .ok (.aload_n 0, 1) := by decide +kernel
theorem d_T_slack_15 : decode b_T_slack 15 = .ok (.getfield 44, 3) := by decide +kernel
theorem d_T_slack_18 : decode b_T_slack 18 = .ok (.aload_n 0, 1) := by decide +kernel
theorem d_T_slack_19 : decode b_T_slack 19 = .ok (.getfield 28, 3) := by decide +kernel
theorem d_T_slack_22 : decode b_T_slack 22 = .ok (.iload_n 1, 1) := by decide +kernel
theorem d_T_slack_23 : decode b_T_slack 23 = .ok (.aload_n 0, 1) := by decide +kernel
theorem d_T_slack_24 : decode b_T_slack 24 = .ok (.getfield 28, 3) := by decide +kernel
theorem d_T_slack_27 : decode b_T_slack 27 = .ok (.getfield 166, 3) := by decide +kernel
theorem d_T_slack_30 : decode b_T_slack 30 = .ok (.iload_n 1, 1) := by decide +kernel
theorem d_T_slack_31 : decode b_T_slack 31 = .ok (.iaload, 1) := by decide +kernel
theorem d_T_slack_32 : decode b_T_slack 32 = .ok (.aload_n 0, 1) := by decide +kernel
theorem d_T_slack_33 : decode b_T_slack 33 = .ok (.getfield 10, 3) := by decide +kernel
theorem d_T_slack_36 : decode b_T_slack 36 = .ok (.getfield 80, 3) := by decide +kernel
theorem d_T_slack_39 : decode b_T_slack 39 = .ok (.invokevirtual 216, 3) := by decide +kernel
theorem d_T_slack_42 : decode b_T_slack 42 = .ok (.iconst 0, 1) := by decide +kernel
theorem d_T_slack_43 : decode b_T_slack 43 = .ok (.istore_n 2, 1) := by decide +kernel
theorem d_T_slack_44 : decode b_T_slack 44 = .ok (.aload_n 0, 1) := by decide +kernel
theorem d_T_slack_45 : decode b_T_slack 45 = .ok (.getfield 28, 3) := by decide +kernel
theorem d_T_slack_48 : decode b_T_slack 48 = .ok (.getfield 159, 3) := by decide +kernel
theorem d_T_slack_51 : decode b_T_slack 51 = .ok (.iload_n 1, 1) := by decide +kernel
theorem d_T_slack_52 : decode b_T_slack 52 = .ok (.iaload, 1) := by decide +kernel
theorem d_T_slack_53 : decode b_T_slack 53 = .ok (.iconst 1, 1) := by decide +kernel
theorem d_T_slack_54 : decode b_T_slack 54 = .ok (.iadd, 1) := by decide +kernel
theorem d_T_slack_55 : decode b_T_slack 55 = .ok (.istore_n 3, 1) := by decide +kernel
theorem d_T_slack_56 : decode b_T_slack 56 = .ok (.iload_n 3, 1) := by decide +kernel
theorem d_T_slack_57 : decode b_T_slack 57 = .ok (.bipush 100, 2) := by decide +kernel
theorem d_T_slack_59 : decode b_T_slack 59 = .ok (.if_icmp .ge 38, 3) := by decide +kernel
theorem d_T_slack_62 : decode b_T_slack 62 = .ok (.aload_n 0, 1) := by decide +kernel
theorem d_T_slack_63 : decode b_T_slack 63 = .ok (.getfield 10, 3) := by decide +kernel
theorem d_T_slack_66 : decode b_T_slack 66 = .ok (.getfield 115, 3) := by decide +kernel
theorem d_T_slack_69 : decode b_T_slack 69 = .ok (.iload_n 3, 1) := by decide +kernel
theorem d_T_slack_70 : decode b_T_slack 70 = .ok (.invokevirtual 119, 3) := by decide +kernel
theorem d_T_slack_73 : decode b_T_slack 73 = .ok (.ifCond .eq 18, 3) := by decide +kernel
theorem d_T_slack_76 : decode b_T_slack 76 = .ok (.aload_n 0, 1) := by decide +kernel
theorem d_T_slack_77 : decode b_T_slack 77 = .ok (.iload_n 1, 1) := by decide +kernel
theorem d_T_slack_78 : decode b_T_slack 78 = .ok (.iload_n 3, 1) := by decide +kernel
theorem d_T_slack_79 : decode b_T_slack 79 = .ok (.invokevirtual 220, 3) := by decide +kernel
theorem d_T_slack_82 : decode b_T_slack 82 = .ok (.ifCond .ne 6, 3) := by decide +kernel
theorem d_T_slack_85 : decode b_T_slack 85 = .ok (.goto 12, 3) := by decide +kernel
theorem d_T_slack_88 : decode b_T_slack 88 = .ok (.iinc 2 1, 3) := by decide +kernel
theorem d_T_slack_91 : decode b_T_slack 91 = .ok (.iinc 3 1, 3) := by decide +kernel
theorem d_T_slack_94 : decode b_T_slack 94 = .ok (.goto (-38), 3) := by decide +kernel
theorem d_T_slack_97 : decode b_T_slack 97 = .ok (.iload_n 2, 1) := by decide +kernel
theorem d_T_slack_98 : decode b_T_slack 98 = .ok (.ireturn, 1) := by decide +kernel
theorem d_T_odds_0 : decode b_T_odds 0 = .ok (.aload_n 0, 1) := by decide +kernel
theorem d_T_odds_1 : decode b_T_odds 1 = .ok (.getfield 186, 3) := by decide +kernel
theorem d_T_odds_4 : decode b_T_odds 4 = .ok (.ifCond .eq 27, 3) := by decide +kernel
theorem d_T_odds_7 : decode b_T_odds 7 = .ok (.iload_n 1, 1) := by decide +kernel
theorem d_T_odds_8 : decode b_T_odds 8 = .ok (.ifCond .lt 23, 3) := by decide +kernel
theorem d_T_odds_11 : decode b_T_odds 11 = .ok (.iload_n 2, 1) := by decide +kernel
theorem d_T_odds_12 : decode b_T_odds 12 = .ok (.iconst 1, 1) := by decide +kernel
theorem d_T_odds_13 : decode b_T_odds 13 = .ok (.bipush 50, 2) := by decide +kernel
theorem d_T_odds_15 : decode b_T_odds 15 = .ok (.invokestatic 76, 3) := by decide +kernel
theorem d_T_odds_18 : decode b_T_odds 18 = .ok (.ifCond .eq 13, 3) := by decide +kernel
theorem d_T_odds_21 : decode b_T_odds 21 = .ok (.iload_n 3, 1) := by decide +kernel
theorem d_T_odds_22 : decode b_T_odds 22 = .ok (.iconst 0, 1) := by decide +kernel
theorem d_T_odds_23 : decode b_T_odds 23 = .ok (.bipush 90, 2) := by decide +kernel
theorem d_T_odds_25 : decode b_T_odds 25 = .ok (.invokestatic 76, 3) := by decide +kernel
theorem d_T_odds_28 : decode b_T_odds 28 = .ok (.ifCond .ne 5, 3) := by decide +kernel
theorem d_T_odds_31 : decode b_T_odds 31 = .ok (.iconst (-1), 1) := by decide +kernel
theorem d_T_odds_32 : decode b_T_odds 32 = .ok (.ireturn, 1) := by decide +kernel
theorem d_T_odds_33 : decode b_T_odds 33 = .ok (.aload_n 0, 1) := by decide +kernel
theorem d_T_odds_34 : decode b_T_odds 34 = .ok (.getfield 53, 3) := by decide +kernel
theorem d_T_odds_37 : decode b_T_odds 37 = .ok (.iload 4, 2) := by decide +kernel
theorem d_T_odds_39 : decode b_T_odds 39 = .ok (.invokevirtual 224, 3) := by decide +kernel
theorem d_T_odds_42 : decode b_T_odds 42 = .ok (.iconst 0, 1) := by decide +kernel
theorem d_T_odds_43 : decode b_T_odds 43 = .ok (.istore 5, 2) := by decide +kernel
theorem d_T_odds_45 : decode b_T_odds 45 = .ok (.iconst 0, 1) := by decide +kernel
theorem d_T_odds_46 : decode b_T_odds 46 = .ok (.istore 6, 2) := by decide +kernel
theorem d_T_odds_48 : decode b_T_odds 48 = .ok (.iload 6, 2) := by decide +kernel
theorem d_T_odds_50 : decode b_T_odds 50 = .ok (.iload_n 2, 1) := by decide +kernel
theorem d_T_odds_51 : decode b_T_odds 51 = .ok (.if_icmp .ge 24, 3) := by decide +kernel
theorem d_T_odds_54 : decode b_T_odds 54 = .ok (.aload_n 0, 1) := by decide +kernel
theorem d_T_odds_55 : decode b_T_odds 55 = .ok (.getfield 53, 3) := by decide +kernel
theorem d_T_odds_58 : decode b_T_odds 58 = .ok (.iload_n 3, 1) := by decide +kernel
theorem d_T_odds_59 : decode b_T_odds 59 = .ok (.invokevirtual 227, 3) := by decide +kernel
theorem d_T_odds_62 : decode b_T_odds 62 = .ok (.iload_n 1, 1) := by decide +kernel
theorem d_T_odds_63 : decode b_T_odds 63 = .ok (.if_icmp .gt 6, 3) := by decide +kernel
theorem d_T_odds_66 : decode b_T_odds 66 = .ok (.iinc 5 1, 3) := by decide +kernel
theorem d_T_odds_69 : decode b_T_odds 69 = .ok (.iinc 6 1, 3) := by decide +kernel
theorem d_T_odds_72 : decode b_T_odds 72 = .ok (.goto (-24), 3) := by decide +kernel
theorem d_T_odds_75 : decode b_T_odds 75 = .ok (.iload 5, 2) := by decide +kernel
theorem d_T_odds_77 : decode b_T_odds 77 = .ok (.ireturn, 1) := by decide +kernel
theorem d_T_count_0 : decode b_T_count 0 = .ok (.iload_n 1, 1) := by decide +kernel
theorem d_T_count_1 : decode b_T_count 1 = .ok (.tableswitch 98 0 5 #[39, 47, 55, 66, 74, 82], 39) := by decide +kernel
theorem d_T_count_40 : decode b_T_count 40 = .ok (.aload_n 0, 1) := by decide +kernel
theorem d_T_count_41 : decode b_T_count 41 = .ok (.getfield 10, 3) := by decide +kernel
theorem d_T_count_44 : decode b_T_count 44 = .ok (.getfield 65, 3) := by decide +kernel
theorem d_T_count_47 : decode b_T_count 47 = .ok (.ireturn, 1) := by decide +kernel
theorem d_T_count_48 : decode b_T_count 48 = .ok (.aload_n 0, 1) := by decide +kernel
theorem d_T_count_49 : decode b_T_count 49 = .ok (.getfield 10, 3) := by decide +kernel
theorem d_T_count_52 : decode b_T_count 52 = .ok (.getfield 80, 3) := by decide +kernel
theorem d_T_count_55 : decode b_T_count 55 = .ok (.ireturn, 1) := by decide +kernel
theorem d_T_count_56 : decode b_T_count 56 = .ok (.aload_n 0, 1) := by decide +kernel
theorem d_T_count_57 : decode b_T_count 57 = .ok (.getfield 10, 3) := by decide +kernel
theorem d_T_count_60 : decode b_T_count 60 = .ok (.getfield 115, 3) := by decide +kernel
theorem d_T_count_63 : decode b_T_count 63 = .ok (.getfield 230, 3) := by decide +kernel
theorem d_T_count_66 : decode b_T_count 66 = .ok (.ireturn, 1) := by decide +kernel
theorem d_T_count_67 : decode b_T_count 67 = .ok (.aload_n 0, 1) := by decide +kernel
theorem d_T_count_68 : decode b_T_count 68 = .ok (.getfield 10, 3) := by decide +kernel
theorem d_T_count_71 : decode b_T_count 71 = .ok (.getfield 109, 3) := by decide +kernel
theorem d_T_count_74 : decode b_T_count 74 = .ok (.ireturn, 1) := by decide +kernel
theorem d_T_count_75 : decode b_T_count 75 = .ok (.aload_n 0, 1) := by decide +kernel
theorem d_T_count_76 : decode b_T_count 76 = .ok (.getfield 10, 3) := by decide +kernel
theorem d_T_count_79 : decode b_T_count 79 = .ok (.invokevirtual 209, 3) := by decide +kernel
theorem d_T_count_82 : decode b_T_count 82 = .ok (.ireturn, 1) := by decide +kernel
theorem d_T_count_83 : decode b_T_count 83 = .ok (.aload_n 0, 1) := by decide +kernel
theorem d_T_count_84 : decode b_T_count 84 = .ok (.getfield 186, 3) := by decide +kernel
theorem d_T_count_87 : decode b_T_count 87 = .ok (.ifCond .eq 10, 3) := by decide +kernel
theorem d_T_count_90 : decode b_T_count 90 = .ok (.aload_n 0, 1) := by decide +kernel
theorem d_T_count_91 : decode b_T_count 91 = .ok (.getfield 146, 3) := by decide +kernel
theorem d_T_count_94 : decode b_T_count 94 = .ok (.goto 4, 3) := by decide +kernel
theorem d_T_count_97 : decode b_T_count 97 = .ok (.iconst (-1), 1) := by decide +kernel
theorem d_T_count_98 : decode b_T_count 98 = .ok (.ireturn, 1) := by decide +kernel
theorem d_T_count_99 : decode b_T_count 99 = .ok (.iconst (-1), 1) := by decide +kernel
theorem d_T_count_100 : decode b_T_count 100 = .ok (.ireturn, 1) := by decide +kernel
theorem d_T_isWork_0 : decode b_T_isWork 0 = .ok (.iload_n 1, 1) := by decide +kernel
theorem d_T_isWork_1 : decode b_T_isWork 1 = .ok (.ifCond .lt 18, 3) := by decide +kernel
theorem d_T_isWork_4 : decode b_T_isWork 4 = .ok (.iload_n 1, 1) := by decide +kernel
theorem d_T_isWork_5 : decode b_T_isWork 5 = .ok (.aload_n 0, 1) := by decide +kernel
theorem d_T_isWork_6 : decode b_T_isWork 6 = .ok (.getfield 10, 3) := by decide +kernel
theorem d_T_isWork_9 : decode b_T_isWork 9 = .ok (.getfield 80, 3) := by decide +kernel
theorem d_T_isWork_12 : decode b_T_isWork 12 = .ok (.if_icmp .ge 7, 3) := by decide +kernel
theorem d_T_isWork_15 : decode b_T_isWork 15 = .ok (.iconst 1, 1) := by decide +kernel
theorem d_T_isWork_16 : decode b_T_isWork 16 = .ok (.goto 4, 3) := by decide +kernel
theorem d_T_isWork_19 : decode b_T_isWork 19 = .ok (.iconst 0, 1) := by decide +kernel
theorem d_T_isWork_20 : decode b_T_isWork 20 = .ok (.ireturn, 1) := by decide +kernel
theorem d_T_isPlanned_0 : decode b_T_isPlanned 0 = .ok (.aload_n 0, 1) := by decide +kernel
theorem d_T_isPlanned_1 : decode b_T_isPlanned 1 = .ok (.getfield 186, 3) := by decide +kernel
theorem d_T_isPlanned_4 : decode b_T_isPlanned 4 = .ok (.ifCond .eq 15, 3) := by decide +kernel
theorem d_T_isPlanned_7 : decode b_T_isPlanned 7 = .ok (.aload_n 0, 1) := by decide +kernel
theorem d_T_isPlanned_8 : decode b_T_isPlanned 8 = .ok (.iload_n 1, 1) := by decide +kernel
theorem d_T_isPlanned_9 : decode b_T_isPlanned 9 = .ok (.invokevirtual 87, 3) := by decide +kernel
theorem d_T_isPlanned_12 : decode b_T_isPlanned 12 = .ok (.ifCond .eq 7, 3) := by decide +kernel
theorem d_T_isPlanned_15 : decode b_T_isPlanned 15 = .ok (.iconst 1, 1) := by decide +kernel
theorem d_T_isPlanned_16 : decode b_T_isPlanned 16 = .ok (.goto 4, 3) := by decide +kernel
theorem d_T_isPlanned_19 : decode b_T_isPlanned 19 = .ok (.iconst 0, 1) := by decide +kernel
theorem d_T_isPlanned_20 : decode b_T_isPlanned 20 = .ok (.ireturn, 1) := by decide +kernel
theorem d_T_isKind_0 : decode b_T_isKind 0 = .ok (.iload_n 0, 1) := by decide +kernel
theorem d_T_isKind_1 : decode b_T_isKind 1 = .ok (.iconst 0, 1) := by decide +kernel
theorem d_T_isKind_2 : decode b_T_isKind 2 = .ok (.iconst 3, 1) := by decide +kernel
theorem d_T_isKind_3 : decode b_T_isKind 3 = .ok (.invokestatic 76, 3) := by decide +kernel
theorem d_T_isKind_6 : decode b_T_isKind 6 = .ok (.ireturn, 1) := by decide +kernel
theorem d_T_isWithin_0 : decode b_T_isWithin 0 = .ok (.iload_n 1, 1) := by decide +kernel
theorem d_T_isWithin_1 : decode b_T_isWithin 1 = .ok (.iload_n 0, 1) := by decide +kernel
theorem d_T_isWithin_2 : decode b_T_isWithin 2 = .ok (.if_icmp .gt 12, 3) := by decide +kernel
theorem d_T_isWithin_5 : decode b_T_isWithin 5 = .ok (.iload_n 0, 1) := by decide +kernel
theorem d_T_isWithin_6 : decode b_T_isWithin 6 = .ok (.iload_n 2, 1) := by decide +kernel
theorem d_T_isWithin_7 : decode b_T_isWithin 7 = .ok (.if_icmp .gt 7, 3) := by decide +kernel
theorem d_T_isWithin_10 : decode b_T_isWithin 10 = .ok (.iconst 1, 1) := by decide +kernel
theorem d_T_isWithin_11 : decode b_T_isWithin 11 = .ok (.goto 4, 3) := by decide +kernel
theorem d_T_isWithin_14 : decode b_T_isWithin 14 = .ok (.iconst 0, 1) := by decide +kernel
theorem d_T_isWithin_15 : decode b_T_isWithin 15 = .ok (.ireturn, 1) := by decide +kernel
theorem d_T_forgetPlan_0 : decode b_T_forgetPlan 0 = .ok (.aload_n 0, 1) := by decide +kernel
theorem d_T_forgetPlan_1 : decode b_T_forgetPlan 1 = .ok (.iconst 0, 1) := by decide +kernel
theorem d_T_forgetPlan_2 : decode b_T_forgetPlan 2 = .ok (.putfield 186, 3) := by decide +kernel
theorem d_T_forgetPlan_5 : decode b_T_forgetPlan 5 = .ok (.iconst 0, 1) := by decide +kernel
theorem d_T_forgetPlan_6 : decode b_T_forgetPlan 6 = .ok (.istore_n 1, 1) := by decide +kernel
theorem d_T_forgetPlan_7 : decode b_T_forgetPlan 7 = .ok (.iload_n 1, 1) := by decide +kernel
theorem d_T_forgetPlan_8 : decode b_T_forgetPlan 8 = .ok (.aload_n 0, 1) := by decide +kernel
theorem d_T_forgetPlan_9 : decode b_T_forgetPlan 9 = .ok (.getfield 10, 3) := by decide +kernel
theorem d_T_forgetPlan_12 : decode b_T_forgetPlan 12 = .ok (.getfield 80, 3) := by decide +kernel
theorem d_T_forgetPlan_15 : decode b_T_forgetPlan 15 = .ok (.if_icmp .ge 35, 3) := by decide +kernel
theorem d_T_forgetPlan_18 : decode b_T_forgetPlan 18 = .ok (.aload_n 0, 1) := by decide +kernel
theorem d_T_forgetPlan_19 : decode b_T_forgetPlan 19 = .ok (.getfield 10, 3) := by decide +kernel
theorem d_T_forgetPlan_22 : decode b_T_forgetPlan 22 = .ok (.getfield 94, 3) := by decide +kernel
theorem d_T_forgetPlan_25 : decode b_T_forgetPlan 25 = .ok (.iload_n 1, 1) := by decide +kernel
theorem d_T_forgetPlan_26 : decode b_T_forgetPlan 26 = .ok (.aaload, 1) := by decide +kernel
theorem d_T_forgetPlan_27 : decode b_T_forgetPlan 27 = .ok (.iconst 0, 1) := by decide +kernel
theorem d_T_forgetPlan_28 : decode b_T_forgetPlan 28 = .ok (.putfield 203, 3) := by decide +kernel
theorem d_T_forgetPlan_31 : decode b_T_forgetPlan 31 = .ok (.aload_n 0, 1) := by decide +kernel
theorem d_T_forgetPlan_32 : decode b_T_forgetPlan 32 = .ok (.getfield 10, 3) := by decide +kernel
theorem d_T_forgetPlan_35 : decode b_T_forgetPlan 35 = .ok (.getfield 94, 3) := by decide +kernel
theorem d_T_forgetPlan_38 : decode b_T_forgetPlan 38 = .ok (.iload_n 1, 1) := by decide +kernel
theorem d_T_forgetPlan_39 : decode b_T_forgetPlan 39 = .ok (.aaload, 1) := by decide +kernel
theorem d_T_forgetPlan_40 : decode b_T_forgetPlan 40 = .ok (.iconst 0, 1) := by decide +kernel
theorem d_T_forgetPlan_41 : decode b_T_forgetPlan 41 = .ok (.putfield 206, 3) := by decide +kernel
theorem d_T_forgetPlan_44 : decode b_T_forgetPlan 44 = .ok (.iinc 1 1, 3) := by decide +kernel
theorem d_T_forgetPlan_47 : decode b_T_forgetPlan 47 = .ok (.goto (-40), 3) := by decide +kernel
theorem d_T_forgetPlan_50 : decode b_T_forgetPlan 50 = .ok (.return_, 1) := by decide +kernel
theorem d_T_takeOutcome_0 : decode b_T_takeOutcome 0 = .ok (.aload_n 0, 1) := by decide +kernel
theorem d_T_takeOutcome_1 : decode b_T_takeOutcome 1 = .ok (.aload_n 0, 1) := by decide +kernel
theorem d_T_takeOutcome_2 : decode b_T_takeOutcome 2 = .ok (.getfield 37, 3) := by decide +kernel
theorem d_T_takeOutcome_5 : decode b_T_takeOutcome 5 = .ok (.getfield 233, 3) := by decide +kernel
theorem d_T_takeOutcome_8 : decode b_T_takeOutcome 8 = .ok (.putfield 153, 3) := by decide +kernel
theorem d_T_takeOutcome_11 : decode b_T_takeOutcome 11 = .ok (.aload_n 0, 1) := by decide +kernel
theorem d_T_takeOutcome_12 : decode b_T_takeOutcome 12 = .ok (.aload_n 0, 1) := by decide +kernel
theorem d_T_takeOutcome_13 : decode b_T_takeOutcome 13 = .ok (.getfield 37, 3) := by decide +kernel
theorem d_T_takeOutcome_16 : decode b_T_takeOutcome 16 = .ok (.getfield 236, 3) := by decide +kernel
theorem d_T_takeOutcome_19 : decode b_T_takeOutcome 19 = .ok (.ifCond .ne 7, 3) := by decide +kernel
theorem d_T_takeOutcome_22 : decode b_T_takeOutcome 22 = .ok (.iconst 1, 1) := by decide +kernel
theorem d_T_takeOutcome_23 : decode b_T_takeOutcome 23 = .ok (.goto 4, 3) := by decide +kernel
theorem d_T_takeOutcome_26 : decode b_T_takeOutcome 26 = .ok (.iconst 0, 1) := by decide +kernel
theorem d_T_takeOutcome_27 : decode b_T_takeOutcome 27 = .ok (.putfield 149, 3) := by decide +kernel
theorem d_T_takeOutcome_30 : decode b_T_takeOutcome 30 = .ok (.aload_n 0, 1) := by decide +kernel
theorem d_T_takeOutcome_31 : decode b_T_takeOutcome 31 = .ok (.getfield 37, 3) := by decide +kernel
theorem d_T_takeOutcome_34 : decode b_T_takeOutcome 34 = .ok (.getfield 239, 3) := by decide +kernel
theorem d_T_takeOutcome_37 : decode b_T_takeOutcome 37 = .ok (.ifCond .ne 5, 3) := by decide +kernel
theorem d_T_takeOutcome_40 : decode b_T_takeOutcome 40 = .ok (.iconst 0, 1) := by decide +kernel
theorem d_T_takeOutcome_41 : decode b_T_takeOutcome 41 = .ok (.ireturn, 1) := by decide +kernel
theorem d_T_takeOutcome_42 : decode b_T_takeOutcome 42 = .ok (.iconst 0, 1) := by decide +kernel
theorem d_T_takeOutcome_43 : decode b_T_takeOutcome 43 = .ok (.istore_n 2, 1) := by decide +kernel
theorem d_T_takeOutcome_44 : decode b_T_takeOutcome 44 = .ok (.iload_n 2, 1) := by decide +kernel
theorem d_T_takeOutcome_45 : decode b_T_takeOutcome 45 = .ok (.aload_n 0, 1) := by decide +kernel
theorem d_T_takeOutcome_46 : decode b_T_takeOutcome 46 = .ok (.getfield 10, 3) := by decide +kernel
theorem d_T_takeOutcome_49 : decode b_T_takeOutcome 49 = .ok (.getfield 80, 3) := by decide +kernel
theorem d_T_takeOutcome_52 : decode b_T_takeOutcome 52 = .ok (.if_icmp .ge 76, 3) := by decide +kernel
theorem d_T_takeOutcome_55 : decode b_T_takeOutcome 55 = .ok (.aload_n 0, 1) := by decide +kernel
theorem d_T_takeOutcome_56 : decode b_T_takeOutcome 56 = .ok (.getfield 37, 3) := by decide +kernel
theorem d_T_takeOutcome_59 : decode b_T_takeOutcome 59 = .ok (.getfield 242, 3) := by decide +kernel
theorem d_T_takeOutcome_62 : decode b_T_takeOutcome 62 = .ok (.getfield 159, 3) := by decide +kernel
theorem d_T_takeOutcome_65 : decode b_T_takeOutcome 65 = .ok (.iload_n 2, 1) := by decide +kernel
theorem d_T_takeOutcome_66 : decode b_T_takeOutcome 66 = .ok (.iaload, 1) := by decide +kernel
theorem d_T_takeOutcome_67 : decode b_T_takeOutcome 67 = .ok (.istore_n 3, 1) := by decide +kernel
theorem d_T_takeOutcome_68 : decode b_T_takeOutcome 68 = .ok (.aload_n 0, 1) := by decide +kernel
theorem d_T_takeOutcome_69 : decode b_T_takeOutcome 69 = .ok (.getfield 37, 3) := by decide +kernel
theorem d_T_takeOutcome_72 : decode b_T_takeOutcome 72 = .ok (.getfield 242, 3) := by decide +kernel
theorem d_T_takeOutcome_75 : decode b_T_takeOutcome 75 = .ok (.getfield 166, 3) := by decide +kernel
theorem d_T_takeOutcome_78 : decode b_T_takeOutcome 78 = .ok (.iload_n 2, 1) := by decide +kernel
theorem d_T_takeOutcome_79 : decode b_T_takeOutcome 79 = .ok (.iaload, 1) := by decide +kernel
theorem d_T_takeOutcome_80 : decode b_T_takeOutcome 80 = .ok (.istore 4, 2) := by decide +kernel
theorem d_T_takeOutcome_82 : decode b_T_takeOutcome 82 = .ok (.aload_n 0, 1) := by decide +kernel
theorem d_T_takeOutcome_83 : decode b_T_takeOutcome 83 = .ok (.getfield 57, 3) := by decide +kernel
theorem d_T_takeOutcome_86 : decode b_T_takeOutcome 86 = .ok (.iload_n 2, 1) := by decide +kernel
theorem d_T_takeOutcome_87 : decode b_T_takeOutcome 87 = .ok (.iload_n 1, 1) := by decide +kernel
theorem d_T_takeOutcome_88 : decode b_T_takeOutcome 88 = .ok (.ifCond .eq 21, 3) := by decide +kernel
theorem d_T_takeOutcome_91 : decode b_T_takeOutcome 91 = .ok (.aload_n 0, 1) := by decide +kernel
theorem d_T_takeOutcome_92 : decode b_T_takeOutcome 92 = .ok (.getfield 28, 3) := by decide +kernel
theorem d_T_takeOutcome_95 : decode b_T_takeOutcome 95 = .ok (.iload_n 2, 1) := by decide +kernel
theorem d_T_takeOutcome_96 : decode b_T_takeOutcome 96 = .ok (.iload_n 3, 1) := by decide +kernel
theorem d_T_takeOutcome_97 : decode b_T_takeOutcome 97 = .ok (.iload 4, 2) := by decide +kernel
theorem d_T_takeOutcome_99 : decode b_T_takeOutcome 99 = .ok (.invokevirtual 245, 3) := by decide +kernel
theorem d_T_takeOutcome_102 : decode b_T_takeOutcome 102 = .ok (.ifCond .eq 7, 3) := by decide +kernel
theorem d_T_takeOutcome_105 : decode b_T_takeOutcome 105 = .ok (.iconst 1, 1) := by decide +kernel
theorem d_T_takeOutcome_106 : decode b_T_takeOutcome 106 = .ok (.goto 4, 3) := by decide +kernel
theorem d_T_takeOutcome_109 : decode b_T_takeOutcome 109 = .ok (.iconst 0, 1) := by decide +kernel
theorem d_T_takeOutcome_110 : decode b_T_takeOutcome 110 = .ok (.bastore, 1) := by decide +kernel
theorem d_T_takeOutcome_111 : decode b_T_takeOutcome 111 = .ok (.aload_n 0, 1) := by decide +kernel
theorem d_T_takeOutcome_112 : decode b_T_takeOutcome 112 = .ok (.getfield 28, 3) := by decide +kernel
theorem d_T_takeOutcome_115 : decode b_T_takeOutcome 115 = .ok (.iload_n 2, 1) := by decide +kernel
theorem d_T_takeOutcome_116 : decode b_T_takeOutcome 116 = .ok (.iload_n 3, 1) := by decide +kernel
theorem d_T_takeOutcome_117 : decode b_T_takeOutcome 117 = .ok (.iload 4, 2) := by decide +kernel
theorem d_T_takeOutcome_119 : decode b_T_takeOutcome 119 = .ok (.invokevirtual 248, 3) := by decide +kernel
theorem d_T_takeOutcome_122 : decode b_T_takeOutcome 122 = .ok (.iinc 2 1, 3) := by decide +kernel
theorem d_T_takeOutcome_125 : decode b_T_takeOutcome 125 = .ok (.goto (-81), 3) := by decide +kernel
theorem d_T_takeOutcome_128 : decode b_T_takeOutcome 128 = .ok (.aload_n 0, 1) := by decide +kernel
theorem d_T_takeOutcome_129 : decode b_T_takeOutcome 129 = .ok (.aload_n 0, 1) := by decide +kernel
theorem d_T_takeOutcome_130 : decode b_T_takeOutcome 130 = .ok (.getfield 37, 3) := by decide +kernel
theorem d_T_takeOutcome_133 : decode b_T_takeOutcome 133 = .ok (.getfield 251, 3) := by decide +kernel
theorem d_T_takeOutcome_136 : decode b_T_takeOutcome 136 = .ok (.putfield 146, 3) := by decide +kernel
theorem d_T_takeOutcome_139 : decode b_T_takeOutcome 139 = .ok (.aload_n 0, 1) := by decide +kernel
theorem d_T_takeOutcome_140 : decode b_T_takeOutcome 140 = .ok (.iconst 1, 1) := by decide +kernel
theorem d_T_takeOutcome_141 : decode b_T_takeOutcome 141 = .ok (.putfield 186, 3) := by decide +kernel
theorem d_T_takeOutcome_144 : decode b_T_takeOutcome 144 = .ok (.iconst 1, 1) := by decide +kernel
theorem d_T_takeOutcome_145 : decode b_T_takeOutcome 145 = .ok (.ireturn, 1) := by decide +kernel
theorem d_T_canStartLater_0 : decode b_T_canStartLater 0 = .ok (.aload_n 0, 1) := by decide +kernel
theorem d_T_canStartLater_1 : decode b_T_canStartLater 1 = .ok (.getfield 44, 3) := by decide +kernel
theorem d_T_canStartLater_4 : decode b_T_canStartLater 4 = .ok (.aload_n 0, 1) := by decide +kernel
theorem d_T_canStartLater_5 : decode b_T_canStartLater 5 = .ok (.getfield 10, 3) := by decide +kernel
theorem d_T_canStartLater_8 : decode b_T_canStartLater 8 = .ok (.getfield 115, 3) := by decide +kernel
theorem d_T_canStartLater_11 : decode b_T_canStartLater 11 = .ok (.iload_n 2, 1) := by decide +kernel
theorem d_T_canStartLater_12 : decode b_T_canStartLater 12 = .ok (.invokevirtual 254, 3) := by decide +kernel
theorem d_T_canStartLater_15 : decode b_T_canStartLater 15 = .ok (.invokevirtual 257, 3) := by decide +kernel
theorem d_T_canStartLater_18 : decode b_T_canStartLater 18 = .ok (.ifCond .eq 46, 3) := by decide +kernel
theorem d_T_canStartLater_21 : decode b_T_canStartLater 21 = .ok (.aload_n 0, 1) := by decide +kernel
theorem d_T_canStartLater_22 : decode b_T_canStartLater 22 = .ok (.getfield 10, 3) := by decide +kernel
theorem d_T_canStartLater_25 : decode b_T_canStartLater 25 = .ok (.iload_n 1, 1) := by decide +kernel
theorem d_T_canStartLater_26 : decode b_T_canStartLater 26 = .ok (.iload_n 2, 1) := by decide +kernel
theorem d_T_canStartLater_27 : decode b_T_canStartLater 27 = .ok (.invokevirtual 162, 3) := by decide +kernel
theorem d_T_canStartLater_30 : decode b_T_canStartLater 30 = .ok (.aload_n 0, 1) := by decide +kernel
theorem d_T_canStartLater_31 : decode b_T_canStartLater 31 = .ok (.getfield 146, 3) := by decide +kernel
theorem d_T_canStartLater_34 : decode b_T_canStartLater 34 = .ok (.if_icmp .gt 30, 3) := by decide +kernel
theorem d_T_canStartLater_37 : decode b_T_canStartLater 37 = .ok (.aload_n 0, 1) := by decide +kernel
theorem d_T_canStartLater_38 : decode b_T_canStartLater 38 = .ok (.getfield 21, 3) := by decide +kernel
theorem d_T_canStartLater_41 : decode b_T_canStartLater 41 = .ok (.aload_n 0, 1) := by decide +kernel
theorem d_T_canStartLater_42 : decode b_T_canStartLater 42 = .ok (.getfield 28, 3) := by decide +kernel
theorem d_T_canStartLater_45 : decode b_T_canStartLater 45 = .ok (.iload_n 1, 1) := by decide +kernel
theorem d_T_canStartLater_46 : decode b_T_canStartLater 46 = .ok (.iload_n 2, 1) := by decide +kernel
theorem d_T_canStartLater_47 : decode b_T_canStartLater 47 = .ok (.aload_n 0, 1) := by decide +kernel
theorem d_T_canStartLater_48 : decode b_T_canStartLater 48 = .ok (.getfield 10, 3) := by decide +kernel
theorem d_T_canStartLater_51 : decode b_T_canStartLater 51 = .ok (.getfield 80, 3) := by decide +kernel
theorem d_T_canStartLater_54 : decode b_T_canStartLater 54 = .ok (.invokevirtual 260, 3) := by decide +kernel
theorem d_T_canStartLater_57 : decode b_T_canStartLater 57 = .ok (.ifCond .eq 7, 3) := by decide +kernel
theorem d_T_canStartLater_60 : decode b_T_canStartLater 60 = .ok (.iconst 1, 1) := by decide +kernel
theorem d_T_canStartLater_61 : decode b_T_canStartLater 61 = .ok (.goto 4, 3) := by decide +kernel
theorem d_T_canStartLater_64 : decode b_T_canStartLater 64 = .ok (.iconst 0, 1) := by decide +kernel
theorem d_T_canStartLater_65 : decode b_T_canStartLater 65 = .ok (.ireturn, 1) := by decide +kernel
theorem d_T_commonDivisor_0 : decode b_T_commonDivisor 0 = .ok (.iload_n 1, 1) := by decide +kernel
theorem d_T_commonDivisor_1 : decode b_T_commonDivisor 1 = .ok (.istore_n 2, 1) := by decide +kernel
theorem d_T_commonDivisor_2 : decode b_T_commonDivisor 2 = .ok (.iload_n 2, 1) := by decide +kernel
theorem d_T_commonDivisor_3 : decode b_T_commonDivisor 3 = .ok (.iconst 1, 1) := by decide +kernel
theorem d_T_commonDivisor_4 : decode b_T_commonDivisor 4 = .ok (.if_icmp .le 23, 3) := by decide +kernel
theorem d_T_commonDivisor_7 : decode b_T_commonDivisor 7 = .ok (.iload_n 0, 1) := by decide +kernel
theorem d_T_commonDivisor_8 : decode b_T_commonDivisor 8 = .ok (.iload_n 2, 1) := by decide +kernel
theorem d_T_commonDivisor_9 : decode b_T_commonDivisor 9 = .ok (.irem, 1) := by decide +kernel
theorem d_T_commonDivisor_10 : decode b_T_commonDivisor 10 = .ok (.ifCond .ne 11, 3) := by decide +kernel
theorem d_T_commonDivisor_13 : decode b_T_commonDivisor 13 = .ok (.iload_n 1, 1) := by decide +kernel
theorem d_T_commonDivisor_14 : decode b_T_commonDivisor 14 = .ok (.iload_n 2, 1) := by decide +kernel
theorem d_T_commonDivisor_15 : decode b_T_commonDivisor 15 = .ok (.irem, 1) := by decide +kernel
theorem d_T_commonDivisor_16 : decode b_T_commonDivisor 16 = .ok (.ifCond .ne 5, 3) := by decide +kernel
theorem d_T_commonDivisor_19 : decode b_T_commonDivisor 19 = .ok (.iload_n 2, 1) := by decide +kernel
theorem d_T_commonDivisor_20 : decode b_T_commonDivisor 20 = .ok (.ireturn, 1) := by decide +kernel
theorem d_T_commonDivisor_21 : decode b_T_commonDivisor 21 = .ok (.iinc 2 (-1), 3) := by decide +kernel
theorem d_T_commonDivisor_24 : decode b_T_commonDivisor 24 = .ok (.goto (-22), 3) := by decide +kernel
theorem d_T_commonDivisor_27 : decode b_T_commonDivisor 27 = .ok (.iconst 1, 1) := by decide +kernel
theorem d_T_commonDivisor_28 : decode b_T_commonDivisor 28 = .ok (.ireturn, 1) := by decide +kernel
