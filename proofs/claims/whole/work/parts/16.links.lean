theorem fl_T_10 : sx_fl "PlaceTimePlans" 10 8 0 := ⟨_, rfl, by decide, tw_299⟩
theorem fl_T_21 : sx_fl "PlaceTimePlans" 21 8 1 := ⟨_, rfl, by decide, tw_300⟩
theorem fl_T_28 : sx_fl "PlaceTimePlans" 28 8 2 := ⟨_, rfl, by decide, tw_301⟩
theorem fl_T_37 : sx_fl "PlaceTimePlans" 37 8 3 := ⟨_, rfl, by decide, tw_302⟩
theorem fl_T_44 : sx_fl "PlaceTimePlans" 44 8 4 := ⟨_, rfl, by decide, tw_303⟩
theorem fl_T_53 : sx_fl "PlaceTimePlans" 53 8 5 := ⟨_, rfl, by decide, tw_304⟩
theorem fl_T_57 : sx_fl "PlaceTimePlans" 57 8 6 := ⟨_, rfl, by decide, tw_305⟩
theorem fl_T_65 : sx_fl "PlaceTimePlans" 65 1 8 := ⟨_, rfl, by decide, tw_134⟩
theorem fl_T_80 : sx_fl "PlaceTimePlans" 80 1 9 := ⟨_, rfl, by decide, tw_138⟩
theorem fl_T_94 : sx_fl "PlaceTimePlans" 94 1 2 := ⟨_, rfl, by decide, tw_122⟩
theorem fl_T_98 : sx_fl "PlaceTimePlans" 98 7 7 := ⟨_, rfl, by decide, tw_80⟩
theorem fl_T_103 : sx_fl "PlaceTimePlans" 103 7 8 := ⟨_, rfl, by decide, tw_83⟩
theorem fl_T_109 : sx_fl "PlaceTimePlans" 109 1 10 := ⟨_, rfl, by decide, tw_141⟩
theorem fl_T_115 : sx_fl "PlaceTimePlans" 115 1 0 := ⟨_, rfl, by decide, tw_116⟩
theorem fl_T_128 : sx_fl "PlaceTimePlans" 128 1 4 := ⟨_, rfl, by decide, tw_125⟩
theorem fl_T_135 : sx_fl "PlaceTimePlans" 135 7 4 := ⟨_, rfl, by decide, tw_70⟩
theorem fl_T_146 : sx_fl "PlaceTimePlans" 146 8 8 := ⟨_, rfl, by decide, tw_307⟩
theorem fl_T_149 : sx_fl "PlaceTimePlans" 149 8 9 := ⟨_, rfl, by decide, tw_308⟩
theorem fl_T_153 : sx_fl "PlaceTimePlans" 153 8 10 := ⟨_, rfl, by decide, tw_309⟩
theorem fl_T_159 : sx_fl "PlaceTimePlans" 159 2 0 := ⟨_, rfl, by decide, tw_205⟩
theorem fl_T_166 : sx_fl "PlaceTimePlans" 166 2 1 := ⟨_, rfl, by decide, tw_209⟩
theorem fl_T_186 : sx_fl "PlaceTimePlans" 186 8 7 := ⟨_, rfl, by decide, tw_306⟩
theorem fl_T_189 : sx_fl "PlaceTimePlans" 189 7 1 := ⟨_, rfl, by decide, tw_63⟩
theorem fl_T_203 : sx_fl "PlaceTimePlans" 203 7 9 := ⟨_, rfl, by decide, tw_85⟩
theorem fl_T_206 : sx_fl "PlaceTimePlans" 206 7 10 := ⟨_, rfl, by decide, tw_88⟩
theorem fl_T_213 : sx_fl "PlaceTimePlans" 213 4 14 := ⟨_, rfl, by decide, tw_246⟩
theorem fl_T_230 : sx_fl "PlaceTimePlans" 230 0 3 := ⟨_, rfl, by decide, tw_40⟩
theorem fl_T_233 : sx_fl "PlaceTimePlans" 233 4 10 := ⟨_, rfl, by decide, tw_238⟩
theorem fl_T_236 : sx_fl "PlaceTimePlans" 236 4 11 := ⟨_, rfl, by decide, tw_240⟩
theorem fl_T_239 : sx_fl "PlaceTimePlans" 239 4 12 := ⟨_, rfl, by decide, tw_242⟩
theorem fl_T_242 : sx_fl "PlaceTimePlans" 242 4 4 := ⟨_, rfl, by decide, tw_231⟩
theorem fl_T_251 : sx_fl "PlaceTimePlans" 251 4 13 := ⟨_, rfl, by decide, tw_244⟩
theorem fl_D_9 : sx_fl "PlaceTimePlans$Days" 9 0 0 := ⟨_, rfl, by decide, tw_36⟩
theorem fl_D_15 : sx_fl "PlaceTimePlans$Days" 15 0 1 := ⟨_, rfl, by decide, tw_37⟩
theorem fl_D_19 : sx_fl "PlaceTimePlans$Days" 19 0 2 := ⟨_, rfl, by decide, tw_38⟩
theorem fl_D_29 : sx_fl "PlaceTimePlans$Days" 29 0 3 := ⟨_, rfl, by decide, tw_39⟩
theorem fl_L_12 : sx_fl "PlaceTimePlans$Line" 12 1 0 := ⟨_, rfl, by decide, tw_112⟩
theorem fl_L_18 : sx_fl "PlaceTimePlans$Line" 18 1 1 := ⟨_, rfl, by decide, tw_117⟩
theorem fl_L_24 : sx_fl "PlaceTimePlans$Line" 24 1 2 := ⟨_, rfl, by decide, tw_118⟩
theorem fl_L_28 : sx_fl "PlaceTimePlans$Line" 28 1 3 := ⟨_, rfl, by decide, tw_123⟩
theorem fl_L_31 : sx_fl "PlaceTimePlans$Line" 31 1 4 := ⟨_, rfl, by decide, tw_124⟩
theorem fl_L_34 : sx_fl "PlaceTimePlans$Line" 34 1 5 := ⟨_, rfl, by decide, tw_127⟩
theorem fl_L_37 : sx_fl "PlaceTimePlans$Line" 37 1 6 := ⟨_, rfl, by decide, tw_129⟩
theorem fl_L_40 : sx_fl "PlaceTimePlans$Line" 40 1 7 := ⟨_, rfl, by decide, tw_131⟩
theorem fl_L_44 : sx_fl "PlaceTimePlans$Line" 44 1 8 := ⟨_, rfl, by decide, tw_133⟩
theorem fl_L_48 : sx_fl "PlaceTimePlans$Line" 48 1 9 := ⟨_, rfl, by decide, tw_135⟩
theorem fl_L_55 : sx_fl "PlaceTimePlans$Line" 55 7 0 := ⟨_, rfl, by decide, tw_59⟩
theorem fl_L_58 : sx_fl "PlaceTimePlans$Line" 58 7 1 := ⟨_, rfl, by decide, tw_61⟩
theorem fl_L_61 : sx_fl "PlaceTimePlans$Line" 61 7 2 := ⟨_, rfl, by decide, tw_65⟩
theorem fl_L_64 : sx_fl "PlaceTimePlans$Line" 64 7 3 := ⟨_, rfl, by decide, tw_67⟩
theorem fl_L_67 : sx_fl "PlaceTimePlans$Line" 67 7 6 := ⟨_, rfl, by decide, tw_77⟩
theorem fl_L_75 : sx_fl "PlaceTimePlans$Line" 75 1 10 := ⟨_, rfl, by decide, tw_139⟩
theorem fl_L_91 : sx_fl "PlaceTimePlans$Line" 91 7 5 := ⟨_, rfl, by decide, tw_75⟩
theorem fl_L_97 : sx_fl "PlaceTimePlans$Line" 97 2 1 := ⟨_, rfl, by decide, tw_208⟩
theorem fl_L_109 : sx_fl "PlaceTimePlans$Line" 109 2 0 := ⟨_, rfl, by decide, tw_204⟩
theorem fl_L_112 : sx_fl "PlaceTimePlans$Line" 112 7 4 := ⟨_, rfl, by decide, tw_71⟩
theorem fl_L_118 : sx_fl "PlaceTimePlans$Line" 118 7 10 := ⟨_, rfl, by decide, tw_87⟩
theorem fl_P_9 : sx_fl "PlaceTimePlans$Placing" 9 2 0 := ⟨_, rfl, by decide, tw_200⟩
theorem fl_P_15 : sx_fl "PlaceTimePlans$Placing" 15 2 1 := ⟨_, rfl, by decide, tw_206⟩
theorem fl_R_12 : sx_fl "PlaceTimePlans$Rules" 12 3 2 := ⟨_, rfl, by decide, tw_186⟩
theorem fl_R_18 : sx_fl "PlaceTimePlans$Rules" 18 3 0 := ⟨_, rfl, by decide, tw_184⟩
theorem fl_R_22 : sx_fl "PlaceTimePlans$Rules" 22 1 0 := ⟨_, rfl, by decide, tw_113⟩
theorem fl_R_28 : sx_fl "PlaceTimePlans$Rules" 28 3 1 := ⟨_, rfl, by decide, tw_185⟩
theorem fl_R_37 : sx_fl "PlaceTimePlans$Rules" 37 1 2 := ⟨_, rfl, by decide, tw_119⟩
theorem fl_R_41 : sx_fl "PlaceTimePlans$Rules" 41 7 6 := ⟨_, rfl, by decide, tw_76⟩
theorem fl_R_57 : sx_fl "PlaceTimePlans$Rules" 57 7 8 := ⟨_, rfl, by decide, tw_82⟩
theorem fl_R_61 : sx_fl "PlaceTimePlans$Rules" 61 7 5 := ⟨_, rfl, by decide, tw_74⟩
theorem fl_R_64 : sx_fl "PlaceTimePlans$Rules" 64 7 7 := ⟨_, rfl, by decide, tw_79⟩
theorem fl_R_77 : sx_fl "PlaceTimePlans$Rules" 77 7 9 := ⟨_, rfl, by decide, tw_84⟩
theorem fl_R_84 : sx_fl "PlaceTimePlans$Rules" 84 1 10 := ⟨_, rfl, by decide, tw_140⟩
theorem fl_R_87 : sx_fl "PlaceTimePlans$Rules" 87 1 5 := ⟨_, rfl, by decide, tw_128⟩
theorem fl_R_91 : sx_fl "PlaceTimePlans$Rules" 91 1 6 := ⟨_, rfl, by decide, tw_130⟩
theorem fl_R_97 : sx_fl "PlaceTimePlans$Rules" 97 1 7 := ⟨_, rfl, by decide, tw_132⟩
theorem fl_R_107 : sx_fl "PlaceTimePlans$Rules" 107 7 4 := ⟨_, rfl, by decide, tw_69⟩
theorem fl_R_137 : sx_fl "PlaceTimePlans$Rules" 137 2 0 := ⟨_, rfl, by decide, tw_203⟩
theorem fl_R_142 : sx_fl "PlaceTimePlans$Rules" 142 7 0 := ⟨_, rfl, by decide, tw_60⟩
theorem fl_R_145 : sx_fl "PlaceTimePlans$Rules" 145 7 1 := ⟨_, rfl, by decide, tw_62⟩
theorem fl_R_152 : sx_fl "PlaceTimePlans$Rules" 152 1 4 := ⟨_, rfl, by decide, tw_126⟩
theorem fl_S_12 : sx_fl "PlaceTimePlans$Search" 12 4 3 := ⟨_, rfl, by decide, tw_229⟩
theorem fl_S_18 : sx_fl "PlaceTimePlans$Search" 18 4 4 := ⟨_, rfl, by decide, tw_230⟩
theorem fl_S_23 : sx_fl "PlaceTimePlans$Search" 23 4 5 := ⟨_, rfl, by decide, tw_232⟩
theorem fl_S_27 : sx_fl "PlaceTimePlans$Search" 27 4 6 := ⟨_, rfl, by decide, tw_233⟩
theorem fl_S_31 : sx_fl "PlaceTimePlans$Search" 31 4 7 := ⟨_, rfl, by decide, tw_234⟩
theorem fl_S_34 : sx_fl "PlaceTimePlans$Search" 34 4 0 := ⟨_, rfl, by decide, tw_226⟩
theorem fl_S_38 : sx_fl "PlaceTimePlans$Search" 38 4 1 := ⟨_, rfl, by decide, tw_227⟩
theorem fl_S_42 : sx_fl "PlaceTimePlans$Search" 42 4 2 := ⟨_, rfl, by decide, tw_228⟩
theorem fl_S_46 : sx_fl "PlaceTimePlans$Search" 46 4 8 := ⟨_, rfl, by decide, tw_235⟩
theorem fl_S_50 : sx_fl "PlaceTimePlans$Search" 50 4 9 := ⟨_, rfl, by decide, tw_236⟩
theorem fl_S_54 : sx_fl "PlaceTimePlans$Search" 54 4 10 := ⟨_, rfl, by decide, tw_237⟩
theorem fl_S_57 : sx_fl "PlaceTimePlans$Search" 57 4 11 := ⟨_, rfl, by decide, tw_239⟩
theorem fl_S_60 : sx_fl "PlaceTimePlans$Search" 60 4 12 := ⟨_, rfl, by decide, tw_241⟩
theorem fl_S_67 : sx_fl "PlaceTimePlans$Search" 67 1 9 := ⟨_, rfl, by decide, tw_136⟩
theorem fl_S_72 : sx_fl "PlaceTimePlans$Search" 72 1 2 := ⟨_, rfl, by decide, tw_120⟩
theorem fl_S_76 : sx_fl "PlaceTimePlans$Search" 76 7 10 := ⟨_, rfl, by decide, tw_86⟩
theorem fl_S_81 : sx_fl "PlaceTimePlans$Search" 81 2 0 := ⟨_, rfl, by decide, tw_201⟩
theorem fl_S_84 : sx_fl "PlaceTimePlans$Search" 84 2 1 := ⟨_, rfl, by decide, tw_207⟩
theorem fl_S_87 : sx_fl "PlaceTimePlans$Search" 87 7 6 := ⟨_, rfl, by decide, tw_78⟩
theorem fl_S_129 : sx_fl "PlaceTimePlans$Search" 129 4 14 := ⟨_, rfl, by decide, tw_245⟩
theorem fl_S_132 : sx_fl "PlaceTimePlans$Search" 132 4 13 := ⟨_, rfl, by decide, tw_243⟩
theorem fl_S_135 : sx_fl "PlaceTimePlans$Search" 135 1 0 := ⟨_, rfl, by decide, tw_115⟩
theorem fl_H_9 : sx_fl "PlaceTimePlans$Weather" 9 5 2 := ⟨_, rfl, by decide, tw_288⟩
theorem fl_H_15 : sx_fl "PlaceTimePlans$Weather" 15 5 0 := ⟨_, rfl, by decide, tw_286⟩
theorem fl_H_19 : sx_fl "PlaceTimePlans$Weather" 19 5 1 := ⟨_, rfl, by decide, tw_287⟩
theorem fl_H_23 : sx_fl "PlaceTimePlans$Weather" 23 5 3 := ⟨_, rfl, by decide, tw_289⟩
theorem fl_H_27 : sx_fl "PlaceTimePlans$Weather" 27 1 9 := ⟨_, rfl, by decide, tw_137⟩
theorem fl_H_32 : sx_fl "PlaceTimePlans$Weather" 32 1 2 := ⟨_, rfl, by decide, tw_121⟩
theorem fl_H_36 : sx_fl "PlaceTimePlans$Weather" 36 7 5 := ⟨_, rfl, by decide, tw_73⟩
theorem fl_H_45 : sx_fl "PlaceTimePlans$Weather" 45 1 0 := ⟨_, rfl, by decide, tw_114⟩
theorem fl_H_66 : sx_fl "PlaceTimePlans$Weather" 66 2 0 := ⟨_, rfl, by decide, tw_202⟩
theorem fl_W_7 : sx_fl "PlaceTimePlans$Window" 7 6 0 := ⟨_, rfl, by decide, tw_177⟩
theorem fl_W_13 : sx_fl "PlaceTimePlans$Window" 13 6 1 := ⟨_, rfl, by decide, tw_178⟩
theorem fl_K_9 : sx_fl "PlaceTimePlans$Work" 9 7 4 := ⟨_, rfl, by decide, tw_68⟩
theorem fl_K_15 : sx_fl "PlaceTimePlans$Work" 15 7 8 := ⟨_, rfl, by decide, tw_81⟩
theorem fl_K_27 : sx_fl "PlaceTimePlans$Work" 27 7 3 := ⟨_, rfl, by decide, tw_66⟩
theorem fl_K_30 : sx_fl "PlaceTimePlans$Work" 30 7 2 := ⟨_, rfl, by decide, tw_64⟩
theorem fl_K_33 : sx_fl "PlaceTimePlans$Work" 33 7 5 := ⟨_, rfl, by decide, tw_72⟩
theorem fl_M_7 : sx_fl "PlaceTimePlansModel" 7 9 1 := ⟨_, rfl, by decide, tw_695⟩
theorem fl_M_13 : sx_fl "PlaceTimePlansModel" 13 9 3 := ⟨_, rfl, by decide, tw_697⟩
theorem fl_M_16 : sx_fl "PlaceTimePlansModel" 16 9 4 := ⟨_, rfl, by decide, tw_698⟩
theorem fl_M_19 : sx_fl "PlaceTimePlansModel" 19 9 5 := ⟨_, rfl, by decide, tw_699⟩
theorem fl_M_22 : sx_fl "PlaceTimePlansModel" 22 9 6 := ⟨_, rfl, by decide, tw_700⟩
theorem fl_M_25 : sx_fl "PlaceTimePlansModel" 25 9 7 := ⟨_, rfl, by decide, tw_701⟩
theorem fl_M_29 : sx_fl "PlaceTimePlansModel" 29 9 8 := ⟨_, rfl, by decide, tw_702⟩
theorem fl_M_32 : sx_fl "PlaceTimePlansModel" 32 9 9 := ⟨_, rfl, by decide, tw_703⟩
theorem fl_M_35 : sx_fl "PlaceTimePlansModel" 35 9 10 := ⟨_, rfl, by decide, tw_704⟩
theorem fl_M_38 : sx_fl "PlaceTimePlansModel" 38 9 12 := ⟨_, rfl, by decide, tw_706⟩
theorem fl_M_41 : sx_fl "PlaceTimePlansModel" 41 9 13 := ⟨_, rfl, by decide, tw_707⟩
theorem fl_M_44 : sx_fl "PlaceTimePlansModel" 44 9 14 := ⟨_, rfl, by decide, tw_708⟩
theorem fl_M_47 : sx_fl "PlaceTimePlansModel" 47 9 16 := ⟨_, rfl, by decide, tw_710⟩
theorem fl_M_50 : sx_fl "PlaceTimePlansModel" 50 9 17 := ⟨_, rfl, by decide, tw_711⟩
theorem fl_M_53 : sx_fl "PlaceTimePlansModel" 53 9 18 := ⟨_, rfl, by decide, tw_712⟩
theorem fl_M_56 : sx_fl "PlaceTimePlansModel" 56 9 20 := ⟨_, rfl, by decide, tw_714⟩
theorem fl_M_59 : sx_fl "PlaceTimePlansModel" 59 9 21 := ⟨_, rfl, by decide, tw_715⟩
theorem fl_M_62 : sx_fl "PlaceTimePlansModel" 62 9 22 := ⟨_, rfl, by decide, tw_716⟩
theorem fl_M_65 : sx_fl "PlaceTimePlansModel" 65 9 23 := ⟨_, rfl, by decide, tw_717⟩
theorem fl_M_68 : sx_fl "PlaceTimePlansModel" 68 9 24 := ⟨_, rfl, by decide, tw_718⟩
theorem fl_M_71 : sx_fl "PlaceTimePlansModel" 71 9 27 := ⟨_, rfl, by decide, tw_721⟩
theorem fl_M_74 : sx_fl "PlaceTimePlansModel" 74 9 28 := ⟨_, rfl, by decide, tw_722⟩
theorem fl_M_77 : sx_fl "PlaceTimePlansModel" 77 9 29 := ⟨_, rfl, by decide, tw_723⟩
theorem fl_M_80 : sx_fl "PlaceTimePlansModel" 80 9 30 := ⟨_, rfl, by decide, tw_724⟩
theorem fl_M_83 : sx_fl "PlaceTimePlansModel" 83 9 31 := ⟨_, rfl, by decide, tw_725⟩
theorem fl_M_86 : sx_fl "PlaceTimePlansModel" 86 9 32 := ⟨_, rfl, by decide, tw_726⟩
theorem fl_M_89 : sx_fl "PlaceTimePlansModel" 89 9 36 := ⟨_, rfl, by decide, tw_730⟩
theorem fl_M_92 : sx_fl "PlaceTimePlansModel" 92 9 37 := ⟨_, rfl, by decide, tw_731⟩
theorem fl_M_95 : sx_fl "PlaceTimePlansModel" 95 9 2 := ⟨_, rfl, by decide, tw_696⟩
theorem fl_M_99 : sx_fl "PlaceTimePlansModel" 99 9 19 := ⟨_, rfl, by decide, tw_713⟩
theorem fl_M_107 : sx_fl "PlaceTimePlansModel" 107 9 0 := ⟨_, rfl, by decide, tw_694⟩
theorem fl_M_117 : sx_fl "PlaceTimePlansModel" 117 9 11 := ⟨_, rfl, by decide, tw_705⟩
theorem fl_M_120 : sx_fl "PlaceTimePlansModel" 120 9 15 := ⟨_, rfl, by decide, tw_709⟩
theorem fl_M_144 : sx_fl "PlaceTimePlansModel" 144 9 33 := ⟨_, rfl, by decide, tw_727⟩
theorem fl_M_150 : sx_fl "PlaceTimePlansModel" 150 9 34 := ⟨_, rfl, by decide, tw_728⟩
theorem fl_M_156 : sx_fl "PlaceTimePlansModel" 156 9 35 := ⟨_, rfl, by decide, tw_729⟩
theorem fl_M_170 : sx_fl "PlaceTimePlansModel" 170 9 26 := ⟨_, rfl, by decide, tw_720⟩
theorem fl_M_180 : sx_fl "PlaceTimePlansModel" 180 9 25 := ⟨_, rfl, by decide, tw_719⟩
theorem nf_D_0 : ∀ q : vw_C, sx_cl[0]? = some q → (q.2.1 0).2.2.2 = true ∧ (q.2.1 0).1 = "PlaceTimePlans$Days" := fun q hq => by cases hq; exact ⟨rfl, rfl⟩
theorem nf_D_1 : ∀ q : vw_C, sx_cl[0]? = some q → (q.2.1 1).2.2.2 = true ∧ (q.2.1 1).1 = "PlaceTimePlans$Days" := fun q hq => by cases hq; exact ⟨rfl, rfl⟩
theorem nf_D_2 : ∀ q : vw_C, sx_cl[0]? = some q → (q.2.1 2).2.2.2 = true ∧ (q.2.1 2).1 = "PlaceTimePlans$Days" := fun q hq => by cases hq; exact ⟨rfl, rfl⟩
theorem nf_D_3 : ∀ q : vw_C, sx_cl[0]? = some q → (q.2.1 3).2.2.2 = false := fun q hq => by cases hq; rfl
theorem nf_L_0 : ∀ q : vw_C, sx_cl[1]? = some q → (q.2.1 0).2.2.2 = true ∧ (q.2.1 0).1 = "PlaceTimePlans$Line" := fun q hq => by cases hq; exact ⟨rfl, rfl⟩
theorem nf_L_1 : ∀ q : vw_C, sx_cl[1]? = some q → (q.2.1 1).2.2.2 = true ∧ (q.2.1 1).1 = "PlaceTimePlans$Line" := fun q hq => by cases hq; exact ⟨rfl, rfl⟩
theorem nf_L_2 : ∀ q : vw_C, sx_cl[1]? = some q → (q.2.1 2).2.2.2 = true ∧ (q.2.1 2).1 = "PlaceTimePlans$Line" := fun q hq => by cases hq; exact ⟨rfl, rfl⟩
theorem nf_L_3 : ∀ q : vw_C, sx_cl[1]? = some q → (q.2.1 3).2.2.2 = true ∧ (q.2.1 3).1 = "PlaceTimePlans$Line" := fun q hq => by cases hq; exact ⟨rfl, rfl⟩
theorem nf_L_4 : ∀ q : vw_C, sx_cl[1]? = some q → (q.2.1 4).2.2.2 = true ∧ (q.2.1 4).1 = "PlaceTimePlans$Line" := fun q hq => by cases hq; exact ⟨rfl, rfl⟩
theorem nf_L_5 : ∀ q : vw_C, sx_cl[1]? = some q → (q.2.1 5).2.2.2 = true ∧ (q.2.1 5).1 = "PlaceTimePlans$Line" := fun q hq => by cases hq; exact ⟨rfl, rfl⟩
theorem nf_L_6 : ∀ q : vw_C, sx_cl[1]? = some q → (q.2.1 6).2.2.2 = true ∧ (q.2.1 6).1 = "PlaceTimePlans$Line" := fun q hq => by cases hq; exact ⟨rfl, rfl⟩
theorem nf_L_7 : ∀ q : vw_C, sx_cl[1]? = some q → (q.2.1 7).2.2.2 = true ∧ (q.2.1 7).1 = "PlaceTimePlans$Line" := fun q hq => by cases hq; exact ⟨rfl, rfl⟩
theorem nf_L_8 : ∀ q : vw_C, sx_cl[1]? = some q → (q.2.1 8).2.2.2 = false := fun q hq => by cases hq; rfl
theorem nf_L_9 : ∀ q : vw_C, sx_cl[1]? = some q → (q.2.1 9).2.2.2 = false := fun q hq => by cases hq; rfl
theorem nf_L_10 : ∀ q : vw_C, sx_cl[1]? = some q → (q.2.1 10).2.2.2 = false := fun q hq => by cases hq; rfl
theorem nf_P_0 : ∀ q : vw_C, sx_cl[2]? = some q → (q.2.1 0).2.2.2 = true ∧ (q.2.1 0).1 = "PlaceTimePlans$Placing" := fun q hq => by cases hq; exact ⟨rfl, rfl⟩
theorem nf_P_1 : ∀ q : vw_C, sx_cl[2]? = some q → (q.2.1 1).2.2.2 = true ∧ (q.2.1 1).1 = "PlaceTimePlans$Placing" := fun q hq => by cases hq; exact ⟨rfl, rfl⟩
theorem nf_R_0 : ∀ q : vw_C, sx_cl[3]? = some q → (q.2.1 0).2.2.2 = true ∧ (q.2.1 0).1 = "PlaceTimePlans$Rules" := fun q hq => by cases hq; exact ⟨rfl, rfl⟩
theorem nf_R_1 : ∀ q : vw_C, sx_cl[3]? = some q → (q.2.1 1).2.2.2 = true ∧ (q.2.1 1).1 = "PlaceTimePlans$Rules" := fun q hq => by cases hq; exact ⟨rfl, rfl⟩
theorem nf_R_2 : ∀ q : vw_C, sx_cl[3]? = some q → (q.2.1 2).2.2.2 = true ∧ (q.2.1 2).1 = "PlaceTimePlans$Rules" := fun q hq => by cases hq; exact ⟨rfl, rfl⟩
theorem nf_S_0 : ∀ q : vw_C, sx_cl[4]? = some q → (q.2.1 0).2.2.2 = true ∧ (q.2.1 0).1 = "PlaceTimePlans$Search" := fun q hq => by cases hq; exact ⟨rfl, rfl⟩
theorem nf_S_1 : ∀ q : vw_C, sx_cl[4]? = some q → (q.2.1 1).2.2.2 = true ∧ (q.2.1 1).1 = "PlaceTimePlans$Search" := fun q hq => by cases hq; exact ⟨rfl, rfl⟩
theorem nf_S_2 : ∀ q : vw_C, sx_cl[4]? = some q → (q.2.1 2).2.2.2 = true ∧ (q.2.1 2).1 = "PlaceTimePlans$Search" := fun q hq => by cases hq; exact ⟨rfl, rfl⟩
theorem nf_S_3 : ∀ q : vw_C, sx_cl[4]? = some q → (q.2.1 3).2.2.2 = true ∧ (q.2.1 3).1 = "PlaceTimePlans$Search" := fun q hq => by cases hq; exact ⟨rfl, rfl⟩
theorem nf_S_4 : ∀ q : vw_C, sx_cl[4]? = some q → (q.2.1 4).2.2.2 = true ∧ (q.2.1 4).1 = "PlaceTimePlans$Search" := fun q hq => by cases hq; exact ⟨rfl, rfl⟩
theorem nf_S_5 : ∀ q : vw_C, sx_cl[4]? = some q → (q.2.1 5).2.2.2 = true ∧ (q.2.1 5).1 = "PlaceTimePlans$Search" := fun q hq => by cases hq; exact ⟨rfl, rfl⟩
theorem nf_S_6 : ∀ q : vw_C, sx_cl[4]? = some q → (q.2.1 6).2.2.2 = true ∧ (q.2.1 6).1 = "PlaceTimePlans$Search" := fun q hq => by cases hq; exact ⟨rfl, rfl⟩
theorem nf_S_7 : ∀ q : vw_C, sx_cl[4]? = some q → (q.2.1 7).2.2.2 = true ∧ (q.2.1 7).1 = "PlaceTimePlans$Search" := fun q hq => by cases hq; exact ⟨rfl, rfl⟩
theorem nf_S_8 : ∀ q : vw_C, sx_cl[4]? = some q → (q.2.1 8).2.2.2 = false := fun q hq => by cases hq; rfl
theorem nf_S_9 : ∀ q : vw_C, sx_cl[4]? = some q → (q.2.1 9).2.2.2 = false := fun q hq => by cases hq; rfl
theorem nf_S_10 : ∀ q : vw_C, sx_cl[4]? = some q → (q.2.1 10).2.2.2 = false := fun q hq => by cases hq; rfl
theorem nf_S_11 : ∀ q : vw_C, sx_cl[4]? = some q → (q.2.1 11).2.2.2 = false := fun q hq => by cases hq; rfl
theorem nf_S_12 : ∀ q : vw_C, sx_cl[4]? = some q → (q.2.1 12).2.2.2 = false := fun q hq => by cases hq; rfl
theorem nf_S_13 : ∀ q : vw_C, sx_cl[4]? = some q → (q.2.1 13).2.2.2 = false := fun q hq => by cases hq; rfl
theorem nf_S_14 : ∀ q : vw_C, sx_cl[4]? = some q → (q.2.1 14).2.2.2 = false := fun q hq => by cases hq; rfl
theorem nf_H_0 : ∀ q : vw_C, sx_cl[5]? = some q → (q.2.1 0).2.2.2 = true ∧ (q.2.1 0).1 = "PlaceTimePlans$Weather" := fun q hq => by cases hq; exact ⟨rfl, rfl⟩
theorem nf_H_1 : ∀ q : vw_C, sx_cl[5]? = some q → (q.2.1 1).2.2.2 = true ∧ (q.2.1 1).1 = "PlaceTimePlans$Weather" := fun q hq => by cases hq; exact ⟨rfl, rfl⟩
theorem nf_H_2 : ∀ q : vw_C, sx_cl[5]? = some q → (q.2.1 2).2.2.2 = true ∧ (q.2.1 2).1 = "PlaceTimePlans$Weather" := fun q hq => by cases hq; exact ⟨rfl, rfl⟩
theorem nf_H_3 : ∀ q : vw_C, sx_cl[5]? = some q → (q.2.1 3).2.2.2 = false := fun q hq => by cases hq; rfl
theorem nf_W_0 : ∀ q : vw_C, sx_cl[6]? = some q → (q.2.1 0).2.2.2 = false := fun q hq => by cases hq; rfl
theorem nf_W_1 : ∀ q : vw_C, sx_cl[6]? = some q → (q.2.1 1).2.2.2 = false := fun q hq => by cases hq; rfl
theorem nf_K_0 : ∀ q : vw_C, sx_cl[7]? = some q → (q.2.1 0).2.2.2 = false := fun q hq => by cases hq; rfl
theorem nf_K_1 : ∀ q : vw_C, sx_cl[7]? = some q → (q.2.1 1).2.2.2 = false := fun q hq => by cases hq; rfl
theorem nf_K_2 : ∀ q : vw_C, sx_cl[7]? = some q → (q.2.1 2).2.2.2 = false := fun q hq => by cases hq; rfl
theorem nf_K_3 : ∀ q : vw_C, sx_cl[7]? = some q → (q.2.1 3).2.2.2 = false := fun q hq => by cases hq; rfl
theorem nf_K_4 : ∀ q : vw_C, sx_cl[7]? = some q → (q.2.1 4).2.2.2 = false := fun q hq => by cases hq; rfl
theorem nf_K_5 : ∀ q : vw_C, sx_cl[7]? = some q → (q.2.1 5).2.2.2 = false := fun q hq => by cases hq; rfl
theorem nf_K_6 : ∀ q : vw_C, sx_cl[7]? = some q → (q.2.1 6).2.2.2 = false := fun q hq => by cases hq; rfl
theorem nf_K_7 : ∀ q : vw_C, sx_cl[7]? = some q → (q.2.1 7).2.2.2 = false := fun q hq => by cases hq; rfl
theorem nf_K_8 : ∀ q : vw_C, sx_cl[7]? = some q → (q.2.1 8).2.2.2 = false := fun q hq => by cases hq; rfl
theorem nf_K_9 : ∀ q : vw_C, sx_cl[7]? = some q → (q.2.1 9).2.2.2 = false := fun q hq => by cases hq; rfl
theorem nf_K_10 : ∀ q : vw_C, sx_cl[7]? = some q → (q.2.1 10).2.2.2 = false := fun q hq => by cases hq; rfl
theorem nf_T_0 : ∀ q : vw_C, sx_cl[8]? = some q → (q.2.1 0).2.2.2 = true ∧ (q.2.1 0).1 = "PlaceTimePlans" := fun q hq => by cases hq; exact ⟨rfl, rfl⟩
theorem nf_T_1 : ∀ q : vw_C, sx_cl[8]? = some q → (q.2.1 1).2.2.2 = true ∧ (q.2.1 1).1 = "PlaceTimePlans" := fun q hq => by cases hq; exact ⟨rfl, rfl⟩
theorem nf_T_2 : ∀ q : vw_C, sx_cl[8]? = some q → (q.2.1 2).2.2.2 = true ∧ (q.2.1 2).1 = "PlaceTimePlans" := fun q hq => by cases hq; exact ⟨rfl, rfl⟩
theorem nf_T_3 : ∀ q : vw_C, sx_cl[8]? = some q → (q.2.1 3).2.2.2 = true ∧ (q.2.1 3).1 = "PlaceTimePlans" := fun q hq => by cases hq; exact ⟨rfl, rfl⟩
theorem nf_T_4 : ∀ q : vw_C, sx_cl[8]? = some q → (q.2.1 4).2.2.2 = true ∧ (q.2.1 4).1 = "PlaceTimePlans" := fun q hq => by cases hq; exact ⟨rfl, rfl⟩
theorem nf_T_5 : ∀ q : vw_C, sx_cl[8]? = some q → (q.2.1 5).2.2.2 = true ∧ (q.2.1 5).1 = "PlaceTimePlans" := fun q hq => by cases hq; exact ⟨rfl, rfl⟩
theorem nf_T_6 : ∀ q : vw_C, sx_cl[8]? = some q → (q.2.1 6).2.2.2 = true ∧ (q.2.1 6).1 = "PlaceTimePlans" := fun q hq => by cases hq; exact ⟨rfl, rfl⟩
theorem nf_T_7 : ∀ q : vw_C, sx_cl[8]? = some q → (q.2.1 7).2.2.2 = false := fun q hq => by cases hq; rfl
theorem nf_T_8 : ∀ q : vw_C, sx_cl[8]? = some q → (q.2.1 8).2.2.2 = false := fun q hq => by cases hq; rfl
theorem nf_T_9 : ∀ q : vw_C, sx_cl[8]? = some q → (q.2.1 9).2.2.2 = false := fun q hq => by cases hq; rfl
theorem nf_T_10 : ∀ q : vw_C, sx_cl[8]? = some q → (q.2.1 10).2.2.2 = false := fun q hq => by cases hq; rfl
theorem nf_M_0 : ∀ q : vw_C, sx_cl[9]? = some q → (q.2.1 0).2.2.2 = false := fun q hq => by cases hq; rfl
theorem nf_M_1 : ∀ q : vw_C, sx_cl[9]? = some q → (q.2.1 1).2.2.2 = true ∧ (q.2.1 1).1 = "PlaceTimePlansModel" := fun q hq => by cases hq; exact ⟨rfl, rfl⟩
theorem nf_M_2 : ∀ q : vw_C, sx_cl[9]? = some q → (q.2.1 2).2.2.2 = false := fun q hq => by cases hq; rfl
theorem nf_M_3 : ∀ q : vw_C, sx_cl[9]? = some q → (q.2.1 3).2.2.2 = true ∧ (q.2.1 3).1 = "PlaceTimePlansModel" := fun q hq => by cases hq; exact ⟨rfl, rfl⟩
theorem nf_M_4 : ∀ q : vw_C, sx_cl[9]? = some q → (q.2.1 4).2.2.2 = true ∧ (q.2.1 4).1 = "PlaceTimePlansModel" := fun q hq => by cases hq; exact ⟨rfl, rfl⟩
theorem nf_M_5 : ∀ q : vw_C, sx_cl[9]? = some q → (q.2.1 5).2.2.2 = true ∧ (q.2.1 5).1 = "PlaceTimePlansModel" := fun q hq => by cases hq; exact ⟨rfl, rfl⟩
theorem nf_M_6 : ∀ q : vw_C, sx_cl[9]? = some q → (q.2.1 6).2.2.2 = true ∧ (q.2.1 6).1 = "PlaceTimePlansModel" := fun q hq => by cases hq; exact ⟨rfl, rfl⟩
theorem nf_M_7 : ∀ q : vw_C, sx_cl[9]? = some q → (q.2.1 7).2.2.2 = true ∧ (q.2.1 7).1 = "PlaceTimePlansModel" := fun q hq => by cases hq; exact ⟨rfl, rfl⟩
theorem nf_M_8 : ∀ q : vw_C, sx_cl[9]? = some q → (q.2.1 8).2.2.2 = true ∧ (q.2.1 8).1 = "PlaceTimePlansModel" := fun q hq => by cases hq; exact ⟨rfl, rfl⟩
theorem nf_M_9 : ∀ q : vw_C, sx_cl[9]? = some q → (q.2.1 9).2.2.2 = true ∧ (q.2.1 9).1 = "PlaceTimePlansModel" := fun q hq => by cases hq; exact ⟨rfl, rfl⟩
theorem nf_M_10 : ∀ q : vw_C, sx_cl[9]? = some q → (q.2.1 10).2.2.2 = true ∧ (q.2.1 10).1 = "PlaceTimePlansModel" := fun q hq => by cases hq; exact ⟨rfl, rfl⟩
theorem nf_M_11 : ∀ q : vw_C, sx_cl[9]? = some q → (q.2.1 11).2.2.2 = false := fun q hq => by cases hq; rfl
theorem nf_M_12 : ∀ q : vw_C, sx_cl[9]? = some q → (q.2.1 12).2.2.2 = true ∧ (q.2.1 12).1 = "PlaceTimePlansModel" := fun q hq => by cases hq; exact ⟨rfl, rfl⟩
theorem nf_M_13 : ∀ q : vw_C, sx_cl[9]? = some q → (q.2.1 13).2.2.2 = true ∧ (q.2.1 13).1 = "PlaceTimePlansModel" := fun q hq => by cases hq; exact ⟨rfl, rfl⟩
theorem nf_M_14 : ∀ q : vw_C, sx_cl[9]? = some q → (q.2.1 14).2.2.2 = true ∧ (q.2.1 14).1 = "PlaceTimePlansModel" := fun q hq => by cases hq; exact ⟨rfl, rfl⟩
theorem nf_M_15 : ∀ q : vw_C, sx_cl[9]? = some q → (q.2.1 15).2.2.2 = false := fun q hq => by cases hq; rfl
theorem nf_M_16 : ∀ q : vw_C, sx_cl[9]? = some q → (q.2.1 16).2.2.2 = true ∧ (q.2.1 16).1 = "PlaceTimePlansModel" := fun q hq => by cases hq; exact ⟨rfl, rfl⟩
theorem nf_M_17 : ∀ q : vw_C, sx_cl[9]? = some q → (q.2.1 17).2.2.2 = true ∧ (q.2.1 17).1 = "PlaceTimePlansModel" := fun q hq => by cases hq; exact ⟨rfl, rfl⟩
theorem nf_M_18 : ∀ q : vw_C, sx_cl[9]? = some q → (q.2.1 18).2.2.2 = true ∧ (q.2.1 18).1 = "PlaceTimePlansModel" := fun q hq => by cases hq; exact ⟨rfl, rfl⟩
theorem nf_M_19 : ∀ q : vw_C, sx_cl[9]? = some q → (q.2.1 19).2.2.2 = false := fun q hq => by cases hq; rfl
theorem nf_M_20 : ∀ q : vw_C, sx_cl[9]? = some q → (q.2.1 20).2.2.2 = true ∧ (q.2.1 20).1 = "PlaceTimePlansModel" := fun q hq => by cases hq; exact ⟨rfl, rfl⟩
theorem nf_M_21 : ∀ q : vw_C, sx_cl[9]? = some q → (q.2.1 21).2.2.2 = true ∧ (q.2.1 21).1 = "PlaceTimePlansModel" := fun q hq => by cases hq; exact ⟨rfl, rfl⟩
theorem nf_M_22 : ∀ q : vw_C, sx_cl[9]? = some q → (q.2.1 22).2.2.2 = true ∧ (q.2.1 22).1 = "PlaceTimePlansModel" := fun q hq => by cases hq; exact ⟨rfl, rfl⟩
theorem nf_M_23 : ∀ q : vw_C, sx_cl[9]? = some q → (q.2.1 23).2.2.2 = true ∧ (q.2.1 23).1 = "PlaceTimePlansModel" := fun q hq => by cases hq; exact ⟨rfl, rfl⟩
theorem nf_M_24 : ∀ q : vw_C, sx_cl[9]? = some q → (q.2.1 24).2.2.2 = true ∧ (q.2.1 24).1 = "PlaceTimePlansModel" := fun q hq => by cases hq; exact ⟨rfl, rfl⟩
theorem nf_M_25 : ∀ q : vw_C, sx_cl[9]? = some q → (q.2.1 25).2.2.2 = false := fun q hq => by cases hq; rfl
theorem nf_M_26 : ∀ q : vw_C, sx_cl[9]? = some q → (q.2.1 26).2.2.2 = false := fun q hq => by cases hq; rfl
theorem nf_M_27 : ∀ q : vw_C, sx_cl[9]? = some q → (q.2.1 27).2.2.2 = true ∧ (q.2.1 27).1 = "PlaceTimePlansModel" := fun q hq => by cases hq; exact ⟨rfl, rfl⟩
theorem nf_M_28 : ∀ q : vw_C, sx_cl[9]? = some q → (q.2.1 28).2.2.2 = true ∧ (q.2.1 28).1 = "PlaceTimePlansModel" := fun q hq => by cases hq; exact ⟨rfl, rfl⟩
theorem nf_M_29 : ∀ q : vw_C, sx_cl[9]? = some q → (q.2.1 29).2.2.2 = true ∧ (q.2.1 29).1 = "PlaceTimePlansModel" := fun q hq => by cases hq; exact ⟨rfl, rfl⟩
theorem nf_M_30 : ∀ q : vw_C, sx_cl[9]? = some q → (q.2.1 30).2.2.2 = true ∧ (q.2.1 30).1 = "PlaceTimePlansModel" := fun q hq => by cases hq; exact ⟨rfl, rfl⟩
theorem nf_M_31 : ∀ q : vw_C, sx_cl[9]? = some q → (q.2.1 31).2.2.2 = true ∧ (q.2.1 31).1 = "PlaceTimePlansModel" := fun q hq => by cases hq; exact ⟨rfl, rfl⟩
theorem nf_M_32 : ∀ q : vw_C, sx_cl[9]? = some q → (q.2.1 32).2.2.2 = true ∧ (q.2.1 32).1 = "PlaceTimePlansModel" := fun q hq => by cases hq; exact ⟨rfl, rfl⟩
theorem nf_M_33 : ∀ q : vw_C, sx_cl[9]? = some q → (q.2.1 33).2.2.2 = false := fun q hq => by cases hq; rfl
theorem nf_M_34 : ∀ q : vw_C, sx_cl[9]? = some q → (q.2.1 34).2.2.2 = false := fun q hq => by cases hq; rfl
theorem nf_M_35 : ∀ q : vw_C, sx_cl[9]? = some q → (q.2.1 35).2.2.2 = false := fun q hq => by cases hq; rfl
theorem nf_M_36 : ∀ q : vw_C, sx_cl[9]? = some q → (q.2.1 36).2.2.2 = true ∧ (q.2.1 36).1 = "PlaceTimePlansModel" := fun q hq => by cases hq; exact ⟨rfl, rfl⟩
theorem nf_M_37 : ∀ q : vw_C, sx_cl[9]? = some q → (q.2.1 37).2.2.2 = true ∧ (q.2.1 37).1 = "PlaceTimePlansModel" := fun q hq => by cases hq; exact ⟨rfl, rfl⟩
theorem lk_T_9 : sx_lk "PlaceTimePlans" 9 y_L_init := Or.inl tw_22
theorem lk_T_18 : sx_lk "PlaceTimePlans" 18 y_R_init := Or.inl tw_167
theorem lk_T_27 : sx_lk "PlaceTimePlans" 27 y_P_init := Or.inr ⟨_, tw_196⟩
theorem lk_T_34 : sx_lk "PlaceTimePlans" 34 y_S_init := Or.inl tw_217
theorem lk_T_43 : sx_lk "PlaceTimePlans" 43 y_W_init := Or.inr ⟨_, tw_279⟩
theorem lk_T_50 : sx_lk "PlaceTimePlans" 50 y_H_init := Or.inl tw_282
theorem lk_T_61 : sx_lk "PlaceTimePlans" 61 y_T_isKind := Or.inl tw_337
theorem lk_T_69 : sx_lk "PlaceTimePlans" 69 y_L_addCrew := Or.inl tw_343
theorem lk_T_73 : sx_lk "PlaceTimePlans" 73 y_T_forgetPlan := Or.inl tw_347
theorem lk_T_76 : sx_lk "PlaceTimePlans" 76 y_T_isWithin := Or.inl tw_340
theorem lk_T_83 : sx_lk "PlaceTimePlans" 83 y_L_addWork := Or.inl tw_355
theorem lk_T_87 : sx_lk "PlaceTimePlans" 87 y_T_isWork := Or.inl tw_374
theorem lk_T_90 : sx_lk "PlaceTimePlans" 90 y_L_setGap := Or.inl tw_378
theorem lk_T_106 : sx_lk "PlaceTimePlans" 106 y_K_comesTo := Or.inl tw_390
theorem lk_T_112 : sx_lk "PlaceTimePlans" 112 y_L_addBar := Or.inl tw_394
theorem lk_T_119 : sx_lk "PlaceTimePlans" 119 y_D_isWorking := Or.inl tw_402
theorem lk_T_124 : sx_lk "PlaceTimePlans" 124 y_D_giveRest := Or.inl tw_406
theorem lk_T_132 : sx_lk "PlaceTimePlans" 132 y_K_setSpeed := Or.inl tw_419
theorem lk_T_138 : sx_lk "PlaceTimePlans" 138 y_S_seek := Or.inl tw_424
theorem lk_T_142 : sx_lk "PlaceTimePlans" 142 y_T_takeOutcome := Or.inl tw_556
theorem lk_T_156 : sx_lk "PlaceTimePlans" 156 y_T_isPlanned := Or.inl tw_574
theorem lk_T_162 : sx_lk "PlaceTimePlans" 162 y_L_endOf := Or.inl tw_578
theorem lk_T_169 : sx_lk "PlaceTimePlans" 169 y_L_placeOn := Or.inl tw_583
theorem lk_T_173 : sx_lk "PlaceTimePlans" 173 y_L_passTime := Or.inl tw_592
theorem lk_T_177 : sx_lk "PlaceTimePlans" 177 y_T_commonDivisor := Or.inl tw_593
theorem lk_T_180 : sx_lk "PlaceTimePlans" 180 y_L_lastShared := Or.inl tw_600
theorem lk_T_183 : sx_lk "PlaceTimePlans" 183 y_L_firstShared := Or.inl tw_601
theorem lk_T_192 : sx_lk "PlaceTimePlans" 192 y_L_daysOfCrew := Or.inl tw_610
theorem lk_T_195 : sx_lk "PlaceTimePlans" 195 y_J_max := Or.inl tw_614
theorem lk_T_200 : sx_lk "PlaceTimePlans" 200 y_R_canStandAlone := Or.inl tw_619
theorem lk_T_209 : sx_lk "PlaceTimePlans" 209 y_L_frozenWorks := Or.inl tw_635
theorem lk_T_216 : sx_lk "PlaceTimePlans" 216 y_R_open := Or.inl tw_651
theorem lk_T_220 : sx_lk "PlaceTimePlans" 220 y_T_canStartLater := Or.inl tw_652
theorem lk_T_224 : sx_lk "PlaceTimePlans" 224 y_H_begin := Or.inl tw_663
theorem lk_T_227 : sx_lk "PlaceTimePlans" 227 y_H_drawEnd := Or.inl tw_667
theorem lk_T_245 : sx_lk "PlaceTimePlans" 245 y_P_isElsewhere := Or.inl tw_560
theorem lk_T_248 : sx_lk "PlaceTimePlans" 248 y_P_put := Or.inl tw_561
theorem lk_T_254 : sx_lk "PlaceTimePlans" 254 y_D_before := Or.inl tw_656
theorem lk_T_257 : sx_lk "PlaceTimePlans" 257 y_W_holds := Or.inl tw_657
theorem lk_T_260 : sx_lk "PlaceTimePlans" 260 y_R_hasRoom := Or.inl tw_658
theorem lk_D_22 : sx_lk "PlaceTimePlans$Days" 22 y_D_countWorkingDays := Or.inl tw_32
theorem lk_D_25 : sx_lk "PlaceTimePlans$Days" 25 y_T_isWithin := Or.inr ⟨_, tw_410⟩
theorem lk_L_11 : sx_lk "PlaceTimePlans$Line" 11 y_D_init := Or.inl tw_28
theorem lk_L_43 : sx_lk "PlaceTimePlans$Line" 43 y_K_init := Or.inr ⟨_, tw_55⟩
theorem lk_L_51 : sx_lk "PlaceTimePlans$Line" 51 y_T_isWithin := Or.inr ⟨_, tw_359⟩
theorem lk_L_71 : sx_lk "PlaceTimePlans$Line" 71 y_K_setSpeed := Or.inl tw_360
theorem lk_L_78 : sx_lk "PlaceTimePlans$Line" 78 y_J_max := Or.inl tw_486
theorem lk_L_84 : sx_lk "PlaceTimePlans$Line" 84 y_J_min := Or.inl tw_481
theorem lk_L_87 : sx_lk "PlaceTimePlans$Line" 87 y_D_before := Or.inl tw_493
theorem lk_L_94 : sx_lk "PlaceTimePlans$Line" 94 y_D_dayOf := Or.inl tw_494
theorem lk_L_102 : sx_lk "PlaceTimePlans$Line" 102 y_K_wayTo := Or.inl tw_491
theorem lk_L_105 : sx_lk "PlaceTimePlans$Line" 105 y_K_wholeDays := Or.inl tw_492
theorem lk_L_115 : sx_lk "PlaceTimePlans$Line" 115 y_L_endOf := Or.inl tw_587
theorem lk_P_18 : sx_lk "PlaceTimePlans$Placing" 18 y_T_isWithin := Or.inr ⟨_, tw_524⟩
theorem lk_R_11 : sx_lk "PlaceTimePlans$Rules" 11 y_W_init := Or.inr ⟨_, tw_173⟩
theorem lk_R_29 : sx_lk "PlaceTimePlans$Rules" 29 y_R_openAlone := Or.inl tw_436
theorem lk_R_33 : sx_lk "PlaceTimePlans$Rules" 33 y_W_isEmpty := Or.inl tw_623
theorem lk_R_47 : sx_lk "PlaceTimePlans$Rules" 47 y_R_keepGaps := Or.inl tw_469
theorem lk_R_51 : sx_lk "PlaceTimePlans$Rules" 51 y_D_before := Or.inl tw_440
theorem lk_R_67 : sx_lk "PlaceTimePlans$Rules" 67 y_J_min := Or.inl tw_444
theorem lk_R_73 : sx_lk "PlaceTimePlans$Rules" 73 y_W_set := Or.inl tw_445
theorem lk_R_80 : sx_lk "PlaceTimePlans$Rules" 80 y_W_raiseLeast := Or.inl tw_449
theorem lk_R_94 : sx_lk "PlaceTimePlans$Rules" 94 y_K_wayTo := Or.inl tw_454
theorem lk_R_100 : sx_lk "PlaceTimePlans$Rules" 100 y_R_firstStart := Or.inl tw_458
theorem lk_R_104 : sx_lk "PlaceTimePlans$Rules" 104 y_L_gapBetween := Or.inl tw_473
theorem lk_R_110 : sx_lk "PlaceTimePlans$Rules" 110 y_L_lastShared := Or.inl tw_477
theorem lk_R_113 : sx_lk "PlaceTimePlans$Rules" 113 y_L_firstShared := Or.inl tw_482
theorem lk_R_116 : sx_lk "PlaceTimePlans$Rules" 116 y_L_passTime := Or.inl tw_487
theorem lk_R_120 : sx_lk "PlaceTimePlans$Rules" 120 y_R_lastStart := Or.inl tw_498
theorem lk_R_123 : sx_lk "PlaceTimePlans$Rules" 123 y_W_lowerGreatest := Or.inl tw_502
theorem lk_R_126 : sx_lk "PlaceTimePlans$Rules" 126 y_K_wholeDays := Or.inl tw_462
theorem lk_R_130 : sx_lk "PlaceTimePlans$Rules" 130 y_J_floorDiv := Or.inl tw_466
theorem lk_R_133 : sx_lk "PlaceTimePlans$Rules" 133 y_R_isCrowded := Or.inl tw_543
theorem lk_R_148 : sx_lk "PlaceTimePlans$Rules" 148 y_T_isWithin := Or.inr ⟨_, tw_547⟩
theorem lk_S_11 : sx_lk "PlaceTimePlans$Search" 11 y_P_init := Or.inr ⟨_, tw_222⟩
theorem lk_S_45 : sx_lk "PlaceTimePlans$Search" 45 y_W_init := Or.inr ⟨_, tw_225⟩
theorem lk_S_63 : sx_lk "PlaceTimePlans$Search" 63 y_S_tryStarts := Or.inl tw_428
theorem lk_S_90 : sx_lk "PlaceTimePlans$Search" 90 y_R_open := Or.inl tw_432
theorem lk_S_96 : sx_lk "PlaceTimePlans$Search" 96 y_S_tryOne := Or.inl tw_507
theorem lk_S_100 : sx_lk "PlaceTimePlans$Search" 100 y_L_endOf := Or.inl tw_511
theorem lk_S_104 : sx_lk "PlaceTimePlans$Search" 104 y_J_max := Or.inl tw_515
theorem lk_S_109 : sx_lk "PlaceTimePlans$Search" 109 y_S_isMove := Or.inl tw_516
theorem lk_S_113 : sx_lk "PlaceTimePlans$Search" 113 y_S_isBetter := Or.inl tw_525
theorem lk_S_117 : sx_lk "PlaceTimePlans$Search" 117 y_S_keepsRules := Or.inl tw_529
theorem lk_S_120 : sx_lk "PlaceTimePlans$Search" 120 y_P_put := Or.inl tw_548
theorem lk_S_123 : sx_lk "PlaceTimePlans$Search" 123 y_S_keepAsBest := Or.inl tw_552
theorem lk_S_126 : sx_lk "PlaceTimePlans$Search" 126 y_P_isElsewhere := Or.inl tw_520
theorem lk_S_139 : sx_lk "PlaceTimePlans$Search" 139 y_D_isWorking := Or.inl tw_533
theorem lk_S_145 : sx_lk "PlaceTimePlans$Search" 145 y_D_before := Or.inl tw_534
theorem lk_S_149 : sx_lk "PlaceTimePlans$Search" 149 y_W_holds := Or.inl tw_535
theorem lk_S_152 : sx_lk "PlaceTimePlans$Search" 152 y_R_hasRoom := Or.inl tw_539
theorem lk_H_41 : sx_lk "PlaceTimePlans$Weather" 41 y_H_drawWet := Or.inl tw_671
theorem lk_H_49 : sx_lk "PlaceTimePlans$Weather" 49 y_D_isWorking := Or.inl tw_678
theorem lk_H_54 : sx_lk "PlaceTimePlans$Weather" 54 y_H_goOn := Or.inl tw_679
theorem lk_H_57 : sx_lk "PlaceTimePlans$Weather" 57 y_J_max := Or.inl tw_683
theorem lk_W_16 : sx_lk "PlaceTimePlans$Window" 16 y_J_max := Or.inl tw_453
theorem lk_W_22 : sx_lk "PlaceTimePlans$Window" 22 y_J_min := Or.inl tw_506
theorem lk_K_18 : sx_lk "PlaceTimePlans$Work" 18 y_J_min := Or.inl tw_364
theorem lk_K_24 : sx_lk "PlaceTimePlans$Work" 24 y_J_max := Or.inl tw_367
theorem lk_Z_9 : sx_lk "PlaceTimePlansLaw" 9 y_T_init := Or.inl tw_14
theorem lk_Z_12 : sx_lk "PlaceTimePlansLaw" 12 y_M_init := Or.inl tw_690
theorem lk_Z_13 : sx_lk "PlaceTimePlansLaw" 13 y_T_crew := Or.inl tw_333
theorem lk_Z_17 : sx_lk "PlaceTimePlansLaw" 17 y_M_crew := Or.inl tw_809
theorem lk_Z_18 : sx_lk "PlaceTimePlansLaw" 18 y_T_work := Or.inl tw_351
theorem lk_Z_22 : sx_lk "PlaceTimePlansLaw" 22 y_M_work := Or.inl tw_820
theorem lk_Z_23 : sx_lk "PlaceTimePlansLaw" 23 y_T_after := Or.inl tw_370
theorem lk_Z_27 : sx_lk "PlaceTimePlansLaw" 27 y_M_after := Or.inl tw_824
theorem lk_Z_28 : sx_lk "PlaceTimePlansLaw" 28 y_T_season := Or.inl tw_382
theorem lk_Z_31 : sx_lk "PlaceTimePlansLaw" 31 y_M_season := Or.inl tw_832
theorem lk_Z_32 : sx_lk "PlaceTimePlansLaw" 32 y_T_bar := Or.inl tw_386
theorem lk_Z_35 : sx_lk "PlaceTimePlansLaw" 35 y_M_bar := Or.inl tw_836
theorem lk_Z_36 : sx_lk "PlaceTimePlansLaw" 36 y_T_rest := Or.inl tw_398
theorem lk_Z_40 : sx_lk "PlaceTimePlansLaw" 40 y_M_rest := Or.inl tw_840
theorem lk_Z_41 : sx_lk "PlaceTimePlansLaw" 41 y_T_most := Or.inl tw_411
theorem lk_Z_45 : sx_lk "PlaceTimePlansLaw" 45 y_M_most := Or.inl tw_844
theorem lk_Z_46 : sx_lk "PlaceTimePlansLaw" 46 y_T_learned := Or.inl tw_415
theorem lk_Z_50 : sx_lk "PlaceTimePlansLaw" 50 y_M_learned := Or.inl tw_848
theorem lk_Z_51 : sx_lk "PlaceTimePlansLaw" 51 y_T_run := Or.inl tw_420
theorem lk_Z_54 : sx_lk "PlaceTimePlansLaw" 54 y_M_run := Or.inl tw_852
theorem lk_Z_55 : sx_lk "PlaceTimePlansLaw" 55 y_T_proved := Or.inl tw_562
theorem lk_Z_59 : sx_lk "PlaceTimePlansLaw" 59 y_M_proved := Or.inl tw_920
theorem lk_Z_60 : sx_lk "PlaceTimePlansLaw" 60 y_T_tried := Or.inl tw_566
theorem lk_Z_64 : sx_lk "PlaceTimePlansLaw" 64 y_M_tried := Or.inl tw_924
theorem lk_Z_65 : sx_lk "PlaceTimePlansLaw" 65 y_T_told := Or.inl tw_570
theorem lk_Z_68 : sx_lk "PlaceTimePlansLaw" 68 y_M_told := Or.inl tw_928
theorem lk_Z_69 : sx_lk "PlaceTimePlansLaw" 69 y_T_at := Or.inl tw_579
theorem lk_Z_72 : sx_lk "PlaceTimePlansLaw" 72 y_M_at := Or.inl tw_936
theorem lk_Z_73 : sx_lk "PlaceTimePlansLaw" 73 y_T_passes := Or.inl tw_588
theorem lk_Z_77 : sx_lk "PlaceTimePlansLaw" 77 y_M_passes := Or.inl tw_940
theorem lk_Z_78 : sx_lk "PlaceTimePlansLaw" 78 y_T_crosses := Or.inl tw_596
theorem lk_Z_82 : sx_lk "PlaceTimePlansLaw" 82 y_M_crosses := Or.inl tw_947
theorem lk_Z_83 : sx_lk "PlaceTimePlansLaw" 83 y_T_under := Or.inl tw_602
theorem lk_Z_86 : sx_lk "PlaceTimePlansLaw" 86 y_M_under := Or.inl tw_951
theorem lk_Z_87 : sx_lk "PlaceTimePlansLaw" 87 y_T_bound := Or.inl tw_606
theorem lk_Z_90 : sx_lk "PlaceTimePlansLaw" 90 y_M_bound := Or.inl tw_955
theorem lk_Z_91 : sx_lk "PlaceTimePlansLaw" 91 y_T_lone := Or.inl tw_615
theorem lk_Z_94 : sx_lk "PlaceTimePlansLaw" 94 y_M_lone := Or.inl tw_963
theorem lk_Z_95 : sx_lk "PlaceTimePlansLaw" 95 y_T_late := Or.inl tw_627
theorem lk_Z_98 : sx_lk "PlaceTimePlansLaw" 98 y_M_late := Or.inl tw_971
theorem lk_Z_99 : sx_lk "PlaceTimePlansLaw" 99 y_T_freeze := Or.inl tw_631
theorem lk_Z_102 : sx_lk "PlaceTimePlansLaw" 102 y_M_freeze := Or.inl tw_975
theorem lk_Z_103 : sx_lk "PlaceTimePlansLaw" 103 y_T_replan := Or.inl tw_639
theorem lk_Z_106 : sx_lk "PlaceTimePlansLaw" 106 y_M_replan := Or.inl tw_916
theorem lk_Z_107 : sx_lk "PlaceTimePlansLaw" 107 y_T_moved := Or.inl tw_643
theorem lk_Z_110 : sx_lk "PlaceTimePlansLaw" 110 y_M_moved := Or.inl tw_979
theorem lk_Z_111 : sx_lk "PlaceTimePlansLaw" 111 y_T_slack := Or.inl tw_647
theorem lk_Z_114 : sx_lk "PlaceTimePlansLaw" 114 y_M_slack := Or.inl tw_983
theorem lk_Z_115 : sx_lk "PlaceTimePlansLaw" 115 y_T_odds := Or.inl tw_659
theorem lk_Z_119 : sx_lk "PlaceTimePlansLaw" 119 y_M_odds := Or.inl tw_987
theorem lk_Z_120 : sx_lk "PlaceTimePlansLaw" 120 y_T_count := Or.inl tw_684
theorem lk_Z_123 : sx_lk "PlaceTimePlansLaw" 123 y_M_count := Or.inl tw_998
theorem lk_M_103 : sx_lk "PlaceTimePlansModel" 103 y_M_within := Or.inl tw_813
theorem lk_M_110 : sx_lk "PlaceTimePlansModel" 110 y_M_changed := Or.inl tw_816
theorem lk_M_113 : sx_lk "PlaceTimePlansModel" 113 y_M_isWork := Or.inl tw_828
theorem lk_M_123 : sx_lk "PlaceTimePlansModel" 123 y_M_isRest := Or.inl tw_868
theorem lk_M_126 : sx_lk "PlaceTimePlansModel" 126 y_M_nextDay := Or.inl tw_876
theorem lk_M_130 : sx_lk "PlaceTimePlansModel" 130 y_M_comesAfter := Or.inl tw_892
theorem lk_M_134 : sx_lk "PlaceTimePlansModel" 134 y_M_keepsOwn := Or.inl tw_884
theorem lk_M_138 : sx_lk "PlaceTimePlansModel" 138 y_M_goesWith := Or.inl tw_888
theorem lk_M_141 : sx_lk "PlaceTimePlansModel" 141 y_M_isUnder := Or.inl tw_896
theorem lk_M_147 : sx_lk "PlaceTimePlansModel" 147 y_M_greatestEnd := Or.inl tw_904
theorem lk_M_153 : sx_lk "PlaceTimePlansModel" 153 y_M_movedSoFar := Or.inl tw_908
theorem lk_M_159 : sx_lk "PlaceTimePlansModel" 159 y_M_lay := Or.inl tw_872
theorem lk_M_163 : sx_lk "PlaceTimePlansModel" 163 y_M_keepsAll := Or.inl tw_880
theorem lk_M_166 : sx_lk "PlaceTimePlansModel" 166 y_M_isBetter := Or.inl tw_900
theorem lk_M_173 : sx_lk "PlaceTimePlansModel" 173 y_M_triesOf := Or.inl tw_860
theorem lk_M_176 : sx_lk "PlaceTimePlansModel" 176 y_M_goesOn := Or.inl tw_864
theorem lk_M_183 : sx_lk "PlaceTimePlansModel" 183 y_M_search := Or.inl tw_856
theorem lk_M_187 : sx_lk "PlaceTimePlansModel" 187 y_M_take := Or.inl tw_912
theorem lk_M_191 : sx_lk "PlaceTimePlansModel" 191 y_M_layPlan := Or.inl tw_932
theorem lk_M_194 : sx_lk "PlaceTimePlansModel" 194 y_M_common := Or.inl tw_944
theorem lk_M_198 : sx_lk "PlaceTimePlansModel" 198 y_M_daysOf := Or.inl tw_959
theorem lk_M_201 : sx_lk "PlaceTimePlansModel" 201 y_M_isLone := Or.inl tw_967
theorem lk_M_207 : sx_lk "PlaceTimePlansModel" 207 y_M_wetEnd := Or.inl tw_994
theorem cd_T_init : sx_cd y_T_init 0 := ⟨tw_16, tw_1, ⟨by decide +kernel, by decide +kernel, by decide +kernel⟩, by decide⟩
theorem im_T_init : Cond.instanceMethod y_T_init.1 ∈ sx_T := tw_15
theorem cd_T_after : sx_cd y_T_after 3 := ⟨tw_373, tw_1, ⟨by decide +kernel, by decide +kernel, by decide +kernel⟩, by decide⟩
theorem im_T_after : Cond.instanceMethod y_T_after.1 ∈ sx_T := tw_371
theorem se_T_after : Cond.selects y_T_after.1.cls y_T_after.1 y_T_after.1 ∈ sx_T := tw_372
theorem cd_T_at : sx_cd y_T_at 2 := ⟨tw_582, tw_1, ⟨by decide +kernel, by decide +kernel, by decide +kernel⟩, by decide⟩
theorem im_T_at : Cond.instanceMethod y_T_at.1 ∈ sx_T := tw_580
theorem se_T_at : Cond.selects y_T_at.1.cls y_T_at.1 y_T_at.1 ∈ sx_T := tw_581
theorem cd_T_bar : sx_cd y_T_bar 3 := ⟨tw_389, tw_1, ⟨by decide +kernel, by decide +kernel, by decide +kernel⟩, by decide⟩
theorem im_T_bar : Cond.instanceMethod y_T_bar.1 ∈ sx_T := tw_387
theorem se_T_bar : Cond.selects y_T_bar.1.cls y_T_bar.1 y_T_bar.1 ∈ sx_T := tw_388
theorem cd_T_bound : sx_cd y_T_bound 0 := ⟨tw_609, tw_1, ⟨by decide +kernel, by decide +kernel, by decide +kernel⟩, by decide⟩
theorem im_T_bound : Cond.instanceMethod y_T_bound.1 ∈ sx_T := tw_607
theorem se_T_bound : Cond.selects y_T_bound.1.cls y_T_bound.1 y_T_bound.1 ∈ sx_T := tw_608
theorem cd_T_canStartLater : sx_cd y_T_canStartLater 2 := ⟨tw_655, tw_1, ⟨by decide +kernel, by decide +kernel, by decide +kernel⟩, by decide⟩
theorem im_T_canStartLater : Cond.instanceMethod y_T_canStartLater.1 ∈ sx_T := tw_654
theorem se_T_canStartLater : Cond.selects y_T_canStartLater.1.cls y_T_canStartLater.1 y_T_canStartLater.1 ∈ sx_T := ps_16
theorem cd_T_commonDivisor : sx_cd y_T_commonDivisor 2 := ⟨tw_595, tw_1, ⟨by decide +kernel, by decide +kernel, by decide +kernel⟩, by decide⟩
theorem st_T_commonDivisor : Cond.static y_T_commonDivisor.1 ∈ sx_T := tw_594
theorem cd_T_count : sx_cd y_T_count 1 := ⟨tw_687, tw_1, ⟨by decide +kernel, by decide +kernel, by decide +kernel⟩, by decide⟩
theorem im_T_count : Cond.instanceMethod y_T_count.1 ∈ sx_T := tw_685
theorem se_T_count : Cond.selects y_T_count.1.cls y_T_count.1 y_T_count.1 ∈ sx_T := tw_686
theorem cd_T_crew : sx_cd y_T_crew 1 := ⟨tw_336, tw_1, ⟨by decide +kernel, by decide +kernel, by decide +kernel⟩, by decide⟩
theorem im_T_crew : Cond.instanceMethod y_T_crew.1 ∈ sx_T := tw_334
theorem se_T_crew : Cond.selects y_T_crew.1.cls y_T_crew.1 y_T_crew.1 ∈ sx_T := tw_335
theorem cd_T_crosses : sx_cd y_T_crosses 2 := ⟨tw_599, tw_1, ⟨by decide +kernel, by decide +kernel, by decide +kernel⟩, by decide⟩
theorem im_T_crosses : Cond.instanceMethod y_T_crosses.1 ∈ sx_T := tw_597
theorem se_T_crosses : Cond.selects y_T_crosses.1.cls y_T_crosses.1 y_T_crosses.1 ∈ sx_T := tw_598
theorem cd_T_forgetPlan : sx_cd y_T_forgetPlan 0 := ⟨tw_350, tw_1, ⟨by decide +kernel, by decide +kernel, by decide +kernel⟩, by decide⟩
theorem im_T_forgetPlan : Cond.instanceMethod y_T_forgetPlan.1 ∈ sx_T := tw_349
theorem se_T_forgetPlan : Cond.selects y_T_forgetPlan.1.cls y_T_forgetPlan.1 y_T_forgetPlan.1 ∈ sx_T := ps_1
theorem cd_T_freeze : sx_cd y_T_freeze 1 := ⟨tw_634, tw_1, ⟨by decide +kernel, by decide +kernel, by decide +kernel⟩, by decide⟩
theorem im_T_freeze : Cond.instanceMethod y_T_freeze.1 ∈ sx_T := tw_632
theorem se_T_freeze : Cond.selects y_T_freeze.1.cls y_T_freeze.1 y_T_freeze.1 ∈ sx_T := tw_633
theorem cd_T_isKind : sx_cd y_T_isKind 1 := ⟨tw_339, tw_1, ⟨by decide +kernel, by decide +kernel, by decide +kernel⟩, by decide⟩
theorem st_T_isKind : Cond.static y_T_isKind.1 ∈ sx_T := tw_338
theorem cd_T_isPlanned : sx_cd y_T_isPlanned 1 := ⟨tw_577, tw_1, ⟨by decide +kernel, by decide +kernel, by decide +kernel⟩, by decide⟩
theorem im_T_isPlanned : Cond.instanceMethod y_T_isPlanned.1 ∈ sx_T := tw_576
theorem se_T_isPlanned : Cond.selects y_T_isPlanned.1.cls y_T_isPlanned.1 y_T_isPlanned.1 ∈ sx_T := ps_15
theorem cd_T_isWithin : sx_cd y_T_isWithin 3 := ⟨tw_342, tw_1, ⟨by decide +kernel, by decide +kernel, by decide +kernel⟩, by decide⟩
theorem st_T_isWithin : Cond.static y_T_isWithin.1 ∈ sx_T := tw_341
theorem cd_T_isWork : sx_cd y_T_isWork 1 := ⟨tw_377, tw_1, ⟨by decide +kernel, by decide +kernel, by decide +kernel⟩, by decide⟩
theorem im_T_isWork : Cond.instanceMethod y_T_isWork.1 ∈ sx_T := tw_376
theorem se_T_isWork : Cond.selects y_T_isWork.1.cls y_T_isWork.1 y_T_isWork.1 ∈ sx_T := ps_2
theorem cd_T_late : sx_cd y_T_late 2 := ⟨tw_630, tw_1, ⟨by decide +kernel, by decide +kernel, by decide +kernel⟩, by decide⟩
theorem im_T_late : Cond.instanceMethod y_T_late.1 ∈ sx_T := tw_628
theorem se_T_late : Cond.selects y_T_late.1.cls y_T_late.1 y_T_late.1 ∈ sx_T := tw_629
theorem cd_T_learned : sx_cd y_T_learned 3 := ⟨tw_418, tw_1, ⟨by decide +kernel, by decide +kernel, by decide +kernel⟩, by decide⟩
theorem im_T_learned : Cond.instanceMethod y_T_learned.1 ∈ sx_T := tw_416
theorem se_T_learned : Cond.selects y_T_learned.1.cls y_T_learned.1 y_T_learned.1 ∈ sx_T := tw_417
theorem cd_T_lone : sx_cd y_T_lone 1 := ⟨tw_618, tw_1, ⟨by decide +kernel, by decide +kernel, by decide +kernel⟩, by decide⟩
theorem im_T_lone : Cond.instanceMethod y_T_lone.1 ∈ sx_T := tw_616
theorem se_T_lone : Cond.selects y_T_lone.1.cls y_T_lone.1 y_T_lone.1 ∈ sx_T := tw_617
theorem cd_T_most : sx_cd y_T_most 2 := ⟨tw_414, tw_1, ⟨by decide +kernel, by decide +kernel, by decide +kernel⟩, by decide⟩
theorem im_T_most : Cond.instanceMethod y_T_most.1 ∈ sx_T := tw_412
theorem se_T_most : Cond.selects y_T_most.1.cls y_T_most.1 y_T_most.1 ∈ sx_T := tw_413
theorem cd_T_moved : sx_cd y_T_moved 1 := ⟨tw_646, tw_1, ⟨by decide +kernel, by decide +kernel, by decide +kernel⟩, by decide⟩
theorem im_T_moved : Cond.instanceMethod y_T_moved.1 ∈ sx_T := tw_644
theorem se_T_moved : Cond.selects y_T_moved.1.cls y_T_moved.1 y_T_moved.1 ∈ sx_T := tw_645
theorem cd_T_odds : sx_cd y_T_odds 4 := ⟨tw_662, tw_1, ⟨by decide +kernel, by decide +kernel, by decide +kernel⟩, by decide⟩
theorem im_T_odds : Cond.instanceMethod y_T_odds.1 ∈ sx_T := tw_660
theorem se_T_odds : Cond.selects y_T_odds.1.cls y_T_odds.1 y_T_odds.1 ∈ sx_T := tw_661
theorem cd_T_passes : sx_cd y_T_passes 4 := ⟨tw_591, tw_1, ⟨by decide +kernel, by decide +kernel, by decide +kernel⟩, by decide⟩
theorem im_T_passes : Cond.instanceMethod y_T_passes.1 ∈ sx_T := tw_589
theorem se_T_passes : Cond.selects y_T_passes.1.cls y_T_passes.1 y_T_passes.1 ∈ sx_T := tw_590
theorem cd_T_proved : sx_cd y_T_proved 0 := ⟨tw_565, tw_1, ⟨by decide +kernel, by decide +kernel, by decide +kernel⟩, by decide⟩
theorem im_T_proved : Cond.instanceMethod y_T_proved.1 ∈ sx_T := tw_563
theorem se_T_proved : Cond.selects y_T_proved.1.cls y_T_proved.1 y_T_proved.1 ∈ sx_T := tw_564
theorem cd_T_replan : sx_cd y_T_replan 1 := ⟨tw_642, tw_1, ⟨by decide +kernel, by decide +kernel, by decide +kernel⟩, by decide⟩
theorem im_T_replan : Cond.instanceMethod y_T_replan.1 ∈ sx_T := tw_640
theorem se_T_replan : Cond.selects y_T_replan.1.cls y_T_replan.1 y_T_replan.1 ∈ sx_T := tw_641
theorem cd_T_rest : sx_cd y_T_rest 1 := ⟨tw_401, tw_1, ⟨by decide +kernel, by decide +kernel, by decide +kernel⟩, by decide⟩
theorem im_T_rest : Cond.instanceMethod y_T_rest.1 ∈ sx_T := tw_399
theorem se_T_rest : Cond.selects y_T_rest.1.cls y_T_rest.1 y_T_rest.1 ∈ sx_T := tw_400
theorem cd_T_run : sx_cd y_T_run 1 := ⟨tw_423, tw_1, ⟨by decide +kernel, by decide +kernel, by decide +kernel⟩, by decide⟩
theorem im_T_run : Cond.instanceMethod y_T_run.1 ∈ sx_T := tw_421
theorem se_T_run : Cond.selects y_T_run.1.cls y_T_run.1 y_T_run.1 ∈ sx_T := tw_422
theorem cd_T_season : sx_cd y_T_season 3 := ⟨tw_385, tw_1, ⟨by decide +kernel, by decide +kernel, by decide +kernel⟩, by decide⟩
theorem im_T_season : Cond.instanceMethod y_T_season.1 ∈ sx_T := tw_383
theorem se_T_season : Cond.selects y_T_season.1.cls y_T_season.1 y_T_season.1 ∈ sx_T := tw_384
theorem cd_T_slack : sx_cd y_T_slack 1 := ⟨tw_650, tw_1, ⟨by decide +kernel, by decide +kernel, by decide +kernel⟩, by decide⟩
theorem im_T_slack : Cond.instanceMethod y_T_slack.1 ∈ sx_T := tw_648
theorem se_T_slack : Cond.selects y_T_slack.1.cls y_T_slack.1 y_T_slack.1 ∈ sx_T := tw_649
theorem cd_T_takeOutcome : sx_cd y_T_takeOutcome 1 := ⟨tw_559, tw_1, ⟨by decide +kernel, by decide +kernel, by decide +kernel⟩, by decide⟩
theorem im_T_takeOutcome : Cond.instanceMethod y_T_takeOutcome.1 ∈ sx_T := tw_558
theorem se_T_takeOutcome : Cond.selects y_T_takeOutcome.1.cls y_T_takeOutcome.1 y_T_takeOutcome.1 ∈ sx_T := ps_14
theorem cd_T_told : sx_cd y_T_told 2 := ⟨tw_573, tw_1, ⟨by decide +kernel, by decide +kernel, by decide +kernel⟩, by decide⟩
theorem im_T_told : Cond.instanceMethod y_T_told.1 ∈ sx_T := tw_571
theorem se_T_told : Cond.selects y_T_told.1.cls y_T_told.1 y_T_told.1 ∈ sx_T := tw_572
theorem cd_T_tried : sx_cd y_T_tried 0 := ⟨tw_569, tw_1, ⟨by decide +kernel, by decide +kernel, by decide +kernel⟩, by decide⟩
theorem im_T_tried : Cond.instanceMethod y_T_tried.1 ∈ sx_T := tw_567
theorem se_T_tried : Cond.selects y_T_tried.1.cls y_T_tried.1 y_T_tried.1 ∈ sx_T := tw_568
theorem cd_T_under : sx_cd y_T_under 2 := ⟨tw_605, tw_1, ⟨by decide +kernel, by decide +kernel, by decide +kernel⟩, by decide⟩
theorem im_T_under : Cond.instanceMethod y_T_under.1 ∈ sx_T := tw_603
theorem se_T_under : Cond.selects y_T_under.1.cls y_T_under.1 y_T_under.1 ∈ sx_T := tw_604
theorem cd_T_work : sx_cd y_T_work 5 := ⟨tw_354, tw_1, ⟨by decide +kernel, by decide +kernel, by decide +kernel⟩, by decide⟩
theorem im_T_work : Cond.instanceMethod y_T_work.1 ∈ sx_T := tw_352
theorem se_T_work : Cond.selects y_T_work.1.cls y_T_work.1 y_T_work.1 ∈ sx_T := tw_353
theorem cd_D_init : sx_cd y_D_init 0 := ⟨tw_30, tw_3, ⟨by decide +kernel, by decide +kernel, by decide +kernel⟩, by decide⟩
theorem im_D_init : Cond.instanceMethod y_D_init.1 ∈ sx_T := tw_29
theorem cd_D_before : sx_cd y_D_before 1 := ⟨tw_443, tw_3, ⟨by decide +kernel, by decide +kernel, by decide +kernel⟩, by decide⟩
theorem im_D_before : Cond.instanceMethod y_D_before.1 ∈ sx_T := tw_441
theorem se_D_before : Cond.selects y_D_before.1.cls y_D_before.1 y_D_before.1 ∈ sx_T := tw_442
theorem cd_D_countWorkingDays : sx_cd y_D_countWorkingDays 0 := ⟨tw_35, tw_3, ⟨by decide +kernel, by decide +kernel, by decide +kernel⟩, by decide⟩
theorem im_D_countWorkingDays : Cond.instanceMethod y_D_countWorkingDays.1 ∈ sx_T := tw_34
theorem se_D_countWorkingDays : Cond.selects y_D_countWorkingDays.1.cls y_D_countWorkingDays.1 y_D_countWorkingDays.1 ∈ sx_T := ps_0
theorem cd_D_dayOf : sx_cd y_D_dayOf 1 := ⟨tw_497, tw_3, ⟨by decide +kernel, by decide +kernel, by decide +kernel⟩, by decide⟩
theorem im_D_dayOf : Cond.instanceMethod y_D_dayOf.1 ∈ sx_T := tw_495
theorem se_D_dayOf : Cond.selects y_D_dayOf.1.cls y_D_dayOf.1 y_D_dayOf.1 ∈ sx_T := tw_496
theorem cd_D_giveRest : sx_cd y_D_giveRest 1 := ⟨tw_409, tw_3, ⟨by decide +kernel, by decide +kernel, by decide +kernel⟩, by decide⟩
theorem im_D_giveRest : Cond.instanceMethod y_D_giveRest.1 ∈ sx_T := tw_407
theorem se_D_giveRest : Cond.selects y_D_giveRest.1.cls y_D_giveRest.1 y_D_giveRest.1 ∈ sx_T := tw_408
theorem cd_D_isWorking : sx_cd y_D_isWorking 1 := ⟨tw_405, tw_3, ⟨by decide +kernel, by decide +kernel, by decide +kernel⟩, by decide⟩
theorem im_D_isWorking : Cond.instanceMethod y_D_isWorking.1 ∈ sx_T := tw_403
theorem se_D_isWorking : Cond.selects y_D_isWorking.1.cls y_D_isWorking.1 y_D_isWorking.1 ∈ sx_T := tw_404
theorem cd_L_init : sx_cd y_L_init 0 := ⟨tw_24, tw_2, ⟨by decide +kernel, by decide +kernel, by decide +kernel⟩, by decide⟩
theorem im_L_init : Cond.instanceMethod y_L_init.1 ∈ sx_T := tw_23
theorem cd_L_addBar : sx_cd y_L_addBar 3 := ⟨tw_397, tw_2, ⟨by decide +kernel, by decide +kernel, by decide +kernel⟩, by decide⟩
theorem im_L_addBar : Cond.instanceMethod y_L_addBar.1 ∈ sx_T := tw_395
theorem se_L_addBar : Cond.selects y_L_addBar.1.cls y_L_addBar.1 y_L_addBar.1 ∈ sx_T := tw_396
theorem cd_L_addCrew : sx_cd y_L_addCrew 1 := ⟨tw_346, tw_2, ⟨by decide +kernel, by decide +kernel, by decide +kernel⟩, by decide⟩
theorem im_L_addCrew : Cond.instanceMethod y_L_addCrew.1 ∈ sx_T := tw_344
theorem se_L_addCrew : Cond.selects y_L_addCrew.1.cls y_L_addCrew.1 y_L_addCrew.1 ∈ sx_T := tw_345
theorem cd_L_addWork : sx_cd y_L_addWork 5 := ⟨tw_358, tw_2, ⟨by decide +kernel, by decide +kernel, by decide +kernel⟩, by decide⟩
theorem im_L_addWork : Cond.instanceMethod y_L_addWork.1 ∈ sx_T := tw_356
theorem se_L_addWork : Cond.selects y_L_addWork.1.cls y_L_addWork.1 y_L_addWork.1 ∈ sx_T := tw_357
theorem cd_L_daysOfCrew : sx_cd y_L_daysOfCrew 1 := ⟨tw_613, tw_2, ⟨by decide +kernel, by decide +kernel, by decide +kernel⟩, by decide⟩
theorem im_L_daysOfCrew : Cond.instanceMethod y_L_daysOfCrew.1 ∈ sx_T := tw_611
theorem se_L_daysOfCrew : Cond.selects y_L_daysOfCrew.1.cls y_L_daysOfCrew.1 y_L_daysOfCrew.1 ∈ sx_T := tw_612
theorem cd_L_endOf : sx_cd y_L_endOf 2 := ⟨tw_514, tw_2, ⟨by decide +kernel, by decide +kernel, by decide +kernel⟩, by decide⟩
theorem im_L_endOf : Cond.instanceMethod y_L_endOf.1 ∈ sx_T := tw_512
theorem se_L_endOf : Cond.selects y_L_endOf.1.cls y_L_endOf.1 y_L_endOf.1 ∈ sx_T := tw_513
theorem cd_L_firstShared : sx_cd y_L_firstShared 2 := ⟨tw_485, tw_2, ⟨by decide +kernel, by decide +kernel, by decide +kernel⟩, by decide⟩
theorem im_L_firstShared : Cond.instanceMethod y_L_firstShared.1 ∈ sx_T := tw_483
theorem se_L_firstShared : Cond.selects y_L_firstShared.1.cls y_L_firstShared.1 y_L_firstShared.1 ∈ sx_T := tw_484
theorem cd_L_frozenWorks : sx_cd y_L_frozenWorks 0 := ⟨tw_638, tw_2, ⟨by decide +kernel, by decide +kernel, by decide +kernel⟩, by decide⟩
theorem im_L_frozenWorks : Cond.instanceMethod y_L_frozenWorks.1 ∈ sx_T := tw_636
theorem se_L_frozenWorks : Cond.selects y_L_frozenWorks.1.cls y_L_frozenWorks.1 y_L_frozenWorks.1 ∈ sx_T := tw_637
theorem cd_L_gapBetween : sx_cd y_L_gapBetween 2 := ⟨tw_476, tw_2, ⟨by decide +kernel, by decide +kernel, by decide +kernel⟩, by decide⟩
theorem im_L_gapBetween : Cond.instanceMethod y_L_gapBetween.1 ∈ sx_T := tw_474
theorem se_L_gapBetween : Cond.selects y_L_gapBetween.1.cls y_L_gapBetween.1 y_L_gapBetween.1 ∈ sx_T := tw_475
theorem cd_L_lastShared : sx_cd y_L_lastShared 2 := ⟨tw_480, tw_2, ⟨by decide +kernel, by decide +kernel, by decide +kernel⟩, by decide⟩
theorem im_L_lastShared : Cond.instanceMethod y_L_lastShared.1 ∈ sx_T := tw_478
theorem se_L_lastShared : Cond.selects y_L_lastShared.1.cls y_L_lastShared.1 y_L_lastShared.1 ∈ sx_T := tw_479
theorem cd_L_passTime : sx_cd y_L_passTime 4 := ⟨tw_490, tw_2, ⟨by decide +kernel, by decide +kernel, by decide +kernel⟩, by decide⟩
theorem im_L_passTime : Cond.instanceMethod y_L_passTime.1 ∈ sx_T := tw_488
theorem se_L_passTime : Cond.selects y_L_passTime.1.cls y_L_passTime.1 y_L_passTime.1 ∈ sx_T := tw_489
theorem cd_L_placeOn : sx_cd y_L_placeOn 3 := ⟨tw_586, tw_2, ⟨by decide +kernel, by decide +kernel, by decide +kernel⟩, by decide⟩
theorem im_L_placeOn : Cond.instanceMethod y_L_placeOn.1 ∈ sx_T := tw_584
theorem se_L_placeOn : Cond.selects y_L_placeOn.1.cls y_L_placeOn.1 y_L_placeOn.1 ∈ sx_T := tw_585
theorem cd_L_setGap : sx_cd y_L_setGap 3 := ⟨tw_381, tw_2, ⟨by decide +kernel, by decide +kernel, by decide +kernel⟩, by decide⟩
theorem im_L_setGap : Cond.instanceMethod y_L_setGap.1 ∈ sx_T := tw_379
theorem se_L_setGap : Cond.selects y_L_setGap.1.cls y_L_setGap.1 y_L_setGap.1 ∈ sx_T := tw_380
theorem cd_P_init : sx_cd y_P_init 0 := ⟨tw_198, tw_7, ⟨by decide +kernel, by decide +kernel, by decide +kernel⟩, by decide⟩
theorem im_P_init : Cond.instanceMethod y_P_init.1 ∈ sx_T := tw_197
theorem cd_P_isElsewhere : sx_cd y_P_isElsewhere 3 := ⟨tw_523, tw_7, ⟨by decide +kernel, by decide +kernel, by decide +kernel⟩, by decide⟩
theorem im_P_isElsewhere : Cond.instanceMethod y_P_isElsewhere.1 ∈ sx_T := tw_521
theorem se_P_isElsewhere : Cond.selects y_P_isElsewhere.1.cls y_P_isElsewhere.1 y_P_isElsewhere.1 ∈ sx_T := tw_522
theorem cd_P_put : sx_cd y_P_put 3 := ⟨tw_551, tw_7, ⟨by decide +kernel, by decide +kernel, by decide +kernel⟩, by decide⟩
theorem im_P_put : Cond.instanceMethod y_P_put.1 ∈ sx_T := tw_549
theorem se_P_put : Cond.selects y_P_put.1.cls y_P_put.1 y_P_put.1 ∈ sx_T := tw_550
theorem cd_R_init : sx_cd y_R_init 1 := ⟨tw_169, tw_5, ⟨by decide +kernel, by decide +kernel, by decide +kernel⟩, by decide⟩
theorem im_R_init : Cond.instanceMethod y_R_init.1 ∈ sx_T := tw_168
theorem cd_R_canStandAlone : sx_cd y_R_canStandAlone 1 := ⟨tw_622, tw_5, ⟨by decide +kernel, by decide +kernel, by decide +kernel⟩, by decide⟩
theorem im_R_canStandAlone : Cond.instanceMethod y_R_canStandAlone.1 ∈ sx_T := tw_620
theorem se_R_canStandAlone : Cond.selects y_R_canStandAlone.1.cls y_R_canStandAlone.1 y_R_canStandAlone.1 ∈ sx_T := tw_621
theorem cd_R_firstStart : sx_cd y_R_firstStart 4 := ⟨tw_461, tw_5, ⟨by decide +kernel, by decide +kernel, by decide +kernel⟩, by decide⟩
theorem im_R_firstStart : Cond.instanceMethod y_R_firstStart.1 ∈ sx_T := tw_460
theorem se_R_firstStart : Cond.selects y_R_firstStart.1.cls y_R_firstStart.1 y_R_firstStart.1 ∈ sx_T := ps_5
theorem cd_R_hasRoom : sx_cd y_R_hasRoom 4 := ⟨tw_542, tw_5, ⟨by decide +kernel, by decide +kernel, by decide +kernel⟩, by decide⟩
theorem im_R_hasRoom : Cond.instanceMethod y_R_hasRoom.1 ∈ sx_T := tw_540
theorem se_R_hasRoom : Cond.selects y_R_hasRoom.1.cls y_R_hasRoom.1 y_R_hasRoom.1 ∈ sx_T := tw_541
theorem cd_R_isCrowded : sx_cd y_R_isCrowded 4 := ⟨tw_546, tw_5, ⟨by decide +kernel, by decide +kernel, by decide +kernel⟩, by decide⟩
theorem im_R_isCrowded : Cond.instanceMethod y_R_isCrowded.1 ∈ sx_T := tw_545
theorem se_R_isCrowded : Cond.selects y_R_isCrowded.1.cls y_R_isCrowded.1 y_R_isCrowded.1 ∈ sx_T := ps_12
theorem cd_R_keepGaps : sx_cd y_R_keepGaps 5 := ⟨tw_472, tw_5, ⟨by decide +kernel, by decide +kernel, by decide +kernel⟩, by decide⟩
theorem im_R_keepGaps : Cond.instanceMethod y_R_keepGaps.1 ∈ sx_T := tw_471
theorem se_R_keepGaps : Cond.selects y_R_keepGaps.1.cls y_R_keepGaps.1 y_R_keepGaps.1 ∈ sx_T := ps_6
theorem cd_R_lastStart : sx_cd y_R_lastStart 4 := ⟨tw_501, tw_5, ⟨by decide +kernel, by decide +kernel, by decide +kernel⟩, by decide⟩
theorem im_R_lastStart : Cond.instanceMethod y_R_lastStart.1 ∈ sx_T := tw_500
theorem se_R_lastStart : Cond.selects y_R_lastStart.1.cls y_R_lastStart.1 y_R_lastStart.1 ∈ sx_T := ps_7
theorem cd_R_open : sx_cd y_R_open 5 := ⟨tw_435, tw_5, ⟨by decide +kernel, by decide +kernel, by decide +kernel⟩, by decide⟩
theorem im_R_open : Cond.instanceMethod y_R_open.1 ∈ sx_T := tw_433
theorem se_R_open : Cond.selects y_R_open.1.cls y_R_open.1 y_R_open.1 ∈ sx_T := tw_434
theorem cd_R_openAlone : sx_cd y_R_openAlone 3 := ⟨tw_439, tw_5, ⟨by decide +kernel, by decide +kernel, by decide +kernel⟩, by decide⟩
theorem im_R_openAlone : Cond.instanceMethod y_R_openAlone.1 ∈ sx_T := tw_438
theorem se_R_openAlone : Cond.selects y_R_openAlone.1.cls y_R_openAlone.1 y_R_openAlone.1 ∈ sx_T := ps_4
theorem cd_S_init : sx_cd y_S_init 3 := ⟨tw_219, tw_8, ⟨by decide +kernel, by decide +kernel, by decide +kernel⟩, by decide⟩
theorem im_S_init : Cond.instanceMethod y_S_init.1 ∈ sx_T := tw_218
theorem cd_S_isBetter : sx_cd y_S_isBetter 2 := ⟨tw_528, tw_8, ⟨by decide +kernel, by decide +kernel, by decide +kernel⟩, by decide⟩
theorem im_S_isBetter : Cond.instanceMethod y_S_isBetter.1 ∈ sx_T := tw_527
theorem se_S_isBetter : Cond.selects y_S_isBetter.1.cls y_S_isBetter.1 y_S_isBetter.1 ∈ sx_T := ps_10
theorem cd_S_isMove : sx_cd y_S_isMove 3 := ⟨tw_519, tw_8, ⟨by decide +kernel, by decide +kernel, by decide +kernel⟩, by decide⟩
theorem im_S_isMove : Cond.instanceMethod y_S_isMove.1 ∈ sx_T := tw_518
theorem se_S_isMove : Cond.selects y_S_isMove.1.cls y_S_isMove.1 y_S_isMove.1 ∈ sx_T := ps_9
theorem cd_S_keepAsBest : sx_cd y_S_keepAsBest 1 := ⟨tw_555, tw_8, ⟨by decide +kernel, by decide +kernel, by decide +kernel⟩, by decide⟩
theorem im_S_keepAsBest : Cond.instanceMethod y_S_keepAsBest.1 ∈ sx_T := tw_554
theorem se_S_keepAsBest : Cond.selects y_S_keepAsBest.1.cls y_S_keepAsBest.1 y_S_keepAsBest.1 ∈ sx_T := ps_13
theorem cd_S_keepsRules : sx_cd y_S_keepsRules 3 := ⟨tw_532, tw_8, ⟨by decide +kernel, by decide +kernel, by decide +kernel⟩, by decide⟩
theorem im_S_keepsRules : Cond.instanceMethod y_S_keepsRules.1 ∈ sx_T := tw_531
theorem se_S_keepsRules : Cond.selects y_S_keepsRules.1.cls y_S_keepsRules.1 y_S_keepsRules.1 ∈ sx_T := ps_11
theorem cd_S_seek : sx_cd y_S_seek 2 := ⟨tw_427, tw_8, ⟨by decide +kernel, by decide +kernel, by decide +kernel⟩, by decide⟩
theorem im_S_seek : Cond.instanceMethod y_S_seek.1 ∈ sx_T := tw_425
theorem se_S_seek : Cond.selects y_S_seek.1.cls y_S_seek.1 y_S_seek.1 ∈ sx_T := tw_426
theorem cd_S_tryOne : sx_cd y_S_tryOne 3 := ⟨tw_510, tw_8, ⟨by decide +kernel, by decide +kernel, by decide +kernel⟩, by decide⟩
theorem im_S_tryOne : Cond.instanceMethod y_S_tryOne.1 ∈ sx_T := tw_509
theorem se_S_tryOne : Cond.selects y_S_tryOne.1.cls y_S_tryOne.1 y_S_tryOne.1 ∈ sx_T := ps_8
theorem cd_S_tryStarts : sx_cd y_S_tryStarts 1 := ⟨tw_431, tw_8, ⟨by decide +kernel, by decide +kernel, by decide +kernel⟩, by decide⟩
theorem im_S_tryStarts : Cond.instanceMethod y_S_tryStarts.1 ∈ sx_T := tw_430
theorem se_S_tryStarts : Cond.selects y_S_tryStarts.1.cls y_S_tryStarts.1 y_S_tryStarts.1 ∈ sx_T := ps_3
theorem cd_H_init : sx_cd y_H_init 2 := ⟨tw_284, tw_9, ⟨by decide +kernel, by decide +kernel, by decide +kernel⟩, by decide⟩
theorem im_H_init : Cond.instanceMethod y_H_init.1 ∈ sx_T := tw_283
theorem cd_H_begin : sx_cd y_H_begin 1 := ⟨tw_666, tw_9, ⟨by decide +kernel, by decide +kernel, by decide +kernel⟩, by decide⟩
theorem im_H_begin : Cond.instanceMethod y_H_begin.1 ∈ sx_T := tw_664
theorem se_H_begin : Cond.selects y_H_begin.1.cls y_H_begin.1 y_H_begin.1 ∈ sx_T := tw_665
theorem cd_H_drawEnd : sx_cd y_H_drawEnd 1 := ⟨tw_670, tw_9, ⟨by decide +kernel, by decide +kernel, by decide +kernel⟩, by decide⟩
theorem im_H_drawEnd : Cond.instanceMethod y_H_drawEnd.1 ∈ sx_T := tw_668
theorem se_H_drawEnd : Cond.selects y_H_drawEnd.1.cls y_H_drawEnd.1 y_H_drawEnd.1 ∈ sx_T := tw_669
theorem cd_H_drawWet : sx_cd y_H_drawWet 1 := ⟨tw_674, tw_9, ⟨by decide +kernel, by decide +kernel, by decide +kernel⟩, by decide⟩
theorem im_H_drawWet : Cond.instanceMethod y_H_drawWet.1 ∈ sx_T := tw_673
theorem se_H_drawWet : Cond.selects y_H_drawWet.1.cls y_H_drawWet.1 y_H_drawWet.1 ∈ sx_T := ps_17
theorem cd_H_goOn : sx_cd y_H_goOn 1 := ⟨tw_682, tw_9, ⟨by decide +kernel, by decide +kernel, by decide +kernel⟩, by decide⟩
theorem im_H_goOn : Cond.instanceMethod y_H_goOn.1 ∈ sx_T := tw_681
theorem se_H_goOn : Cond.selects y_H_goOn.1.cls y_H_goOn.1 y_H_goOn.1 ∈ sx_T := ps_18
theorem cd_W_init : sx_cd y_W_init 0 := ⟨tw_175, tw_6, ⟨by decide +kernel, by decide +kernel, by decide +kernel⟩, by decide⟩
theorem im_W_init : Cond.instanceMethod y_W_init.1 ∈ sx_T := tw_174
theorem cd_W_holds : sx_cd y_W_holds 1 := ⟨tw_538, tw_6, ⟨by decide +kernel, by decide +kernel, by decide +kernel⟩, by decide⟩
theorem im_W_holds : Cond.instanceMethod y_W_holds.1 ∈ sx_T := tw_536
theorem se_W_holds : Cond.selects y_W_holds.1.cls y_W_holds.1 y_W_holds.1 ∈ sx_T := tw_537
theorem cd_W_isEmpty : sx_cd y_W_isEmpty 0 := ⟨tw_626, tw_6, ⟨by decide +kernel, by decide +kernel, by decide +kernel⟩, by decide⟩
theorem im_W_isEmpty : Cond.instanceMethod y_W_isEmpty.1 ∈ sx_T := tw_624
theorem se_W_isEmpty : Cond.selects y_W_isEmpty.1.cls y_W_isEmpty.1 y_W_isEmpty.1 ∈ sx_T := tw_625
theorem cd_W_lowerGreatest : sx_cd y_W_lowerGreatest 1 := ⟨tw_505, tw_6, ⟨by decide +kernel, by decide +kernel, by decide +kernel⟩, by decide⟩
theorem im_W_lowerGreatest : Cond.instanceMethod y_W_lowerGreatest.1 ∈ sx_T := tw_503
theorem se_W_lowerGreatest : Cond.selects y_W_lowerGreatest.1.cls y_W_lowerGreatest.1 y_W_lowerGreatest.1 ∈ sx_T := tw_504
theorem cd_W_raiseLeast : sx_cd y_W_raiseLeast 1 := ⟨tw_452, tw_6, ⟨by decide +kernel, by decide +kernel, by decide +kernel⟩, by decide⟩
theorem im_W_raiseLeast : Cond.instanceMethod y_W_raiseLeast.1 ∈ sx_T := tw_450
theorem se_W_raiseLeast : Cond.selects y_W_raiseLeast.1.cls y_W_raiseLeast.1 y_W_raiseLeast.1 ∈ sx_T := tw_451
theorem cd_W_set : sx_cd y_W_set 2 := ⟨tw_448, tw_6, ⟨by decide +kernel, by decide +kernel, by decide +kernel⟩, by decide⟩
theorem im_W_set : Cond.instanceMethod y_W_set.1 ∈ sx_T := tw_446
theorem se_W_set : Cond.selects y_W_set.1.cls y_W_set.1 y_W_set.1 ∈ sx_T := tw_447
theorem cd_K_init : sx_cd y_K_init 0 := ⟨tw_57, tw_4, ⟨by decide +kernel, by decide +kernel, by decide +kernel⟩, by decide⟩
theorem im_K_init : Cond.instanceMethod y_K_init.1 ∈ sx_T := tw_56
theorem cd_K_comesTo : sx_cd y_K_comesTo 1 := ⟨tw_393, tw_4, ⟨by decide +kernel, by decide +kernel, by decide +kernel⟩, by decide⟩
theorem im_K_comesTo : Cond.instanceMethod y_K_comesTo.1 ∈ sx_T := tw_391
theorem se_K_comesTo : Cond.selects y_K_comesTo.1.cls y_K_comesTo.1 y_K_comesTo.1 ∈ sx_T := tw_392
theorem cd_K_setSpeed : sx_cd y_K_setSpeed 1 := ⟨tw_363, tw_4, ⟨by decide +kernel, by decide +kernel, by decide +kernel⟩, by decide⟩
theorem im_K_setSpeed : Cond.instanceMethod y_K_setSpeed.1 ∈ sx_T := tw_361
theorem se_K_setSpeed : Cond.selects y_K_setSpeed.1.cls y_K_setSpeed.1 y_K_setSpeed.1 ∈ sx_T := tw_362
theorem cd_K_wayTo : sx_cd y_K_wayTo 2 := ⟨tw_457, tw_4, ⟨by decide +kernel, by decide +kernel, by decide +kernel⟩, by decide⟩
theorem im_K_wayTo : Cond.instanceMethod y_K_wayTo.1 ∈ sx_T := tw_455
theorem se_K_wayTo : Cond.selects y_K_wayTo.1.cls y_K_wayTo.1 y_K_wayTo.1 ∈ sx_T := tw_456
theorem cd_K_wholeDays : sx_cd y_K_wholeDays 2 := ⟨tw_465, tw_4, ⟨by decide +kernel, by decide +kernel, by decide +kernel⟩, by decide⟩
theorem im_K_wholeDays : Cond.instanceMethod y_K_wholeDays.1 ∈ sx_T := tw_463
theorem se_K_wholeDays : Cond.selects y_K_wholeDays.1.cls y_K_wholeDays.1 y_K_wholeDays.1 ∈ sx_T := tw_464
theorem cd_M_init : sx_cd y_M_init 0 := ⟨tw_692, tw_10, ⟨by decide +kernel, by decide +kernel, by decide +kernel⟩, by decide⟩
theorem im_M_init : Cond.instanceMethod y_M_init.1 ∈ sx_T := tw_691
theorem cd_M_after : sx_cd y_M_after 3 := ⟨tw_827, tw_10, ⟨by decide +kernel, by decide +kernel, by decide +kernel⟩, by decide⟩
theorem im_M_after : Cond.instanceMethod y_M_after.1 ∈ sx_T := tw_825
theorem se_M_after : Cond.selects y_M_after.1.cls y_M_after.1 y_M_after.1 ∈ sx_T := tw_826
theorem cd_M_at : sx_cd y_M_at 2 := ⟨tw_939, tw_10, ⟨by decide +kernel, by decide +kernel, by decide +kernel⟩, by decide⟩
theorem im_M_at : Cond.instanceMethod y_M_at.1 ∈ sx_T := tw_937
theorem se_M_at : Cond.selects y_M_at.1.cls y_M_at.1 y_M_at.1 ∈ sx_T := tw_938
theorem cd_M_bar : sx_cd y_M_bar 3 := ⟨tw_839, tw_10, ⟨by decide +kernel, by decide +kernel, by decide +kernel⟩, by decide⟩
theorem im_M_bar : Cond.instanceMethod y_M_bar.1 ∈ sx_T := tw_837
theorem se_M_bar : Cond.selects y_M_bar.1.cls y_M_bar.1 y_M_bar.1 ∈ sx_T := tw_838
theorem cd_M_bound : sx_cd y_M_bound 0 := ⟨tw_958, tw_10, ⟨by decide +kernel, by decide +kernel, by decide +kernel⟩, by decide⟩
theorem im_M_bound : Cond.instanceMethod y_M_bound.1 ∈ sx_T := tw_956
theorem se_M_bound : Cond.selects y_M_bound.1.cls y_M_bound.1 y_M_bound.1 ∈ sx_T := tw_957
theorem cd_M_changed : sx_cd y_M_changed 0 := ⟨tw_819, tw_10, ⟨by decide +kernel, by decide +kernel, by decide +kernel⟩, by decide⟩
theorem im_M_changed : Cond.instanceMethod y_M_changed.1 ∈ sx_T := tw_818
theorem se_M_changed : Cond.selects y_M_changed.1.cls y_M_changed.1 y_M_changed.1 ∈ sx_T := ps_19
theorem cd_M_comesAfter : sx_cd y_M_comesAfter 4 := ⟨tw_895, tw_10, ⟨by decide +kernel, by decide +kernel, by decide +kernel⟩, by decide⟩
theorem im_M_comesAfter : Cond.instanceMethod y_M_comesAfter.1 ∈ sx_T := tw_894
theorem se_M_comesAfter : Cond.selects y_M_comesAfter.1.cls y_M_comesAfter.1 y_M_comesAfter.1 ∈ sx_T := ps_30
theorem cd_M_common : sx_cd y_M_common 2 := ⟨tw_946, tw_10, ⟨by decide +kernel, by decide +kernel, by decide +kernel⟩, by decide⟩
theorem st_M_common : Cond.static y_M_common.1 ∈ sx_T := tw_945
theorem cd_M_count : sx_cd y_M_count 1 := ⟨tw_1001, tw_10, ⟨by decide +kernel, by decide +kernel, by decide +kernel⟩, by decide⟩
theorem im_M_count : Cond.instanceMethod y_M_count.1 ∈ sx_T := tw_999
theorem se_M_count : Cond.selects y_M_count.1.cls y_M_count.1 y_M_count.1 ∈ sx_T := tw_1000
theorem cd_M_crew : sx_cd y_M_crew 1 := ⟨tw_812, tw_10, ⟨by decide +kernel, by decide +kernel, by decide +kernel⟩, by decide⟩
theorem im_M_crew : Cond.instanceMethod y_M_crew.1 ∈ sx_T := tw_810
theorem se_M_crew : Cond.selects y_M_crew.1.cls y_M_crew.1 y_M_crew.1 ∈ sx_T := tw_811
theorem cd_M_crosses : sx_cd y_M_crosses 2 := ⟨tw_950, tw_10, ⟨by decide +kernel, by decide +kernel, by decide +kernel⟩, by decide⟩
theorem im_M_crosses : Cond.instanceMethod y_M_crosses.1 ∈ sx_T := tw_948
theorem se_M_crosses : Cond.selects y_M_crosses.1.cls y_M_crosses.1 y_M_crosses.1 ∈ sx_T := tw_949
theorem cd_M_daysOf : sx_cd y_M_daysOf 1 := ⟨tw_962, tw_10, ⟨by decide +kernel, by decide +kernel, by decide +kernel⟩, by decide⟩
theorem im_M_daysOf : Cond.instanceMethod y_M_daysOf.1 ∈ sx_T := tw_961
theorem se_M_daysOf : Cond.selects y_M_daysOf.1.cls y_M_daysOf.1 y_M_daysOf.1 ∈ sx_T := ps_37
theorem cd_M_freeze : sx_cd y_M_freeze 1 := ⟨tw_978, tw_10, ⟨by decide +kernel, by decide +kernel, by decide +kernel⟩, by decide⟩
theorem im_M_freeze : Cond.instanceMethod y_M_freeze.1 ∈ sx_T := tw_976
theorem se_M_freeze : Cond.selects y_M_freeze.1.cls y_M_freeze.1 y_M_freeze.1 ∈ sx_T := tw_977
theorem cd_M_goesOn : sx_cd y_M_goesOn 3 := ⟨tw_867, tw_10, ⟨by decide +kernel, by decide +kernel, by decide +kernel⟩, by decide⟩
theorem im_M_goesOn : Cond.instanceMethod y_M_goesOn.1 ∈ sx_T := tw_866
theorem se_M_goesOn : Cond.selects y_M_goesOn.1.cls y_M_goesOn.1 y_M_goesOn.1 ∈ sx_T := ps_23
theorem cd_M_goesWith : sx_cd y_M_goesWith 4 := ⟨tw_891, tw_10, ⟨by decide +kernel, by decide +kernel, by decide +kernel⟩, by decide⟩
theorem im_M_goesWith : Cond.instanceMethod y_M_goesWith.1 ∈ sx_T := tw_890
theorem se_M_goesWith : Cond.selects y_M_goesWith.1.cls y_M_goesWith.1 y_M_goesWith.1 ∈ sx_T := ps_29
theorem cd_M_greatestEnd : sx_cd y_M_greatestEnd 1 := ⟨tw_907, tw_10, ⟨by decide +kernel, by decide +kernel, by decide +kernel⟩, by decide⟩
theorem im_M_greatestEnd : Cond.instanceMethod y_M_greatestEnd.1 ∈ sx_T := tw_906
theorem se_M_greatestEnd : Cond.selects y_M_greatestEnd.1.cls y_M_greatestEnd.1 y_M_greatestEnd.1 ∈ sx_T := ps_33
theorem cd_M_isBetter : sx_cd y_M_isBetter 2 := ⟨tw_903, tw_10, ⟨by decide +kernel, by decide +kernel, by decide +kernel⟩, by decide⟩
theorem im_M_isBetter : Cond.instanceMethod y_M_isBetter.1 ∈ sx_T := tw_902
theorem se_M_isBetter : Cond.selects y_M_isBetter.1.cls y_M_isBetter.1 y_M_isBetter.1 ∈ sx_T := ps_32
theorem cd_M_isLone : sx_cd y_M_isLone 1 := ⟨tw_970, tw_10, ⟨by decide +kernel, by decide +kernel, by decide +kernel⟩, by decide⟩
theorem im_M_isLone : Cond.instanceMethod y_M_isLone.1 ∈ sx_T := tw_969
theorem se_M_isLone : Cond.selects y_M_isLone.1.cls y_M_isLone.1 y_M_isLone.1 ∈ sx_T := ps_38
theorem cd_M_isRest : sx_cd y_M_isRest 1 := ⟨tw_871, tw_10, ⟨by decide +kernel, by decide +kernel, by decide +kernel⟩, by decide⟩
theorem im_M_isRest : Cond.instanceMethod y_M_isRest.1 ∈ sx_T := tw_870
theorem se_M_isRest : Cond.selects y_M_isRest.1.cls y_M_isRest.1 y_M_isRest.1 ∈ sx_T := ps_24
theorem cd_M_isUnder : sx_cd y_M_isUnder 2 := ⟨tw_899, tw_10, ⟨by decide +kernel, by decide +kernel, by decide +kernel⟩, by decide⟩
theorem im_M_isUnder : Cond.instanceMethod y_M_isUnder.1 ∈ sx_T := tw_898
theorem se_M_isUnder : Cond.selects y_M_isUnder.1.cls y_M_isUnder.1 y_M_isUnder.1 ∈ sx_T := ps_31
theorem cd_M_isWork : sx_cd y_M_isWork 1 := ⟨tw_831, tw_10, ⟨by decide +kernel, by decide +kernel, by decide +kernel⟩, by decide⟩
theorem im_M_isWork : Cond.instanceMethod y_M_isWork.1 ∈ sx_T := tw_830
theorem se_M_isWork : Cond.selects y_M_isWork.1.cls y_M_isWork.1 y_M_isWork.1 ∈ sx_T := ps_20
theorem cd_M_keepsAll : sx_cd y_M_keepsAll 3 := ⟨tw_883, tw_10, ⟨by decide +kernel, by decide +kernel, by decide +kernel⟩, by decide⟩
theorem im_M_keepsAll : Cond.instanceMethod y_M_keepsAll.1 ∈ sx_T := tw_882
theorem se_M_keepsAll : Cond.selects y_M_keepsAll.1.cls y_M_keepsAll.1 y_M_keepsAll.1 ∈ sx_T := ps_27
theorem cd_M_keepsOwn : sx_cd y_M_keepsOwn 2 := ⟨tw_887, tw_10, ⟨by decide +kernel, by decide +kernel, by decide +kernel⟩, by decide⟩
theorem im_M_keepsOwn : Cond.instanceMethod y_M_keepsOwn.1 ∈ sx_T := tw_886
theorem se_M_keepsOwn : Cond.selects y_M_keepsOwn.1.cls y_M_keepsOwn.1 y_M_keepsOwn.1 ∈ sx_T := ps_28
theorem cd_M_late : sx_cd y_M_late 2 := ⟨tw_974, tw_10, ⟨by decide +kernel, by decide +kernel, by decide +kernel⟩, by decide⟩
theorem im_M_late : Cond.instanceMethod y_M_late.1 ∈ sx_T := tw_972
theorem se_M_late : Cond.selects y_M_late.1.cls y_M_late.1 y_M_late.1 ∈ sx_T := tw_973
theorem cd_M_lay : sx_cd y_M_lay 4 := ⟨tw_875, tw_10, ⟨by decide +kernel, by decide +kernel, by decide +kernel⟩, by decide⟩
theorem im_M_lay : Cond.instanceMethod y_M_lay.1 ∈ sx_T := tw_874
theorem se_M_lay : Cond.selects y_M_lay.1.cls y_M_lay.1 y_M_lay.1 ∈ sx_T := ps_25
theorem cd_M_layPlan : sx_cd y_M_layPlan 0 := ⟨tw_935, tw_10, ⟨by decide +kernel, by decide +kernel, by decide +kernel⟩, by decide⟩
theorem im_M_layPlan : Cond.instanceMethod y_M_layPlan.1 ∈ sx_T := tw_934
theorem se_M_layPlan : Cond.selects y_M_layPlan.1.cls y_M_layPlan.1 y_M_layPlan.1 ∈ sx_T := ps_36
theorem cd_M_learned : sx_cd y_M_learned 3 := ⟨tw_851, tw_10, ⟨by decide +kernel, by decide +kernel, by decide +kernel⟩, by decide⟩
theorem im_M_learned : Cond.instanceMethod y_M_learned.1 ∈ sx_T := tw_849
theorem se_M_learned : Cond.selects y_M_learned.1.cls y_M_learned.1 y_M_learned.1 ∈ sx_T := tw_850
theorem cd_M_lone : sx_cd y_M_lone 1 := ⟨tw_966, tw_10, ⟨by decide +kernel, by decide +kernel, by decide +kernel⟩, by decide⟩
theorem im_M_lone : Cond.instanceMethod y_M_lone.1 ∈ sx_T := tw_964
theorem se_M_lone : Cond.selects y_M_lone.1.cls y_M_lone.1 y_M_lone.1 ∈ sx_T := tw_965
theorem cd_M_most : sx_cd y_M_most 2 := ⟨tw_847, tw_10, ⟨by decide +kernel, by decide +kernel, by decide +kernel⟩, by decide⟩
theorem im_M_most : Cond.instanceMethod y_M_most.1 ∈ sx_T := tw_845
theorem se_M_most : Cond.selects y_M_most.1.cls y_M_most.1 y_M_most.1 ∈ sx_T := tw_846
theorem cd_M_moved : sx_cd y_M_moved 1 := ⟨tw_982, tw_10, ⟨by decide +kernel, by decide +kernel, by decide +kernel⟩, by decide⟩
theorem im_M_moved : Cond.instanceMethod y_M_moved.1 ∈ sx_T := tw_980
theorem se_M_moved : Cond.selects y_M_moved.1.cls y_M_moved.1 y_M_moved.1 ∈ sx_T := tw_981
theorem cd_M_movedSoFar : sx_cd y_M_movedSoFar 1 := ⟨tw_911, tw_10, ⟨by decide +kernel, by decide +kernel, by decide +kernel⟩, by decide⟩
theorem im_M_movedSoFar : Cond.instanceMethod y_M_movedSoFar.1 ∈ sx_T := tw_910
theorem se_M_movedSoFar : Cond.selects y_M_movedSoFar.1.cls y_M_movedSoFar.1 y_M_movedSoFar.1 ∈ sx_T := ps_34
theorem cd_M_nextDay : sx_cd y_M_nextDay 1 := ⟨tw_879, tw_10, ⟨by decide +kernel, by decide +kernel, by decide +kernel⟩, by decide⟩
theorem im_M_nextDay : Cond.instanceMethod y_M_nextDay.1 ∈ sx_T := tw_878
theorem se_M_nextDay : Cond.selects y_M_nextDay.1.cls y_M_nextDay.1 y_M_nextDay.1 ∈ sx_T := ps_26
theorem cd_M_odds : sx_cd y_M_odds 4 := ⟨tw_990, tw_10, ⟨by decide +kernel, by decide +kernel, by decide +kernel⟩, by decide⟩
theorem im_M_odds : Cond.instanceMethod y_M_odds.1 ∈ sx_T := tw_988
theorem se_M_odds : Cond.selects y_M_odds.1.cls y_M_odds.1 y_M_odds.1 ∈ sx_T := tw_989
theorem cd_M_passes : sx_cd y_M_passes 4 := ⟨tw_943, tw_10, ⟨by decide +kernel, by decide +kernel, by decide +kernel⟩, by decide⟩
theorem im_M_passes : Cond.instanceMethod y_M_passes.1 ∈ sx_T := tw_941
theorem se_M_passes : Cond.selects y_M_passes.1.cls y_M_passes.1 y_M_passes.1 ∈ sx_T := tw_942
theorem cd_M_proved : sx_cd y_M_proved 0 := ⟨tw_923, tw_10, ⟨by decide +kernel, by decide +kernel, by decide +kernel⟩, by decide⟩
theorem im_M_proved : Cond.instanceMethod y_M_proved.1 ∈ sx_T := tw_921
theorem se_M_proved : Cond.selects y_M_proved.1.cls y_M_proved.1 y_M_proved.1 ∈ sx_T := tw_922
theorem cd_M_replan : sx_cd y_M_replan 1 := ⟨tw_919, tw_10, ⟨by decide +kernel, by decide +kernel, by decide +kernel⟩, by decide⟩
theorem im_M_replan : Cond.instanceMethod y_M_replan.1 ∈ sx_T := tw_917
theorem se_M_replan : Cond.selects y_M_replan.1.cls y_M_replan.1 y_M_replan.1 ∈ sx_T := tw_918
theorem cd_M_rest : sx_cd y_M_rest 1 := ⟨tw_843, tw_10, ⟨by decide +kernel, by decide +kernel, by decide +kernel⟩, by decide⟩
theorem im_M_rest : Cond.instanceMethod y_M_rest.1 ∈ sx_T := tw_841
theorem se_M_rest : Cond.selects y_M_rest.1.cls y_M_rest.1 y_M_rest.1 ∈ sx_T := tw_842
theorem cd_M_run : sx_cd y_M_run 1 := ⟨tw_855, tw_10, ⟨by decide +kernel, by decide +kernel, by decide +kernel⟩, by decide⟩
theorem im_M_run : Cond.instanceMethod y_M_run.1 ∈ sx_T := tw_853
theorem se_M_run : Cond.selects y_M_run.1.cls y_M_run.1 y_M_run.1 ∈ sx_T := tw_854
theorem cd_M_search : sx_cd y_M_search 2 := ⟨tw_859, tw_10, ⟨by decide +kernel, by decide +kernel, by decide +kernel⟩, by decide⟩
theorem im_M_search : Cond.instanceMethod y_M_search.1 ∈ sx_T := tw_858
theorem se_M_search : Cond.selects y_M_search.1.cls y_M_search.1 y_M_search.1 ∈ sx_T := ps_21
theorem cd_M_season : sx_cd y_M_season 3 := ⟨tw_835, tw_10, ⟨by decide +kernel, by decide +kernel, by decide +kernel⟩, by decide⟩
theorem im_M_season : Cond.instanceMethod y_M_season.1 ∈ sx_T := tw_833
theorem se_M_season : Cond.selects y_M_season.1.cls y_M_season.1 y_M_season.1 ∈ sx_T := tw_834
theorem cd_M_slack : sx_cd y_M_slack 1 := ⟨tw_986, tw_10, ⟨by decide +kernel, by decide +kernel, by decide +kernel⟩, by decide⟩
theorem im_M_slack : Cond.instanceMethod y_M_slack.1 ∈ sx_T := tw_984
theorem se_M_slack : Cond.selects y_M_slack.1.cls y_M_slack.1 y_M_slack.1 ∈ sx_T := tw_985
theorem cd_M_take : sx_cd y_M_take 1 := ⟨tw_915, tw_10, ⟨by decide +kernel, by decide +kernel, by decide +kernel⟩, by decide⟩
theorem im_M_take : Cond.instanceMethod y_M_take.1 ∈ sx_T := tw_914
theorem se_M_take : Cond.selects y_M_take.1.cls y_M_take.1 y_M_take.1 ∈ sx_T := ps_35
theorem cd_M_told : sx_cd y_M_told 2 := ⟨tw_931, tw_10, ⟨by decide +kernel, by decide +kernel, by decide +kernel⟩, by decide⟩
theorem im_M_told : Cond.instanceMethod y_M_told.1 ∈ sx_T := tw_929
theorem se_M_told : Cond.selects y_M_told.1.cls y_M_told.1 y_M_told.1 ∈ sx_T := tw_930
theorem cd_M_tried : sx_cd y_M_tried 0 := ⟨tw_927, tw_10, ⟨by decide +kernel, by decide +kernel, by decide +kernel⟩, by decide⟩
theorem im_M_tried : Cond.instanceMethod y_M_tried.1 ∈ sx_T := tw_925
theorem se_M_tried : Cond.selects y_M_tried.1.cls y_M_tried.1 y_M_tried.1 ∈ sx_T := tw_926
theorem cd_M_triesOf : sx_cd y_M_triesOf 1 := ⟨tw_863, tw_10, ⟨by decide +kernel, by decide +kernel, by decide +kernel⟩, by decide⟩
theorem im_M_triesOf : Cond.instanceMethod y_M_triesOf.1 ∈ sx_T := tw_862
theorem se_M_triesOf : Cond.selects y_M_triesOf.1.cls y_M_triesOf.1 y_M_triesOf.1 ∈ sx_T := ps_22
theorem cd_M_under : sx_cd y_M_under 2 := ⟨tw_954, tw_10, ⟨by decide +kernel, by decide +kernel, by decide +kernel⟩, by decide⟩
theorem im_M_under : Cond.instanceMethod y_M_under.1 ∈ sx_T := tw_952
theorem se_M_under : Cond.selects y_M_under.1.cls y_M_under.1 y_M_under.1 ∈ sx_T := tw_953
theorem cd_M_wetEnd : sx_cd y_M_wetEnd 1 := ⟨tw_997, tw_10, ⟨by decide +kernel, by decide +kernel, by decide +kernel⟩, by decide⟩
theorem im_M_wetEnd : Cond.instanceMethod y_M_wetEnd.1 ∈ sx_T := tw_996
theorem se_M_wetEnd : Cond.selects y_M_wetEnd.1.cls y_M_wetEnd.1 y_M_wetEnd.1 ∈ sx_T := ps_39
theorem cd_M_within : sx_cd y_M_within 3 := ⟨tw_815, tw_10, ⟨by decide +kernel, by decide +kernel, by decide +kernel⟩, by decide⟩
theorem st_M_within : Cond.static y_M_within.1 ∈ sx_T := tw_814
theorem cd_M_work : sx_cd y_M_work 5 := ⟨tw_823, tw_10, ⟨by decide +kernel, by decide +kernel, by decide +kernel⟩, by decide⟩
theorem im_M_work : Cond.instanceMethod y_M_work.1 ∈ sx_T := tw_821
theorem se_M_work : Cond.selects y_M_work.1.cls y_M_work.1 y_M_work.1 ∈ sx_T := tw_822
theorem cd_J_floorDiv : sx_cd y_J_floorDiv 2 := ⟨tw_468, tw_11, ⟨by decide +kernel, by decide +kernel, by decide +kernel⟩, by decide⟩
theorem st_J_floorDiv : Cond.static y_J_floorDiv.1 ∈ sx_T := tw_467
theorem cd_J_max : sx_cd y_J_max 2 := ⟨tw_369, tw_11, ⟨by decide +kernel, by decide +kernel, by decide +kernel⟩, by decide⟩
theorem st_J_max : Cond.static y_J_max.1 ∈ sx_T := tw_368
theorem cd_J_min : sx_cd y_J_min 2 := ⟨tw_366, tw_11, ⟨by decide +kernel, by decide +kernel, by decide +kernel⟩, by decide⟩
theorem st_J_min : Cond.static y_J_min.1 ∈ sx_T := tw_365
