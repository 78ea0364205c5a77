theorem d_M_init_0 : decode b_M_init 0 = .ok (.aload_n 0, 1) := by decide +kernel
theorem d_M_init_1 : decode b_M_init 1 = .ok (.invokespecial 1, 3) := by decide +kernel
theorem d_M_init_4 : decode b_M_init 4 = .ok (.aload_n 0, 1) := by decide +kernel
theorem d_M_init_5 : decode b_M_init 5 = .ok (.iconst 4, 1) := by decide +kernel
theorem d_M_init_6 : decode b_M_init 6 = .ok (.newarray .int, 2) := by decide +kernel
theorem d_M_init_8 : decode b_M_init 8 = .ok (.putfield 7, 3) := by decide +kernel
theorem d_M_init_11 : decode b_M_init 11 = .ok (.aload_n 0, 1) := by decide +kernel
theorem d_M_init_12 : decode b_M_init 12 = .ok (.bipush 6, 2) := by decide +kernel
theorem d_M_init_14 : decode b_M_init 14 = .ok (.newarray .int, 2) := by decide +kernel
theorem d_M_init_16 : decode b_M_init 16 = .ok (.putfield 13, 3) := by decide +kernel
theorem d_M_init_19 : decode b_M_init 19 = .ok (.aload_n 0, 1) := by decide +kernel
theorem d_M_init_20 : decode b_M_init 20 = .ok (.bipush 6, 2) := by decide +kernel
theorem d_M_init_22 : decode b_M_init 22 = .ok (.newarray .int, 2) := by decide +kernel
theorem d_M_init_24 : decode b_M_init 24 = .ok (.putfield 16, 3) := by decide +kernel
theorem d_M_init_27 : decode b_M_init 27 = .ok (.aload_n 0, 1) := by decide +kernel
theorem d_M_init_28 : decode b_M_init 28 = .ok (.bipush 6, 2) := by decide +kernel
theorem d_M_init_30 : decode b_M_init 30 = .ok (.newarray .int, 2) := by decide +kernel
theorem d_M_init_32 : decode b_M_init 32 = .ok (.putfield 19, 3) := by decide +kernel
theorem d_M_init_35 : decode b_M_init 35 = .ok (.aload_n 0, 1) := by decide +kernel
theorem d_M_init_36 : decode b_M_init 36 = .ok (.bipush 6, 2) := by decide +kernel
theorem d_M_init_38 : decode b_M_init 38 = .ok (.newarray .int, 2) := by decide +kernel
theorem d_M_init_40 : decode b_M_init 40 = .ok (.putfield 22, 3) := by decide +kernel
theorem d_M_init_43 : decode b_M_init 43 = .ok (.aload_n 0, 1) := by decide +kernel
theorem d_M_init_44 : decode b_M_init 44 = .ok (.bipush 6, 2) := by decide +kernel
theorem d_M_init_46 : decode b_M_init 46 = .ok (.newarray .boolean, 2) := by decide +kernel
theorem d_M_init_48 : decode b_M_init 48 = .ok (.putfield 25, 3) := by decide +kernel
theorem d_M_init_51 : decode b_M_init 51 = .ok (.aload_n 0, 1) := by decide +kernel
theorem d_M_init_52 : decode b_M_init 52 = .ok (.bipush 36, 2) := by decide +kernel
theorem d_M_init_54 : decode b_M_init 54 = .ok (.newarray .int, 2) := by decide +kernel
theorem d_M_init_56 : decode b_M_init 56 = .ok (.putfield 29, 3) := by decide +kernel
theorem d_M_init_59 : decode b_M_init 59 = .ok (.aload_n 0, 1) := by decide +kernel
theorem d_M_init_60 : decode b_M_init 60 = .ok (.bipush 6, 2) := by decide +kernel
theorem d_M_init_62 : decode b_M_init 62 = .ok (.newarray .int, 2) := by decide +kernel
theorem d_M_init_64 : decode b_M_init 64 = .ok (.putfield 32, 3) := by decide +kernel
theorem d_M_init_67 : decode b_M_init 67 = .ok (.aload_n 0, 1) := by decide +kernel
theorem d_M_init_68 : decode b_M_init 68 = .ok (.bipush 6, 2) := by decide +kernel
theorem d_M_init_70 : decode b_M_init 70 = .ok (.newarray .int, 2) := by decide +kernel
theorem d_M_init_72 : decode b_M_init 72 = .ok (.putfield 35, 3) := by decide +kernel
theorem d_M_init_75 : decode b_M_init 75 = .ok (.aload_n 0, 1) := by decide +kernel
theorem d_M_init_76 : decode b_M_init 76 = .ok (.bipush 8, 2) := by decide +kernel
theorem d_M_init_78 : decode b_M_init 78 = .ok (.newarray .int, 2) := by decide +kernel
theorem d_M_init_80 : decode b_M_init 80 = .ok (.putfield 38, 3) := by decide +kernel
theorem d_M_init_83 : decode b_M_init 83 = .ok (.aload_n 0, 1) := by decide +kernel
theorem d_M_init_84 : decode b_M_init 84 = .ok (.bipush 8, 2) := by decide +kernel
theorem d_M_init_86 : decode b_M_init 86 = .ok (.newarray .int, 2) := by decide +kernel
theorem d_M_init_88 : decode b_M_init 88 = .ok (.putfield 41, 3) := by decide +kernel
theorem d_M_init_91 : decode b_M_init 91 = .ok (.aload_n 0, 1) := by decide +kernel
theorem d_M_init_92 : decode b_M_init 92 = .ok (.bipush 8, 2) := by decide +kernel
theorem d_M_init_94 : decode b_M_init 94 = .ok (.newarray .int, 2) := by decide +kernel
theorem d_M_init_96 : decode b_M_init 96 = .ok (.putfield 44, 3) := by decide +kernel
theorem d_M_init_99 : decode b_M_init 99 = .ok (.aload_n 0, 1) := by decide +kernel
theorem d_M_init_100 : decode b_M_init 100 = .ok (.sipush 200, 3) := by decide +kernel
theorem d_M_init_103 : decode b_M_init 103 = .ok (.newarray .boolean, 2) := by decide +kernel
theorem d_M_init_105 : decode b_M_init 105 = .ok (.putfield 47, 3) := by decide +kernel
theorem d_M_init_108 : decode b_M_init 108 = .ok (.aload_n 0, 1) := by decide +kernel
theorem d_M_init_109 : decode b_M_init 109 = .ok (.sipush 400, 3) := by decide +kernel
theorem d_M_init_112 : decode b_M_init 112 = .ok (.newarray .boolean, 2) := by decide +kernel
theorem d_M_init_114 : decode b_M_init 114 = .ok (.putfield 50, 3) := by decide +kernel
theorem d_M_init_117 : decode b_M_init 117 = .ok (.aload_n 0, 1) := by decide +kernel
theorem d_M_init_118 : decode b_M_init 118 = .ok (.iconst 4, 1) := by decide +kernel
theorem d_M_init_119 : decode b_M_init 119 = .ok (.newarray .int, 2) := by decide +kernel
theorem d_M_init_121 : decode b_M_init 121 = .ok (.putfield 53, 3) := by decide +kernel
theorem d_M_init_124 : decode b_M_init 124 = .ok (.aload_n 0, 1) := by decide +kernel
theorem d_M_init_125 : decode b_M_init 125 = .ok (.bipush 6, 2) := by decide +kernel
theorem d_M_init_127 : decode b_M_init 127 = .ok (.newarray .int, 2) := by decide +kernel
theorem d_M_init_129 : decode b_M_init 129 = .ok (.putfield 56, 3) := by decide +kernel
theorem d_M_init_132 : decode b_M_init 132 = .ok (.aload_n 0, 1) := by decide +kernel
theorem d_M_init_133 : decode b_M_init 133 = .ok (.bipush 6, 2) := by decide +kernel
theorem d_M_init_135 : decode b_M_init 135 = .ok (.newarray .int, 2) := by decide +kernel
theorem d_M_init_137 : decode b_M_init 137 = .ok (.putfield 59, 3) := by decide +kernel
theorem d_M_init_140 : decode b_M_init 140 = .ok (.aload_n 0, 1) := by decide +kernel
theorem d_M_init_141 : decode b_M_init 141 = .ok (.bipush 6, 2) := by decide +kernel
theorem d_M_init_143 : decode b_M_init 143 = .ok (.newarray .boolean, 2) := by decide +kernel
theorem d_M_init_145 : decode b_M_init 145 = .ok (.putfield 62, 3) := by decide +kernel
theorem d_M_init_148 : decode b_M_init 148 = .ok (.aload_n 0, 1) := by decide +kernel
theorem d_M_init_149 : decode b_M_init 149 = .ok (.bipush 6, 2) := by decide +kernel
theorem d_M_init_151 : decode b_M_init 151 = .ok (.newarray .int, 2) := by decide +kernel
theorem d_M_init_153 : decode b_M_init 153 = .ok (.putfield 65, 3) := by decide +kernel
theorem d_M_init_156 : decode b_M_init 156 = .ok (.aload_n 0, 1) := by decide +kernel
theorem d_M_init_157 : decode b_M_init 157 = .ok (.bipush 6, 2) := by decide +kernel
theorem d_M_init_159 : decode b_M_init 159 = .ok (.newarray .boolean, 2) := by decide +kernel
theorem d_M_init_161 : decode b_M_init 161 = .ok (.putfield 68, 3) := by decide +kernel
theorem d_M_init_164 : decode b_M_init 164 = .ok (.aload_n 0, 1) := by decide +kernel
theorem d_M_init_165 : decode b_M_init 165 = .ok (.bipush 7, 2) := by decide +kernel
theorem d_M_init_167 : decode b_M_init 167 = .ok (.newarray .int, 2) := by decide +kernel
theorem d_M_init_169 : decode b_M_init 169 = .ok (.putfield 71, 3) := by decide +kernel
theorem d_M_init_172 : decode b_M_init 172 = .ok (.aload_n 0, 1) := by decide +kernel
theorem d_M_init_173 : decode b_M_init 173 = .ok (.bipush 7, 2) := by decide +kernel
theorem d_M_init_175 : decode b_M_init 175 = .ok (.newarray .int, 2) := by decide +kernel
theorem d_M_init_177 : decode b_M_init 177 = .ok (.putfield 74, 3) := by decide +kernel
theorem d_M_init_180 : decode b_M_init 180 = .ok (.aload_n 0, 1) := by decide +kernel
theorem d_M_init_181 : decode b_M_init 181 = .ok (.bipush 7, 2) := by decide +kernel
theorem d_M_init_183 : decode b_M_init 183 = .ok (.newarray .int, 2) := by decide +kernel
theorem d_M_init_185 : decode b_M_init 185 = .ok (.putfield 77, 3) := by decide +kernel
theorem d_M_init_188 : decode b_M_init 188 = .ok (.aload_n 0, 1) := by decide +kernel
theorem d_M_init_189 : decode b_M_init 189 = .ok (.sipush 1407, 3) := by decide +kernel
theorem d_M_init_192 : decode b_M_init 192 = .ok (.newarray .int, 2) := by decide +kernel
theorem d_M_init_194 : decode b_M_init 194 = .ok (.putfield 80, 3) := by decide +kernel
theorem d_M_init_197 : decode b_M_init 197 = .ok (.aload_n 0, 1) := by decide +kernel
theorem d_M_init_198 : decode b_M_init 198 = .ok (.sipush 1407, 3) := by decide +kernel
theorem d_M_init_201 : decode b_M_init 201 = .ok (.newarray .int, 2) := by decide +kernel
theorem d_M_init_203 : decode b_M_init 203 = .ok (.putfield 83, 3) := by decide +kernel
theorem d_M_init_206 : decode b_M_init 206 = .ok (.aload_n 0, 1) := by decide +kernel
theorem d_M_init_207 : decode b_M_init 207 = .ok (.bipush 6, 2) := by decide +kernel
theorem d_M_init_209 : decode b_M_init 209 = .ok (.newarray .int, 2) := by decide +kernel
theorem d_M_init_211 : decode b_M_init 211 = .ok (.putfield 86, 3) := by decide +kernel
theorem d_M_init_214 : decode b_M_init 214 = .ok (.aload_n 0, 1) := by decide +kernel
theorem d_M_init_215 : decode b_M_init 215 = .ok (.bipush 6, 2) := by decide +kernel
theorem d_M_init_217 : decode b_M_init 217 = .ok (.newarray .int, 2) := by decide +kernel
theorem d_M_init_219 : decode b_M_init 219 = .ok (.putfield 89, 3) := by decide +kernel
theorem d_M_init_222 : decode b_M_init 222 = .ok (.aload_n 0, 1) := by decide +kernel
theorem d_M_init_223 : decode b_M_init 223 = .ok (.bipush 6, 2) := by decide +kernel
theorem d_M_init_225 : decode b_M_init 225 = .ok (.newarray .int, 2) := by decide +kernel
theorem d_M_init_227 : decode b_M_init 227 = .ok (.putfield 92, 3) := by decide +kernel
theorem d_M_init_230 : decode b_M_init 230 = .ok (.iconst 0, 1) := by decide +kernel
theorem d_M_init_231 : decode b_M_init 231 = .ok (.istore_n 1, 1) := by decide +kernel
theorem d_M_init_232 : decode b_M_init 232 = .ok (.iload_n 1, 1) := by decide +kernel
theorem d_M_init_233 : decode b_M_init 233 = .ok (.iconst 4, 1) := by decide +kernel
theorem d_M_init_234 : decode b_M_init 234 = .ok (.if_icmp .ge 16, 3) := by decide +kernel
theorem d_M_init_237 : decode b_M_init 237 = .ok (.aload_n 0, 1) := by decide +kernel
theorem d_M_init_238 : decode b_M_init 238 = .ok (.getfield 53, 3) := by decide +kernel
theorem d_M_init_241 : decode b_M_init 241 = .ok (.iload_n 1, 1) := by decide +kernel
theorem d_M_init_242 : decode b_M_init 242 = .ok (.iconst 4, 1) := by decide +kernel
theorem d_M_init_243 : decode b_M_init 243 = .ok (.iastore, 1) := by decide +kernel
theorem d_M_init_244 : decode b_M_init 244 = .ok (.iinc 1 1, 3) := by decide +kernel
theorem d_M_init_247 : decode b_M_init 247 = .ok (.goto (-15), 3) := by decide +kernel
theorem d_M_init_250 : decode b_M_init 250 = .ok (.return_, 1) := by decide +kernel
theorem d_M_within_0 : decode b_M_within 0 = .ok (.iload_n 0, 1) := by decide +kernel
theorem d_M_within_1 : decode b_M_within 1 = .ok (.iload_n 1, 1) := by decide +kernel
theorem d_M_within_2 : decode b_M_within 2 = .ok (.if_icmp .lt 12, 3) := by decide +kernel
theorem d_M_within_5 : decode b_M_within 5 = .ok (.iload_n 0, 1) := by decide +kernel
theorem d_M_within_6 : decode b_M_within 6 = .ok (.iload_n 2, 1) := by decide +kernel
theorem d_M_within_7 : decode b_M_within 7 = .ok (.if_icmp .gt 7, 3) := by decide +kernel
theorem d_M_within_10 : decode b_M_within 10 = .ok (.iconst 1, 1) := by decide +kernel
theorem d_M_within_11 : decode b_M_within 11 = .ok (.goto 4, 3) := by decide +kernel
theorem d_M_within_14 : decode b_M_within 14 = .ok (.iconst 0, 1) := by decide +kernel
theorem d_M_within_15 : decode b_M_within 15 = .ok (.ireturn, 1) := by decide +kernel
theorem d_M_isWork_0 : decode b_M_isWork 0 = .ok (.iload_n 1, 1) := by decide +kernel
theorem d_M_isWork_1 : decode b_M_isWork 1 = .ok (.ifCond .lt 15, 3) := by decide +kernel
theorem d_M_isWork_4 : decode b_M_isWork 4 = .ok (.iload_n 1, 1) := by decide +kernel
theorem d_M_isWork_5 : decode b_M_isWork 5 = .ok (.aload_n 0, 1) := by decide +kernel
theorem d_M_isWork_6 : decode b_M_isWork 6 = .ok (.getfield 95, 3) := by decide +kernel
theorem d_M_isWork_9 : decode b_M_isWork 9 = .ok (.if_icmp .ge 7, 3) := by decide +kernel
theorem d_M_isWork_12 : decode b_M_isWork 12 = .ok (.iconst 1, 1) := by decide +kernel
theorem d_M_isWork_13 : decode b_M_isWork 13 = .ok (.goto 4, 3) := by decide +kernel
theorem d_M_isWork_16 : decode b_M_isWork 16 = .ok (.iconst 0, 1) := by decide +kernel
theorem d_M_isWork_17 : decode b_M_isWork 17 = .ok (.ireturn, 1) := by decide +kernel
theorem d_M_changed_0 : decode b_M_changed 0 = .ok (.aload_n 0, 1) := by decide +kernel
theorem d_M_changed_1 : decode b_M_changed 1 = .ok (.iconst 0, 1) := by decide +kernel
theorem d_M_changed_2 : decode b_M_changed 2 = .ok (.putfield 99, 3) := by decide +kernel
theorem d_M_changed_5 : decode b_M_changed 5 = .ok (.iconst 0, 1) := by decide +kernel
theorem d_M_changed_6 : decode b_M_changed 6 = .ok (.istore_n 1, 1) := by decide +kernel
theorem d_M_changed_7 : decode b_M_changed 7 = .ok (.iload_n 1, 1) := by decide +kernel
theorem d_M_changed_8 : decode b_M_changed 8 = .ok (.bipush 6, 2) := by decide +kernel
theorem d_M_changed_10 : decode b_M_changed 10 = .ok (.if_icmp .ge 30, 3) := by decide +kernel
theorem d_M_changed_13 : decode b_M_changed 13 = .ok (.aload_n 0, 1) := by decide +kernel
theorem d_M_changed_14 : decode b_M_changed 14 = .ok (.getfield 62, 3) := by decide +kernel
theorem d_M_changed_17 : decode b_M_changed 17 = .ok (.iload_n 1, 1) := by decide +kernel
theorem d_M_changed_18 : decode b_M_changed 18 = .ok (.iconst 0, 1) := by decide +kernel
theorem d_M_changed_19 : decode b_M_changed 19 = .ok (.bastore, 1) := by decide +kernel
theorem d_M_changed_20 : decode b_M_changed 20 = .ok (.aload_n 0, 1) := by decide +kernel
theorem d_M_changed_21 : decode b_M_changed 21 = .ok (.getfield 65, 3) := by decide +kernel
theorem d_M_changed_24 : decode b_M_changed 24 = .ok (.iload_n 1, 1) := by decide +kernel
theorem d_M_changed_25 : decode b_M_changed 25 = .ok (.iconst 0, 1) := by decide +kernel
theorem d_M_changed_26 : decode b_M_changed 26 = .ok (.iastore, 1) := by decide +kernel
theorem d_M_changed_27 : decode b_M_changed 27 = .ok (.aload_n 0, 1) := by decide +kernel
theorem d_M_changed_28 : decode b_M_changed 28 = .ok (.getfield 68, 3) := by decide +kernel
theorem d_M_changed_31 : decode b_M_changed 31 = .ok (.iload_n 1, 1) := by decide +kernel
theorem d_M_changed_32 : decode b_M_changed 32 = .ok (.iconst 0, 1) := by decide +kernel
theorem d_M_changed_33 : decode b_M_changed 33 = .ok (.bastore, 1) := by decide +kernel
theorem d_M_changed_34 : decode b_M_changed 34 = .ok (.iinc 1 1, 3) := by decide +kernel
theorem d_M_changed_37 : decode b_M_changed 37 = .ok (.goto (-30), 3) := by decide +kernel
theorem d_M_changed_40 : decode b_M_changed 40 = .ok (.return_, 1) := by decide +kernel
theorem d_M_crew_0 : decode b_M_crew 0 = .ok (.iload_n 1, 1) := by decide +kernel
theorem d_M_crew_1 : decode b_M_crew 1 = .ok (.iconst 0, 1) := by decide +kernel
theorem d_M_crew_2 : decode b_M_crew 2 = .ok (.iconst 3, 1) := by decide +kernel
theorem d_M_crew_3 : decode b_M_crew 3 = .ok (.invokestatic 103, 3) := by decide +kernel
theorem d_M_crew_6 : decode b_M_crew 6 = .ok (.ifCond .eq 11, 3) := by decide +kernel
theorem d_M_crew_9 : decode b_M_crew 9 = .ok (.aload_n 0, 1) := by decide +kernel
theorem d_M_crew_10 : decode b_M_crew 10 = .ok (.getfield 107, 3) := by decide +kernel
theorem d_M_crew_13 : decode b_M_crew 13 = .ok (.iconst 4, 1) := by decide +kernel
theorem d_M_crew_14 : decode b_M_crew 14 = .ok (.if_icmp .ne 5, 3) := by decide +kernel
theorem d_M_crew_17 : decode b_M_crew 17 = .ok (.iconst (-1), 1) := by decide +kernel
theorem d_M_crew_18 : decode b_M_crew 18 = .ok (.ireturn, 1) := by decide +kernel
theorem d_M_crew_19 : decode b_M_crew 19 = .ok (.aload_n 0, 1) := by decide +kernel
theorem d_M_crew_20 : decode b_M_crew 20 = .ok (.getfield 7, 3) := by decide +kernel
theorem d_M_crew_23 : decode b_M_crew 23 = .ok (.aload_n 0, 1) := by decide +kernel
theorem d_M_crew_24 : decode b_M_crew 24 = .ok (.getfield 107, 3) := by decide +kernel
theorem d_M_crew_27 : decode b_M_crew 27 = .ok (.iload_n 1, 1) := by decide +kernel
theorem d_M_crew_28 : decode b_M_crew 28 = .ok (.iastore, 1) := by decide +kernel
theorem d_M_crew_29 : decode b_M_crew 29 = .ok (.aload_n 0, 1) := by decide +kernel
theorem d_M_crew_30 : decode b_M_crew 30 = .ok (.dup, 1) := by decide +kernel
theorem d_M_crew_31 : decode b_M_crew 31 = .ok (.getfield 107, 3) := by decide +kernel
theorem d_M_crew_34 : decode b_M_crew 34 = .ok (.iconst 1, 1) := by decide +kernel
theorem d_M_crew_35 : decode b_M_crew 35 = .ok (.iadd, 1) := by decide +kernel
theorem d_M_crew_36 : decode b_M_crew 36 = .ok (.putfield 107, 3) := by decide +kernel
theorem d_M_crew_39 : decode b_M_crew 39 = .ok (.aload_n 0, 1) := by decide +kernel
theorem d_M_crew_40 : decode b_M_crew 40 = .ok (.invokevirtual 110, 3) := by decide +kernel
theorem d_M_crew_43 : decode b_M_crew 43 = .ok (.aload_n 0, 1) := by decide +kernel
theorem d_M_crew_44 : decode b_M_crew 44 = .ok (.getfield 107, 3) := by decide +kernel
theorem d_M_crew_47 : decode b_M_crew 47 = .ok (.iconst 1, 1) := by decide +kernel
theorem d_M_crew_48 : decode b_M_crew 48 = .ok (.isub, 1) := by decide +kernel
theorem d_M_crew_49 : decode b_M_crew 49 = .ok (.ireturn, 1) := by decide +kernel
theorem d_M_work_0 : decode b_M_work 0 = .ok (.iload_n 1, 1) := by decide +kernel
theorem d_M_work_1 : decode b_M_work 1 = .ok (.iconst 0, 1) := by decide +kernel
theorem d_M_work_2 : decode b_M_work 2 = .ok (.aload_n 0, 1) := by decide +kernel
theorem d_M_work_3 : decode b_M_work 3 = .ok (.getfield 107, 3) := by decide +kernel
theorem d_M_work_6 : decode b_M_work 6 = .ok (.iconst 1, 1) := by decide +kernel
theorem d_M_work_7 : decode b_M_work 7 = .ok (.isub, 1) := by decide +kernel
theorem d_M_work_8 : decode b_M_work 8 = .ok (.invokestatic 103, 3) := by decide +kernel
theorem d_M_work_11 : decode b_M_work 11 = .ok (.ifCond .eq 47, 3) := by decide +kernel
theorem d_M_work_14 : decode b_M_work 14 = .ok (.iload_n 2, 1) := by decide +kernel
theorem d_M_work_15 : decode b_M_work 15 = .ok (.iconst 0, 1) := by decide +kernel
theorem d_M_work_16 : decode b_M_work 16 = .ok (.sipush 199, 3) := by decide +kernel
theorem d_M_work_19 : decode b_M_work 19 = .ok (.invokestatic 103, 3) := by decide +kernel
theorem d_M_work_22 : decode b_M_work 22 = .ok (.ifCond .eq 36, 3) := by decide +kernel
theorem d_M_work_25 : decode b_M_work 25 = .ok (.iload_n 3, 1) := by decide +kernel
theorem d_M_work_26 : decode b_M_work 26 = .ok (.iload_n 2, 1) := by decide +kernel
theorem d_M_work_27 : decode b_M_work 27 = .ok (.iconst 1, 1) := by decide +kernel
theorem d_M_work_28 : decode b_M_work 28 = .ok (.iadd, 1) := by decide +kernel
theorem d_M_work_29 : decode b_M_work 29 = .ok (.sipush 200, 3) := by decide +kernel
theorem d_M_work_32 : decode b_M_work 32 = .ok (.invokestatic 103, 3) := by decide +kernel
theorem d_M_work_35 : decode b_M_work 35 = .ok (.ifCond .eq 23, 3) := by decide +kernel
theorem d_M_work_38 : decode b_M_work 38 = .ok (.iload 4, 2) := by decide +kernel
theorem d_M_work_40 : decode b_M_work 40 = .ok (.iconst 1, 1) := by decide +kernel
theorem d_M_work_41 : decode b_M_work 41 = .ok (.bipush 50, 2) := by decide +kernel
theorem d_M_work_43 : decode b_M_work 43 = .ok (.invokestatic 103, 3) := by decide +kernel
theorem d_M_work_46 : decode b_M_work 46 = .ok (.ifCond .eq 12, 3) := by decide +kernel
theorem d_M_work_49 : decode b_M_work 49 = .ok (.aload_n 0, 1) := by decide +kernel
theorem d_M_work_50 : decode b_M_work 50 = .ok (.getfield 95, 3) := by decide +kernel
theorem d_M_work_53 : decode b_M_work 53 = .ok (.bipush 6, 2) := by decide +kernel
theorem d_M_work_55 : decode b_M_work 55 = .ok (.if_icmp .ne 5, 3) := by decide +kernel
theorem d_M_work_58 : decode b_M_work 58 = .ok (.iconst (-1), 1) := by decide +kernel
theorem d_M_work_59 : decode b_M_work 59 = .ok (.ireturn, 1) := by decide +kernel
theorem d_M_work_60 : decode b_M_work 60 = .ok (.aload_n 0, 1) := by decide +kernel
theorem d_M_work_61 : decode b_M_work 61 = .ok (.getfield 13, 3) := by decide +kernel
theorem d_M_work_64 : decode b_M_work 64 = .ok (.aload_n 0, 1) := by decide +kernel
theorem d_M_work_65 : decode b_M_work 65 = .ok (.getfield 95, 3) := by decide +kernel
theorem d_M_work_68 : decode b_M_work 68 = .ok (.iload_n 1, 1) := by decide +kernel
theorem d_M_work_69 : decode b_M_work 69 = .ok (.iastore, 1) := by decide +kernel
theorem d_M_work_70 : decode b_M_work 70 = .ok (.aload_n 0, 1) := by decide +kernel
theorem d_M_work_71 : decode b_M_work 71 = .ok (.getfield 16, 3) := by decide +kernel
theorem d_M_work_74 : decode b_M_work 74 = .ok (.aload_n 0, 1) := by decide +kernel
theorem d_M_work_75 : decode b_M_work 75 = .ok (.getfield 95, 3) := by decide +kernel
theorem d_M_work_78 : decode b_M_work 78 = .ok (.iload_n 2, 1) := by decide +kernel
theorem d_M_work_79 : decode b_M_work 79 = .ok (.iastore, 1) := by decide +kernel
theorem d_M_work_80 : decode b_M_work 80 = .ok (.aload_n 0, 1) := by decide +kernel
theorem d_M_work_81 : decode b_M_work 81 = .ok (.getfield 19, 3) := by decide +kernel
theorem d_M_work_84 : decode b_M_work 84 = .ok (.aload_n 0, 1) := by decide +kernel
theorem d_M_work_85 : decode b_M_work 85 = .ok (.getfield 95, 3) := by decide +kernel
theorem d_M_work_88 : decode b_M_work 88 = .ok (.iload_n 3, 1) := by decide +kernel
theorem d_M_work_89 : decode b_M_work 89 = .ok (.iastore, 1) := by decide +kernel
theorem d_M_work_90 : decode b_M_work 90 = .ok (.aload_n 0, 1) := by decide +kernel
theorem d_M_work_91 : decode b_M_work 91 = .ok (.getfield 22, 3) := by decide +kernel
theorem d_M_work_94 : decode b_M_work 94 = .ok (.aload_n 0, 1) := by decide +kernel
theorem d_M_work_95 : decode b_M_work 95 = .ok (.getfield 95, 3) := by decide +kernel
theorem d_M_work_98 : decode b_M_work 98 = .ok (.iload 4, 2) := by decide +kernel
theorem d_M_work_100 : decode b_M_work 100 = .ok (.iastore, 1) := by decide +kernel
theorem d_M_work_101 : decode b_M_work 101 = .ok (.aload_n 0, 1) := by decide +kernel
theorem d_M_work_102 : decode b_M_work 102 = .ok (.getfield 25, 3) := by decide +kernel
theorem d_M_work_105 : decode b_M_work 105 = .ok (.aload_n 0, 1) := by decide +kernel
theorem d_M_work_106 : decode b_M_work 106 = .ok (.getfield 95, 3) := by decide +kernel
theorem d_M_work_109 : decode b_M_work 109 = .ok (.iload 5, 2) := by decide +kernel
theorem d_M_work_111 : decode b_M_work 111 = .ok (.bastore, 1) := by decide +kernel
theorem d_M_work_112 : decode b_M_work 112 = .ok (.aload_n 0, 1) := by decide +kernel
theorem d_M_work_113 : decode b_M_work 113 = .ok (.getfield 32, 3) := by decide +kernel
theorem d_M_work_116 : decode b_M_work 116 = .ok (.aload_n 0, 1) := by decide +kernel
theorem d_M_work_117 : decode b_M_work 117 = .ok (.getfield 95, 3) := by decide +kernel
theorem d_M_work_120 : decode b_M_work 120 = .ok (.iconst 0, 1) := by decide +kernel
theorem d_M_work_121 : decode b_M_work 121 = .ok (.iastore, 1) := by decide +kernel
theorem d_M_work_122 : decode b_M_work 122 = .ok (.aload_n 0, 1) := by decide +kernel
theorem d_M_work_123 : decode b_M_work 123 = .ok (.getfield 35, 3) := by decide +kernel
theorem d_M_work_126 : decode b_M_work 126 = .ok (.aload_n 0, 1) := by decide +kernel
theorem d_M_work_127 : decode b_M_work 127 = .ok (.getfield 95, 3) := by decide +kernel
theorem d_M_work_130 : decode b_M_work 130 = .ok (.sipush 999, 3) := by decide +kernel
theorem d_M_work_133 : decode b_M_work 133 = .ok (.iastore, 1) := by decide +kernel
theorem d_M_work_134 : decode b_M_work 134 = .ok (.aload_n 0, 1) := by decide +kernel
theorem d_M_work_135 : decode b_M_work 135 = .ok (.dup, 1) := by decide +kernel
theorem d_M_work_136 : decode b_M_work 136 = .ok (.getfield 95, 3) := by decide +kernel
theorem d_M_work_139 : decode b_M_work 139 = .ok (.iconst 1, 1) := by decide +kernel
theorem d_M_work_140 : decode b_M_work 140 = .ok (.iadd, 1) := by decide +kernel
theorem d_M_work_141 : decode b_M_work 141 = .ok (.putfield 95, 3) := by decide +kernel
theorem d_M_work_144 : decode b_M_work 144 = .ok (.iconst 0, 1) := by decide +kernel
theorem d_M_work_145 : decode b_M_work 145 = .ok (.istore 6, 2) := by decide +kernel
theorem d_M_work_147 : decode b_M_work 147 = .ok (.iload 6, 2) := by decide +kernel
theorem d_M_work_149 : decode b_M_work 149 = .ok (.aload_n 0, 1) := by decide +kernel
theorem d_M_work_150 : decode b_M_work 150 = .ok (.getfield 95, 3) := by decide +kernel
theorem d_M_work_153 : decode b_M_work 153 = .ok (.if_icmp .ge 45, 3) := by decide +kernel
theorem d_M_work_156 : decode b_M_work 156 = .ok (.aload_n 0, 1) := by decide +kernel
theorem d_M_work_157 : decode b_M_work 157 = .ok (.getfield 29, 3) := by decide +kernel
theorem d_M_work_160 : decode b_M_work 160 = .ok (.bipush 6, 2) := by decide +kernel
theorem d_M_work_162 : decode b_M_work 162 = .ok (.iload 6, 2) := by decide +kernel
theorem d_M_work_164 : decode b_M_work 164 = .ok (.imul, 1) := by decide +kernel
theorem d_M_work_165 : decode b_M_work 165 = .ok (.aload_n 0, 1) := by decide +kernel
theorem d_M_work_166 : decode b_M_work 166 = .ok (.getfield 95, 3) := by decide +kernel
theorem d_M_work_169 : decode b_M_work 169 = .ok (.iadd, 1) := by decide +kernel
theorem d_M_work_170 : decode b_M_work 170 = .ok (.iconst 1, 1) := by decide +kernel
theorem d_M_work_171 : decode b_M_work 171 = .ok (.isub, 1) := by decide +kernel
theorem d_M_work_172 : decode b_M_work 172 = .ok (.iconst (-1), 1) := by decide +kernel
theorem d_M_work_173 : decode b_M_work 173 = .ok (.iastore, 1) := by decide +kernel
theorem d_M_work_174 : decode b_M_work 174 = .ok (.aload_n 0, 1) := by decide +kernel
theorem d_M_work_175 : decode b_M_work 175 = .ok (.getfield 29, 3) := by decide +kernel
theorem d_M_work_178 : decode b_M_work 178 = .ok (.bipush 6, 2) := by decide +kernel
theorem d_M_work_180 : decode b_M_work 180 = .ok (.aload_n 0, 1) := by decide +kernel
theorem d_M_work_181 : decode b_M_work 181 = .ok (.getfield 95, 3) := by decide +kernel
theorem d_M_work_184 : decode b_M_work 184 = .ok (.iconst 1, 1) := by decide +kernel
theorem d_M_work_185 : decode b_M_work 185 = .ok (.isub, 1) := by decide +kernel
theorem d_M_work_186 : decode b_M_work 186 = .ok (.imul, 1) := by decide +kernel
theorem d_M_work_187 : decode b_M_work 187 = .ok (.iload 6, 2) := by decide +kernel
theorem d_M_work_189 : decode b_M_work 189 = .ok (.iadd, 1) := by decide +kernel
theorem d_M_work_190 : decode b_M_work 190 = .ok (.iconst (-1), 1) := by decide +kernel
theorem d_M_work_191 : decode b_M_work 191 = .ok (.iastore, 1) := by decide +kernel
theorem d_M_work_192 : decode b_M_work 192 = .ok (.iinc 6 1, 3) := by decide +kernel
theorem d_M_work_195 : decode b_M_work 195 = .ok (.goto (-48), 3) := by decide +kernel
theorem d_M_work_198 : decode b_M_work 198 = .ok (.aload_n 0, 1) := by decide +kernel
theorem d_M_work_199 : decode b_M_work 199 = .ok (.invokevirtual 110, 3) := by decide +kernel
theorem d_M_work_202 : decode b_M_work 202 = .ok (.aload_n 0, 1) := by decide +kernel
theorem d_M_work_203 : decode b_M_work 203 = .ok (.getfield 95, 3) := by decide +kernel
theorem d_M_work_206 : decode b_M_work 206 = .ok (.iconst 1, 1) := by decide +kernel
theorem d_M_work_207 : decode b_M_work 207 = .ok (.isub, 1) := by decide +kernel
theorem d_M_work_208 : decode b_M_work 208 = .ok (.ireturn, 1) := by decide +kernel
theorem d_M_after_0 : decode b_M_after 0 = .ok (.aload_n 0, 1) := by decide +kernel
theorem d_M_after_1 : decode b_M_after 1 = .ok (.iload_n 1, 1) := by decide +kernel
theorem d_M_after_2 : decode b_M_after 2 = .ok (.invokevirtual 113, 3) := by decide +kernel
theorem d_M_after_5 : decode b_M_after 5 = .ok (.ifCond .eq 26, 3) := by decide +kernel
theorem d_M_after_8 : decode b_M_after 8 = .ok (.aload_n 0, 1) := by decide +kernel
theorem d_M_after_9 : decode b_M_after 9 = .ok (.iload_n 2, 1) := by decide +kernel
theorem d_M_after_10 : decode b_M_after 10 = .ok (.invokevirtual 113, 3) := by decide +kernel
theorem d_M_after_13 : decode b_M_after 13 = .ok (.ifCond .eq 18, 3) := by decide +kernel
theorem d_M_after_16 : decode b_M_after 16 = .ok (.iload_n 1, 1) := by decide +kernel
theorem d_M_after_17 : decode b_M_after 17 = .ok (.iload_n 2, 1) := by decide +kernel
theorem d_M_after_18 : decode b_M_after 18 = .ok (.if_icmp .eq 13, 3) := by decide +kernel
theorem d_M_after_21 : decode b_M_after 21 = .ok (.iload_n 3, 1) := by decide +kernel
theorem d_M_after_22 : decode b_M_after 22 = .ok (.iconst 0, 1) := by decide +kernel
theorem d_M_after_23 : decode b_M_after 23 = .ok (.bipush 30, 2) := by decide +kernel
theorem d_M_after_25 : decode b_M_after 25 = .ok (.invokestatic 103, 3) := by decide +kernel
theorem d_M_after_28 : decode b_M_after 28 = .ok (.ifCond .ne 5, 3) := by decide +kernel
theorem d_M_after_31 : decode b_M_after 31 = .ok (.iconst 0, 1) := by decide +kernel
theorem d_M_after_32 : decode b_M_after 32 = .ok (.ireturn, 1) := by decide +kernel
theorem d_M_after_33 : decode b_M_after 33 = .ok (.aload_n 0, 1) := by decide +kernel
theorem d_M_after_34 : decode b_M_after 34 = .ok (.getfield 29, 3) := by decide +kernel
theorem d_M_after_37 : decode b_M_after 37 = .ok (.bipush 6, 2) := by decide +kernel
theorem d_M_after_39 : decode b_M_after 39 = .ok (.iload_n 1, 1) := by decide +kernel
theorem d_M_after_40 : decode b_M_after 40 = .ok (.imul, 1) := by decide +kernel
theorem d_M_after_41 : decode b_M_after 41 = .ok (.iload_n 2, 1) := by decide +kernel
theorem d_M_after_42 : decode b_M_after 42 = .ok (.iadd, 1) := by decide +kernel
theorem d_M_after_43 : decode b_M_after 43 = .ok (.iload_n 3, 1) := by decide +kernel
theorem d_M_after_44 : decode b_M_after 44 = .ok (.iastore, 1) := by decide +kernel
theorem d_M_after_45 : decode b_M_after 45 = .ok (.aload_n 0, 1) := by decide +kernel
theorem d_M_after_46 : decode b_M_after 46 = .ok (.invokevirtual 110, 3) := by decide +kernel
theorem d_M_after_49 : decode b_M_after 49 = .ok (.iconst 1, 1) := by decide +kernel
theorem d_M_after_50 : decode b_M_after 50 = .ok (.ireturn, 1) := by decide +kernel
theorem d_M_season_0 : decode b_M_season 0 = .ok (.aload_n 0, 1) := by decide +kernel
theorem d_M_season_1 : decode b_M_season 1 = .ok (.iload_n 1, 1) := by decide +kernel
theorem d_M_season_2 : decode b_M_season 2 = .ok (.invokevirtual 113, 3) := by decide +kernel
theorem d_M_season_5 : decode b_M_season 5 = .ok (.ifCond .eq 19, 3) := by decide +kernel
theorem d_M_season_8 : decode b_M_season 8 = .ok (.iload_n 2, 1) := by decide +kernel
theorem d_M_season_9 : decode b_M_season 9 = .ok (.ifCond .lt 15, 3) := by decide +kernel
theorem d_M_season_12 : decode b_M_season 12 = .ok (.iload_n 3, 1) := by decide +kernel
theorem d_M_season_13 : decode b_M_season 13 = .ok (.iload_n 2, 1) := by decide +kernel
theorem d_M_season_14 : decode b_M_season 14 = .ok (.if_icmp .lt 10, 3) := by decide +kernel
theorem d_M_season_17 : decode b_M_season 17 = .ok (.iload_n 3, 1) := by decide +kernel
theorem d_M_season_18 : decode b_M_season 18 = .ok (.sipush 999, 3) := by decide +kernel
theorem d_M_season_21 : decode b_M_season 21 = .ok (.if_icmp .le 5, 3) := by decide +kernel
theorem d_M_season_24 : decode b_M_season 24 = .ok (.iconst 0, 1) := by decide +kernel
theorem d_M_season_25 : decode b_M_season 25 = .ok (.ireturn, 1) := by decide +kernel
theorem d_M_season_26 : decode b_M_season 26 = .ok (.aload_n 0, 1) := by decide +kernel
theorem d_M_season_27 : decode b_M_season 27 = .ok (.getfield 32, 3) := by decide +kernel
theorem d_M_season_30 : decode b_M_season 30 = .ok (.iload_n 1, 1) := by decide +kernel
theorem d_M_season_31 : decode b_M_season 31 = .ok (.iload_n 2, 1) := by decide +kernel
theorem d_M_season_32 : decode b_M_season 32 = .ok (.iastore, 1) := by decide +kernel
theorem d_M_season_33 : decode b_M_season 33 = .ok (.aload_n 0, 1) := by decide +kernel
theorem d_M_season_34 : decode b_M_season 34 = .ok (.getfield 35, 3) := by decide +kernel
theorem d_M_season_37 : decode b_M_season 37 = .ok (.iload_n 1, 1) := by decide +kernel
theorem d_M_season_38 : decode b_M_season 38 = .ok (.iload_n 3, 1) := by decide +kernel
theorem d_M_season_39 : decode b_M_season 39 = .ok (.iastore, 1) := by decide +kernel
theorem d_M_season_40 : decode b_M_season 40 = .ok (.aload_n 0, 1) := by decide +kernel
theorem d_M_season_41 : decode b_M_season 41 = .ok (.invokevirtual 110, 3) := by decide +kernel
theorem d_M_season_44 : decode b_M_season 44 = .ok (.iconst 1, 1) := by decide +kernel
theorem d_M_season_45 : decode b_M_season 45 = .ok (.ireturn, 1) := by decide +kernel
theorem d_M_bar_0 : decode b_M_bar 0 = .ok (.aload_n 0, 1) := by decide +kernel
theorem d_M_bar_1 : decode b_M_bar 1 = .ok (.iload_n 1, 1) := by decide +kernel
theorem d_M_bar_2 : decode b_M_bar 2 = .ok (.invokevirtual 113, 3) := by decide +kernel
theorem d_M_bar_5 : decode b_M_bar 5 = .ok (.ifCond .eq 42, 3) := by decide +kernel
theorem d_M_bar_8 : decode b_M_bar 8 = .ok (.iload_n 2, 1) := by decide +kernel
theorem d_M_bar_9 : decode b_M_bar 9 = .ok (.aload_n 0, 1) := by decide +kernel
theorem d_M_bar_10 : decode b_M_bar 10 = .ok (.getfield 16, 3) := by decide +kernel
theorem d_M_bar_13 : decode b_M_bar 13 = .ok (.iload_n 1, 1) := by decide +kernel
theorem d_M_bar_14 : decode b_M_bar 14 = .ok (.iaload, 1) := by decide +kernel
theorem d_M_bar_15 : decode b_M_bar 15 = .ok (.aload_n 0, 1) := by decide +kernel
theorem d_M_bar_16 : decode b_M_bar 16 = .ok (.getfield 19, 3) := by decide +kernel
theorem d_M_bar_19 : decode b_M_bar 19 = .ok (.iload_n 1, 1) := by decide +kernel
theorem d_M_bar_20 : decode b_M_bar 20 = .ok (.iaload, 1) := by decide +kernel
theorem d_M_bar_21 : decode b_M_bar 21 = .ok (.invokestatic 103, 3) := by decide +kernel
theorem d_M_bar_24 : decode b_M_bar 24 = .ok (.ifCond .eq 23, 3) := by decide +kernel
theorem d_M_bar_27 : decode b_M_bar 27 = .ok (.iload_n 3, 1) := by decide +kernel
theorem d_M_bar_28 : decode b_M_bar 28 = .ok (.iconst 0, 1) := by decide +kernel
theorem d_M_bar_29 : decode b_M_bar 29 = .ok (.sipush 999, 3) := by decide +kernel
theorem d_M_bar_32 : decode b_M_bar 32 = .ok (.invokestatic 103, 3) := by decide +kernel
theorem d_M_bar_35 : decode b_M_bar 35 = .ok (.ifCond .eq 12, 3) := by decide +kernel
theorem d_M_bar_38 : decode b_M_bar 38 = .ok (.aload_n 0, 1) := by decide +kernel
theorem d_M_bar_39 : decode b_M_bar 39 = .ok (.getfield 117, 3) := by decide +kernel
theorem d_M_bar_42 : decode b_M_bar 42 = .ok (.bipush 8, 2) := by decide +kernel
theorem d_M_bar_44 : decode b_M_bar 44 = .ok (.if_icmp .ne 5, 3) := by decide +kernel
theorem d_M_bar_47 : decode b_M_bar 47 = .ok (.iconst 0, 1) := by decide +kernel
theorem d_M_bar_48 : decode b_M_bar 48 = .ok (.ireturn, 1) := by decide +kernel
theorem d_M_bar_49 : decode b_M_bar 49 = .ok (.aload_n 0, 1) := by decide +kernel
theorem d_M_bar_50 : decode b_M_bar 50 = .ok (.getfield 38, 3) := by decide +kernel
theorem d_M_bar_53 : decode b_M_bar 53 = .ok (.aload_n 0, 1) := by decide +kernel
theorem d_M_bar_54 : decode b_M_bar 54 = .ok (.getfield 117, 3) := by decide +kernel
theorem d_M_bar_57 : decode b_M_bar 57 = .ok (.iload_n 1, 1) := by decide +kernel
theorem d_M_bar_58 : decode b_M_bar 58 = .ok (.iastore, 1) := by decide +kernel
theorem d_M_bar_59 : decode b_M_bar 59 = .ok (.aload_n 0, 1) := by decide +kernel
theorem d_M_bar_60 : decode b_M_bar 60 = .ok (.getfield 41, 3) := by decide +kernel
theorem d_M_bar_63 : decode b_M_bar 63 = .ok (.aload_n 0, 1) := by decide +kernel
theorem d_M_bar_64 : decode b_M_bar 64 = .ok (.getfield 117, 3) := by decide +kernel
theorem d_M_bar_67 : decode b_M_bar 67 = .ok (.iload_n 2, 1) := by decide +kernel
theorem d_M_bar_68 : decode b_M_bar 68 = .ok (.iastore, 1) := by decide +kernel
theorem d_M_bar_69 : decode b_M_bar 69 = .ok (.aload_n 0, 1) := by decide +kernel
theorem d_M_bar_70 : decode b_M_bar 70 = .ok (.getfield 44, 3) := by decide +kernel
theorem d_M_bar_73 : decode b_M_bar 73 = .ok (.aload_n 0, 1) := by decide +kernel
theorem d_M_bar_74 : decode b_M_bar 74 = .ok (.getfield 117, 3) := by decide +kernel
theorem d_M_bar_77 : decode b_M_bar 77 = .ok (.iload_n 3, 1) := by decide +kernel
theorem d_M_bar_78 : decode b_M_bar 78 = .ok (.iastore, 1) := by decide +kernel
theorem d_M_bar_79 : decode b_M_bar 79 = .ok (.aload_n 0, 1) := by decide +kernel
theorem d_M_bar_80 : decode b_M_bar 80 = .ok (.dup, 1) := by decide +kernel
theorem d_M_bar_81 : decode b_M_bar 81 = .ok (.getfield 117, 3) := by decide +kernel
theorem d_M_bar_84 : decode b_M_bar 84 = .ok (.iconst 1, 1) := by decide +kernel
theorem d_M_bar_85 : decode b_M_bar 85 = .ok (.iadd, 1) := by decide +kernel
theorem d_M_bar_86 : decode b_M_bar 86 = .ok (.putfield 117, 3) := by decide +kernel
theorem d_M_bar_89 : decode b_M_bar 89 = .ok (.aload_n 0, 1) := by decide +kernel
theorem d_M_bar_90 : decode b_M_bar 90 = .ok (.invokevirtual 110, 3) := by decide +kernel
theorem d_M_bar_93 : decode b_M_bar 93 = .ok (.iconst 1, 1) := by decide +kernel
theorem d_M_bar_94 : decode b_M_bar 94 = .ok (.ireturn, 1) := by decide +kernel
theorem d_M_rest_0 : decode b_M_rest 0 = .ok (.iload_n 1, 1) := by decide +kernel
theorem d_M_rest_1 : decode b_M_rest 1 = .ok (.iconst 0, 1) := by decide +kernel
theorem d_M_rest_2 : decode b_M_rest 2 = .ok (.sipush 199, 3) := by decide +kernel
theorem d_M_rest_5 : decode b_M_rest 5 = .ok (.invokestatic 103, 3) := by decide +kernel
theorem d_M_rest_8 : decode b_M_rest 8 = .ok (.ifCond .eq 12, 3) := by decide +kernel
theorem d_M_rest_11 : decode b_M_rest 11 = .ok (.aload_n 0, 1) := by decide +kernel
theorem d_M_rest_12 : decode b_M_rest 12 = .ok (.getfield 47, 3) := by decide +kernel
theorem d_M_rest_15 : decode b_M_rest 15 = .ok (.iload_n 1, 1) := by decide +kernel
theorem d_M_rest_16 : decode b_M_rest 16 = .ok (.baload, 1) := by decide +kernel
theorem d_M_rest_17 : decode b_M_rest 17 = .ok (.ifCond .eq 5, 3) := by decide +kernel
theorem d_M_rest_20 : decode b_M_rest 20 = .ok (.iconst 0, 1) := by decide +kernel
theorem d_M_rest_21 : decode b_M_rest 21 = .ok (.ireturn, 1) := by decide +kernel
theorem d_M_rest_22 : decode b_M_rest 22 = .ok (.aload_n 0, 1) := by decide +kernel
theorem d_M_rest_23 : decode b_M_rest 23 = .ok (.getfield 47, 3) := by decide +kernel
theorem d_M_rest_26 : decode b_M_rest 26 = .ok (.iload_n 1, 1) := by decide +kernel
theorem d_M_rest_27 : decode b_M_rest 27 = .ok (.iconst 1, 1) := by decide +kernel
theorem d_M_rest_28 : decode b_M_rest 28 = .ok (.bastore, 1) := by decide +kernel
theorem d_M_rest_29 : decode b_M_rest 29 = .ok (.aload_n 0, 1) := by decide +kernel
theorem d_M_rest_30 : decode b_M_rest 30 = .ok (.dup, 1) := by decide +kernel
theorem d_M_rest_31 : decode b_M_rest 31 = .ok (.getfield 120, 3) := by decide +kernel
theorem d_M_rest_34 : decode b_M_rest 34 = .ok (.iconst 1, 1) := by decide +kernel
theorem d_M_rest_35 : decode b_M_rest 35 = .ok (.iadd, 1) := by decide +kernel
theorem d_M_rest_36 : decode b_M_rest 36 = .ok (.putfield 120, 3) := by decide +kernel
theorem d_M_rest_39 : decode b_M_rest 39 = .ok (.aload_n 0, 1) := by decide +kernel
theorem d_M_rest_40 : decode b_M_rest 40 = .ok (.invokevirtual 110, 3) := by decide +kernel
theorem d_M_rest_43 : decode b_M_rest 43 = .ok (.iconst 1, 1) := by decide +kernel
theorem d_M_rest_44 : decode b_M_rest 44 = .ok (.ireturn, 1) := by decide +kernel
theorem d_M_most_0 : decode b_M_most 0 = .ok (.iload_n 1, 1) := by decide +kernel
theorem d_M_most_1 : decode b_M_most 1 = .ok (.iconst 0, 1) := by decide +kernel
theorem d_M_most_2 : decode b_M_most 2 = .ok (.iconst 3, 1) := by decide +kernel
theorem d_M_most_3 : decode b_M_most 3 = .ok (.invokestatic 103, 3) := by decide +kernel
theorem d_M_most_6 : decode b_M_most 6 = .ok (.ifCond .eq 13, 3) := by decide +kernel
theorem d_M_most_9 : decode b_M_most 9 = .ok (.iload_n 2, 1) := by decide +kernel
theorem d_M_most_10 : decode b_M_most 10 = .ok (.iconst 0, 1) := by decide +kernel
theorem d_M_most_11 : decode b_M_most 11 = .ok (.bipush 6, 2) := by decide +kernel
theorem d_M_most_13 : decode b_M_most 13 = .ok (.invokestatic 103, 3) := by decide +kernel
theorem d_M_most_16 : decode b_M_most 16 = .ok (.ifCond .ne 5, 3) := by decide +kernel
theorem d_M_most_19 : decode b_M_most 19 = .ok (.iconst (-1), 1) := by decide +kernel
theorem d_M_most_20 : decode b_M_most 20 = .ok (.ireturn, 1) := by decide +kernel
theorem d_M_most_21 : decode b_M_most 21 = .ok (.aload_n 0, 1) := by decide +kernel
theorem d_M_most_22 : decode b_M_most 22 = .ok (.getfield 53, 3) := by decide +kernel
theorem d_M_most_25 : decode b_M_most 25 = .ok (.iload_n 1, 1) := by decide +kernel
theorem d_M_most_26 : decode b_M_most 26 = .ok (.iaload, 1) := by decide +kernel
theorem d_M_most_27 : decode b_M_most 27 = .ok (.istore_n 3, 1) := by decide +kernel
theorem d_M_most_28 : decode b_M_most 28 = .ok (.aload_n 0, 1) := by decide +kernel
theorem d_M_most_29 : decode b_M_most 29 = .ok (.getfield 53, 3) := by decide +kernel
theorem d_M_most_32 : decode b_M_most 32 = .ok (.iload_n 1, 1) := by decide +kernel
theorem d_M_most_33 : decode b_M_most 33 = .ok (.iload_n 2, 1) := by decide +kernel
theorem d_M_most_34 : decode b_M_most 34 = .ok (.iastore, 1) := by decide +kernel
theorem d_M_most_35 : decode b_M_most 35 = .ok (.aload_n 0, 1) := by decide +kernel
theorem d_M_most_36 : decode b_M_most 36 = .ok (.invokevirtual 110, 3) := by decide +kernel
theorem d_M_most_39 : decode b_M_most 39 = .ok (.iload_n 3, 1) := by decide +kernel
theorem d_M_most_40 : decode b_M_most 40 = .ok (.ireturn, 1) := by decide +kernel
theorem d_M_learned_0 : decode b_M_learned 0 = .ok (.aload_n 0, 1) := by decide +kernel
theorem d_M_learned_1 : decode b_M_learned 1 = .ok (.iload_n 1, 1) := by decide +kernel
theorem d_M_learned_2 : decode b_M_learned 2 = .ok (.invokevirtual 113, 3) := by decide +kernel
theorem d_M_learned_5 : decode b_M_learned 5 = .ok (.ifCond .eq 25, 3) := by decide +kernel
theorem d_M_learned_8 : decode b_M_learned 8 = .ok (.iload_n 2, 1) := by decide +kernel
theorem d_M_learned_9 : decode b_M_learned 9 = .ok (.iconst 1, 1) := by decide +kernel
theorem d_M_learned_10 : decode b_M_learned 10 = .ok (.sipush 10000, 3) := by decide +kernel
theorem d_M_learned_13 : decode b_M_learned 13 = .ok (.invokestatic 103, 3) := by decide +kernel
theorem d_M_learned_16 : decode b_M_learned 16 = .ok (.ifCond .eq 14, 3) := by decide +kernel
theorem d_M_learned_19 : decode b_M_learned 19 = .ok (.iload_n 3, 1) := by decide +kernel
theorem d_M_learned_20 : decode b_M_learned 20 = .ok (.iconst 1, 1) := by decide +kernel
theorem d_M_learned_21 : decode b_M_learned 21 = .ok (.sipush 1000, 3) := by decide +kernel
theorem d_M_learned_24 : decode b_M_learned 24 = .ok (.invokestatic 103, 3) := by decide +kernel
theorem d_M_learned_27 : decode b_M_learned 27 = .ok (.ifCond .ne 5, 3) := by decide +kernel
theorem d_M_learned_30 : decode b_M_learned 30 = .ok (.iconst (-1), 1) := by decide +kernel
theorem d_M_learned_31 : decode b_M_learned 31 = .ok (.ireturn, 1) := by decide +kernel
theorem d_M_learned_32 : decode b_M_learned 32 = .ok (.iload_n 2, 1) := by decide +kernel
theorem d_M_learned_33 : decode b_M_learned 33 = .ok (.iload_n 3, 1) := by decide +kernel
theorem d_M_learned_34 : decode b_M_learned 34 = .ok (.idiv, 1) := by decide +kernel
theorem d_M_learned_35 : decode b_M_learned 35 = .ok (.istore 4, 2) := by decide +kernel
theorem d_M_learned_37 : decode b_M_learned 37 = .ok (.aload_n 0, 1) := by decide +kernel
theorem d_M_learned_38 : decode b_M_learned 38 = .ok (.getfield 22, 3) := by decide +kernel
theorem d_M_learned_41 : decode b_M_learned 41 = .ok (.iload_n 1, 1) := by decide +kernel
theorem d_M_learned_42 : decode b_M_learned 42 = .ok (.iload 4, 2) := by decide +kernel
theorem d_M_learned_44 : decode b_M_learned 44 = .ok (.iconst 1, 1) := by decide +kernel
theorem d_M_learned_45 : decode b_M_learned 45 = .ok (.if_icmp .ge 7, 3) := by decide +kernel
theorem d_M_learned_48 : decode b_M_learned 48 = .ok (.iconst 1, 1) := by decide +kernel
theorem d_M_learned_49 : decode b_M_learned 49 = .ok (.goto 17, 3) := by decide +kernel
theorem d_M_learned_52 : decode b_M_learned 52 = .ok (.iload 4, 2) := by decide +kernel
theorem d_M_learned_54 : decode b_M_learned 54 = .ok (.bipush 50, 2) := by decide +kernel
theorem d_M_learned_56 : decode b_M_learned 56 = .ok (.if_icmp .le 8, 3) := by decide +kernel
theorem d_M_learned_59 : decode b_M_learned 59 = .ok (.bipush 50, 2) := by decide +kernel
theorem d_M_learned_61 : decode b_M_learned 61 = .ok (.goto 5, 3) := by decide +kernel
theorem d_M_learned_64 : decode b_M_learned 64 = .ok (.iload 4, 2) := by decide +kernel
theorem d_M_learned_66 : decode b_M_learned 66 = .ok (.iastore, 1) := by decide +kernel
theorem d_M_learned_67 : decode b_M_learned 67 = .ok (.aload_n 0, 1) := by decide +kernel
theorem d_M_learned_68 : decode b_M_learned 68 = .ok (.invokevirtual 110, 3) := by decide +kernel
theorem d_M_learned_71 : decode b_M_learned 71 = .ok (.aload_n 0, 1) := by decide +kernel
theorem d_M_learned_72 : decode b_M_learned 72 = .ok (.getfield 22, 3) := by decide +kernel
theorem d_M_learned_75 : decode b_M_learned 75 = .ok (.iload_n 1, 1) := by decide +kernel
theorem d_M_learned_76 : decode b_M_learned 76 = .ok (.iaload, 1) := by decide +kernel
theorem d_M_learned_77 : decode b_M_learned 77 = .ok (.ireturn, 1) := by decide +kernel
theorem d_M_isRest_0 : decode b_M_isRest 0 = .ok (.iload_n 1, 1) := by decide +kernel
theorem d_M_isRest_1 : decode b_M_isRest 1 = .ok (.ifCond .lt 23, 3) := by decide +kernel
theorem d_M_isRest_4 : decode b_M_isRest 4 = .ok (.iload_n 1, 1) := by decide +kernel
theorem d_M_isRest_5 : decode b_M_isRest 5 = .ok (.sipush 200, 3) := by decide +kernel
theorem d_M_isRest_8 : decode b_M_isRest 8 = .ok (.if_icmp .ge 16, 3) := by decide +kernel
theorem d_M_isRest_11 : decode b_M_isRest 11 = .ok (.aload_n 0, 1) := by decide +kernel
theorem d_M_isRest_12 : decode b_M_isRest 12 = .ok (.getfield 47, 3) := by decide +kernel
theorem d_M_isRest_15 : decode b_M_isRest 15 = .ok (.iload_n 1, 1) := by decide +kernel
theorem d_M_isRest_16 : decode b_M_isRest 16 = .ok (.baload, 1) := by decide +kernel
theorem d_M_isRest_17 : decode b_M_isRest 17 = .ok (.ifCond .eq 7, 3) := by decide +kernel
theorem d_M_isRest_20 : decode b_M_isRest 20 = .ok (.iconst 1, 1) := by decide +kernel
theorem d_M_isRest_21 : decode b_M_isRest 21 = .ok (.goto 4, 3) := by decide +kernel
theorem d_M_isRest_24 : decode b_M_isRest 24 = .ok (.iconst 0, 1) := by decide +kernel
theorem d_M_isRest_25 : decode b_M_isRest 25 = .ok (.ireturn, 1) := by decide +kernel
theorem d_M_nextDay_0 : decode b_M_nextDay 0 = .ok (.iload_n 1, 1) := by decide +kernel
theorem d_M_nextDay_1 : decode b_M_nextDay 1 = .ok (.iconst 1, 1) := by decide +kernel
theorem d_M_nextDay_2 : decode b_M_nextDay 2 = .ok (.iadd, 1) := by decide +kernel
theorem d_M_nextDay_3 : decode b_M_nextDay 3 = .ok (.istore_n 2, 1) := by decide +kernel
theorem d_M_nextDay_4 : decode b_M_nextDay 4 = .ok (.aload_n 0, 1) := by decide +kernel
theorem d_M_nextDay_5 : decode b_M_nextDay 5 = .ok (.iload_n 2, 1) := by decide +kernel
theorem d_M_nextDay_6 : decode b_M_nextDay 6 = .ok (.invokevirtual 123, 3) := by decide +kernel
theorem d_M_nextDay_9 : decode b_M_nextDay 9 = .ok (.ifCond .eq 9, 3) := by decide +kernel
theorem d_M_nextDay_12 : decode b_M_nextDay 12 = .ok (.iinc 2 1, 3) := by decide +kernel
theorem d_M_nextDay_15 : decode b_M_nextDay 15 = .ok (.goto (-11), 3) := by decide +kernel
theorem d_M_nextDay_18 : decode b_M_nextDay 18 = .ok (.iload_n 2, 1) := by decide +kernel
theorem d_M_nextDay_19 : decode b_M_nextDay 19 = .ok (.ireturn, 1) := by decide +kernel
theorem d_M_lay_0 : decode b_M_lay 0 = .ok (.aload_n 0, 1) := by decide +kernel
theorem d_M_lay_1 : decode b_M_lay 1 = .ok (.getfield 22, 3) := by decide +kernel
theorem d_M_lay_4 : decode b_M_lay 4 = .ok (.iload_n 2, 1) := by decide +kernel
theorem d_M_lay_5 : decode b_M_lay 5 = .ok (.iaload, 1) := by decide +kernel
theorem d_M_lay_6 : decode b_M_lay 6 = .ok (.istore 5, 2) := by decide +kernel
theorem d_M_lay_8 : decode b_M_lay 8 = .ok (.aload_n 0, 1) := by decide +kernel
theorem d_M_lay_9 : decode b_M_lay 9 = .ok (.getfield 19, 3) := by decide +kernel
theorem d_M_lay_12 : decode b_M_lay 12 = .ok (.iload_n 2, 1) := by decide +kernel
theorem d_M_lay_13 : decode b_M_lay 13 = .ok (.iaload, 1) := by decide +kernel
theorem d_M_lay_14 : decode b_M_lay 14 = .ok (.aload_n 0, 1) := by decide +kernel
theorem d_M_lay_15 : decode b_M_lay 15 = .ok (.getfield 16, 3) := by decide +kernel
theorem d_M_lay_18 : decode b_M_lay 18 = .ok (.iload_n 2, 1) := by decide +kernel
theorem d_M_lay_19 : decode b_M_lay 19 = .ok (.iaload, 1) := by decide +kernel
theorem d_M_lay_20 : decode b_M_lay 20 = .ok (.isub, 1) := by decide +kernel
theorem d_M_lay_21 : decode b_M_lay 21 = .ok (.istore 6, 2) := by decide +kernel
theorem d_M_lay_23 : decode b_M_lay 23 = .ok (.iload_n 3, 1) := by decide +kernel
theorem d_M_lay_24 : decode b_M_lay 24 = .ok (.istore 7, 2) := by decide +kernel
theorem d_M_lay_26 : decode b_M_lay 26 = .ok (.aload_n 0, 1) := by decide +kernel
theorem d_M_lay_27 : decode b_M_lay 27 = .ok (.getfield 71, 3) := by decide +kernel
theorem d_M_lay_30 : decode b_M_lay 30 = .ok (.iload_n 1, 1) := by decide +kernel
theorem d_M_lay_31 : decode b_M_lay 31 = .ok (.iload_n 3, 1) := by decide +kernel
theorem d_M_lay_32 : decode b_M_lay 32 = .ok (.iastore, 1) := by decide +kernel
theorem d_M_lay_33 : decode b_M_lay 33 = .ok (.aload_n 0, 1) := by decide +kernel
theorem d_M_lay_34 : decode b_M_lay 34 = .ok (.getfield 74, 3) := by decide +kernel
theorem d_M_lay_37 : decode b_M_lay 37 = .ok (.iload_n 1, 1) := by decide +kernel
theorem d_M_lay_38 : decode b_M_lay 38 = .ok (.iload 4, 2) := by decide +kernel
theorem d_M_lay_40 : decode b_M_lay 40 = .ok (.iastore, 1) := by decide +kernel
theorem d_M_lay_41 : decode b_M_lay 41 = .ok (.iconst 0, 1) := by decide +kernel
theorem d_M_lay_42 : decode b_M_lay 42 = .ok (.istore 8, 2) := by decide +kernel
theorem d_M_lay_44 : decode b_M_lay 44 = .ok (.iload 8, 2) := by decide +kernel
theorem d_M_lay_46 : decode b_M_lay 46 = .ok (.iload 6, 2) := by decide +kernel
theorem d_M_lay_48 : decode b_M_lay 48 = .ok (.if_icmp .gt 147, 3) := by decide +kernel
theorem d_M_lay_51 : decode b_M_lay 51 = .ok (.sipush 201, 3) := by decide +kernel
theorem d_M_lay_54 : decode b_M_lay 54 = .ok (.iload_n 1, 1) := by decide +kernel
theorem d_M_lay_55 : decode b_M_lay 55 = .ok (.imul, 1) := by decide +kernel
theorem d_M_lay_56 : decode b_M_lay 56 = .ok (.iload 4, 2) := by decide +kernel
theorem d_M_lay_58 : decode b_M_lay 58 = .ok (.ifCond .ne 15, 3) := by decide +kernel
theorem d_M_lay_61 : decode b_M_lay 61 = .ok (.aload_n 0, 1) := by decide +kernel
theorem d_M_lay_62 : decode b_M_lay 62 = .ok (.getfield 16, 3) := by decide +kernel
theorem d_M_lay_65 : decode b_M_lay 65 = .ok (.iload_n 2, 1) := by decide +kernel
theorem d_M_lay_66 : decode b_M_lay 66 = .ok (.iaload, 1) := by decide +kernel
theorem d_M_lay_67 : decode b_M_lay 67 = .ok (.iload 8, 2) := by decide +kernel
theorem d_M_lay_69 : decode b_M_lay 69 = .ok (.iadd, 1) := by decide +kernel
theorem d_M_lay_70 : decode b_M_lay 70 = .ok (.goto 12, 3) := by decide +kernel
theorem d_M_lay_73 : decode b_M_lay 73 = .ok (.aload_n 0, 1) := by decide +kernel
theorem d_M_lay_74 : decode b_M_lay 74 = .ok (.getfield 19, 3) := by decide +kernel
theorem d_M_lay_77 : decode b_M_lay 77 = .ok (.iload_n 2, 1) := by decide +kernel
theorem d_M_lay_78 : decode b_M_lay 78 = .ok (.iaload, 1) := by decide +kernel
theorem d_M_lay_79 : decode b_M_lay 79 = .ok (.iload 8, 2) := by decide +kernel
theorem d_M_lay_81 : decode b_M_lay 81 = .ok (.isub, 1) := by decide +kernel
theorem d_M_lay_82 : decode b_M_lay 82 = .ok (.iadd, 1) := by decide +kernel
theorem d_M_lay_83 : decode b_M_lay 83 = .ok (.istore 9, 2) := by decide +kernel
theorem d_M_lay_85 : decode b_M_lay 85 = .ok (.iload 8, 2) := by decide +kernel
theorem d_M_lay_87 : decode b_M_lay 87 = .ok (.ifCond .ne 28, 3) := by decide +kernel
theorem d_M_lay_90 : decode b_M_lay 90 = .ok (.aload_n 0, 1) := by decide +kernel
theorem d_M_lay_91 : decode b_M_lay 91 = .ok (.getfield 80, 3) := by decide +kernel
theorem d_M_lay_94 : decode b_M_lay 94 = .ok (.iload 9, 2) := by decide +kernel
theorem d_M_lay_96 : decode b_M_lay 96 = .ok (.iload_n 3, 1) := by decide +kernel
theorem d_M_lay_97 : decode b_M_lay 97 = .ok (.iload 5, 2) := by decide +kernel
theorem d_M_lay_99 : decode b_M_lay 99 = .ok (.imul, 1) := by decide +kernel
theorem d_M_lay_100 : decode b_M_lay 100 = .ok (.iastore, 1) := by decide +kernel
theorem d_M_lay_101 : decode b_M_lay 101 = .ok (.aload_n 0, 1) := by decide +kernel
theorem d_M_lay_102 : decode b_M_lay 102 = .ok (.getfield 83, 3) := by decide +kernel
theorem d_M_lay_105 : decode b_M_lay 105 = .ok (.iload 9, 2) := by decide +kernel
theorem d_M_lay_107 : decode b_M_lay 107 = .ok (.iload_n 3, 1) := by decide +kernel
theorem d_M_lay_108 : decode b_M_lay 108 = .ok (.iload 5, 2) := by decide +kernel
theorem d_M_lay_110 : decode b_M_lay 110 = .ok (.imul, 1) := by decide +kernel
theorem d_M_lay_111 : decode b_M_lay 111 = .ok (.iastore, 1) := by decide +kernel
theorem d_M_lay_112 : decode b_M_lay 112 = .ok (.goto 77, 3) := by decide +kernel
theorem d_M_lay_115 : decode b_M_lay 115 = .ok (.iload 8, 2) := by decide +kernel
theorem d_M_lay_117 : decode b_M_lay 117 = .ok (.iconst 1, 1) := by decide +kernel
theorem d_M_lay_118 : decode b_M_lay 118 = .ok (.isub, 1) := by decide +kernel
theorem d_M_lay_119 : decode b_M_lay 119 = .ok (.iload 5, 2) := by decide +kernel
theorem d_M_lay_121 : decode b_M_lay 121 = .ok (.irem, 1) := by decide +kernel
theorem d_M_lay_122 : decode b_M_lay 122 = .ok (.iconst 1, 1) := by decide +kernel
theorem d_M_lay_123 : decode b_M_lay 123 = .ok (.iadd, 1) := by decide +kernel
theorem d_M_lay_124 : decode b_M_lay 124 = .ok (.istore 10, 2) := by decide +kernel
theorem d_M_lay_126 : decode b_M_lay 126 = .ok (.aload_n 0, 1) := by decide +kernel
theorem d_M_lay_127 : decode b_M_lay 127 = .ok (.getfield 80, 3) := by decide +kernel
theorem d_M_lay_130 : decode b_M_lay 130 = .ok (.iload 9, 2) := by decide +kernel
theorem d_M_lay_132 : decode b_M_lay 132 = .ok (.iload 7, 2) := by decide +kernel
theorem d_M_lay_134 : decode b_M_lay 134 = .ok (.iload 5, 2) := by decide +kernel
theorem d_M_lay_136 : decode b_M_lay 136 = .ok (.imul, 1) := by decide +kernel
theorem d_M_lay_137 : decode b_M_lay 137 = .ok (.iload 10, 2) := by decide +kernel
theorem d_M_lay_139 : decode b_M_lay 139 = .ok (.iadd, 1) := by decide +kernel
theorem d_M_lay_140 : decode b_M_lay 140 = .ok (.iastore, 1) := by decide +kernel
theorem d_M_lay_141 : decode b_M_lay 141 = .ok (.aload_n 0, 1) := by decide +kernel
theorem d_M_lay_142 : decode b_M_lay 142 = .ok (.getfield 83, 3) := by decide +kernel
theorem d_M_lay_145 : decode b_M_lay 145 = .ok (.iload 9, 2) := by decide +kernel
theorem d_M_lay_147 : decode b_M_lay 147 = .ok (.aload_n 0, 1) := by decide +kernel
theorem d_M_lay_148 : decode b_M_lay 148 = .ok (.getfield 80, 3) := by decide +kernel
theorem d_M_lay_151 : decode b_M_lay 151 = .ok (.iload 9, 2) := by decide +kernel
theorem d_M_lay_153 : decode b_M_lay 153 = .ok (.iaload, 1) := by decide +kernel
theorem d_M_lay_154 : decode b_M_lay 154 = .ok (.iastore, 1) := by decide +kernel
theorem d_M_lay_155 : decode b_M_lay 155 = .ok (.iload 10, 2) := by decide +kernel
theorem d_M_lay_157 : decode b_M_lay 157 = .ok (.iload 5, 2) := by decide +kernel
theorem d_M_lay_159 : decode b_M_lay 159 = .ok (.if_icmp .ne 30, 3) := by decide +kernel
theorem d_M_lay_162 : decode b_M_lay 162 = .ok (.iload 8, 2) := by decide +kernel
theorem d_M_lay_164 : decode b_M_lay 164 = .ok (.iload 6, 2) := by decide +kernel
theorem d_M_lay_166 : decode b_M_lay 166 = .ok (.if_icmp .ge 23, 3) := by decide +kernel
theorem d_M_lay_169 : decode b_M_lay 169 = .ok (.aload_n 0, 1) := by decide +kernel
theorem d_M_lay_170 : decode b_M_lay 170 = .ok (.iload 7, 2) := by decide +kernel
theorem d_M_lay_172 : decode b_M_lay 172 = .ok (.invokevirtual 126, 3) := by decide +kernel
theorem d_M_lay_175 : decode b_M_lay 175 = .ok (.istore 7, 2) := by decide +kernel
theorem d_M_lay_177 : decode b_M_lay 177 = .ok (.aload_n 0, 1) := by decide +kernel
theorem d_M_lay_178 : decode b_M_lay 178 = .ok (.getfield 83, 3) := by decide +kernel
theorem d_M_lay_181 : decode b_M_lay 181 = .ok (.iload 9, 2) := by decide +kernel
theorem d_M_lay_183 : decode b_M_lay 183 = .ok (.iload 7, 2) := by decide +kernel
theorem d_M_lay_185 : decode b_M_lay 185 = .ok (.iload 5, 2) := by decide +kernel
theorem d_M_lay_187 : decode b_M_lay 187 = .ok (.imul, 1) := by decide +kernel
theorem d_M_lay_188 : decode b_M_lay 188 = .ok (.iastore, 1) := by decide +kernel
theorem d_M_lay_189 : decode b_M_lay 189 = .ok (.iinc 8 1, 3) := by decide +kernel
theorem d_M_lay_192 : decode b_M_lay 192 = .ok (.goto (-148), 3) := by decide +kernel
theorem d_M_lay_195 : decode b_M_lay 195 = .ok (.aload_n 0, 1) := by decide +kernel
theorem d_M_lay_196 : decode b_M_lay 196 = .ok (.getfield 77, 3) := by decide +kernel
theorem d_M_lay_199 : decode b_M_lay 199 = .ok (.iload_n 1, 1) := by decide +kernel
theorem d_M_lay_200 : decode b_M_lay 200 = .ok (.iload 7, 2) := by decide +kernel
theorem d_M_lay_202 : decode b_M_lay 202 = .ok (.iconst 1, 1) := by decide +kernel
theorem d_M_lay_203 : decode b_M_lay 203 = .ok (.iadd, 1) := by decide +kernel
theorem d_M_lay_204 : decode b_M_lay 204 = .ok (.iastore, 1) := by decide +kernel
theorem d_M_lay_205 : decode b_M_lay 205 = .ok (.return_, 1) := by decide +kernel
theorem d_M_keepsOwn_0 : decode b_M_keepsOwn 0 = .ok (.aload_n 0, 1) := by decide +kernel
theorem d_M_keepsOwn_1 : decode b_M_keepsOwn 1 = .ok (.getfield 71, 3) := by decide +kernel
theorem d_M_keepsOwn_4 : decode b_M_keepsOwn 4 = .ok (.iload_n 1, 1) := by decide +kernel
theorem d_M_keepsOwn_5 : decode b_M_keepsOwn 5 = .ok (.iaload, 1) := by decide +kernel
theorem d_M_keepsOwn_6 : decode b_M_keepsOwn 6 = .ok (.istore_n 3, 1) := by decide +kernel
theorem d_M_keepsOwn_7 : decode b_M_keepsOwn 7 = .ok (.iload_n 3, 1) := by decide +kernel
theorem d_M_keepsOwn_8 : decode b_M_keepsOwn 8 = .ok (.aload_n 0, 1) := by decide +kernel
theorem d_M_keepsOwn_9 : decode b_M_keepsOwn 9 = .ok (.getfield 65, 3) := by decide +kernel
theorem d_M_keepsOwn_12 : decode b_M_keepsOwn 12 = .ok (.iload_n 2, 1) := by decide +kernel
theorem d_M_keepsOwn_13 : decode b_M_keepsOwn 13 = .ok (.iaload, 1) := by decide +kernel
theorem d_M_keepsOwn_14 : decode b_M_keepsOwn 14 = .ok (.if_icmp .lt 30, 3) := by decide +kernel
theorem d_M_keepsOwn_17 : decode b_M_keepsOwn 17 = .ok (.iload_n 3, 1) := by decide +kernel
theorem d_M_keepsOwn_18 : decode b_M_keepsOwn 18 = .ok (.aload_n 0, 1) := by decide +kernel
theorem d_M_keepsOwn_19 : decode b_M_keepsOwn 19 = .ok (.getfield 32, 3) := by decide +kernel
theorem d_M_keepsOwn_22 : decode b_M_keepsOwn 22 = .ok (.iload_n 2, 1) := by decide +kernel
theorem d_M_keepsOwn_23 : decode b_M_keepsOwn 23 = .ok (.iaload, 1) := by decide +kernel
theorem d_M_keepsOwn_24 : decode b_M_keepsOwn 24 = .ok (.if_icmp .lt 20, 3) := by decide +kernel
theorem d_M_keepsOwn_27 : decode b_M_keepsOwn 27 = .ok (.aload_n 0, 1) := by decide +kernel
theorem d_M_keepsOwn_28 : decode b_M_keepsOwn 28 = .ok (.getfield 77, 3) := by decide +kernel
theorem d_M_keepsOwn_31 : decode b_M_keepsOwn 31 = .ok (.iload_n 1, 1) := by decide +kernel
theorem d_M_keepsOwn_32 : decode b_M_keepsOwn 32 = .ok (.iaload, 1) := by decide +kernel
theorem d_M_keepsOwn_33 : decode b_M_keepsOwn 33 = .ok (.iconst 1, 1) := by decide +kernel
theorem d_M_keepsOwn_34 : decode b_M_keepsOwn 34 = .ok (.isub, 1) := by decide +kernel
theorem d_M_keepsOwn_35 : decode b_M_keepsOwn 35 = .ok (.aload_n 0, 1) := by decide +kernel
theorem d_M_keepsOwn_36 : decode b_M_keepsOwn 36 = .ok (.getfield 35, 3) := by decide +kernel
theorem d_M_keepsOwn_39 : decode b_M_keepsOwn 39 = .ok (.iload_n 2, 1) := by decide +kernel
theorem d_M_keepsOwn_40 : decode b_M_keepsOwn 40 = .ok (.iaload, 1) := by decide +kernel
theorem d_M_keepsOwn_41 : decode b_M_keepsOwn 41 = .ok (.if_icmp .le 5, 3) := by decide +kernel
theorem d_M_keepsOwn_44 : decode b_M_keepsOwn 44 = .ok (.iconst 0, 1) := by decide +kernel
theorem d_M_keepsOwn_45 : decode b_M_keepsOwn 45 = .ok (.ireturn, 1) := by decide +kernel
theorem d_M_keepsOwn_46 : decode b_M_keepsOwn 46 = .ok (.iconst 0, 1) := by decide +kernel
theorem d_M_keepsOwn_47 : decode b_M_keepsOwn 47 = .ok (.istore 4, 2) := by decide +kernel
theorem d_M_keepsOwn_49 : decode b_M_keepsOwn 49 = .ok (.iload 4, 2) := by decide +kernel
theorem d_M_keepsOwn_51 : decode b_M_keepsOwn 51 = .ok (.aload_n 0, 1) := by decide +kernel
theorem d_M_keepsOwn_52 : decode b_M_keepsOwn 52 = .ok (.getfield 117, 3) := by decide +kernel
theorem d_M_keepsOwn_55 : decode b_M_keepsOwn 55 = .ok (.if_icmp .ge 57, 3) := by decide +kernel
theorem d_M_keepsOwn_58 : decode b_M_keepsOwn 58 = .ok (.aload_n 0, 1) := by decide +kernel
theorem d_M_keepsOwn_59 : decode b_M_keepsOwn 59 = .ok (.getfield 38, 3) := by decide +kernel
theorem d_M_keepsOwn_62 : decode b_M_keepsOwn 62 = .ok (.iload 4, 2) := by decide +kernel
theorem d_M_keepsOwn_64 : decode b_M_keepsOwn 64 = .ok (.iaload, 1) := by decide +kernel
theorem d_M_keepsOwn_65 : decode b_M_keepsOwn 65 = .ok (.iload_n 2, 1) := by decide +kernel
theorem d_M_keepsOwn_66 : decode b_M_keepsOwn 66 = .ok (.if_icmp .ne 40, 3) := by decide +kernel
theorem d_M_keepsOwn_69 : decode b_M_keepsOwn 69 = .ok (.aload_n 0, 1) := by decide +kernel
theorem d_M_keepsOwn_70 : decode b_M_keepsOwn 70 = .ok (.getfield 80, 3) := by decide +kernel
theorem d_M_keepsOwn_73 : decode b_M_keepsOwn 73 = .ok (.sipush 201, 3) := by decide +kernel
theorem d_M_keepsOwn_76 : decode b_M_keepsOwn 76 = .ok (.iload_n 1, 1) := by decide +kernel
theorem d_M_keepsOwn_77 : decode b_M_keepsOwn 77 = .ok (.imul, 1) := by decide +kernel
theorem d_M_keepsOwn_78 : decode b_M_keepsOwn 78 = .ok (.aload_n 0, 1) := by decide +kernel
theorem d_M_keepsOwn_79 : decode b_M_keepsOwn 79 = .ok (.getfield 41, 3) := by decide +kernel
theorem d_M_keepsOwn_82 : decode b_M_keepsOwn 82 = .ok (.iload 4, 2) := by decide +kernel
theorem d_M_keepsOwn_84 : decode b_M_keepsOwn 84 = .ok (.iaload, 1) := by decide +kernel
theorem d_M_keepsOwn_85 : decode b_M_keepsOwn 85 = .ok (.iadd, 1) := by decide +kernel
theorem d_M_keepsOwn_86 : decode b_M_keepsOwn 86 = .ok (.iaload, 1) := by decide +kernel
theorem d_M_keepsOwn_87 : decode b_M_keepsOwn 87 = .ok (.aload_n 0, 1) := by decide +kernel
theorem d_M_keepsOwn_88 : decode b_M_keepsOwn 88 = .ok (.getfield 44, 3) := by decide +kernel
theorem d_M_keepsOwn_91 : decode b_M_keepsOwn 91 = .ok (.iload 4, 2) := by decide +kernel
theorem d_M_keepsOwn_93 : decode b_M_keepsOwn 93 = .ok (.iaload, 1) := by decide +kernel
theorem d_M_keepsOwn_94 : decode b_M_keepsOwn 94 = .ok (.aload_n 0, 1) := by decide +kernel
theorem d_M_keepsOwn_95 : decode b_M_keepsOwn 95 = .ok (.getfield 22, 3) := by decide +kernel
theorem d_M_keepsOwn_98 : decode b_M_keepsOwn 98 = .ok (.iload_n 2, 1) := by decide +kernel
theorem d_M_keepsOwn_99 : decode b_M_keepsOwn 99 = .ok (.iaload, 1) := by decide +kernel
theorem d_M_keepsOwn_100 : decode b_M_keepsOwn 100 = .ok (.imul, 1) := by decide +kernel
theorem d_M_keepsOwn_101 : decode b_M_keepsOwn 101 = .ok (.if_icmp .ge 5, 3) := by decide +kernel
theorem d_M_keepsOwn_104 : decode b_M_keepsOwn 104 = .ok (.iconst 0, 1) := by decide +kernel
theorem d_M_keepsOwn_105 : decode b_M_keepsOwn 105 = .ok (.ireturn, 1) := by decide +kernel
theorem d_M_keepsOwn_106 : decode b_M_keepsOwn 106 = .ok (.iinc 4 1, 3) := by decide +kernel
theorem d_M_keepsOwn_109 : decode b_M_keepsOwn 109 = .ok (.goto (-60), 3) := by decide +kernel
theorem d_M_keepsOwn_112 : decode b_M_keepsOwn 112 = .ok (.iconst 1, 1) := by decide +kernel
theorem d_M_keepsOwn_113 : decode b_M_keepsOwn 113 = .ok (.ireturn, 1) := by decide +kernel
theorem d_M_comesAfter_0 : decode b_M_comesAfter 0 = .ok (.aload_n 0, 1) := by decide +kernel
theorem d_M_comesAfter_1 : decode b_M_comesAfter 1 = .ok (.getfield 29, 3) := by decide +kernel
theorem d_M_comesAfter_4 : decode b_M_comesAfter 4 = .ok (.bipush 6, 2) := by decide +kernel
theorem d_M_comesAfter_6 : decode b_M_comesAfter 6 = .ok (.iload_n 2, 1) := by decide +kernel
theorem d_M_comesAfter_7 : decode b_M_comesAfter 7 = .ok (.imul, 1) := by decide +kernel
theorem d_M_comesAfter_8 : decode b_M_comesAfter 8 = .ok (.iload 4, 2) := by decide +kernel
theorem d_M_comesAfter_10 : decode b_M_comesAfter 10 = .ok (.iadd, 1) := by decide +kernel
theorem d_M_comesAfter_11 : decode b_M_comesAfter 11 = .ok (.iaload, 1) := by decide +kernel
theorem d_M_comesAfter_12 : decode b_M_comesAfter 12 = .ok (.istore 5, 2) := by decide +kernel
theorem d_M_comesAfter_14 : decode b_M_comesAfter 14 = .ok (.aload_n 0, 1) := by decide +kernel
theorem d_M_comesAfter_15 : decode b_M_comesAfter 15 = .ok (.getfield 16, 3) := by decide +kernel
theorem d_M_comesAfter_18 : decode b_M_comesAfter 18 = .ok (.iload_n 2, 1) := by decide +kernel
theorem d_M_comesAfter_19 : decode b_M_comesAfter 19 = .ok (.iaload, 1) := by decide +kernel
theorem d_M_comesAfter_20 : decode b_M_comesAfter 20 = .ok (.aload_n 0, 1) := by decide +kernel
theorem d_M_comesAfter_21 : decode b_M_comesAfter 21 = .ok (.getfield 16, 3) := by decide +kernel
theorem d_M_comesAfter_24 : decode b_M_comesAfter 24 = .ok (.iload 4, 2) := by decide +kernel
theorem d_M_comesAfter_26 : decode b_M_comesAfter 26 = .ok (.iaload, 1) := by decide +kernel
theorem d_M_comesAfter_27 : decode b_M_comesAfter 27 = .ok (.if_icmp .le 12, 3) := by decide +kernel
theorem d_M_comesAfter_30 : decode b_M_comesAfter 30 = .ok (.aload_n 0, 1) := by decide +kernel
theorem d_M_comesAfter_31 : decode b_M_comesAfter 31 = .ok (.getfield 16, 3) := by decide +kernel
theorem d_M_comesAfter_34 : decode b_M_comesAfter 34 = .ok (.iload_n 2, 1) := by decide +kernel
theorem d_M_comesAfter_35 : decode b_M_comesAfter 35 = .ok (.iaload, 1) := by decide +kernel
theorem d_M_comesAfter_36 : decode b_M_comesAfter 36 = .ok (.goto 10, 3) := by decide +kernel
theorem d_M_comesAfter_39 : decode b_M_comesAfter 39 = .ok (.aload_n 0, 1) := by decide +kernel
theorem d_M_comesAfter_40 : decode b_M_comesAfter 40 = .ok (.getfield 16, 3) := by decide +kernel
theorem d_M_comesAfter_43 : decode b_M_comesAfter 43 = .ok (.iload 4, 2) := by decide +kernel
theorem d_M_comesAfter_45 : decode b_M_comesAfter 45 = .ok (.iaload, 1) := by decide +kernel
theorem d_M_comesAfter_46 : decode b_M_comesAfter 46 = .ok (.istore 6, 2) := by decide +kernel
theorem d_M_comesAfter_48 : decode b_M_comesAfter 48 = .ok (.aload_n 0, 1) := by decide +kernel
theorem d_M_comesAfter_49 : decode b_M_comesAfter 49 = .ok (.getfield 19, 3) := by decide +kernel
theorem d_M_comesAfter_52 : decode b_M_comesAfter 52 = .ok (.iload_n 2, 1) := by decide +kernel
theorem d_M_comesAfter_53 : decode b_M_comesAfter 53 = .ok (.iaload, 1) := by decide +kernel
theorem d_M_comesAfter_54 : decode b_M_comesAfter 54 = .ok (.aload_n 0, 1) := by decide +kernel
theorem d_M_comesAfter_55 : decode b_M_comesAfter 55 = .ok (.getfield 19, 3) := by decide +kernel
theorem d_M_comesAfter_58 : decode b_M_comesAfter 58 = .ok (.iload 4, 2) := by decide +kernel
theorem d_M_comesAfter_60 : decode b_M_comesAfter 60 = .ok (.iaload, 1) := by decide +kernel
theorem d_M_comesAfter_61 : decode b_M_comesAfter 61 = .ok (.if_icmp .ge 12, 3) := by decide +kernel
theorem d_M_comesAfter_64 : decode b_M_comesAfter 64 = .ok (.aload_n 0, 1) := by decide +kernel
theorem d_M_comesAfter_65 : decode b_M_comesAfter 65 = .ok (.getfield 19, 3) := by decide +kernel
theorem d_M_comesAfter_68 : decode b_M_comesAfter 68 = .ok (.iload_n 2, 1) := by decide +kernel
theorem d_M_comesAfter_69 : decode b_M_comesAfter 69 = .ok (.iaload, 1) := by decide +kernel
theorem d_M_comesAfter_70 : decode b_M_comesAfter 70 = .ok (.goto 10, 3) := by decide +kernel
theorem d_M_comesAfter_73 : decode b_M_comesAfter 73 = .ok (.aload_n 0, 1) := by decide +kernel
theorem d_M_comesAfter_74 : decode b_M_comesAfter 74 = .ok (.getfield 19, 3) := by decide +kernel
theorem d_M_comesAfter_77 : decode b_M_comesAfter 77 = .ok (.iload 4, 2) := by decide +kernel
theorem d_M_comesAfter_79 : decode b_M_comesAfter 79 = .ok (.iaload, 1) := by decide +kernel
theorem d_M_comesAfter_80 : decode b_M_comesAfter 80 = .ok (.istore 7, 2) := by decide +kernel
theorem d_M_comesAfter_82 : decode b_M_comesAfter 82 = .ok (.iload 6, 2) := by decide +kernel
theorem d_M_comesAfter_84 : decode b_M_comesAfter 84 = .ok (.istore 8, 2) := by decide +kernel
theorem d_M_comesAfter_86 : decode b_M_comesAfter 86 = .ok (.iload 8, 2) := by decide +kernel
theorem d_M_comesAfter_88 : decode b_M_comesAfter 88 = .ok (.iload 7, 2) := by decide +kernel
theorem d_M_comesAfter_90 : decode b_M_comesAfter 90 = .ok (.if_icmp .gt 81, 3) := by decide +kernel
theorem d_M_comesAfter_93 : decode b_M_comesAfter 93 = .ok (.iload 5, 2) := by decide +kernel
theorem d_M_comesAfter_95 : decode b_M_comesAfter 95 = .ok (.ifCond .lt 76, 3) := by decide +kernel
theorem d_M_comesAfter_98 : decode b_M_comesAfter 98 = .ok (.aload_n 0, 1) := by decide +kernel
theorem d_M_comesAfter_99 : decode b_M_comesAfter 99 = .ok (.getfield 83, 3) := by decide +kernel
theorem d_M_comesAfter_102 : decode b_M_comesAfter 102 = .ok (.sipush 201, 3) := by decide +kernel
theorem d_M_comesAfter_105 : decode b_M_comesAfter 105 = .ok (.iload_n 1, 1) := by decide +kernel
theorem d_M_comesAfter_106 : decode b_M_comesAfter 106 = .ok (.imul, 1) := by decide +kernel
theorem d_M_comesAfter_107 : decode b_M_comesAfter 107 = .ok (.iload 8, 2) := by decide +kernel
theorem d_M_comesAfter_109 : decode b_M_comesAfter 109 = .ok (.iadd, 1) := by decide +kernel
theorem d_M_comesAfter_110 : decode b_M_comesAfter 110 = .ok (.iaload, 1) := by decide +kernel
theorem d_M_comesAfter_111 : decode b_M_comesAfter 111 = .ok (.i2l, 1) := by decide +kernel
theorem d_M_comesAfter_112 : decode b_M_comesAfter 112 = .ok (.iload 5, 2) := by decide +kernel
theorem d_M_comesAfter_114 : decode b_M_comesAfter 114 = .ok (.i2l, 1) := by decide +kernel
theorem d_M_comesAfter_115 : decode b_M_comesAfter 115 = .ok (.aload_n 0, 1) := by decide +kernel
theorem d_M_comesAfter_116 : decode b_M_comesAfter 116 = .ok (.getfield 22, 3) := by decide +kernel
theorem d_M_comesAfter_119 : decode b_M_comesAfter 119 = .ok (.iload_n 2, 1) := by decide +kernel
theorem d_M_comesAfter_120 : decode b_M_comesAfter 120 = .ok (.iaload, 1) := by decide +kernel
theorem d_M_comesAfter_121 : decode b_M_comesAfter 121 = .ok (.i2l, 1) := by decide +kernel
theorem d_M_comesAfter_122 : decode b_M_comesAfter 122 = .ok (.lmul, 1) := by decide +kernel
theorem d_M_comesAfter_123 : decode b_M_comesAfter 123 = .ok (.ladd, 1) := by decide +kernel
theorem d_M_comesAfter_124 : decode b_M_comesAfter 124 = .ok (.lstore 9, 2) := by decide +kernel
theorem d_M_comesAfter_126 : decode b_M_comesAfter 126 = .ok (.aload_n 0, 1) := by decide +kernel
theorem d_M_comesAfter_127 : decode b_M_comesAfter 127 = .ok (.getfield 80, 3) := by decide +kernel
theorem d_M_comesAfter_130 : decode b_M_comesAfter 130 = .ok (.sipush 201, 3) := by decide +kernel
theorem d_M_comesAfter_133 : decode b_M_comesAfter 133 = .ok (.iload_n 3, 1) := by decide +kernel
theorem d_M_comesAfter_134 : decode b_M_comesAfter 134 = .ok (.imul, 1) := by decide +kernel
theorem d_M_comesAfter_135 : decode b_M_comesAfter 135 = .ok (.iload 8, 2) := by decide +kernel
theorem d_M_comesAfter_137 : decode b_M_comesAfter 137 = .ok (.iadd, 1) := by decide +kernel
theorem d_M_comesAfter_138 : decode b_M_comesAfter 138 = .ok (.iaload, 1) := by decide +kernel
theorem d_M_comesAfter_139 : decode b_M_comesAfter 139 = .ok (.i2l, 1) := by decide +kernel
theorem d_M_comesAfter_140 : decode b_M_comesAfter 140 = .ok (.aload_n 0, 1) := by decide +kernel
theorem d_M_comesAfter_141 : decode b_M_comesAfter 141 = .ok (.getfield 22, 3) := by decide +kernel
theorem d_M_comesAfter_144 : decode b_M_comesAfter 144 = .ok (.iload_n 2, 1) := by decide +kernel
theorem d_M_comesAfter_145 : decode b_M_comesAfter 145 = .ok (.iaload, 1) := by decide +kernel
theorem d_M_comesAfter_146 : decode b_M_comesAfter 146 = .ok (.i2l, 1) := by decide +kernel
theorem d_M_comesAfter_147 : decode b_M_comesAfter 147 = .ok (.lmul, 1) := by decide +kernel
theorem d_M_comesAfter_148 : decode b_M_comesAfter 148 = .ok (.lload 9, 2) := by decide +kernel
theorem d_M_comesAfter_150 : decode b_M_comesAfter 150 = .ok (.aload_n 0, 1) := by decide +kernel
theorem d_M_comesAfter_151 : decode b_M_comesAfter 151 = .ok (.getfield 22, 3) := by decide +kernel
theorem d_M_comesAfter_154 : decode b_M_comesAfter 154 = .ok (.iload 4, 2) := by decide +kernel
theorem d_M_comesAfter_156 : decode b_M_comesAfter 156 = .ok (.iaload, 1) := by decide +kernel
theorem d_M_comesAfter_157 : decode b_M_comesAfter 157 = .ok (.i2l, 1) := by decide +kernel
theorem d_M_comesAfter_158 : decode b_M_comesAfter 158 = .ok (.lmul, 1) := by decide +kernel
theorem d_M_comesAfter_159 : decode b_M_comesAfter 159 = .ok (.lcmp, 1) := by decide +kernel
theorem d_M_comesAfter_160 : decode b_M_comesAfter 160 = .ok (.ifCond .ge 5, 3) := by decide +kernel
theorem d_M_comesAfter_163 : decode b_M_comesAfter 163 = .ok (.iconst 0, 1) := by decide +kernel
theorem d_M_comesAfter_164 : decode b_M_comesAfter 164 = .ok (.ireturn, 1) := by decide +kernel
theorem d_M_comesAfter_165 : decode b_M_comesAfter 165 = .ok (.iinc 8 1, 3) := by decide +kernel
theorem d_M_comesAfter_168 : decode b_M_comesAfter 168 = .ok (.goto (-82), 3) := by decide +kernel
theorem d_M_comesAfter_171 : decode b_M_comesAfter 171 = .ok (.iconst 1, 1) := by decide +kernel
theorem d_M_comesAfter_172 : decode b_M_comesAfter 172 = .ok (.ireturn, 1) := by decide +kernel
theorem d_M_goesWith_0 : decode b_M_goesWith 0 = .ok (.aload_n 0, 1) := by decide +kernel
theorem d_M_goesWith_1 : decode b_M_goesWith 1 = .ok (.getfield 13, 3) := by decide +kernel
theorem d_M_goesWith_4 : decode b_M_goesWith 4 = .ok (.iload_n 2, 1) := by decide +kernel
theorem d_M_goesWith_5 : decode b_M_goesWith 5 = .ok (.iaload, 1) := by decide +kernel
theorem d_M_goesWith_6 : decode b_M_goesWith 6 = .ok (.aload_n 0, 1) := by decide +kernel
theorem d_M_goesWith_7 : decode b_M_goesWith 7 = .ok (.getfield 13, 3) := by decide +kernel
theorem d_M_goesWith_10 : decode b_M_goesWith 10 = .ok (.iload 4, 2) := by decide +kernel
theorem d_M_goesWith_12 : decode b_M_goesWith 12 = .ok (.iaload, 1) := by decide +kernel
theorem d_M_goesWith_13 : decode b_M_goesWith 13 = .ok (.if_icmp .ne 33, 3) := by decide +kernel
theorem d_M_goesWith_16 : decode b_M_goesWith 16 = .ok (.aload_n 0, 1) := by decide +kernel
theorem d_M_goesWith_17 : decode b_M_goesWith 17 = .ok (.getfield 77, 3) := by decide +kernel
theorem d_M_goesWith_20 : decode b_M_goesWith 20 = .ok (.iload_n 1, 1) := by decide +kernel
theorem d_M_goesWith_21 : decode b_M_goesWith 21 = .ok (.iaload, 1) := by decide +kernel
theorem d_M_goesWith_22 : decode b_M_goesWith 22 = .ok (.aload_n 0, 1) := by decide +kernel
theorem d_M_goesWith_23 : decode b_M_goesWith 23 = .ok (.getfield 71, 3) := by decide +kernel
theorem d_M_goesWith_26 : decode b_M_goesWith 26 = .ok (.iload_n 3, 1) := by decide +kernel
theorem d_M_goesWith_27 : decode b_M_goesWith 27 = .ok (.iaload, 1) := by decide +kernel
theorem d_M_goesWith_28 : decode b_M_goesWith 28 = .ok (.if_icmp .le 18, 3) := by decide +kernel
theorem d_M_goesWith_31 : decode b_M_goesWith 31 = .ok (.aload_n 0, 1) := by decide +kernel
theorem d_M_goesWith_32 : decode b_M_goesWith 32 = .ok (.getfield 77, 3) := by decide +kernel
theorem d_M_goesWith_35 : decode b_M_goesWith 35 = .ok (.iload_n 3, 1) := by decide +kernel
theorem d_M_goesWith_36 : decode b_M_goesWith 36 = .ok (.iaload, 1) := by decide +kernel
theorem d_M_goesWith_37 : decode b_M_goesWith 37 = .ok (.aload_n 0, 1) := by decide +kernel
theorem d_M_goesWith_38 : decode b_M_goesWith 38 = .ok (.getfield 71, 3) := by decide +kernel
theorem d_M_goesWith_41 : decode b_M_goesWith 41 = .ok (.iload_n 1, 1) := by decide +kernel
theorem d_M_goesWith_42 : decode b_M_goesWith 42 = .ok (.iaload, 1) := by decide +kernel
theorem d_M_goesWith_43 : decode b_M_goesWith 43 = .ok (.if_icmp .gt 7, 3) := by decide +kernel
theorem d_M_goesWith_46 : decode b_M_goesWith 46 = .ok (.iconst 1, 1) := by decide +kernel
theorem d_M_goesWith_47 : decode b_M_goesWith 47 = .ok (.goto 4, 3) := by decide +kernel
theorem d_M_goesWith_50 : decode b_M_goesWith 50 = .ok (.iconst 0, 1) := by decide +kernel
theorem d_M_goesWith_51 : decode b_M_goesWith 51 = .ok (.istore 5, 2) := by decide +kernel
theorem d_M_goesWith_53 : decode b_M_goesWith 53 = .ok (.iload 5, 2) := by decide +kernel
theorem d_M_goesWith_55 : decode b_M_goesWith 55 = .ok (.ifCond .eq 31, 3) := by decide +kernel
theorem d_M_goesWith_58 : decode b_M_goesWith 58 = .ok (.aload_n 0, 1) := by decide +kernel
theorem d_M_goesWith_59 : decode b_M_goesWith 59 = .ok (.iload_n 1, 1) := by decide +kernel
theorem d_M_goesWith_60 : decode b_M_goesWith 60 = .ok (.iload_n 2, 1) := by decide +kernel
theorem d_M_goesWith_61 : decode b_M_goesWith 61 = .ok (.iload_n 3, 1) := by decide +kernel
theorem d_M_goesWith_62 : decode b_M_goesWith 62 = .ok (.iload 4, 2) := by decide +kernel
theorem d_M_goesWith_64 : decode b_M_goesWith 64 = .ok (.invokevirtual 130, 3) := by decide +kernel
theorem d_M_goesWith_67 : decode b_M_goesWith 67 = .ok (.ifCond .eq 19, 3) := by decide +kernel
theorem d_M_goesWith_70 : decode b_M_goesWith 70 = .ok (.aload_n 0, 1) := by decide +kernel
theorem d_M_goesWith_71 : decode b_M_goesWith 71 = .ok (.iload_n 3, 1) := by decide +kernel
theorem d_M_goesWith_72 : decode b_M_goesWith 72 = .ok (.iload 4, 2) := by decide +kernel
theorem d_M_goesWith_74 : decode b_M_goesWith 74 = .ok (.iload_n 1, 1) := by decide +kernel
theorem d_M_goesWith_75 : decode b_M_goesWith 75 = .ok (.iload_n 2, 1) := by decide +kernel
theorem d_M_goesWith_76 : decode b_M_goesWith 76 = .ok (.invokevirtual 130, 3) := by decide +kernel
theorem d_M_goesWith_79 : decode b_M_goesWith 79 = .ok (.ifCond .eq 7, 3) := by decide +kernel
theorem d_M_goesWith_82 : decode b_M_goesWith 82 = .ok (.iconst 1, 1) := by decide +kernel
theorem d_M_goesWith_83 : decode b_M_goesWith 83 = .ok (.goto 4, 3) := by decide +kernel
theorem d_M_goesWith_86 : decode b_M_goesWith 86 = .ok (.iconst 0, 1) := by decide +kernel
theorem d_M_goesWith_87 : decode b_M_goesWith 87 = .ok (.ireturn, 1) := by decide +kernel
theorem d_M_isUnder_0 : decode b_M_isUnder 0 = .ok (.iload_n 2, 1) := by decide +kernel
theorem d_M_isUnder_1 : decode b_M_isUnder 1 = .ok (.aload_n 0, 1) := by decide +kernel
theorem d_M_isUnder_2 : decode b_M_isUnder 2 = .ok (.getfield 71, 3) := by decide +kernel
theorem d_M_isUnder_5 : decode b_M_isUnder 5 = .ok (.iload_n 1, 1) := by decide +kernel
theorem d_M_isUnder_6 : decode b_M_isUnder 6 = .ok (.iaload, 1) := by decide +kernel
theorem d_M_isUnder_7 : decode b_M_isUnder 7 = .ok (.if_icmp .lt 25, 3) := by decide +kernel
theorem d_M_isUnder_10 : decode b_M_isUnder 10 = .ok (.iload_n 2, 1) := by decide +kernel
theorem d_M_isUnder_11 : decode b_M_isUnder 11 = .ok (.aload_n 0, 1) := by decide +kernel
theorem d_M_isUnder_12 : decode b_M_isUnder 12 = .ok (.getfield 77, 3) := by decide +kernel
theorem d_M_isUnder_15 : decode b_M_isUnder 15 = .ok (.iload_n 1, 1) := by decide +kernel
theorem d_M_isUnder_16 : decode b_M_isUnder 16 = .ok (.iaload, 1) := by decide +kernel
theorem d_M_isUnder_17 : decode b_M_isUnder 17 = .ok (.if_icmp .ge 15, 3) := by decide +kernel
theorem d_M_isUnder_20 : decode b_M_isUnder 20 = .ok (.aload_n 0, 1) := by decide +kernel
theorem d_M_isUnder_21 : decode b_M_isUnder 21 = .ok (.iload_n 2, 1) := by decide +kernel
theorem d_M_isUnder_22 : decode b_M_isUnder 22 = .ok (.invokevirtual 123, 3) := by decide +kernel
theorem d_M_isUnder_25 : decode b_M_isUnder 25 = .ok (.ifCond .ne 7, 3) := by decide +kernel
theorem d_M_isUnder_28 : decode b_M_isUnder 28 = .ok (.iconst 1, 1) := by decide +kernel
theorem d_M_isUnder_29 : decode b_M_isUnder 29 = .ok (.goto 4, 3) := by decide +kernel
theorem d_M_isUnder_32 : decode b_M_isUnder 32 = .ok (.iconst 0, 1) := by decide +kernel
theorem d_M_isUnder_33 : decode b_M_isUnder 33 = .ok (.ireturn, 1) := by decide +kernel
theorem d_M_keepsAll_0 : decode b_M_keepsAll 0 = .ok (.aload_n 0, 1) := by decide +kernel
theorem d_M_keepsAll_1 : decode b_M_keepsAll 1 = .ok (.iload_n 1, 1) := by decide +kernel
theorem d_M_keepsAll_2 : decode b_M_keepsAll 2 = .ok (.iload_n 2, 1) := by decide +kernel
theorem d_M_keepsAll_3 : decode b_M_keepsAll 3 = .ok (.invokevirtual 134, 3) := by decide +kernel
theorem d_M_keepsAll_6 : decode b_M_keepsAll 6 = .ok (.ifCond .ne 5, 3) := by decide +kernel
theorem d_M_keepsAll_9 : decode b_M_keepsAll 9 = .ok (.iconst 0, 1) := by decide +kernel
theorem d_M_keepsAll_10 : decode b_M_keepsAll 10 = .ok (.ireturn, 1) := by decide +kernel
theorem d_M_keepsAll_11 : decode b_M_keepsAll 11 = .ok (.iconst 0, 1) := by decide +kernel
theorem d_M_keepsAll_12 : decode b_M_keepsAll 12 = .ok (.istore 4, 2) := by decide +kernel
theorem d_M_keepsAll_14 : decode b_M_keepsAll 14 = .ok (.iload 4, 2) := by decide +kernel
theorem d_M_keepsAll_16 : decode b_M_keepsAll 16 = .ok (.iload_n 3, 1) := by decide +kernel
theorem d_M_keepsAll_17 : decode b_M_keepsAll 17 = .ok (.if_icmp .ge 30, 3) := by decide +kernel
theorem d_M_keepsAll_20 : decode b_M_keepsAll 20 = .ok (.iload 4, 2) := by decide +kernel
theorem d_M_keepsAll_22 : decode b_M_keepsAll 22 = .ok (.iload_n 2, 1) := by decide +kernel
theorem d_M_keepsAll_23 : decode b_M_keepsAll 23 = .ok (.if_icmp .eq 18, 3) := by decide +kernel
theorem d_M_keepsAll_26 : decode b_M_keepsAll 26 = .ok (.aload_n 0, 1) := by decide +kernel
theorem d_M_keepsAll_27 : decode b_M_keepsAll 27 = .ok (.iload_n 1, 1) := by decide +kernel
theorem d_M_keepsAll_28 : decode b_M_keepsAll 28 = .ok (.iload_n 2, 1) := by decide +kernel
theorem d_M_keepsAll_29 : decode b_M_keepsAll 29 = .ok (.iload 4, 2) := by decide +kernel
theorem d_M_keepsAll_31 : decode b_M_keepsAll 31 = .ok (.iload 4, 2) := by decide +kernel
theorem d_M_keepsAll_33 : decode b_M_keepsAll 33 = .ok (.invokevirtual 138, 3) := by decide +kernel
theorem d_M_keepsAll_36 : decode b_M_keepsAll 36 = .ok (.ifCond .ne 5, 3) := by decide +kernel
theorem d_M_keepsAll_39 : decode b_M_keepsAll 39 = .ok (.iconst 0, 1) := by decide +kernel
theorem d_M_keepsAll_40 : decode b_M_keepsAll 40 = .ok (.ireturn, 1) := by decide +kernel
theorem d_M_keepsAll_41 : decode b_M_keepsAll 41 = .ok (.iinc 4 1, 3) := by decide +kernel
theorem d_M_keepsAll_44 : decode b_M_keepsAll 44 = .ok (.goto (-30), 3) := by decide +kernel
theorem d_M_keepsAll_47 : decode b_M_keepsAll 47 = .ok (.aload_n 0, 1) := by decide +kernel
theorem d_M_keepsAll_48 : decode b_M_keepsAll 48 = .ok (.getfield 7, 3) := by decide +kernel
theorem d_M_keepsAll_51 : decode b_M_keepsAll 51 = .ok (.aload_n 0, 1) := by decide +kernel
theorem d_M_keepsAll_52 : decode b_M_keepsAll 52 = .ok (.getfield 13, 3) := by decide +kernel
theorem d_M_keepsAll_55 : decode b_M_keepsAll 55 = .ok (.iload_n 2, 1) := by decide +kernel
theorem d_M_keepsAll_56 : decode b_M_keepsAll 56 = .ok (.iaload, 1) := by decide +kernel
theorem d_M_keepsAll_57 : decode b_M_keepsAll 57 = .ok (.iaload, 1) := by decide +kernel
theorem d_M_keepsAll_58 : decode b_M_keepsAll 58 = .ok (.istore 4, 2) := by decide +kernel
theorem d_M_keepsAll_60 : decode b_M_keepsAll 60 = .ok (.aload_n 0, 1) := by decide +kernel
theorem d_M_keepsAll_61 : decode b_M_keepsAll 61 = .ok (.getfield 71, 3) := by decide +kernel
theorem d_M_keepsAll_64 : decode b_M_keepsAll 64 = .ok (.iload_n 1, 1) := by decide +kernel
theorem d_M_keepsAll_65 : decode b_M_keepsAll 65 = .ok (.iaload, 1) := by decide +kernel
theorem d_M_keepsAll_66 : decode b_M_keepsAll 66 = .ok (.istore 5, 2) := by decide +kernel
theorem d_M_keepsAll_68 : decode b_M_keepsAll 68 = .ok (.iload 5, 2) := by decide +kernel
theorem d_M_keepsAll_70 : decode b_M_keepsAll 70 = .ok (.aload_n 0, 1) := by decide +kernel
theorem d_M_keepsAll_71 : decode b_M_keepsAll 71 = .ok (.getfield 77, 3) := by decide +kernel
theorem d_M_keepsAll_74 : decode b_M_keepsAll 74 = .ok (.iload_n 1, 1) := by decide +kernel
theorem d_M_keepsAll_75 : decode b_M_keepsAll 75 = .ok (.iaload, 1) := by decide +kernel
theorem d_M_keepsAll_76 : decode b_M_keepsAll 76 = .ok (.if_icmp .ge 104, 3) := by decide +kernel
theorem d_M_keepsAll_79 : decode b_M_keepsAll 79 = .ok (.aload_n 0, 1) := by decide +kernel
theorem d_M_keepsAll_80 : decode b_M_keepsAll 80 = .ok (.iload_n 1, 1) := by decide +kernel
theorem d_M_keepsAll_81 : decode b_M_keepsAll 81 = .ok (.iload 5, 2) := by decide +kernel
theorem d_M_keepsAll_83 : decode b_M_keepsAll 83 = .ok (.invokevirtual 141, 3) := by decide +kernel
theorem d_M_keepsAll_86 : decode b_M_keepsAll 86 = .ok (.ifCond .eq 7, 3) := by decide +kernel
theorem d_M_keepsAll_89 : decode b_M_keepsAll 89 = .ok (.iconst 1, 1) := by decide +kernel
theorem d_M_keepsAll_90 : decode b_M_keepsAll 90 = .ok (.goto 4, 3) := by decide +kernel
theorem d_M_keepsAll_93 : decode b_M_keepsAll 93 = .ok (.iconst 0, 1) := by decide +kernel
theorem d_M_keepsAll_94 : decode b_M_keepsAll 94 = .ok (.istore 6, 2) := by decide +kernel
theorem d_M_keepsAll_96 : decode b_M_keepsAll 96 = .ok (.iconst 0, 1) := by decide +kernel
theorem d_M_keepsAll_97 : decode b_M_keepsAll 97 = .ok (.istore 7, 2) := by decide +kernel
theorem d_M_keepsAll_99 : decode b_M_keepsAll 99 = .ok (.iload 7, 2) := by decide +kernel
theorem d_M_keepsAll_101 : decode b_M_keepsAll 101 = .ok (.iload_n 3, 1) := by decide +kernel
theorem d_M_keepsAll_102 : decode b_M_keepsAll 102 = .ok (.if_icmp .ge 58, 3) := by decide +kernel
theorem d_M_keepsAll_105 : decode b_M_keepsAll 105 = .ok (.iload 6, 2) := by decide +kernel
theorem d_M_keepsAll_107 : decode b_M_keepsAll 107 = .ok (.ifCond .le 53, 3) := by decide +kernel
theorem d_M_keepsAll_110 : decode b_M_keepsAll 110 = .ok (.iload 6, 2) := by decide +kernel
theorem d_M_keepsAll_112 : decode b_M_keepsAll 112 = .ok (.iload 7, 2) := by decide +kernel
theorem d_M_keepsAll_114 : decode b_M_keepsAll 114 = .ok (.iload_n 2, 1) := by decide +kernel
theorem d_M_keepsAll_115 : decode b_M_keepsAll 115 = .ok (.if_icmp .eq 35, 3) := by decide +kernel
theorem d_M_keepsAll_118 : decode b_M_keepsAll 118 = .ok (.aload_n 0, 1) := by decide +kernel
theorem d_M_keepsAll_119 : decode b_M_keepsAll 119 = .ok (.getfield 7, 3) := by decide +kernel
theorem d_M_keepsAll_122 : decode b_M_keepsAll 122 = .ok (.aload_n 0, 1) := by decide +kernel
theorem d_M_keepsAll_123 : decode b_M_keepsAll 123 = .ok (.getfield 13, 3) := by decide +kernel
theorem d_M_keepsAll_126 : decode b_M_keepsAll 126 = .ok (.iload 7, 2) := by decide +kernel
theorem d_M_keepsAll_128 : decode b_M_keepsAll 128 = .ok (.iaload, 1) := by decide +kernel
theorem d_M_keepsAll_129 : decode b_M_keepsAll 129 = .ok (.iaload, 1) := by decide +kernel
theorem d_M_keepsAll_130 : decode b_M_keepsAll 130 = .ok (.iload 4, 2) := by decide +kernel
theorem d_M_keepsAll_132 : decode b_M_keepsAll 132 = .ok (.if_icmp .ne 18, 3) := by decide +kernel
theorem d_M_keepsAll_135 : decode b_M_keepsAll 135 = .ok (.aload_n 0, 1) := by decide +kernel
theorem d_M_keepsAll_136 : decode b_M_keepsAll 136 = .ok (.iload 7, 2) := by decide +kernel
theorem d_M_keepsAll_138 : decode b_M_keepsAll 138 = .ok (.iload 5, 2) := by decide +kernel
theorem d_M_keepsAll_140 : decode b_M_keepsAll 140 = .ok (.invokevirtual 141, 3) := by decide +kernel
theorem d_M_keepsAll_143 : decode b_M_keepsAll 143 = .ok (.ifCond .eq 7, 3) := by decide +kernel
theorem d_M_keepsAll_146 : decode b_M_keepsAll 146 = .ok (.iconst 1, 1) := by decide +kernel
theorem d_M_keepsAll_147 : decode b_M_keepsAll 147 = .ok (.goto 4, 3) := by decide +kernel
theorem d_M_keepsAll_150 : decode b_M_keepsAll 150 = .ok (.iconst 0, 1) := by decide +kernel
theorem d_M_keepsAll_151 : decode b_M_keepsAll 151 = .ok (.iadd, 1) := by decide +kernel
theorem d_M_keepsAll_152 : decode b_M_keepsAll 152 = .ok (.istore 6, 2) := by decide +kernel
theorem d_M_keepsAll_154 : decode b_M_keepsAll 154 = .ok (.iinc 7 1, 3) := by decide +kernel
theorem d_M_keepsAll_157 : decode b_M_keepsAll 157 = .ok (.goto (-58), 3) := by decide +kernel
theorem d_M_keepsAll_160 : decode b_M_keepsAll 160 = .ok (.iload 6, 2) := by decide +kernel
theorem d_M_keepsAll_162 : decode b_M_keepsAll 162 = .ok (.aload_n 0, 1) := by decide +kernel
theorem d_M_keepsAll_163 : decode b_M_keepsAll 163 = .ok (.getfield 53, 3) := by decide +kernel
theorem d_M_keepsAll_166 : decode b_M_keepsAll 166 = .ok (.iload 4, 2) := by decide +kernel
theorem d_M_keepsAll_168 : decode b_M_keepsAll 168 = .ok (.iaload, 1) := by decide +kernel
theorem d_M_keepsAll_169 : decode b_M_keepsAll 169 = .ok (.if_icmp .le 5, 3) := by decide +kernel
theorem d_M_keepsAll_172 : decode b_M_keepsAll 172 = .ok (.iconst 0, 1) := by decide +kernel
theorem d_M_keepsAll_173 : decode b_M_keepsAll 173 = .ok (.ireturn, 1) := by decide +kernel
theorem d_M_keepsAll_174 : decode b_M_keepsAll 174 = .ok (.iinc 5 1, 3) := by decide +kernel
theorem d_M_keepsAll_177 : decode b_M_keepsAll 177 = .ok (.goto (-109), 3) := by decide +kernel
theorem d_M_keepsAll_180 : decode b_M_keepsAll 180 = .ok (.iconst 1, 1) := by decide +kernel
theorem d_M_keepsAll_181 : decode b_M_keepsAll 181 = .ok (.ireturn, 1) := by decide +kernel
theorem d_M_triesOf_0 : decode b_M_triesOf 0 = .ok (.aload_n 0, 1) := by decide +kernel
theorem d_M_triesOf_1 : decode b_M_triesOf 1 = .ok (.getfield 62, 3) := by decide +kernel
theorem d_M_triesOf_4 : decode b_M_triesOf 4 = .ok (.iload_n 1, 1) := by decide +kernel
theorem d_M_triesOf_5 : decode b_M_triesOf 5 = .ok (.baload, 1) := by decide +kernel
theorem d_M_triesOf_6 : decode b_M_triesOf 6 = .ok (.ifCond .eq 7, 3) := by decide +kernel
theorem d_M_triesOf_9 : decode b_M_triesOf 9 = .ok (.iconst 1, 1) := by decide +kernel
theorem d_M_triesOf_10 : decode b_M_triesOf 10 = .ok (.goto 20, 3) := by decide +kernel
theorem d_M_triesOf_13 : decode b_M_triesOf 13 = .ok (.aload_n 0, 1) := by decide +kernel
theorem d_M_triesOf_14 : decode b_M_triesOf 14 = .ok (.getfield 25, 3) := by decide +kernel
theorem d_M_triesOf_17 : decode b_M_triesOf 17 = .ok (.iload_n 1, 1) := by decide +kernel
theorem d_M_triesOf_18 : decode b_M_triesOf 18 = .ok (.baload, 1) := by decide +kernel
theorem d_M_triesOf_19 : decode b_M_triesOf 19 = .ok (.ifCond .eq 9, 3) := by decide +kernel
theorem d_M_triesOf_22 : decode b_M_triesOf 22 = .ok (.sipush 200, 3) := by decide +kernel
theorem d_M_triesOf_25 : decode b_M_triesOf 25 = .ok (.goto 5, 3) := by decide +kernel
theorem d_M_triesOf_28 : decode b_M_triesOf 28 = .ok (.bipush 100, 2) := by decide +kernel
theorem d_M_triesOf_30 : decode b_M_triesOf 30 = .ok (.ireturn, 1) := by decide +kernel
theorem d_M_movedSoFar_0 : decode b_M_movedSoFar 0 = .ok (.iconst 0, 1) := by decide +kernel
theorem d_M_movedSoFar_1 : decode b_M_movedSoFar 1 = .ok (.istore_n 2, 1) := by decide +kernel
theorem d_M_movedSoFar_2 : decode b_M_movedSoFar 2 = .ok (.iconst 0, 1) := by decide +kernel
theorem d_M_movedSoFar_3 : decode b_M_movedSoFar 3 = .ok (.istore_n 3, 1) := by decide +kernel
theorem d_M_movedSoFar_4 : decode b_M_movedSoFar 4 = .ok (.iload_n 3, 1) := by decide +kernel
theorem d_M_movedSoFar_5 : decode b_M_movedSoFar 5 = .ok (.iload_n 1, 1) := by decide +kernel
theorem d_M_movedSoFar_6 : decode b_M_movedSoFar 6 = .ok (.if_icmp .ge 47, 3) := by decide +kernel
theorem d_M_movedSoFar_9 : decode b_M_movedSoFar 9 = .ok (.iload_n 2, 1) := by decide +kernel
theorem d_M_movedSoFar_10 : decode b_M_movedSoFar 10 = .ok (.aload_n 0, 1) := by decide +kernel
theorem d_M_movedSoFar_11 : decode b_M_movedSoFar 11 = .ok (.getfield 71, 3) := by decide +kernel
theorem d_M_movedSoFar_14 : decode b_M_movedSoFar 14 = .ok (.iload_n 3, 1) := by decide +kernel
theorem d_M_movedSoFar_15 : decode b_M_movedSoFar 15 = .ok (.iaload, 1) := by decide +kernel
theorem d_M_movedSoFar_16 : decode b_M_movedSoFar 16 = .ok (.aload_n 0, 1) := by decide +kernel
theorem d_M_movedSoFar_17 : decode b_M_movedSoFar 17 = .ok (.getfield 56, 3) := by decide +kernel
theorem d_M_movedSoFar_20 : decode b_M_movedSoFar 20 = .ok (.iload_n 3, 1) := by decide +kernel
theorem d_M_movedSoFar_21 : decode b_M_movedSoFar 21 = .ok (.iaload, 1) := by decide +kernel
theorem d_M_movedSoFar_22 : decode b_M_movedSoFar 22 = .ok (.if_icmp .ne 18, 3) := by decide +kernel
theorem d_M_movedSoFar_25 : decode b_M_movedSoFar 25 = .ok (.aload_n 0, 1) := by decide +kernel
theorem d_M_movedSoFar_26 : decode b_M_movedSoFar 26 = .ok (.getfield 74, 3) := by decide +kernel
theorem d_M_movedSoFar_29 : decode b_M_movedSoFar 29 = .ok (.iload_n 3, 1) := by decide +kernel
theorem d_M_movedSoFar_30 : decode b_M_movedSoFar 30 = .ok (.iaload, 1) := by decide +kernel
theorem d_M_movedSoFar_31 : decode b_M_movedSoFar 31 = .ok (.aload_n 0, 1) := by decide +kernel
theorem d_M_movedSoFar_32 : decode b_M_movedSoFar 32 = .ok (.getfield 59, 3) := by decide +kernel
theorem d_M_movedSoFar_35 : decode b_M_movedSoFar 35 = .ok (.iload_n 3, 1) := by decide +kernel
theorem d_M_movedSoFar_36 : decode b_M_movedSoFar 36 = .ok (.iaload, 1) := by decide +kernel
theorem d_M_movedSoFar_37 : decode b_M_movedSoFar 37 = .ok (.if_icmp .eq 7, 3) := by decide +kernel
theorem d_M_movedSoFar_40 : decode b_M_movedSoFar 40 = .ok (.iconst 1, 1) := by decide +kernel
theorem d_M_movedSoFar_41 : decode b_M_movedSoFar 41 = .ok (.goto 4, 3) := by decide +kernel
theorem d_M_movedSoFar_44 : decode b_M_movedSoFar 44 = .ok (.iconst 0, 1) := by decide +kernel
theorem d_M_movedSoFar_45 : decode b_M_movedSoFar 45 = .ok (.iadd, 1) := by decide +kernel
theorem d_M_movedSoFar_46 : decode b_M_movedSoFar 46 = .ok (.istore_n 2, 1) := by decide +kernel
theorem d_M_movedSoFar_47 : decode b_M_movedSoFar 47 = .ok (.iinc 3 1, 3) := by decide +kernel
theorem d_M_movedSoFar_50 : decode b_M_movedSoFar 50 = .ok (.goto (-46), 3) := by decide +kernel
theorem d_M_movedSoFar_53 : decode b_M_movedSoFar 53 = .ok (.iload_n 2, 1) := by decide +kernel
theorem d_M_movedSoFar_54 : decode b_M_movedSoFar 54 = .ok (.ireturn, 1) := by decide +kernel
theorem d_M_greatestEnd_0 : decode b_M_greatestEnd 0 = .ok (.iconst 0, 1) := by decide +kernel
theorem d_M_greatestEnd_1 : decode b_M_greatestEnd 1 = .ok (.istore_n 2, 1) := by decide +kernel
theorem d_M_greatestEnd_2 : decode b_M_greatestEnd 2 = .ok (.iconst 0, 1) := by decide +kernel
theorem d_M_greatestEnd_3 : decode b_M_greatestEnd 3 = .ok (.istore_n 3, 1) := by decide +kernel
theorem d_M_greatestEnd_4 : decode b_M_greatestEnd 4 = .ok (.iload_n 3, 1) := by decide +kernel
theorem d_M_greatestEnd_5 : decode b_M_greatestEnd 5 = .ok (.iload_n 1, 1) := by decide +kernel
theorem d_M_greatestEnd_6 : decode b_M_greatestEnd 6 = .ok (.if_icmp .ge 30, 3) := by decide +kernel
theorem d_M_greatestEnd_9 : decode b_M_greatestEnd 9 = .ok (.aload_n 0, 1) := by decide +kernel
theorem d_M_greatestEnd_10 : decode b_M_greatestEnd 10 = .ok (.getfield 77, 3) := by decide +kernel
theorem d_M_greatestEnd_13 : decode b_M_greatestEnd 13 = .ok (.iload_n 3, 1) := by decide +kernel
theorem d_M_greatestEnd_14 : decode b_M_greatestEnd 14 = .ok (.iaload, 1) := by decide +kernel
theorem d_M_greatestEnd_15 : decode b_M_greatestEnd 15 = .ok (.iload_n 2, 1) := by decide +kernel
theorem d_M_greatestEnd_16 : decode b_M_greatestEnd 16 = .ok (.if_icmp .le 12, 3) := by decide +kernel
theorem d_M_greatestEnd_19 : decode b_M_greatestEnd 19 = .ok (.aload_n 0, 1) := by decide +kernel
theorem d_M_greatestEnd_20 : decode b_M_greatestEnd 20 = .ok (.getfield 77, 3) := by decide +kernel
theorem d_M_greatestEnd_23 : decode b_M_greatestEnd 23 = .ok (.iload_n 3, 1) := by decide +kernel
theorem d_M_greatestEnd_24 : decode b_M_greatestEnd 24 = .ok (.iaload, 1) := by decide +kernel
theorem d_M_greatestEnd_25 : decode b_M_greatestEnd 25 = .ok (.goto 4, 3) := by decide +kernel
theorem d_M_greatestEnd_28 : decode b_M_greatestEnd 28 = .ok (.iload_n 2, 1) := by decide +kernel
theorem d_M_greatestEnd_29 : decode b_M_greatestEnd 29 = .ok (.istore_n 2, 1) := by decide +kernel
theorem d_M_greatestEnd_30 : decode b_M_greatestEnd 30 = .ok (.iinc 3 1, 3) := by decide +kernel
theorem d_M_greatestEnd_33 : decode b_M_greatestEnd 33 = .ok (.goto (-29), 3) := by decide +kernel
theorem d_M_greatestEnd_36 : decode b_M_greatestEnd 36 = .ok (.iload_n 2, 1) := by decide +kernel
theorem d_M_greatestEnd_37 : decode b_M_greatestEnd 37 = .ok (.ireturn, 1) := by decide +kernel
theorem d_M_isBetter_0 : decode b_M_isBetter 0 = .ok (.aload_n 0, 1) := by decide +kernel
theorem d_M_isBetter_1 : decode b_M_isBetter 1 = .ok (.getfield 144, 3) := by decide +kernel
theorem d_M_isBetter_4 : decode b_M_isBetter 4 = .ok (.ifCond .ne 5, 3) := by decide +kernel
theorem d_M_isBetter_7 : decode b_M_isBetter 7 = .ok (.iconst 1, 1) := by decide +kernel
theorem d_M_isBetter_8 : decode b_M_isBetter 8 = .ok (.ireturn, 1) := by decide +kernel
theorem d_M_isBetter_9 : decode b_M_isBetter 9 = .ok (.aload_n 0, 1) := by decide +kernel
theorem d_M_isBetter_10 : decode b_M_isBetter 10 = .ok (.iload_n 1, 1) := by decide +kernel
theorem d_M_isBetter_11 : decode b_M_isBetter 11 = .ok (.invokevirtual 147, 3) := by decide +kernel
theorem d_M_isBetter_14 : decode b_M_isBetter 14 = .ok (.aload_n 0, 1) := by decide +kernel
theorem d_M_isBetter_15 : decode b_M_isBetter 15 = .ok (.getfield 150, 3) := by decide +kernel
theorem d_M_isBetter_18 : decode b_M_isBetter 18 = .ok (.if_icmp .ge 7, 3) := by decide +kernel
theorem d_M_isBetter_21 : decode b_M_isBetter 21 = .ok (.iconst 1, 1) := by decide +kernel
theorem d_M_isBetter_22 : decode b_M_isBetter 22 = .ok (.goto 4, 3) := by decide +kernel
theorem d_M_isBetter_25 : decode b_M_isBetter 25 = .ok (.iconst 0, 1) := by decide +kernel
theorem d_M_isBetter_26 : decode b_M_isBetter 26 = .ok (.istore_n 3, 1) := by decide +kernel
theorem d_M_isBetter_27 : decode b_M_isBetter 27 = .ok (.iload_n 2, 1) := by decide +kernel
theorem d_M_isBetter_28 : decode b_M_isBetter 28 = .ok (.ifCond .eq 11, 3) := by decide +kernel
theorem d_M_isBetter_31 : decode b_M_isBetter 31 = .ok (.aload_n 0, 1) := by decide +kernel
theorem d_M_isBetter_32 : decode b_M_isBetter 32 = .ok (.iload_n 1, 1) := by decide +kernel
theorem d_M_isBetter_33 : decode b_M_isBetter 33 = .ok (.invokevirtual 153, 3) := by decide +kernel
theorem d_M_isBetter_36 : decode b_M_isBetter 36 = .ok (.goto 4, 3) := by decide +kernel
theorem d_M_isBetter_39 : decode b_M_isBetter 39 = .ok (.iconst 0, 1) := by decide +kernel
theorem d_M_isBetter_40 : decode b_M_isBetter 40 = .ok (.istore 4, 2) := by decide +kernel
theorem d_M_isBetter_42 : decode b_M_isBetter 42 = .ok (.iload_n 2, 1) := by decide +kernel
theorem d_M_isBetter_43 : decode b_M_isBetter 43 = .ok (.ifCond .eq 33, 3) := by decide +kernel
theorem d_M_isBetter_46 : decode b_M_isBetter 46 = .ok (.iload 4, 2) := by decide +kernel
theorem d_M_isBetter_48 : decode b_M_isBetter 48 = .ok (.aload_n 0, 1) := by decide +kernel
theorem d_M_isBetter_49 : decode b_M_isBetter 49 = .ok (.getfield 156, 3) := by decide +kernel
theorem d_M_isBetter_52 : decode b_M_isBetter 52 = .ok (.if_icmp .lt 16, 3) := by decide +kernel
theorem d_M_isBetter_55 : decode b_M_isBetter 55 = .ok (.iload 4, 2) := by decide +kernel
theorem d_M_isBetter_57 : decode b_M_isBetter 57 = .ok (.aload_n 0, 1) := by decide +kernel
theorem d_M_isBetter_58 : decode b_M_isBetter 58 = .ok (.getfield 156, 3) := by decide +kernel
theorem d_M_isBetter_61 : decode b_M_isBetter 61 = .ok (.if_icmp .ne 11, 3) := by decide +kernel
theorem d_M_isBetter_64 : decode b_M_isBetter 64 = .ok (.iload_n 3, 1) := by decide +kernel
theorem d_M_isBetter_65 : decode b_M_isBetter 65 = .ok (.ifCond .eq 7, 3) := by decide +kernel
theorem d_M_isBetter_68 : decode b_M_isBetter 68 = .ok (.iconst 1, 1) := by decide +kernel
theorem d_M_isBetter_69 : decode b_M_isBetter 69 = .ok (.goto 8, 3) := by decide +kernel
theorem d_M_isBetter_72 : decode b_M_isBetter 72 = .ok (.iconst 0, 1) := by decide +kernel
theorem d_M_isBetter_73 : decode b_M_isBetter 73 = .ok (.goto 4, 3) := by decide +kernel
theorem d_M_isBetter_76 : decode b_M_isBetter 76 = .ok (.iload_n 3, 1) := by decide +kernel
theorem d_M_isBetter_77 : decode b_M_isBetter 77 = .ok (.ireturn, 1) := by decide +kernel
theorem d_M_goesOn_0 : decode b_M_goesOn 0 = .ok (.aload_n 0, 1) := by decide +kernel
theorem d_M_goesOn_1 : decode b_M_goesOn 1 = .ok (.getfield 62, 3) := by decide +kernel
theorem d_M_goesOn_4 : decode b_M_goesOn 4 = .ok (.iload_n 1, 1) := by decide +kernel
theorem d_M_goesOn_5 : decode b_M_goesOn 5 = .ok (.baload, 1) := by decide +kernel
theorem d_M_goesOn_6 : decode b_M_goesOn 6 = .ok (.ifCond .eq 12, 3) := by decide +kernel
theorem d_M_goesOn_9 : decode b_M_goesOn 9 = .ok (.aload_n 0, 1) := by decide +kernel
theorem d_M_goesOn_10 : decode b_M_goesOn 10 = .ok (.getfield 56, 3) := by decide +kernel
theorem d_M_goesOn_13 : decode b_M_goesOn 13 = .ok (.iload_n 1, 1) := by decide +kernel
theorem d_M_goesOn_14 : decode b_M_goesOn 14 = .ok (.iaload, 1) := by decide +kernel
theorem d_M_goesOn_15 : decode b_M_goesOn 15 = .ok (.goto 19, 3) := by decide +kernel
theorem d_M_goesOn_18 : decode b_M_goesOn 18 = .ok (.aload_n 0, 1) := by decide +kernel
theorem d_M_goesOn_19 : decode b_M_goesOn 19 = .ok (.getfield 25, 3) := by decide +kernel
theorem d_M_goesOn_22 : decode b_M_goesOn 22 = .ok (.iload_n 1, 1) := by decide +kernel
theorem d_M_goesOn_23 : decode b_M_goesOn 23 = .ok (.baload, 1) := by decide +kernel
theorem d_M_goesOn_24 : decode b_M_goesOn 24 = .ok (.ifCond .eq 9, 3) := by decide +kernel
theorem d_M_goesOn_27 : decode b_M_goesOn 27 = .ok (.iload_n 2, 1) := by decide +kernel
theorem d_M_goesOn_28 : decode b_M_goesOn 28 = .ok (.iconst 2, 1) := by decide +kernel
theorem d_M_goesOn_29 : decode b_M_goesOn 29 = .ok (.idiv, 1) := by decide +kernel
theorem d_M_goesOn_30 : decode b_M_goesOn 30 = .ok (.goto 4, 3) := by decide +kernel
theorem d_M_goesOn_33 : decode b_M_goesOn 33 = .ok (.iload_n 2, 1) := by decide +kernel
theorem d_M_goesOn_34 : decode b_M_goesOn 34 = .ok (.istore 4, 2) := by decide +kernel
theorem d_M_goesOn_36 : decode b_M_goesOn 36 = .ok (.aload_n 0, 1) := by decide +kernel
theorem d_M_goesOn_37 : decode b_M_goesOn 37 = .ok (.getfield 62, 3) := by decide +kernel
theorem d_M_goesOn_40 : decode b_M_goesOn 40 = .ok (.iload_n 1, 1) := by decide +kernel
theorem d_M_goesOn_41 : decode b_M_goesOn 41 = .ok (.baload, 1) := by decide +kernel
theorem d_M_goesOn_42 : decode b_M_goesOn 42 = .ok (.ifCond .eq 12, 3) := by decide +kernel
theorem d_M_goesOn_45 : decode b_M_goesOn 45 = .ok (.aload_n 0, 1) := by decide +kernel
theorem d_M_goesOn_46 : decode b_M_goesOn 46 = .ok (.getfield 59, 3) := by decide +kernel
theorem d_M_goesOn_49 : decode b_M_goesOn 49 = .ok (.iload_n 1, 1) := by decide +kernel
theorem d_M_goesOn_50 : decode b_M_goesOn 50 = .ok (.iaload, 1) := by decide +kernel
theorem d_M_goesOn_51 : decode b_M_goesOn 51 = .ok (.goto 19, 3) := by decide +kernel
theorem d_M_goesOn_54 : decode b_M_goesOn 54 = .ok (.aload_n 0, 1) := by decide +kernel
theorem d_M_goesOn_55 : decode b_M_goesOn 55 = .ok (.getfield 25, 3) := by decide +kernel
theorem d_M_goesOn_58 : decode b_M_goesOn 58 = .ok (.iload_n 1, 1) := by decide +kernel
theorem d_M_goesOn_59 : decode b_M_goesOn 59 = .ok (.baload, 1) := by decide +kernel
theorem d_M_goesOn_60 : decode b_M_goesOn 60 = .ok (.ifCond .eq 9, 3) := by decide +kernel
theorem d_M_goesOn_63 : decode b_M_goesOn 63 = .ok (.iload_n 2, 1) := by decide +kernel
theorem d_M_goesOn_64 : decode b_M_goesOn 64 = .ok (.iconst 2, 1) := by decide +kernel
theorem d_M_goesOn_65 : decode b_M_goesOn 65 = .ok (.irem, 1) := by decide +kernel
theorem d_M_goesOn_66 : decode b_M_goesOn 66 = .ok (.goto 4, 3) := by decide +kernel
theorem d_M_goesOn_69 : decode b_M_goesOn 69 = .ok (.iconst 0, 1) := by decide +kernel
theorem d_M_goesOn_70 : decode b_M_goesOn 70 = .ok (.istore 5, 2) := by decide +kernel
theorem d_M_goesOn_72 : decode b_M_goesOn 72 = .ok (.aload_n 0, 1) := by decide +kernel
theorem d_M_goesOn_73 : decode b_M_goesOn 73 = .ok (.iload 4, 2) := by decide +kernel
theorem d_M_goesOn_75 : decode b_M_goesOn 75 = .ok (.invokevirtual 123, 3) := by decide +kernel
theorem d_M_goesOn_78 : decode b_M_goesOn 78 = .ok (.ifCond .eq 5, 3) := by decide +kernel
theorem d_M_goesOn_81 : decode b_M_goesOn 81 = .ok (.iconst 0, 1) := by decide +kernel
theorem d_M_goesOn_82 : decode b_M_goesOn 82 = .ok (.ireturn, 1) := by decide +kernel
theorem d_M_goesOn_83 : decode b_M_goesOn 83 = .ok (.aload_n 0, 1) := by decide +kernel
theorem d_M_goesOn_84 : decode b_M_goesOn 84 = .ok (.iload_n 1, 1) := by decide +kernel
theorem d_M_goesOn_85 : decode b_M_goesOn 85 = .ok (.iload_n 1, 1) := by decide +kernel
theorem d_M_goesOn_86 : decode b_M_goesOn 86 = .ok (.iload 4, 2) := by decide +kernel
theorem d_M_goesOn_88 : decode b_M_goesOn 88 = .ok (.iload 5, 2) := by decide +kernel
theorem d_M_goesOn_90 : decode b_M_goesOn 90 = .ok (.invokevirtual 159, 3) := by decide +kernel
theorem d_M_goesOn_93 : decode b_M_goesOn 93 = .ok (.aload_n 0, 1) := by decide +kernel
theorem d_M_goesOn_94 : decode b_M_goesOn 94 = .ok (.iload_n 1, 1) := by decide +kernel
theorem d_M_goesOn_95 : decode b_M_goesOn 95 = .ok (.iload_n 1, 1) := by decide +kernel
theorem d_M_goesOn_96 : decode b_M_goesOn 96 = .ok (.iload_n 1, 1) := by decide +kernel
theorem d_M_goesOn_97 : decode b_M_goesOn 97 = .ok (.invokevirtual 163, 3) := by decide +kernel
theorem d_M_goesOn_100 : decode b_M_goesOn 100 = .ok (.ifCond .eq 18, 3) := by decide +kernel
theorem d_M_goesOn_103 : decode b_M_goesOn 103 = .ok (.aload_n 0, 1) := by decide +kernel
theorem d_M_goesOn_104 : decode b_M_goesOn 104 = .ok (.iload_n 1, 1) := by decide +kernel
theorem d_M_goesOn_105 : decode b_M_goesOn 105 = .ok (.iconst 1, 1) := by decide +kernel
theorem d_M_goesOn_106 : decode b_M_goesOn 106 = .ok (.iadd, 1) := by decide +kernel
theorem d_M_goesOn_107 : decode b_M_goesOn 107 = .ok (.iload_n 3, 1) := by decide +kernel
theorem d_M_goesOn_108 : decode b_M_goesOn 108 = .ok (.invokevirtual 166, 3) := by decide +kernel
theorem d_M_goesOn_111 : decode b_M_goesOn 111 = .ok (.ifCond .eq 7, 3) := by decide +kernel
theorem d_M_goesOn_114 : decode b_M_goesOn 114 = .ok (.iconst 1, 1) := by decide +kernel
theorem d_M_goesOn_115 : decode b_M_goesOn 115 = .ok (.goto 4, 3) := by decide +kernel
theorem d_M_goesOn_118 : decode b_M_goesOn 118 = .ok (.iconst 0, 1) := by decide +kernel
theorem d_M_goesOn_119 : decode b_M_goesOn 119 = .ok (.ireturn, 1) := by decide +kernel
theorem d_M_search_0 : decode b_M_search 0 = .ok (.aload_n 0, 1) := by decide +kernel
theorem d_M_search_1 : decode b_M_search 1 = .ok (.iconst 0, 1) := by decide +kernel
theorem d_M_search_2 : decode b_M_search 2 = .ok (.putfield 144, 3) := by decide +kernel
theorem d_M_search_5 : decode b_M_search 5 = .ok (.aload_n 0, 1) := by decide +kernel
theorem d_M_search_6 : decode b_M_search 6 = .ok (.iconst 0, 1) := by decide +kernel
theorem d_M_search_7 : decode b_M_search 7 = .ok (.putfield 170, 3) := by decide +kernel
theorem d_M_search_10 : decode b_M_search 10 = .ok (.iconst 0, 1) := by decide +kernel
theorem d_M_search_11 : decode b_M_search 11 = .ok (.istore_n 3, 1) := by decide +kernel
theorem d_M_search_12 : decode b_M_search 12 = .ok (.aload_n 0, 1) := by decide +kernel
theorem d_M_search_13 : decode b_M_search 13 = .ok (.getfield 86, 3) := by decide +kernel
theorem d_M_search_16 : decode b_M_search 16 = .ok (.iconst 0, 1) := by decide +kernel
theorem d_M_search_17 : decode b_M_search 17 = .ok (.iconst 0, 1) := by decide +kernel
theorem d_M_search_18 : decode b_M_search 18 = .ok (.iastore, 1) := by decide +kernel
theorem d_M_search_19 : decode b_M_search 19 = .ok (.iload_n 3, 1) := by decide +kernel
theorem d_M_search_20 : decode b_M_search 20 = .ok (.ifCond .lt 23, 3) := by decide +kernel
theorem d_M_search_23 : decode b_M_search 23 = .ok (.aload_n 0, 1) := by decide +kernel
theorem d_M_search_24 : decode b_M_search 24 = .ok (.getfield 86, 3) := by decide +kernel
theorem d_M_search_27 : decode b_M_search 27 = .ok (.iload_n 3, 1) := by decide +kernel
theorem d_M_search_28 : decode b_M_search 28 = .ok (.iaload, 1) := by decide +kernel
theorem d_M_search_29 : decode b_M_search 29 = .ok (.aload_n 0, 1) := by decide +kernel
theorem d_M_search_30 : decode b_M_search 30 = .ok (.iload_n 3, 1) := by decide +kernel
theorem d_M_search_31 : decode b_M_search 31 = .ok (.invokevirtual 173, 3) := by decide +kernel
theorem d_M_search_34 : decode b_M_search 34 = .ok (.if_icmp .ne 9, 3) := by decide +kernel
theorem d_M_search_37 : decode b_M_search 37 = .ok (.iinc 3 (-1), 3) := by decide +kernel
theorem d_M_search_40 : decode b_M_search 40 = .ok (.goto (-21), 3) := by decide +kernel
theorem d_M_search_43 : decode b_M_search 43 = .ok (.iload_n 3, 1) := by decide +kernel
theorem d_M_search_44 : decode b_M_search 44 = .ok (.ifCond .lt 183, 3) := by decide +kernel
theorem d_M_search_47 : decode b_M_search 47 = .ok (.aload_n 0, 1) := by decide +kernel
theorem d_M_search_48 : decode b_M_search 48 = .ok (.getfield 170, 3) := by decide +kernel
theorem d_M_search_51 : decode b_M_search 51 = .ok (.iload_n 1, 1) := by decide +kernel
theorem d_M_search_52 : decode b_M_search 52 = .ok (.if_icmp .ge 175, 3) := by decide +kernel
theorem d_M_search_55 : decode b_M_search 55 = .ok (.aload_n 0, 1) := by decide +kernel
theorem d_M_search_56 : decode b_M_search 56 = .ok (.getfield 86, 3) := by decide +kernel
theorem d_M_search_59 : decode b_M_search 59 = .ok (.iload_n 3, 1) := by decide +kernel
theorem d_M_search_60 : decode b_M_search 60 = .ok (.iaload, 1) := by decide +kernel
theorem d_M_search_61 : decode b_M_search 61 = .ok (.istore 4, 2) := by decide +kernel
theorem d_M_search_63 : decode b_M_search 63 = .ok (.aload_n 0, 1) := by decide +kernel
theorem d_M_search_64 : decode b_M_search 64 = .ok (.getfield 86, 3) := by decide +kernel
theorem d_M_search_67 : decode b_M_search 67 = .ok (.iload_n 3, 1) := by decide +kernel
theorem d_M_search_68 : decode b_M_search 68 = .ok (.dup2, 1) := by decide +kernel
theorem d_M_search_69 : decode b_M_search 69 = .ok (.iaload, 1) := by decide +kernel
theorem d_M_search_70 : decode b_M_search 70 = .ok (.iconst 1, 1) := by decide +kernel
theorem d_M_search_71 : decode b_M_search 71 = .ok (.iadd, 1) := by decide +kernel
theorem d_M_search_72 : decode b_M_search 72 = .ok (.iastore, 1) := by decide +kernel
theorem d_M_search_73 : decode b_M_search 73 = .ok (.aload_n 0, 1) := by decide +kernel
theorem d_M_search_74 : decode b_M_search 74 = .ok (.dup, 1) := by decide +kernel
theorem d_M_search_75 : decode b_M_search 75 = .ok (.getfield 170, 3) := by decide +kernel
theorem d_M_search_78 : decode b_M_search 78 = .ok (.iconst 1, 1) := by decide +kernel
theorem d_M_search_79 : decode b_M_search 79 = .ok (.iadd, 1) := by decide +kernel
theorem d_M_search_80 : decode b_M_search 80 = .ok (.putfield 170, 3) := by decide +kernel
theorem d_M_search_83 : decode b_M_search 83 = .ok (.aload_n 0, 1) := by decide +kernel
theorem d_M_search_84 : decode b_M_search 84 = .ok (.iload_n 3, 1) := by decide +kernel
theorem d_M_search_85 : decode b_M_search 85 = .ok (.iload 4, 2) := by decide +kernel
theorem d_M_search_87 : decode b_M_search 87 = .ok (.iload_n 2, 1) := by decide +kernel
theorem d_M_search_88 : decode b_M_search 88 = .ok (.invokevirtual 176, 3) := by decide +kernel
theorem d_M_search_91 : decode b_M_search 91 = .ok (.ifCond .eq 109, 3) := by decide +kernel
theorem d_M_search_94 : decode b_M_search 94 = .ok (.iload_n 3, 1) := by decide +kernel
theorem d_M_search_95 : decode b_M_search 95 = .ok (.aload_n 0, 1) := by decide +kernel
theorem d_M_search_96 : decode b_M_search 96 = .ok (.getfield 95, 3) := by decide +kernel
theorem d_M_search_99 : decode b_M_search 99 = .ok (.iconst 1, 1) := by decide +kernel
theorem d_M_search_100 : decode b_M_search 100 = .ok (.isub, 1) := by decide +kernel
theorem d_M_search_101 : decode b_M_search 101 = .ok (.if_icmp .ne 89, 3) := by decide +kernel
theorem d_M_search_104 : decode b_M_search 104 = .ok (.aload_n 0, 1) := by decide +kernel
theorem d_M_search_105 : decode b_M_search 105 = .ok (.iconst 1, 1) := by decide +kernel
theorem d_M_search_106 : decode b_M_search 106 = .ok (.putfield 144, 3) := by decide +kernel
theorem d_M_search_109 : decode b_M_search 109 = .ok (.aload_n 0, 1) := by decide +kernel
theorem d_M_search_110 : decode b_M_search 110 = .ok (.aload_n 0, 1) := by decide +kernel
theorem d_M_search_111 : decode b_M_search 111 = .ok (.aload_n 0, 1) := by decide +kernel
theorem d_M_search_112 : decode b_M_search 112 = .ok (.getfield 95, 3) := by decide +kernel
theorem d_M_search_115 : decode b_M_search 115 = .ok (.invokevirtual 147, 3) := by decide +kernel
theorem d_M_search_118 : decode b_M_search 118 = .ok (.putfield 150, 3) := by decide +kernel
theorem d_M_search_121 : decode b_M_search 121 = .ok (.aload_n 0, 1) := by decide +kernel
theorem d_M_search_122 : decode b_M_search 122 = .ok (.iload_n 2, 1) := by decide +kernel
theorem d_M_search_123 : decode b_M_search 123 = .ok (.ifCond .eq 14, 3) := by decide +kernel
theorem d_M_search_126 : decode b_M_search 126 = .ok (.aload_n 0, 1) := by decide +kernel
theorem d_M_search_127 : decode b_M_search 127 = .ok (.aload_n 0, 1) := by decide +kernel
theorem d_M_search_128 : decode b_M_search 128 = .ok (.getfield 95, 3) := by decide +kernel
theorem d_M_search_131 : decode b_M_search 131 = .ok (.invokevirtual 153, 3) := by decide +kernel
theorem d_M_search_134 : decode b_M_search 134 = .ok (.goto 4, 3) := by decide +kernel
theorem d_M_search_137 : decode b_M_search 137 = .ok (.iconst 0, 1) := by decide +kernel
theorem d_M_search_138 : decode b_M_search 138 = .ok (.putfield 156, 3) := by decide +kernel
theorem d_M_search_141 : decode b_M_search 141 = .ok (.iconst 0, 1) := by decide +kernel
theorem d_M_search_142 : decode b_M_search 142 = .ok (.istore 5, 2) := by decide +kernel
theorem d_M_search_144 : decode b_M_search 144 = .ok (.iload 5, 2) := by decide +kernel
theorem d_M_search_146 : decode b_M_search 146 = .ok (.aload_n 0, 1) := by decide +kernel
theorem d_M_search_147 : decode b_M_search 147 = .ok (.getfield 95, 3) := by decide +kernel
theorem d_M_search_150 : decode b_M_search 150 = .ok (.if_icmp .ge 37, 3) := by decide +kernel
theorem d_M_search_153 : decode b_M_search 153 = .ok (.aload_n 0, 1) := by decide +kernel
theorem d_M_search_154 : decode b_M_search 154 = .ok (.getfield 89, 3) := by decide +kernel
theorem d_M_search_157 : decode b_M_search 157 = .ok (.iload 5, 2) := by decide +kernel
theorem d_M_search_159 : decode b_M_search 159 = .ok (.aload_n 0, 1) := by decide +kernel
theorem d_M_search_160 : decode b_M_search 160 = .ok (.getfield 71, 3) := by decide +kernel
theorem d_M_search_163 : decode b_M_search 163 = .ok (.iload 5, 2) := by decide +kernel
theorem d_M_search_165 : decode b_M_search 165 = .ok (.iaload, 1) := by decide +kernel
theorem d_M_search_166 : decode b_M_search 166 = .ok (.iastore, 1) := by decide +kernel
theorem d_M_search_167 : decode b_M_search 167 = .ok (.aload_n 0, 1) := by decide +kernel
theorem d_M_search_168 : decode b_M_search 168 = .ok (.getfield 92, 3) := by decide +kernel
theorem d_M_search_171 : decode b_M_search 171 = .ok (.iload 5, 2) := by decide +kernel
theorem d_M_search_173 : decode b_M_search 173 = .ok (.aload_n 0, 1) := by decide +kernel
theorem d_M_search_174 : decode b_M_search 174 = .ok (.getfield 74, 3) := by decide +kernel
theorem d_M_search_177 : decode b_M_search 177 = .ok (.iload 5, 2) := by decide +kernel
theorem d_M_search_179 : decode b_M_search 179 = .ok (.iaload, 1) := by decide +kernel
theorem d_M_search_180 : decode b_M_search 180 = .ok (.iastore, 1) := by decide +kernel
theorem d_M_search_181 : decode b_M_search 181 = .ok (.iinc 5 1, 3) := by decide +kernel
theorem d_M_search_184 : decode b_M_search 184 = .ok (.goto (-40), 3) := by decide +kernel
theorem d_M_search_187 : decode b_M_search 187 = .ok (.goto 13, 3) := by decide +kernel
theorem d_M_search_190 : decode b_M_search 190 = .ok (.iinc 3 1, 3) := by decide +kernel
theorem d_M_search_193 : decode b_M_search 193 = .ok (.aload_n 0, 1) := by decide +kernel
theorem d_M_search_194 : decode b_M_search 194 = .ok (.getfield 86, 3) := by decide +kernel
theorem d_M_search_197 : decode b_M_search 197 = .ok (.iload_n 3, 1) := by decide +kernel
theorem d_M_search_198 : decode b_M_search 198 = .ok (.iconst 0, 1) := by decide +kernel
theorem d_M_search_199 : decode b_M_search 199 = .ok (.iastore, 1) := by decide +kernel
theorem d_M_search_200 : decode b_M_search 200 = .ok (.iload_n 3, 1) := by decide +kernel
theorem d_M_search_201 : decode b_M_search 201 = .ok (.ifCond .lt 23, 3) := by decide +kernel
theorem d_M_search_204 : decode b_M_search 204 = .ok (.aload_n 0, 1) := by decide +kernel
theorem d_M_search_205 : decode b_M_search 205 = .ok (.getfield 86, 3) := by decide +kernel
theorem d_M_search_208 : decode b_M_search 208 = .ok (.iload_n 3, 1) := by decide +kernel
theorem d_M_search_209 : decode b_M_search 209 = .ok (.iaload, 1) := by decide +kernel
theorem d_M_search_210 : decode b_M_search 210 = .ok (.aload_n 0, 1) := by decide +kernel
theorem d_M_search_211 : decode b_M_search 211 = .ok (.iload_n 3, 1) := by decide +kernel
theorem d_M_search_212 : decode b_M_search 212 = .ok (.invokevirtual 173, 3) := by decide +kernel
theorem d_M_search_215 : decode b_M_search 215 = .ok (.if_icmp .ne 9, 3) := by decide +kernel
theorem d_M_search_218 : decode b_M_search 218 = .ok (.iinc 3 (-1), 3) := by decide +kernel
theorem d_M_search_221 : decode b_M_search 221 = .ok (.goto (-21), 3) := by decide +kernel
theorem d_M_search_224 : decode b_M_search 224 = .ok (.goto (-181), 3) := by decide +kernel
theorem d_M_search_227 : decode b_M_search 227 = .ok (.aload_n 0, 1) := by decide +kernel
theorem d_M_search_228 : decode b_M_search 228 = .ok (.iload_n 3, 1) := by decide +kernel
theorem d_M_search_229 : decode b_M_search 229 = .ok (.ifCond .ge 7, 3) := by decide +kernel
theorem d_M_search_232 : decode b_M_search 232 = .ok (.iconst 1, 1) := by decide +kernel
theorem d_M_search_233 : decode b_M_search 233 = .ok (.goto 4, 3) := by decide +kernel
theorem d_M_search_236 : decode b_M_search 236 = .ok (.iconst 0, 1) := by decide +kernel
theorem d_M_search_237 : decode b_M_search 237 = .ok (.putfield 180, 3) := by decide +kernel
theorem d_M_search_240 : decode b_M_search 240 = .ok (.return_, 1) := by decide +kernel
theorem d_M_take_0 : decode b_M_take 0 = .ok (.iconst 0, 1) := by decide +kernel
theorem d_M_take_1 : decode b_M_take 1 = .ok (.istore_n 2, 1) := by decide +kernel
theorem d_M_take_2 : decode b_M_take 2 = .ok (.iload_n 2, 1) := by decide +kernel
theorem d_M_take_3 : decode b_M_take 3 = .ok (.aload_n 0, 1) := by decide +kernel
theorem d_M_take_4 : decode b_M_take 4 = .ok (.getfield 95, 3) := by decide +kernel
theorem d_M_take_7 : decode b_M_take 7 = .ok (.if_icmp .ge 54, 3) := by decide +kernel
theorem d_M_take_10 : decode b_M_take 10 = .ok (.aload_n 0, 1) := by decide +kernel
theorem d_M_take_11 : decode b_M_take 11 = .ok (.getfield 68, 3) := by decide +kernel
theorem d_M_take_14 : decode b_M_take 14 = .ok (.iload_n 2, 1) := by decide +kernel
theorem d_M_take_15 : decode b_M_take 15 = .ok (.iload_n 1, 1) := by decide +kernel
theorem d_M_take_16 : decode b_M_take 16 = .ok (.ifCond .eq 37, 3) := by decide +kernel
theorem d_M_take_19 : decode b_M_take 19 = .ok (.aload_n 0, 1) := by decide +kernel
theorem d_M_take_20 : decode b_M_take 20 = .ok (.getfield 89, 3) := by decide +kernel
theorem d_M_take_23 : decode b_M_take 23 = .ok (.iload_n 2, 1) := by decide +kernel
theorem d_M_take_24 : decode b_M_take 24 = .ok (.iaload, 1) := by decide +kernel
theorem d_M_take_25 : decode b_M_take 25 = .ok (.aload_n 0, 1) := by decide +kernel
theorem d_M_take_26 : decode b_M_take 26 = .ok (.getfield 56, 3) := by decide +kernel
theorem d_M_take_29 : decode b_M_take 29 = .ok (.iload_n 2, 1) := by decide +kernel
theorem d_M_take_30 : decode b_M_take 30 = .ok (.iaload, 1) := by decide +kernel
theorem d_M_take_31 : decode b_M_take 31 = .ok (.if_icmp .ne 18, 3) := by decide +kernel
theorem d_M_take_34 : decode b_M_take 34 = .ok (.aload_n 0, 1) := by decide +kernel
theorem d_M_take_35 : decode b_M_take 35 = .ok (.getfield 92, 3) := by decide +kernel
theorem d_M_take_38 : decode b_M_take 38 = .ok (.iload_n 2, 1) := by decide +kernel
theorem d_M_take_39 : decode b_M_take 39 = .ok (.iaload, 1) := by decide +kernel
theorem d_M_take_40 : decode b_M_take 40 = .ok (.aload_n 0, 1) := by decide +kernel
theorem d_M_take_41 : decode b_M_take 41 = .ok (.getfield 59, 3) := by decide +kernel
theorem d_M_take_44 : decode b_M_take 44 = .ok (.iload_n 2, 1) := by decide +kernel
theorem d_M_take_45 : decode b_M_take 45 = .ok (.iaload, 1) := by decide +kernel
theorem d_M_take_46 : decode b_M_take 46 = .ok (.if_icmp .eq 7, 3) := by decide +kernel
theorem d_M_take_49 : decode b_M_take 49 = .ok (.iconst 1, 1) := by decide +kernel
theorem d_M_take_50 : decode b_M_take 50 = .ok (.goto 4, 3) := by decide +kernel
theorem d_M_take_53 : decode b_M_take 53 = .ok (.iconst 0, 1) := by decide +kernel
theorem d_M_take_54 : decode b_M_take 54 = .ok (.bastore, 1) := by decide +kernel
theorem d_M_take_55 : decode b_M_take 55 = .ok (.iinc 2 1, 3) := by decide +kernel
theorem d_M_take_58 : decode b_M_take 58 = .ok (.goto (-56), 3) := by decide +kernel
theorem d_M_take_61 : decode b_M_take 61 = .ok (.iconst 0, 1) := by decide +kernel
theorem d_M_take_62 : decode b_M_take 62 = .ok (.istore_n 2, 1) := by decide +kernel
theorem d_M_take_63 : decode b_M_take 63 = .ok (.iload_n 2, 1) := by decide +kernel
theorem d_M_take_64 : decode b_M_take 64 = .ok (.aload_n 0, 1) := by decide +kernel
theorem d_M_take_65 : decode b_M_take 65 = .ok (.getfield 95, 3) := by decide +kernel
theorem d_M_take_68 : decode b_M_take 68 = .ok (.if_icmp .ge 33, 3) := by decide +kernel
theorem d_M_take_71 : decode b_M_take 71 = .ok (.aload_n 0, 1) := by decide +kernel
theorem d_M_take_72 : decode b_M_take 72 = .ok (.getfield 56, 3) := by decide +kernel
theorem d_M_take_75 : decode b_M_take 75 = .ok (.iload_n 2, 1) := by decide +kernel
theorem d_M_take_76 : decode b_M_take 76 = .ok (.aload_n 0, 1) := by decide +kernel
theorem d_M_take_77 : decode b_M_take 77 = .ok (.getfield 89, 3) := by decide +kernel
theorem d_M_take_80 : decode b_M_take 80 = .ok (.iload_n 2, 1) := by decide +kernel
theorem d_M_take_81 : decode b_M_take 81 = .ok (.iaload, 1) := by decide +kernel
theorem d_M_take_82 : decode b_M_take 82 = .ok (.iastore, 1) := by decide +kernel
theorem d_M_take_83 : decode b_M_take 83 = .ok (.aload_n 0, 1) := by decide +kernel
theorem d_M_take_84 : decode b_M_take 84 = .ok (.getfield 59, 3) := by decide +kernel
theorem d_M_take_87 : decode b_M_take 87 = .ok (.iload_n 2, 1) := by decide +kernel
theorem d_M_take_88 : decode b_M_take 88 = .ok (.aload_n 0, 1) := by decide +kernel
theorem d_M_take_89 : decode b_M_take 89 = .ok (.getfield 92, 3) := by decide +kernel
theorem d_M_take_92 : decode b_M_take 92 = .ok (.iload_n 2, 1) := by decide +kernel
theorem d_M_take_93 : decode b_M_take 93 = .ok (.iaload, 1) := by decide +kernel
theorem d_M_take_94 : decode b_M_take 94 = .ok (.iastore, 1) := by decide +kernel
theorem d_M_take_95 : decode b_M_take 95 = .ok (.iinc 2 1, 3) := by decide +kernel
theorem d_M_take_98 : decode b_M_take 98 = .ok (.goto (-35), 3) := by decide +kernel
theorem d_M_take_101 : decode b_M_take 101 = .ok (.aload_n 0, 1) := by decide +kernel
theorem d_M_take_102 : decode b_M_take 102 = .ok (.iconst 1, 1) := by decide +kernel
theorem d_M_take_103 : decode b_M_take 103 = .ok (.putfield 99, 3) := by decide +kernel
theorem d_M_take_106 : decode b_M_take 106 = .ok (.return_, 1) := by decide +kernel
theorem d_M_run_0 : decode b_M_run 0 = .ok (.iload_n 1, 1) := by decide +kernel
theorem d_M_run_1 : decode b_M_run 1 = .ok (.iconst 1, 1) := by decide +kernel
theorem d_M_run_2 : decode b_M_run 2 = .ok (.sipush 20000, 3) := by decide +kernel
theorem d_M_run_5 : decode b_M_run 5 = .ok (.invokestatic 103, 3) := by decide +kernel
theorem d_M_run_8 : decode b_M_run 8 = .ok (.ifCond .eq 10, 3) := by decide +kernel
theorem d_M_run_11 : decode b_M_run 11 = .ok (.aload_n 0, 1) := by decide +kernel
theorem d_M_run_12 : decode b_M_run 12 = .ok (.getfield 95, 3) := by decide +kernel
theorem d_M_run_15 : decode b_M_run 15 = .ok (.ifCond .ne 5, 3) := by decide +kernel
theorem d_M_run_18 : decode b_M_run 18 = .ok (.iconst (-1), 1) := by decide +kernel
theorem d_M_run_19 : decode b_M_run 19 = .ok (.ireturn, 1) := by decide +kernel
theorem d_M_run_20 : decode b_M_run 20 = .ok (.aload_n 0, 1) := by decide +kernel
theorem d_M_run_21 : decode b_M_run 21 = .ok (.iload_n 1, 1) := by decide +kernel
theorem d_M_run_22 : decode b_M_run 22 = .ok (.iconst 0, 1) := by decide +kernel
theorem d_M_run_23 : decode b_M_run 23 = .ok (.invokevirtual 183, 3) := by decide +kernel
theorem d_M_run_26 : decode b_M_run 26 = .ok (.aload_n 0, 1) := by decide +kernel
theorem d_M_run_27 : decode b_M_run 27 = .ok (.getfield 144, 3) := by decide +kernel
theorem d_M_run_30 : decode b_M_run 30 = .ok (.ifCond .ne 5, 3) := by decide +kernel
theorem d_M_run_33 : decode b_M_run 33 = .ok (.iconst (-1), 1) := by decide +kernel
theorem d_M_run_34 : decode b_M_run 34 = .ok (.ireturn, 1) := by decide +kernel
theorem d_M_run_35 : decode b_M_run 35 = .ok (.aload_n 0, 1) := by decide +kernel
theorem d_M_run_36 : decode b_M_run 36 = .ok (.iconst 0, 1) := by decide +kernel
theorem d_M_run_37 : decode b_M_run 37 = .ok (.invokevirtual 187, 3) := by decide +kernel
theorem d_M_run_40 : decode b_M_run 40 = .ok (.aload_n 0, 1) := by decide +kernel
theorem d_M_run_41 : decode b_M_run 41 = .ok (.getfield 150, 3) := by decide +kernel
theorem d_M_run_44 : decode b_M_run 44 = .ok (.ireturn, 1) := by decide +kernel
theorem d_M_replan_0 : decode b_M_replan 0 = .ok (.iload_n 1, 1) := by decide +kernel
theorem d_M_replan_1 : decode b_M_replan 1 = .ok (.iconst 1, 1) := by decide +kernel
theorem d_M_replan_2 : decode b_M_replan 2 = .ok (.sipush 20000, 3) := by decide +kernel
theorem d_M_replan_5 : decode b_M_replan 5 = .ok (.invokestatic 103, 3) := by decide +kernel
theorem d_M_replan_8 : decode b_M_replan 8 = .ok (.ifCond .eq 10, 3) := by decide +kernel
theorem d_M_replan_11 : decode b_M_replan 11 = .ok (.aload_n 0, 1) := by decide +kernel
theorem d_M_replan_12 : decode b_M_replan 12 = .ok (.getfield 99, 3) := by decide +kernel
theorem d_M_replan_15 : decode b_M_replan 15 = .ok (.ifCond .ne 5, 3) := by decide +kernel
theorem d_M_replan_18 : decode b_M_replan 18 = .ok (.iconst (-1), 1) := by decide +kernel
theorem d_M_replan_19 : decode b_M_replan 19 = .ok (.ireturn, 1) := by decide +kernel
theorem d_M_replan_20 : decode b_M_replan 20 = .ok (.aload_n 0, 1) := by decide +kernel
theorem d_M_replan_21 : decode b_M_replan 21 = .ok (.iload_n 1, 1) := by decide +kernel
theorem d_M_replan_22 : decode b_M_replan 22 = .ok (.iconst 1, 1) := by decide +kernel
theorem d_M_replan_23 : decode b_M_replan 23 = .ok (.invokevirtual 183, 3) := by decide +kernel
theorem d_M_replan_26 : decode b_M_replan 26 = .ok (.aload_n 0, 1) := by decide +kernel
theorem d_M_replan_27 : decode b_M_replan 27 = .ok (.getfield 144, 3) := by decide +kernel
theorem d_M_replan_30 : decode b_M_replan 30 = .ok (.ifCond .ne 5, 3) := by decide +kernel
theorem d_M_replan_33 : decode b_M_replan 33 = .ok (.iconst (-1), 1) := by decide +kernel
theorem d_M_replan_34 : decode b_M_replan 34 = .ok (.ireturn, 1) := by decide +kernel
theorem d_M_replan_35 : decode b_M_replan 35 = .ok (.aload_n 0, 1) := by decide +kernel
theorem d_M_replan_36 : decode b_M_replan 36 = .ok (.iconst 1, 1) := by decide +kernel
theorem d_M_replan_37 : decode b_M_replan 37 = .ok (.invokevirtual 187, 3) := by decide +kernel
theorem d_M_replan_40 : decode b_M_replan 40 = .ok (.aload_n 0, 1) := by decide +kernel
theorem d_M_replan_41 : decode b_M_replan 41 = .ok (.getfield 156, 3) := by decide +kernel
theorem d_M_replan_44 : decode b_M_replan 44 = .ok (.ireturn, 1) := by decide +kernel
theorem d_M_proved_0 : decode b_M_proved 0 = .ok (.aload_n 0, 1) := by decide +kernel
theorem d_M_proved_1 : decode b_M_proved 1 = .ok (.getfield 180, 3) := by decide +kernel
theorem d_M_proved_4 : decode b_M_proved 4 = .ok (.ireturn, 1) := by decide +kernel
theorem d_M_tried_0 : decode b_M_tried 0 = .ok (.aload_n 0, 1) := by decide +kernel
theorem d_M_tried_1 : decode b_M_tried 1 = .ok (.getfield 170, 3) := by decide +kernel
theorem d_M_tried_4 : decode b_M_tried 4 = .ok (.ireturn, 1) := by decide +kernel
theorem d_M_layPlan_0 : decode b_M_layPlan 0 = .ok (.iconst 0, 1) := by decide +kernel
theorem d_M_layPlan_1 : decode b_M_layPlan 1 = .ok (.istore_n 1, 1) := by decide +kernel
theorem d_M_layPlan_2 : decode b_M_layPlan 2 = .ok (.iload_n 1, 1) := by decide +kernel
theorem d_M_layPlan_3 : decode b_M_layPlan 3 = .ok (.aload_n 0, 1) := by decide +kernel
theorem d_M_layPlan_4 : decode b_M_layPlan 4 = .ok (.getfield 95, 3) := by decide +kernel
theorem d_M_layPlan_7 : decode b_M_layPlan 7 = .ok (.if_icmp .ge 27, 3) := by decide +kernel
theorem d_M_layPlan_10 : decode b_M_layPlan 10 = .ok (.aload_n 0, 1) := by decide +kernel
theorem d_M_layPlan_11 : decode b_M_layPlan 11 = .ok (.iload_n 1, 1) := by decide +kernel
theorem d_M_layPlan_12 : decode b_M_layPlan 12 = .ok (.iload_n 1, 1) := by decide +kernel
theorem d_M_layPlan_13 : decode b_M_layPlan 13 = .ok (.aload_n 0, 1) := by decide +kernel
theorem d_M_layPlan_14 : decode b_M_layPlan 14 = .ok (.getfield 56, 3) := by decide +kernel
theorem d_M_layPlan_17 : decode b_M_layPlan 17 = .ok (.iload_n 1, 1) := by decide +kernel
theorem d_M_layPlan_18 : decode b_M_layPlan 18 = .ok (.iaload, 1) := by decide +kernel
theorem d_M_layPlan_19 : decode b_M_layPlan 19 = .ok (.aload_n 0, 1) := by decide +kernel
theorem d_M_layPlan_20 : decode b_M_layPlan 20 = .ok (.getfield 59, 3) := by decide +kernel
theorem d_M_layPlan_23 : decode b_M_layPlan 23 = .ok (.iload_n 1, 1) := by decide +kernel
theorem d_M_layPlan_24 : decode b_M_layPlan 24 = .ok (.iaload, 1) := by decide +kernel
theorem d_M_layPlan_25 : decode b_M_layPlan 25 = .ok (.invokevirtual 159, 3) := by decide +kernel
theorem d_M_layPlan_28 : decode b_M_layPlan 28 = .ok (.iinc 1 1, 3) := by decide +kernel
theorem d_M_layPlan_31 : decode b_M_layPlan 31 = .ok (.goto (-29), 3) := by decide +kernel
theorem d_M_layPlan_34 : decode b_M_layPlan 34 = .ok (.return_, 1) := by decide +kernel
theorem d_M_told_0 : decode b_M_told 0 = .ok (.aload_n 0, 1) := by decide +kernel
theorem d_M_told_1 : decode b_M_told 1 = .ok (.getfield 99, 3) := by decide +kernel
theorem d_M_told_4 : decode b_M_told 4 = .ok (.ifCond .eq 20, 3) := by decide +kernel
theorem d_M_told_7 : decode b_M_told 7 = .ok (.aload_n 0, 1) := by decide +kernel
theorem d_M_told_8 : decode b_M_told 8 = .ok (.iload_n 1, 1) := by decide +kernel
theorem d_M_told_9 : decode b_M_told 9 = .ok (.invokevirtual 113, 3) := by decide +kernel
theorem d_M_told_12 : decode b_M_told 12 = .ok (.ifCond .eq 12, 3) := by decide +kernel
theorem d_M_told_15 : decode b_M_told 15 = .ok (.iload_n 2, 1) := by decide +kernel
theorem d_M_told_16 : decode b_M_told 16 = .ok (.iconst 0, 1) := by decide +kernel
theorem d_M_told_17 : decode b_M_told 17 = .ok (.iconst 2, 1) := by decide +kernel
theorem d_M_told_18 : decode b_M_told 18 = .ok (.invokestatic 103, 3) := by decide +kernel
theorem d_M_told_21 : decode b_M_told 21 = .ok (.ifCond .ne 5, 3) := by decide +kernel
theorem d_M_told_24 : decode b_M_told 24 = .ok (.iconst (-1), 1) := by decide +kernel
theorem d_M_told_25 : decode b_M_told 25 = .ok (.ireturn, 1) := by decide +kernel
theorem d_M_told_26 : decode b_M_told 26 = .ok (.aload_n 0, 1) := by decide +kernel
theorem d_M_told_27 : decode b_M_told 27 = .ok (.invokevirtual 191, 3) := by decide +kernel
theorem d_M_told_30 : decode b_M_told 30 = .ok (.iload_n 2, 1) := by decide +kernel
theorem d_M_told_31 : decode b_M_told 31 = .ok (.ifCond .ne 12, 3) := by decide +kernel
theorem d_M_told_34 : decode b_M_told 34 = .ok (.aload_n 0, 1) := by decide +kernel
theorem d_M_told_35 : decode b_M_told 35 = .ok (.getfield 56, 3) := by decide +kernel
theorem d_M_told_38 : decode b_M_told 38 = .ok (.iload_n 1, 1) := by decide +kernel
theorem d_M_told_39 : decode b_M_told 39 = .ok (.iaload, 1) := by decide +kernel
theorem d_M_told_40 : decode b_M_told 40 = .ok (.goto 23, 3) := by decide +kernel
theorem d_M_told_43 : decode b_M_told 43 = .ok (.iload_n 2, 1) := by decide +kernel
theorem d_M_told_44 : decode b_M_told 44 = .ok (.iconst 1, 1) := by decide +kernel
theorem d_M_told_45 : decode b_M_told 45 = .ok (.if_icmp .ne 12, 3) := by decide +kernel
theorem d_M_told_48 : decode b_M_told 48 = .ok (.aload_n 0, 1) := by decide +kernel
theorem d_M_told_49 : decode b_M_told 49 = .ok (.getfield 77, 3) := by decide +kernel
theorem d_M_told_52 : decode b_M_told 52 = .ok (.iload_n 1, 1) := by decide +kernel
theorem d_M_told_53 : decode b_M_told 53 = .ok (.iaload, 1) := by decide +kernel
theorem d_M_told_54 : decode b_M_told 54 = .ok (.goto 9, 3) := by decide +kernel
theorem d_M_told_57 : decode b_M_told 57 = .ok (.aload_n 0, 1) := by decide +kernel
theorem d_M_told_58 : decode b_M_told 58 = .ok (.getfield 59, 3) := by decide +kernel
theorem d_M_told_61 : decode b_M_told 61 = .ok (.iload_n 1, 1) := by decide +kernel
theorem d_M_told_62 : decode b_M_told 62 = .ok (.iaload, 1) := by decide +kernel
theorem d_M_told_63 : decode b_M_told 63 = .ok (.ireturn, 1) := by decide +kernel
theorem d_M_at_0 : decode b_M_at 0 = .ok (.aload_n 0, 1) := by decide +kernel
theorem d_M_at_1 : decode b_M_at 1 = .ok (.getfield 99, 3) := by decide +kernel
theorem d_M_at_4 : decode b_M_at 4 = .ok (.ifCond .eq 15, 3) := by decide +kernel
theorem d_M_at_7 : decode b_M_at 7 = .ok (.aload_n 0, 1) := by decide +kernel
theorem d_M_at_8 : decode b_M_at 8 = .ok (.iload_n 1, 1) := by decide +kernel
theorem d_M_at_9 : decode b_M_at 9 = .ok (.invokevirtual 113, 3) := by decide +kernel
theorem d_M_at_12 : decode b_M_at 12 = .ok (.ifCond .eq 7, 3) := by decide +kernel
theorem d_M_at_15 : decode b_M_at 15 = .ok (.iload_n 2, 1) := by decide +kernel
theorem d_M_at_16 : decode b_M_at 16 = .ok (.ifCond .ge 5, 3) := by decide +kernel
theorem d_M_at_19 : decode b_M_at 19 = .ok (.iconst (-1), 1) := by decide +kernel
theorem d_M_at_20 : decode b_M_at 20 = .ok (.ireturn, 1) := by decide +kernel
theorem d_M_at_21 : decode b_M_at 21 = .ok (.aload_n 0, 1) := by decide +kernel
theorem d_M_at_22 : decode b_M_at 22 = .ok (.getfield 19, 3) := by decide +kernel
theorem d_M_at_25 : decode b_M_at 25 = .ok (.iload_n 1, 1) := by decide +kernel
theorem d_M_at_26 : decode b_M_at 26 = .ok (.iaload, 1) := by decide +kernel
theorem d_M_at_27 : decode b_M_at 27 = .ok (.aload_n 0, 1) := by decide +kernel
theorem d_M_at_28 : decode b_M_at 28 = .ok (.getfield 16, 3) := by decide +kernel
theorem d_M_at_31 : decode b_M_at 31 = .ok (.iload_n 1, 1) := by decide +kernel
theorem d_M_at_32 : decode b_M_at 32 = .ok (.iaload, 1) := by decide +kernel
theorem d_M_at_33 : decode b_M_at 33 = .ok (.isub, 1) := by decide +kernel
theorem d_M_at_34 : decode b_M_at 34 = .ok (.istore_n 3, 1) := by decide +kernel
theorem d_M_at_35 : decode b_M_at 35 = .ok (.iconst 0, 1) := by decide +kernel
theorem d_M_at_36 : decode b_M_at 36 = .ok (.istore 4, 2) := by decide +kernel
theorem d_M_at_38 : decode b_M_at 38 = .ok (.aload_n 0, 1) := by decide +kernel
theorem d_M_at_39 : decode b_M_at 39 = .ok (.getfield 56, 3) := by decide +kernel
theorem d_M_at_42 : decode b_M_at 42 = .ok (.iload_n 1, 1) := by decide +kernel
theorem d_M_at_43 : decode b_M_at 43 = .ok (.iaload, 1) := by decide +kernel
theorem d_M_at_44 : decode b_M_at 44 = .ok (.istore 5, 2) := by decide +kernel
theorem d_M_at_46 : decode b_M_at 46 = .ok (.iload 5, 2) := by decide +kernel
theorem d_M_at_48 : decode b_M_at 48 = .ok (.iload_n 2, 1) := by decide +kernel
theorem d_M_at_49 : decode b_M_at 49 = .ok (.if_icmp .ge 39, 3) := by decide +kernel
theorem d_M_at_52 : decode b_M_at 52 = .ok (.iload 4, 2) := by decide +kernel
theorem d_M_at_54 : decode b_M_at 54 = .ok (.iload_n 3, 1) := by decide +kernel
theorem d_M_at_55 : decode b_M_at 55 = .ok (.if_icmp .ge 33, 3) := by decide +kernel
theorem d_M_at_58 : decode b_M_at 58 = .ok (.iload 4, 2) := by decide +kernel
theorem d_M_at_60 : decode b_M_at 60 = .ok (.aload_n 0, 1) := by decide +kernel
theorem d_M_at_61 : decode b_M_at 61 = .ok (.iload 5, 2) := by decide +kernel
theorem d_M_at_63 : decode b_M_at 63 = .ok (.invokevirtual 123, 3) := by decide +kernel
theorem d_M_at_66 : decode b_M_at 66 = .ok (.ifCond .eq 7, 3) := by decide +kernel
theorem d_M_at_69 : decode b_M_at 69 = .ok (.iconst 0, 1) := by decide +kernel
theorem d_M_at_70 : decode b_M_at 70 = .ok (.goto 9, 3) := by decide +kernel
theorem d_M_at_73 : decode b_M_at 73 = .ok (.aload_n 0, 1) := by decide +kernel
theorem d_M_at_74 : decode b_M_at 74 = .ok (.getfield 22, 3) := by decide +kernel
theorem d_M_at_77 : decode b_M_at 77 = .ok (.iload_n 1, 1) := by decide +kernel
theorem d_M_at_78 : decode b_M_at 78 = .ok (.iaload, 1) := by decide +kernel
theorem d_M_at_79 : decode b_M_at 79 = .ok (.iadd, 1) := by decide +kernel
theorem d_M_at_80 : decode b_M_at 80 = .ok (.istore 4, 2) := by decide +kernel
theorem d_M_at_82 : decode b_M_at 82 = .ok (.iinc 5 1, 3) := by decide +kernel
theorem d_M_at_85 : decode b_M_at 85 = .ok (.goto (-39), 3) := by decide +kernel
theorem d_M_at_88 : decode b_M_at 88 = .ok (.iload 4, 2) := by decide +kernel
theorem d_M_at_90 : decode b_M_at 90 = .ok (.iload_n 3, 1) := by decide +kernel
theorem d_M_at_91 : decode b_M_at 91 = .ok (.if_icmp .le 7, 3) := by decide +kernel
theorem d_M_at_94 : decode b_M_at 94 = .ok (.iload_n 3, 1) := by decide +kernel
theorem d_M_at_95 : decode b_M_at 95 = .ok (.goto 5, 3) := by decide +kernel
theorem d_M_at_98 : decode b_M_at 98 = .ok (.iload 4, 2) := by decide +kernel
theorem d_M_at_100 : decode b_M_at 100 = .ok (.istore 4, 2) := by decide +kernel
theorem d_M_at_102 : decode b_M_at 102 = .ok (.aload_n 0, 1) := by decide +kernel
theorem d_M_at_103 : decode b_M_at 103 = .ok (.getfield 59, 3) := by decide +kernel
theorem d_M_at_106 : decode b_M_at 106 = .ok (.iload_n 1, 1) := by decide +kernel
theorem d_M_at_107 : decode b_M_at 107 = .ok (.iaload, 1) := by decide +kernel
theorem d_M_at_108 : decode b_M_at 108 = .ok (.ifCond .ne 15, 3) := by decide +kernel
theorem d_M_at_111 : decode b_M_at 111 = .ok (.aload_n 0, 1) := by decide +kernel
theorem d_M_at_112 : decode b_M_at 112 = .ok (.getfield 16, 3) := by decide +kernel
theorem d_M_at_115 : decode b_M_at 115 = .ok (.iload_n 1, 1) := by decide +kernel
theorem d_M_at_116 : decode b_M_at 116 = .ok (.iaload, 1) := by decide +kernel
theorem d_M_at_117 : decode b_M_at 117 = .ok (.iload 4, 2) := by decide +kernel
theorem d_M_at_119 : decode b_M_at 119 = .ok (.iadd, 1) := by decide +kernel
theorem d_M_at_120 : decode b_M_at 120 = .ok (.goto 12, 3) := by decide +kernel
theorem d_M_at_123 : decode b_M_at 123 = .ok (.aload_n 0, 1) := by decide +kernel
theorem d_M_at_124 : decode b_M_at 124 = .ok (.getfield 19, 3) := by decide +kernel
theorem d_M_at_127 : decode b_M_at 127 = .ok (.iload_n 1, 1) := by decide +kernel
theorem d_M_at_128 : decode b_M_at 128 = .ok (.iaload, 1) := by decide +kernel
theorem d_M_at_129 : decode b_M_at 129 = .ok (.iload 4, 2) := by decide +kernel
theorem d_M_at_131 : decode b_M_at 131 = .ok (.isub, 1) := by decide +kernel
theorem d_M_at_132 : decode b_M_at 132 = .ok (.ireturn, 1) := by decide +kernel
theorem d_M_common_0 : decode b_M_common 0 = .ok (.iload_n 0, 1) := by decide +kernel
theorem d_M_common_1 : decode b_M_common 1 = .ok (.istore_n 2, 1) := by decide +kernel
theorem d_M_common_2 : decode b_M_common 2 = .ok (.iload_n 1, 1) := by decide +kernel
theorem d_M_common_3 : decode b_M_common 3 = .ok (.istore_n 3, 1) := by decide +kernel
theorem d_M_common_4 : decode b_M_common 4 = .ok (.iload_n 3, 1) := by decide +kernel
theorem d_M_common_5 : decode b_M_common 5 = .ok (.ifCond .le 16, 3) := by decide +kernel
theorem d_M_common_8 : decode b_M_common 8 = .ok (.iload_n 2, 1) := by decide +kernel
theorem d_M_common_9 : decode b_M_common 9 = .ok (.iload_n 3, 1) := by decide +kernel
theorem d_M_common_10 : decode b_M_common 10 = .ok (.irem, 1) := by decide +kernel
theorem d_M_common_11 : decode b_M_common 11 = .ok (.istore 4, 2) := by decide +kernel
theorem d_M_common_13 : decode b_M_common 13 = .ok (.iload_n 3, 1) := by decide +kernel
theorem d_M_common_14 : decode b_M_common 14 = .ok (.istore_n 2, 1) := by decide +kernel
theorem d_M_common_15 : decode b_M_common 15 = .ok (.iload 4, 2) := by decide +kernel
theorem d_M_common_17 : decode b_M_common 17 = .ok (.istore_n 3, 1) := by decide +kernel
theorem d_M_common_18 : decode b_M_common 18 = .ok (.goto (-14), 3) := by decide +kernel
theorem d_M_common_21 : decode b_M_common 21 = .ok (.iload_n 2, 1) := by decide +kernel
theorem d_M_common_22 : decode b_M_common 22 = .ok (.ireturn, 1) := by decide +kernel
theorem d_M_passes_0 : decode b_M_passes 0 = .ok (.aload_n 0, 1) := by decide +kernel
theorem d_M_passes_1 : decode b_M_passes 1 = .ok (.getfield 99, 3) := by decide +kernel
theorem d_M_passes_4 : decode b_M_passes 4 = .ok (.ifCond .eq 40, 3) := by decide +kernel
theorem d_M_passes_7 : decode b_M_passes 7 = .ok (.aload_n 0, 1) := by decide +kernel
theorem d_M_passes_8 : decode b_M_passes 8 = .ok (.iload_n 1, 1) := by decide +kernel
theorem d_M_passes_9 : decode b_M_passes 9 = .ok (.invokevirtual 113, 3) := by decide +kernel
theorem d_M_passes_12 : decode b_M_passes 12 = .ok (.ifCond .eq 32, 3) := by decide +kernel
theorem d_M_passes_15 : decode b_M_passes 15 = .ok (.iload_n 2, 1) := by decide +kernel
theorem d_M_passes_16 : decode b_M_passes 16 = .ok (.aload_n 0, 1) := by decide +kernel
theorem d_M_passes_17 : decode b_M_passes 17 = .ok (.getfield 16, 3) := by decide +kernel
theorem d_M_passes_20 : decode b_M_passes 20 = .ok (.iload_n 1, 1) := by decide +kernel
theorem d_M_passes_21 : decode b_M_passes 21 = .ok (.iaload, 1) := by decide +kernel
theorem d_M_passes_22 : decode b_M_passes 22 = .ok (.aload_n 0, 1) := by decide +kernel
theorem d_M_passes_23 : decode b_M_passes 23 = .ok (.getfield 19, 3) := by decide +kernel
theorem d_M_passes_26 : decode b_M_passes 26 = .ok (.iload_n 1, 1) := by decide +kernel
theorem d_M_passes_27 : decode b_M_passes 27 = .ok (.iaload, 1) := by decide +kernel
theorem d_M_passes_28 : decode b_M_passes 28 = .ok (.invokestatic 103, 3) := by decide +kernel
theorem d_M_passes_31 : decode b_M_passes 31 = .ok (.ifCond .eq 13, 3) := by decide +kernel
theorem d_M_passes_34 : decode b_M_passes 34 = .ok (.iload 4, 2) := by decide +kernel
theorem d_M_passes_36 : decode b_M_passes 36 = .ok (.iconst 0, 1) := by decide +kernel
theorem d_M_passes_37 : decode b_M_passes 37 = .ok (.iconst 1, 1) := by decide +kernel
theorem d_M_passes_38 : decode b_M_passes 38 = .ok (.invokestatic 103, 3) := by decide +kernel
theorem d_M_passes_41 : decode b_M_passes 41 = .ok (.ifCond .ne 5, 3) := by decide +kernel
theorem d_M_passes_44 : decode b_M_passes 44 = .ok (.iconst (-1), 1) := by decide +kernel
theorem d_M_passes_45 : decode b_M_passes 45 = .ok (.ireturn, 1) := by decide +kernel
theorem d_M_passes_46 : decode b_M_passes 46 = .ok (.aload_n 0, 1) := by decide +kernel
theorem d_M_passes_47 : decode b_M_passes 47 = .ok (.invokevirtual 191, 3) := by decide +kernel
theorem d_M_passes_50 : decode b_M_passes 50 = .ok (.iload_n 3, 1) := by decide +kernel
theorem d_M_passes_51 : decode b_M_passes 51 = .ok (.ifCond .eq 18, 3) := by decide +kernel
theorem d_M_passes_54 : decode b_M_passes 54 = .ok (.aload_n 0, 1) := by decide +kernel
theorem d_M_passes_55 : decode b_M_passes 55 = .ok (.getfield 83, 3) := by decide +kernel
theorem d_M_passes_58 : decode b_M_passes 58 = .ok (.sipush 201, 3) := by decide +kernel
theorem d_M_passes_61 : decode b_M_passes 61 = .ok (.iload_n 1, 1) := by decide +kernel
theorem d_M_passes_62 : decode b_M_passes 62 = .ok (.imul, 1) := by decide +kernel
theorem d_M_passes_63 : decode b_M_passes 63 = .ok (.iload_n 2, 1) := by decide +kernel
theorem d_M_passes_64 : decode b_M_passes 64 = .ok (.iadd, 1) := by decide +kernel
theorem d_M_passes_65 : decode b_M_passes 65 = .ok (.iaload, 1) := by decide +kernel
theorem d_M_passes_66 : decode b_M_passes 66 = .ok (.goto 15, 3) := by decide +kernel
theorem d_M_passes_69 : decode b_M_passes 69 = .ok (.aload_n 0, 1) := by decide +kernel
theorem d_M_passes_70 : decode b_M_passes 70 = .ok (.getfield 80, 3) := by decide +kernel
theorem d_M_passes_73 : decode b_M_passes 73 = .ok (.sipush 201, 3) := by decide +kernel
theorem d_M_passes_76 : decode b_M_passes 76 = .ok (.iload_n 1, 1) := by decide +kernel
theorem d_M_passes_77 : decode b_M_passes 77 = .ok (.imul, 1) := by decide +kernel
theorem d_M_passes_78 : decode b_M_passes 78 = .ok (.iload_n 2, 1) := by decide +kernel
theorem d_M_passes_79 : decode b_M_passes 79 = .ok (.iadd, 1) := by decide +kernel
theorem d_M_passes_80 : decode b_M_passes 80 = .ok (.iaload, 1) := by decide +kernel
theorem d_M_passes_81 : decode b_M_passes 81 = .ok (.istore 5, 2) := by decide +kernel
theorem d_M_passes_83 : decode b_M_passes 83 = .ok (.iload 5, 2) := by decide +kernel
theorem d_M_passes_85 : decode b_M_passes 85 = .ok (.aload_n 0, 1) := by decide +kernel
theorem d_M_passes_86 : decode b_M_passes 86 = .ok (.getfield 22, 3) := by decide +kernel
theorem d_M_passes_89 : decode b_M_passes 89 = .ok (.iload_n 1, 1) := by decide +kernel
theorem d_M_passes_90 : decode b_M_passes 90 = .ok (.iaload, 1) := by decide +kernel
theorem d_M_passes_91 : decode b_M_passes 91 = .ok (.invokestatic 194, 3) := by decide +kernel
theorem d_M_passes_94 : decode b_M_passes 94 = .ok (.istore 6, 2) := by decide +kernel
theorem d_M_passes_96 : decode b_M_passes 96 = .ok (.iload 4, 2) := by decide +kernel
theorem d_M_passes_98 : decode b_M_passes 98 = .ok (.ifCond .ne 11, 3) := by decide +kernel
theorem d_M_passes_101 : decode b_M_passes 101 = .ok (.iload 5, 2) := by decide +kernel
theorem d_M_passes_103 : decode b_M_passes 103 = .ok (.iload 6, 2) := by decide +kernel
theorem d_M_passes_105 : decode b_M_passes 105 = .ok (.idiv, 1) := by decide +kernel
theorem d_M_passes_106 : decode b_M_passes 106 = .ok (.goto 12, 3) := by decide +kernel
theorem d_M_passes_109 : decode b_M_passes 109 = .ok (.aload_n 0, 1) := by decide +kernel
theorem d_M_passes_110 : decode b_M_passes 110 = .ok (.getfield 22, 3) := by decide +kernel
theorem d_M_passes_113 : decode b_M_passes 113 = .ok (.iload_n 1, 1) := by decide +kernel
theorem d_M_passes_114 : decode b_M_passes 114 = .ok (.iaload, 1) := by decide +kernel
theorem d_M_passes_115 : decode b_M_passes 115 = .ok (.iload 6, 2) := by decide +kernel
theorem d_M_passes_117 : decode b_M_passes 117 = .ok (.idiv, 1) := by decide +kernel
theorem d_M_passes_118 : decode b_M_passes 118 = .ok (.ireturn, 1) := by decide +kernel
theorem d_M_crosses_0 : decode b_M_crosses 0 = .ok (.aload_n 0, 1) := by decide +kernel
theorem d_M_crosses_1 : decode b_M_crosses 1 = .ok (.getfield 99, 3) := by decide +kernel
theorem d_M_crosses_4 : decode b_M_crosses 4 = .ok (.ifCond .eq 19, 3) := by decide +kernel
theorem d_M_crosses_7 : decode b_M_crosses 7 = .ok (.aload_n 0, 1) := by decide +kernel
theorem d_M_crosses_8 : decode b_M_crosses 8 = .ok (.iload_n 1, 1) := by decide +kernel
theorem d_M_crosses_9 : decode b_M_crosses 9 = .ok (.invokevirtual 113, 3) := by decide +kernel
theorem d_M_crosses_12 : decode b_M_crosses 12 = .ok (.ifCond .eq 11, 3) := by decide +kernel
theorem d_M_crosses_15 : decode b_M_crosses 15 = .ok (.aload_n 0, 1) := by decide +kernel
theorem d_M_crosses_16 : decode b_M_crosses 16 = .ok (.iload_n 2, 1) := by decide +kernel
theorem d_M_crosses_17 : decode b_M_crosses 17 = .ok (.invokevirtual 113, 3) := by decide +kernel
theorem d_M_crosses_20 : decode b_M_crosses 20 = .ok (.ifCond .ne 5, 3) := by decide +kernel
theorem d_M_crosses_23 : decode b_M_crosses 23 = .ok (.iconst 0, 1) := by decide +kernel
theorem d_M_crosses_24 : decode b_M_crosses 24 = .ok (.ireturn, 1) := by decide +kernel
theorem d_M_crosses_25 : decode b_M_crosses 25 = .ok (.aload_n 0, 1) := by decide +kernel
theorem d_M_crosses_26 : decode b_M_crosses 26 = .ok (.invokevirtual 191, 3) := by decide +kernel
theorem d_M_crosses_29 : decode b_M_crosses 29 = .ok (.iconst 0, 1) := by decide +kernel
theorem d_M_crosses_30 : decode b_M_crosses 30 = .ok (.istore_n 3, 1) := by decide +kernel
theorem d_M_crosses_31 : decode b_M_crosses 31 = .ok (.iconst 0, 1) := by decide +kernel
theorem d_M_crosses_32 : decode b_M_crosses 32 = .ok (.istore 4, 2) := by decide +kernel
theorem d_M_crosses_34 : decode b_M_crosses 34 = .ok (.iconst 0, 1) := by decide +kernel
theorem d_M_crosses_35 : decode b_M_crosses 35 = .ok (.istore 5, 2) := by decide +kernel
theorem d_M_crosses_37 : decode b_M_crosses 37 = .ok (.iload 5, 2) := by decide +kernel
theorem d_M_crosses_39 : decode b_M_crosses 39 = .ok (.sipush 201, 3) := by decide +kernel
theorem d_M_crosses_42 : decode b_M_crosses 42 = .ok (.if_icmp .ge 135, 3) := by decide +kernel
theorem d_M_crosses_45 : decode b_M_crosses 45 = .ok (.iload 5, 2) := by decide +kernel
theorem d_M_crosses_47 : decode b_M_crosses 47 = .ok (.aload_n 0, 1) := by decide +kernel
theorem d_M_crosses_48 : decode b_M_crosses 48 = .ok (.getfield 16, 3) := by decide +kernel
theorem d_M_crosses_51 : decode b_M_crosses 51 = .ok (.iload_n 1, 1) := by decide +kernel
theorem d_M_crosses_52 : decode b_M_crosses 52 = .ok (.iaload, 1) := by decide +kernel
theorem d_M_crosses_53 : decode b_M_crosses 53 = .ok (.aload_n 0, 1) := by decide +kernel
theorem d_M_crosses_54 : decode b_M_crosses 54 = .ok (.getfield 19, 3) := by decide +kernel
theorem d_M_crosses_57 : decode b_M_crosses 57 = .ok (.iload_n 1, 1) := by decide +kernel
theorem d_M_crosses_58 : decode b_M_crosses 58 = .ok (.iaload, 1) := by decide +kernel
theorem d_M_crosses_59 : decode b_M_crosses 59 = .ok (.invokestatic 103, 3) := by decide +kernel
theorem d_M_crosses_62 : decode b_M_crosses 62 = .ok (.ifCond .eq 109, 3) := by decide +kernel
theorem d_M_crosses_65 : decode b_M_crosses 65 = .ok (.iload 5, 2) := by decide +kernel
theorem d_M_crosses_67 : decode b_M_crosses 67 = .ok (.aload_n 0, 1) := by decide +kernel
theorem d_M_crosses_68 : decode b_M_crosses 68 = .ok (.getfield 16, 3) := by decide +kernel
theorem d_M_crosses_71 : decode b_M_crosses 71 = .ok (.iload_n 2, 1) := by decide +kernel
theorem d_M_crosses_72 : decode b_M_crosses 72 = .ok (.iaload, 1) := by decide +kernel
theorem d_M_crosses_73 : decode b_M_crosses 73 = .ok (.aload_n 0, 1) := by decide +kernel
theorem d_M_crosses_74 : decode b_M_crosses 74 = .ok (.getfield 19, 3) := by decide +kernel
theorem d_M_crosses_77 : decode b_M_crosses 77 = .ok (.iload_n 2, 1) := by decide +kernel
theorem d_M_crosses_78 : decode b_M_crosses 78 = .ok (.iaload, 1) := by decide +kernel
theorem d_M_crosses_79 : decode b_M_crosses 79 = .ok (.invokestatic 103, 3) := by decide +kernel
theorem d_M_crosses_82 : decode b_M_crosses 82 = .ok (.ifCond .eq 89, 3) := by decide +kernel
theorem d_M_crosses_85 : decode b_M_crosses 85 = .ok (.aload_n 0, 1) := by decide +kernel
theorem d_M_crosses_86 : decode b_M_crosses 86 = .ok (.getfield 80, 3) := by decide +kernel
theorem d_M_crosses_89 : decode b_M_crosses 89 = .ok (.sipush 201, 3) := by decide +kernel
theorem d_M_crosses_92 : decode b_M_crosses 92 = .ok (.iload_n 1, 1) := by decide +kernel
theorem d_M_crosses_93 : decode b_M_crosses 93 = .ok (.imul, 1) := by decide +kernel
theorem d_M_crosses_94 : decode b_M_crosses 94 = .ok (.iload 5, 2) := by decide +kernel
theorem d_M_crosses_96 : decode b_M_crosses 96 = .ok (.iadd, 1) := by decide +kernel
theorem d_M_crosses_97 : decode b_M_crosses 97 = .ok (.iaload, 1) := by decide +kernel
theorem d_M_crosses_98 : decode b_M_crosses 98 = .ok (.i2l, 1) := by decide +kernel
theorem d_M_crosses_99 : decode b_M_crosses 99 = .ok (.aload_n 0, 1) := by decide +kernel
theorem d_M_crosses_100 : decode b_M_crosses 100 = .ok (.getfield 22, 3) := by decide +kernel
theorem d_M_crosses_103 : decode b_M_crosses 103 = .ok (.iload_n 2, 1) := by decide +kernel
theorem d_M_crosses_104 : decode b_M_crosses 104 = .ok (.iaload, 1) := by decide +kernel
theorem d_M_crosses_105 : decode b_M_crosses 105 = .ok (.i2l, 1) := by decide +kernel
theorem d_M_crosses_106 : decode b_M_crosses 106 = .ok (.lmul, 1) := by decide +kernel
theorem d_M_crosses_107 : decode b_M_crosses 107 = .ok (.lstore 6, 2) := by decide +kernel
theorem d_M_crosses_109 : decode b_M_crosses 109 = .ok (.aload_n 0, 1) := by decide +kernel
theorem d_M_crosses_110 : decode b_M_crosses 110 = .ok (.getfield 80, 3) := by decide +kernel
theorem d_M_crosses_113 : decode b_M_crosses 113 = .ok (.sipush 201, 3) := by decide +kernel
theorem d_M_crosses_116 : decode b_M_crosses 116 = .ok (.iload_n 2, 1) := by decide +kernel
theorem d_M_crosses_117 : decode b_M_crosses 117 = .ok (.imul, 1) := by decide +kernel
theorem d_M_crosses_118 : decode b_M_crosses 118 = .ok (.iload 5, 2) := by decide +kernel
theorem d_M_crosses_120 : decode b_M_crosses 120 = .ok (.iadd, 1) := by decide +kernel
theorem d_M_crosses_121 : decode b_M_crosses 121 = .ok (.iaload, 1) := by decide +kernel
theorem d_M_crosses_122 : decode b_M_crosses 122 = .ok (.i2l, 1) := by decide +kernel
theorem d_M_crosses_123 : decode b_M_crosses 123 = .ok (.aload_n 0, 1) := by decide +kernel
theorem d_M_crosses_124 : decode b_M_crosses 124 = .ok (.getfield 22, 3) := by decide +kernel
theorem d_M_crosses_127 : decode b_M_crosses 127 = .ok (.iload_n 1, 1) := by decide +kernel
theorem d_M_crosses_128 : decode b_M_crosses 128 = .ok (.iaload, 1) := by decide +kernel
theorem d_M_crosses_129 : decode b_M_crosses 129 = .ok (.i2l, 1) := by decide +kernel
theorem d_M_crosses_130 : decode b_M_crosses 130 = .ok (.lmul, 1) := by decide +kernel
theorem d_M_crosses_131 : decode b_M_crosses 131 = .ok (.lstore 8, 2) := by decide +kernel
theorem d_M_crosses_133 : decode b_M_crosses 133 = .ok (.iload_n 3, 1) := by decide +kernel
theorem d_M_crosses_134 : decode b_M_crosses 134 = .ok (.ifCond .ne 11, 3) := by decide +kernel
theorem d_M_crosses_137 : decode b_M_crosses 137 = .ok (.lload 6, 2) := by decide +kernel
theorem d_M_crosses_139 : decode b_M_crosses 139 = .ok (.lload 8, 2) := by decide +kernel
theorem d_M_crosses_141 : decode b_M_crosses 141 = .ok (.lcmp, 1) := by decide +kernel
theorem d_M_crosses_142 : decode b_M_crosses 142 = .ok (.ifCond .ge 7, 3) := by decide +kernel
theorem d_M_crosses_145 : decode b_M_crosses 145 = .ok (.iconst 1, 1) := by decide +kernel
theorem d_M_crosses_146 : decode b_M_crosses 146 = .ok (.goto 4, 3) := by decide +kernel
theorem d_M_crosses_149 : decode b_M_crosses 149 = .ok (.iconst 0, 1) := by decide +kernel
theorem d_M_crosses_150 : decode b_M_crosses 150 = .ok (.istore_n 3, 1) := by decide +kernel
theorem d_M_crosses_151 : decode b_M_crosses 151 = .ok (.iload 4, 2) := by decide +kernel
theorem d_M_crosses_153 : decode b_M_crosses 153 = .ok (.ifCond .ne 11, 3) := by decide +kernel
theorem d_M_crosses_156 : decode b_M_crosses 156 = .ok (.lload 8, 2) := by decide +kernel
theorem d_M_crosses_158 : decode b_M_crosses 158 = .ok (.lload 6, 2) := by decide +kernel
theorem d_M_crosses_160 : decode b_M_crosses 160 = .ok (.lcmp, 1) := by decide +kernel
theorem d_M_crosses_161 : decode b_M_crosses 161 = .ok (.ifCond .ge 7, 3) := by decide +kernel
theorem d_M_crosses_164 : decode b_M_crosses 164 = .ok (.iconst 1, 1) := by decide +kernel
theorem d_M_crosses_165 : decode b_M_crosses 165 = .ok (.goto 4, 3) := by decide +kernel
theorem d_M_crosses_168 : decode b_M_crosses 168 = .ok (.iconst 0, 1) := by decide +kernel
theorem d_M_crosses_169 : decode b_M_crosses 169 = .ok (.istore 4, 2) := by decide +kernel
theorem d_M_crosses_171 : decode b_M_crosses 171 = .ok (.iinc 5 1, 3) := by decide +kernel
theorem d_M_crosses_174 : decode b_M_crosses 174 = .ok (.goto (-137), 3) := by decide +kernel
theorem d_M_crosses_177 : decode b_M_crosses 177 = .ok (.iload_n 3, 1) := by decide +kernel
theorem d_M_crosses_178 : decode b_M_crosses 178 = .ok (.ifCond .eq 12, 3) := by decide +kernel
theorem d_M_crosses_181 : decode b_M_crosses 181 = .ok (.iload 4, 2) := by decide +kernel
theorem d_M_crosses_183 : decode b_M_crosses 183 = .ok (.ifCond .eq 7, 3) := by decide +kernel
theorem d_M_crosses_186 : decode b_M_crosses 186 = .ok (.iconst 1, 1) := by decide +kernel
theorem d_M_crosses_187 : decode b_M_crosses 187 = .ok (.goto 4, 3) := by decide +kernel
theorem d_M_crosses_190 : decode b_M_crosses 190 = .ok (.iconst 0, 1) := by decide +kernel
theorem d_M_crosses_191 : decode b_M_crosses 191 = .ok (.ireturn, 1) := by decide +kernel
theorem d_M_under_0 : decode b_M_under 0 = .ok (.aload_n 0, 1) := by decide +kernel
theorem d_M_under_1 : decode b_M_under 1 = .ok (.getfield 99, 3) := by decide +kernel
theorem d_M_under_4 : decode b_M_under 4 = .ok (.ifCond .eq 16, 3) := by decide +kernel
theorem d_M_under_7 : decode b_M_under 7 = .ok (.iload_n 1, 1) := by decide +kernel
theorem d_M_under_8 : decode b_M_under 8 = .ok (.iconst 0, 1) := by decide +kernel
theorem d_M_under_9 : decode b_M_under 9 = .ok (.iconst 3, 1) := by decide +kernel
theorem d_M_under_10 : decode b_M_under 10 = .ok (.invokestatic 103, 3) := by decide +kernel
theorem d_M_under_13 : decode b_M_under 13 = .ok (.ifCond .eq 7, 3) := by decide +kernel
theorem d_M_under_16 : decode b_M_under 16 = .ok (.iload_n 2, 1) := by decide +kernel
theorem d_M_under_17 : decode b_M_under 17 = .ok (.ifCond .ge 5, 3) := by decide +kernel
theorem d_M_under_20 : decode b_M_under 20 = .ok (.iconst (-1), 1) := by decide +kernel
theorem d_M_under_21 : decode b_M_under 21 = .ok (.ireturn, 1) := by decide +kernel
theorem d_M_under_22 : decode b_M_under 22 = .ok (.aload_n 0, 1) := by decide +kernel
theorem d_M_under_23 : decode b_M_under 23 = .ok (.invokevirtual 191, 3) := by decide +kernel
theorem d_M_under_26 : decode b_M_under 26 = .ok (.iconst 0, 1) := by decide +kernel
theorem d_M_under_27 : decode b_M_under 27 = .ok (.istore_n 3, 1) := by decide +kernel
theorem d_M_under_28 : decode b_M_under 28 = .ok (.iconst 0, 1) := by decide +kernel
theorem d_M_under_29 : decode b_M_under 29 = .ok (.istore 4, 2) := by decide +kernel
theorem d_M_under_31 : decode b_M_under 31 = .ok (.iload 4, 2) := by decide +kernel
theorem d_M_under_33 : decode b_M_under 33 = .ok (.aload_n 0, 1) := by decide +kernel
theorem d_M_under_34 : decode b_M_under 34 = .ok (.getfield 95, 3) := by decide +kernel
theorem d_M_under_37 : decode b_M_under 37 = .ok (.if_icmp .ge 43, 3) := by decide +kernel
theorem d_M_under_40 : decode b_M_under 40 = .ok (.iload_n 3, 1) := by decide +kernel
theorem d_M_under_41 : decode b_M_under 41 = .ok (.aload_n 0, 1) := by decide +kernel
theorem d_M_under_42 : decode b_M_under 42 = .ok (.getfield 7, 3) := by decide +kernel
theorem d_M_under_45 : decode b_M_under 45 = .ok (.aload_n 0, 1) := by decide +kernel
theorem d_M_under_46 : decode b_M_under 46 = .ok (.getfield 13, 3) := by decide +kernel
theorem d_M_under_49 : decode b_M_under 49 = .ok (.iload 4, 2) := by decide +kernel
theorem d_M_under_51 : decode b_M_under 51 = .ok (.iaload, 1) := by decide +kernel
theorem d_M_under_52 : decode b_M_under 52 = .ok (.iaload, 1) := by decide +kernel
theorem d_M_under_53 : decode b_M_under 53 = .ok (.iload_n 1, 1) := by decide +kernel
theorem d_M_under_54 : decode b_M_under 54 = .ok (.if_icmp .ne 17, 3) := by decide +kernel
theorem d_M_under_57 : decode b_M_under 57 = .ok (.aload_n 0, 1) := by decide +kernel
theorem d_M_under_58 : decode b_M_under 58 = .ok (.iload 4, 2) := by decide +kernel
theorem d_M_under_60 : decode b_M_under 60 = .ok (.iload_n 2, 1) := by decide +kernel
theorem d_M_under_61 : decode b_M_under 61 = .ok (.invokevirtual 141, 3) := by decide +kernel
theorem d_M_under_64 : decode b_M_under 64 = .ok (.ifCond .eq 7, 3) := by decide +kernel
theorem d_M_under_67 : decode b_M_under 67 = .ok (.iconst 1, 1) := by decide +kernel
theorem d_M_under_68 : decode b_M_under 68 = .ok (.goto 4, 3) := by decide +kernel
theorem d_M_under_71 : decode b_M_under 71 = .ok (.iconst 0, 1) := by decide +kernel
theorem d_M_under_72 : decode b_M_under 72 = .ok (.iadd, 1) := by decide +kernel
theorem d_M_under_73 : decode b_M_under 73 = .ok (.istore_n 3, 1) := by decide +kernel
theorem d_M_under_74 : decode b_M_under 74 = .ok (.iinc 4 1, 3) := by decide +kernel
theorem d_M_under_77 : decode b_M_under 77 = .ok (.goto (-46), 3) := by decide +kernel
theorem d_M_under_80 : decode b_M_under 80 = .ok (.iload_n 3, 1) := by decide +kernel
theorem d_M_under_81 : decode b_M_under 81 = .ok (.ireturn, 1) := by decide +kernel
theorem d_M_daysOf_0 : decode b_M_daysOf 0 = .ok (.aload_n 0, 1) := by decide +kernel
theorem d_M_daysOf_1 : decode b_M_daysOf 1 = .ok (.getfield 19, 3) := by decide +kernel
theorem d_M_daysOf_4 : decode b_M_daysOf 4 = .ok (.iload_n 1, 1) := by decide +kernel
theorem d_M_daysOf_5 : decode b_M_daysOf 5 = .ok (.iaload, 1) := by decide +kernel
theorem d_M_daysOf_6 : decode b_M_daysOf 6 = .ok (.aload_n 0, 1) := by decide +kernel
theorem d_M_daysOf_7 : decode b_M_daysOf 7 = .ok (.getfield 16, 3) := by decide +kernel
theorem d_M_daysOf_10 : decode b_M_daysOf 10 = .ok (.iload_n 1, 1) := by decide +kernel
theorem d_M_daysOf_11 : decode b_M_daysOf 11 = .ok (.iaload, 1) := by decide +kernel
theorem d_M_daysOf_12 : decode b_M_daysOf 12 = .ok (.isub, 1) := by decide +kernel
theorem d_M_daysOf_13 : decode b_M_daysOf 13 = .ok (.aload_n 0, 1) := by decide +kernel
theorem d_M_daysOf_14 : decode b_M_daysOf 14 = .ok (.getfield 22, 3) := by decide +kernel
theorem d_M_daysOf_17 : decode b_M_daysOf 17 = .ok (.iload_n 1, 1) := by decide +kernel
theorem d_M_daysOf_18 : decode b_M_daysOf 18 = .ok (.iaload, 1) := by decide +kernel
theorem d_M_daysOf_19 : decode b_M_daysOf 19 = .ok (.iadd, 1) := by decide +kernel
theorem d_M_daysOf_20 : decode b_M_daysOf 20 = .ok (.iconst 1, 1) := by decide +kernel
theorem d_M_daysOf_21 : decode b_M_daysOf 21 = .ok (.isub, 1) := by decide +kernel
theorem d_M_daysOf_22 : decode b_M_daysOf 22 = .ok (.aload_n 0, 1) := by decide +kernel
theorem d_M_daysOf_23 : decode b_M_daysOf 23 = .ok (.getfield 22, 3) := by decide +kernel
theorem d_M_daysOf_26 : decode b_M_daysOf 26 = .ok (.iload_n 1, 1) := by decide +kernel
theorem d_M_daysOf_27 : decode b_M_daysOf 27 = .ok (.iaload, 1) := by decide +kernel
theorem d_M_daysOf_28 : decode b_M_daysOf 28 = .ok (.idiv, 1) := by decide +kernel
theorem d_M_daysOf_29 : decode b_M_daysOf 29 = .ok (.ireturn, 1) := by decide +kernel
theorem d_M_bound_0 : decode b_M_bound 0 = .ok (.iconst 0, 1) := by decide +kernel
theorem d_M_bound_1 : decode b_M_bound 1 = .ok (.istore_n 1, 1) := by decide +kernel
theorem d_M_bound_2 : decode b_M_bound 2 = .ok (.iconst 0, 1) := by decide +kernel
theorem d_M_bound_3 : decode b_M_bound 3 = .ok (.istore_n 2, 1) := by decide +kernel
theorem d_M_bound_4 : decode b_M_bound 4 = .ok (.iload_n 2, 1) := by decide +kernel
theorem d_M_bound_5 : decode b_M_bound 5 = .ok (.aload_n 0, 1) := by decide +kernel
theorem d_M_bound_6 : decode b_M_bound 6 = .ok (.getfield 107, 3) := by decide +kernel
theorem d_M_bound_9 : decode b_M_bound 9 = .ok (.if_icmp .ge 64, 3) := by decide +kernel
theorem d_M_bound_12 : decode b_M_bound 12 = .ok (.iconst 0, 1) := by decide +kernel
theorem d_M_bound_13 : decode b_M_bound 13 = .ok (.istore_n 3, 1) := by decide +kernel
theorem d_M_bound_14 : decode b_M_bound 14 = .ok (.iconst 0, 1) := by decide +kernel
theorem d_M_bound_15 : decode b_M_bound 15 = .ok (.istore 4, 2) := by decide +kernel
theorem d_M_bound_17 : decode b_M_bound 17 = .ok (.iload 4, 2) := by decide +kernel
theorem d_M_bound_19 : decode b_M_bound 19 = .ok (.aload_n 0, 1) := by decide +kernel
theorem d_M_bound_20 : decode b_M_bound 20 = .ok (.getfield 95, 3) := by decide +kernel
theorem d_M_bound_23 : decode b_M_bound 23 = .ok (.if_icmp .ge 33, 3) := by decide +kernel
theorem d_M_bound_26 : decode b_M_bound 26 = .ok (.iload_n 3, 1) := by decide +kernel
theorem d_M_bound_27 : decode b_M_bound 27 = .ok (.aload_n 0, 1) := by decide +kernel
theorem d_M_bound_28 : decode b_M_bound 28 = .ok (.getfield 13, 3) := by decide +kernel
theorem d_M_bound_31 : decode b_M_bound 31 = .ok (.iload 4, 2) := by decide +kernel
theorem d_M_bound_33 : decode b_M_bound 33 = .ok (.iaload, 1) := by decide +kernel
theorem d_M_bound_34 : decode b_M_bound 34 = .ok (.iload_n 2, 1) := by decide +kernel
theorem d_M_bound_35 : decode b_M_bound 35 = .ok (.if_icmp .ne 12, 3) := by decide +kernel
theorem d_M_bound_38 : decode b_M_bound 38 = .ok (.aload_n 0, 1) := by decide +kernel
theorem d_M_bound_39 : decode b_M_bound 39 = .ok (.iload 4, 2) := by decide +kernel
theorem d_M_bound_41 : decode b_M_bound 41 = .ok (.invokevirtual 198, 3) := by decide +kernel
theorem d_M_bound_44 : decode b_M_bound 44 = .ok (.goto 4, 3) := by decide +kernel
theorem d_M_bound_47 : decode b_M_bound 47 = .ok (.iconst 0, 1) := by decide +kernel
theorem d_M_bound_48 : decode b_M_bound 48 = .ok (.iadd, 1) := by decide +kernel
theorem d_M_bound_49 : decode b_M_bound 49 = .ok (.istore_n 3, 1) := by decide +kernel
theorem d_M_bound_50 : decode b_M_bound 50 = .ok (.iinc 4 1, 3) := by decide +kernel
theorem d_M_bound_53 : decode b_M_bound 53 = .ok (.goto (-36), 3) := by decide +kernel
theorem d_M_bound_56 : decode b_M_bound 56 = .ok (.iload_n 3, 1) := by decide +kernel
theorem d_M_bound_57 : decode b_M_bound 57 = .ok (.iload_n 1, 1) := by decide +kernel
theorem d_M_bound_58 : decode b_M_bound 58 = .ok (.if_icmp .le 7, 3) := by decide +kernel
theorem d_M_bound_61 : decode b_M_bound 61 = .ok (.iload_n 3, 1) := by decide +kernel
theorem d_M_bound_62 : decode b_M_bound 62 = .ok (.goto 4, 3) := by decide +kernel
theorem d_M_bound_65 : decode b_M_bound 65 = .ok (.iload_n 1, 1) := by decide +kernel
theorem d_M_bound_66 : decode b_M_bound 66 = .ok (.istore_n 1, 1) := by decide +kernel
theorem d_M_bound_67 : decode b_M_bound 67 = .ok (.iinc 2 1, 3) := by decide +kernel
theorem d_M_bound_70 : decode b_M_bound 70 = .ok (.goto (-66), 3) := by decide +kernel
theorem d_M_bound_73 : decode b_M_bound 73 = .ok (.iload_n 1, 1) := by decide +kernel
theorem d_M_bound_74 : decode b_M_bound 74 = .ok (.ireturn, 1) := by decide +kernel
theorem d_M_isLone_0 : decode b_M_isLone 0 = .ok (.iconst 0, 1) := by decide +kernel
theorem d_M_isLone_1 : decode b_M_isLone 1 = .ok (.istore_n 2, 1) := by decide +kernel
theorem d_M_isLone_2 : decode b_M_isLone 2 = .ok (.iload_n 2, 1) := by decide +kernel
theorem d_M_isLone_3 : decode b_M_isLone 3 = .ok (.bipush 100, 2) := by decide +kernel
theorem d_M_isLone_5 : decode b_M_isLone 5 = .ok (.if_icmp .ge 64, 3) := by decide +kernel
theorem d_M_isLone_8 : decode b_M_isLone 8 = .ok (.iconst 0, 1) := by decide +kernel
theorem d_M_isLone_9 : decode b_M_isLone 9 = .ok (.istore_n 3, 1) := by decide +kernel
theorem d_M_isLone_10 : decode b_M_isLone 10 = .ok (.iload_n 3, 1) := by decide +kernel
theorem d_M_isLone_11 : decode b_M_isLone 11 = .ok (.aload_n 0, 1) := by decide +kernel
theorem d_M_isLone_12 : decode b_M_isLone 12 = .ok (.getfield 25, 3) := by decide +kernel
theorem d_M_isLone_15 : decode b_M_isLone 15 = .ok (.iload_n 1, 1) := by decide +kernel
theorem d_M_isLone_16 : decode b_M_isLone 16 = .ok (.baload, 1) := by decide +kernel
theorem d_M_isLone_17 : decode b_M_isLone 17 = .ok (.ifCond .eq 7, 3) := by decide +kernel
theorem d_M_isLone_20 : decode b_M_isLone 20 = .ok (.iconst 2, 1) := by decide +kernel
theorem d_M_isLone_21 : decode b_M_isLone 21 = .ok (.goto 4, 3) := by decide +kernel
theorem d_M_isLone_24 : decode b_M_isLone 24 = .ok (.iconst 1, 1) := by decide +kernel
theorem d_M_isLone_25 : decode b_M_isLone 25 = .ok (.if_icmp .ge 38, 3) := by decide +kernel
theorem d_M_isLone_28 : decode b_M_isLone 28 = .ok (.aload_n 0, 1) := by decide +kernel
theorem d_M_isLone_29 : decode b_M_isLone 29 = .ok (.iload_n 2, 1) := by decide +kernel
theorem d_M_isLone_30 : decode b_M_isLone 30 = .ok (.invokevirtual 123, 3) := by decide +kernel
theorem d_M_isLone_33 : decode b_M_isLone 33 = .ok (.ifCond .ne 30, 3) := by decide +kernel
theorem d_M_isLone_36 : decode b_M_isLone 36 = .ok (.aload_n 0, 1) := by decide +kernel
theorem d_M_isLone_37 : decode b_M_isLone 37 = .ok (.bipush 6, 2) := by decide +kernel
theorem d_M_isLone_39 : decode b_M_isLone 39 = .ok (.iload_n 1, 1) := by decide +kernel
theorem d_M_isLone_40 : decode b_M_isLone 40 = .ok (.iload_n 2, 1) := by decide +kernel
theorem d_M_isLone_41 : decode b_M_isLone 41 = .ok (.iload_n 3, 1) := by decide +kernel
theorem d_M_isLone_42 : decode b_M_isLone 42 = .ok (.invokevirtual 159, 3) := by decide +kernel
theorem d_M_isLone_45 : decode b_M_isLone 45 = .ok (.aload_n 0, 1) := by decide +kernel
theorem d_M_isLone_46 : decode b_M_isLone 46 = .ok (.bipush 6, 2) := by decide +kernel
theorem d_M_isLone_48 : decode b_M_isLone 48 = .ok (.iload_n 1, 1) := by decide +kernel
theorem d_M_isLone_49 : decode b_M_isLone 49 = .ok (.invokevirtual 134, 3) := by decide +kernel
theorem d_M_isLone_52 : decode b_M_isLone 52 = .ok (.ifCond .eq 5, 3) := by decide +kernel
theorem d_M_isLone_55 : decode b_M_isLone 55 = .ok (.iconst 0, 1) := by decide +kernel
theorem d_M_isLone_56 : decode b_M_isLone 56 = .ok (.ireturn, 1) := by decide +kernel
theorem d_M_isLone_57 : decode b_M_isLone 57 = .ok (.iinc 3 1, 3) := by decide +kernel
theorem d_M_isLone_60 : decode b_M_isLone 60 = .ok (.goto (-50), 3) := by decide +kernel
theorem d_M_isLone_63 : decode b_M_isLone 63 = .ok (.iinc 2 1, 3) := by decide +kernel
theorem d_M_isLone_66 : decode b_M_isLone 66 = .ok (.goto (-64), 3) := by decide +kernel
theorem d_M_isLone_69 : decode b_M_isLone 69 = .ok (.iconst 1, 1) := by decide +kernel
theorem d_M_isLone_70 : decode b_M_isLone 70 = .ok (.ireturn, 1) := by decide +kernel
theorem d_M_lone_0 : decode b_M_lone 0 = .ok (.iload_n 1, 1) := by decide +kernel
theorem d_M_lone_1 : decode b_M_lone 1 = .ok (.istore_n 2, 1) := by decide +kernel
theorem d_M_lone_2 : decode b_M_lone 2 = .ok (.iconst 0, 1) := by decide +kernel
theorem d_M_lone_3 : decode b_M_lone 3 = .ok (.istore_n 3, 1) := by decide +kernel
theorem d_M_lone_4 : decode b_M_lone 4 = .ok (.iload_n 3, 1) := by decide +kernel
theorem d_M_lone_5 : decode b_M_lone 5 = .ok (.aload_n 0, 1) := by decide +kernel
theorem d_M_lone_6 : decode b_M_lone 6 = .ok (.getfield 95, 3) := by decide +kernel
theorem d_M_lone_9 : decode b_M_lone 9 = .ok (.if_icmp .ge 30, 3) := by decide +kernel
theorem d_M_lone_12 : decode b_M_lone 12 = .ok (.iload_n 2, 1) := by decide +kernel
theorem d_M_lone_13 : decode b_M_lone 13 = .ok (.ifCond .lt 26, 3) := by decide +kernel
theorem d_M_lone_16 : decode b_M_lone 16 = .ok (.aload_n 0, 1) := by decide +kernel
theorem d_M_lone_17 : decode b_M_lone 17 = .ok (.iload_n 3, 1) := by decide +kernel
theorem d_M_lone_18 : decode b_M_lone 18 = .ok (.invokevirtual 201, 3) := by decide +kernel
theorem d_M_lone_21 : decode b_M_lone 21 = .ok (.ifCond .eq 12, 3) := by decide +kernel
theorem d_M_lone_24 : decode b_M_lone 24 = .ok (.iload_n 2, 1) := by decide +kernel
theorem d_M_lone_25 : decode b_M_lone 25 = .ok (.ifCond .ne 5, 3) := by decide +kernel
theorem d_M_lone_28 : decode b_M_lone 28 = .ok (.iload_n 3, 1) := by decide +kernel
theorem d_M_lone_29 : decode b_M_lone 29 = .ok (.ireturn, 1) := by decide +kernel
theorem d_M_lone_30 : decode b_M_lone 30 = .ok (.iinc 2 (-1), 3) := by decide +kernel
theorem d_M_lone_33 : decode b_M_lone 33 = .ok (.iinc 3 1, 3) := by decide +kernel
theorem d_M_lone_36 : decode b_M_lone 36 = .ok (.goto (-32), 3) := by decide +kernel
theorem d_M_lone_39 : decode b_M_lone 39 = .ok (.iconst (-1), 1) := by decide +kernel
theorem d_M_lone_40 : decode b_M_lone 40 = .ok (.ireturn, 1) := by decide +kernel
theorem d_M_late_0 : decode b_M_late 0 = .ok (.aload_n 0, 1) := by decide +kernel
theorem d_M_late_1 : decode b_M_late 1 = .ok (.getfield 99, 3) := by decide +kernel
theorem d_M_late_4 : decode b_M_late 4 = .ok (.ifCond .eq 21, 3) := by decide +kernel
theorem d_M_late_7 : decode b_M_late 7 = .ok (.aload_n 0, 1) := by decide +kernel
theorem d_M_late_8 : decode b_M_late 8 = .ok (.iload_n 1, 1) := by decide +kernel
theorem d_M_late_9 : decode b_M_late 9 = .ok (.invokevirtual 113, 3) := by decide +kernel
theorem d_M_late_12 : decode b_M_late 12 = .ok (.ifCond .eq 13, 3) := by decide +kernel
theorem d_M_late_15 : decode b_M_late 15 = .ok (.iload_n 2, 1) := by decide +kernel
theorem d_M_late_16 : decode b_M_late 16 = .ok (.iconst 0, 1) := by decide +kernel
theorem d_M_late_17 : decode b_M_late 17 = .ok (.bipush 100, 2) := by decide +kernel
theorem d_M_late_19 : decode b_M_late 19 = .ok (.invokestatic 103, 3) := by decide +kernel
theorem d_M_late_22 : decode b_M_late 22 = .ok (.ifCond .ne 5, 3) := by decide +kernel
theorem d_M_late_25 : decode b_M_late 25 = .ok (.iconst 0, 1) := by decide +kernel
theorem d_M_late_26 : decode b_M_late 26 = .ok (.ireturn, 1) := by decide +kernel
theorem d_M_late_27 : decode b_M_late 27 = .ok (.aload_n 0, 1) := by decide +kernel
theorem d_M_late_28 : decode b_M_late 28 = .ok (.getfield 65, 3) := by decide +kernel
theorem d_M_late_31 : decode b_M_late 31 = .ok (.iload_n 1, 1) := by decide +kernel
theorem d_M_late_32 : decode b_M_late 32 = .ok (.aload_n 0, 1) := by decide +kernel
theorem d_M_late_33 : decode b_M_late 33 = .ok (.getfield 56, 3) := by decide +kernel
theorem d_M_late_36 : decode b_M_late 36 = .ok (.iload_n 1, 1) := by decide +kernel
theorem d_M_late_37 : decode b_M_late 37 = .ok (.iaload, 1) := by decide +kernel
theorem d_M_late_38 : decode b_M_late 38 = .ok (.iload_n 2, 1) := by decide +kernel
theorem d_M_late_39 : decode b_M_late 39 = .ok (.iadd, 1) := by decide +kernel
theorem d_M_late_40 : decode b_M_late 40 = .ok (.iastore, 1) := by decide +kernel
theorem d_M_late_41 : decode b_M_late 41 = .ok (.iconst 1, 1) := by decide +kernel
theorem d_M_late_42 : decode b_M_late 42 = .ok (.ireturn, 1) := by decide +kernel
theorem d_M_freeze_0 : decode b_M_freeze 0 = .ok (.aload_n 0, 1) := by decide +kernel
theorem d_M_freeze_1 : decode b_M_freeze 1 = .ok (.getfield 99, 3) := by decide +kernel
theorem d_M_freeze_4 : decode b_M_freeze 4 = .ok (.ifCond .eq 7, 3) := by decide +kernel
theorem d_M_freeze_7 : decode b_M_freeze 7 = .ok (.iload_n 1, 1) := by decide +kernel
theorem d_M_freeze_8 : decode b_M_freeze 8 = .ok (.ifCond .ge 5, 3) := by decide +kernel
theorem d_M_freeze_11 : decode b_M_freeze 11 = .ok (.iconst (-1), 1) := by decide +kernel
theorem d_M_freeze_12 : decode b_M_freeze 12 = .ok (.ireturn, 1) := by decide +kernel
theorem d_M_freeze_13 : decode b_M_freeze 13 = .ok (.iconst 0, 1) := by decide +kernel
theorem d_M_freeze_14 : decode b_M_freeze 14 = .ok (.istore_n 2, 1) := by decide +kernel
theorem d_M_freeze_15 : decode b_M_freeze 15 = .ok (.iconst 0, 1) := by decide +kernel
theorem d_M_freeze_16 : decode b_M_freeze 16 = .ok (.istore_n 3, 1) := by decide +kernel
theorem d_M_freeze_17 : decode b_M_freeze 17 = .ok (.iload_n 3, 1) := by decide +kernel
theorem d_M_freeze_18 : decode b_M_freeze 18 = .ok (.aload_n 0, 1) := by decide +kernel
theorem d_M_freeze_19 : decode b_M_freeze 19 = .ok (.getfield 95, 3) := by decide +kernel
theorem d_M_freeze_22 : decode b_M_freeze 22 = .ok (.if_icmp .ge 47, 3) := by decide +kernel
theorem d_M_freeze_25 : decode b_M_freeze 25 = .ok (.aload_n 0, 1) := by decide +kernel
theorem d_M_freeze_26 : decode b_M_freeze 26 = .ok (.getfield 62, 3) := by decide +kernel
theorem d_M_freeze_29 : decode b_M_freeze 29 = .ok (.iload_n 3, 1) := by decide +kernel
theorem d_M_freeze_30 : decode b_M_freeze 30 = .ok (.aload_n 0, 1) := by decide +kernel
theorem d_M_freeze_31 : decode b_M_freeze 31 = .ok (.getfield 56, 3) := by decide +kernel
theorem d_M_freeze_34 : decode b_M_freeze 34 = .ok (.iload_n 3, 1) := by decide +kernel
theorem d_M_freeze_35 : decode b_M_freeze 35 = .ok (.iaload, 1) := by decide +kernel
theorem d_M_freeze_36 : decode b_M_freeze 36 = .ok (.iload_n 1, 1) := by decide +kernel
theorem d_M_freeze_37 : decode b_M_freeze 37 = .ok (.if_icmp .ge 7, 3) := by decide +kernel
theorem d_M_freeze_40 : decode b_M_freeze 40 = .ok (.iconst 1, 1) := by decide +kernel
theorem d_M_freeze_41 : decode b_M_freeze 41 = .ok (.goto 4, 3) := by decide +kernel
theorem d_M_freeze_44 : decode b_M_freeze 44 = .ok (.iconst 0, 1) := by decide +kernel
theorem d_M_freeze_45 : decode b_M_freeze 45 = .ok (.bastore, 1) := by decide +kernel
theorem d_M_freeze_46 : decode b_M_freeze 46 = .ok (.iload_n 2, 1) := by decide +kernel
theorem d_M_freeze_47 : decode b_M_freeze 47 = .ok (.aload_n 0, 1) := by decide +kernel
theorem d_M_freeze_48 : decode b_M_freeze 48 = .ok (.getfield 62, 3) := by decide +kernel
theorem d_M_freeze_51 : decode b_M_freeze 51 = .ok (.iload_n 3, 1) := by decide +kernel
theorem d_M_freeze_52 : decode b_M_freeze 52 = .ok (.baload, 1) := by decide +kernel
theorem d_M_freeze_53 : decode b_M_freeze 53 = .ok (.ifCond .eq 7, 3) := by decide +kernel
theorem d_M_freeze_56 : decode b_M_freeze 56 = .ok (.iconst 1, 1) := by decide +kernel
theorem d_M_freeze_57 : decode b_M_freeze 57 = .ok (.goto 4, 3) := by decide +kernel
theorem d_M_freeze_60 : decode b_M_freeze 60 = .ok (.iconst 0, 1) := by decide +kernel
theorem d_M_freeze_61 : decode b_M_freeze 61 = .ok (.iadd, 1) := by decide +kernel
theorem d_M_freeze_62 : decode b_M_freeze 62 = .ok (.istore_n 2, 1) := by decide +kernel
theorem d_M_freeze_63 : decode b_M_freeze 63 = .ok (.iinc 3 1, 3) := by decide +kernel
theorem d_M_freeze_66 : decode b_M_freeze 66 = .ok (.goto (-49), 3) := by decide +kernel
theorem d_M_freeze_69 : decode b_M_freeze 69 = .ok (.iload_n 2, 1) := by decide +kernel
theorem d_M_freeze_70 : decode b_M_freeze 70 = .ok (.ireturn, 1) := by decide +kernel
theorem d_M_moved_0 : decode b_M_moved 0 = .ok (.aload_n 0, 1) := by decide +kernel
theorem d_M_moved_1 : decode b_M_moved 1 = .ok (.getfield 99, 3) := by decide +kernel
theorem d_M_moved_4 : decode b_M_moved 4 = .ok (.ifCond .eq 24, 3) := by decide +kernel
theorem d_M_moved_7 : decode b_M_moved 7 = .ok (.aload_n 0, 1) := by decide +kernel
theorem d_M_moved_8 : decode b_M_moved 8 = .ok (.iload_n 1, 1) := by decide +kernel
theorem d_M_moved_9 : decode b_M_moved 9 = .ok (.invokevirtual 113, 3) := by decide +kernel
theorem d_M_moved_12 : decode b_M_moved 12 = .ok (.ifCond .eq 16, 3) := by decide +kernel
theorem d_M_moved_15 : decode b_M_moved 15 = .ok (.aload_n 0, 1) := by decide +kernel
theorem d_M_moved_16 : decode b_M_moved 16 = .ok (.getfield 68, 3) := by decide +kernel
theorem d_M_moved_19 : decode b_M_moved 19 = .ok (.iload_n 1, 1) := by decide +kernel
theorem d_M_moved_20 : decode b_M_moved 20 = .ok (.baload, 1) := by decide +kernel
theorem d_M_moved_21 : decode b_M_moved 21 = .ok (.ifCond .eq 7, 3) := by decide +kernel
theorem d_M_moved_24 : decode b_M_moved 24 = .ok (.iconst 1, 1) := by decide +kernel
theorem d_M_moved_25 : decode b_M_moved 25 = .ok (.goto 4, 3) := by decide +kernel
theorem d_M_moved_28 : decode b_M_moved 28 = .ok (.iconst 0, 1) := by decide +kernel
theorem d_M_moved_29 : decode b_M_moved 29 = .ok (.ireturn, 1) := by decide +kernel
theorem d_M_slack_0 : decode b_M_slack 0 = .ok (.aload_n 0, 1) := by decide +kernel
theorem d_M_slack_1 : decode b_M_slack 1 = .ok (.getfield 99, 3) := by decide +kernel
theorem d_M_slack_4 : decode b_M_slack 4 = .ok (.ifCond .eq 11, 3) := by decide +kernel
theorem d_M_slack_7 : decode b_M_slack 7 = .ok (.aload_n 0, 1) := by decide +kernel
theorem d_M_slack_8 : decode b_M_slack 8 = .ok (.iload_n 1, 1) := by decide +kernel
theorem d_M_slack_9 : decode b_M_slack 9 = .ok (.invokevirtual 113, 3) := by decide +kernel
theorem d_M_slack_12 : decode b_M_slack 12 = .ok (.ifCond .ne 5, 3) := by decide +kernel
theorem d_M_slack_15 : decode b_M_slack 15 = .ok (.iconst (-1), 1) := by decide +kernel
theorem d_M_slack_16 : decode b_M_slack 16 = .ok (.ireturn, 1) := by decide +kernel
theorem d_M_slack_17 : decode b_M_slack 17 = .ok (.aload_n 0, 1) := by decide +kernel
theorem d_M_slack_18 : decode b_M_slack 18 = .ok (.invokevirtual 191, 3) := by decide +kernel
theorem d_M_slack_21 : decode b_M_slack 21 = .ok (.aload_n 0, 1) := by decide +kernel
theorem d_M_slack_22 : decode b_M_slack 22 = .ok (.aload_n 0, 1) := by decide +kernel
theorem d_M_slack_23 : decode b_M_slack 23 = .ok (.getfield 95, 3) := by decide +kernel
theorem d_M_slack_26 : decode b_M_slack 26 = .ok (.invokevirtual 147, 3) := by decide +kernel
theorem d_M_slack_29 : decode b_M_slack 29 = .ok (.istore_n 2, 1) := by decide +kernel
theorem d_M_slack_30 : decode b_M_slack 30 = .ok (.iconst 0, 1) := by decide +kernel
theorem d_M_slack_31 : decode b_M_slack 31 = .ok (.istore_n 3, 1) := by decide +kernel
theorem d_M_slack_32 : decode b_M_slack 32 = .ok (.aload_n 0, 1) := by decide +kernel
theorem d_M_slack_33 : decode b_M_slack 33 = .ok (.getfield 56, 3) := by decide +kernel
theorem d_M_slack_36 : decode b_M_slack 36 = .ok (.iload_n 1, 1) := by decide +kernel
theorem d_M_slack_37 : decode b_M_slack 37 = .ok (.iaload, 1) := by decide +kernel
theorem d_M_slack_38 : decode b_M_slack 38 = .ok (.iconst 1, 1) := by decide +kernel
theorem d_M_slack_39 : decode b_M_slack 39 = .ok (.iadd, 1) := by decide +kernel
theorem d_M_slack_40 : decode b_M_slack 40 = .ok (.istore 4, 2) := by decide +kernel
theorem d_M_slack_42 : decode b_M_slack 42 = .ok (.iload 4, 2) := by decide +kernel
theorem d_M_slack_44 : decode b_M_slack 44 = .ok (.bipush 100, 2) := by decide +kernel
theorem d_M_slack_46 : decode b_M_slack 46 = .ok (.if_icmp .ge 63, 3) := by decide +kernel
theorem d_M_slack_49 : decode b_M_slack 49 = .ok (.aload_n 0, 1) := by decide +kernel
theorem d_M_slack_50 : decode b_M_slack 50 = .ok (.iload 4, 2) := by decide +kernel
theorem d_M_slack_52 : decode b_M_slack 52 = .ok (.invokevirtual 123, 3) := by decide +kernel
theorem d_M_slack_55 : decode b_M_slack 55 = .ok (.ifCond .ne 48, 3) := by decide +kernel
theorem d_M_slack_58 : decode b_M_slack 58 = .ok (.aload_n 0, 1) := by decide +kernel
theorem d_M_slack_59 : decode b_M_slack 59 = .ok (.bipush 6, 2) := by decide +kernel
theorem d_M_slack_61 : decode b_M_slack 61 = .ok (.iload_n 1, 1) := by decide +kernel
theorem d_M_slack_62 : decode b_M_slack 62 = .ok (.iload 4, 2) := by decide +kernel
theorem d_M_slack_64 : decode b_M_slack 64 = .ok (.aload_n 0, 1) := by decide +kernel
theorem d_M_slack_65 : decode b_M_slack 65 = .ok (.getfield 59, 3) := by decide +kernel
theorem d_M_slack_68 : decode b_M_slack 68 = .ok (.iload_n 1, 1) := by decide +kernel
theorem d_M_slack_69 : decode b_M_slack 69 = .ok (.iaload, 1) := by decide +kernel
theorem d_M_slack_70 : decode b_M_slack 70 = .ok (.invokevirtual 159, 3) := by decide +kernel
theorem d_M_slack_73 : decode b_M_slack 73 = .ok (.aload_n 0, 1) := by decide +kernel
theorem d_M_slack_74 : decode b_M_slack 74 = .ok (.getfield 77, 3) := by decide +kernel
theorem d_M_slack_77 : decode b_M_slack 77 = .ok (.bipush 6, 2) := by decide +kernel
theorem d_M_slack_79 : decode b_M_slack 79 = .ok (.iaload, 1) := by decide +kernel
theorem d_M_slack_80 : decode b_M_slack 80 = .ok (.iload_n 2, 1) := by decide +kernel
theorem d_M_slack_81 : decode b_M_slack 81 = .ok (.if_icmp .gt 17, 3) := by decide +kernel
theorem d_M_slack_84 : decode b_M_slack 84 = .ok (.aload_n 0, 1) := by decide +kernel
theorem d_M_slack_85 : decode b_M_slack 85 = .ok (.bipush 6, 2) := by decide +kernel
theorem d_M_slack_87 : decode b_M_slack 87 = .ok (.iload_n 1, 1) := by decide +kernel
theorem d_M_slack_88 : decode b_M_slack 88 = .ok (.aload_n 0, 1) := by decide +kernel
theorem d_M_slack_89 : decode b_M_slack 89 = .ok (.getfield 95, 3) := by decide +kernel
theorem d_M_slack_92 : decode b_M_slack 92 = .ok (.invokevirtual 163, 3) := by decide +kernel
theorem d_M_slack_95 : decode b_M_slack 95 = .ok (.ifCond .ne 5, 3) := by decide +kernel
theorem d_M_slack_98 : decode b_M_slack 98 = .ok (.iload_n 3, 1) := by decide +kernel
theorem d_M_slack_99 : decode b_M_slack 99 = .ok (.ireturn, 1) := by decide +kernel
theorem d_M_slack_100 : decode b_M_slack 100 = .ok (.iinc 3 1, 3) := by decide +kernel
theorem d_M_slack_103 : decode b_M_slack 103 = .ok (.iinc 4 1, 3) := by decide +kernel
theorem d_M_slack_106 : decode b_M_slack 106 = .ok (.goto (-64), 3) := by decide +kernel
theorem d_M_slack_109 : decode b_M_slack 109 = .ok (.iload_n 3, 1) := by decide +kernel
theorem d_M_slack_110 : decode b_M_slack 110 = .ok (.ireturn, 1) := by decide +kernel
theorem d_M_wetEnd_0 : decode b_M_wetEnd 0 = .ok (.aload_n 0, 1) := by decide +kernel
theorem d_M_wetEnd_1 : decode b_M_wetEnd 1 = .ok (.iload_n 1, 1) := by decide +kernel
theorem d_M_wetEnd_2 : decode b_M_wetEnd 2 = .ok (.invokevirtual 198, 3) := by decide +kernel
theorem d_M_wetEnd_5 : decode b_M_wetEnd 5 = .ok (.istore_n 2, 1) := by decide +kernel
theorem d_M_wetEnd_6 : decode b_M_wetEnd 6 = .ok (.aload_n 0, 1) := by decide +kernel
theorem d_M_wetEnd_7 : decode b_M_wetEnd 7 = .ok (.getfield 56, 3) := by decide +kernel
theorem d_M_wetEnd_10 : decode b_M_wetEnd 10 = .ok (.iload_n 1, 1) := by decide +kernel
theorem d_M_wetEnd_11 : decode b_M_wetEnd 11 = .ok (.iaload, 1) := by decide +kernel
theorem d_M_wetEnd_12 : decode b_M_wetEnd 12 = .ok (.istore_n 3, 1) := by decide +kernel
theorem d_M_wetEnd_13 : decode b_M_wetEnd 13 = .ok (.iload_n 2, 1) := by decide +kernel
theorem d_M_wetEnd_14 : decode b_M_wetEnd 14 = .ok (.ifCond .le 53, 3) := by decide +kernel
theorem d_M_wetEnd_17 : decode b_M_wetEnd 17 = .ok (.aload_n 0, 1) := by decide +kernel
theorem d_M_wetEnd_18 : decode b_M_wetEnd 18 = .ok (.iload_n 3, 1) := by decide +kernel
theorem d_M_wetEnd_19 : decode b_M_wetEnd 19 = .ok (.invokevirtual 123, 3) := by decide +kernel
theorem d_M_wetEnd_22 : decode b_M_wetEnd 22 = .ok (.ifCond .ne 23, 3) := by decide +kernel
theorem d_M_wetEnd_25 : decode b_M_wetEnd 25 = .ok (.iload_n 3, 1) := by decide +kernel
theorem d_M_wetEnd_26 : decode b_M_wetEnd 26 = .ok (.sipush 399, 3) := by decide +kernel
theorem d_M_wetEnd_29 : decode b_M_wetEnd 29 = .ok (.if_icmp .gt 12, 3) := by decide +kernel
theorem d_M_wetEnd_32 : decode b_M_wetEnd 32 = .ok (.aload_n 0, 1) := by decide +kernel
theorem d_M_wetEnd_33 : decode b_M_wetEnd 33 = .ok (.getfield 50, 3) := by decide +kernel
theorem d_M_wetEnd_36 : decode b_M_wetEnd 36 = .ok (.iload_n 3, 1) := by decide +kernel
theorem d_M_wetEnd_37 : decode b_M_wetEnd 37 = .ok (.baload, 1) := by decide +kernel
theorem d_M_wetEnd_38 : decode b_M_wetEnd 38 = .ok (.ifCond .ne 7, 3) := by decide +kernel
theorem d_M_wetEnd_41 : decode b_M_wetEnd 41 = .ok (.iconst 1, 1) := by decide +kernel
theorem d_M_wetEnd_42 : decode b_M_wetEnd 42 = .ok (.goto 4, 3) := by decide +kernel
theorem d_M_wetEnd_45 : decode b_M_wetEnd 45 = .ok (.iconst 0, 1) := by decide +kernel
theorem d_M_wetEnd_46 : decode b_M_wetEnd 46 = .ok (.istore 4, 2) := by decide +kernel
theorem d_M_wetEnd_48 : decode b_M_wetEnd 48 = .ok (.iload_n 2, 1) := by decide +kernel
theorem d_M_wetEnd_49 : decode b_M_wetEnd 49 = .ok (.iload 4, 2) := by decide +kernel
theorem d_M_wetEnd_51 : decode b_M_wetEnd 51 = .ok (.ifCond .eq 7, 3) := by decide +kernel
theorem d_M_wetEnd_54 : decode b_M_wetEnd 54 = .ok (.iconst 1, 1) := by decide +kernel
theorem d_M_wetEnd_55 : decode b_M_wetEnd 55 = .ok (.goto 4, 3) := by decide +kernel
theorem d_M_wetEnd_58 : decode b_M_wetEnd 58 = .ok (.iconst 0, 1) := by decide +kernel
theorem d_M_wetEnd_59 : decode b_M_wetEnd 59 = .ok (.isub, 1) := by decide +kernel
theorem d_M_wetEnd_60 : decode b_M_wetEnd 60 = .ok (.istore_n 2, 1) := by decide +kernel
theorem d_M_wetEnd_61 : decode b_M_wetEnd 61 = .ok (.iinc 3 1, 3) := by decide +kernel
theorem d_M_wetEnd_64 : decode b_M_wetEnd 64 = .ok (.goto (-51), 3) := by decide +kernel
theorem d_M_wetEnd_67 : decode b_M_wetEnd 67 = .ok (.iload_n 3, 1) := by decide +kernel
theorem d_M_wetEnd_68 : decode b_M_wetEnd 68 = .ok (.ireturn, 1) := by decide +kernel
theorem d_M_odds_0 : decode b_M_odds 0 = .ok (.aload_n 0, 1) := by decide +kernel
theorem d_M_odds_1 : decode b_M_odds 1 = .ok (.getfield 99, 3) := by decide +kernel
theorem d_M_odds_4 : decode b_M_odds 4 = .ok (.ifCond .eq 27, 3) := by decide +kernel
theorem d_M_odds_7 : decode b_M_odds 7 = .ok (.iload_n 1, 1) := by decide +kernel
theorem d_M_odds_8 : decode b_M_odds 8 = .ok (.ifCond .lt 23, 3) := by decide +kernel
theorem d_M_odds_11 : decode b_M_odds 11 = .ok (.iload_n 2, 1) := by decide +kernel
theorem d_M_odds_12 : decode b_M_odds 12 = .ok (.iconst 1, 1) := by decide +kernel
theorem d_M_odds_13 : decode b_M_odds 13 = .ok (.bipush 50, 2) := by decide +kernel
theorem d_M_odds_15 : decode b_M_odds 15 = .ok (.invokestatic 103, 3) := by decide +kernel
theorem d_M_odds_18 : decode b_M_odds 18 = .ok (.ifCond .eq 13, 3) := by decide +kernel
theorem d_M_odds_21 : decode b_M_odds 21 = .ok (.iload_n 3, 1) := by decide +kernel
theorem d_M_odds_22 : decode b_M_odds 22 = .ok (.iconst 0, 1) := by decide +kernel
theorem d_M_odds_23 : decode b_M_odds 23 = .ok (.bipush 90, 2) := by decide +kernel
theorem d_M_odds_25 : decode b_M_odds 25 = .ok (.invokestatic 103, 3) := by decide +kernel
theorem d_M_odds_28 : decode b_M_odds 28 = .ok (.ifCond .ne 5, 3) := by decide +kernel
theorem d_M_odds_31 : decode b_M_odds 31 = .ok (.iconst (-1), 1) := by decide +kernel
theorem d_M_odds_32 : decode b_M_odds 32 = .ok (.ireturn, 1) := by decide +kernel
theorem d_M_odds_33 : decode b_M_odds 33 = .ok (.iload 4, 2) := by decide +kernel
theorem d_M_odds_35 : decode b_M_odds 35 = .ok (.istore 5, 2) := by decide +kernel
theorem d_M_odds_37 : decode b_M_odds 37 = .ok (.iconst 0, 1) := by decide +kernel
theorem d_M_odds_38 : decode b_M_odds 38 = .ok (.istore 6, 2) := by decide +kernel
theorem d_M_odds_40 : decode b_M_odds 40 = .ok (.iconst 0, 1) := by decide +kernel
theorem d_M_odds_41 : decode b_M_odds 41 = .ok (.istore 7, 2) := by decide +kernel
theorem d_M_odds_43 : decode b_M_odds 43 = .ok (.iload 7, 2) := by decide +kernel
theorem d_M_odds_45 : decode b_M_odds 45 = .ok (.iload_n 2, 1) := by decide +kernel
theorem d_M_odds_46 : decode b_M_odds 46 = .ok (.if_icmp .ge 122, 3) := by decide +kernel
theorem d_M_odds_49 : decode b_M_odds 49 = .ok (.iconst 0, 1) := by decide +kernel
theorem d_M_odds_50 : decode b_M_odds 50 = .ok (.istore 8, 2) := by decide +kernel
theorem d_M_odds_52 : decode b_M_odds 52 = .ok (.iload 8, 2) := by decide +kernel
theorem d_M_odds_54 : decode b_M_odds 54 = .ok (.sipush 400, 3) := by decide +kernel
theorem d_M_odds_57 : decode b_M_odds 57 = .ok (.if_icmp .ge 47, 3) := by decide +kernel
theorem d_M_odds_60 : decode b_M_odds 60 = .ok (.iload 5, 2) := by decide +kernel
theorem d_M_odds_62 : decode b_M_odds 62 = .ok (.ldc 204, 2) := by decide +kernel
theorem d_M_odds_64 : decode b_M_odds 64 = .ok (.imul, 1) := by decide +kernel
theorem d_M_odds_65 : decode b_M_odds 65 = .ok (.sipush 12345, 3) := by decide +kernel
theorem d_M_odds_68 : decode b_M_odds 68 = .ok (.iadd, 1) := by decide +kernel
theorem d_M_odds_69 : decode b_M_odds 69 = .ok (.ldc 205, 2) := by decide +kernel
theorem d_M_odds_71 : decode b_M_odds 71 = .ok (.iand, 1) := by decide +kernel
theorem d_M_odds_72 : decode b_M_odds 72 = .ok (.istore 5, 2) := by decide +kernel
theorem d_M_odds_74 : decode b_M_odds 74 = .ok (.aload_n 0, 1) := by decide +kernel
theorem d_M_odds_75 : decode b_M_odds 75 = .ok (.getfield 50, 3) := by decide +kernel
theorem d_M_odds_78 : decode b_M_odds 78 = .ok (.iload 8, 2) := by decide +kernel
theorem d_M_odds_80 : decode b_M_odds 80 = .ok (.iload 5, 2) := by decide +kernel
theorem d_M_odds_82 : decode b_M_odds 82 = .ok (.ldc 206, 2) := by decide +kernel
theorem d_M_odds_84 : decode b_M_odds 84 = .ok (.idiv, 1) := by decide +kernel
theorem d_M_odds_85 : decode b_M_odds 85 = .ok (.bipush 100, 2) := by decide +kernel
theorem d_M_odds_87 : decode b_M_odds 87 = .ok (.irem, 1) := by decide +kernel
theorem d_M_odds_88 : decode b_M_odds 88 = .ok (.iload_n 3, 1) := by decide +kernel
theorem d_M_odds_89 : decode b_M_odds 89 = .ok (.if_icmp .ge 7, 3) := by decide +kernel
theorem d_M_odds_92 : decode b_M_odds 92 = .ok (.iconst 1, 1) := by decide +kernel
theorem d_M_odds_93 : decode b_M_odds 93 = .ok (.goto 4, 3) := by decide +kernel
theorem d_M_odds_96 : decode b_M_odds 96 = .ok (.iconst 0, 1) := by decide +kernel
theorem d_M_odds_97 : decode b_M_odds 97 = .ok (.bastore, 1) := by decide +kernel
theorem d_M_odds_98 : decode b_M_odds 98 = .ok (.iinc 8 1, 3) := by decide +kernel
theorem d_M_odds_101 : decode b_M_odds 101 = .ok (.goto (-49), 3) := by decide +kernel
theorem d_M_odds_104 : decode b_M_odds 104 = .ok (.iconst 1, 1) := by decide +kernel
theorem d_M_odds_105 : decode b_M_odds 105 = .ok (.istore 8, 2) := by decide +kernel
theorem d_M_odds_107 : decode b_M_odds 107 = .ok (.iconst 0, 1) := by decide +kernel
theorem d_M_odds_108 : decode b_M_odds 108 = .ok (.istore 9, 2) := by decide +kernel
theorem d_M_odds_110 : decode b_M_odds 110 = .ok (.iload 9, 2) := by decide +kernel
theorem d_M_odds_112 : decode b_M_odds 112 = .ok (.aload_n 0, 1) := by decide +kernel
theorem d_M_odds_113 : decode b_M_odds 113 = .ok (.getfield 95, 3) := by decide +kernel
theorem d_M_odds_116 : decode b_M_odds 116 = .ok (.if_icmp .ge 31, 3) := by decide +kernel
theorem d_M_odds_119 : decode b_M_odds 119 = .ok (.iload 8, 2) := by decide +kernel
theorem d_M_odds_121 : decode b_M_odds 121 = .ok (.ifCond .eq 17, 3) := by decide +kernel
theorem d_M_odds_124 : decode b_M_odds 124 = .ok (.aload_n 0, 1) := by decide +kernel
theorem d_M_odds_125 : decode b_M_odds 125 = .ok (.iload 9, 2) := by decide +kernel
theorem d_M_odds_127 : decode b_M_odds 127 = .ok (.invokevirtual 207, 3) := by decide +kernel
theorem d_M_odds_130 : decode b_M_odds 130 = .ok (.iload_n 1, 1) := by decide +kernel
theorem d_M_odds_131 : decode b_M_odds 131 = .ok (.if_icmp .gt 7, 3) := by decide +kernel
theorem d_M_odds_134 : decode b_M_odds 134 = .ok (.iconst 1, 1) := by decide +kernel
theorem d_M_odds_135 : decode b_M_odds 135 = .ok (.goto 4, 3) := by decide +kernel
theorem d_M_odds_138 : decode b_M_odds 138 = .ok (.iconst 0, 1) := by decide +kernel
theorem d_M_odds_139 : decode b_M_odds 139 = .ok (.istore 8, 2) := by decide +kernel
theorem d_M_odds_141 : decode b_M_odds 141 = .ok (.iinc 9 1, 3) := by decide +kernel
theorem d_M_odds_144 : decode b_M_odds 144 = .ok (.goto (-34), 3) := by decide +kernel
theorem d_M_odds_147 : decode b_M_odds 147 = .ok (.iload 6, 2) := by decide +kernel
theorem d_M_odds_149 : decode b_M_odds 149 = .ok (.iload 8, 2) := by decide +kernel
theorem d_M_odds_151 : decode b_M_odds 151 = .ok (.ifCond .eq 7, 3) := by decide +kernel
theorem d_M_odds_154 : decode b_M_odds 154 = .ok (.iconst 1, 1) := by decide +kernel
theorem d_M_odds_155 : decode b_M_odds 155 = .ok (.goto 4, 3) := by decide +kernel
theorem d_M_odds_158 : decode b_M_odds 158 = .ok (.iconst 0, 1) := by decide +kernel
theorem d_M_odds_159 : decode b_M_odds 159 = .ok (.iadd, 1) := by decide +kernel
theorem d_M_odds_160 : decode b_M_odds 160 = .ok (.istore 6, 2) := by decide +kernel
theorem d_M_odds_162 : decode b_M_odds 162 = .ok (.iinc 7 1, 3) := by decide +kernel
theorem d_M_odds_165 : decode b_M_odds 165 = .ok (.goto (-122), 3) := by decide +kernel
theorem d_M_odds_168 : decode b_M_odds 168 = .ok (.iload 6, 2) := by decide +kernel
theorem d_M_odds_170 : decode b_M_odds 170 = .ok (.ireturn, 1) := by decide +kernel
theorem d_M_count_0 : decode b_M_count 0 = .ok (.iconst 0, 1) := by decide +kernel
theorem d_M_count_1 : decode b_M_count 1 = .ok (.istore_n 2, 1) := by decide +kernel
theorem d_M_count_2 : decode b_M_count 2 = .ok (.iload_n 1, 1) := by decide +kernel
theorem d_M_count_3 : decode b_M_count 3 = .ok (.tableswitch 123 0 5 #[37, 42, 47, 52, 57, 92], 37) := by decide +kernel
theorem d_M_count_40 : decode b_M_count 40 = .ok (.aload_n 0, 1) := by decide +kernel
theorem d_M_count_41 : decode b_M_count 41 = .ok (.getfield 107, 3) := by decide +kernel
theorem d_M_count_44 : decode b_M_count 44 = .ok (.ireturn, 1) := by decide +kernel
theorem d_M_count_45 : decode b_M_count 45 = .ok (.aload_n 0, 1) := by decide +kernel
theorem d_M_count_46 : decode b_M_count 46 = .ok (.getfield 95, 3) := by decide +kernel
theorem d_M_count_49 : decode b_M_count 49 = .ok (.ireturn, 1) := by decide +kernel
theorem d_M_count_50 : decode b_M_count 50 = .ok (.aload_n 0, 1) := by decide +kernel
theorem d_M_count_51 : decode b_M_count 51 = .ok (.getfield 120, 3) := by decide +kernel
theorem d_M_count_54 : decode b_M_count 54 = .ok (.ireturn, 1) := by decide +kernel
theorem d_M_count_55 : decode b_M_count 55 = .ok (.aload_n 0, 1) := by decide +kernel
theorem d_M_count_56 : decode b_M_count 56 = .ok (.getfield 117, 3) := by decide +kernel
theorem d_M_count_59 : decode b_M_count 59 = .ok (.ireturn, 1) := by decide +kernel
theorem d_M_count_60 : decode b_M_count 60 = .ok (.iconst 0, 1) := by decide +kernel
theorem d_M_count_61 : decode b_M_count 61 = .ok (.istore_n 3, 1) := by decide +kernel
theorem d_M_count_62 : decode b_M_count 62 = .ok (.iload_n 3, 1) := by decide +kernel
theorem d_M_count_63 : decode b_M_count 63 = .ok (.aload_n 0, 1) := by decide +kernel
theorem d_M_count_64 : decode b_M_count 64 = .ok (.getfield 95, 3) := by decide +kernel
theorem d_M_count_67 : decode b_M_count 67 = .ok (.if_icmp .ge 26, 3) := by decide +kernel
theorem d_M_count_70 : decode b_M_count 70 = .ok (.iload_n 2, 1) := by decide +kernel
theorem d_M_count_71 : decode b_M_count 71 = .ok (.aload_n 0, 1) := by decide +kernel
theorem d_M_count_72 : decode b_M_count 72 = .ok (.getfield 62, 3) := by decide +kernel
theorem d_M_count_75 : decode b_M_count 75 = .ok (.iload_n 3, 1) := by decide +kernel
theorem d_M_count_76 : decode b_M_count 76 = .ok (.baload, 1) := by decide +kernel
theorem d_M_count_77 : decode b_M_count 77 = .ok (.ifCond .eq 7, 3) := by decide +kernel
theorem d_M_count_80 : decode b_M_count 80 = .ok (.iconst 1, 1) := by decide +kernel
theorem d_M_count_81 : decode b_M_count 81 = .ok (.goto 4, 3) := by decide +kernel
theorem d_M_count_84 : decode b_M_count 84 = .ok (.iconst 0, 1) := by decide +kernel
theorem d_M_count_85 : decode b_M_count 85 = .ok (.iadd, 1) := by decide +kernel
theorem d_M_count_86 : decode b_M_count 86 = .ok (.istore_n 2, 1) := by decide +kernel
theorem d_M_count_87 : decode b_M_count 87 = .ok (.iinc 3 1, 3) := by decide +kernel
theorem d_M_count_90 : decode b_M_count 90 = .ok (.goto (-28), 3) := by decide +kernel
theorem d_M_count_93 : decode b_M_count 93 = .ok (.iload_n 2, 1) := by decide +kernel
theorem d_M_count_94 : decode b_M_count 94 = .ok (.ireturn, 1) := by decide +kernel
theorem d_M_count_95 : decode b_M_count 95 = .ok (.aload_n 0, 1) := by decide +kernel
theorem d_M_count_96 : decode b_M_count 96 = .ok (.getfield 99, 3) := by decide +kernel
theorem d_M_count_99 : decode b_M_count 99 = .ok (.ifCond .eq 7, 3) := by decide +kernel
theorem d_M_count_102 : decode b_M_count 102 = .ok (.aload_n 0, 1) := by decide +kernel
theorem d_M_count_103 : decode b_M_count 103 = .ok (.invokevirtual 191, 3) := by decide +kernel
theorem d_M_count_106 : decode b_M_count 106 = .ok (.aload_n 0, 1) := by decide +kernel
theorem d_M_count_107 : decode b_M_count 107 = .ok (.getfield 99, 3) := by decide +kernel
theorem d_M_count_110 : decode b_M_count 110 = .ok (.ifCond .eq 14, 3) := by decide +kernel
theorem d_M_count_113 : decode b_M_count 113 = .ok (.aload_n 0, 1) := by decide +kernel
theorem d_M_count_114 : decode b_M_count 114 = .ok (.aload_n 0, 1) := by decide +kernel
theorem d_M_count_115 : decode b_M_count 115 = .ok (.getfield 95, 3) := by decide +kernel
theorem d_M_count_118 : decode b_M_count 118 = .ok (.invokevirtual 147, 3) := by decide +kernel
theorem d_M_count_121 : decode b_M_count 121 = .ok (.goto 4, 3) := by decide +kernel
theorem d_M_count_124 : decode b_M_count 124 = .ok (.iconst (-1), 1) := by decide +kernel
theorem d_M_count_125 : decode b_M_count 125 = .ok (.ireturn, 1) := by decide +kernel
theorem d_M_count_126 : decode b_M_count 126 = .ok (.iconst (-1), 1) := by decide +kernel
theorem d_M_count_127 : decode b_M_count 127 = .ok (.ireturn, 1) := by decide +kernel
