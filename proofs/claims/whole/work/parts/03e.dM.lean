theorem dX4_init_0 : decode cX4_init 0 = .ok (.aload_n 0, 1) := by decide +kernel
theorem dX4_init_1 : decode cX4_init 1 = .ok (.invokespecial 1, 3) := by decide +kernel
theorem dX4_init_4 : decode cX4_init 4 = .ok (.aload_n 0, 1) := by decide +kernel
theorem dX4_init_5 : decode cX4_init 5 = .ok (.bipush 8, 2) := by decide +kernel
theorem dX4_init_7 : decode cX4_init 7 = .ok (.newarray .int, 2) := by decide +kernel
theorem dX4_init_9 : decode cX4_init 9 = .ok (.putfield 7, 3) := by decide +kernel
theorem dX4_init_12 : decode cX4_init 12 = .ok (.aload_n 0, 1) := by decide +kernel
theorem dX4_init_13 : decode cX4_init 13 = .ok (.bipush 8, 2) := by decide +kernel
theorem dX4_init_15 : decode cX4_init 15 = .ok (.newarray .int, 2) := by decide +kernel
theorem dX4_init_17 : decode cX4_init 17 = .ok (.putfield 13, 3) := by decide +kernel
theorem dX4_init_20 : decode cX4_init 20 = .ok (.aload_n 0, 1) := by decide +kernel
theorem dX4_init_21 : decode cX4_init 21 = .ok (.bipush 64, 2) := by decide +kernel
theorem dX4_init_23 : decode cX4_init 23 = .ok (.newarray .int, 2) := by decide +kernel
theorem dX4_init_25 : decode cX4_init 25 = .ok (.putfield 16, 3) := by decide +kernel
theorem dX4_init_28 : decode cX4_init 28 = .ok (.aload_n 0, 1) := by decide +kernel
theorem dX4_init_29 : decode cX4_init 29 = .ok (.bipush 8, 2) := by decide +kernel
theorem dX4_init_31 : decode cX4_init 31 = .ok (.newarray .int, 2) := by decide +kernel
theorem dX4_init_33 : decode cX4_init 33 = .ok (.putfield 19, 3) := by decide +kernel
theorem dX4_init_36 : decode cX4_init 36 = .ok (.aload_n 0, 1) := by decide +kernel
theorem dX4_init_37 : decode cX4_init 37 = .ok (.bipush 10, 2) := by decide +kernel
theorem dX4_init_39 : decode cX4_init 39 = .ok (.newarray .int, 2) := by decide +kernel
theorem dX4_init_41 : decode cX4_init 41 = .ok (.putfield 22, 3) := by decide +kernel
theorem dX4_init_44 : decode cX4_init 44 = .ok (.aload_n 0, 1) := by decide +kernel
theorem dX4_init_45 : decode cX4_init 45 = .ok (.bipush 10, 2) := by decide +kernel
theorem dX4_init_47 : decode cX4_init 47 = .ok (.newarray .int, 2) := by decide +kernel
theorem dX4_init_49 : decode cX4_init 49 = .ok (.putfield 25, 3) := by decide +kernel
theorem dX4_init_52 : decode cX4_init 52 = .ok (.aload_n 0, 1) := by decide +kernel
theorem dX4_init_53 : decode cX4_init 53 = .ok (.bipush 10, 2) := by decide +kernel
theorem dX4_init_55 : decode cX4_init 55 = .ok (.newarray .int, 2) := by decide +kernel
theorem dX4_init_57 : decode cX4_init 57 = .ok (.putfield 28, 3) := by decide +kernel
theorem dX4_init_60 : decode cX4_init 60 = .ok (.aload_n 0, 1) := by decide +kernel
theorem dX4_init_61 : decode cX4_init 61 = .ok (.bipush 10, 2) := by decide +kernel
theorem dX4_init_63 : decode cX4_init 63 = .ok (.newarray .int, 2) := by decide +kernel
theorem dX4_init_65 : decode cX4_init 65 = .ok (.putfield 31, 3) := by decide +kernel
theorem dX4_init_68 : decode cX4_init 68 = .ok (.aload_n 0, 1) := by decide +kernel
theorem dX4_init_69 : decode cX4_init 69 = .ok (.bipush 10, 2) := by decide +kernel
theorem dX4_init_71 : decode cX4_init 71 = .ok (.newarray .int, 2) := by decide +kernel
theorem dX4_init_73 : decode cX4_init 73 = .ok (.putfield 34, 3) := by decide +kernel
theorem dX4_init_76 : decode cX4_init 76 = .ok (.aload_n 0, 1) := by decide +kernel
theorem dX4_init_77 : decode cX4_init 77 = .ok (.bipush 10, 2) := by decide +kernel
theorem dX4_init_79 : decode cX4_init 79 = .ok (.newarray .int, 2) := by decide +kernel
theorem dX4_init_81 : decode cX4_init 81 = .ok (.putfield 37, 3) := by decide +kernel
theorem dX4_init_84 : decode cX4_init 84 = .ok (.aload_n 0, 1) := by decide +kernel
theorem dX4_init_85 : decode cX4_init 85 = .ok (.bipush 10, 2) := by decide +kernel
theorem dX4_init_87 : decode cX4_init 87 = .ok (.newarray .int, 2) := by decide +kernel
theorem dX4_init_89 : decode cX4_init 89 = .ok (.putfield 40, 3) := by decide +kernel
theorem dX4_init_92 : decode cX4_init 92 = .ok (.aload_n 0, 1) := by decide +kernel
theorem dX4_init_93 : decode cX4_init 93 = .ok (.bipush 10, 2) := by decide +kernel
theorem dX4_init_95 : decode cX4_init 95 = .ok (.newarray .int, 2) := by decide +kernel
theorem dX4_init_97 : decode cX4_init 97 = .ok (.putfield 43, 3) := by decide +kernel
theorem dX4_init_100 : decode cX4_init 100 = .ok (.aload_n 0, 1) := by decide +kernel
theorem dX4_init_101 : decode cX4_init 101 = .ok (.bipush 6, 2) := by decide +kernel
theorem dX4_init_103 : decode cX4_init 103 = .ok (.newarray .int, 2) := by decide +kernel
theorem dX4_init_105 : decode cX4_init 105 = .ok (.putfield 46, 3) := by decide +kernel
theorem dX4_init_108 : decode cX4_init 108 = .ok (.aload_n 0, 1) := by decide +kernel
theorem dX4_init_109 : decode cX4_init 109 = .ok (.bipush 6, 2) := by decide +kernel
theorem dX4_init_111 : decode cX4_init 111 = .ok (.newarray .int, 2) := by decide +kernel
theorem dX4_init_113 : decode cX4_init 113 = .ok (.putfield 49, 3) := by decide +kernel
theorem dX4_init_116 : decode cX4_init 116 = .ok (.aload_n 0, 1) := by decide +kernel
theorem dX4_init_117 : decode cX4_init 117 = .ok (.bipush 6, 2) := by decide +kernel
theorem dX4_init_119 : decode cX4_init 119 = .ok (.newarray .int, 2) := by decide +kernel
theorem dX4_init_121 : decode cX4_init 121 = .ok (.putfield 52, 3) := by decide +kernel
theorem dX4_init_124 : decode cX4_init 124 = .ok (.aload_n 0, 1) := by decide +kernel
theorem dX4_init_125 : decode cX4_init 125 = .ok (.bipush 6, 2) := by decide +kernel
theorem dX4_init_127 : decode cX4_init 127 = .ok (.newarray .boolean, 2) := by decide +kernel
theorem dX4_init_129 : decode cX4_init 129 = .ok (.putfield 55, 3) := by decide +kernel
theorem dX4_init_132 : decode cX4_init 132 = .ok (.aload_n 0, 1) := by decide +kernel
theorem dX4_init_133 : decode cX4_init 133 = .ok (.bipush 6, 2) := by decide +kernel
theorem dX4_init_135 : decode cX4_init 135 = .ok (.newarray .int, 2) := by decide +kernel
theorem dX4_init_137 : decode cX4_init 137 = .ok (.putfield 59, 3) := by decide +kernel
theorem dX4_init_140 : decode cX4_init 140 = .ok (.aload_n 0, 1) := by decide +kernel
theorem dX4_init_141 : decode cX4_init 141 = .ok (.bipush 18, 2) := by decide +kernel
theorem dX4_init_143 : decode cX4_init 143 = .ok (.newarray .int, 2) := by decide +kernel
theorem dX4_init_145 : decode cX4_init 145 = .ok (.putfield 62, 3) := by decide +kernel
theorem dX4_init_148 : decode cX4_init 148 = .ok (.aload_n 0, 1) := by decide +kernel
theorem dX4_init_149 : decode cX4_init 149 = .ok (.bipush 6, 2) := by decide +kernel
theorem dX4_init_151 : decode cX4_init 151 = .ok (.newarray .int, 2) := by decide +kernel
theorem dX4_init_153 : decode cX4_init 153 = .ok (.putfield 65, 3) := by decide +kernel
theorem dX4_init_156 : decode cX4_init 156 = .ok (.aload_n 0, 1) := by decide +kernel
theorem dX4_init_157 : decode cX4_init 157 = .ok (.bipush 6, 2) := by decide +kernel
theorem dX4_init_159 : decode cX4_init 159 = .ok (.newarray .int, 2) := by decide +kernel
theorem dX4_init_161 : decode cX4_init 161 = .ok (.putfield 68, 3) := by decide +kernel
theorem dX4_init_164 : decode cX4_init 164 = .ok (.aload_n 0, 1) := by decide +kernel
theorem dX4_init_165 : decode cX4_init 165 = .ok (.bipush 6, 2) := by decide +kernel
theorem dX4_init_167 : decode cX4_init 167 = .ok (.newarray .int, 2) := by decide +kernel
theorem dX4_init_169 : decode cX4_init 169 = .ok (.putfield 71, 3) := by decide +kernel
theorem dX4_init_172 : decode cX4_init 172 = .ok (.aload_n 0, 1) := by decide +kernel
theorem dX4_init_173 : decode cX4_init 173 = .ok (.bipush 6, 2) := by decide +kernel
theorem dX4_init_175 : decode cX4_init 175 = .ok (.newarray .int, 2) := by decide +kernel
theorem dX4_init_177 : decode cX4_init 177 = .ok (.putfield 74, 3) := by decide +kernel
theorem dX4_init_180 : decode cX4_init 180 = .ok (.aload_n 0, 1) := by decide +kernel
theorem dX4_init_181 : decode cX4_init 181 = .ok (.bipush 6, 2) := by decide +kernel
theorem dX4_init_183 : decode cX4_init 183 = .ok (.newarray .int, 2) := by decide +kernel
theorem dX4_init_185 : decode cX4_init 185 = .ok (.putfield 77, 3) := by decide +kernel
theorem dX4_init_188 : decode cX4_init 188 = .ok (.iconst 0, 1) := by decide +kernel
theorem dX4_init_189 : decode cX4_init 189 = .ok (.istore_n 1, 1) := by decide +kernel
theorem dX4_init_190 : decode cX4_init 190 = .ok (.iload_n 1, 1) := by decide +kernel
theorem dX4_init_191 : decode cX4_init 191 = .ok (.bipush 8, 2) := by decide +kernel
theorem dX4_init_193 : decode cX4_init 193 = .ok (.if_icmp .ge 24, 3) := by decide +kernel
theorem dX4_init_196 : decode cX4_init 196 = .ok (.aload_n 0, 1) := by decide +kernel
theorem dX4_init_197 : decode cX4_init 197 = .ok (.getfield 7, 3) := by decide +kernel
theorem dX4_init_200 : decode cX4_init 200 = .ok (.iload_n 1, 1) := by decide +kernel
theorem dX4_init_201 : decode cX4_init 201 = .ok (.bipush 15, 2) := by decide +kernel
theorem dX4_init_203 : decode cX4_init 203 = .ok (.iastore, 1) := by decide +kernel
theorem dX4_init_204 : decode cX4_init 204 = .ok (.aload_n 0, 1) := by decide +kernel
theorem dX4_init_205 : decode cX4_init 205 = .ok (.getfield 13, 3) := by decide +kernel
theorem dX4_init_208 : decode cX4_init 208 = .ok (.iload_n 1, 1) := by decide +kernel
theorem dX4_init_209 : decode cX4_init 209 = .ok (.iconst (-1), 1) := by decide +kernel
theorem dX4_init_210 : decode cX4_init 210 = .ok (.iastore, 1) := by decide +kernel
theorem dX4_init_211 : decode cX4_init 211 = .ok (.iinc 1 1, 3) := by decide +kernel
theorem dX4_init_214 : decode cX4_init 214 = .ok (.goto (-24), 3) := by decide +kernel
theorem dX4_init_217 : decode cX4_init 217 = .ok (.iconst 0, 1) := by decide +kernel
theorem dX4_init_218 : decode cX4_init 218 = .ok (.istore_n 1, 1) := by decide +kernel
theorem dX4_init_219 : decode cX4_init 219 = .ok (.iload_n 1, 1) := by decide +kernel
theorem dX4_init_220 : decode cX4_init 220 = .ok (.bipush 64, 2) := by decide +kernel
theorem dX4_init_222 : decode cX4_init 222 = .ok (.if_icmp .ge 16, 3) := by decide +kernel
theorem dX4_init_225 : decode cX4_init 225 = .ok (.aload_n 0, 1) := by decide +kernel
theorem dX4_init_226 : decode cX4_init 226 = .ok (.getfield 16, 3) := by decide +kernel
theorem dX4_init_229 : decode cX4_init 229 = .ok (.iload_n 1, 1) := by decide +kernel
theorem dX4_init_230 : decode cX4_init 230 = .ok (.iconst (-1), 1) := by decide +kernel
theorem dX4_init_231 : decode cX4_init 231 = .ok (.iastore, 1) := by decide +kernel
theorem dX4_init_232 : decode cX4_init 232 = .ok (.iinc 1 1, 3) := by decide +kernel
theorem dX4_init_235 : decode cX4_init 235 = .ok (.goto (-16), 3) := by decide +kernel
theorem dX4_init_238 : decode cX4_init 238 = .ok (.return_, 1) := by decide +kernel
theorem dX4_thrown_0 : decode cX4_thrown 0 = .ok (.aload_n 0, 1) := by decide +kernel
theorem dX4_thrown_1 : decode cX4_thrown 1 = .ok (.getfield 80, 3) := by decide +kernel
theorem dX4_thrown_4 : decode cX4_thrown 4 = .ok (.ireturn, 1) := by decide +kernel
theorem dX4_refused_0 : decode cX4_refused 0 = .ok (.aload_n 0, 1) := by decide +kernel
theorem dX4_refused_1 : decode cX4_refused 1 = .ok (.iload_n 1, 1) := by decide +kernel
theorem dX4_refused_2 : decode cX4_refused 2 = .ok (.putfield 80, 3) := by decide +kernel
theorem dX4_refused_5 : decode cX4_refused 5 = .ok (.iload_n 1, 1) := by decide +kernel
theorem dX4_refused_6 : decode cX4_refused 6 = .ok (.ifCond .eq 7, 3) := by decide +kernel
theorem dX4_refused_9 : decode cX4_refused 9 = .ok (.iconst 1, 1) := by decide +kernel
theorem dX4_refused_10 : decode cX4_refused 10 = .ok (.goto 4, 3) := by decide +kernel
theorem dX4_refused_13 : decode cX4_refused 13 = .ok (.iconst 0, 1) := by decide +kernel
theorem dX4_refused_14 : decode cX4_refused 14 = .ok (.ireturn, 1) := by decide +kernel
theorem dX4_fine_0 : decode cX4_fine 0 = .ok (.aload_n 0, 1) := by decide +kernel
theorem dX4_fine_1 : decode cX4_fine 1 = .ok (.iconst 0, 1) := by decide +kernel
theorem dX4_fine_2 : decode cX4_fine 2 = .ok (.putfield 80, 3) := by decide +kernel
theorem dX4_fine_5 : decode cX4_fine 5 = .ok (.iload_n 1, 1) := by decide +kernel
theorem dX4_fine_6 : decode cX4_fine 6 = .ok (.ireturn, 1) := by decide +kernel
theorem dX4_in_0 : decode cX4_in 0 = .ok (.iload_n 0, 1) := by decide +kernel
theorem dX4_in_1 : decode cX4_in 1 = .ok (.iload_n 1, 1) := by decide +kernel
theorem dX4_in_2 : decode cX4_in 2 = .ok (.if_icmp .lt 12, 3) := by decide +kernel
theorem dX4_in_5 : decode cX4_in 5 = .ok (.iload_n 0, 1) := by decide +kernel
theorem dX4_in_6 : decode cX4_in 6 = .ok (.iload_n 2, 1) := by decide +kernel
theorem dX4_in_7 : decode cX4_in 7 = .ok (.if_icmp .gt 7, 3) := by decide +kernel
theorem dX4_in_10 : decode cX4_in 10 = .ok (.iconst 1, 1) := by decide +kernel
theorem dX4_in_11 : decode cX4_in 11 = .ok (.goto 4, 3) := by decide +kernel
theorem dX4_in_14 : decode cX4_in 14 = .ok (.iconst 0, 1) := by decide +kernel
theorem dX4_in_15 : decode cX4_in 15 = .ok (.ireturn, 1) := by decide +kernel
theorem dX4_isVersion_0 : decode cX4_isVersion 0 = .ok (.iload_n 0, 1) := by decide +kernel
theorem dX4_isVersion_1 : decode cX4_isVersion 1 = .ok (.iconst 0, 1) := by decide +kernel
theorem dX4_isVersion_2 : decode cX4_isVersion 2 = .ok (.bipush 7, 2) := by decide +kernel
theorem dX4_isVersion_4 : decode cX4_isVersion 4 = .ok (.invokestatic 84, 3) := by decide +kernel
theorem dX4_isVersion_7 : decode cX4_isVersion 7 = .ok (.ireturn, 1) := by decide +kernel
theorem dX4_isSize_0 : decode cX4_isSize 0 = .ok (.iload_n 0, 1) := by decide +kernel
theorem dX4_isSize_1 : decode cX4_isSize 1 = .ok (.iconst (-1), 1) := by decide +kernel
theorem dX4_isSize_2 : decode cX4_isSize 2 = .ok (.if_icmp .eq 13, 3) := by decide +kernel
theorem dX4_isSize_5 : decode cX4_isSize 5 = .ok (.iload_n 0, 1) := by decide +kernel
theorem dX4_isSize_6 : decode cX4_isSize 6 = .ok (.iconst 1, 1) := by decide +kernel
theorem dX4_isSize_7 : decode cX4_isSize 7 = .ok (.ldc 88, 2) := by decide +kernel
theorem dX4_isSize_9 : decode cX4_isSize 9 = .ok (.invokestatic 84, 3) := by decide +kernel
theorem dX4_isSize_12 : decode cX4_isSize 12 = .ok (.ifCond .eq 7, 3) := by decide +kernel
theorem dX4_isSize_15 : decode cX4_isSize 15 = .ok (.iconst 1, 1) := by decide +kernel
theorem dX4_isSize_16 : decode cX4_isSize 16 = .ok (.goto 4, 3) := by decide +kernel
theorem dX4_isSize_19 : decode cX4_isSize 19 = .ok (.iconst 0, 1) := by decide +kernel
theorem dX4_isSize_20 : decode cX4_isSize 20 = .ok (.ireturn, 1) := by decide +kernel
theorem dX4_isDevice_0 : decode cX4_isDevice 0 = .ok (.iload_n 1, 1) := by decide +kernel
theorem dX4_isDevice_1 : decode cX4_isDevice 1 = .ok (.iconst 0, 1) := by decide +kernel
theorem dX4_isDevice_2 : decode cX4_isDevice 2 = .ok (.aload_n 0, 1) := by decide +kernel
theorem dX4_isDevice_3 : decode cX4_isDevice 3 = .ok (.getfield 89, 3) := by decide +kernel
theorem dX4_isDevice_6 : decode cX4_isDevice 6 = .ok (.iconst 1, 1) := by decide +kernel
theorem dX4_isDevice_7 : decode cX4_isDevice 7 = .ok (.isub, 1) := by decide +kernel
theorem dX4_isDevice_8 : decode cX4_isDevice 8 = .ok (.invokestatic 84, 3) := by decide +kernel
theorem dX4_isDevice_11 : decode cX4_isDevice 11 = .ok (.ireturn, 1) := by decide +kernel
theorem dX4_isCampaign_0 : decode cX4_isCampaign 0 = .ok (.iload_n 1, 1) := by decide +kernel
theorem dX4_isCampaign_1 : decode cX4_isCampaign 1 = .ok (.iconst 0, 1) := by decide +kernel
theorem dX4_isCampaign_2 : decode cX4_isCampaign 2 = .ok (.aload_n 0, 1) := by decide +kernel
theorem dX4_isCampaign_3 : decode cX4_isCampaign 3 = .ok (.getfield 92, 3) := by decide +kernel
theorem dX4_isCampaign_6 : decode cX4_isCampaign 6 = .ok (.iconst 1, 1) := by decide +kernel
theorem dX4_isCampaign_7 : decode cX4_isCampaign 7 = .ok (.isub, 1) := by decide +kernel
theorem dX4_isCampaign_8 : decode cX4_isCampaign 8 = .ok (.invokestatic 84, 3) := by decide +kernel
theorem dX4_isCampaign_11 : decode cX4_isCampaign 11 = .ok (.ireturn, 1) := by decide +kernel
theorem dX4_allow_0 : decode cX4_allow 0 = .ok (.aload_n 0, 1) := by decide +kernel
theorem dX4_allow_1 : decode cX4_allow 1 = .ok (.iload_n 1, 1) := by decide +kernel
theorem dX4_allow_2 : decode cX4_allow 2 = .ok (.invokestatic 95, 3) := by decide +kernel
theorem dX4_allow_5 : decode cX4_allow 5 = .ok (.ifCond .ne 7, 3) := by decide +kernel
theorem dX4_allow_8 : decode cX4_allow 8 = .ok (.iconst 1, 1) := by decide +kernel
theorem dX4_allow_9 : decode cX4_allow 9 = .ok (.goto 18, 3) := by decide +kernel
theorem dX4_allow_12 : decode cX4_allow 12 = .ok (.iload_n 2, 1) := by decide +kernel
theorem dX4_allow_13 : decode cX4_allow 13 = .ok (.iconst 0, 1) := by decide +kernel
theorem dX4_allow_14 : decode cX4_allow 14 = .ok (.bipush 15, 2) := by decide +kernel
theorem dX4_allow_16 : decode cX4_allow 16 = .ok (.invokestatic 84, 3) := by decide +kernel
theorem dX4_allow_19 : decode cX4_allow 19 = .ok (.ifCond .eq 7, 3) := by decide +kernel
theorem dX4_allow_22 : decode cX4_allow 22 = .ok (.iconst 0, 1) := by decide +kernel
theorem dX4_allow_23 : decode cX4_allow 23 = .ok (.goto 4, 3) := by decide +kernel
theorem dX4_allow_26 : decode cX4_allow 26 = .ok (.iconst 2, 1) := by decide +kernel
theorem dX4_allow_27 : decode cX4_allow 27 = .ok (.invokevirtual 99, 3) := by decide +kernel
theorem dX4_allow_30 : decode cX4_allow 30 = .ok (.ifCond .eq 5, 3) := by decide +kernel
theorem dX4_allow_33 : decode cX4_allow 33 = .ok (.iconst 0, 1) := by decide +kernel
theorem dX4_allow_34 : decode cX4_allow 34 = .ok (.ireturn, 1) := by decide +kernel
theorem dX4_allow_35 : decode cX4_allow 35 = .ok (.aload_n 0, 1) := by decide +kernel
theorem dX4_allow_36 : decode cX4_allow 36 = .ok (.getfield 7, 3) := by decide +kernel
theorem dX4_allow_39 : decode cX4_allow 39 = .ok (.iload_n 1, 1) := by decide +kernel
theorem dX4_allow_40 : decode cX4_allow 40 = .ok (.iaload, 1) := by decide +kernel
theorem dX4_allow_41 : decode cX4_allow 41 = .ok (.istore_n 3, 1) := by decide +kernel
theorem dX4_allow_42 : decode cX4_allow 42 = .ok (.aload_n 0, 1) := by decide +kernel
theorem dX4_allow_43 : decode cX4_allow 43 = .ok (.getfield 7, 3) := by decide +kernel
theorem dX4_allow_46 : decode cX4_allow 46 = .ok (.iload_n 1, 1) := by decide +kernel
theorem dX4_allow_47 : decode cX4_allow 47 = .ok (.iload_n 2, 1) := by decide +kernel
theorem dX4_allow_48 : decode cX4_allow 48 = .ok (.iastore, 1) := by decide +kernel
theorem dX4_allow_49 : decode cX4_allow 49 = .ok (.iload_n 3, 1) := by decide +kernel
theorem dX4_allow_50 : decode cX4_allow 50 = .ok (.ireturn, 1) := by decide +kernel
theorem dX4_setImage_0 : decode cX4_setImage 0 = .ok (.aload_n 0, 1) := by decide +kernel
theorem dX4_setImage_1 : decode cX4_setImage 1 = .ok (.iload_n 1, 1) := by decide +kernel
theorem dX4_setImage_2 : decode cX4_setImage 2 = .ok (.invokestatic 95, 3) := by decide +kernel
theorem dX4_setImage_5 : decode cX4_setImage 5 = .ok (.ifCond .ne 7, 3) := by decide +kernel
theorem dX4_setImage_8 : decode cX4_setImage 8 = .ok (.iconst 1, 1) := by decide +kernel
theorem dX4_setImage_9 : decode cX4_setImage 9 = .ok (.goto 15, 3) := by decide +kernel
theorem dX4_setImage_12 : decode cX4_setImage 12 = .ok (.iload_n 2, 1) := by decide +kernel
theorem dX4_setImage_13 : decode cX4_setImage 13 = .ok (.invokestatic 102, 3) := by decide +kernel
theorem dX4_setImage_16 : decode cX4_setImage 16 = .ok (.ifCond .eq 7, 3) := by decide +kernel
theorem dX4_setImage_19 : decode cX4_setImage 19 = .ok (.iconst 0, 1) := by decide +kernel
theorem dX4_setImage_20 : decode cX4_setImage 20 = .ok (.goto 4, 3) := by decide +kernel
theorem dX4_setImage_23 : decode cX4_setImage 23 = .ok (.iconst 2, 1) := by decide +kernel
theorem dX4_setImage_24 : decode cX4_setImage 24 = .ok (.invokevirtual 99, 3) := by decide +kernel
theorem dX4_setImage_27 : decode cX4_setImage 27 = .ok (.ifCond .eq 5, 3) := by decide +kernel
theorem dX4_setImage_30 : decode cX4_setImage 30 = .ok (.iconst 0, 1) := by decide +kernel
theorem dX4_setImage_31 : decode cX4_setImage 31 = .ok (.ireturn, 1) := by decide +kernel
theorem dX4_setImage_32 : decode cX4_setImage 32 = .ok (.aload_n 0, 1) := by decide +kernel
theorem dX4_setImage_33 : decode cX4_setImage 33 = .ok (.getfield 13, 3) := by decide +kernel
theorem dX4_setImage_36 : decode cX4_setImage 36 = .ok (.iload_n 1, 1) := by decide +kernel
theorem dX4_setImage_37 : decode cX4_setImage 37 = .ok (.iaload, 1) := by decide +kernel
theorem dX4_setImage_38 : decode cX4_setImage 38 = .ok (.istore_n 3, 1) := by decide +kernel
theorem dX4_setImage_39 : decode cX4_setImage 39 = .ok (.aload_n 0, 1) := by decide +kernel
theorem dX4_setImage_40 : decode cX4_setImage 40 = .ok (.getfield 13, 3) := by decide +kernel
theorem dX4_setImage_43 : decode cX4_setImage 43 = .ok (.iload_n 1, 1) := by decide +kernel
theorem dX4_setImage_44 : decode cX4_setImage 44 = .ok (.iload_n 2, 1) := by decide +kernel
theorem dX4_setImage_45 : decode cX4_setImage 45 = .ok (.iastore, 1) := by decide +kernel
theorem dX4_setImage_46 : decode cX4_setImage 46 = .ok (.iload_n 3, 1) := by decide +kernel
theorem dX4_setImage_47 : decode cX4_setImage 47 = .ok (.ireturn, 1) := by decide +kernel
theorem dX4_setDelta_0 : decode cX4_setDelta 0 = .ok (.iload_n 1, 1) := by decide +kernel
theorem dX4_setDelta_1 : decode cX4_setDelta 1 = .ok (.invokestatic 95, 3) := by decide +kernel
theorem dX4_setDelta_4 : decode cX4_setDelta 4 = .ok (.ifCond .eq 14, 3) := by decide +kernel
theorem dX4_setDelta_7 : decode cX4_setDelta 7 = .ok (.iload_n 2, 1) := by decide +kernel
theorem dX4_setDelta_8 : decode cX4_setDelta 8 = .ok (.invokestatic 95, 3) := by decide +kernel
theorem dX4_setDelta_11 : decode cX4_setDelta 11 = .ok (.ifCond .eq 7, 3) := by decide +kernel
theorem dX4_setDelta_14 : decode cX4_setDelta 14 = .ok (.iconst 1, 1) := by decide +kernel
theorem dX4_setDelta_15 : decode cX4_setDelta 15 = .ok (.goto 4, 3) := by decide +kernel
theorem dX4_setDelta_18 : decode cX4_setDelta 18 = .ok (.iconst 0, 1) := by decide +kernel
theorem dX4_setDelta_19 : decode cX4_setDelta 19 = .ok (.istore 4, 2) := by decide +kernel
theorem dX4_setDelta_21 : decode cX4_setDelta 21 = .ok (.aload_n 0, 1) := by decide +kernel
theorem dX4_setDelta_22 : decode cX4_setDelta 22 = .ok (.iload 4, 2) := by decide +kernel
theorem dX4_setDelta_24 : decode cX4_setDelta 24 = .ok (.ifCond .ne 7, 3) := by decide +kernel
theorem dX4_setDelta_27 : decode cX4_setDelta 27 = .ok (.iconst 1, 1) := by decide +kernel
theorem dX4_setDelta_28 : decode cX4_setDelta 28 = .ok (.goto 20, 3) := by decide +kernel
theorem dX4_setDelta_31 : decode cX4_setDelta 31 = .ok (.iload_n 1, 1) := by decide +kernel
theorem dX4_setDelta_32 : decode cX4_setDelta 32 = .ok (.iload_n 2, 1) := by decide +kernel
theorem dX4_setDelta_33 : decode cX4_setDelta 33 = .ok (.if_icmp .eq 14, 3) := by decide +kernel
theorem dX4_setDelta_36 : decode cX4_setDelta 36 = .ok (.iload_n 3, 1) := by decide +kernel
theorem dX4_setDelta_37 : decode cX4_setDelta 37 = .ok (.invokestatic 102, 3) := by decide +kernel
theorem dX4_setDelta_40 : decode cX4_setDelta 40 = .ok (.ifCond .eq 7, 3) := by decide +kernel
theorem dX4_setDelta_43 : decode cX4_setDelta 43 = .ok (.iconst 0, 1) := by decide +kernel
theorem dX4_setDelta_44 : decode cX4_setDelta 44 = .ok (.goto 4, 3) := by decide +kernel
theorem dX4_setDelta_47 : decode cX4_setDelta 47 = .ok (.iconst 2, 1) := by decide +kernel
theorem dX4_setDelta_48 : decode cX4_setDelta 48 = .ok (.invokevirtual 99, 3) := by decide +kernel
theorem dX4_setDelta_51 : decode cX4_setDelta 51 = .ok (.ifCond .eq 5, 3) := by decide +kernel
theorem dX4_setDelta_54 : decode cX4_setDelta 54 = .ok (.iconst 0, 1) := by decide +kernel
theorem dX4_setDelta_55 : decode cX4_setDelta 55 = .ok (.ireturn, 1) := by decide +kernel
theorem dX4_setDelta_56 : decode cX4_setDelta 56 = .ok (.aload_n 0, 1) := by decide +kernel
theorem dX4_setDelta_57 : decode cX4_setDelta 57 = .ok (.getfield 16, 3) := by decide +kernel
theorem dX4_setDelta_60 : decode cX4_setDelta 60 = .ok (.bipush 8, 2) := by decide +kernel
theorem dX4_setDelta_62 : decode cX4_setDelta 62 = .ok (.iload_n 1, 1) := by decide +kernel
theorem dX4_setDelta_63 : decode cX4_setDelta 63 = .ok (.imul, 1) := by decide +kernel
theorem dX4_setDelta_64 : decode cX4_setDelta 64 = .ok (.iload_n 2, 1) := by decide +kernel
theorem dX4_setDelta_65 : decode cX4_setDelta 65 = .ok (.iadd, 1) := by decide +kernel
theorem dX4_setDelta_66 : decode cX4_setDelta 66 = .ok (.iaload, 1) := by decide +kernel
theorem dX4_setDelta_67 : decode cX4_setDelta 67 = .ok (.istore 5, 2) := by decide +kernel
theorem dX4_setDelta_69 : decode cX4_setDelta 69 = .ok (.aload_n 0, 1) := by decide +kernel
theorem dX4_setDelta_70 : decode cX4_setDelta 70 = .ok (.getfield 16, 3) := by decide +kernel
theorem dX4_setDelta_73 : decode cX4_setDelta 73 = .ok (.bipush 8, 2) := by decide +kernel
theorem dX4_setDelta_75 : decode cX4_setDelta 75 = .ok (.iload_n 1, 1) := by decide +kernel
theorem dX4_setDelta_76 : decode cX4_setDelta 76 = .ok (.imul, 1) := by decide +kernel
theorem dX4_setDelta_77 : decode cX4_setDelta 77 = .ok (.iload_n 2, 1) := by decide +kernel
theorem dX4_setDelta_78 : decode cX4_setDelta 78 = .ok (.iadd, 1) := by decide +kernel
theorem dX4_setDelta_79 : decode cX4_setDelta 79 = .ok (.iload_n 3, 1) := by decide +kernel
theorem dX4_setDelta_80 : decode cX4_setDelta 80 = .ok (.iastore, 1) := by decide +kernel
theorem dX4_setDelta_81 : decode cX4_setDelta 81 = .ok (.iload 5, 2) := by decide +kernel
theorem dX4_setDelta_83 : decode cX4_setDelta 83 = .ok (.ireturn, 1) := by decide +kernel
theorem dX4_sizeOf_0 : decode cX4_sizeOf 0 = .ok (.iconst 0, 1) := by decide +kernel
theorem dX4_sizeOf_1 : decode cX4_sizeOf 1 = .ok (.istore_n 3, 1) := by decide +kernel
theorem dX4_sizeOf_2 : decode cX4_sizeOf 2 = .ok (.iload_n 3, 1) := by decide +kernel
theorem dX4_sizeOf_3 : decode cX4_sizeOf 3 = .ok (.bipush 8, 2) := by decide +kernel
theorem dX4_sizeOf_5 : decode cX4_sizeOf 5 = .ok (.if_icmp .ge 45, 3) := by decide +kernel
theorem dX4_sizeOf_8 : decode cX4_sizeOf 8 = .ok (.aload_n 0, 1) := by decide +kernel
theorem dX4_sizeOf_9 : decode cX4_sizeOf 9 = .ok (.getfield 19, 3) := by decide +kernel
theorem dX4_sizeOf_12 : decode cX4_sizeOf 12 = .ok (.iload_n 3, 1) := by decide +kernel
theorem dX4_sizeOf_13 : decode cX4_sizeOf 13 = .ok (.iload_n 3, 1) := by decide +kernel
theorem dX4_sizeOf_14 : decode cX4_sizeOf 14 = .ok (.iload_n 1, 1) := by decide +kernel
theorem dX4_sizeOf_15 : decode cX4_sizeOf 15 = .ok (.if_icmp .ne 7, 3) := by decide +kernel
theorem dX4_sizeOf_18 : decode cX4_sizeOf 18 = .ok (.iconst 0, 1) := by decide +kernel
theorem dX4_sizeOf_19 : decode cX4_sizeOf 19 = .ok (.goto 24, 3) := by decide +kernel
theorem dX4_sizeOf_22 : decode cX4_sizeOf 22 = .ok (.aload_n 0, 1) := by decide +kernel
theorem dX4_sizeOf_23 : decode cX4_sizeOf 23 = .ok (.getfield 13, 3) := by decide +kernel
theorem dX4_sizeOf_26 : decode cX4_sizeOf 26 = .ok (.iload_n 3, 1) := by decide +kernel
theorem dX4_sizeOf_27 : decode cX4_sizeOf 27 = .ok (.iaload, 1) := by decide +kernel
theorem dX4_sizeOf_28 : decode cX4_sizeOf 28 = .ok (.iconst (-1), 1) := by decide +kernel
theorem dX4_sizeOf_29 : decode cX4_sizeOf 29 = .ok (.if_icmp .ne 8, 3) := by decide +kernel
theorem dX4_sizeOf_32 : decode cX4_sizeOf 32 = .ok (.ldc 105, 2) := by decide +kernel
theorem dX4_sizeOf_34 : decode cX4_sizeOf 34 = .ok (.goto 9, 3) := by decide +kernel
theorem dX4_sizeOf_37 : decode cX4_sizeOf 37 = .ok (.aload_n 0, 1) := by decide +kernel
theorem dX4_sizeOf_38 : decode cX4_sizeOf 38 = .ok (.getfield 13, 3) := by decide +kernel
theorem dX4_sizeOf_41 : decode cX4_sizeOf 41 = .ok (.iload_n 3, 1) := by decide +kernel
theorem dX4_sizeOf_42 : decode cX4_sizeOf 42 = .ok (.iaload, 1) := by decide +kernel
theorem dX4_sizeOf_43 : decode cX4_sizeOf 43 = .ok (.iastore, 1) := by decide +kernel
theorem dX4_sizeOf_44 : decode cX4_sizeOf 44 = .ok (.iinc 3 1, 3) := by decide +kernel
theorem dX4_sizeOf_47 : decode cX4_sizeOf 47 = .ok (.goto (-45), 3) := by decide +kernel
theorem dX4_sizeOf_50 : decode cX4_sizeOf 50 = .ok (.iconst 0, 1) := by decide +kernel
theorem dX4_sizeOf_51 : decode cX4_sizeOf 51 = .ok (.istore_n 3, 1) := by decide +kernel
theorem dX4_sizeOf_52 : decode cX4_sizeOf 52 = .ok (.iload_n 3, 1) := by decide +kernel
theorem dX4_sizeOf_53 : decode cX4_sizeOf 53 = .ok (.bipush 8, 2) := by decide +kernel
theorem dX4_sizeOf_55 : decode cX4_sizeOf 55 = .ok (.if_icmp .ge 95, 3) := by decide +kernel
theorem dX4_sizeOf_58 : decode cX4_sizeOf 58 = .ok (.iconst 0, 1) := by decide +kernel
theorem dX4_sizeOf_59 : decode cX4_sizeOf 59 = .ok (.istore 4, 2) := by decide +kernel
theorem dX4_sizeOf_61 : decode cX4_sizeOf 61 = .ok (.iload 4, 2) := by decide +kernel
theorem dX4_sizeOf_63 : decode cX4_sizeOf 63 = .ok (.bipush 64, 2) := by decide +kernel
theorem dX4_sizeOf_65 : decode cX4_sizeOf 65 = .ok (.if_icmp .ge 79, 3) := by decide +kernel
theorem dX4_sizeOf_68 : decode cX4_sizeOf 68 = .ok (.aload_n 0, 1) := by decide +kernel
theorem dX4_sizeOf_69 : decode cX4_sizeOf 69 = .ok (.getfield 16, 3) := by decide +kernel
theorem dX4_sizeOf_72 : decode cX4_sizeOf 72 = .ok (.iload 4, 2) := by decide +kernel
theorem dX4_sizeOf_74 : decode cX4_sizeOf 74 = .ok (.iaload, 1) := by decide +kernel
theorem dX4_sizeOf_75 : decode cX4_sizeOf 75 = .ok (.iconst (-1), 1) := by decide +kernel
theorem dX4_sizeOf_76 : decode cX4_sizeOf 76 = .ok (.if_icmp .eq 62, 3) := by decide +kernel
theorem dX4_sizeOf_79 : decode cX4_sizeOf 79 = .ok (.aload_n 0, 1) := by decide +kernel
theorem dX4_sizeOf_80 : decode cX4_sizeOf 80 = .ok (.getfield 19, 3) := by decide +kernel
theorem dX4_sizeOf_83 : decode cX4_sizeOf 83 = .ok (.iload 4, 2) := by decide +kernel
theorem dX4_sizeOf_85 : decode cX4_sizeOf 85 = .ok (.bipush 8, 2) := by decide +kernel
theorem dX4_sizeOf_87 : decode cX4_sizeOf 87 = .ok (.idiv, 1) := by decide +kernel
theorem dX4_sizeOf_88 : decode cX4_sizeOf 88 = .ok (.iaload, 1) := by decide +kernel
theorem dX4_sizeOf_89 : decode cX4_sizeOf 89 = .ok (.aload_n 0, 1) := by decide +kernel
theorem dX4_sizeOf_90 : decode cX4_sizeOf 90 = .ok (.getfield 16, 3) := by decide +kernel
theorem dX4_sizeOf_93 : decode cX4_sizeOf 93 = .ok (.iload 4, 2) := by decide +kernel
theorem dX4_sizeOf_95 : decode cX4_sizeOf 95 = .ok (.iaload, 1) := by decide +kernel
theorem dX4_sizeOf_96 : decode cX4_sizeOf 96 = .ok (.iadd, 1) := by decide +kernel
theorem dX4_sizeOf_97 : decode cX4_sizeOf 97 = .ok (.aload_n 0, 1) := by decide +kernel
theorem dX4_sizeOf_98 : decode cX4_sizeOf 98 = .ok (.getfield 19, 3) := by decide +kernel
theorem dX4_sizeOf_101 : decode cX4_sizeOf 101 = .ok (.iload 4, 2) := by decide +kernel
theorem dX4_sizeOf_103 : decode cX4_sizeOf 103 = .ok (.bipush 8, 2) := by decide +kernel
theorem dX4_sizeOf_105 : decode cX4_sizeOf 105 = .ok (.irem, 1) := by decide +kernel
theorem dX4_sizeOf_106 : decode cX4_sizeOf 106 = .ok (.iaload, 1) := by decide +kernel
theorem dX4_sizeOf_107 : decode cX4_sizeOf 107 = .ok (.if_icmp .ge 31, 3) := by decide +kernel
theorem dX4_sizeOf_110 : decode cX4_sizeOf 110 = .ok (.aload_n 0, 1) := by decide +kernel
theorem dX4_sizeOf_111 : decode cX4_sizeOf 111 = .ok (.getfield 19, 3) := by decide +kernel
theorem dX4_sizeOf_114 : decode cX4_sizeOf 114 = .ok (.iload 4, 2) := by decide +kernel
theorem dX4_sizeOf_116 : decode cX4_sizeOf 116 = .ok (.bipush 8, 2) := by decide +kernel
theorem dX4_sizeOf_118 : decode cX4_sizeOf 118 = .ok (.irem, 1) := by decide +kernel
theorem dX4_sizeOf_119 : decode cX4_sizeOf 119 = .ok (.aload_n 0, 1) := by decide +kernel
theorem dX4_sizeOf_120 : decode cX4_sizeOf 120 = .ok (.getfield 19, 3) := by decide +kernel
theorem dX4_sizeOf_123 : decode cX4_sizeOf 123 = .ok (.iload 4, 2) := by decide +kernel
theorem dX4_sizeOf_125 : decode cX4_sizeOf 125 = .ok (.bipush 8, 2) := by decide +kernel
theorem dX4_sizeOf_127 : decode cX4_sizeOf 127 = .ok (.idiv, 1) := by decide +kernel
theorem dX4_sizeOf_128 : decode cX4_sizeOf 128 = .ok (.iaload, 1) := by decide +kernel
theorem dX4_sizeOf_129 : decode cX4_sizeOf 129 = .ok (.aload_n 0, 1) := by decide +kernel
theorem dX4_sizeOf_130 : decode cX4_sizeOf 130 = .ok (.getfield 16, 3) := by decide +kernel
theorem dX4_sizeOf_133 : decode cX4_sizeOf 133 = .ok (.iload 4, 2) := by decide +kernel
theorem dX4_sizeOf_135 : decode cX4_sizeOf 135 = .ok (.iaload, 1) := by decide +kernel
theorem dX4_sizeOf_136 : decode cX4_sizeOf 136 = .ok (.iadd, 1) := by decide +kernel
theorem dX4_sizeOf_137 : decode cX4_sizeOf 137 = .ok (.iastore, 1) := by decide +kernel
theorem dX4_sizeOf_138 : decode cX4_sizeOf 138 = .ok (.iinc 4 1, 3) := by decide +kernel
theorem dX4_sizeOf_141 : decode cX4_sizeOf 141 = .ok (.goto (-80), 3) := by decide +kernel
theorem dX4_sizeOf_144 : decode cX4_sizeOf 144 = .ok (.iinc 3 1, 3) := by decide +kernel
theorem dX4_sizeOf_147 : decode cX4_sizeOf 147 = .ok (.goto (-95), 3) := by decide +kernel
theorem dX4_sizeOf_150 : decode cX4_sizeOf 150 = .ok (.aload_n 0, 1) := by decide +kernel
theorem dX4_sizeOf_151 : decode cX4_sizeOf 151 = .ok (.getfield 19, 3) := by decide +kernel
theorem dX4_sizeOf_154 : decode cX4_sizeOf 154 = .ok (.iload_n 2, 1) := by decide +kernel
theorem dX4_sizeOf_155 : decode cX4_sizeOf 155 = .ok (.iaload, 1) := by decide +kernel
theorem dX4_sizeOf_156 : decode cX4_sizeOf 156 = .ok (.ldc 105, 2) := by decide +kernel
theorem dX4_sizeOf_158 : decode cX4_sizeOf 158 = .ok (.if_icmp .lt 7, 3) := by decide +kernel
theorem dX4_sizeOf_161 : decode cX4_sizeOf 161 = .ok (.iconst (-1), 1) := by decide +kernel
theorem dX4_sizeOf_162 : decode cX4_sizeOf 162 = .ok (.goto 9, 3) := by decide +kernel
theorem dX4_sizeOf_165 : decode cX4_sizeOf 165 = .ok (.aload_n 0, 1) := by decide +kernel
theorem dX4_sizeOf_166 : decode cX4_sizeOf 166 = .ok (.getfield 19, 3) := by decide +kernel
theorem dX4_sizeOf_169 : decode cX4_sizeOf 169 = .ok (.iload_n 2, 1) := by decide +kernel
theorem dX4_sizeOf_170 : decode cX4_sizeOf 170 = .ok (.iaload, 1) := by decide +kernel
theorem dX4_sizeOf_171 : decode cX4_sizeOf 171 = .ok (.ireturn, 1) := by decide +kernel
theorem dX4_size_0 : decode cX4_size 0 = .ok (.aload_n 0, 1) := by decide +kernel
theorem dX4_size_1 : decode cX4_size 1 = .ok (.iload_n 1, 1) := by decide +kernel
theorem dX4_size_2 : decode cX4_size 2 = .ok (.invokestatic 95, 3) := by decide +kernel
theorem dX4_size_5 : decode cX4_size 5 = .ok (.ifCond .eq 14, 3) := by decide +kernel
theorem dX4_size_8 : decode cX4_size 8 = .ok (.iload_n 2, 1) := by decide +kernel
theorem dX4_size_9 : decode cX4_size 9 = .ok (.invokestatic 95, 3) := by decide +kernel
theorem dX4_size_12 : decode cX4_size 12 = .ok (.ifCond .eq 7, 3) := by decide +kernel
theorem dX4_size_15 : decode cX4_size 15 = .ok (.iconst 0, 1) := by decide +kernel
theorem dX4_size_16 : decode cX4_size 16 = .ok (.goto 4, 3) := by decide +kernel
theorem dX4_size_19 : decode cX4_size 19 = .ok (.iconst 1, 1) := by decide +kernel
theorem dX4_size_20 : decode cX4_size 20 = .ok (.invokevirtual 99, 3) := by decide +kernel
theorem dX4_size_23 : decode cX4_size 23 = .ok (.ifCond .eq 7, 3) := by decide +kernel
theorem dX4_size_26 : decode cX4_size 26 = .ok (.iconst 0, 1) := by decide +kernel
theorem dX4_size_27 : decode cX4_size 27 = .ok (.goto 9, 3) := by decide +kernel
theorem dX4_size_30 : decode cX4_size 30 = .ok (.aload_n 0, 1) := by decide +kernel
theorem dX4_size_31 : decode cX4_size 31 = .ok (.iload_n 1, 1) := by decide +kernel
theorem dX4_size_32 : decode cX4_size 32 = .ok (.iload_n 2, 1) := by decide +kernel
theorem dX4_size_33 : decode cX4_size 33 = .ok (.invokevirtual 106, 3) := by decide +kernel
theorem dX4_size_36 : decode cX4_size 36 = .ok (.ireturn, 1) := by decide +kernel
theorem dX4_sizeByWays_0 : decode cX4_sizeByWays 0 = .ok (.aload_n 0, 1) := by decide +kernel
theorem dX4_sizeByWays_1 : decode cX4_sizeByWays 1 = .ok (.iload_n 1, 1) := by decide +kernel
theorem dX4_sizeByWays_2 : decode cX4_sizeByWays 2 = .ok (.iload_n 2, 1) := by decide +kernel
theorem dX4_sizeByWays_3 : decode cX4_sizeByWays 3 = .ok (.invokevirtual 110, 3) := by decide +kernel
theorem dX4_sizeByWays_6 : decode cX4_sizeByWays 6 = .ok (.ireturn, 1) := by decide +kernel
theorem dX4_addDevice_0 : decode cX4_addDevice 0 = .ok (.iload_n 1, 1) := by decide +kernel
theorem dX4_addDevice_1 : decode cX4_addDevice 1 = .ok (.iconst 0, 1) := by decide +kernel
theorem dX4_addDevice_2 : decode cX4_addDevice 2 = .ok (.iconst 3, 1) := by decide +kernel
theorem dX4_addDevice_3 : decode cX4_addDevice 3 = .ok (.invokestatic 84, 3) := by decide +kernel
theorem dX4_addDevice_6 : decode cX4_addDevice 6 = .ok (.ifCond .eq 14, 3) := by decide +kernel
theorem dX4_addDevice_9 : decode cX4_addDevice 9 = .ok (.iload_n 2, 1) := by decide +kernel
theorem dX4_addDevice_10 : decode cX4_addDevice 10 = .ok (.invokestatic 95, 3) := by decide +kernel
theorem dX4_addDevice_13 : decode cX4_addDevice 13 = .ok (.ifCond .eq 7, 3) := by decide +kernel
theorem dX4_addDevice_16 : decode cX4_addDevice 16 = .ok (.iconst 1, 1) := by decide +kernel
theorem dX4_addDevice_17 : decode cX4_addDevice 17 = .ok (.goto 4, 3) := by decide +kernel
theorem dX4_addDevice_20 : decode cX4_addDevice 20 = .ok (.iconst 0, 1) := by decide +kernel
theorem dX4_addDevice_21 : decode cX4_addDevice 21 = .ok (.istore_n 3, 1) := by decide +kernel
theorem dX4_addDevice_22 : decode cX4_addDevice 22 = .ok (.iload_n 3, 1) := by decide +kernel
theorem dX4_addDevice_23 : decode cX4_addDevice 23 = .ok (.ifCond .eq 30, 3) := by decide +kernel
theorem dX4_addDevice_26 : decode cX4_addDevice 26 = .ok (.aload_n 0, 1) := by decide +kernel
theorem dX4_addDevice_27 : decode cX4_addDevice 27 = .ok (.getfield 89, 3) := by decide +kernel
theorem dX4_addDevice_30 : decode cX4_addDevice 30 = .ok (.bipush 10, 2) := by decide +kernel
theorem dX4_addDevice_32 : decode cX4_addDevice 32 = .ok (.if_icmp .ge 21, 3) := by decide +kernel
theorem dX4_addDevice_35 : decode cX4_addDevice 35 = .ok (.aload_n 0, 1) := by decide +kernel
theorem dX4_addDevice_36 : decode cX4_addDevice 36 = .ok (.getfield 7, 3) := by decide +kernel
theorem dX4_addDevice_39 : decode cX4_addDevice 39 = .ok (.iload_n 2, 1) := by decide +kernel
theorem dX4_addDevice_40 : decode cX4_addDevice 40 = .ok (.iaload, 1) := by decide +kernel
theorem dX4_addDevice_41 : decode cX4_addDevice 41 = .ok (.iload_n 1, 1) := by decide +kernel
theorem dX4_addDevice_42 : decode cX4_addDevice 42 = .ok (.ishr, 1) := by decide +kernel
theorem dX4_addDevice_43 : decode cX4_addDevice 43 = .ok (.iconst 1, 1) := by decide +kernel
theorem dX4_addDevice_44 : decode cX4_addDevice 44 = .ok (.iand, 1) := by decide +kernel
theorem dX4_addDevice_45 : decode cX4_addDevice 45 = .ok (.iconst 1, 1) := by decide +kernel
theorem dX4_addDevice_46 : decode cX4_addDevice 46 = .ok (.if_icmp .ne 7, 3) := by decide +kernel
theorem dX4_addDevice_49 : decode cX4_addDevice 49 = .ok (.iconst 1, 1) := by decide +kernel
theorem dX4_addDevice_50 : decode cX4_addDevice 50 = .ok (.goto 4, 3) := by decide +kernel
theorem dX4_addDevice_53 : decode cX4_addDevice 53 = .ok (.iconst 0, 1) := by decide +kernel
theorem dX4_addDevice_54 : decode cX4_addDevice 54 = .ok (.istore 4, 2) := by decide +kernel
theorem dX4_addDevice_56 : decode cX4_addDevice 56 = .ok (.aload_n 0, 1) := by decide +kernel
theorem dX4_addDevice_57 : decode cX4_addDevice 57 = .ok (.iload_n 3, 1) := by decide +kernel
theorem dX4_addDevice_58 : decode cX4_addDevice 58 = .ok (.ifCond .ne 7, 3) := by decide +kernel
theorem dX4_addDevice_61 : decode cX4_addDevice 61 = .ok (.iconst 1, 1) := by decide +kernel
theorem dX4_addDevice_62 : decode cX4_addDevice 62 = .ok (.goto 13, 3) := by decide +kernel
theorem dX4_addDevice_65 : decode cX4_addDevice 65 = .ok (.iload 4, 2) := by decide +kernel
theorem dX4_addDevice_67 : decode cX4_addDevice 67 = .ok (.ifCond .eq 7, 3) := by decide +kernel
theorem dX4_addDevice_70 : decode cX4_addDevice 70 = .ok (.iconst 0, 1) := by decide +kernel
theorem dX4_addDevice_71 : decode cX4_addDevice 71 = .ok (.goto 4, 3) := by decide +kernel
theorem dX4_addDevice_74 : decode cX4_addDevice 74 = .ok (.iconst 2, 1) := by decide +kernel
theorem dX4_addDevice_75 : decode cX4_addDevice 75 = .ok (.invokevirtual 99, 3) := by decide +kernel
theorem dX4_addDevice_78 : decode cX4_addDevice 78 = .ok (.ifCond .eq 5, 3) := by decide +kernel
theorem dX4_addDevice_81 : decode cX4_addDevice 81 = .ok (.iconst 0, 1) := by decide +kernel
theorem dX4_addDevice_82 : decode cX4_addDevice 82 = .ok (.ireturn, 1) := by decide +kernel
theorem dX4_addDevice_83 : decode cX4_addDevice 83 = .ok (.aload_n 0, 1) := by decide +kernel
theorem dX4_addDevice_84 : decode cX4_addDevice 84 = .ok (.getfield 22, 3) := by decide +kernel
theorem dX4_addDevice_87 : decode cX4_addDevice 87 = .ok (.aload_n 0, 1) := by decide +kernel
theorem dX4_addDevice_88 : decode cX4_addDevice 88 = .ok (.getfield 89, 3) := by decide +kernel
theorem dX4_addDevice_91 : decode cX4_addDevice 91 = .ok (.iload_n 1, 1) := by decide +kernel
theorem dX4_addDevice_92 : decode cX4_addDevice 92 = .ok (.iastore, 1) := by decide +kernel
theorem dX4_addDevice_93 : decode cX4_addDevice 93 = .ok (.aload_n 0, 1) := by decide +kernel
theorem dX4_addDevice_94 : decode cX4_addDevice 94 = .ok (.getfield 25, 3) := by decide +kernel
theorem dX4_addDevice_97 : decode cX4_addDevice 97 = .ok (.aload_n 0, 1) := by decide +kernel
theorem dX4_addDevice_98 : decode cX4_addDevice 98 = .ok (.getfield 89, 3) := by decide +kernel
theorem dX4_addDevice_101 : decode cX4_addDevice 101 = .ok (.iload_n 2, 1) := by decide +kernel
theorem dX4_addDevice_102 : decode cX4_addDevice 102 = .ok (.iastore, 1) := by decide +kernel
theorem dX4_addDevice_103 : decode cX4_addDevice 103 = .ok (.aload_n 0, 1) := by decide +kernel
theorem dX4_addDevice_104 : decode cX4_addDevice 104 = .ok (.getfield 28, 3) := by decide +kernel
theorem dX4_addDevice_107 : decode cX4_addDevice 107 = .ok (.aload_n 0, 1) := by decide +kernel
theorem dX4_addDevice_108 : decode cX4_addDevice 108 = .ok (.getfield 89, 3) := by decide +kernel
theorem dX4_addDevice_111 : decode cX4_addDevice 111 = .ok (.bipush 100, 2) := by decide +kernel
theorem dX4_addDevice_113 : decode cX4_addDevice 113 = .ok (.iastore, 1) := by decide +kernel
theorem dX4_addDevice_114 : decode cX4_addDevice 114 = .ok (.aload_n 0, 1) := by decide +kernel
theorem dX4_addDevice_115 : decode cX4_addDevice 115 = .ok (.getfield 31, 3) := by decide +kernel
theorem dX4_addDevice_118 : decode cX4_addDevice 118 = .ok (.aload_n 0, 1) := by decide +kernel
theorem dX4_addDevice_119 : decode cX4_addDevice 119 = .ok (.getfield 89, 3) := by decide +kernel
theorem dX4_addDevice_122 : decode cX4_addDevice 122 = .ok (.iconst 0, 1) := by decide +kernel
theorem dX4_addDevice_123 : decode cX4_addDevice 123 = .ok (.iastore, 1) := by decide +kernel
theorem dX4_addDevice_124 : decode cX4_addDevice 124 = .ok (.aload_n 0, 1) := by decide +kernel
theorem dX4_addDevice_125 : decode cX4_addDevice 125 = .ok (.getfield 34, 3) := by decide +kernel
theorem dX4_addDevice_128 : decode cX4_addDevice 128 = .ok (.aload_n 0, 1) := by decide +kernel
theorem dX4_addDevice_129 : decode cX4_addDevice 129 = .ok (.getfield 89, 3) := by decide +kernel
theorem dX4_addDevice_132 : decode cX4_addDevice 132 = .ok (.bipush 23, 2) := by decide +kernel
theorem dX4_addDevice_134 : decode cX4_addDevice 134 = .ok (.iastore, 1) := by decide +kernel
theorem dX4_addDevice_135 : decode cX4_addDevice 135 = .ok (.aload_n 0, 1) := by decide +kernel
theorem dX4_addDevice_136 : decode cX4_addDevice 136 = .ok (.getfield 40, 3) := by decide +kernel
theorem dX4_addDevice_139 : decode cX4_addDevice 139 = .ok (.aload_n 0, 1) := by decide +kernel
theorem dX4_addDevice_140 : decode cX4_addDevice 140 = .ok (.getfield 89, 3) := by decide +kernel
theorem dX4_addDevice_143 : decode cX4_addDevice 143 = .ok (.iconst (-1), 1) := by decide +kernel
theorem dX4_addDevice_144 : decode cX4_addDevice 144 = .ok (.iastore, 1) := by decide +kernel
theorem dX4_addDevice_145 : decode cX4_addDevice 145 = .ok (.aload_n 0, 1) := by decide +kernel
theorem dX4_addDevice_146 : decode cX4_addDevice 146 = .ok (.dup, 1) := by decide +kernel
theorem dX4_addDevice_147 : decode cX4_addDevice 147 = .ok (.getfield 89, 3) := by decide +kernel
theorem dX4_addDevice_150 : decode cX4_addDevice 150 = .ok (.iconst 1, 1) := by decide +kernel
theorem dX4_addDevice_151 : decode cX4_addDevice 151 = .ok (.iadd, 1) := by decide +kernel
theorem dX4_addDevice_152 : decode cX4_addDevice 152 = .ok (.putfield 89, 3) := by decide +kernel
theorem dX4_addDevice_155 : decode cX4_addDevice 155 = .ok (.aload_n 0, 1) := by decide +kernel
theorem dX4_addDevice_156 : decode cX4_addDevice 156 = .ok (.getfield 89, 3) := by decide +kernel
theorem dX4_addDevice_159 : decode cX4_addDevice 159 = .ok (.iconst 1, 1) := by decide +kernel
theorem dX4_addDevice_160 : decode cX4_addDevice 160 = .ok (.isub, 1) := by decide +kernel
theorem dX4_addDevice_161 : decode cX4_addDevice 161 = .ok (.ireturn, 1) := by decide +kernel
theorem dX4_charge_0 : decode cX4_charge 0 = .ok (.aload_n 0, 1) := by decide +kernel
theorem dX4_charge_1 : decode cX4_charge 1 = .ok (.aload_n 0, 1) := by decide +kernel
theorem dX4_charge_2 : decode cX4_charge 2 = .ok (.iload_n 1, 1) := by decide +kernel
theorem dX4_charge_3 : decode cX4_charge 3 = .ok (.invokevirtual 113, 3) := by decide +kernel
theorem dX4_charge_6 : decode cX4_charge 6 = .ok (.ifCond .ne 7, 3) := by decide +kernel
theorem dX4_charge_9 : decode cX4_charge 9 = .ok (.iconst 1, 1) := by decide +kernel
theorem dX4_charge_10 : decode cX4_charge 10 = .ok (.goto 18, 3) := by decide +kernel
theorem dX4_charge_13 : decode cX4_charge 13 = .ok (.iload_n 2, 1) := by decide +kernel
theorem dX4_charge_14 : decode cX4_charge 14 = .ok (.iconst 0, 1) := by decide +kernel
theorem dX4_charge_15 : decode cX4_charge 15 = .ok (.bipush 100, 2) := by decide +kernel
theorem dX4_charge_17 : decode cX4_charge 17 = .ok (.invokestatic 84, 3) := by decide +kernel
theorem dX4_charge_20 : decode cX4_charge 20 = .ok (.ifCond .eq 7, 3) := by decide +kernel
theorem dX4_charge_23 : decode cX4_charge 23 = .ok (.iconst 0, 1) := by decide +kernel
theorem dX4_charge_24 : decode cX4_charge 24 = .ok (.goto 4, 3) := by decide +kernel
theorem dX4_charge_27 : decode cX4_charge 27 = .ok (.iconst 2, 1) := by decide +kernel
theorem dX4_charge_28 : decode cX4_charge 28 = .ok (.invokevirtual 99, 3) := by decide +kernel
theorem dX4_charge_31 : decode cX4_charge 31 = .ok (.ifCond .eq 5, 3) := by decide +kernel
theorem dX4_charge_34 : decode cX4_charge 34 = .ok (.iconst 0, 1) := by decide +kernel
theorem dX4_charge_35 : decode cX4_charge 35 = .ok (.ireturn, 1) := by decide +kernel
theorem dX4_charge_36 : decode cX4_charge 36 = .ok (.aload_n 0, 1) := by decide +kernel
theorem dX4_charge_37 : decode cX4_charge 37 = .ok (.getfield 28, 3) := by decide +kernel
theorem dX4_charge_40 : decode cX4_charge 40 = .ok (.iload_n 1, 1) := by decide +kernel
theorem dX4_charge_41 : decode cX4_charge 41 = .ok (.iaload, 1) := by decide +kernel
theorem dX4_charge_42 : decode cX4_charge 42 = .ok (.istore_n 3, 1) := by decide +kernel
theorem dX4_charge_43 : decode cX4_charge 43 = .ok (.aload_n 0, 1) := by decide +kernel
theorem dX4_charge_44 : decode cX4_charge 44 = .ok (.getfield 28, 3) := by decide +kernel
theorem dX4_charge_47 : decode cX4_charge 47 = .ok (.iload_n 1, 1) := by decide +kernel
theorem dX4_charge_48 : decode cX4_charge 48 = .ok (.iload_n 2, 1) := by decide +kernel
theorem dX4_charge_49 : decode cX4_charge 49 = .ok (.iastore, 1) := by decide +kernel
theorem dX4_charge_50 : decode cX4_charge 50 = .ok (.iload_n 3, 1) := by decide +kernel
theorem dX4_charge_51 : decode cX4_charge 51 = .ok (.ireturn, 1) := by decide +kernel
theorem dX4_setWindow_0 : decode cX4_setWindow 0 = .ok (.aload_n 0, 1) := by decide +kernel
theorem dX4_setWindow_1 : decode cX4_setWindow 1 = .ok (.aload_n 0, 1) := by decide +kernel
theorem dX4_setWindow_2 : decode cX4_setWindow 2 = .ok (.iload_n 1, 1) := by decide +kernel
theorem dX4_setWindow_3 : decode cX4_setWindow 3 = .ok (.invokevirtual 113, 3) := by decide +kernel
theorem dX4_setWindow_6 : decode cX4_setWindow 6 = .ok (.ifCond .ne 7, 3) := by decide +kernel
theorem dX4_setWindow_9 : decode cX4_setWindow 9 = .ok (.iconst 1, 1) := by decide +kernel
theorem dX4_setWindow_10 : decode cX4_setWindow 10 = .ok (.goto 28, 3) := by decide +kernel
theorem dX4_setWindow_13 : decode cX4_setWindow 13 = .ok (.iload_n 2, 1) := by decide +kernel
theorem dX4_setWindow_14 : decode cX4_setWindow 14 = .ok (.iconst 0, 1) := by decide +kernel
theorem dX4_setWindow_15 : decode cX4_setWindow 15 = .ok (.bipush 23, 2) := by decide +kernel
theorem dX4_setWindow_17 : decode cX4_setWindow 17 = .ok (.invokestatic 84, 3) := by decide +kernel
theorem dX4_setWindow_20 : decode cX4_setWindow 20 = .ok (.ifCond .eq 17, 3) := by decide +kernel
theorem dX4_setWindow_23 : decode cX4_setWindow 23 = .ok (.iload_n 3, 1) := by decide +kernel
theorem dX4_setWindow_24 : decode cX4_setWindow 24 = .ok (.iconst 0, 1) := by decide +kernel
theorem dX4_setWindow_25 : decode cX4_setWindow 25 = .ok (.bipush 23, 2) := by decide +kernel
theorem dX4_setWindow_27 : decode cX4_setWindow 27 = .ok (.invokestatic 84, 3) := by decide +kernel
theorem dX4_setWindow_30 : decode cX4_setWindow 30 = .ok (.ifCond .eq 7, 3) := by decide +kernel
theorem dX4_setWindow_33 : decode cX4_setWindow 33 = .ok (.iconst 0, 1) := by decide +kernel
theorem dX4_setWindow_34 : decode cX4_setWindow 34 = .ok (.goto 4, 3) := by decide +kernel
theorem dX4_setWindow_37 : decode cX4_setWindow 37 = .ok (.iconst 2, 1) := by decide +kernel
theorem dX4_setWindow_38 : decode cX4_setWindow 38 = .ok (.invokevirtual 99, 3) := by decide +kernel
theorem dX4_setWindow_41 : decode cX4_setWindow 41 = .ok (.ifCond .ne 17, 3) := by decide +kernel
theorem dX4_setWindow_44 : decode cX4_setWindow 44 = .ok (.aload_n 0, 1) := by decide +kernel
theorem dX4_setWindow_45 : decode cX4_setWindow 45 = .ok (.getfield 31, 3) := by decide +kernel
theorem dX4_setWindow_48 : decode cX4_setWindow 48 = .ok (.iload_n 1, 1) := by decide +kernel
theorem dX4_setWindow_49 : decode cX4_setWindow 49 = .ok (.iload_n 2, 1) := by decide +kernel
theorem dX4_setWindow_50 : decode cX4_setWindow 50 = .ok (.iastore, 1) := by decide +kernel
theorem dX4_setWindow_51 : decode cX4_setWindow 51 = .ok (.aload_n 0, 1) := by decide +kernel
theorem dX4_setWindow_52 : decode cX4_setWindow 52 = .ok (.getfield 34, 3) := by decide +kernel
theorem dX4_setWindow_55 : decode cX4_setWindow 55 = .ok (.iload_n 1, 1) := by decide +kernel
theorem dX4_setWindow_56 : decode cX4_setWindow 56 = .ok (.iload_n 3, 1) := by decide +kernel
theorem dX4_setWindow_57 : decode cX4_setWindow 57 = .ok (.iastore, 1) := by decide +kernel
theorem dX4_setWindow_58 : decode cX4_setWindow 58 = .ok (.return_, 1) := by decide +kernel
theorem dX4_judge_0 : decode cX4_judge 0 = .ok (.aload_n 0, 1) := by decide +kernel
theorem dX4_judge_1 : decode cX4_judge 1 = .ok (.getfield 55, 3) := by decide +kernel
theorem dX4_judge_4 : decode cX4_judge 4 = .ok (.iload_n 1, 1) := by decide +kernel
theorem dX4_judge_5 : decode cX4_judge 5 = .ok (.baload, 1) := by decide +kernel
theorem dX4_judge_6 : decode cX4_judge 6 = .ok (.ifCond .eq 18, 3) := by decide +kernel
theorem dX4_judge_9 : decode cX4_judge 9 = .ok (.aload_n 0, 1) := by decide +kernel
theorem dX4_judge_10 : decode cX4_judge 10 = .ok (.getfield 71, 3) := by decide +kernel
theorem dX4_judge_13 : decode cX4_judge 13 = .ok (.iload_n 1, 1) := by decide +kernel
theorem dX4_judge_14 : decode cX4_judge 14 = .ok (.iaload, 1) := by decide +kernel
theorem dX4_judge_15 : decode cX4_judge 15 = .ok (.aload_n 0, 1) := by decide +kernel
theorem dX4_judge_16 : decode cX4_judge 16 = .ok (.getfield 65, 3) := by decide +kernel
theorem dX4_judge_19 : decode cX4_judge 19 = .ok (.iload_n 1, 1) := by decide +kernel
theorem dX4_judge_20 : decode cX4_judge 20 = .ok (.iaload, 1) := by decide +kernel
theorem dX4_judge_21 : decode cX4_judge 21 = .ok (.if_icmp .ge 4, 3) := by decide +kernel
theorem dX4_judge_24 : decode cX4_judge 24 = .ok (.return_, 1) := by decide +kernel
theorem dX4_judge_25 : decode cX4_judge 25 = .ok (.aload_n 0, 1) := by decide +kernel
theorem dX4_judge_26 : decode cX4_judge 26 = .ok (.getfield 74, 3) := by decide +kernel
theorem dX4_judge_29 : decode cX4_judge 29 = .ok (.iload_n 1, 1) := by decide +kernel
theorem dX4_judge_30 : decode cX4_judge 30 = .ok (.iaload, 1) := by decide +kernel
theorem dX4_judge_31 : decode cX4_judge 31 = .ok (.sipush 1000, 3) := by decide +kernel
theorem dX4_judge_34 : decode cX4_judge 34 = .ok (.imul, 1) := by decide +kernel
theorem dX4_judge_35 : decode cX4_judge 35 = .ok (.aload_n 0, 1) := by decide +kernel
theorem dX4_judge_36 : decode cX4_judge 36 = .ok (.getfield 71, 3) := by decide +kernel
theorem dX4_judge_39 : decode cX4_judge 39 = .ok (.iload_n 1, 1) := by decide +kernel
theorem dX4_judge_40 : decode cX4_judge 40 = .ok (.iaload, 1) := by decide +kernel
theorem dX4_judge_41 : decode cX4_judge 41 = .ok (.aload_n 0, 1) := by decide +kernel
theorem dX4_judge_42 : decode cX4_judge 42 = .ok (.getfield 68, 3) := by decide +kernel
theorem dX4_judge_45 : decode cX4_judge 45 = .ok (.iload_n 1, 1) := by decide +kernel
theorem dX4_judge_46 : decode cX4_judge 46 = .ok (.iaload, 1) := by decide +kernel
theorem dX4_judge_47 : decode cX4_judge 47 = .ok (.imul, 1) := by decide +kernel
theorem dX4_judge_48 : decode cX4_judge 48 = .ok (.if_icmp .le 13, 3) := by decide +kernel
theorem dX4_judge_51 : decode cX4_judge 51 = .ok (.aload_n 0, 1) := by decide +kernel
theorem dX4_judge_52 : decode cX4_judge 52 = .ok (.getfield 55, 3) := by decide +kernel
theorem dX4_judge_55 : decode cX4_judge 55 = .ok (.iload_n 1, 1) := by decide +kernel
theorem dX4_judge_56 : decode cX4_judge 56 = .ok (.iconst 0, 1) := by decide +kernel
theorem dX4_judge_57 : decode cX4_judge 57 = .ok (.bastore, 1) := by decide +kernel
theorem dX4_judge_58 : decode cX4_judge 58 = .ok (.goto 37, 3) := by decide +kernel
theorem dX4_judge_61 : decode cX4_judge 61 = .ok (.aload_n 0, 1) := by decide +kernel
theorem dX4_judge_62 : decode cX4_judge 62 = .ok (.getfield 59, 3) := by decide +kernel
theorem dX4_judge_65 : decode cX4_judge 65 = .ok (.iload_n 1, 1) := by decide +kernel
theorem dX4_judge_66 : decode cX4_judge 66 = .ok (.iaload, 1) := by decide +kernel
theorem dX4_judge_67 : decode cX4_judge 67 = .ok (.iconst 2, 1) := by decide +kernel
theorem dX4_judge_68 : decode cX4_judge 68 = .ok (.if_icmp .ge 27, 3) := by decide +kernel
theorem dX4_judge_71 : decode cX4_judge 71 = .ok (.aload_n 0, 1) := by decide +kernel
theorem dX4_judge_72 : decode cX4_judge 72 = .ok (.getfield 59, 3) := by decide +kernel
theorem dX4_judge_75 : decode cX4_judge 75 = .ok (.iload_n 1, 1) := by decide +kernel
theorem dX4_judge_76 : decode cX4_judge 76 = .ok (.dup2, 1) := by decide +kernel
theorem dX4_judge_77 : decode cX4_judge 77 = .ok (.iaload, 1) := by decide +kernel
theorem dX4_judge_78 : decode cX4_judge 78 = .ok (.iconst 1, 1) := by decide +kernel
theorem dX4_judge_79 : decode cX4_judge 79 = .ok (.iadd, 1) := by decide +kernel
theorem dX4_judge_80 : decode cX4_judge 80 = .ok (.iastore, 1) := by decide +kernel
theorem dX4_judge_81 : decode cX4_judge 81 = .ok (.aload_n 0, 1) := by decide +kernel
theorem dX4_judge_82 : decode cX4_judge 82 = .ok (.getfield 71, 3) := by decide +kernel
theorem dX4_judge_85 : decode cX4_judge 85 = .ok (.iload_n 1, 1) := by decide +kernel
theorem dX4_judge_86 : decode cX4_judge 86 = .ok (.iconst 0, 1) := by decide +kernel
theorem dX4_judge_87 : decode cX4_judge 87 = .ok (.iastore, 1) := by decide +kernel
theorem dX4_judge_88 : decode cX4_judge 88 = .ok (.aload_n 0, 1) := by decide +kernel
theorem dX4_judge_89 : decode cX4_judge 89 = .ok (.getfield 74, 3) := by decide +kernel
theorem dX4_judge_92 : decode cX4_judge 92 = .ok (.iload_n 1, 1) := by decide +kernel
theorem dX4_judge_93 : decode cX4_judge 93 = .ok (.iconst 0, 1) := by decide +kernel
theorem dX4_judge_94 : decode cX4_judge 94 = .ok (.iastore, 1) := by decide +kernel
theorem dX4_judge_95 : decode cX4_judge 95 = .ok (.return_, 1) := by decide +kernel
theorem dX4_report_0 : decode cX4_report 0 = .ok (.aload_n 0, 1) := by decide +kernel
theorem dX4_report_1 : decode cX4_report 1 = .ok (.aload_n 0, 1) := by decide +kernel
theorem dX4_report_2 : decode cX4_report 2 = .ok (.iload_n 1, 1) := by decide +kernel
theorem dX4_report_3 : decode cX4_report 3 = .ok (.invokevirtual 113, 3) := by decide +kernel
theorem dX4_report_6 : decode cX4_report 6 = .ok (.ifCond .ne 7, 3) := by decide +kernel
theorem dX4_report_9 : decode cX4_report 9 = .ok (.iconst 1, 1) := by decide +kernel
theorem dX4_report_10 : decode cX4_report 10 = .ok (.goto 18, 3) := by decide +kernel
theorem dX4_report_13 : decode cX4_report 13 = .ok (.aload_n 0, 1) := by decide +kernel
theorem dX4_report_14 : decode cX4_report 14 = .ok (.getfield 37, 3) := by decide +kernel
theorem dX4_report_17 : decode cX4_report 17 = .ok (.iload_n 1, 1) := by decide +kernel
theorem dX4_report_18 : decode cX4_report 18 = .ok (.iaload, 1) := by decide +kernel
theorem dX4_report_19 : decode cX4_report 19 = .ok (.iconst 2, 1) := by decide +kernel
theorem dX4_report_20 : decode cX4_report 20 = .ok (.if_icmp .ne 7, 3) := by decide +kernel
theorem dX4_report_23 : decode cX4_report 23 = .ok (.iconst 0, 1) := by decide +kernel
theorem dX4_report_24 : decode cX4_report 24 = .ok (.goto 4, 3) := by decide +kernel
theorem dX4_report_27 : decode cX4_report 27 = .ok (.iconst 2, 1) := by decide +kernel
theorem dX4_report_28 : decode cX4_report 28 = .ok (.invokevirtual 99, 3) := by decide +kernel
theorem dX4_report_31 : decode cX4_report 31 = .ok (.ifCond .eq 5, 3) := by decide +kernel
theorem dX4_report_34 : decode cX4_report 34 = .ok (.iconst 0, 1) := by decide +kernel
theorem dX4_report_35 : decode cX4_report 35 = .ok (.ireturn, 1) := by decide +kernel
theorem dX4_report_36 : decode cX4_report 36 = .ok (.aload_n 0, 1) := by decide +kernel
theorem dX4_report_37 : decode cX4_report 37 = .ok (.getfield 40, 3) := by decide +kernel
theorem dX4_report_40 : decode cX4_report 40 = .ok (.iload_n 1, 1) := by decide +kernel
theorem dX4_report_41 : decode cX4_report 41 = .ok (.iaload, 1) := by decide +kernel
theorem dX4_report_42 : decode cX4_report 42 = .ok (.istore_n 3, 1) := by decide +kernel
theorem dX4_report_43 : decode cX4_report 43 = .ok (.aload_n 0, 1) := by decide +kernel
theorem dX4_report_44 : decode cX4_report 44 = .ok (.getfield 25, 3) := by decide +kernel
theorem dX4_report_47 : decode cX4_report 47 = .ok (.iload_n 1, 1) := by decide +kernel
theorem dX4_report_48 : decode cX4_report 48 = .ok (.iload_n 2, 1) := by decide +kernel
theorem dX4_report_49 : decode cX4_report 49 = .ok (.ifCond .eq 12, 3) := by decide +kernel
theorem dX4_report_52 : decode cX4_report 52 = .ok (.aload_n 0, 1) := by decide +kernel
theorem dX4_report_53 : decode cX4_report 53 = .ok (.getfield 46, 3) := by decide +kernel
theorem dX4_report_56 : decode cX4_report 56 = .ok (.iload_n 3, 1) := by decide +kernel
theorem dX4_report_57 : decode cX4_report 57 = .ok (.iaload, 1) := by decide +kernel
theorem dX4_report_58 : decode cX4_report 58 = .ok (.goto 9, 3) := by decide +kernel
theorem dX4_report_61 : decode cX4_report 61 = .ok (.aload_n 0, 1) := by decide +kernel
theorem dX4_report_62 : decode cX4_report 62 = .ok (.getfield 25, 3) := by decide +kernel
theorem dX4_report_65 : decode cX4_report 65 = .ok (.iload_n 1, 1) := by decide +kernel
theorem dX4_report_66 : decode cX4_report 66 = .ok (.iaload, 1) := by decide +kernel
theorem dX4_report_67 : decode cX4_report 67 = .ok (.iastore, 1) := by decide +kernel
theorem dX4_report_68 : decode cX4_report 68 = .ok (.aload_n 0, 1) := by decide +kernel
theorem dX4_report_69 : decode cX4_report 69 = .ok (.getfield 37, 3) := by decide +kernel
theorem dX4_report_72 : decode cX4_report 72 = .ok (.iload_n 1, 1) := by decide +kernel
theorem dX4_report_73 : decode cX4_report 73 = .ok (.iconst 0, 1) := by decide +kernel
theorem dX4_report_74 : decode cX4_report 74 = .ok (.iastore, 1) := by decide +kernel
theorem dX4_report_75 : decode cX4_report 75 = .ok (.aload_n 0, 1) := by decide +kernel
theorem dX4_report_76 : decode cX4_report 76 = .ok (.getfield 40, 3) := by decide +kernel
theorem dX4_report_79 : decode cX4_report 79 = .ok (.iload_n 1, 1) := by decide +kernel
theorem dX4_report_80 : decode cX4_report 80 = .ok (.iconst (-1), 1) := by decide +kernel
theorem dX4_report_81 : decode cX4_report 81 = .ok (.iastore, 1) := by decide +kernel
theorem dX4_report_82 : decode cX4_report 82 = .ok (.aload_n 0, 1) := by decide +kernel
theorem dX4_report_83 : decode cX4_report 83 = .ok (.getfield 77, 3) := by decide +kernel
theorem dX4_report_86 : decode cX4_report 86 = .ok (.iload_n 3, 1) := by decide +kernel
theorem dX4_report_87 : decode cX4_report 87 = .ok (.dup2, 1) := by decide +kernel
theorem dX4_report_88 : decode cX4_report 88 = .ok (.iaload, 1) := by decide +kernel
theorem dX4_report_89 : decode cX4_report 89 = .ok (.iconst 1, 1) := by decide +kernel
theorem dX4_report_90 : decode cX4_report 90 = .ok (.iload_n 1, 1) := by decide +kernel
theorem dX4_report_91 : decode cX4_report 91 = .ok (.ishl, 1) := by decide +kernel
theorem dX4_report_92 : decode cX4_report 92 = .ok (.ior, 1) := by decide +kernel
theorem dX4_report_93 : decode cX4_report 93 = .ok (.iastore, 1) := by decide +kernel
theorem dX4_report_94 : decode cX4_report 94 = .ok (.aload_n 0, 1) := by decide +kernel
theorem dX4_report_95 : decode cX4_report 95 = .ok (.getfield 71, 3) := by decide +kernel
theorem dX4_report_98 : decode cX4_report 98 = .ok (.iload_n 3, 1) := by decide +kernel
theorem dX4_report_99 : decode cX4_report 99 = .ok (.dup2, 1) := by decide +kernel
theorem dX4_report_100 : decode cX4_report 100 = .ok (.iaload, 1) := by decide +kernel
theorem dX4_report_101 : decode cX4_report 101 = .ok (.iconst 1, 1) := by decide +kernel
theorem dX4_report_102 : decode cX4_report 102 = .ok (.iadd, 1) := by decide +kernel
theorem dX4_report_103 : decode cX4_report 103 = .ok (.iastore, 1) := by decide +kernel
theorem dX4_report_104 : decode cX4_report 104 = .ok (.aload_n 0, 1) := by decide +kernel
theorem dX4_report_105 : decode cX4_report 105 = .ok (.getfield 74, 3) := by decide +kernel
theorem dX4_report_108 : decode cX4_report 108 = .ok (.iload_n 3, 1) := by decide +kernel
theorem dX4_report_109 : decode cX4_report 109 = .ok (.dup2, 1) := by decide +kernel
theorem dX4_report_110 : decode cX4_report 110 = .ok (.iaload, 1) := by decide +kernel
theorem dX4_report_111 : decode cX4_report 111 = .ok (.iload_n 2, 1) := by decide +kernel
theorem dX4_report_112 : decode cX4_report 112 = .ok (.ifCond .eq 7, 3) := by decide +kernel
theorem dX4_report_115 : decode cX4_report 115 = .ok (.iconst 0, 1) := by decide +kernel
theorem dX4_report_116 : decode cX4_report 116 = .ok (.goto 4, 3) := by decide +kernel
theorem dX4_report_119 : decode cX4_report 119 = .ok (.iconst 1, 1) := by decide +kernel
theorem dX4_report_120 : decode cX4_report 120 = .ok (.iadd, 1) := by decide +kernel
theorem dX4_report_121 : decode cX4_report 121 = .ok (.iastore, 1) := by decide +kernel
theorem dX4_report_122 : decode cX4_report 122 = .ok (.aload_n 0, 1) := by decide +kernel
theorem dX4_report_123 : decode cX4_report 123 = .ok (.iload_n 3, 1) := by decide +kernel
theorem dX4_report_124 : decode cX4_report 124 = .ok (.invokevirtual 116, 3) := by decide +kernel
theorem dX4_report_127 : decode cX4_report 127 = .ok (.aload_n 0, 1) := by decide +kernel
theorem dX4_report_128 : decode cX4_report 128 = .ok (.getfield 25, 3) := by decide +kernel
theorem dX4_report_131 : decode cX4_report 131 = .ok (.iload_n 1, 1) := by decide +kernel
theorem dX4_report_132 : decode cX4_report 132 = .ok (.iaload, 1) := by decide +kernel
theorem dX4_report_133 : decode cX4_report 133 = .ok (.ireturn, 1) := by decide +kernel
theorem dX4_devices_0 : decode cX4_devices 0 = .ok (.aload_n 0, 1) := by decide +kernel
theorem dX4_devices_1 : decode cX4_devices 1 = .ok (.aload_n 0, 1) := by decide +kernel
theorem dX4_devices_2 : decode cX4_devices 2 = .ok (.getfield 89, 3) := by decide +kernel
theorem dX4_devices_5 : decode cX4_devices 5 = .ok (.invokevirtual 120, 3) := by decide +kernel
theorem dX4_devices_8 : decode cX4_devices 8 = .ok (.ireturn, 1) := by decide +kernel
theorem dX4_noDevice_0 : decode cX4_noDevice 0 = .ok (.aload_n 0, 1) := by decide +kernel
theorem dX4_noDevice_1 : decode cX4_noDevice 1 = .ok (.aload_n 0, 1) := by decide +kernel
theorem dX4_noDevice_2 : decode cX4_noDevice 2 = .ok (.iload_n 1, 1) := by decide +kernel
theorem dX4_noDevice_3 : decode cX4_noDevice 3 = .ok (.invokevirtual 113, 3) := by decide +kernel
theorem dX4_noDevice_6 : decode cX4_noDevice 6 = .ok (.ifCond .eq 7, 3) := by decide +kernel
theorem dX4_noDevice_9 : decode cX4_noDevice 9 = .ok (.iconst 0, 1) := by decide +kernel
theorem dX4_noDevice_10 : decode cX4_noDevice 10 = .ok (.goto 4, 3) := by decide +kernel
theorem dX4_noDevice_13 : decode cX4_noDevice 13 = .ok (.iconst 1, 1) := by decide +kernel
theorem dX4_noDevice_14 : decode cX4_noDevice 14 = .ok (.invokevirtual 99, 3) := by decide +kernel
theorem dX4_noDevice_17 : decode cX4_noDevice 17 = .ok (.ireturn, 1) := by decide +kernel
theorem dX4_state_0 : decode cX4_state 0 = .ok (.aload_n 0, 1) := by decide +kernel
theorem dX4_state_1 : decode cX4_state 1 = .ok (.iload_n 1, 1) := by decide +kernel
theorem dX4_state_2 : decode cX4_state 2 = .ok (.invokevirtual 124, 3) := by decide +kernel
theorem dX4_state_5 : decode cX4_state 5 = .ok (.ifCond .eq 7, 3) := by decide +kernel
theorem dX4_state_8 : decode cX4_state 8 = .ok (.iconst 0, 1) := by decide +kernel
theorem dX4_state_9 : decode cX4_state 9 = .ok (.goto 9, 3) := by decide +kernel
theorem dX4_state_12 : decode cX4_state 12 = .ok (.aload_n 0, 1) := by decide +kernel
theorem dX4_state_13 : decode cX4_state 13 = .ok (.getfield 37, 3) := by decide +kernel
theorem dX4_state_16 : decode cX4_state 16 = .ok (.iload_n 1, 1) := by decide +kernel
theorem dX4_state_17 : decode cX4_state 17 = .ok (.iaload, 1) := by decide +kernel
theorem dX4_state_18 : decode cX4_state 18 = .ok (.ireturn, 1) := by decide +kernel
theorem dX4_version_0 : decode cX4_version 0 = .ok (.aload_n 0, 1) := by decide +kernel
theorem dX4_version_1 : decode cX4_version 1 = .ok (.iload_n 1, 1) := by decide +kernel
theorem dX4_version_2 : decode cX4_version 2 = .ok (.invokevirtual 124, 3) := by decide +kernel
theorem dX4_version_5 : decode cX4_version 5 = .ok (.ifCond .eq 7, 3) := by decide +kernel
theorem dX4_version_8 : decode cX4_version 8 = .ok (.iconst 0, 1) := by decide +kernel
theorem dX4_version_9 : decode cX4_version 9 = .ok (.goto 9, 3) := by decide +kernel
theorem dX4_version_12 : decode cX4_version 12 = .ok (.aload_n 0, 1) := by decide +kernel
theorem dX4_version_13 : decode cX4_version 13 = .ok (.getfield 25, 3) := by decide +kernel
theorem dX4_version_16 : decode cX4_version 16 = .ok (.iload_n 1, 1) := by decide +kernel
theorem dX4_version_17 : decode cX4_version 17 = .ok (.iaload, 1) := by decide +kernel
theorem dX4_version_18 : decode cX4_version 18 = .ok (.ireturn, 1) := by decide +kernel
theorem dX4_campaignOf_0 : decode cX4_campaignOf 0 = .ok (.aload_n 0, 1) := by decide +kernel
theorem dX4_campaignOf_1 : decode cX4_campaignOf 1 = .ok (.iload_n 1, 1) := by decide +kernel
theorem dX4_campaignOf_2 : decode cX4_campaignOf 2 = .ok (.invokevirtual 124, 3) := by decide +kernel
theorem dX4_campaignOf_5 : decode cX4_campaignOf 5 = .ok (.ifCond .eq 7, 3) := by decide +kernel
theorem dX4_campaignOf_8 : decode cX4_campaignOf 8 = .ok (.iconst 0, 1) := by decide +kernel
theorem dX4_campaignOf_9 : decode cX4_campaignOf 9 = .ok (.goto 9, 3) := by decide +kernel
theorem dX4_campaignOf_12 : decode cX4_campaignOf 12 = .ok (.aload_n 0, 1) := by decide +kernel
theorem dX4_campaignOf_13 : decode cX4_campaignOf 13 = .ok (.getfield 40, 3) := by decide +kernel
theorem dX4_campaignOf_16 : decode cX4_campaignOf 16 = .ok (.iload_n 1, 1) := by decide +kernel
theorem dX4_campaignOf_17 : decode cX4_campaignOf 17 = .ok (.iaload, 1) := by decide +kernel
theorem dX4_campaignOf_18 : decode cX4_campaignOf 18 = .ok (.ireturn, 1) := by decide +kernel
theorem dX4_toGo_0 : decode cX4_toGo 0 = .ok (.aload_n 0, 1) := by decide +kernel
theorem dX4_toGo_1 : decode cX4_toGo 1 = .ok (.iload_n 1, 1) := by decide +kernel
theorem dX4_toGo_2 : decode cX4_toGo 2 = .ok (.invokevirtual 124, 3) := by decide +kernel
theorem dX4_toGo_5 : decode cX4_toGo 5 = .ok (.ifCond .eq 7, 3) := by decide +kernel
theorem dX4_toGo_8 : decode cX4_toGo 8 = .ok (.iconst 0, 1) := by decide +kernel
theorem dX4_toGo_9 : decode cX4_toGo 9 = .ok (.goto 9, 3) := by decide +kernel
theorem dX4_toGo_12 : decode cX4_toGo 12 = .ok (.aload_n 0, 1) := by decide +kernel
theorem dX4_toGo_13 : decode cX4_toGo 13 = .ok (.getfield 43, 3) := by decide +kernel
theorem dX4_toGo_16 : decode cX4_toGo 16 = .ok (.iload_n 1, 1) := by decide +kernel
theorem dX4_toGo_17 : decode cX4_toGo 17 = .ok (.iaload, 1) := by decide +kernel
theorem dX4_toGo_18 : decode cX4_toGo 18 = .ok (.ireturn, 1) := by decide +kernel
theorem dX4_battery_0 : decode cX4_battery 0 = .ok (.aload_n 0, 1) := by decide +kernel
theorem dX4_battery_1 : decode cX4_battery 1 = .ok (.iload_n 1, 1) := by decide +kernel
theorem dX4_battery_2 : decode cX4_battery 2 = .ok (.invokevirtual 124, 3) := by decide +kernel
theorem dX4_battery_5 : decode cX4_battery 5 = .ok (.ifCond .eq 7, 3) := by decide +kernel
theorem dX4_battery_8 : decode cX4_battery 8 = .ok (.iconst 0, 1) := by decide +kernel
theorem dX4_battery_9 : decode cX4_battery 9 = .ok (.goto 9, 3) := by decide +kernel
theorem dX4_battery_12 : decode cX4_battery 12 = .ok (.aload_n 0, 1) := by decide +kernel
theorem dX4_battery_13 : decode cX4_battery 13 = .ok (.getfield 28, 3) := by decide +kernel
theorem dX4_battery_16 : decode cX4_battery 16 = .ok (.iload_n 1, 1) := by decide +kernel
theorem dX4_battery_17 : decode cX4_battery 17 = .ok (.iaload, 1) := by decide +kernel
theorem dX4_battery_18 : decode cX4_battery 18 = .ok (.ireturn, 1) := by decide +kernel
theorem dX4_begin_0 : decode cX4_begin 0 = .ok (.iload_n 1, 1) := by decide +kernel
theorem dX4_begin_1 : decode cX4_begin 1 = .ok (.invokestatic 95, 3) := by decide +kernel
theorem dX4_begin_4 : decode cX4_begin 4 = .ok (.ifCond .eq 22, 3) := by decide +kernel
theorem dX4_begin_7 : decode cX4_begin 7 = .ok (.iload 4, 2) := by decide +kernel
theorem dX4_begin_9 : decode cX4_begin 9 = .ok (.iconst (-1), 1) := by decide +kernel
theorem dX4_begin_10 : decode cX4_begin 10 = .ok (.if_icmp .eq 12, 3) := by decide +kernel
theorem dX4_begin_13 : decode cX4_begin 13 = .ok (.aload_n 0, 1) := by decide +kernel
theorem dX4_begin_14 : decode cX4_begin 14 = .ok (.iload 4, 2) := by decide +kernel
theorem dX4_begin_16 : decode cX4_begin 16 = .ok (.invokevirtual 127, 3) := by decide +kernel
theorem dX4_begin_19 : decode cX4_begin 19 = .ok (.ifCond .eq 7, 3) := by decide +kernel
theorem dX4_begin_22 : decode cX4_begin 22 = .ok (.iconst 1, 1) := by decide +kernel
theorem dX4_begin_23 : decode cX4_begin 23 = .ok (.goto 4, 3) := by decide +kernel
theorem dX4_begin_26 : decode cX4_begin 26 = .ok (.iconst 0, 1) := by decide +kernel
theorem dX4_begin_27 : decode cX4_begin 27 = .ok (.istore 5, 2) := by decide +kernel
theorem dX4_begin_29 : decode cX4_begin 29 = .ok (.iload_n 2, 1) := by decide +kernel
theorem dX4_begin_30 : decode cX4_begin 30 = .ok (.iconst 0, 1) := by decide +kernel
theorem dX4_begin_31 : decode cX4_begin 31 = .ok (.bipush 15, 2) := by decide +kernel
theorem dX4_begin_33 : decode cX4_begin 33 = .ok (.invokestatic 84, 3) := by decide +kernel
theorem dX4_begin_36 : decode cX4_begin 36 = .ok (.ifCond .eq 18, 3) := by decide +kernel
theorem dX4_begin_39 : decode cX4_begin 39 = .ok (.iload_n 3, 1) := by decide +kernel
theorem dX4_begin_40 : decode cX4_begin 40 = .ok (.iconst 0, 1) := by decide +kernel
theorem dX4_begin_41 : decode cX4_begin 41 = .ok (.sipush 255, 3) := by decide +kernel
theorem dX4_begin_44 : decode cX4_begin 44 = .ok (.invokestatic 84, 3) := by decide +kernel
theorem dX4_begin_47 : decode cX4_begin 47 = .ok (.ifCond .eq 7, 3) := by decide +kernel
theorem dX4_begin_50 : decode cX4_begin 50 = .ok (.iconst 1, 1) := by decide +kernel
theorem dX4_begin_51 : decode cX4_begin 51 = .ok (.goto 4, 3) := by decide +kernel
theorem dX4_begin_54 : decode cX4_begin 54 = .ok (.iconst 0, 1) := by decide +kernel
theorem dX4_begin_55 : decode cX4_begin 55 = .ok (.istore 6, 2) := by decide +kernel
theorem dX4_begin_57 : decode cX4_begin 57 = .ok (.aload_n 0, 1) := by decide +kernel
theorem dX4_begin_58 : decode cX4_begin 58 = .ok (.iload 5, 2) := by decide +kernel
theorem dX4_begin_60 : decode cX4_begin 60 = .ok (.ifCond .ne 7, 3) := by decide +kernel
theorem dX4_begin_63 : decode cX4_begin 63 = .ok (.iconst 1, 1) := by decide +kernel
theorem dX4_begin_64 : decode cX4_begin 64 = .ok (.goto 26, 3) := by decide +kernel
theorem dX4_begin_67 : decode cX4_begin 67 = .ok (.iload 6, 2) := by decide +kernel
theorem dX4_begin_69 : decode cX4_begin 69 = .ok (.ifCond .ne 7, 3) := by decide +kernel
theorem dX4_begin_72 : decode cX4_begin 72 = .ok (.iconst 2, 1) := by decide +kernel
theorem dX4_begin_73 : decode cX4_begin 73 = .ok (.goto 17, 3) := by decide +kernel
theorem dX4_begin_76 : decode cX4_begin 76 = .ok (.aload_n 0, 1) := by decide +kernel
theorem dX4_begin_77 : decode cX4_begin 77 = .ok (.getfield 92, 3) := by decide +kernel
theorem dX4_begin_80 : decode cX4_begin 80 = .ok (.bipush 6, 2) := by decide +kernel
theorem dX4_begin_82 : decode cX4_begin 82 = .ok (.if_icmp .ne 7, 3) := by decide +kernel
theorem dX4_begin_85 : decode cX4_begin 85 = .ok (.iconst 3, 1) := by decide +kernel
theorem dX4_begin_86 : decode cX4_begin 86 = .ok (.goto 4, 3) := by decide +kernel
theorem dX4_begin_89 : decode cX4_begin 89 = .ok (.iconst 0, 1) := by decide +kernel
theorem dX4_begin_90 : decode cX4_begin 90 = .ok (.invokevirtual 99, 3) := by decide +kernel
theorem dX4_begin_93 : decode cX4_begin 93 = .ok (.ifCond .eq 5, 3) := by decide +kernel
theorem dX4_begin_96 : decode cX4_begin 96 = .ok (.iconst 0, 1) := by decide +kernel
theorem dX4_begin_97 : decode cX4_begin 97 = .ok (.ireturn, 1) := by decide +kernel
theorem dX4_begin_98 : decode cX4_begin 98 = .ok (.iload 4, 2) := by decide +kernel
theorem dX4_begin_100 : decode cX4_begin 100 = .ok (.iconst (-1), 1) := by decide +kernel
theorem dX4_begin_101 : decode cX4_begin 101 = .ok (.if_icmp .eq 11, 3) := by decide +kernel
theorem dX4_begin_104 : decode cX4_begin 104 = .ok (.aload_n 0, 1) := by decide +kernel
theorem dX4_begin_105 : decode cX4_begin 105 = .ok (.getfield 55, 3) := by decide +kernel
theorem dX4_begin_108 : decode cX4_begin 108 = .ok (.iload 4, 2) := by decide +kernel
theorem dX4_begin_110 : decode cX4_begin 110 = .ok (.iconst 0, 1) := by decide +kernel
theorem dX4_begin_111 : decode cX4_begin 111 = .ok (.bastore, 1) := by decide +kernel
theorem dX4_begin_112 : decode cX4_begin 112 = .ok (.aload_n 0, 1) := by decide +kernel
theorem dX4_begin_113 : decode cX4_begin 113 = .ok (.getfield 46, 3) := by decide +kernel
theorem dX4_begin_116 : decode cX4_begin 116 = .ok (.aload_n 0, 1) := by decide +kernel
theorem dX4_begin_117 : decode cX4_begin 117 = .ok (.getfield 92, 3) := by decide +kernel
theorem dX4_begin_120 : decode cX4_begin 120 = .ok (.iload_n 1, 1) := by decide +kernel
theorem dX4_begin_121 : decode cX4_begin 121 = .ok (.iastore, 1) := by decide +kernel
theorem dX4_begin_122 : decode cX4_begin 122 = .ok (.aload_n 0, 1) := by decide +kernel
theorem dX4_begin_123 : decode cX4_begin 123 = .ok (.getfield 49, 3) := by decide +kernel
theorem dX4_begin_126 : decode cX4_begin 126 = .ok (.aload_n 0, 1) := by decide +kernel
theorem dX4_begin_127 : decode cX4_begin 127 = .ok (.getfield 92, 3) := by decide +kernel
theorem dX4_begin_130 : decode cX4_begin 130 = .ok (.iload_n 2, 1) := by decide +kernel
theorem dX4_begin_131 : decode cX4_begin 131 = .ok (.iastore, 1) := by decide +kernel
theorem dX4_begin_132 : decode cX4_begin 132 = .ok (.aload_n 0, 1) := by decide +kernel
theorem dX4_begin_133 : decode cX4_begin 133 = .ok (.getfield 52, 3) := by decide +kernel
theorem dX4_begin_136 : decode cX4_begin 136 = .ok (.aload_n 0, 1) := by decide +kernel
theorem dX4_begin_137 : decode cX4_begin 137 = .ok (.getfield 92, 3) := by decide +kernel
theorem dX4_begin_140 : decode cX4_begin 140 = .ok (.iload_n 3, 1) := by decide +kernel
theorem dX4_begin_141 : decode cX4_begin 141 = .ok (.iastore, 1) := by decide +kernel
theorem dX4_begin_142 : decode cX4_begin 142 = .ok (.aload_n 0, 1) := by decide +kernel
theorem dX4_begin_143 : decode cX4_begin 143 = .ok (.getfield 55, 3) := by decide +kernel
theorem dX4_begin_146 : decode cX4_begin 146 = .ok (.aload_n 0, 1) := by decide +kernel
theorem dX4_begin_147 : decode cX4_begin 147 = .ok (.getfield 92, 3) := by decide +kernel
theorem dX4_begin_150 : decode cX4_begin 150 = .ok (.iconst 1, 1) := by decide +kernel
theorem dX4_begin_151 : decode cX4_begin 151 = .ok (.bastore, 1) := by decide +kernel
theorem dX4_begin_152 : decode cX4_begin 152 = .ok (.aload_n 0, 1) := by decide +kernel
theorem dX4_begin_153 : decode cX4_begin 153 = .ok (.getfield 62, 3) := by decide +kernel
theorem dX4_begin_156 : decode cX4_begin 156 = .ok (.iconst 3, 1) := by decide +kernel
theorem dX4_begin_157 : decode cX4_begin 157 = .ok (.aload_n 0, 1) := by decide +kernel
theorem dX4_begin_158 : decode cX4_begin 158 = .ok (.getfield 92, 3) := by decide +kernel
theorem dX4_begin_161 : decode cX4_begin 161 = .ok (.imul, 1) := by decide +kernel
theorem dX4_begin_162 : decode cX4_begin 162 = .ok (.bipush 10, 2) := by decide +kernel
theorem dX4_begin_164 : decode cX4_begin 164 = .ok (.iastore, 1) := by decide +kernel
theorem dX4_begin_165 : decode cX4_begin 165 = .ok (.aload_n 0, 1) := by decide +kernel
theorem dX4_begin_166 : decode cX4_begin 166 = .ok (.getfield 62, 3) := by decide +kernel
theorem dX4_begin_169 : decode cX4_begin 169 = .ok (.iconst 3, 1) := by decide +kernel
theorem dX4_begin_170 : decode cX4_begin 170 = .ok (.aload_n 0, 1) := by decide +kernel
theorem dX4_begin_171 : decode cX4_begin 171 = .ok (.getfield 92, 3) := by decide +kernel
theorem dX4_begin_174 : decode cX4_begin 174 = .ok (.imul, 1) := by decide +kernel
theorem dX4_begin_175 : decode cX4_begin 175 = .ok (.iconst 1, 1) := by decide +kernel
theorem dX4_begin_176 : decode cX4_begin 176 = .ok (.iadd, 1) := by decide +kernel
theorem dX4_begin_177 : decode cX4_begin 177 = .ok (.bipush 50, 2) := by decide +kernel
theorem dX4_begin_179 : decode cX4_begin 179 = .ok (.iastore, 1) := by decide +kernel
theorem dX4_begin_180 : decode cX4_begin 180 = .ok (.aload_n 0, 1) := by decide +kernel
theorem dX4_begin_181 : decode cX4_begin 181 = .ok (.getfield 62, 3) := by decide +kernel
theorem dX4_begin_184 : decode cX4_begin 184 = .ok (.iconst 3, 1) := by decide +kernel
theorem dX4_begin_185 : decode cX4_begin 185 = .ok (.aload_n 0, 1) := by decide +kernel
theorem dX4_begin_186 : decode cX4_begin 186 = .ok (.getfield 92, 3) := by decide +kernel
theorem dX4_begin_189 : decode cX4_begin 189 = .ok (.imul, 1) := by decide +kernel
theorem dX4_begin_190 : decode cX4_begin 190 = .ok (.iconst 2, 1) := by decide +kernel
theorem dX4_begin_191 : decode cX4_begin 191 = .ok (.iadd, 1) := by decide +kernel
theorem dX4_begin_192 : decode cX4_begin 192 = .ok (.bipush 100, 2) := by decide +kernel
theorem dX4_begin_194 : decode cX4_begin 194 = .ok (.iastore, 1) := by decide +kernel
theorem dX4_begin_195 : decode cX4_begin 195 = .ok (.aload_n 0, 1) := by decide +kernel
theorem dX4_begin_196 : decode cX4_begin 196 = .ok (.getfield 65, 3) := by decide +kernel
theorem dX4_begin_199 : decode cX4_begin 199 = .ok (.aload_n 0, 1) := by decide +kernel
theorem dX4_begin_200 : decode cX4_begin 200 = .ok (.getfield 92, 3) := by decide +kernel
theorem dX4_begin_203 : decode cX4_begin 203 = .ok (.iconst 3, 1) := by decide +kernel
theorem dX4_begin_204 : decode cX4_begin 204 = .ok (.iastore, 1) := by decide +kernel
theorem dX4_begin_205 : decode cX4_begin 205 = .ok (.aload_n 0, 1) := by decide +kernel
theorem dX4_begin_206 : decode cX4_begin 206 = .ok (.getfield 68, 3) := by decide +kernel
theorem dX4_begin_209 : decode cX4_begin 209 = .ok (.aload_n 0, 1) := by decide +kernel
theorem dX4_begin_210 : decode cX4_begin 210 = .ok (.getfield 92, 3) := by decide +kernel
theorem dX4_begin_213 : decode cX4_begin 213 = .ok (.sipush 200, 3) := by decide +kernel
theorem dX4_begin_216 : decode cX4_begin 216 = .ok (.iastore, 1) := by decide +kernel
theorem dX4_begin_217 : decode cX4_begin 217 = .ok (.aload_n 0, 1) := by decide +kernel
theorem dX4_begin_218 : decode cX4_begin 218 = .ok (.dup, 1) := by decide +kernel
theorem dX4_begin_219 : decode cX4_begin 219 = .ok (.getfield 92, 3) := by decide +kernel
theorem dX4_begin_222 : decode cX4_begin 222 = .ok (.iconst 1, 1) := by decide +kernel
theorem dX4_begin_223 : decode cX4_begin 223 = .ok (.iadd, 1) := by decide +kernel
theorem dX4_begin_224 : decode cX4_begin 224 = .ok (.putfield 92, 3) := by decide +kernel
theorem dX4_begin_227 : decode cX4_begin 227 = .ok (.aload_n 0, 1) := by decide +kernel
theorem dX4_begin_228 : decode cX4_begin 228 = .ok (.getfield 92, 3) := by decide +kernel
theorem dX4_begin_231 : decode cX4_begin 231 = .ok (.iconst 1, 1) := by decide +kernel
theorem dX4_begin_232 : decode cX4_begin 232 = .ok (.isub, 1) := by decide +kernel
theorem dX4_begin_233 : decode cX4_begin 233 = .ok (.ireturn, 1) := by decide +kernel
theorem dX4_setRules_0 : decode cX4_setRules 0 = .ok (.iload_n 2, 1) := by decide +kernel
theorem dX4_setRules_1 : decode cX4_setRules 1 = .ok (.iconst 0, 1) := by decide +kernel
theorem dX4_setRules_2 : decode cX4_setRules 2 = .ok (.bipush 100, 2) := by decide +kernel
theorem dX4_setRules_4 : decode cX4_setRules 4 = .ok (.invokestatic 84, 3) := by decide +kernel
theorem dX4_setRules_7 : decode cX4_setRules 7 = .ok (.ifCond .eq 40, 3) := by decide +kernel
theorem dX4_setRules_10 : decode cX4_setRules 10 = .ok (.iload_n 3, 1) := by decide +kernel
theorem dX4_setRules_11 : decode cX4_setRules 11 = .ok (.iload_n 2, 1) := by decide +kernel
theorem dX4_setRules_12 : decode cX4_setRules 12 = .ok (.bipush 100, 2) := by decide +kernel
theorem dX4_setRules_14 : decode cX4_setRules 14 = .ok (.invokestatic 84, 3) := by decide +kernel
theorem dX4_setRules_17 : decode cX4_setRules 17 = .ok (.ifCond .eq 30, 3) := by decide +kernel
theorem dX4_setRules_20 : decode cX4_setRules 20 = .ok (.iload 4, 2) := by decide +kernel
theorem dX4_setRules_22 : decode cX4_setRules 22 = .ok (.iconst 1, 1) := by decide +kernel
theorem dX4_setRules_23 : decode cX4_setRules 23 = .ok (.bipush 10, 2) := by decide +kernel
theorem dX4_setRules_25 : decode cX4_setRules 25 = .ok (.invokestatic 84, 3) := by decide +kernel
theorem dX4_setRules_28 : decode cX4_setRules 28 = .ok (.ifCond .eq 19, 3) := by decide +kernel
theorem dX4_setRules_31 : decode cX4_setRules 31 = .ok (.iload 5, 2) := by decide +kernel
theorem dX4_setRules_33 : decode cX4_setRules 33 = .ok (.iconst 0, 1) := by decide +kernel
theorem dX4_setRules_34 : decode cX4_setRules 34 = .ok (.sipush 1000, 3) := by decide +kernel
theorem dX4_setRules_37 : decode cX4_setRules 37 = .ok (.invokestatic 84, 3) := by decide +kernel
theorem dX4_setRules_40 : decode cX4_setRules 40 = .ok (.ifCond .eq 7, 3) := by decide +kernel
theorem dX4_setRules_43 : decode cX4_setRules 43 = .ok (.iconst 1, 1) := by decide +kernel
theorem dX4_setRules_44 : decode cX4_setRules 44 = .ok (.goto 4, 3) := by decide +kernel
theorem dX4_setRules_47 : decode cX4_setRules 47 = .ok (.iconst 0, 1) := by decide +kernel
theorem dX4_setRules_48 : decode cX4_setRules 48 = .ok (.istore 6, 2) := by decide +kernel
theorem dX4_setRules_50 : decode cX4_setRules 50 = .ok (.aload_n 0, 1) := by decide +kernel
theorem dX4_setRules_51 : decode cX4_setRules 51 = .ok (.aload_n 0, 1) := by decide +kernel
theorem dX4_setRules_52 : decode cX4_setRules 52 = .ok (.iload_n 1, 1) := by decide +kernel
theorem dX4_setRules_53 : decode cX4_setRules 53 = .ok (.invokevirtual 127, 3) := by decide +kernel
theorem dX4_setRules_56 : decode cX4_setRules 56 = .ok (.ifCond .ne 7, 3) := by decide +kernel
theorem dX4_setRules_59 : decode cX4_setRules 59 = .ok (.iconst 1, 1) := by decide +kernel
theorem dX4_setRules_60 : decode cX4_setRules 60 = .ok (.goto 13, 3) := by decide +kernel
theorem dX4_setRules_63 : decode cX4_setRules 63 = .ok (.iload 6, 2) := by decide +kernel
theorem dX4_setRules_65 : decode cX4_setRules 65 = .ok (.ifCond .eq 7, 3) := by decide +kernel
theorem dX4_setRules_68 : decode cX4_setRules 68 = .ok (.iconst 0, 1) := by decide +kernel
theorem dX4_setRules_69 : decode cX4_setRules 69 = .ok (.goto 4, 3) := by decide +kernel
theorem dX4_setRules_72 : decode cX4_setRules 72 = .ok (.iconst 2, 1) := by decide +kernel
theorem dX4_setRules_73 : decode cX4_setRules 73 = .ok (.invokevirtual 99, 3) := by decide +kernel
theorem dX4_setRules_76 : decode cX4_setRules 76 = .ok (.ifCond .ne 39, 3) := by decide +kernel
theorem dX4_setRules_79 : decode cX4_setRules 79 = .ok (.aload_n 0, 1) := by decide +kernel
theorem dX4_setRules_80 : decode cX4_setRules 80 = .ok (.getfield 62, 3) := by decide +kernel
theorem dX4_setRules_83 : decode cX4_setRules 83 = .ok (.iconst 3, 1) := by decide +kernel
theorem dX4_setRules_84 : decode cX4_setRules 84 = .ok (.iload_n 1, 1) := by decide +kernel
theorem dX4_setRules_85 : decode cX4_setRules 85 = .ok (.imul, 1) := by decide +kernel
theorem dX4_setRules_86 : decode cX4_setRules 86 = .ok (.iload_n 2, 1) := by decide +kernel
theorem dX4_setRules_87 : decode cX4_setRules 87 = .ok (.iastore, 1) := by decide +kernel
theorem dX4_setRules_88 : decode cX4_setRules 88 = .ok (.aload_n 0, 1) := by decide +kernel
theorem dX4_setRules_89 : decode cX4_setRules 89 = .ok (.getfield 62, 3) := by decide +kernel
theorem dX4_setRules_92 : decode cX4_setRules 92 = .ok (.iconst 3, 1) := by decide +kernel
theorem dX4_setRules_93 : decode cX4_setRules 93 = .ok (.iload_n 1, 1) := by decide +kernel
theorem dX4_setRules_94 : decode cX4_setRules 94 = .ok (.imul, 1) := by decide +kernel
theorem dX4_setRules_95 : decode cX4_setRules 95 = .ok (.iconst 1, 1) := by decide +kernel
theorem dX4_setRules_96 : decode cX4_setRules 96 = .ok (.iadd, 1) := by decide +kernel
theorem dX4_setRules_97 : decode cX4_setRules 97 = .ok (.iload_n 3, 1) := by decide +kernel
theorem dX4_setRules_98 : decode cX4_setRules 98 = .ok (.iastore, 1) := by decide +kernel
theorem dX4_setRules_99 : decode cX4_setRules 99 = .ok (.aload_n 0, 1) := by decide +kernel
theorem dX4_setRules_100 : decode cX4_setRules 100 = .ok (.getfield 65, 3) := by decide +kernel
theorem dX4_setRules_103 : decode cX4_setRules 103 = .ok (.iload_n 1, 1) := by decide +kernel
theorem dX4_setRules_104 : decode cX4_setRules 104 = .ok (.iload 4, 2) := by decide +kernel
theorem dX4_setRules_106 : decode cX4_setRules 106 = .ok (.iastore, 1) := by decide +kernel
theorem dX4_setRules_107 : decode cX4_setRules 107 = .ok (.aload_n 0, 1) := by decide +kernel
theorem dX4_setRules_108 : decode cX4_setRules 108 = .ok (.getfield 68, 3) := by decide +kernel
theorem dX4_setRules_111 : decode cX4_setRules 111 = .ok (.iload_n 1, 1) := by decide +kernel
theorem dX4_setRules_112 : decode cX4_setRules 112 = .ok (.iload 5, 2) := by decide +kernel
theorem dX4_setRules_114 : decode cX4_setRules 114 = .ok (.iastore, 1) := by decide +kernel
theorem dX4_setRules_115 : decode cX4_setRules 115 = .ok (.return_, 1) := by decide +kernel
theorem dX4_noCampaign_0 : decode cX4_noCampaign 0 = .ok (.aload_n 0, 1) := by decide +kernel
theorem dX4_noCampaign_1 : decode cX4_noCampaign 1 = .ok (.aload_n 0, 1) := by decide +kernel
theorem dX4_noCampaign_2 : decode cX4_noCampaign 2 = .ok (.iload_n 1, 1) := by decide +kernel
theorem dX4_noCampaign_3 : decode cX4_noCampaign 3 = .ok (.invokevirtual 127, 3) := by decide +kernel
theorem dX4_noCampaign_6 : decode cX4_noCampaign 6 = .ok (.ifCond .eq 7, 3) := by decide +kernel
theorem dX4_noCampaign_9 : decode cX4_noCampaign 9 = .ok (.iconst 0, 1) := by decide +kernel
theorem dX4_noCampaign_10 : decode cX4_noCampaign 10 = .ok (.goto 4, 3) := by decide +kernel
theorem dX4_noCampaign_13 : decode cX4_noCampaign 13 = .ok (.iconst 1, 1) := by decide +kernel
theorem dX4_noCampaign_14 : decode cX4_noCampaign 14 = .ok (.invokevirtual 99, 3) := by decide +kernel
theorem dX4_noCampaign_17 : decode cX4_noCampaign 17 = .ok (.ireturn, 1) := by decide +kernel
theorem dX4_toggle_0 : decode cX4_toggle 0 = .ok (.aload_n 0, 1) := by decide +kernel
theorem dX4_toggle_1 : decode cX4_toggle 1 = .ok (.iload_n 1, 1) := by decide +kernel
theorem dX4_toggle_2 : decode cX4_toggle 2 = .ok (.invokevirtual 130, 3) := by decide +kernel
theorem dX4_toggle_5 : decode cX4_toggle 5 = .ok (.ifCond .eq 5, 3) := by decide +kernel
theorem dX4_toggle_8 : decode cX4_toggle 8 = .ok (.iconst 0, 1) := by decide +kernel
theorem dX4_toggle_9 : decode cX4_toggle 9 = .ok (.ireturn, 1) := by decide +kernel
theorem dX4_toggle_10 : decode cX4_toggle 10 = .ok (.aload_n 0, 1) := by decide +kernel
theorem dX4_toggle_11 : decode cX4_toggle 11 = .ok (.getfield 55, 3) := by decide +kernel
theorem dX4_toggle_14 : decode cX4_toggle 14 = .ok (.iload_n 1, 1) := by decide +kernel
theorem dX4_toggle_15 : decode cX4_toggle 15 = .ok (.aload_n 0, 1) := by decide +kernel
theorem dX4_toggle_16 : decode cX4_toggle 16 = .ok (.getfield 55, 3) := by decide +kernel
theorem dX4_toggle_19 : decode cX4_toggle 19 = .ok (.iload_n 1, 1) := by decide +kernel
theorem dX4_toggle_20 : decode cX4_toggle 20 = .ok (.baload, 1) := by decide +kernel
theorem dX4_toggle_21 : decode cX4_toggle 21 = .ok (.ifCond .ne 7, 3) := by decide +kernel
theorem dX4_toggle_24 : decode cX4_toggle 24 = .ok (.iconst 1, 1) := by decide +kernel
theorem dX4_toggle_25 : decode cX4_toggle 25 = .ok (.goto 4, 3) := by decide +kernel
theorem dX4_toggle_28 : decode cX4_toggle 28 = .ok (.iconst 0, 1) := by decide +kernel
theorem dX4_toggle_29 : decode cX4_toggle 29 = .ok (.bastore, 1) := by decide +kernel
theorem dX4_toggle_30 : decode cX4_toggle 30 = .ok (.aload_n 0, 1) := by decide +kernel
theorem dX4_toggle_31 : decode cX4_toggle 31 = .ok (.getfield 55, 3) := by decide +kernel
theorem dX4_toggle_34 : decode cX4_toggle 34 = .ok (.iload_n 1, 1) := by decide +kernel
theorem dX4_toggle_35 : decode cX4_toggle 35 = .ok (.baload, 1) := by decide +kernel
theorem dX4_toggle_36 : decode cX4_toggle 36 = .ok (.ifCond .eq 17, 3) := by decide +kernel
theorem dX4_toggle_39 : decode cX4_toggle 39 = .ok (.aload_n 0, 1) := by decide +kernel
theorem dX4_toggle_40 : decode cX4_toggle 40 = .ok (.getfield 71, 3) := by decide +kernel
theorem dX4_toggle_43 : decode cX4_toggle 43 = .ok (.iload_n 1, 1) := by decide +kernel
theorem dX4_toggle_44 : decode cX4_toggle 44 = .ok (.iconst 0, 1) := by decide +kernel
theorem dX4_toggle_45 : decode cX4_toggle 45 = .ok (.iastore, 1) := by decide +kernel
theorem dX4_toggle_46 : decode cX4_toggle 46 = .ok (.aload_n 0, 1) := by decide +kernel
theorem dX4_toggle_47 : decode cX4_toggle 47 = .ok (.getfield 74, 3) := by decide +kernel
theorem dX4_toggle_50 : decode cX4_toggle 50 = .ok (.iload_n 1, 1) := by decide +kernel
theorem dX4_toggle_51 : decode cX4_toggle 51 = .ok (.iconst 0, 1) := by decide +kernel
theorem dX4_toggle_52 : decode cX4_toggle 52 = .ok (.iastore, 1) := by decide +kernel
theorem dX4_toggle_53 : decode cX4_toggle 53 = .ok (.aload_n 0, 1) := by decide +kernel
theorem dX4_toggle_54 : decode cX4_toggle 54 = .ok (.getfield 55, 3) := by decide +kernel
theorem dX4_toggle_57 : decode cX4_toggle 57 = .ok (.iload_n 1, 1) := by decide +kernel
theorem dX4_toggle_58 : decode cX4_toggle 58 = .ok (.baload, 1) := by decide +kernel
theorem dX4_toggle_59 : decode cX4_toggle 59 = .ok (.ireturn, 1) := by decide +kernel
theorem dX4_isActive_0 : decode cX4_isActive 0 = .ok (.aload_n 0, 1) := by decide +kernel
theorem dX4_isActive_1 : decode cX4_isActive 1 = .ok (.iload_n 1, 1) := by decide +kernel
theorem dX4_isActive_2 : decode cX4_isActive 2 = .ok (.invokevirtual 130, 3) := by decide +kernel
theorem dX4_isActive_5 : decode cX4_isActive 5 = .ok (.ifCond .ne 16, 3) := by decide +kernel
theorem dX4_isActive_8 : decode cX4_isActive 8 = .ok (.aload_n 0, 1) := by decide +kernel
theorem dX4_isActive_9 : decode cX4_isActive 9 = .ok (.getfield 55, 3) := by decide +kernel
theorem dX4_isActive_12 : decode cX4_isActive 12 = .ok (.iload_n 1, 1) := by decide +kernel
theorem dX4_isActive_13 : decode cX4_isActive 13 = .ok (.baload, 1) := by decide +kernel
theorem dX4_isActive_14 : decode cX4_isActive 14 = .ok (.ifCond .eq 7, 3) := by decide +kernel
theorem dX4_isActive_17 : decode cX4_isActive 17 = .ok (.iconst 1, 1) := by decide +kernel
theorem dX4_isActive_18 : decode cX4_isActive 18 = .ok (.goto 4, 3) := by decide +kernel
theorem dX4_isActive_21 : decode cX4_isActive 21 = .ok (.iconst 0, 1) := by decide +kernel
theorem dX4_isActive_22 : decode cX4_isActive 22 = .ok (.ireturn, 1) := by decide +kernel
theorem dX4_ring_0 : decode cX4_ring 0 = .ok (.aload_n 0, 1) := by decide +kernel
theorem dX4_ring_1 : decode cX4_ring 1 = .ok (.iload_n 1, 1) := by decide +kernel
theorem dX4_ring_2 : decode cX4_ring 2 = .ok (.invokevirtual 130, 3) := by decide +kernel
theorem dX4_ring_5 : decode cX4_ring 5 = .ok (.ifCond .eq 7, 3) := by decide +kernel
theorem dX4_ring_8 : decode cX4_ring 8 = .ok (.iconst 0, 1) := by decide +kernel
theorem dX4_ring_9 : decode cX4_ring 9 = .ok (.goto 9, 3) := by decide +kernel
theorem dX4_ring_12 : decode cX4_ring 12 = .ok (.aload_n 0, 1) := by decide +kernel
theorem dX4_ring_13 : decode cX4_ring 13 = .ok (.getfield 59, 3) := by decide +kernel
theorem dX4_ring_16 : decode cX4_ring 16 = .ok (.iload_n 1, 1) := by decide +kernel
theorem dX4_ring_17 : decode cX4_ring 17 = .ok (.iaload, 1) := by decide +kernel
theorem dX4_ring_18 : decode cX4_ring 18 = .ok (.ireturn, 1) := by decide +kernel
theorem dX4_reports_0 : decode cX4_reports 0 = .ok (.aload_n 0, 1) := by decide +kernel
theorem dX4_reports_1 : decode cX4_reports 1 = .ok (.iload_n 1, 1) := by decide +kernel
theorem dX4_reports_2 : decode cX4_reports 2 = .ok (.invokevirtual 130, 3) := by decide +kernel
theorem dX4_reports_5 : decode cX4_reports 5 = .ok (.ifCond .eq 7, 3) := by decide +kernel
theorem dX4_reports_8 : decode cX4_reports 8 = .ok (.iconst 0, 1) := by decide +kernel
theorem dX4_reports_9 : decode cX4_reports 9 = .ok (.goto 9, 3) := by decide +kernel
theorem dX4_reports_12 : decode cX4_reports 12 = .ok (.aload_n 0, 1) := by decide +kernel
theorem dX4_reports_13 : decode cX4_reports 13 = .ok (.getfield 71, 3) := by decide +kernel
theorem dX4_reports_16 : decode cX4_reports 16 = .ok (.iload_n 1, 1) := by decide +kernel
theorem dX4_reports_17 : decode cX4_reports 17 = .ok (.iaload, 1) := by decide +kernel
theorem dX4_reports_18 : decode cX4_reports 18 = .ok (.ireturn, 1) := by decide +kernel
theorem dX4_mayTake_0 : decode cX4_mayTake 0 = .ok (.iload_n 1, 1) := by decide +kernel
theorem dX4_mayTake_1 : decode cX4_mayTake 1 = .ok (.bipush 37, 2) := by decide +kernel
theorem dX4_mayTake_3 : decode cX4_mayTake 3 = .ok (.imul, 1) := by decide +kernel
theorem dX4_mayTake_4 : decode cX4_mayTake 4 = .ok (.iload_n 2, 1) := by decide +kernel
theorem dX4_mayTake_5 : decode cX4_mayTake 5 = .ok (.bipush 11, 2) := by decide +kernel
theorem dX4_mayTake_7 : decode cX4_mayTake 7 = .ok (.imul, 1) := by decide +kernel
theorem dX4_mayTake_8 : decode cX4_mayTake 8 = .ok (.iadd, 1) := by decide +kernel
theorem dX4_mayTake_9 : decode cX4_mayTake 9 = .ok (.bipush 13, 2) := by decide +kernel
theorem dX4_mayTake_11 : decode cX4_mayTake 11 = .ok (.iadd, 1) := by decide +kernel
theorem dX4_mayTake_12 : decode cX4_mayTake 12 = .ok (.bipush 100, 2) := by decide +kernel
theorem dX4_mayTake_14 : decode cX4_mayTake 14 = .ok (.irem, 1) := by decide +kernel
theorem dX4_mayTake_15 : decode cX4_mayTake 15 = .ok (.istore_n 3, 1) := by decide +kernel
theorem dX4_mayTake_16 : decode cX4_mayTake 16 = .ok (.aload_n 0, 1) := by decide +kernel
theorem dX4_mayTake_17 : decode cX4_mayTake 17 = .ok (.getfield 46, 3) := by decide +kernel
theorem dX4_mayTake_20 : decode cX4_mayTake 20 = .ok (.iload_n 2, 1) := by decide +kernel
theorem dX4_mayTake_21 : decode cX4_mayTake 21 = .ok (.iaload, 1) := by decide +kernel
theorem dX4_mayTake_22 : decode cX4_mayTake 22 = .ok (.istore 4, 2) := by decide +kernel
theorem dX4_mayTake_24 : decode cX4_mayTake 24 = .ok (.aload_n 0, 1) := by decide +kernel
theorem dX4_mayTake_25 : decode cX4_mayTake 25 = .ok (.getfield 49, 3) := by decide +kernel
theorem dX4_mayTake_28 : decode cX4_mayTake 28 = .ok (.iload_n 2, 1) := by decide +kernel
theorem dX4_mayTake_29 : decode cX4_mayTake 29 = .ok (.iaload, 1) := by decide +kernel
theorem dX4_mayTake_30 : decode cX4_mayTake 30 = .ok (.aload_n 0, 1) := by decide +kernel
theorem dX4_mayTake_31 : decode cX4_mayTake 31 = .ok (.getfield 22, 3) := by decide +kernel
theorem dX4_mayTake_34 : decode cX4_mayTake 34 = .ok (.iload_n 1, 1) := by decide +kernel
theorem dX4_mayTake_35 : decode cX4_mayTake 35 = .ok (.iaload, 1) := by decide +kernel
theorem dX4_mayTake_36 : decode cX4_mayTake 36 = .ok (.ishr, 1) := by decide +kernel
theorem dX4_mayTake_37 : decode cX4_mayTake 37 = .ok (.iconst 1, 1) := by decide +kernel
theorem dX4_mayTake_38 : decode cX4_mayTake 38 = .ok (.iand, 1) := by decide +kernel
theorem dX4_mayTake_39 : decode cX4_mayTake 39 = .ok (.iconst 1, 1) := by decide +kernel
theorem dX4_mayTake_40 : decode cX4_mayTake 40 = .ok (.if_icmp .ne 26, 3) := by decide +kernel
theorem dX4_mayTake_43 : decode cX4_mayTake 43 = .ok (.aload_n 0, 1) := by decide +kernel
theorem dX4_mayTake_44 : decode cX4_mayTake 44 = .ok (.getfield 52, 3) := by decide +kernel
theorem dX4_mayTake_47 : decode cX4_mayTake 47 = .ok (.iload_n 2, 1) := by decide +kernel
theorem dX4_mayTake_48 : decode cX4_mayTake 48 = .ok (.iaload, 1) := by decide +kernel
theorem dX4_mayTake_49 : decode cX4_mayTake 49 = .ok (.aload_n 0, 1) := by decide +kernel
theorem dX4_mayTake_50 : decode cX4_mayTake 50 = .ok (.getfield 25, 3) := by decide +kernel
theorem dX4_mayTake_53 : decode cX4_mayTake 53 = .ok (.iload_n 1, 1) := by decide +kernel
theorem dX4_mayTake_54 : decode cX4_mayTake 54 = .ok (.iaload, 1) := by decide +kernel
theorem dX4_mayTake_55 : decode cX4_mayTake 55 = .ok (.ishr, 1) := by decide +kernel
theorem dX4_mayTake_56 : decode cX4_mayTake 56 = .ok (.iconst 1, 1) := by decide +kernel
theorem dX4_mayTake_57 : decode cX4_mayTake 57 = .ok (.iand, 1) := by decide +kernel
theorem dX4_mayTake_58 : decode cX4_mayTake 58 = .ok (.iconst 1, 1) := by decide +kernel
theorem dX4_mayTake_59 : decode cX4_mayTake 59 = .ok (.if_icmp .ne 7, 3) := by decide +kernel
theorem dX4_mayTake_62 : decode cX4_mayTake 62 = .ok (.iconst 1, 1) := by decide +kernel
theorem dX4_mayTake_63 : decode cX4_mayTake 63 = .ok (.goto 4, 3) := by decide +kernel
theorem dX4_mayTake_66 : decode cX4_mayTake 66 = .ok (.iconst 0, 1) := by decide +kernel
theorem dX4_mayTake_67 : decode cX4_mayTake 67 = .ok (.istore 5, 2) := by decide +kernel
theorem dX4_mayTake_69 : decode cX4_mayTake 69 = .ok (.aload_n 0, 1) := by decide +kernel
theorem dX4_mayTake_70 : decode cX4_mayTake 70 = .ok (.getfield 7, 3) := by decide +kernel
theorem dX4_mayTake_73 : decode cX4_mayTake 73 = .ok (.iload 4, 2) := by decide +kernel
theorem dX4_mayTake_75 : decode cX4_mayTake 75 = .ok (.iaload, 1) := by decide +kernel
theorem dX4_mayTake_76 : decode cX4_mayTake 76 = .ok (.aload_n 0, 1) := by decide +kernel
theorem dX4_mayTake_77 : decode cX4_mayTake 77 = .ok (.getfield 22, 3) := by decide +kernel
theorem dX4_mayTake_80 : decode cX4_mayTake 80 = .ok (.iload_n 1, 1) := by decide +kernel
theorem dX4_mayTake_81 : decode cX4_mayTake 81 = .ok (.iaload, 1) := by decide +kernel
theorem dX4_mayTake_82 : decode cX4_mayTake 82 = .ok (.ishr, 1) := by decide +kernel
theorem dX4_mayTake_83 : decode cX4_mayTake 83 = .ok (.iconst 1, 1) := by decide +kernel
theorem dX4_mayTake_84 : decode cX4_mayTake 84 = .ok (.iand, 1) := by decide +kernel
theorem dX4_mayTake_85 : decode cX4_mayTake 85 = .ok (.iconst 1, 1) := by decide +kernel
theorem dX4_mayTake_86 : decode cX4_mayTake 86 = .ok (.if_icmp .ne 18, 3) := by decide +kernel
theorem dX4_mayTake_89 : decode cX4_mayTake 89 = .ok (.aload_n 0, 1) := by decide +kernel
theorem dX4_mayTake_90 : decode cX4_mayTake 90 = .ok (.getfield 25, 3) := by decide +kernel
theorem dX4_mayTake_93 : decode cX4_mayTake 93 = .ok (.iload_n 1, 1) := by decide +kernel
theorem dX4_mayTake_94 : decode cX4_mayTake 94 = .ok (.iaload, 1) := by decide +kernel
theorem dX4_mayTake_95 : decode cX4_mayTake 95 = .ok (.iload 4, 2) := by decide +kernel
theorem dX4_mayTake_97 : decode cX4_mayTake 97 = .ok (.if_icmp .eq 7, 3) := by decide +kernel
theorem dX4_mayTake_100 : decode cX4_mayTake 100 = .ok (.iconst 1, 1) := by decide +kernel
theorem dX4_mayTake_101 : decode cX4_mayTake 101 = .ok (.goto 4, 3) := by decide +kernel
theorem dX4_mayTake_104 : decode cX4_mayTake 104 = .ok (.iconst 0, 1) := by decide +kernel
theorem dX4_mayTake_105 : decode cX4_mayTake 105 = .ok (.istore 6, 2) := by decide +kernel
theorem dX4_mayTake_107 : decode cX4_mayTake 107 = .ok (.iload_n 3, 1) := by decide +kernel
theorem dX4_mayTake_108 : decode cX4_mayTake 108 = .ok (.aload_n 0, 1) := by decide +kernel
theorem dX4_mayTake_109 : decode cX4_mayTake 109 = .ok (.getfield 62, 3) := by decide +kernel
theorem dX4_mayTake_112 : decode cX4_mayTake 112 = .ok (.iconst 3, 1) := by decide +kernel
theorem dX4_mayTake_113 : decode cX4_mayTake 113 = .ok (.iload_n 2, 1) := by decide +kernel
theorem dX4_mayTake_114 : decode cX4_mayTake 114 = .ok (.imul, 1) := by decide +kernel
theorem dX4_mayTake_115 : decode cX4_mayTake 115 = .ok (.aload_n 0, 1) := by decide +kernel
theorem dX4_mayTake_116 : decode cX4_mayTake 116 = .ok (.getfield 59, 3) := by decide +kernel
theorem dX4_mayTake_119 : decode cX4_mayTake 119 = .ok (.iload_n 2, 1) := by decide +kernel
theorem dX4_mayTake_120 : decode cX4_mayTake 120 = .ok (.iaload, 1) := by decide +kernel
theorem dX4_mayTake_121 : decode cX4_mayTake 121 = .ok (.iadd, 1) := by decide +kernel
theorem dX4_mayTake_122 : decode cX4_mayTake 122 = .ok (.iaload, 1) := by decide +kernel
theorem dX4_mayTake_123 : decode cX4_mayTake 123 = .ok (.if_icmp .ge 20, 3) := by decide +kernel
theorem dX4_mayTake_126 : decode cX4_mayTake 126 = .ok (.aload_n 0, 1) := by decide +kernel
theorem dX4_mayTake_127 : decode cX4_mayTake 127 = .ok (.getfield 77, 3) := by decide +kernel
theorem dX4_mayTake_130 : decode cX4_mayTake 130 = .ok (.iload_n 2, 1) := by decide +kernel
theorem dX4_mayTake_131 : decode cX4_mayTake 131 = .ok (.iaload, 1) := by decide +kernel
theorem dX4_mayTake_132 : decode cX4_mayTake 132 = .ok (.iload_n 1, 1) := by decide +kernel
theorem dX4_mayTake_133 : decode cX4_mayTake 133 = .ok (.ishr, 1) := by decide +kernel
theorem dX4_mayTake_134 : decode cX4_mayTake 134 = .ok (.iconst 1, 1) := by decide +kernel
theorem dX4_mayTake_135 : decode cX4_mayTake 135 = .ok (.iand, 1) := by decide +kernel
theorem dX4_mayTake_136 : decode cX4_mayTake 136 = .ok (.ifCond .ne 7, 3) := by decide +kernel
theorem dX4_mayTake_139 : decode cX4_mayTake 139 = .ok (.iconst 1, 1) := by decide +kernel
theorem dX4_mayTake_140 : decode cX4_mayTake 140 = .ok (.goto 4, 3) := by decide +kernel
theorem dX4_mayTake_143 : decode cX4_mayTake 143 = .ok (.iconst 0, 1) := by decide +kernel
theorem dX4_mayTake_144 : decode cX4_mayTake 144 = .ok (.istore 7, 2) := by decide +kernel
theorem dX4_mayTake_146 : decode cX4_mayTake 146 = .ok (.aload_n 0, 1) := by decide +kernel
theorem dX4_mayTake_147 : decode cX4_mayTake 147 = .ok (.getfield 37, 3) := by decide +kernel
theorem dX4_mayTake_150 : decode cX4_mayTake 150 = .ok (.iload_n 1, 1) := by decide +kernel
theorem dX4_mayTake_151 : decode cX4_mayTake 151 = .ok (.iaload, 1) := by decide +kernel
theorem dX4_mayTake_152 : decode cX4_mayTake 152 = .ok (.ifCond .ne 47, 3) := by decide +kernel
theorem dX4_mayTake_155 : decode cX4_mayTake 155 = .ok (.aload_n 0, 1) := by decide +kernel
theorem dX4_mayTake_156 : decode cX4_mayTake 156 = .ok (.getfield 55, 3) := by decide +kernel
theorem dX4_mayTake_159 : decode cX4_mayTake 159 = .ok (.iload_n 2, 1) := by decide +kernel
theorem dX4_mayTake_160 : decode cX4_mayTake 160 = .ok (.baload, 1) := by decide +kernel
theorem dX4_mayTake_161 : decode cX4_mayTake 161 = .ok (.ifCond .eq 38, 3) := by decide +kernel
theorem dX4_mayTake_164 : decode cX4_mayTake 164 = .ok (.iload 5, 2) := by decide +kernel
theorem dX4_mayTake_166 : decode cX4_mayTake 166 = .ok (.ifCond .eq 33, 3) := by decide +kernel
theorem dX4_mayTake_169 : decode cX4_mayTake 169 = .ok (.iload 6, 2) := by decide +kernel
theorem dX4_mayTake_171 : decode cX4_mayTake 171 = .ok (.ifCond .eq 28, 3) := by decide +kernel
theorem dX4_mayTake_174 : decode cX4_mayTake 174 = .ok (.iload 7, 2) := by decide +kernel
theorem dX4_mayTake_176 : decode cX4_mayTake 176 = .ok (.ifCond .eq 23, 3) := by decide +kernel
theorem dX4_mayTake_179 : decode cX4_mayTake 179 = .ok (.aload_n 0, 1) := by decide +kernel
theorem dX4_mayTake_180 : decode cX4_mayTake 180 = .ok (.aload_n 0, 1) := by decide +kernel
theorem dX4_mayTake_181 : decode cX4_mayTake 181 = .ok (.getfield 25, 3) := by decide +kernel
theorem dX4_mayTake_184 : decode cX4_mayTake 184 = .ok (.iload_n 1, 1) := by decide +kernel
theorem dX4_mayTake_185 : decode cX4_mayTake 185 = .ok (.iaload, 1) := by decide +kernel
theorem dX4_mayTake_186 : decode cX4_mayTake 186 = .ok (.iload 4, 2) := by decide +kernel
theorem dX4_mayTake_188 : decode cX4_mayTake 188 = .ok (.invokevirtual 106, 3) := by decide +kernel
theorem dX4_mayTake_191 : decode cX4_mayTake 191 = .ok (.iconst (-1), 1) := by decide +kernel
theorem dX4_mayTake_192 : decode cX4_mayTake 192 = .ok (.if_icmp .eq 7, 3) := by decide +kernel
theorem dX4_mayTake_195 : decode cX4_mayTake 195 = .ok (.iconst 1, 1) := by decide +kernel
theorem dX4_mayTake_196 : decode cX4_mayTake 196 = .ok (.goto 4, 3) := by decide +kernel
theorem dX4_mayTake_199 : decode cX4_mayTake 199 = .ok (.iconst 0, 1) := by decide +kernel
theorem dX4_mayTake_200 : decode cX4_mayTake 200 = .ok (.ireturn, 1) := by decide +kernel
theorem dX4_eligible_0 : decode cX4_eligible 0 = .ok (.aload_n 0, 1) := by decide +kernel
theorem dX4_eligible_1 : decode cX4_eligible 1 = .ok (.iload_n 1, 1) := by decide +kernel
theorem dX4_eligible_2 : decode cX4_eligible 2 = .ok (.invokevirtual 130, 3) := by decide +kernel
theorem dX4_eligible_5 : decode cX4_eligible 5 = .ok (.ifCond .eq 5, 3) := by decide +kernel
theorem dX4_eligible_8 : decode cX4_eligible 8 = .ok (.iconst 0, 1) := by decide +kernel
theorem dX4_eligible_9 : decode cX4_eligible 9 = .ok (.ireturn, 1) := by decide +kernel
theorem dX4_eligible_10 : decode cX4_eligible 10 = .ok (.iconst 0, 1) := by decide +kernel
theorem dX4_eligible_11 : decode cX4_eligible 11 = .ok (.istore_n 2, 1) := by decide +kernel
theorem dX4_eligible_12 : decode cX4_eligible 12 = .ok (.iconst 0, 1) := by decide +kernel
theorem dX4_eligible_13 : decode cX4_eligible 13 = .ok (.istore_n 3, 1) := by decide +kernel
theorem dX4_eligible_14 : decode cX4_eligible 14 = .ok (.iload_n 3, 1) := by decide +kernel
theorem dX4_eligible_15 : decode cX4_eligible 15 = .ok (.aload_n 0, 1) := by decide +kernel
theorem dX4_eligible_16 : decode cX4_eligible 16 = .ok (.getfield 89, 3) := by decide +kernel
theorem dX4_eligible_19 : decode cX4_eligible 19 = .ok (.if_icmp .ge 28, 3) := by decide +kernel
theorem dX4_eligible_22 : decode cX4_eligible 22 = .ok (.iload_n 2, 1) := by decide +kernel
theorem dX4_eligible_23 : decode cX4_eligible 23 = .ok (.aload_n 0, 1) := by decide +kernel
theorem dX4_eligible_24 : decode cX4_eligible 24 = .ok (.iload_n 3, 1) := by decide +kernel
theorem dX4_eligible_25 : decode cX4_eligible 25 = .ok (.iload_n 1, 1) := by decide +kernel
theorem dX4_eligible_26 : decode cX4_eligible 26 = .ok (.invokevirtual 133, 3) := by decide +kernel
theorem dX4_eligible_29 : decode cX4_eligible 29 = .ok (.ifCond .eq 9, 3) := by decide +kernel
theorem dX4_eligible_32 : decode cX4_eligible 32 = .ok (.iconst 1, 1) := by decide +kernel
theorem dX4_eligible_33 : decode cX4_eligible 33 = .ok (.iload_n 3, 1) := by decide +kernel
theorem dX4_eligible_34 : decode cX4_eligible 34 = .ok (.ishl, 1) := by decide +kernel
theorem dX4_eligible_35 : decode cX4_eligible 35 = .ok (.goto 4, 3) := by decide +kernel
theorem dX4_eligible_38 : decode cX4_eligible 38 = .ok (.iconst 0, 1) := by decide +kernel
theorem dX4_eligible_39 : decode cX4_eligible 39 = .ok (.ior, 1) := by decide +kernel
theorem dX4_eligible_40 : decode cX4_eligible 40 = .ok (.istore_n 2, 1) := by decide +kernel
theorem dX4_eligible_41 : decode cX4_eligible 41 = .ok (.iinc 3 1, 3) := by decide +kernel
theorem dX4_eligible_44 : decode cX4_eligible 44 = .ok (.goto (-30), 3) := by decide +kernel
theorem dX4_eligible_47 : decode cX4_eligible 47 = .ok (.iload_n 2, 1) := by decide +kernel
theorem dX4_eligible_48 : decode cX4_eligible 48 = .ok (.ireturn, 1) := by decide +kernel
theorem dX4_take_0 : decode cX4_take 0 = .ok (.iconst 0, 1) := by decide +kernel
theorem dX4_take_1 : decode cX4_take 1 = .ok (.istore_n 2, 1) := by decide +kernel
theorem dX4_take_2 : decode cX4_take 2 = .ok (.iload_n 2, 1) := by decide +kernel
theorem dX4_take_3 : decode cX4_take 3 = .ok (.aload_n 0, 1) := by decide +kernel
theorem dX4_take_4 : decode cX4_take 4 = .ok (.getfield 92, 3) := by decide +kernel
theorem dX4_take_7 : decode cX4_take 7 = .ok (.if_icmp .ge 54, 3) := by decide +kernel
theorem dX4_take_10 : decode cX4_take 10 = .ok (.aload_n 0, 1) := by decide +kernel
theorem dX4_take_11 : decode cX4_take 11 = .ok (.iload_n 1, 1) := by decide +kernel
theorem dX4_take_12 : decode cX4_take 12 = .ok (.iload_n 2, 1) := by decide +kernel
theorem dX4_take_13 : decode cX4_take 13 = .ok (.invokevirtual 133, 3) := by decide +kernel
theorem dX4_take_16 : decode cX4_take 16 = .ok (.ifCond .eq 39, 3) := by decide +kernel
theorem dX4_take_19 : decode cX4_take 19 = .ok (.aload_n 0, 1) := by decide +kernel
theorem dX4_take_20 : decode cX4_take 20 = .ok (.getfield 40, 3) := by decide +kernel
theorem dX4_take_23 : decode cX4_take 23 = .ok (.iload_n 1, 1) := by decide +kernel
theorem dX4_take_24 : decode cX4_take 24 = .ok (.iload_n 2, 1) := by decide +kernel
theorem dX4_take_25 : decode cX4_take 25 = .ok (.iastore, 1) := by decide +kernel
theorem dX4_take_26 : decode cX4_take 26 = .ok (.aload_n 0, 1) := by decide +kernel
theorem dX4_take_27 : decode cX4_take 27 = .ok (.getfield 43, 3) := by decide +kernel
theorem dX4_take_30 : decode cX4_take 30 = .ok (.iload_n 1, 1) := by decide +kernel
theorem dX4_take_31 : decode cX4_take 31 = .ok (.aload_n 0, 1) := by decide +kernel
theorem dX4_take_32 : decode cX4_take 32 = .ok (.aload_n 0, 1) := by decide +kernel
theorem dX4_take_33 : decode cX4_take 33 = .ok (.getfield 25, 3) := by decide +kernel
theorem dX4_take_36 : decode cX4_take 36 = .ok (.iload_n 1, 1) := by decide +kernel
theorem dX4_take_37 : decode cX4_take 37 = .ok (.iaload, 1) := by decide +kernel
theorem dX4_take_38 : decode cX4_take 38 = .ok (.aload_n 0, 1) := by decide +kernel
theorem dX4_take_39 : decode cX4_take 39 = .ok (.getfield 46, 3) := by decide +kernel
theorem dX4_take_42 : decode cX4_take 42 = .ok (.iload_n 2, 1) := by decide +kernel
theorem dX4_take_43 : decode cX4_take 43 = .ok (.iaload, 1) := by decide +kernel
theorem dX4_take_44 : decode cX4_take 44 = .ok (.invokevirtual 106, 3) := by decide +kernel
theorem dX4_take_47 : decode cX4_take 47 = .ok (.iastore, 1) := by decide +kernel
theorem dX4_take_48 : decode cX4_take 48 = .ok (.aload_n 0, 1) := by decide +kernel
theorem dX4_take_49 : decode cX4_take 49 = .ok (.getfield 37, 3) := by decide +kernel
theorem dX4_take_52 : decode cX4_take 52 = .ok (.iload_n 1, 1) := by decide +kernel
theorem dX4_take_53 : decode cX4_take 53 = .ok (.iconst 1, 1) := by decide +kernel
theorem dX4_take_54 : decode cX4_take 54 = .ok (.iastore, 1) := by decide +kernel
theorem dX4_take_55 : decode cX4_take 55 = .ok (.iinc 2 1, 3) := by decide +kernel
theorem dX4_take_58 : decode cX4_take 58 = .ok (.goto (-56), 3) := by decide +kernel
theorem dX4_take_61 : decode cX4_take 61 = .ok (.return_, 1) := by decide +kernel
theorem dX4_isOpen_0 : decode cX4_isOpen 0 = .ok (.aload_n 0, 1) := by decide +kernel
theorem dX4_isOpen_1 : decode cX4_isOpen 1 = .ok (.getfield 137, 3) := by decide +kernel
theorem dX4_isOpen_4 : decode cX4_isOpen 4 = .ok (.bipush 24, 2) := by decide +kernel
theorem dX4_isOpen_6 : decode cX4_isOpen 6 = .ok (.irem, 1) := by decide +kernel
theorem dX4_isOpen_7 : decode cX4_isOpen 7 = .ok (.istore_n 2, 1) := by decide +kernel
theorem dX4_isOpen_8 : decode cX4_isOpen 8 = .ok (.aload_n 0, 1) := by decide +kernel
theorem dX4_isOpen_9 : decode cX4_isOpen 9 = .ok (.getfield 31, 3) := by decide +kernel
theorem dX4_isOpen_12 : decode cX4_isOpen 12 = .ok (.iload_n 1, 1) := by decide +kernel
theorem dX4_isOpen_13 : decode cX4_isOpen 13 = .ok (.iaload, 1) := by decide +kernel
theorem dX4_isOpen_14 : decode cX4_isOpen 14 = .ok (.istore_n 3, 1) := by decide +kernel
theorem dX4_isOpen_15 : decode cX4_isOpen 15 = .ok (.aload_n 0, 1) := by decide +kernel
theorem dX4_isOpen_16 : decode cX4_isOpen 16 = .ok (.getfield 34, 3) := by decide +kernel
theorem dX4_isOpen_19 : decode cX4_isOpen 19 = .ok (.iload_n 1, 1) := by decide +kernel
theorem dX4_isOpen_20 : decode cX4_isOpen 20 = .ok (.iaload, 1) := by decide +kernel
theorem dX4_isOpen_21 : decode cX4_isOpen 21 = .ok (.istore 4, 2) := by decide +kernel
theorem dX4_isOpen_23 : decode cX4_isOpen 23 = .ok (.iload_n 3, 1) := by decide +kernel
theorem dX4_isOpen_24 : decode cX4_isOpen 24 = .ok (.iload 4, 2) := by decide +kernel
theorem dX4_isOpen_26 : decode cX4_isOpen 26 = .ok (.if_icmp .gt 13, 3) := by decide +kernel
theorem dX4_isOpen_29 : decode cX4_isOpen 29 = .ok (.iload_n 2, 1) := by decide +kernel
theorem dX4_isOpen_30 : decode cX4_isOpen 30 = .ok (.iload_n 3, 1) := by decide +kernel
theorem dX4_isOpen_31 : decode cX4_isOpen 31 = .ok (.iload 4, 2) := by decide +kernel
theorem dX4_isOpen_33 : decode cX4_isOpen 33 = .ok (.invokestatic 84, 3) := by decide +kernel
theorem dX4_isOpen_36 : decode cX4_isOpen 36 = .ok (.goto 19, 3) := by decide +kernel
theorem dX4_isOpen_39 : decode cX4_isOpen 39 = .ok (.iload_n 2, 1) := by decide +kernel
theorem dX4_isOpen_40 : decode cX4_isOpen 40 = .ok (.iload_n 3, 1) := by decide +kernel
theorem dX4_isOpen_41 : decode cX4_isOpen 41 = .ok (.if_icmp .ge 9, 3) := by decide +kernel
theorem dX4_isOpen_44 : decode cX4_isOpen 44 = .ok (.iload_n 2, 1) := by decide +kernel
theorem dX4_isOpen_45 : decode cX4_isOpen 45 = .ok (.iload 4, 2) := by decide +kernel
theorem dX4_isOpen_47 : decode cX4_isOpen 47 = .ok (.if_icmp .gt 7, 3) := by decide +kernel
theorem dX4_isOpen_50 : decode cX4_isOpen 50 = .ok (.iconst 1, 1) := by decide +kernel
theorem dX4_isOpen_51 : decode cX4_isOpen 51 = .ok (.goto 4, 3) := by decide +kernel
theorem dX4_isOpen_54 : decode cX4_isOpen 54 = .ok (.iconst 0, 1) := by decide +kernel
theorem dX4_isOpen_55 : decode cX4_isOpen 55 = .ok (.ireturn, 1) := by decide +kernel
theorem dX4_pass_0 : decode cX4_pass 0 = .ok (.aload_n 0, 1) := by decide +kernel
theorem dX4_pass_1 : decode cX4_pass 1 = .ok (.iload_n 1, 1) := by decide +kernel
theorem dX4_pass_2 : decode cX4_pass 2 = .ok (.iconst 1, 1) := by decide +kernel
theorem dX4_pass_3 : decode cX4_pass 3 = .ok (.bipush 100, 2) := by decide +kernel
theorem dX4_pass_5 : decode cX4_pass 5 = .ok (.invokestatic 84, 3) := by decide +kernel
theorem dX4_pass_8 : decode cX4_pass 8 = .ok (.ifCond .eq 7, 3) := by decide +kernel
theorem dX4_pass_11 : decode cX4_pass 11 = .ok (.iconst 0, 1) := by decide +kernel
theorem dX4_pass_12 : decode cX4_pass 12 = .ok (.goto 4, 3) := by decide +kernel
theorem dX4_pass_15 : decode cX4_pass 15 = .ok (.iconst 1, 1) := by decide +kernel
theorem dX4_pass_16 : decode cX4_pass 16 = .ok (.invokevirtual 99, 3) := by decide +kernel
theorem dX4_pass_19 : decode cX4_pass 19 = .ok (.ifCond .eq 5, 3) := by decide +kernel
theorem dX4_pass_22 : decode cX4_pass 22 = .ok (.iconst 0, 1) := by decide +kernel
theorem dX4_pass_23 : decode cX4_pass 23 = .ok (.ireturn, 1) := by decide +kernel
theorem dX4_pass_24 : decode cX4_pass 24 = .ok (.iconst 0, 1) := by decide +kernel
theorem dX4_pass_25 : decode cX4_pass 25 = .ok (.istore_n 2, 1) := by decide +kernel
theorem dX4_pass_26 : decode cX4_pass 26 = .ok (.iconst 0, 1) := by decide +kernel
theorem dX4_pass_27 : decode cX4_pass 27 = .ok (.istore_n 3, 1) := by decide +kernel
theorem dX4_pass_28 : decode cX4_pass 28 = .ok (.iload_n 3, 1) := by decide +kernel
theorem dX4_pass_29 : decode cX4_pass 29 = .ok (.iload_n 1, 1) := by decide +kernel
theorem dX4_pass_30 : decode cX4_pass 30 = .ok (.if_icmp .ge 159, 3) := by decide +kernel
theorem dX4_pass_33 : decode cX4_pass 33 = .ok (.iconst 0, 1) := by decide +kernel
theorem dX4_pass_34 : decode cX4_pass 34 = .ok (.istore 4, 2) := by decide +kernel
theorem dX4_pass_36 : decode cX4_pass 36 = .ok (.iload 4, 2) := by decide +kernel
theorem dX4_pass_38 : decode cX4_pass 38 = .ok (.aload_n 0, 1) := by decide +kernel
theorem dX4_pass_39 : decode cX4_pass 39 = .ok (.getfield 89, 3) := by decide +kernel
theorem dX4_pass_42 : decode cX4_pass 42 = .ok (.if_icmp .ge 131, 3) := by decide +kernel
theorem dX4_pass_45 : decode cX4_pass 45 = .ok (.aload_n 0, 1) := by decide +kernel
theorem dX4_pass_46 : decode cX4_pass 46 = .ok (.iload 4, 2) := by decide +kernel
theorem dX4_pass_48 : decode cX4_pass 48 = .ok (.invokevirtual 140, 3) := by decide +kernel
theorem dX4_pass_51 : decode cX4_pass 51 = .ok (.aload_n 0, 1) := by decide +kernel
theorem dX4_pass_52 : decode cX4_pass 52 = .ok (.getfield 37, 3) := by decide +kernel
theorem dX4_pass_55 : decode cX4_pass 55 = .ok (.iload 4, 2) := by decide +kernel
theorem dX4_pass_57 : decode cX4_pass 57 = .ok (.iaload, 1) := by decide +kernel
theorem dX4_pass_58 : decode cX4_pass 58 = .ok (.iconst 1, 1) := by decide +kernel
theorem dX4_pass_59 : decode cX4_pass 59 = .ok (.if_icmp .ne 108, 3) := by decide +kernel
theorem dX4_pass_62 : decode cX4_pass 62 = .ok (.aload_n 0, 1) := by decide +kernel
theorem dX4_pass_63 : decode cX4_pass 63 = .ok (.iload 4, 2) := by decide +kernel
theorem dX4_pass_65 : decode cX4_pass 65 = .ok (.invokevirtual 143, 3) := by decide +kernel
theorem dX4_pass_68 : decode cX4_pass 68 = .ok (.ifCond .eq 99, 3) := by decide +kernel
theorem dX4_pass_71 : decode cX4_pass 71 = .ok (.aload_n 0, 1) := by decide +kernel
theorem dX4_pass_72 : decode cX4_pass 72 = .ok (.getfield 28, 3) := by decide +kernel
theorem dX4_pass_75 : decode cX4_pass 75 = .ok (.iload 4, 2) := by decide +kernel
theorem dX4_pass_77 : decode cX4_pass 77 = .ok (.iaload, 1) := by decide +kernel
theorem dX4_pass_78 : decode cX4_pass 78 = .ok (.bipush 20, 2) := by decide +kernel
theorem dX4_pass_80 : decode cX4_pass 80 = .ok (.if_icmp .lt 87, 3) := by decide +kernel
theorem dX4_pass_83 : decode cX4_pass 83 = .ok (.aload_n 0, 1) := by decide +kernel
theorem dX4_pass_84 : decode cX4_pass 84 = .ok (.getfield 43, 3) := by decide +kernel
theorem dX4_pass_87 : decode cX4_pass 87 = .ok (.iload 4, 2) := by decide +kernel
theorem dX4_pass_89 : decode cX4_pass 89 = .ok (.aload_n 0, 1) := by decide +kernel
theorem dX4_pass_90 : decode cX4_pass 90 = .ok (.getfield 43, 3) := by decide +kernel
theorem dX4_pass_93 : decode cX4_pass 93 = .ok (.iload 4, 2) := by decide +kernel
theorem dX4_pass_95 : decode cX4_pass 95 = .ok (.iaload, 1) := by decide +kernel
theorem dX4_pass_96 : decode cX4_pass 96 = .ok (.bipush 100, 2) := by decide +kernel
theorem dX4_pass_98 : decode cX4_pass 98 = .ok (.if_icmp .le 16, 3) := by decide +kernel
theorem dX4_pass_101 : decode cX4_pass 101 = .ok (.aload_n 0, 1) := by decide +kernel
theorem dX4_pass_102 : decode cX4_pass 102 = .ok (.getfield 43, 3) := by decide +kernel
theorem dX4_pass_105 : decode cX4_pass 105 = .ok (.iload 4, 2) := by decide +kernel
theorem dX4_pass_107 : decode cX4_pass 107 = .ok (.iaload, 1) := by decide +kernel
theorem dX4_pass_108 : decode cX4_pass 108 = .ok (.bipush 100, 2) := by decide +kernel
theorem dX4_pass_110 : decode cX4_pass 110 = .ok (.isub, 1) := by decide +kernel
theorem dX4_pass_111 : decode cX4_pass 111 = .ok (.goto 4, 3) := by decide +kernel
theorem dX4_pass_114 : decode cX4_pass 114 = .ok (.iconst 0, 1) := by decide +kernel
theorem dX4_pass_115 : decode cX4_pass 115 = .ok (.iastore, 1) := by decide +kernel
theorem dX4_pass_116 : decode cX4_pass 116 = .ok (.aload_n 0, 1) := by decide +kernel
theorem dX4_pass_117 : decode cX4_pass 117 = .ok (.getfield 28, 3) := by decide +kernel
theorem dX4_pass_120 : decode cX4_pass 120 = .ok (.iload 4, 2) := by decide +kernel
theorem dX4_pass_122 : decode cX4_pass 122 = .ok (.dup2, 1) := by decide +kernel
theorem dX4_pass_123 : decode cX4_pass 123 = .ok (.iaload, 1) := by decide +kernel
theorem dX4_pass_124 : decode cX4_pass 124 = .ok (.iconst 1, 1) := by decide +kernel
theorem dX4_pass_125 : decode cX4_pass 125 = .ok (.isub, 1) := by decide +kernel
theorem dX4_pass_126 : decode cX4_pass 126 = .ok (.iastore, 1) := by decide +kernel
theorem dX4_pass_127 : decode cX4_pass 127 = .ok (.aload_n 0, 1) := by decide +kernel
theorem dX4_pass_128 : decode cX4_pass 128 = .ok (.getfield 37, 3) := by decide +kernel
theorem dX4_pass_131 : decode cX4_pass 131 = .ok (.iload 4, 2) := by decide +kernel
theorem dX4_pass_133 : decode cX4_pass 133 = .ok (.aload_n 0, 1) := by decide +kernel
theorem dX4_pass_134 : decode cX4_pass 134 = .ok (.getfield 43, 3) := by decide +kernel
theorem dX4_pass_137 : decode cX4_pass 137 = .ok (.iload 4, 2) := by decide +kernel
theorem dX4_pass_139 : decode cX4_pass 139 = .ok (.iaload, 1) := by decide +kernel
theorem dX4_pass_140 : decode cX4_pass 140 = .ok (.ifCond .ne 7, 3) := by decide +kernel
theorem dX4_pass_143 : decode cX4_pass 143 = .ok (.iconst 2, 1) := by decide +kernel
theorem dX4_pass_144 : decode cX4_pass 144 = .ok (.goto 4, 3) := by decide +kernel
theorem dX4_pass_147 : decode cX4_pass 147 = .ok (.iconst 1, 1) := by decide +kernel
theorem dX4_pass_148 : decode cX4_pass 148 = .ok (.iastore, 1) := by decide +kernel
theorem dX4_pass_149 : decode cX4_pass 149 = .ok (.iload_n 2, 1) := by decide +kernel
theorem dX4_pass_150 : decode cX4_pass 150 = .ok (.aload_n 0, 1) := by decide +kernel
theorem dX4_pass_151 : decode cX4_pass 151 = .ok (.getfield 43, 3) := by decide +kernel
theorem dX4_pass_154 : decode cX4_pass 154 = .ok (.iload 4, 2) := by decide +kernel
theorem dX4_pass_156 : decode cX4_pass 156 = .ok (.iaload, 1) := by decide +kernel
theorem dX4_pass_157 : decode cX4_pass 157 = .ok (.ifCond .ne 7, 3) := by decide +kernel
theorem dX4_pass_160 : decode cX4_pass 160 = .ok (.iconst 1, 1) := by decide +kernel
theorem dX4_pass_161 : decode cX4_pass 161 = .ok (.goto 4, 3) := by decide +kernel
theorem dX4_pass_164 : decode cX4_pass 164 = .ok (.iconst 0, 1) := by decide +kernel
theorem dX4_pass_165 : decode cX4_pass 165 = .ok (.iadd, 1) := by decide +kernel
theorem dX4_pass_166 : decode cX4_pass 166 = .ok (.istore_n 2, 1) := by decide +kernel
theorem dX4_pass_167 : decode cX4_pass 167 = .ok (.iinc 4 1, 3) := by decide +kernel
theorem dX4_pass_170 : decode cX4_pass 170 = .ok (.goto (-134), 3) := by decide +kernel
theorem dX4_pass_173 : decode cX4_pass 173 = .ok (.aload_n 0, 1) := by decide +kernel
theorem dX4_pass_174 : decode cX4_pass 174 = .ok (.dup, 1) := by decide +kernel
theorem dX4_pass_175 : decode cX4_pass 175 = .ok (.getfield 137, 3) := by decide +kernel
theorem dX4_pass_178 : decode cX4_pass 178 = .ok (.iconst 1, 1) := by decide +kernel
theorem dX4_pass_179 : decode cX4_pass 179 = .ok (.iadd, 1) := by decide +kernel
theorem dX4_pass_180 : decode cX4_pass 180 = .ok (.putfield 137, 3) := by decide +kernel
theorem dX4_pass_183 : decode cX4_pass 183 = .ok (.iinc 3 1, 3) := by decide +kernel
theorem dX4_pass_186 : decode cX4_pass 186 = .ok (.goto (-158), 3) := by decide +kernel
theorem dX4_pass_189 : decode cX4_pass 189 = .ok (.iload_n 2, 1) := by decide +kernel
theorem dX4_pass_190 : decode cX4_pass 190 = .ok (.ireturn, 1) := by decide +kernel
