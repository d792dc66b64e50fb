theorem d_O_init_0 : decode c_O_init 0 = .ok (.aload_n 0, 1) := by decide +kernel
theorem d_O_init_1 : decode c_O_init 1 = .ok (.invokespecial 1, 3) := by decide +kernel
theorem d_O_init_4 : decode c_O_init 4 = .ok (.aload_n 0, 1) := by decide +kernel
theorem d_O_init_5 : decode c_O_init 5 = .ok (.bipush 8, 2) := by decide +kernel
theorem d_O_init_7 : decode c_O_init 7 = .ok (.newarray .int, 2) := by decide +kernel
theorem d_O_init_9 : decode c_O_init 9 = .ok (.putfield 7, 3) := by decide +kernel
theorem d_O_init_12 : decode c_O_init 12 = .ok (.aload_n 0, 1) := by decide +kernel
theorem d_O_init_13 : decode c_O_init 13 = .ok (.bipush 8, 2) := by decide +kernel
theorem d_O_init_15 : decode c_O_init 15 = .ok (.newarray .boolean, 2) := by decide +kernel
theorem d_O_init_17 : decode c_O_init 17 = .ok (.putfield 13, 3) := by decide +kernel
theorem d_O_init_20 : decode c_O_init 20 = .ok (.aload_n 0, 1) := by decide +kernel
theorem d_O_init_21 : decode c_O_init 21 = .ok (.bipush 8, 2) := by decide +kernel
theorem d_O_init_23 : decode c_O_init 23 = .ok (.newarray .boolean, 2) := by decide +kernel
theorem d_O_init_25 : decode c_O_init 25 = .ok (.putfield 17, 3) := by decide +kernel
theorem d_O_init_28 : decode c_O_init 28 = .ok (.aload_n 0, 1) := by decide +kernel
theorem d_O_init_29 : decode c_O_init 29 = .ok (.bipush 8, 2) := by decide +kernel
theorem d_O_init_31 : decode c_O_init 31 = .ok (.newarray .int, 2) := by decide +kernel
theorem d_O_init_33 : decode c_O_init 33 = .ok (.putfield 20, 3) := by decide +kernel
theorem d_O_init_36 : decode c_O_init 36 = .ok (.aload_n 0, 1) := by decide +kernel
theorem d_O_init_37 : decode c_O_init 37 = .ok (.bipush 8, 2) := by decide +kernel
theorem d_O_init_39 : decode c_O_init 39 = .ok (.newarray .int, 2) := by decide +kernel
theorem d_O_init_41 : decode c_O_init 41 = .ok (.putfield 23, 3) := by decide +kernel
theorem d_O_init_44 : decode c_O_init 44 = .ok (.aload_n 0, 1) := by decide +kernel
theorem d_O_init_45 : decode c_O_init 45 = .ok (.bipush 8, 2) := by decide +kernel
theorem d_O_init_47 : decode c_O_init 47 = .ok (.newarray .int, 2) := by decide +kernel
theorem d_O_init_49 : decode c_O_init 49 = .ok (.putfield 26, 3) := by decide +kernel
theorem d_O_init_52 : decode c_O_init 52 = .ok (.aload_n 0, 1) := by decide +kernel
theorem d_O_init_53 : decode c_O_init 53 = .ok (.bipush 8, 2) := by decide +kernel
theorem d_O_init_55 : decode c_O_init 55 = .ok (.newarray .int, 2) := by decide +kernel
theorem d_O_init_57 : decode c_O_init 57 = .ok (.putfield 29, 3) := by decide +kernel
theorem d_O_init_60 : decode c_O_init 60 = .ok (.aload_n 0, 1) := by decide +kernel
theorem d_O_init_61 : decode c_O_init 61 = .ok (.bipush 8, 2) := by decide +kernel
theorem d_O_init_63 : decode c_O_init 63 = .ok (.newarray .int, 2) := by decide +kernel
theorem d_O_init_65 : decode c_O_init 65 = .ok (.putfield 32, 3) := by decide +kernel
theorem d_O_init_68 : decode c_O_init 68 = .ok (.aload_n 0, 1) := by decide +kernel
theorem d_O_init_69 : decode c_O_init 69 = .ok (.bipush 8, 2) := by decide +kernel
theorem d_O_init_71 : decode c_O_init 71 = .ok (.newarray .boolean, 2) := by decide +kernel
theorem d_O_init_73 : decode c_O_init 73 = .ok (.putfield 35, 3) := by decide +kernel
theorem d_O_init_76 : decode c_O_init 76 = .ok (.aload_n 0, 1) := by decide +kernel
theorem d_O_init_77 : decode c_O_init 77 = .ok (.bipush 8, 2) := by decide +kernel
theorem d_O_init_79 : decode c_O_init 79 = .ok (.newarray .int, 2) := by decide +kernel
theorem d_O_init_81 : decode c_O_init 81 = .ok (.putfield 38, 3) := by decide +kernel
theorem d_O_init_84 : decode c_O_init 84 = .ok (.aload_n 0, 1) := by decide +kernel
theorem d_O_init_85 : decode c_O_init 85 = .ok (.bipush 8, 2) := by decide +kernel
theorem d_O_init_87 : decode c_O_init 87 = .ok (.newarray .int, 2) := by decide +kernel
theorem d_O_init_89 : decode c_O_init 89 = .ok (.putfield 41, 3) := by decide +kernel
theorem d_O_init_92 : decode c_O_init 92 = .ok (.aload_n 0, 1) := by decide +kernel
theorem d_O_init_93 : decode c_O_init 93 = .ok (.bipush 8, 2) := by decide +kernel
theorem d_O_init_95 : decode c_O_init 95 = .ok (.newarray .int, 2) := by decide +kernel
theorem d_O_init_97 : decode c_O_init 97 = .ok (.putfield 44, 3) := by decide +kernel
theorem d_O_init_100 : decode c_O_init 100 = .ok (.aload_n 0, 1) := by decide +kernel
theorem d_O_init_101 : decode c_O_init 101 = .ok (.bipush 32, 2) := by decide +kernel
theorem d_O_init_103 : decode c_O_init 103 = .ok (.newarray .int, 2) := by decide +kernel
theorem d_O_init_105 : decode c_O_init 105 = .ok (.putfield 47, 3) := by decide +kernel
theorem d_O_init_108 : decode c_O_init 108 = .ok (.aload_n 0, 1) := by decide +kernel
theorem d_O_init_109 : decode c_O_init 109 = .ok (.bipush 8, 2) := by decide +kernel
theorem d_O_init_111 : decode c_O_init 111 = .ok (.newarray .long, 2) := by decide +kernel
theorem d_O_init_113 : decode c_O_init 113 = .ok (.putfield 50, 3) := by decide +kernel
theorem d_O_init_116 : decode c_O_init 116 = .ok (.aload_n 0, 1) := by decide +kernel
theorem d_O_init_117 : decode c_O_init 117 = .ok (.bipush 8, 2) := by decide +kernel
theorem d_O_init_119 : decode c_O_init 119 = .ok (.newarray .boolean, 2) := by decide +kernel
theorem d_O_init_121 : decode c_O_init 121 = .ok (.putfield 54, 3) := by decide +kernel
theorem d_O_init_124 : decode c_O_init 124 = .ok (.aload_n 0, 1) := by decide +kernel
theorem d_O_init_125 : decode c_O_init 125 = .ok (.bipush 8, 2) := by decide +kernel
theorem d_O_init_127 : decode c_O_init 127 = .ok (.newarray .int, 2) := by decide +kernel
theorem d_O_init_129 : decode c_O_init 129 = .ok (.putfield 57, 3) := by decide +kernel
theorem d_O_init_132 : decode c_O_init 132 = .ok (.aload_n 0, 1) := by decide +kernel
theorem d_O_init_133 : decode c_O_init 133 = .ok (.bipush 8, 2) := by decide +kernel
theorem d_O_init_135 : decode c_O_init 135 = .ok (.newarray .int, 2) := by decide +kernel
theorem d_O_init_137 : decode c_O_init 137 = .ok (.putfield 60, 3) := by decide +kernel
theorem d_O_init_140 : decode c_O_init 140 = .ok (.aload_n 0, 1) := by decide +kernel
theorem d_O_init_141 : decode c_O_init 141 = .ok (.bipush 8, 2) := by decide +kernel
theorem d_O_init_143 : decode c_O_init 143 = .ok (.newarray .int, 2) := by decide +kernel
theorem d_O_init_145 : decode c_O_init 145 = .ok (.putfield 63, 3) := by decide +kernel
theorem d_O_init_148 : decode c_O_init 148 = .ok (.aload_n 0, 1) := by decide +kernel
theorem d_O_init_149 : decode c_O_init 149 = .ok (.bipush 8, 2) := by decide +kernel
theorem d_O_init_151 : decode c_O_init 151 = .ok (.newarray .int, 2) := by decide +kernel
theorem d_O_init_153 : decode c_O_init 153 = .ok (.putfield 66, 3) := by decide +kernel
theorem d_O_init_156 : decode c_O_init 156 = .ok (.aload_n 0, 1) := by decide +kernel
theorem d_O_init_157 : decode c_O_init 157 = .ok (.bipush 8, 2) := by decide +kernel
theorem d_O_init_159 : decode c_O_init 159 = .ok (.newarray .int, 2) := by decide +kernel
theorem d_O_init_161 : decode c_O_init 161 = .ok (.putfield 69, 3) := by decide +kernel
theorem d_O_init_164 : decode c_O_init 164 = .ok (.aload_n 0, 1) := by decide +kernel
theorem d_O_init_165 : decode c_O_init 165 = .ok (.bipush 8, 2) := by decide +kernel
theorem d_O_init_167 : decode c_O_init 167 = .ok (.newarray .boolean, 2) := by decide +kernel
theorem d_O_init_169 : decode c_O_init 169 = .ok (.putfield 72, 3) := by decide +kernel
theorem d_O_init_172 : decode c_O_init 172 = .ok (.aload_n 0, 1) := by decide +kernel
theorem d_O_init_173 : decode c_O_init 173 = .ok (.bipush 8, 2) := by decide +kernel
theorem d_O_init_175 : decode c_O_init 175 = .ok (.newarray .boolean, 2) := by decide +kernel
theorem d_O_init_177 : decode c_O_init 177 = .ok (.putfield 75, 3) := by decide +kernel
theorem d_O_init_180 : decode c_O_init 180 = .ok (.aload_n 0, 1) := by decide +kernel
theorem d_O_init_181 : decode c_O_init 181 = .ok (.bipush 8, 2) := by decide +kernel
theorem d_O_init_183 : decode c_O_init 183 = .ok (.newarray .int, 2) := by decide +kernel
theorem d_O_init_185 : decode c_O_init 185 = .ok (.putfield 78, 3) := by decide +kernel
theorem d_O_init_188 : decode c_O_init 188 = .ok (.aload_n 0, 1) := by decide +kernel
theorem d_O_init_189 : decode c_O_init 189 = .ok (.bipush 8, 2) := by decide +kernel
theorem d_O_init_191 : decode c_O_init 191 = .ok (.newarray .boolean, 2) := by decide +kernel
theorem d_O_init_193 : decode c_O_init 193 = .ok (.putfield 81, 3) := by decide +kernel
theorem d_O_init_196 : decode c_O_init 196 = .ok (.aload_n 0, 1) := by decide +kernel
theorem d_O_init_197 : decode c_O_init 197 = .ok (.bipush 8, 2) := by decide +kernel
theorem d_O_init_199 : decode c_O_init 199 = .ok (.newarray .int, 2) := by decide +kernel
theorem d_O_init_201 : decode c_O_init 201 = .ok (.putfield 84, 3) := by decide +kernel
theorem d_O_init_204 : decode c_O_init 204 = .ok (.aload_n 0, 1) := by decide +kernel
theorem d_O_init_205 : decode c_O_init 205 = .ok (.bipush 8, 2) := by decide +kernel
theorem d_O_init_207 : decode c_O_init 207 = .ok (.newarray .int, 2) := by decide +kernel
theorem d_O_init_209 : decode c_O_init 209 = .ok (.putfield 87, 3) := by decide +kernel
theorem d_O_init_212 : decode c_O_init 212 = .ok (.aload_n 0, 1) := by decide +kernel
theorem d_O_init_213 : decode c_O_init 213 = .ok (.bipush 8, 2) := by decide +kernel
theorem d_O_init_215 : decode c_O_init 215 = .ok (.newarray .int, 2) := by decide +kernel
theorem d_O_init_217 : decode c_O_init 217 = .ok (.putfield 90, 3) := by decide +kernel
theorem d_O_init_220 : decode c_O_init 220 = .ok (.aload_n 0, 1) := by decide +kernel
theorem d_O_init_221 : decode c_O_init 221 = .ok (.sipush 128, 3) := by decide +kernel
theorem d_O_init_224 : decode c_O_init 224 = .ok (.newarray .int, 2) := by decide +kernel
theorem d_O_init_226 : decode c_O_init 226 = .ok (.putfield 93, 3) := by decide +kernel
theorem d_O_init_229 : decode c_O_init 229 = .ok (.aload_n 0, 1) := by decide +kernel
theorem d_O_init_230 : decode c_O_init 230 = .ok (.sipush 128, 3) := by decide +kernel
theorem d_O_init_233 : decode c_O_init 233 = .ok (.newarray .int, 2) := by decide +kernel
theorem d_O_init_235 : decode c_O_init 235 = .ok (.putfield 96, 3) := by decide +kernel
theorem d_O_init_238 : decode c_O_init 238 = .ok (.aload_n 0, 1) := by decide +kernel
theorem d_O_init_239 : decode c_O_init 239 = .ok (.bipush 8, 2) := by decide +kernel
theorem d_O_init_241 : decode c_O_init 241 = .ok (.newarray .int, 2) := by decide +kernel
theorem d_O_init_243 : decode c_O_init 243 = .ok (.putfield 99, 3) := by decide +kernel
theorem d_O_init_246 : decode c_O_init 246 = .ok (.aload_n 0, 1) := by decide +kernel
theorem d_O_init_247 : decode c_O_init 247 = .ok (.bipush 8, 2) := by decide +kernel
theorem d_O_init_249 : decode c_O_init 249 = .ok (.newarray .int, 2) := by decide +kernel
theorem d_O_init_251 : decode c_O_init 251 = .ok (.putfield 102, 3) := by decide +kernel
theorem d_O_init_254 : decode c_O_init 254 = .ok (.aload_n 0, 1) := by decide +kernel
theorem d_O_init_255 : decode c_O_init 255 = .ok (.sipush 200, 3) := by decide +kernel
theorem d_O_init_258 : decode c_O_init 258 = .ok (.newarray .int, 2) := by decide +kernel
theorem d_O_init_260 : decode c_O_init 260 = .ok (.putfield 105, 3) := by decide +kernel
theorem d_O_init_263 : decode c_O_init 263 = .ok (.aload_n 0, 1) := by decide +kernel
theorem d_O_init_264 : decode c_O_init 264 = .ok (.sipush 200, 3) := by decide +kernel
theorem d_O_init_267 : decode c_O_init 267 = .ok (.newarray .int, 2) := by decide +kernel
theorem d_O_init_269 : decode c_O_init 269 = .ok (.putfield 108, 3) := by decide +kernel
theorem d_O_init_272 : decode c_O_init 272 = .ok (.return_, 1) := by decide +kernel
theorem d_O_none_0 : decode c_O_none 0 = .ok (.iload_n 1, 1) := by decide +kernel
theorem d_O_none_1 : decode c_O_none 1 = .ok (.ifCond .lt 11, 3) := by decide +kernel
theorem d_O_none_4 : decode c_O_none 4 = .ok (.iload_n 1, 1) := by decide +kernel
theorem d_O_none_5 : decode c_O_none 5 = .ok (.aload_n 0, 1) := by decide +kernel
theorem d_O_none_6 : decode c_O_none 6 = .ok (.getfield 111, 3) := by decide +kernel
theorem d_O_none_9 : decode c_O_none 9 = .ok (.if_icmp .lt 7, 3) := by decide +kernel
theorem d_O_none_12 : decode c_O_none 12 = .ok (.iconst 1, 1) := by decide +kernel
theorem d_O_none_13 : decode c_O_none 13 = .ok (.goto 4, 3) := by decide +kernel
theorem d_O_none_16 : decode c_O_none 16 = .ok (.iconst 0, 1) := by decide +kernel
theorem d_O_none_17 : decode c_O_none 17 = .ok (.ireturn, 1) := by decide +kernel
theorem d_O_relay_0 : decode c_O_relay 0 = .ok (.aload_n 0, 1) := by decide +kernel
theorem d_O_relay_1 : decode c_O_relay 1 = .ok (.getfield 111, 3) := by decide +kernel
theorem d_O_relay_4 : decode c_O_relay 4 = .ok (.bipush 8, 2) := by decide +kernel
theorem d_O_relay_6 : decode c_O_relay 6 = .ok (.if_icmp .eq 33, 3) := by decide +kernel
theorem d_O_relay_9 : decode c_O_relay 9 = .ok (.aload_n 0, 1) := by decide +kernel
theorem d_O_relay_10 : decode c_O_relay 10 = .ok (.getfield 115, 3) := by decide +kernel
theorem d_O_relay_13 : decode c_O_relay 13 = .ok (.ifCond .ne 26, 3) := by decide +kernel
theorem d_O_relay_16 : decode c_O_relay 16 = .ok (.aload_n 0, 1) := by decide +kernel
theorem d_O_relay_17 : decode c_O_relay 17 = .ok (.getfield 111, 3) := by decide +kernel
theorem d_O_relay_20 : decode c_O_relay 20 = .ok (.ifCond .ne 11, 3) := by decide +kernel
theorem d_O_relay_23 : decode c_O_relay 23 = .ok (.iload_n 1, 1) := by decide +kernel
theorem d_O_relay_24 : decode c_O_relay 24 = .ok (.iconst (-1), 1) := by decide +kernel
theorem d_O_relay_25 : decode c_O_relay 25 = .ok (.if_icmp .eq 16, 3) := by decide +kernel
theorem d_O_relay_28 : decode c_O_relay 28 = .ok (.goto 11, 3) := by decide +kernel
theorem d_O_relay_31 : decode c_O_relay 31 = .ok (.aload_n 0, 1) := by decide +kernel
theorem d_O_relay_32 : decode c_O_relay 32 = .ok (.iload_n 1, 1) := by decide +kernel
theorem d_O_relay_33 : decode c_O_relay 33 = .ok (.invokevirtual 118, 3) := by decide +kernel
theorem d_O_relay_36 : decode c_O_relay 36 = .ok (.ifCond .eq 5, 3) := by decide +kernel
theorem d_O_relay_39 : decode c_O_relay 39 = .ok (.iconst (-1), 1) := by decide +kernel
theorem d_O_relay_40 : decode c_O_relay 40 = .ok (.ireturn, 1) := by decide +kernel
theorem d_O_relay_41 : decode c_O_relay 41 = .ok (.aload_n 0, 1) := by decide +kernel
theorem d_O_relay_42 : decode c_O_relay 42 = .ok (.getfield 7, 3) := by decide +kernel
theorem d_O_relay_45 : decode c_O_relay 45 = .ok (.aload_n 0, 1) := by decide +kernel
theorem d_O_relay_46 : decode c_O_relay 46 = .ok (.getfield 111, 3) := by decide +kernel
theorem d_O_relay_49 : decode c_O_relay 49 = .ok (.iload_n 1, 1) := by decide +kernel
theorem d_O_relay_50 : decode c_O_relay 50 = .ok (.iastore, 1) := by decide +kernel
theorem d_O_relay_51 : decode c_O_relay 51 = .ok (.aload_n 0, 1) := by decide +kernel
theorem d_O_relay_52 : decode c_O_relay 52 = .ok (.getfield 13, 3) := by decide +kernel
theorem d_O_relay_55 : decode c_O_relay 55 = .ok (.aload_n 0, 1) := by decide +kernel
theorem d_O_relay_56 : decode c_O_relay 56 = .ok (.getfield 111, 3) := by decide +kernel
theorem d_O_relay_59 : decode c_O_relay 59 = .ok (.iconst 1, 1) := by decide +kernel
theorem d_O_relay_60 : decode c_O_relay 60 = .ok (.bastore, 1) := by decide +kernel
theorem d_O_relay_61 : decode c_O_relay 61 = .ok (.aload_n 0, 1) := by decide +kernel
theorem d_O_relay_62 : decode c_O_relay 62 = .ok (.getfield 29, 3) := by decide +kernel
theorem d_O_relay_65 : decode c_O_relay 65 = .ok (.aload_n 0, 1) := by decide +kernel
theorem d_O_relay_66 : decode c_O_relay 66 = .ok (.getfield 111, 3) := by decide +kernel
theorem d_O_relay_69 : decode c_O_relay 69 = .ok (.bipush 100, 2) := by decide +kernel
theorem d_O_relay_71 : decode c_O_relay 71 = .ok (.iastore, 1) := by decide +kernel
theorem d_O_relay_72 : decode c_O_relay 72 = .ok (.aload_n 0, 1) := by decide +kernel
theorem d_O_relay_73 : decode c_O_relay 73 = .ok (.getfield 32, 3) := by decide +kernel
theorem d_O_relay_76 : decode c_O_relay 76 = .ok (.aload_n 0, 1) := by decide +kernel
theorem d_O_relay_77 : decode c_O_relay 77 = .ok (.getfield 111, 3) := by decide +kernel
theorem d_O_relay_80 : decode c_O_relay 80 = .ok (.iconst 5, 1) := by decide +kernel
theorem d_O_relay_81 : decode c_O_relay 81 = .ok (.iastore, 1) := by decide +kernel
theorem d_O_relay_82 : decode c_O_relay 82 = .ok (.aload_n 0, 1) := by decide +kernel
theorem d_O_relay_83 : decode c_O_relay 83 = .ok (.getfield 41, 3) := by decide +kernel
theorem d_O_relay_86 : decode c_O_relay 86 = .ok (.aload_n 0, 1) := by decide +kernel
theorem d_O_relay_87 : decode c_O_relay 87 = .ok (.getfield 111, 3) := by decide +kernel
theorem d_O_relay_90 : decode c_O_relay 90 = .ok (.bipush 10, 2) := by decide +kernel
theorem d_O_relay_92 : decode c_O_relay 92 = .ok (.iastore, 1) := by decide +kernel
theorem d_O_relay_93 : decode c_O_relay 93 = .ok (.aload_n 0, 1) := by decide +kernel
theorem d_O_relay_94 : decode c_O_relay 94 = .ok (.getfield 44, 3) := by decide +kernel
theorem d_O_relay_97 : decode c_O_relay 97 = .ok (.aload_n 0, 1) := by decide +kernel
theorem d_O_relay_98 : decode c_O_relay 98 = .ok (.getfield 111, 3) := by decide +kernel
theorem d_O_relay_101 : decode c_O_relay 101 = .ok (.iconst 1, 1) := by decide +kernel
theorem d_O_relay_102 : decode c_O_relay 102 = .ok (.iastore, 1) := by decide +kernel
theorem d_O_relay_103 : decode c_O_relay 103 = .ok (.aload_n 0, 1) := by decide +kernel
theorem d_O_relay_104 : decode c_O_relay 104 = .ok (.dup, 1) := by decide +kernel
theorem d_O_relay_105 : decode c_O_relay 105 = .ok (.getfield 111, 3) := by decide +kernel
theorem d_O_relay_108 : decode c_O_relay 108 = .ok (.iconst 1, 1) := by decide +kernel
theorem d_O_relay_109 : decode c_O_relay 109 = .ok (.iadd, 1) := by decide +kernel
theorem d_O_relay_110 : decode c_O_relay 110 = .ok (.putfield 111, 3) := by decide +kernel
theorem d_O_relay_113 : decode c_O_relay 113 = .ok (.aload_n 0, 1) := by decide +kernel
theorem d_O_relay_114 : decode c_O_relay 114 = .ok (.getfield 111, 3) := by decide +kernel
theorem d_O_relay_117 : decode c_O_relay 117 = .ok (.iconst 1, 1) := by decide +kernel
theorem d_O_relay_118 : decode c_O_relay 118 = .ok (.isub, 1) := by decide +kernel
theorem d_O_relay_119 : decode c_O_relay 119 = .ok (.ireturn, 1) := by decide +kernel
theorem d_O_settings_0 : decode c_O_settings 0 = .ok (.aload_n 0, 1) := by decide +kernel
theorem d_O_settings_1 : decode c_O_settings 1 = .ok (.iload_n 1, 1) := by decide +kernel
theorem d_O_settings_2 : decode c_O_settings 2 = .ok (.invokevirtual 118, 3) := by decide +kernel
theorem d_O_settings_5 : decode c_O_settings 5 = .ok (.ifCond .ne 38, 3) := by decide +kernel
theorem d_O_settings_8 : decode c_O_settings 8 = .ok (.iload_n 2, 1) := by decide +kernel
theorem d_O_settings_9 : decode c_O_settings 9 = .ok (.ifCond .lt 34, 3) := by decide +kernel
theorem d_O_settings_12 : decode c_O_settings 12 = .ok (.iload_n 2, 1) := by decide +kernel
theorem d_O_settings_13 : decode c_O_settings 13 = .ok (.iconst 2, 1) := by decide +kernel
theorem d_O_settings_14 : decode c_O_settings 14 = .ok (.if_icmp .gt 29, 3) := by decide +kernel
theorem d_O_settings_17 : decode c_O_settings 17 = .ok (.iload_n 3, 1) := by decide +kernel
theorem d_O_settings_18 : decode c_O_settings 18 = .ok (.iconst 1, 1) := by decide +kernel
theorem d_O_settings_19 : decode c_O_settings 19 = .ok (.if_icmp .lt 24, 3) := by decide +kernel
theorem d_O_settings_22 : decode c_O_settings 22 = .ok (.iload_n 3, 1) := by decide +kernel
theorem d_O_settings_23 : decode c_O_settings 23 = .ok (.sipush 5000, 3) := by decide +kernel
theorem d_O_settings_26 : decode c_O_settings 26 = .ok (.if_icmp .gt 17, 3) := by decide +kernel
theorem d_O_settings_29 : decode c_O_settings 29 = .ok (.iload 4, 2) := by decide +kernel
theorem d_O_settings_31 : decode c_O_settings 31 = .ok (.iconst 1, 1) := by decide +kernel
theorem d_O_settings_32 : decode c_O_settings 32 = .ok (.if_icmp .lt 11, 3) := by decide +kernel
theorem d_O_settings_35 : decode c_O_settings 35 = .ok (.iload 4, 2) := by decide +kernel
theorem d_O_settings_37 : decode c_O_settings 37 = .ok (.sipush 1000, 3) := by decide +kernel
theorem d_O_settings_40 : decode c_O_settings 40 = .ok (.if_icmp .le 5, 3) := by decide +kernel
theorem d_O_settings_43 : decode c_O_settings 43 = .ok (.iconst 0, 1) := by decide +kernel
theorem d_O_settings_44 : decode c_O_settings 44 = .ok (.ireturn, 1) := by decide +kernel
theorem d_O_settings_45 : decode c_O_settings 45 = .ok (.aload_n 0, 1) := by decide +kernel
theorem d_O_settings_46 : decode c_O_settings 46 = .ok (.getfield 26, 3) := by decide +kernel
theorem d_O_settings_49 : decode c_O_settings 49 = .ok (.iload_n 1, 1) := by decide +kernel
theorem d_O_settings_50 : decode c_O_settings 50 = .ok (.iload_n 2, 1) := by decide +kernel
theorem d_O_settings_51 : decode c_O_settings 51 = .ok (.iastore, 1) := by decide +kernel
theorem d_O_settings_52 : decode c_O_settings 52 = .ok (.aload_n 0, 1) := by decide +kernel
theorem d_O_settings_53 : decode c_O_settings 53 = .ok (.getfield 29, 3) := by decide +kernel
theorem d_O_settings_56 : decode c_O_settings 56 = .ok (.iload_n 1, 1) := by decide +kernel
theorem d_O_settings_57 : decode c_O_settings 57 = .ok (.iload_n 3, 1) := by decide +kernel
theorem d_O_settings_58 : decode c_O_settings 58 = .ok (.iastore, 1) := by decide +kernel
theorem d_O_settings_59 : decode c_O_settings 59 = .ok (.aload_n 0, 1) := by decide +kernel
theorem d_O_settings_60 : decode c_O_settings 60 = .ok (.getfield 32, 3) := by decide +kernel
theorem d_O_settings_63 : decode c_O_settings 63 = .ok (.iload_n 1, 1) := by decide +kernel
theorem d_O_settings_64 : decode c_O_settings 64 = .ok (.iload 4, 2) := by decide +kernel
theorem d_O_settings_66 : decode c_O_settings 66 = .ok (.iastore, 1) := by decide +kernel
theorem d_O_settings_67 : decode c_O_settings 67 = .ok (.iconst 1, 1) := by decide +kernel
theorem d_O_settings_68 : decode c_O_settings 68 = .ok (.ireturn, 1) := by decide +kernel
theorem d_O_options_0 : decode c_O_options 0 = .ok (.aload_n 0, 1) := by decide +kernel
theorem d_O_options_1 : decode c_O_options 1 = .ok (.iload_n 1, 1) := by decide +kernel
theorem d_O_options_2 : decode c_O_options 2 = .ok (.invokevirtual 118, 3) := by decide +kernel
theorem d_O_options_5 : decode c_O_options 5 = .ok (.ifCond .ne 25, 3) := by decide +kernel
theorem d_O_options_8 : decode c_O_options 8 = .ok (.iload_n 3, 1) := by decide +kernel
theorem d_O_options_9 : decode c_O_options 9 = .ok (.ifCond .lt 21, 3) := by decide +kernel
theorem d_O_options_12 : decode c_O_options 12 = .ok (.iload_n 3, 1) := by decide +kernel
theorem d_O_options_13 : decode c_O_options 13 = .ok (.iconst 3, 1) := by decide +kernel
theorem d_O_options_14 : decode c_O_options 14 = .ok (.if_icmp .gt 16, 3) := by decide +kernel
theorem d_O_options_17 : decode c_O_options 17 = .ok (.iload 4, 2) := by decide +kernel
theorem d_O_options_19 : decode c_O_options 19 = .ok (.iconst 1, 1) := by decide +kernel
theorem d_O_options_20 : decode c_O_options 20 = .ok (.if_icmp .lt 10, 3) := by decide +kernel
theorem d_O_options_23 : decode c_O_options 23 = .ok (.iload 4, 2) := by decide +kernel
theorem d_O_options_25 : decode c_O_options 25 = .ok (.bipush 50, 2) := by decide +kernel
theorem d_O_options_27 : decode c_O_options 27 = .ok (.if_icmp .le 5, 3) := by decide +kernel
theorem d_O_options_30 : decode c_O_options 30 = .ok (.iconst 0, 1) := by decide +kernel
theorem d_O_options_31 : decode c_O_options 31 = .ok (.ireturn, 1) := by decide +kernel
theorem d_O_options_32 : decode c_O_options 32 = .ok (.aload_n 0, 1) := by decide +kernel
theorem d_O_options_33 : decode c_O_options 33 = .ok (.getfield 35, 3) := by decide +kernel
theorem d_O_options_36 : decode c_O_options 36 = .ok (.iload_n 1, 1) := by decide +kernel
theorem d_O_options_37 : decode c_O_options 37 = .ok (.iload_n 2, 1) := by decide +kernel
theorem d_O_options_38 : decode c_O_options 38 = .ok (.bastore, 1) := by decide +kernel
theorem d_O_options_39 : decode c_O_options 39 = .ok (.aload_n 0, 1) := by decide +kernel
theorem d_O_options_40 : decode c_O_options 40 = .ok (.getfield 38, 3) := by decide +kernel
theorem d_O_options_43 : decode c_O_options 43 = .ok (.iload_n 1, 1) := by decide +kernel
theorem d_O_options_44 : decode c_O_options 44 = .ok (.iload_n 3, 1) := by decide +kernel
theorem d_O_options_45 : decode c_O_options 45 = .ok (.iastore, 1) := by decide +kernel
theorem d_O_options_46 : decode c_O_options 46 = .ok (.aload_n 0, 1) := by decide +kernel
theorem d_O_options_47 : decode c_O_options 47 = .ok (.getfield 41, 3) := by decide +kernel
theorem d_O_options_50 : decode c_O_options 50 = .ok (.iload_n 1, 1) := by decide +kernel
theorem d_O_options_51 : decode c_O_options 51 = .ok (.iload 4, 2) := by decide +kernel
theorem d_O_options_53 : decode c_O_options 53 = .ok (.iastore, 1) := by decide +kernel
theorem d_O_options_54 : decode c_O_options 54 = .ok (.iconst 1, 1) := by decide +kernel
theorem d_O_options_55 : decode c_O_options 55 = .ok (.ireturn, 1) := by decide +kernel
theorem d_O_load_0 : decode c_O_load 0 = .ok (.aload_n 0, 1) := by decide +kernel
theorem d_O_load_1 : decode c_O_load 1 = .ok (.iload_n 1, 1) := by decide +kernel
theorem d_O_load_2 : decode c_O_load 2 = .ok (.invokevirtual 118, 3) := by decide +kernel
theorem d_O_load_5 : decode c_O_load 5 = .ok (.ifCond .ne 14, 3) := by decide +kernel
theorem d_O_load_8 : decode c_O_load 8 = .ok (.iload_n 2, 1) := by decide +kernel
theorem d_O_load_9 : decode c_O_load 9 = .ok (.ifCond .lt 10, 3) := by decide +kernel
theorem d_O_load_12 : decode c_O_load 12 = .ok (.iload_n 2, 1) := by decide +kernel
theorem d_O_load_13 : decode c_O_load 13 = .ok (.sipush 2000, 3) := by decide +kernel
theorem d_O_load_16 : decode c_O_load 16 = .ok (.if_icmp .le 5, 3) := by decide +kernel
theorem d_O_load_19 : decode c_O_load 19 = .ok (.iconst 0, 1) := by decide +kernel
theorem d_O_load_20 : decode c_O_load 20 = .ok (.ireturn, 1) := by decide +kernel
theorem d_O_load_21 : decode c_O_load 21 = .ok (.aload_n 0, 1) := by decide +kernel
theorem d_O_load_22 : decode c_O_load 22 = .ok (.getfield 20, 3) := by decide +kernel
theorem d_O_load_25 : decode c_O_load 25 = .ok (.iload_n 1, 1) := by decide +kernel
theorem d_O_load_26 : decode c_O_load 26 = .ok (.iload_n 2, 1) := by decide +kernel
theorem d_O_load_27 : decode c_O_load 27 = .ok (.iastore, 1) := by decide +kernel
theorem d_O_load_28 : decode c_O_load 28 = .ok (.iconst 1, 1) := by decide +kernel
theorem d_O_load_29 : decode c_O_load 29 = .ok (.ireturn, 1) := by decide +kernel
theorem d_O_fault_0 : decode c_O_fault 0 = .ok (.aload_n 0, 1) := by decide +kernel
theorem d_O_fault_1 : decode c_O_fault 1 = .ok (.iload_n 1, 1) := by decide +kernel
theorem d_O_fault_2 : decode c_O_fault 2 = .ok (.invokevirtual 118, 3) := by decide +kernel
theorem d_O_fault_5 : decode c_O_fault 5 = .ok (.ifCond .ne 14, 3) := by decide +kernel
theorem d_O_fault_8 : decode c_O_fault 8 = .ok (.iload_n 2, 1) := by decide +kernel
theorem d_O_fault_9 : decode c_O_fault 9 = .ok (.ifCond .lt 10, 3) := by decide +kernel
theorem d_O_fault_12 : decode c_O_fault 12 = .ok (.iload_n 2, 1) := by decide +kernel
theorem d_O_fault_13 : decode c_O_fault 13 = .ok (.sipush 20000, 3) := by decide +kernel
theorem d_O_fault_16 : decode c_O_fault 16 = .ok (.if_icmp .le 5, 3) := by decide +kernel
theorem d_O_fault_19 : decode c_O_fault 19 = .ok (.iconst 0, 1) := by decide +kernel
theorem d_O_fault_20 : decode c_O_fault 20 = .ok (.ireturn, 1) := by decide +kernel
theorem d_O_fault_21 : decode c_O_fault 21 = .ok (.aload_n 0, 1) := by decide +kernel
theorem d_O_fault_22 : decode c_O_fault 22 = .ok (.getfield 23, 3) := by decide +kernel
theorem d_O_fault_25 : decode c_O_fault 25 = .ok (.iload_n 1, 1) := by decide +kernel
theorem d_O_fault_26 : decode c_O_fault 26 = .ok (.iload_n 2, 1) := by decide +kernel
theorem d_O_fault_27 : decode c_O_fault 27 = .ok (.iastore, 1) := by decide +kernel
theorem d_O_fault_28 : decode c_O_fault 28 = .ok (.iconst 1, 1) := by decide +kernel
theorem d_O_fault_29 : decode c_O_fault 29 = .ok (.ireturn, 1) := by decide +kernel
theorem d_O_jam_0 : decode c_O_jam 0 = .ok (.aload_n 0, 1) := by decide +kernel
theorem d_O_jam_1 : decode c_O_jam 1 = .ok (.iload_n 1, 1) := by decide +kernel
theorem d_O_jam_2 : decode c_O_jam 2 = .ok (.invokevirtual 118, 3) := by decide +kernel
theorem d_O_jam_5 : decode c_O_jam 5 = .ok (.ifCond .eq 5, 3) := by decide +kernel
theorem d_O_jam_8 : decode c_O_jam 8 = .ok (.iconst 0, 1) := by decide +kernel
theorem d_O_jam_9 : decode c_O_jam 9 = .ok (.ireturn, 1) := by decide +kernel
theorem d_O_jam_10 : decode c_O_jam 10 = .ok (.aload_n 0, 1) := by decide +kernel
theorem d_O_jam_11 : decode c_O_jam 11 = .ok (.getfield 17, 3) := by decide +kernel
theorem d_O_jam_14 : decode c_O_jam 14 = .ok (.iload_n 1, 1) := by decide +kernel
theorem d_O_jam_15 : decode c_O_jam 15 = .ok (.iload_n 2, 1) := by decide +kernel
theorem d_O_jam_16 : decode c_O_jam 16 = .ok (.bastore, 1) := by decide +kernel
theorem d_O_jam_17 : decode c_O_jam 17 = .ok (.iconst 1, 1) := by decide +kernel
theorem d_O_jam_18 : decode c_O_jam 18 = .ok (.ireturn, 1) := by decide +kernel
theorem d_O_line_0 : decode c_O_line 0 = .ok (.aload_n 0, 1) := by decide +kernel
theorem d_O_line_1 : decode c_O_line 1 = .ok (.iload_n 1, 1) := by decide +kernel
theorem d_O_line_2 : decode c_O_line 2 = .ok (.invokevirtual 118, 3) := by decide +kernel
theorem d_O_line_5 : decode c_O_line 5 = .ok (.ifCond .ne 13, 3) := by decide +kernel
theorem d_O_line_8 : decode c_O_line 8 = .ok (.iload_n 2, 1) := by decide +kernel
theorem d_O_line_9 : decode c_O_line 9 = .ok (.ifCond .lt 9, 3) := by decide +kernel
theorem d_O_line_12 : decode c_O_line 12 = .ok (.iload_n 2, 1) := by decide +kernel
theorem d_O_line_13 : decode c_O_line 13 = .ok (.bipush 8, 2) := by decide +kernel
theorem d_O_line_15 : decode c_O_line 15 = .ok (.if_icmp .le 5, 3) := by decide +kernel
theorem d_O_line_18 : decode c_O_line 18 = .ok (.iconst 0, 1) := by decide +kernel
theorem d_O_line_19 : decode c_O_line 19 = .ok (.ireturn, 1) := by decide +kernel
theorem d_O_line_20 : decode c_O_line 20 = .ok (.aload_n 0, 1) := by decide +kernel
theorem d_O_line_21 : decode c_O_line 21 = .ok (.getfield 44, 3) := by decide +kernel
theorem d_O_line_24 : decode c_O_line 24 = .ok (.iload_n 1, 1) := by decide +kernel
theorem d_O_line_25 : decode c_O_line 25 = .ok (.iload_n 2, 1) := by decide +kernel
theorem d_O_line_26 : decode c_O_line 26 = .ok (.iastore, 1) := by decide +kernel
theorem d_O_line_27 : decode c_O_line 27 = .ok (.iconst 1, 1) := by decide +kernel
theorem d_O_line_28 : decode c_O_line 28 = .ok (.ireturn, 1) := by decide +kernel
theorem d_O_operate_0 : decode c_O_operate 0 = .ok (.aload_n 0, 1) := by decide +kernel
theorem d_O_operate_1 : decode c_O_operate 1 = .ok (.iload_n 1, 1) := by decide +kernel
theorem d_O_operate_2 : decode c_O_operate 2 = .ok (.invokevirtual 118, 3) := by decide +kernel
theorem d_O_operate_5 : decode c_O_operate 5 = .ok (.ifCond .eq 5, 3) := by decide +kernel
theorem d_O_operate_8 : decode c_O_operate 8 = .ok (.iconst 0, 1) := by decide +kernel
theorem d_O_operate_9 : decode c_O_operate 9 = .ok (.ireturn, 1) := by decide +kernel
theorem d_O_operate_10 : decode c_O_operate 10 = .ok (.aload_n 0, 1) := by decide +kernel
theorem d_O_operate_11 : decode c_O_operate 11 = .ok (.getfield 13, 3) := by decide +kernel
theorem d_O_operate_14 : decode c_O_operate 14 = .ok (.iload_n 1, 1) := by decide +kernel
theorem d_O_operate_15 : decode c_O_operate 15 = .ok (.iload_n 2, 1) := by decide +kernel
theorem d_O_operate_16 : decode c_O_operate 16 = .ok (.bastore, 1) := by decide +kernel
theorem d_O_operate_17 : decode c_O_operate 17 = .ok (.aload_n 0, 1) := by decide +kernel
theorem d_O_operate_18 : decode c_O_operate 18 = .ok (.getfield 66, 3) := by decide +kernel
theorem d_O_operate_21 : decode c_O_operate 21 = .ok (.iload_n 1, 1) := by decide +kernel
theorem d_O_operate_22 : decode c_O_operate 22 = .ok (.iconst 0, 1) := by decide +kernel
theorem d_O_operate_23 : decode c_O_operate 23 = .ok (.iastore, 1) := by decide +kernel
theorem d_O_operate_24 : decode c_O_operate 24 = .ok (.aload_n 0, 1) := by decide +kernel
theorem d_O_operate_25 : decode c_O_operate 25 = .ok (.getfield 75, 3) := by decide +kernel
theorem d_O_operate_28 : decode c_O_operate 28 = .ok (.iload_n 1, 1) := by decide +kernel
theorem d_O_operate_29 : decode c_O_operate 29 = .ok (.iconst 0, 1) := by decide +kernel
theorem d_O_operate_30 : decode c_O_operate 30 = .ok (.bastore, 1) := by decide +kernel
theorem d_O_operate_31 : decode c_O_operate 31 = .ok (.aload_n 0, 1) := by decide +kernel
theorem d_O_operate_32 : decode c_O_operate 32 = .ok (.getfield 81, 3) := by decide +kernel
theorem d_O_operate_35 : decode c_O_operate 35 = .ok (.iload_n 1, 1) := by decide +kernel
theorem d_O_operate_36 : decode c_O_operate 36 = .ok (.iload_n 2, 1) := by decide +kernel
theorem d_O_operate_37 : decode c_O_operate 37 = .ok (.ifCond .ne 7, 3) := by decide +kernel
theorem d_O_operate_40 : decode c_O_operate 40 = .ok (.iconst 1, 1) := by decide +kernel
theorem d_O_operate_41 : decode c_O_operate 41 = .ok (.goto 4, 3) := by decide +kernel
theorem d_O_operate_44 : decode c_O_operate 44 = .ok (.iconst 0, 1) := by decide +kernel
theorem d_O_operate_45 : decode c_O_operate 45 = .ok (.bastore, 1) := by decide +kernel
theorem d_O_operate_46 : decode c_O_operate 46 = .ok (.aload_n 0, 1) := by decide +kernel
theorem d_O_operate_47 : decode c_O_operate 47 = .ok (.getfield 84, 3) := by decide +kernel
theorem d_O_operate_50 : decode c_O_operate 50 = .ok (.iload_n 1, 1) := by decide +kernel
theorem d_O_operate_51 : decode c_O_operate 51 = .ok (.iconst 0, 1) := by decide +kernel
theorem d_O_operate_52 : decode c_O_operate 52 = .ok (.iastore, 1) := by decide +kernel
theorem d_O_operate_53 : decode c_O_operate 53 = .ok (.iconst 1, 1) := by decide +kernel
theorem d_O_operate_54 : decode c_O_operate 54 = .ok (.ireturn, 1) := by decide +kernel
theorem d_O_flow_0 : decode c_O_flow 0 = .ok (.iconst 0, 1) := by decide +kernel
theorem d_O_flow_1 : decode c_O_flow 1 = .ok (.istore_n 2, 1) := by decide +kernel
theorem d_O_flow_2 : decode c_O_flow 2 = .ok (.iconst 0, 1) := by decide +kernel
theorem d_O_flow_3 : decode c_O_flow 3 = .ok (.istore_n 3, 1) := by decide +kernel
theorem d_O_flow_4 : decode c_O_flow 4 = .ok (.iload_n 3, 1) := by decide +kernel
theorem d_O_flow_5 : decode c_O_flow 5 = .ok (.aload_n 0, 1) := by decide +kernel
theorem d_O_flow_6 : decode c_O_flow 6 = .ok (.getfield 111, 3) := by decide +kernel
theorem d_O_flow_9 : decode c_O_flow 9 = .ok (.if_icmp .ge 118, 3) := by decide +kernel
theorem d_O_flow_12 : decode c_O_flow 12 = .ok (.iconst 0, 1) := by decide +kernel
theorem d_O_flow_13 : decode c_O_flow 13 = .ok (.istore 4, 2) := by decide +kernel
theorem d_O_flow_15 : decode c_O_flow 15 = .ok (.iconst 1, 1) := by decide +kernel
theorem d_O_flow_16 : decode c_O_flow 16 = .ok (.istore 5, 2) := by decide +kernel
theorem d_O_flow_18 : decode c_O_flow 18 = .ok (.iload_n 3, 1) := by decide +kernel
theorem d_O_flow_19 : decode c_O_flow 19 = .ok (.istore 6, 2) := by decide +kernel
theorem d_O_flow_21 : decode c_O_flow 21 = .ok (.iconst 0, 1) := by decide +kernel
theorem d_O_flow_22 : decode c_O_flow 22 = .ok (.istore 7, 2) := by decide +kernel
theorem d_O_flow_24 : decode c_O_flow 24 = .ok (.iload 7, 2) := by decide +kernel
theorem d_O_flow_26 : decode c_O_flow 26 = .ok (.bipush 8, 2) := by decide +kernel
theorem d_O_flow_28 : decode c_O_flow 28 = .ok (.if_icmp .ge 63, 3) := by decide +kernel
theorem d_O_flow_31 : decode c_O_flow 31 = .ok (.iload 6, 2) := by decide +kernel
theorem d_O_flow_33 : decode c_O_flow 33 = .ok (.ifCond .lt 58, 3) := by decide +kernel
theorem d_O_flow_36 : decode c_O_flow 36 = .ok (.iload 4, 2) := by decide +kernel
theorem d_O_flow_38 : decode c_O_flow 38 = .ok (.ifCond .ne 9, 3) := by decide +kernel
theorem d_O_flow_41 : decode c_O_flow 41 = .ok (.iload 6, 2) := by decide +kernel
theorem d_O_flow_43 : decode c_O_flow 43 = .ok (.iload_n 1, 1) := by decide +kernel
theorem d_O_flow_44 : decode c_O_flow 44 = .ok (.if_icmp .ne 7, 3) := by decide +kernel
theorem d_O_flow_47 : decode c_O_flow 47 = .ok (.iconst 1, 1) := by decide +kernel
theorem d_O_flow_48 : decode c_O_flow 48 = .ok (.goto 4, 3) := by decide +kernel
theorem d_O_flow_51 : decode c_O_flow 51 = .ok (.iconst 0, 1) := by decide +kernel
theorem d_O_flow_52 : decode c_O_flow 52 = .ok (.istore 4, 2) := by decide +kernel
theorem d_O_flow_54 : decode c_O_flow 54 = .ok (.iload 5, 2) := by decide +kernel
theorem d_O_flow_56 : decode c_O_flow 56 = .ok (.ifCond .eq 17, 3) := by decide +kernel
theorem d_O_flow_59 : decode c_O_flow 59 = .ok (.aload_n 0, 1) := by decide +kernel
theorem d_O_flow_60 : decode c_O_flow 60 = .ok (.getfield 13, 3) := by decide +kernel
theorem d_O_flow_63 : decode c_O_flow 63 = .ok (.iload 6, 2) := by decide +kernel
theorem d_O_flow_65 : decode c_O_flow 65 = .ok (.baload, 1) := by decide +kernel
theorem d_O_flow_66 : decode c_O_flow 66 = .ok (.ifCond .eq 7, 3) := by decide +kernel
theorem d_O_flow_69 : decode c_O_flow 69 = .ok (.iconst 1, 1) := by decide +kernel
theorem d_O_flow_70 : decode c_O_flow 70 = .ok (.goto 4, 3) := by decide +kernel
theorem d_O_flow_73 : decode c_O_flow 73 = .ok (.iconst 0, 1) := by decide +kernel
theorem d_O_flow_74 : decode c_O_flow 74 = .ok (.istore 5, 2) := by decide +kernel
theorem d_O_flow_76 : decode c_O_flow 76 = .ok (.aload_n 0, 1) := by decide +kernel
theorem d_O_flow_77 : decode c_O_flow 77 = .ok (.getfield 7, 3) := by decide +kernel
theorem d_O_flow_80 : decode c_O_flow 80 = .ok (.iload 6, 2) := by decide +kernel
theorem d_O_flow_82 : decode c_O_flow 82 = .ok (.iaload, 1) := by decide +kernel
theorem d_O_flow_83 : decode c_O_flow 83 = .ok (.istore 6, 2) := by decide +kernel
theorem d_O_flow_85 : decode c_O_flow 85 = .ok (.iinc 7 1, 3) := by decide +kernel
theorem d_O_flow_88 : decode c_O_flow 88 = .ok (.goto (-64), 3) := by decide +kernel
theorem d_O_flow_91 : decode c_O_flow 91 = .ok (.iload_n 2, 1) := by decide +kernel
theorem d_O_flow_92 : decode c_O_flow 92 = .ok (.iload 4, 2) := by decide +kernel
theorem d_O_flow_94 : decode c_O_flow 94 = .ok (.ifCond .eq 24, 3) := by decide +kernel
theorem d_O_flow_97 : decode c_O_flow 97 = .ok (.iload 5, 2) := by decide +kernel
theorem d_O_flow_99 : decode c_O_flow 99 = .ok (.ifCond .eq 19, 3) := by decide +kernel
theorem d_O_flow_102 : decode c_O_flow 102 = .ok (.aload_n 0, 1) := by decide +kernel
theorem d_O_flow_103 : decode c_O_flow 103 = .ok (.getfield 20, 3) := by decide +kernel
theorem d_O_flow_106 : decode c_O_flow 106 = .ok (.iload_n 3, 1) := by decide +kernel
theorem d_O_flow_107 : decode c_O_flow 107 = .ok (.iaload, 1) := by decide +kernel
theorem d_O_flow_108 : decode c_O_flow 108 = .ok (.aload_n 0, 1) := by decide +kernel
theorem d_O_flow_109 : decode c_O_flow 109 = .ok (.getfield 23, 3) := by decide +kernel
theorem d_O_flow_112 : decode c_O_flow 112 = .ok (.iload_n 3, 1) := by decide +kernel
theorem d_O_flow_113 : decode c_O_flow 113 = .ok (.iaload, 1) := by decide +kernel
theorem d_O_flow_114 : decode c_O_flow 114 = .ok (.iadd, 1) := by decide +kernel
theorem d_O_flow_115 : decode c_O_flow 115 = .ok (.goto 4, 3) := by decide +kernel
theorem d_O_flow_118 : decode c_O_flow 118 = .ok (.iconst 0, 1) := by decide +kernel
theorem d_O_flow_119 : decode c_O_flow 119 = .ok (.iadd, 1) := by decide +kernel
theorem d_O_flow_120 : decode c_O_flow 120 = .ok (.istore_n 2, 1) := by decide +kernel
theorem d_O_flow_121 : decode c_O_flow 121 = .ok (.iinc 3 1, 3) := by decide +kernel
theorem d_O_flow_124 : decode c_O_flow 124 = .ok (.goto (-120), 3) := by decide +kernel
theorem d_O_flow_127 : decode c_O_flow 127 = .ok (.iload_n 2, 1) := by decide +kernel
theorem d_O_flow_128 : decode c_O_flow 128 = .ok (.ireturn, 1) := by decide +kernel
theorem d_O_root_0 : decode c_O_root 0 = .ok (.lconst 0, 1) := by decide +kernel
theorem d_O_root_1 : decode c_O_root 1 = .ok (.lstore_n 2, 1) := by decide +kernel
theorem d_O_root_2 : decode c_O_root 2 = .ok (.iconst 4, 1) := by decide +kernel
theorem d_O_root_3 : decode c_O_root 3 = .ok (.iload_n 1, 1) := by decide +kernel
theorem d_O_root_4 : decode c_O_root 4 = .ok (.imul, 1) := by decide +kernel
theorem d_O_root_5 : decode c_O_root 5 = .ok (.istore 4, 2) := by decide +kernel
theorem d_O_root_7 : decode c_O_root 7 = .ok (.iload 4, 2) := by decide +kernel
theorem d_O_root_9 : decode c_O_root 9 = .ok (.iconst 4, 1) := by decide +kernel
theorem d_O_root_10 : decode c_O_root 10 = .ok (.iload_n 1, 1) := by decide +kernel
theorem d_O_root_11 : decode c_O_root 11 = .ok (.imul, 1) := by decide +kernel
theorem d_O_root_12 : decode c_O_root 12 = .ok (.iconst 4, 1) := by decide +kernel
theorem d_O_root_13 : decode c_O_root 13 = .ok (.iadd, 1) := by decide +kernel
theorem d_O_root_14 : decode c_O_root 14 = .ok (.if_icmp .ge 29, 3) := by decide +kernel
theorem d_O_root_17 : decode c_O_root 17 = .ok (.lload_n 2, 1) := by decide +kernel
theorem d_O_root_18 : decode c_O_root 18 = .ok (.aload_n 0, 1) := by decide +kernel
theorem d_O_root_19 : decode c_O_root 19 = .ok (.getfield 47, 3) := by decide +kernel
theorem d_O_root_22 : decode c_O_root 22 = .ok (.iload 4, 2) := by decide +kernel
theorem d_O_root_24 : decode c_O_root 24 = .ok (.iaload, 1) := by decide +kernel
theorem d_O_root_25 : decode c_O_root 25 = .ok (.i2l, 1) := by decide +kernel
theorem d_O_root_26 : decode c_O_root 26 = .ok (.aload_n 0, 1) := by decide +kernel
theorem d_O_root_27 : decode c_O_root 27 = .ok (.getfield 47, 3) := by decide +kernel
theorem d_O_root_30 : decode c_O_root 30 = .ok (.iload 4, 2) := by decide +kernel
theorem d_O_root_32 : decode c_O_root 32 = .ok (.iaload, 1) := by decide +kernel
theorem d_O_root_33 : decode c_O_root 33 = .ok (.i2l, 1) := by decide +kernel
theorem d_O_root_34 : decode c_O_root 34 = .ok (.lmul, 1) := by decide +kernel
theorem d_O_root_35 : decode c_O_root 35 = .ok (.ladd, 1) := by decide +kernel
theorem d_O_root_36 : decode c_O_root 36 = .ok (.lstore_n 2, 1) := by decide +kernel
theorem d_O_root_37 : decode c_O_root 37 = .ok (.iinc 4 1, 3) := by decide +kernel
theorem d_O_root_40 : decode c_O_root 40 = .ok (.goto (-33), 3) := by decide +kernel
theorem d_O_root_43 : decode c_O_root 43 = .ok (.lconst 0, 1) := by decide +kernel
theorem d_O_root_44 : decode c_O_root 44 = .ok (.lstore 4, 2) := by decide +kernel
theorem d_O_root_46 : decode c_O_root 46 = .ok (.ldc2_w 122, 3) := by decide +kernel
theorem d_O_root_49 : decode c_O_root 49 = .ok (.lstore 6, 2) := by decide +kernel
theorem d_O_root_51 : decode c_O_root 51 = .ok (.lload 6, 2) := by decide +kernel
theorem d_O_root_53 : decode c_O_root 53 = .ok (.lconst 0, 1) := by decide +kernel
theorem d_O_root_54 : decode c_O_root 54 = .ok (.lcmp, 1) := by decide +kernel
theorem d_O_root_55 : decode c_O_root 55 = .ok (.ifCond .le 44, 3) := by decide +kernel
theorem d_O_root_58 : decode c_O_root 58 = .ok (.lload 4, 2) := by decide +kernel
theorem d_O_root_60 : decode c_O_root 60 = .ok (.lload 6, 2) := by decide +kernel
theorem d_O_root_62 : decode c_O_root 62 = .ok (.ladd, 1) := by decide +kernel
theorem d_O_root_63 : decode c_O_root 63 = .ok (.lstore 8, 2) := by decide +kernel
theorem d_O_root_65 : decode c_O_root 65 = .ok (.ldc2_w 124, 3) := by decide +kernel
theorem d_O_root_68 : decode c_O_root 68 = .ok (.lload 8, 2) := by decide +kernel
theorem d_O_root_70 : decode c_O_root 70 = .ok (.lmul, 1) := by decide +kernel
theorem d_O_root_71 : decode c_O_root 71 = .ok (.lload 8, 2) := by decide +kernel
theorem d_O_root_73 : decode c_O_root 73 = .ok (.lmul, 1) := by decide +kernel
theorem d_O_root_74 : decode c_O_root 74 = .ok (.lload_n 2, 1) := by decide +kernel
theorem d_O_root_75 : decode c_O_root 75 = .ok (.lcmp, 1) := by decide +kernel
theorem d_O_root_76 : decode c_O_root 76 = .ok (.ifCond .gt 8, 3) := by decide +kernel
theorem d_O_root_79 : decode c_O_root 79 = .ok (.lload 8, 2) := by decide +kernel
theorem d_O_root_81 : decode c_O_root 81 = .ok (.goto 5, 3) := by decide +kernel
theorem d_O_root_84 : decode c_O_root 84 = .ok (.lload 4, 2) := by decide +kernel
theorem d_O_root_86 : decode c_O_root 86 = .ok (.lstore 4, 2) := by decide +kernel
theorem d_O_root_88 : decode c_O_root 88 = .ok (.lload 6, 2) := by decide +kernel
theorem d_O_root_90 : decode c_O_root 90 = .ok (.ldc2_w 126, 3) := by decide +kernel
theorem d_O_root_93 : decode c_O_root 93 = .ok (.ldiv, 1) := by decide +kernel
theorem d_O_root_94 : decode c_O_root 94 = .ok (.lstore 6, 2) := by decide +kernel
theorem d_O_root_96 : decode c_O_root 96 = .ok (.goto (-45), 3) := by decide +kernel
theorem d_O_root_99 : decode c_O_root 99 = .ok (.lload 4, 2) := by decide +kernel
theorem d_O_root_101 : decode c_O_root 101 = .ok (.l2i, 1) := by decide +kernel
theorem d_O_root_102 : decode c_O_root 102 = .ok (.ireturn, 1) := by decide +kernel
theorem d_O_note_0 : decode c_O_note 0 = .ok (.aload_n 0, 1) := by decide +kernel
theorem d_O_note_1 : decode c_O_note 1 = .ok (.getfield 128, 3) := by decide +kernel
theorem d_O_note_4 : decode c_O_note 4 = .ok (.sipush 200, 3) := by decide +kernel
theorem d_O_note_7 : decode c_O_note 7 = .ok (.if_icmp .ge 41, 3) := by decide +kernel
theorem d_O_note_10 : decode c_O_note 10 = .ok (.aload_n 0, 1) := by decide +kernel
theorem d_O_note_11 : decode c_O_note 11 = .ok (.getfield 105, 3) := by decide +kernel
theorem d_O_note_14 : decode c_O_note 14 = .ok (.aload_n 0, 1) := by decide +kernel
theorem d_O_note_15 : decode c_O_note 15 = .ok (.getfield 128, 3) := by decide +kernel
theorem d_O_note_18 : decode c_O_note 18 = .ok (.iload_n 1, 1) := by decide +kernel
theorem d_O_note_19 : decode c_O_note 19 = .ok (.bipush 8, 2) := by decide +kernel
theorem d_O_note_21 : decode c_O_note 21 = .ok (.iload_n 2, 1) := by decide +kernel
theorem d_O_note_22 : decode c_O_note 22 = .ok (.imul, 1) := by decide +kernel
theorem d_O_note_23 : decode c_O_note 23 = .ok (.iadd, 1) := by decide +kernel
theorem d_O_note_24 : decode c_O_note 24 = .ok (.iastore, 1) := by decide +kernel
theorem d_O_note_25 : decode c_O_note 25 = .ok (.aload_n 0, 1) := by decide +kernel
theorem d_O_note_26 : decode c_O_note 26 = .ok (.getfield 108, 3) := by decide +kernel
theorem d_O_note_29 : decode c_O_note 29 = .ok (.aload_n 0, 1) := by decide +kernel
theorem d_O_note_30 : decode c_O_note 30 = .ok (.getfield 128, 3) := by decide +kernel
theorem d_O_note_33 : decode c_O_note 33 = .ok (.aload_n 0, 1) := by decide +kernel
theorem d_O_note_34 : decode c_O_note 34 = .ok (.getfield 115, 3) := by decide +kernel
theorem d_O_note_37 : decode c_O_note 37 = .ok (.iastore, 1) := by decide +kernel
theorem d_O_note_38 : decode c_O_note 38 = .ok (.aload_n 0, 1) := by decide +kernel
theorem d_O_note_39 : decode c_O_note 39 = .ok (.dup, 1) := by decide +kernel
theorem d_O_note_40 : decode c_O_note 40 = .ok (.getfield 128, 3) := by decide +kernel
theorem d_O_note_43 : decode c_O_note 43 = .ok (.iconst 1, 1) := by decide +kernel
theorem d_O_note_44 : decode c_O_note 44 = .ok (.iadd, 1) := by decide +kernel
theorem d_O_note_45 : decode c_O_note 45 = .ok (.putfield 128, 3) := by decide +kernel
theorem d_O_note_48 : decode c_O_note 48 = .ok (.return_, 1) := by decide +kernel
theorem d_O_send_0 : decode c_O_send 0 = .ok (.aload_n 0, 1) := by decide +kernel
theorem d_O_send_1 : decode c_O_send 1 = .ok (.getfield 7, 3) := by decide +kernel
theorem d_O_send_4 : decode c_O_send 4 = .ok (.iload_n 1, 1) := by decide +kernel
theorem d_O_send_5 : decode c_O_send 5 = .ok (.iaload, 1) := by decide +kernel
theorem d_O_send_6 : decode c_O_send 6 = .ok (.ifCond .lt 12, 3) := by decide +kernel
theorem d_O_send_9 : decode c_O_send 9 = .ok (.aload_n 0, 1) := by decide +kernel
theorem d_O_send_10 : decode c_O_send 10 = .ok (.getfield 44, 3) := by decide +kernel
theorem d_O_send_13 : decode c_O_send 13 = .ok (.iload_n 1, 1) := by decide +kernel
theorem d_O_send_14 : decode c_O_send 14 = .ok (.iaload, 1) := by decide +kernel
theorem d_O_send_15 : decode c_O_send 15 = .ok (.ifCond .ne 4, 3) := by decide +kernel
theorem d_O_send_18 : decode c_O_send 18 = .ok (.return_, 1) := by decide +kernel
theorem d_O_send_19 : decode c_O_send 19 = .ok (.bipush 16, 2) := by decide +kernel
theorem d_O_send_21 : decode c_O_send 21 = .ok (.iload_n 1, 1) := by decide +kernel
theorem d_O_send_22 : decode c_O_send 22 = .ok (.imul, 1) := by decide +kernel
theorem d_O_send_23 : decode c_O_send 23 = .ok (.aload_n 0, 1) := by decide +kernel
theorem d_O_send_24 : decode c_O_send 24 = .ok (.getfield 90, 3) := by decide +kernel
theorem d_O_send_27 : decode c_O_send 27 = .ok (.iload_n 1, 1) := by decide +kernel
theorem d_O_send_28 : decode c_O_send 28 = .ok (.iaload, 1) := by decide +kernel
theorem d_O_send_29 : decode c_O_send 29 = .ok (.iadd, 1) := by decide +kernel
theorem d_O_send_30 : decode c_O_send 30 = .ok (.istore_n 2, 1) := by decide +kernel
theorem d_O_send_31 : decode c_O_send 31 = .ok (.aload_n 0, 1) := by decide +kernel
theorem d_O_send_32 : decode c_O_send 32 = .ok (.getfield 93, 3) := by decide +kernel
theorem d_O_send_35 : decode c_O_send 35 = .ok (.iload_n 2, 1) := by decide +kernel
theorem d_O_send_36 : decode c_O_send 36 = .ok (.aload_n 0, 1) := by decide +kernel
theorem d_O_send_37 : decode c_O_send 37 = .ok (.getfield 115, 3) := by decide +kernel
theorem d_O_send_40 : decode c_O_send 40 = .ok (.aload_n 0, 1) := by decide +kernel
theorem d_O_send_41 : decode c_O_send 41 = .ok (.getfield 44, 3) := by decide +kernel
theorem d_O_send_44 : decode c_O_send 44 = .ok (.iload_n 1, 1) := by decide +kernel
theorem d_O_send_45 : decode c_O_send 45 = .ok (.iaload, 1) := by decide +kernel
theorem d_O_send_46 : decode c_O_send 46 = .ok (.iadd, 1) := by decide +kernel
theorem d_O_send_47 : decode c_O_send 47 = .ok (.iastore, 1) := by decide +kernel
theorem d_O_send_48 : decode c_O_send 48 = .ok (.aload_n 0, 1) := by decide +kernel
theorem d_O_send_49 : decode c_O_send 49 = .ok (.getfield 96, 3) := by decide +kernel
theorem d_O_send_52 : decode c_O_send 52 = .ok (.iload_n 2, 1) := by decide +kernel
theorem d_O_send_53 : decode c_O_send 53 = .ok (.iconst 2, 1) := by decide +kernel
theorem d_O_send_54 : decode c_O_send 54 = .ok (.aload_n 0, 1) := by decide +kernel
theorem d_O_send_55 : decode c_O_send 55 = .ok (.getfield 57, 3) := by decide +kernel
theorem d_O_send_58 : decode c_O_send 58 = .ok (.iload_n 1, 1) := by decide +kernel
theorem d_O_send_59 : decode c_O_send 59 = .ok (.iaload, 1) := by decide +kernel
theorem d_O_send_60 : decode c_O_send 60 = .ok (.imul, 1) := by decide +kernel
theorem d_O_send_61 : decode c_O_send 61 = .ok (.aload_n 0, 1) := by decide +kernel
theorem d_O_send_62 : decode c_O_send 62 = .ok (.getfield 54, 3) := by decide +kernel
theorem d_O_send_65 : decode c_O_send 65 = .ok (.iload_n 1, 1) := by decide +kernel
theorem d_O_send_66 : decode c_O_send 66 = .ok (.baload, 1) := by decide +kernel
theorem d_O_send_67 : decode c_O_send 67 = .ok (.ifCond .eq 7, 3) := by decide +kernel
theorem d_O_send_70 : decode c_O_send 70 = .ok (.iconst 1, 1) := by decide +kernel
theorem d_O_send_71 : decode c_O_send 71 = .ok (.goto 4, 3) := by decide +kernel
theorem d_O_send_74 : decode c_O_send 74 = .ok (.iconst 0, 1) := by decide +kernel
theorem d_O_send_75 : decode c_O_send 75 = .ok (.iadd, 1) := by decide +kernel
theorem d_O_send_76 : decode c_O_send 76 = .ok (.iastore, 1) := by decide +kernel
theorem d_O_send_77 : decode c_O_send 77 = .ok (.aload_n 0, 1) := by decide +kernel
theorem d_O_send_78 : decode c_O_send 78 = .ok (.getfield 90, 3) := by decide +kernel
theorem d_O_send_81 : decode c_O_send 81 = .ok (.iload_n 1, 1) := by decide +kernel
theorem d_O_send_82 : decode c_O_send 82 = .ok (.dup2, 1) := by decide +kernel
theorem d_O_send_83 : decode c_O_send 83 = .ok (.iaload, 1) := by decide +kernel
theorem d_O_send_84 : decode c_O_send 84 = .ok (.iconst 1, 1) := by decide +kernel
theorem d_O_send_85 : decode c_O_send 85 = .ok (.iadd, 1) := by decide +kernel
theorem d_O_send_86 : decode c_O_send 86 = .ok (.iastore, 1) := by decide +kernel
theorem d_O_send_87 : decode c_O_send 87 = .ok (.return_, 1) := by decide +kernel
theorem d_O_receive_0 : decode c_O_receive 0 = .ok (.iconst 0, 1) := by decide +kernel
theorem d_O_receive_1 : decode c_O_receive 1 = .ok (.istore_n 2, 1) := by decide +kernel
theorem d_O_receive_2 : decode c_O_receive 2 = .ok (.bipush 16, 2) := by decide +kernel
theorem d_O_receive_4 : decode c_O_receive 4 = .ok (.iload_n 1, 1) := by decide +kernel
theorem d_O_receive_5 : decode c_O_receive 5 = .ok (.imul, 1) := by decide +kernel
theorem d_O_receive_6 : decode c_O_receive 6 = .ok (.istore_n 3, 1) := by decide +kernel
theorem d_O_receive_7 : decode c_O_receive 7 = .ok (.iload_n 3, 1) := by decide +kernel
theorem d_O_receive_8 : decode c_O_receive 8 = .ok (.bipush 16, 2) := by decide +kernel
theorem d_O_receive_10 : decode c_O_receive 10 = .ok (.iload_n 1, 1) := by decide +kernel
theorem d_O_receive_11 : decode c_O_receive 11 = .ok (.imul, 1) := by decide +kernel
theorem d_O_receive_12 : decode c_O_receive 12 = .ok (.aload_n 0, 1) := by decide +kernel
theorem d_O_receive_13 : decode c_O_receive 13 = .ok (.getfield 90, 3) := by decide +kernel
theorem d_O_receive_16 : decode c_O_receive 16 = .ok (.iload_n 1, 1) := by decide +kernel
theorem d_O_receive_17 : decode c_O_receive 17 = .ok (.iaload, 1) := by decide +kernel
theorem d_O_receive_18 : decode c_O_receive 18 = .ok (.iadd, 1) := by decide +kernel
theorem d_O_receive_19 : decode c_O_receive 19 = .ok (.if_icmp .ge 135, 3) := by decide +kernel
theorem d_O_receive_22 : decode c_O_receive 22 = .ok (.aload_n 0, 1) := by decide +kernel
theorem d_O_receive_23 : decode c_O_receive 23 = .ok (.getfield 93, 3) := by decide +kernel
theorem d_O_receive_26 : decode c_O_receive 26 = .ok (.iload_n 3, 1) := by decide +kernel
theorem d_O_receive_27 : decode c_O_receive 27 = .ok (.iaload, 1) := by decide +kernel
theorem d_O_receive_28 : decode c_O_receive 28 = .ok (.aload_n 0, 1) := by decide +kernel
theorem d_O_receive_29 : decode c_O_receive 29 = .ok (.getfield 115, 3) := by decide +kernel
theorem d_O_receive_32 : decode c_O_receive 32 = .ok (.if_icmp .ne 79, 3) := by decide +kernel
theorem d_O_receive_35 : decode c_O_receive 35 = .ok (.aload_n 0, 1) := by decide +kernel
theorem d_O_receive_36 : decode c_O_receive 36 = .ok (.getfield 96, 3) := by decide +kernel
theorem d_O_receive_39 : decode c_O_receive 39 = .ok (.iload_n 3, 1) := by decide +kernel
theorem d_O_receive_40 : decode c_O_receive 40 = .ok (.iaload, 1) := by decide +kernel
theorem d_O_receive_41 : decode c_O_receive 41 = .ok (.iconst 2, 1) := by decide +kernel
theorem d_O_receive_42 : decode c_O_receive 42 = .ok (.idiv, 1) := by decide +kernel
theorem d_O_receive_43 : decode c_O_receive 43 = .ok (.aload_n 0, 1) := by decide +kernel
theorem d_O_receive_44 : decode c_O_receive 44 = .ok (.getfield 99, 3) := by decide +kernel
theorem d_O_receive_47 : decode c_O_receive 47 = .ok (.iload_n 1, 1) := by decide +kernel
theorem d_O_receive_48 : decode c_O_receive 48 = .ok (.iaload, 1) := by decide +kernel
theorem d_O_receive_49 : decode c_O_receive 49 = .ok (.iconst 2, 1) := by decide +kernel
theorem d_O_receive_50 : decode c_O_receive 50 = .ok (.idiv, 1) := by decide +kernel
theorem d_O_receive_51 : decode c_O_receive 51 = .ok (.if_icmp .le 28, 3) := by decide +kernel
theorem d_O_receive_54 : decode c_O_receive 54 = .ok (.aload_n 0, 1) := by decide +kernel
theorem d_O_receive_55 : decode c_O_receive 55 = .ok (.getfield 99, 3) := by decide +kernel
theorem d_O_receive_58 : decode c_O_receive 58 = .ok (.iload_n 1, 1) := by decide +kernel
theorem d_O_receive_59 : decode c_O_receive 59 = .ok (.aload_n 0, 1) := by decide +kernel
theorem d_O_receive_60 : decode c_O_receive 60 = .ok (.getfield 96, 3) := by decide +kernel
theorem d_O_receive_63 : decode c_O_receive 63 = .ok (.iload_n 3, 1) := by decide +kernel
theorem d_O_receive_64 : decode c_O_receive 64 = .ok (.iaload, 1) := by decide +kernel
theorem d_O_receive_65 : decode c_O_receive 65 = .ok (.iastore, 1) := by decide +kernel
theorem d_O_receive_66 : decode c_O_receive 66 = .ok (.aload_n 0, 1) := by decide +kernel
theorem d_O_receive_67 : decode c_O_receive 67 = .ok (.getfield 102, 3) := by decide +kernel
theorem d_O_receive_70 : decode c_O_receive 70 = .ok (.iload_n 1, 1) := by decide +kernel
theorem d_O_receive_71 : decode c_O_receive 71 = .ok (.aload_n 0, 1) := by decide +kernel
theorem d_O_receive_72 : decode c_O_receive 72 = .ok (.getfield 115, 3) := by decide +kernel
theorem d_O_receive_75 : decode c_O_receive 75 = .ok (.iastore, 1) := by decide +kernel
theorem d_O_receive_76 : decode c_O_receive 76 = .ok (.goto 72, 3) := by decide +kernel
theorem d_O_receive_79 : decode c_O_receive 79 = .ok (.aload_n 0, 1) := by decide +kernel
theorem d_O_receive_80 : decode c_O_receive 80 = .ok (.getfield 96, 3) := by decide +kernel
theorem d_O_receive_83 : decode c_O_receive 83 = .ok (.iload_n 3, 1) := by decide +kernel
theorem d_O_receive_84 : decode c_O_receive 84 = .ok (.iaload, 1) := by decide +kernel
theorem d_O_receive_85 : decode c_O_receive 85 = .ok (.iconst 2, 1) := by decide +kernel
theorem d_O_receive_86 : decode c_O_receive 86 = .ok (.idiv, 1) := by decide +kernel
theorem d_O_receive_87 : decode c_O_receive 87 = .ok (.aload_n 0, 1) := by decide +kernel
theorem d_O_receive_88 : decode c_O_receive 88 = .ok (.getfield 99, 3) := by decide +kernel
theorem d_O_receive_91 : decode c_O_receive 91 = .ok (.iload_n 1, 1) := by decide +kernel
theorem d_O_receive_92 : decode c_O_receive 92 = .ok (.iaload, 1) := by decide +kernel
theorem d_O_receive_93 : decode c_O_receive 93 = .ok (.iconst 2, 1) := by decide +kernel
theorem d_O_receive_94 : decode c_O_receive 94 = .ok (.idiv, 1) := by decide +kernel
theorem d_O_receive_95 : decode c_O_receive 95 = .ok (.if_icmp .ne 53, 3) := by decide +kernel
theorem d_O_receive_98 : decode c_O_receive 98 = .ok (.aload_n 0, 1) := by decide +kernel
theorem d_O_receive_99 : decode c_O_receive 99 = .ok (.getfield 102, 3) := by decide +kernel
theorem d_O_receive_102 : decode c_O_receive 102 = .ok (.iload_n 1, 1) := by decide +kernel
theorem d_O_receive_103 : decode c_O_receive 103 = .ok (.aload_n 0, 1) := by decide +kernel
theorem d_O_receive_104 : decode c_O_receive 104 = .ok (.getfield 115, 3) := by decide +kernel
theorem d_O_receive_107 : decode c_O_receive 107 = .ok (.iastore, 1) := by decide +kernel
theorem d_O_receive_108 : decode c_O_receive 108 = .ok (.goto 40, 3) := by decide +kernel
theorem d_O_receive_111 : decode c_O_receive 111 = .ok (.aload_n 0, 1) := by decide +kernel
theorem d_O_receive_112 : decode c_O_receive 112 = .ok (.getfield 93, 3) := by decide +kernel
theorem d_O_receive_115 : decode c_O_receive 115 = .ok (.bipush 16, 2) := by decide +kernel
theorem d_O_receive_117 : decode c_O_receive 117 = .ok (.iload_n 1, 1) := by decide +kernel
theorem d_O_receive_118 : decode c_O_receive 118 = .ok (.imul, 1) := by decide +kernel
theorem d_O_receive_119 : decode c_O_receive 119 = .ok (.iload_n 2, 1) := by decide +kernel
theorem d_O_receive_120 : decode c_O_receive 120 = .ok (.iadd, 1) := by decide +kernel
theorem d_O_receive_121 : decode c_O_receive 121 = .ok (.aload_n 0, 1) := by decide +kernel
theorem d_O_receive_122 : decode c_O_receive 122 = .ok (.getfield 93, 3) := by decide +kernel
theorem d_O_receive_125 : decode c_O_receive 125 = .ok (.iload_n 3, 1) := by decide +kernel
theorem d_O_receive_126 : decode c_O_receive 126 = .ok (.iaload, 1) := by decide +kernel
theorem d_O_receive_127 : decode c_O_receive 127 = .ok (.iastore, 1) := by decide +kernel
theorem d_O_receive_128 : decode c_O_receive 128 = .ok (.aload_n 0, 1) := by decide +kernel
theorem d_O_receive_129 : decode c_O_receive 129 = .ok (.getfield 96, 3) := by decide +kernel
theorem d_O_receive_132 : decode c_O_receive 132 = .ok (.bipush 16, 2) := by decide +kernel
theorem d_O_receive_134 : decode c_O_receive 134 = .ok (.iload_n 1, 1) := by decide +kernel
theorem d_O_receive_135 : decode c_O_receive 135 = .ok (.imul, 1) := by decide +kernel
theorem d_O_receive_136 : decode c_O_receive 136 = .ok (.iload_n 2, 1) := by decide +kernel
theorem d_O_receive_137 : decode c_O_receive 137 = .ok (.iadd, 1) := by decide +kernel
theorem d_O_receive_138 : decode c_O_receive 138 = .ok (.aload_n 0, 1) := by decide +kernel
theorem d_O_receive_139 : decode c_O_receive 139 = .ok (.getfield 96, 3) := by decide +kernel
theorem d_O_receive_142 : decode c_O_receive 142 = .ok (.iload_n 3, 1) := by decide +kernel
theorem d_O_receive_143 : decode c_O_receive 143 = .ok (.iaload, 1) := by decide +kernel
theorem d_O_receive_144 : decode c_O_receive 144 = .ok (.iastore, 1) := by decide +kernel
theorem d_O_receive_145 : decode c_O_receive 145 = .ok (.iinc 2 1, 3) := by decide +kernel
theorem d_O_receive_148 : decode c_O_receive 148 = .ok (.iinc 3 1, 3) := by decide +kernel
theorem d_O_receive_151 : decode c_O_receive 151 = .ok (.goto (-144), 3) := by decide +kernel
theorem d_O_receive_154 : decode c_O_receive 154 = .ok (.aload_n 0, 1) := by decide +kernel
theorem d_O_receive_155 : decode c_O_receive 155 = .ok (.getfield 90, 3) := by decide +kernel
theorem d_O_receive_158 : decode c_O_receive 158 = .ok (.iload_n 1, 1) := by decide +kernel
theorem d_O_receive_159 : decode c_O_receive 159 = .ok (.iload_n 2, 1) := by decide +kernel
theorem d_O_receive_160 : decode c_O_receive 160 = .ok (.iastore, 1) := by decide +kernel
theorem d_O_receive_161 : decode c_O_receive 161 = .ok (.return_, 1) := by decide +kernel
theorem d_O_blocked_0 : decode c_O_blocked 0 = .ok (.iconst 0, 1) := by decide +kernel
theorem d_O_blocked_1 : decode c_O_blocked 1 = .ok (.istore_n 2, 1) := by decide +kernel
theorem d_O_blocked_2 : decode c_O_blocked 2 = .ok (.iconst 0, 1) := by decide +kernel
theorem d_O_blocked_3 : decode c_O_blocked 3 = .ok (.istore_n 3, 1) := by decide +kernel
theorem d_O_blocked_4 : decode c_O_blocked 4 = .ok (.iload_n 3, 1) := by decide +kernel
theorem d_O_blocked_5 : decode c_O_blocked 5 = .ok (.aload_n 0, 1) := by decide +kernel
theorem d_O_blocked_6 : decode c_O_blocked 6 = .ok (.getfield 111, 3) := by decide +kernel
theorem d_O_blocked_9 : decode c_O_blocked 9 = .ok (.if_icmp .ge 57, 3) := by decide +kernel
theorem d_O_blocked_12 : decode c_O_blocked 12 = .ok (.iload_n 2, 1) := by decide +kernel
theorem d_O_blocked_13 : decode c_O_blocked 13 = .ok (.ifCond .ne 41, 3) := by decide +kernel
theorem d_O_blocked_16 : decode c_O_blocked 16 = .ok (.aload_n 0, 1) := by decide +kernel
theorem d_O_blocked_17 : decode c_O_blocked 17 = .ok (.getfield 7, 3) := by decide +kernel
theorem d_O_blocked_20 : decode c_O_blocked 20 = .ok (.iload_n 3, 1) := by decide +kernel
theorem d_O_blocked_21 : decode c_O_blocked 21 = .ok (.iaload, 1) := by decide +kernel
theorem d_O_blocked_22 : decode c_O_blocked 22 = .ok (.iload_n 1, 1) := by decide +kernel
theorem d_O_blocked_23 : decode c_O_blocked 23 = .ok (.if_icmp .ne 35, 3) := by decide +kernel
theorem d_O_blocked_26 : decode c_O_blocked 26 = .ok (.aload_n 0, 1) := by decide +kernel
theorem d_O_blocked_27 : decode c_O_blocked 27 = .ok (.getfield 99, 3) := by decide +kernel
theorem d_O_blocked_30 : decode c_O_blocked 30 = .ok (.iload_n 3, 1) := by decide +kernel
theorem d_O_blocked_31 : decode c_O_blocked 31 = .ok (.iaload, 1) := by decide +kernel
theorem d_O_blocked_32 : decode c_O_blocked 32 = .ok (.iconst 2, 1) := by decide +kernel
theorem d_O_blocked_33 : decode c_O_blocked 33 = .ok (.irem, 1) := by decide +kernel
theorem d_O_blocked_34 : decode c_O_blocked 34 = .ok (.iconst 1, 1) := by decide +kernel
theorem d_O_blocked_35 : decode c_O_blocked 35 = .ok (.if_icmp .ne 23, 3) := by decide +kernel
theorem d_O_blocked_38 : decode c_O_blocked 38 = .ok (.aload_n 0, 1) := by decide +kernel
theorem d_O_blocked_39 : decode c_O_blocked 39 = .ok (.getfield 115, 3) := by decide +kernel
theorem d_O_blocked_42 : decode c_O_blocked 42 = .ok (.aload_n 0, 1) := by decide +kernel
theorem d_O_blocked_43 : decode c_O_blocked 43 = .ok (.getfield 102, 3) := by decide +kernel
theorem d_O_blocked_46 : decode c_O_blocked 46 = .ok (.iload_n 3, 1) := by decide +kernel
theorem d_O_blocked_47 : decode c_O_blocked 47 = .ok (.iaload, 1) := by decide +kernel
theorem d_O_blocked_48 : decode c_O_blocked 48 = .ok (.isub, 1) := by decide +kernel
theorem d_O_blocked_49 : decode c_O_blocked 49 = .ok (.bipush 12, 2) := by decide +kernel
theorem d_O_blocked_51 : decode c_O_blocked 51 = .ok (.if_icmp .gt 7, 3) := by decide +kernel
theorem d_O_blocked_54 : decode c_O_blocked 54 = .ok (.iconst 1, 1) := by decide +kernel
theorem d_O_blocked_55 : decode c_O_blocked 55 = .ok (.goto 4, 3) := by decide +kernel
theorem d_O_blocked_58 : decode c_O_blocked 58 = .ok (.iconst 0, 1) := by decide +kernel
theorem d_O_blocked_59 : decode c_O_blocked 59 = .ok (.istore_n 2, 1) := by decide +kernel
theorem d_O_blocked_60 : decode c_O_blocked 60 = .ok (.iinc 3 1, 3) := by decide +kernel
theorem d_O_blocked_63 : decode c_O_blocked 63 = .ok (.goto (-59), 3) := by decide +kernel
theorem d_O_blocked_66 : decode c_O_blocked 66 = .ok (.aload_n 0, 1) := by decide +kernel
theorem d_O_blocked_67 : decode c_O_blocked 67 = .ok (.getfield 35, 3) := by decide +kernel
theorem d_O_blocked_70 : decode c_O_blocked 70 = .ok (.iload_n 1, 1) := by decide +kernel
theorem d_O_blocked_71 : decode c_O_blocked 71 = .ok (.baload, 1) := by decide +kernel
theorem d_O_blocked_72 : decode c_O_blocked 72 = .ok (.ifCond .eq 11, 3) := by decide +kernel
theorem d_O_blocked_75 : decode c_O_blocked 75 = .ok (.iload_n 2, 1) := by decide +kernel
theorem d_O_blocked_76 : decode c_O_blocked 76 = .ok (.ifCond .eq 7, 3) := by decide +kernel
theorem d_O_blocked_79 : decode c_O_blocked 79 = .ok (.iconst 1, 1) := by decide +kernel
theorem d_O_blocked_80 : decode c_O_blocked 80 = .ok (.goto 4, 3) := by decide +kernel
theorem d_O_blocked_83 : decode c_O_blocked 83 = .ok (.iconst 0, 1) := by decide +kernel
theorem d_O_blocked_84 : decode c_O_blocked 84 = .ok (.ireturn, 1) := by decide +kernel
theorem d_O_breaker_0 : decode c_O_breaker 0 = .ok (.aload_n 0, 1) := by decide +kernel
theorem d_O_breaker_1 : decode c_O_breaker 1 = .ok (.getfield 66, 3) := by decide +kernel
theorem d_O_breaker_4 : decode c_O_breaker 4 = .ok (.iload_n 1, 1) := by decide +kernel
theorem d_O_breaker_5 : decode c_O_breaker 5 = .ok (.iaload, 1) := by decide +kernel
theorem d_O_breaker_6 : decode c_O_breaker 6 = .ok (.ifCond .le 149, 3) := by decide +kernel
theorem d_O_breaker_9 : decode c_O_breaker 9 = .ok (.aload_n 0, 1) := by decide +kernel
theorem d_O_breaker_10 : decode c_O_breaker 10 = .ok (.getfield 115, 3) := by decide +kernel
theorem d_O_breaker_13 : decode c_O_breaker 13 = .ok (.aload_n 0, 1) := by decide +kernel
theorem d_O_breaker_14 : decode c_O_breaker 14 = .ok (.getfield 69, 3) := by decide +kernel
theorem d_O_breaker_17 : decode c_O_breaker 17 = .ok (.iload_n 1, 1) := by decide +kernel
theorem d_O_breaker_18 : decode c_O_breaker 18 = .ok (.iaload, 1) := by decide +kernel
theorem d_O_breaker_19 : decode c_O_breaker 19 = .ok (.isub, 1) := by decide +kernel
theorem d_O_breaker_20 : decode c_O_breaker 20 = .ok (.iconst 2, 1) := by decide +kernel
theorem d_O_breaker_21 : decode c_O_breaker 21 = .ok (.if_icmp .lt 134, 3) := by decide +kernel
theorem d_O_breaker_24 : decode c_O_breaker 24 = .ok (.aload_n 0, 1) := by decide +kernel
theorem d_O_breaker_25 : decode c_O_breaker 25 = .ok (.getfield 17, 3) := by decide +kernel
theorem d_O_breaker_28 : decode c_O_breaker 28 = .ok (.iload_n 1, 1) := by decide +kernel
theorem d_O_breaker_29 : decode c_O_breaker 29 = .ok (.baload, 1) := by decide +kernel
theorem d_O_breaker_30 : decode c_O_breaker 30 = .ok (.ifCond .ne 125, 3) := by decide +kernel
theorem d_O_breaker_33 : decode c_O_breaker 33 = .ok (.aload_n 0, 1) := by decide +kernel
theorem d_O_breaker_34 : decode c_O_breaker 34 = .ok (.getfield 66, 3) := by decide +kernel
theorem d_O_breaker_37 : decode c_O_breaker 37 = .ok (.iload_n 1, 1) := by decide +kernel
theorem d_O_breaker_38 : decode c_O_breaker 38 = .ok (.iaload, 1) := by decide +kernel
theorem d_O_breaker_39 : decode c_O_breaker 39 = .ok (.iconst 1, 1) := by decide +kernel
theorem d_O_breaker_40 : decode c_O_breaker 40 = .ok (.if_icmp .ne 7, 3) := by decide +kernel
theorem d_O_breaker_43 : decode c_O_breaker 43 = .ok (.iconst 1, 1) := by decide +kernel
theorem d_O_breaker_44 : decode c_O_breaker 44 = .ok (.goto 4, 3) := by decide +kernel
theorem d_O_breaker_47 : decode c_O_breaker 47 = .ok (.iconst 0, 1) := by decide +kernel
theorem d_O_breaker_48 : decode c_O_breaker 48 = .ok (.istore_n 2, 1) := by decide +kernel
theorem d_O_breaker_49 : decode c_O_breaker 49 = .ok (.aload_n 0, 1) := by decide +kernel
theorem d_O_breaker_50 : decode c_O_breaker 50 = .ok (.getfield 13, 3) := by decide +kernel
theorem d_O_breaker_53 : decode c_O_breaker 53 = .ok (.iload_n 1, 1) := by decide +kernel
theorem d_O_breaker_54 : decode c_O_breaker 54 = .ok (.iconst 0, 1) := by decide +kernel
theorem d_O_breaker_55 : decode c_O_breaker 55 = .ok (.bastore, 1) := by decide +kernel
theorem d_O_breaker_56 : decode c_O_breaker 56 = .ok (.aload_n 0, 1) := by decide +kernel
theorem d_O_breaker_57 : decode c_O_breaker 57 = .ok (.getfield 66, 3) := by decide +kernel
theorem d_O_breaker_60 : decode c_O_breaker 60 = .ok (.iload_n 1, 1) := by decide +kernel
theorem d_O_breaker_61 : decode c_O_breaker 61 = .ok (.iconst 0, 1) := by decide +kernel
theorem d_O_breaker_62 : decode c_O_breaker 62 = .ok (.iastore, 1) := by decide +kernel
theorem d_O_breaker_63 : decode c_O_breaker 63 = .ok (.aload_n 0, 1) := by decide +kernel
theorem d_O_breaker_64 : decode c_O_breaker 64 = .ok (.iconst 2, 1) := by decide +kernel
theorem d_O_breaker_65 : decode c_O_breaker 65 = .ok (.iload_n 1, 1) := by decide +kernel
theorem d_O_breaker_66 : decode c_O_breaker 66 = .ok (.invokevirtual 131, 3) := by decide +kernel
theorem d_O_breaker_69 : decode c_O_breaker 69 = .ok (.iload_n 2, 1) := by decide +kernel
theorem d_O_breaker_70 : decode c_O_breaker 70 = .ok (.ifCond .eq 69, 3) := by decide +kernel
theorem d_O_breaker_73 : decode c_O_breaker 73 = .ok (.aload_n 0, 1) := by decide +kernel
theorem d_O_breaker_74 : decode c_O_breaker 74 = .ok (.getfield 84, 3) := by decide +kernel
theorem d_O_breaker_77 : decode c_O_breaker 77 = .ok (.iload_n 1, 1) := by decide +kernel
theorem d_O_breaker_78 : decode c_O_breaker 78 = .ok (.iaload, 1) := by decide +kernel
theorem d_O_breaker_79 : decode c_O_breaker 79 = .ok (.aload_n 0, 1) := by decide +kernel
theorem d_O_breaker_80 : decode c_O_breaker 80 = .ok (.getfield 38, 3) := by decide +kernel
theorem d_O_breaker_83 : decode c_O_breaker 83 = .ok (.iload_n 1, 1) := by decide +kernel
theorem d_O_breaker_84 : decode c_O_breaker 84 = .ok (.iaload, 1) := by decide +kernel
theorem d_O_breaker_85 : decode c_O_breaker 85 = .ok (.if_icmp .ge 54, 3) := by decide +kernel
theorem d_O_breaker_88 : decode c_O_breaker 88 = .ok (.aload_n 0, 1) := by decide +kernel
theorem d_O_breaker_89 : decode c_O_breaker 89 = .ok (.getfield 75, 3) := by decide +kernel
theorem d_O_breaker_92 : decode c_O_breaker 92 = .ok (.iload_n 1, 1) := by decide +kernel
theorem d_O_breaker_93 : decode c_O_breaker 93 = .ok (.iconst 1, 1) := by decide +kernel
theorem d_O_breaker_94 : decode c_O_breaker 94 = .ok (.bastore, 1) := by decide +kernel
theorem d_O_breaker_95 : decode c_O_breaker 95 = .ok (.aload_n 0, 1) := by decide +kernel
theorem d_O_breaker_96 : decode c_O_breaker 96 = .ok (.getfield 78, 3) := by decide +kernel
theorem d_O_breaker_99 : decode c_O_breaker 99 = .ok (.iload_n 1, 1) := by decide +kernel
theorem d_O_breaker_100 : decode c_O_breaker 100 = .ok (.aload_n 0, 1) := by decide +kernel
theorem d_O_breaker_101 : decode c_O_breaker 101 = .ok (.getfield 115, 3) := by decide +kernel
theorem d_O_breaker_104 : decode c_O_breaker 104 = .ok (.aload_n 0, 1) := by decide +kernel
theorem d_O_breaker_105 : decode c_O_breaker 105 = .ok (.getfield 84, 3) := by decide +kernel
theorem d_O_breaker_108 : decode c_O_breaker 108 = .ok (.iload_n 1, 1) := by decide +kernel
theorem d_O_breaker_109 : decode c_O_breaker 109 = .ok (.iaload, 1) := by decide +kernel
theorem d_O_breaker_110 : decode c_O_breaker 110 = .ok (.ifCond .ne 7, 3) := by decide +kernel
theorem d_O_breaker_113 : decode c_O_breaker 113 = .ok (.iconst 5, 1) := by decide +kernel
theorem d_O_breaker_114 : decode c_O_breaker 114 = .ok (.goto 20, 3) := by decide +kernel
theorem d_O_breaker_117 : decode c_O_breaker 117 = .ok (.aload_n 0, 1) := by decide +kernel
theorem d_O_breaker_118 : decode c_O_breaker 118 = .ok (.getfield 84, 3) := by decide +kernel
theorem d_O_breaker_121 : decode c_O_breaker 121 = .ok (.iload_n 1, 1) := by decide +kernel
theorem d_O_breaker_122 : decode c_O_breaker 122 = .ok (.iaload, 1) := by decide +kernel
theorem d_O_breaker_123 : decode c_O_breaker 123 = .ok (.iconst 1, 1) := by decide +kernel
theorem d_O_breaker_124 : decode c_O_breaker 124 = .ok (.if_icmp .ne 8, 3) := by decide +kernel
theorem d_O_breaker_127 : decode c_O_breaker 127 = .ok (.bipush 20, 2) := by decide +kernel
theorem d_O_breaker_129 : decode c_O_breaker 129 = .ok (.goto 5, 3) := by decide +kernel
theorem d_O_breaker_132 : decode c_O_breaker 132 = .ok (.bipush 50, 2) := by decide +kernel
theorem d_O_breaker_134 : decode c_O_breaker 134 = .ok (.iadd, 1) := by decide +kernel
theorem d_O_breaker_135 : decode c_O_breaker 135 = .ok (.iastore, 1) := by decide +kernel
theorem d_O_breaker_136 : decode c_O_breaker 136 = .ok (.goto 16, 3) := by decide +kernel
theorem d_O_breaker_139 : decode c_O_breaker 139 = .ok (.aload_n 0, 1) := by decide +kernel
theorem d_O_breaker_140 : decode c_O_breaker 140 = .ok (.getfield 81, 3) := by decide +kernel
theorem d_O_breaker_143 : decode c_O_breaker 143 = .ok (.iload_n 1, 1) := by decide +kernel
theorem d_O_breaker_144 : decode c_O_breaker 144 = .ok (.iconst 1, 1) := by decide +kernel
theorem d_O_breaker_145 : decode c_O_breaker 145 = .ok (.bastore, 1) := by decide +kernel
theorem d_O_breaker_146 : decode c_O_breaker 146 = .ok (.aload_n 0, 1) := by decide +kernel
theorem d_O_breaker_147 : decode c_O_breaker 147 = .ok (.iconst 5, 1) := by decide +kernel
theorem d_O_breaker_148 : decode c_O_breaker 148 = .ok (.iload_n 1, 1) := by decide +kernel
theorem d_O_breaker_149 : decode c_O_breaker 149 = .ok (.invokevirtual 131, 3) := by decide +kernel
theorem d_O_breaker_152 : decode c_O_breaker 152 = .ok (.goto 124, 3) := by decide +kernel
theorem d_O_breaker_155 : decode c_O_breaker 155 = .ok (.aload_n 0, 1) := by decide +kernel
theorem d_O_breaker_156 : decode c_O_breaker 156 = .ok (.getfield 75, 3) := by decide +kernel
theorem d_O_breaker_159 : decode c_O_breaker 159 = .ok (.iload_n 1, 1) := by decide +kernel
theorem d_O_breaker_160 : decode c_O_breaker 160 = .ok (.baload, 1) := by decide +kernel
theorem d_O_breaker_161 : decode c_O_breaker 161 = .ok (.ifCond .eq 62, 3) := by decide +kernel
theorem d_O_breaker_164 : decode c_O_breaker 164 = .ok (.aload_n 0, 1) := by decide +kernel
theorem d_O_breaker_165 : decode c_O_breaker 165 = .ok (.getfield 115, 3) := by decide +kernel
theorem d_O_breaker_168 : decode c_O_breaker 168 = .ok (.aload_n 0, 1) := by decide +kernel
theorem d_O_breaker_169 : decode c_O_breaker 169 = .ok (.getfield 78, 3) := by decide +kernel
theorem d_O_breaker_172 : decode c_O_breaker 172 = .ok (.iload_n 1, 1) := by decide +kernel
theorem d_O_breaker_173 : decode c_O_breaker 173 = .ok (.iaload, 1) := by decide +kernel
theorem d_O_breaker_174 : decode c_O_breaker 174 = .ok (.if_icmp .lt 49, 3) := by decide +kernel
theorem d_O_breaker_177 : decode c_O_breaker 177 = .ok (.aload_n 0, 1) := by decide +kernel
theorem d_O_breaker_178 : decode c_O_breaker 178 = .ok (.getfield 13, 3) := by decide +kernel
theorem d_O_breaker_181 : decode c_O_breaker 181 = .ok (.iload_n 1, 1) := by decide +kernel
theorem d_O_breaker_182 : decode c_O_breaker 182 = .ok (.iconst 1, 1) := by decide +kernel
theorem d_O_breaker_183 : decode c_O_breaker 183 = .ok (.bastore, 1) := by decide +kernel
theorem d_O_breaker_184 : decode c_O_breaker 184 = .ok (.aload_n 0, 1) := by decide +kernel
theorem d_O_breaker_185 : decode c_O_breaker 185 = .ok (.getfield 75, 3) := by decide +kernel
theorem d_O_breaker_188 : decode c_O_breaker 188 = .ok (.iload_n 1, 1) := by decide +kernel
theorem d_O_breaker_189 : decode c_O_breaker 189 = .ok (.iconst 0, 1) := by decide +kernel
theorem d_O_breaker_190 : decode c_O_breaker 190 = .ok (.bastore, 1) := by decide +kernel
theorem d_O_breaker_191 : decode c_O_breaker 191 = .ok (.aload_n 0, 1) := by decide +kernel
theorem d_O_breaker_192 : decode c_O_breaker 192 = .ok (.getfield 84, 3) := by decide +kernel
theorem d_O_breaker_195 : decode c_O_breaker 195 = .ok (.iload_n 1, 1) := by decide +kernel
theorem d_O_breaker_196 : decode c_O_breaker 196 = .ok (.dup2, 1) := by decide +kernel
theorem d_O_breaker_197 : decode c_O_breaker 197 = .ok (.iaload, 1) := by decide +kernel
theorem d_O_breaker_198 : decode c_O_breaker 198 = .ok (.iconst 1, 1) := by decide +kernel
theorem d_O_breaker_199 : decode c_O_breaker 199 = .ok (.iadd, 1) := by decide +kernel
theorem d_O_breaker_200 : decode c_O_breaker 200 = .ok (.iastore, 1) := by decide +kernel
theorem d_O_breaker_201 : decode c_O_breaker 201 = .ok (.aload_n 0, 1) := by decide +kernel
theorem d_O_breaker_202 : decode c_O_breaker 202 = .ok (.getfield 87, 3) := by decide +kernel
theorem d_O_breaker_205 : decode c_O_breaker 205 = .ok (.iload_n 1, 1) := by decide +kernel
theorem d_O_breaker_206 : decode c_O_breaker 206 = .ok (.aload_n 0, 1) := by decide +kernel
theorem d_O_breaker_207 : decode c_O_breaker 207 = .ok (.getfield 115, 3) := by decide +kernel
theorem d_O_breaker_210 : decode c_O_breaker 210 = .ok (.bipush 30, 2) := by decide +kernel
theorem d_O_breaker_212 : decode c_O_breaker 212 = .ok (.iadd, 1) := by decide +kernel
theorem d_O_breaker_213 : decode c_O_breaker 213 = .ok (.iastore, 1) := by decide +kernel
theorem d_O_breaker_214 : decode c_O_breaker 214 = .ok (.aload_n 0, 1) := by decide +kernel
theorem d_O_breaker_215 : decode c_O_breaker 215 = .ok (.iconst 3, 1) := by decide +kernel
theorem d_O_breaker_216 : decode c_O_breaker 216 = .ok (.iload_n 1, 1) := by decide +kernel
theorem d_O_breaker_217 : decode c_O_breaker 217 = .ok (.invokevirtual 131, 3) := by decide +kernel
theorem d_O_breaker_220 : decode c_O_breaker 220 = .ok (.goto 56, 3) := by decide +kernel
theorem d_O_breaker_223 : decode c_O_breaker 223 = .ok (.aload_n 0, 1) := by decide +kernel
theorem d_O_breaker_224 : decode c_O_breaker 224 = .ok (.getfield 84, 3) := by decide +kernel
theorem d_O_breaker_227 : decode c_O_breaker 227 = .ok (.iload_n 1, 1) := by decide +kernel
theorem d_O_breaker_228 : decode c_O_breaker 228 = .ok (.iaload, 1) := by decide +kernel
theorem d_O_breaker_229 : decode c_O_breaker 229 = .ok (.ifCond .le 47, 3) := by decide +kernel
theorem d_O_breaker_232 : decode c_O_breaker 232 = .ok (.aload_n 0, 1) := by decide +kernel
theorem d_O_breaker_233 : decode c_O_breaker 233 = .ok (.getfield 13, 3) := by decide +kernel
theorem d_O_breaker_236 : decode c_O_breaker 236 = .ok (.iload_n 1, 1) := by decide +kernel
theorem d_O_breaker_237 : decode c_O_breaker 237 = .ok (.baload, 1) := by decide +kernel
theorem d_O_breaker_238 : decode c_O_breaker 238 = .ok (.ifCond .eq 38, 3) := by decide +kernel
theorem d_O_breaker_241 : decode c_O_breaker 241 = .ok (.aload_n 0, 1) := by decide +kernel
theorem d_O_breaker_242 : decode c_O_breaker 242 = .ok (.getfield 66, 3) := by decide +kernel
theorem d_O_breaker_245 : decode c_O_breaker 245 = .ok (.iload_n 1, 1) := by decide +kernel
theorem d_O_breaker_246 : decode c_O_breaker 246 = .ok (.iaload, 1) := by decide +kernel
theorem d_O_breaker_247 : decode c_O_breaker 247 = .ok (.ifCond .ne 29, 3) := by decide +kernel
theorem d_O_breaker_250 : decode c_O_breaker 250 = .ok (.aload_n 0, 1) := by decide +kernel
theorem d_O_breaker_251 : decode c_O_breaker 251 = .ok (.getfield 115, 3) := by decide +kernel
theorem d_O_breaker_254 : decode c_O_breaker 254 = .ok (.aload_n 0, 1) := by decide +kernel
theorem d_O_breaker_255 : decode c_O_breaker 255 = .ok (.getfield 87, 3) := by decide +kernel
theorem d_O_breaker_258 : decode c_O_breaker 258 = .ok (.iload_n 1, 1) := by decide +kernel
theorem d_O_breaker_259 : decode c_O_breaker 259 = .ok (.iaload, 1) := by decide +kernel
theorem d_O_breaker_260 : decode c_O_breaker 260 = .ok (.if_icmp .lt 16, 3) := by decide +kernel
theorem d_O_breaker_263 : decode c_O_breaker 263 = .ok (.aload_n 0, 1) := by decide +kernel
theorem d_O_breaker_264 : decode c_O_breaker 264 = .ok (.getfield 84, 3) := by decide +kernel
theorem d_O_breaker_267 : decode c_O_breaker 267 = .ok (.iload_n 1, 1) := by decide +kernel
theorem d_O_breaker_268 : decode c_O_breaker 268 = .ok (.iconst 0, 1) := by decide +kernel
theorem d_O_breaker_269 : decode c_O_breaker 269 = .ok (.iastore, 1) := by decide +kernel
theorem d_O_breaker_270 : decode c_O_breaker 270 = .ok (.aload_n 0, 1) := by decide +kernel
theorem d_O_breaker_271 : decode c_O_breaker 271 = .ok (.iconst 4, 1) := by decide +kernel
theorem d_O_breaker_272 : decode c_O_breaker 272 = .ok (.iload_n 1, 1) := by decide +kernel
theorem d_O_breaker_273 : decode c_O_breaker 273 = .ok (.invokevirtual 131, 3) := by decide +kernel
theorem d_O_breaker_276 : decode c_O_breaker 276 = .ok (.return_, 1) := by decide +kernel
theorem d_O_measure_0 : decode c_O_measure 0 = .ok (.iconst 4, 1) := by decide +kernel
theorem d_O_measure_1 : decode c_O_measure 1 = .ok (.iload_n 1, 1) := by decide +kernel
theorem d_O_measure_2 : decode c_O_measure 2 = .ok (.imul, 1) := by decide +kernel
theorem d_O_measure_3 : decode c_O_measure 3 = .ok (.istore_n 2, 1) := by decide +kernel
theorem d_O_measure_4 : decode c_O_measure 4 = .ok (.iload_n 2, 1) := by decide +kernel
theorem d_O_measure_5 : decode c_O_measure 5 = .ok (.iconst 4, 1) := by decide +kernel
theorem d_O_measure_6 : decode c_O_measure 6 = .ok (.iload_n 1, 1) := by decide +kernel
theorem d_O_measure_7 : decode c_O_measure 7 = .ok (.imul, 1) := by decide +kernel
theorem d_O_measure_8 : decode c_O_measure 8 = .ok (.iconst 3, 1) := by decide +kernel
theorem d_O_measure_9 : decode c_O_measure 9 = .ok (.iadd, 1) := by decide +kernel
theorem d_O_measure_10 : decode c_O_measure 10 = .ok (.if_icmp .ge 23, 3) := by decide +kernel
theorem d_O_measure_13 : decode c_O_measure 13 = .ok (.aload_n 0, 1) := by decide +kernel
theorem d_O_measure_14 : decode c_O_measure 14 = .ok (.getfield 47, 3) := by decide +kernel
theorem d_O_measure_17 : decode c_O_measure 17 = .ok (.iload_n 2, 1) := by decide +kernel
theorem d_O_measure_18 : decode c_O_measure 18 = .ok (.aload_n 0, 1) := by decide +kernel
theorem d_O_measure_19 : decode c_O_measure 19 = .ok (.getfield 47, 3) := by decide +kernel
theorem d_O_measure_22 : decode c_O_measure 22 = .ok (.iload_n 2, 1) := by decide +kernel
theorem d_O_measure_23 : decode c_O_measure 23 = .ok (.iconst 1, 1) := by decide +kernel
theorem d_O_measure_24 : decode c_O_measure 24 = .ok (.iadd, 1) := by decide +kernel
theorem d_O_measure_25 : decode c_O_measure 25 = .ok (.iaload, 1) := by decide +kernel
theorem d_O_measure_26 : decode c_O_measure 26 = .ok (.iastore, 1) := by decide +kernel
theorem d_O_measure_27 : decode c_O_measure 27 = .ok (.iinc 2 1, 3) := by decide +kernel
theorem d_O_measure_30 : decode c_O_measure 30 = .ok (.goto (-26), 3) := by decide +kernel
theorem d_O_measure_33 : decode c_O_measure 33 = .ok (.aload_n 0, 1) := by decide +kernel
theorem d_O_measure_34 : decode c_O_measure 34 = .ok (.getfield 47, 3) := by decide +kernel
theorem d_O_measure_37 : decode c_O_measure 37 = .ok (.iconst 4, 1) := by decide +kernel
theorem d_O_measure_38 : decode c_O_measure 38 = .ok (.iload_n 1, 1) := by decide +kernel
theorem d_O_measure_39 : decode c_O_measure 39 = .ok (.imul, 1) := by decide +kernel
theorem d_O_measure_40 : decode c_O_measure 40 = .ok (.iconst 3, 1) := by decide +kernel
theorem d_O_measure_41 : decode c_O_measure 41 = .ok (.iadd, 1) := by decide +kernel
theorem d_O_measure_42 : decode c_O_measure 42 = .ok (.aload_n 0, 1) := by decide +kernel
theorem d_O_measure_43 : decode c_O_measure 43 = .ok (.iload_n 1, 1) := by decide +kernel
theorem d_O_measure_44 : decode c_O_measure 44 = .ok (.invokevirtual 135, 3) := by decide +kernel
theorem d_O_measure_47 : decode c_O_measure 47 = .ok (.iastore, 1) := by decide +kernel
theorem d_O_measure_48 : decode c_O_measure 48 = .ok (.aload_n 0, 1) := by decide +kernel
theorem d_O_measure_49 : decode c_O_measure 49 = .ok (.iload_n 1, 1) := by decide +kernel
theorem d_O_measure_50 : decode c_O_measure 50 = .ok (.invokevirtual 139, 3) := by decide +kernel
theorem d_O_measure_53 : decode c_O_measure 53 = .ok (.i2l, 1) := by decide +kernel
theorem d_O_measure_54 : decode c_O_measure 54 = .ok (.lstore_n 2, 1) := by decide +kernel
theorem d_O_measure_55 : decode c_O_measure 55 = .ok (.aload_n 0, 1) := by decide +kernel
theorem d_O_measure_56 : decode c_O_measure 56 = .ok (.getfield 29, 3) := by decide +kernel
theorem d_O_measure_59 : decode c_O_measure 59 = .ok (.iload_n 1, 1) := by decide +kernel
theorem d_O_measure_60 : decode c_O_measure 60 = .ok (.iaload, 1) := by decide +kernel
theorem d_O_measure_61 : decode c_O_measure 61 = .ok (.i2l, 1) := by decide +kernel
theorem d_O_measure_62 : decode c_O_measure 62 = .ok (.lstore 4, 2) := by decide +kernel
theorem d_O_measure_64 : decode c_O_measure 64 = .ok (.lload_n 2, 1) := by decide +kernel
theorem d_O_measure_65 : decode c_O_measure 65 = .ok (.lload 4, 2) := by decide +kernel
theorem d_O_measure_67 : decode c_O_measure 67 = .ok (.lcmp, 1) := by decide +kernel
theorem d_O_measure_68 : decode c_O_measure 68 = .ok (.ifCond .le 7, 3) := by decide +kernel
theorem d_O_measure_71 : decode c_O_measure 71 = .ok (.iconst 1, 1) := by decide +kernel
theorem d_O_measure_72 : decode c_O_measure 72 = .ok (.goto 4, 3) := by decide +kernel
theorem d_O_measure_75 : decode c_O_measure 75 = .ok (.iconst 0, 1) := by decide +kernel
theorem d_O_measure_76 : decode c_O_measure 76 = .ok (.istore 6, 2) := by decide +kernel
theorem d_O_measure_78 : decode c_O_measure 78 = .ok (.aload_n 0, 1) := by decide +kernel
theorem d_O_measure_79 : decode c_O_measure 79 = .ok (.getfield 50, 3) := by decide +kernel
theorem d_O_measure_82 : decode c_O_measure 82 = .ok (.iload_n 1, 1) := by decide +kernel
theorem d_O_measure_83 : decode c_O_measure 83 = .ok (.iload 6, 2) := by decide +kernel
theorem d_O_measure_85 : decode c_O_measure 85 = .ok (.ifCond .ne 7, 3) := by decide +kernel
theorem d_O_measure_88 : decode c_O_measure 88 = .ok (.lconst 0, 1) := by decide +kernel
theorem d_O_measure_89 : decode c_O_measure 89 = .ok (.goto 49, 3) := by decide +kernel
theorem d_O_measure_92 : decode c_O_measure 92 = .ok (.aload_n 0, 1) := by decide +kernel
theorem d_O_measure_93 : decode c_O_measure 93 = .ok (.getfield 50, 3) := by decide +kernel
theorem d_O_measure_96 : decode c_O_measure 96 = .ok (.iload_n 1, 1) := by decide +kernel
theorem d_O_measure_97 : decode c_O_measure 97 = .ok (.laload, 1) := by decide +kernel
theorem d_O_measure_98 : decode c_O_measure 98 = .ok (.aload_n 0, 1) := by decide +kernel
theorem d_O_measure_99 : decode c_O_measure 99 = .ok (.getfield 26, 3) := by decide +kernel
theorem d_O_measure_102 : decode c_O_measure 102 = .ok (.iload_n 1, 1) := by decide +kernel
theorem d_O_measure_103 : decode c_O_measure 103 = .ok (.iaload, 1) := by decide +kernel
theorem d_O_measure_104 : decode c_O_measure 104 = .ok (.ifCond .ne 7, 3) := by decide +kernel
theorem d_O_measure_107 : decode c_O_measure 107 = .ok (.lconst 1, 1) := by decide +kernel
theorem d_O_measure_108 : decode c_O_measure 108 = .ok (.goto 29, 3) := by decide +kernel
theorem d_O_measure_111 : decode c_O_measure 111 = .ok (.aload_n 0, 1) := by decide +kernel
theorem d_O_measure_112 : decode c_O_measure 112 = .ok (.getfield 26, 3) := by decide +kernel
theorem d_O_measure_115 : decode c_O_measure 115 = .ok (.iload_n 1, 1) := by decide +kernel
theorem d_O_measure_116 : decode c_O_measure 116 = .ok (.iaload, 1) := by decide +kernel
theorem d_O_measure_117 : decode c_O_measure 117 = .ok (.iconst 1, 1) := by decide +kernel
theorem d_O_measure_118 : decode c_O_measure 118 = .ok (.if_icmp .ne 10, 3) := by decide +kernel
theorem d_O_measure_121 : decode c_O_measure 121 = .ok (.lload_n 2, 1) := by decide +kernel
theorem d_O_measure_122 : decode c_O_measure 122 = .ok (.lload 4, 2) := by decide +kernel
theorem d_O_measure_124 : decode c_O_measure 124 = .ok (.lsub, 1) := by decide +kernel
theorem d_O_measure_125 : decode c_O_measure 125 = .ok (.goto 12, 3) := by decide +kernel
theorem d_O_measure_128 : decode c_O_measure 128 = .ok (.lload_n 2, 1) := by decide +kernel
theorem d_O_measure_129 : decode c_O_measure 129 = .ok (.lload_n 2, 1) := by decide +kernel
theorem d_O_measure_130 : decode c_O_measure 130 = .ok (.lmul, 1) := by decide +kernel
theorem d_O_measure_131 : decode c_O_measure 131 = .ok (.lload 4, 2) := by decide +kernel
theorem d_O_measure_133 : decode c_O_measure 133 = .ok (.lload 4, 2) := by decide +kernel
theorem d_O_measure_135 : decode c_O_measure 135 = .ok (.lmul, 1) := by decide +kernel
theorem d_O_measure_136 : decode c_O_measure 136 = .ok (.lsub, 1) := by decide +kernel
theorem d_O_measure_137 : decode c_O_measure 137 = .ok (.ladd, 1) := by decide +kernel
theorem d_O_measure_138 : decode c_O_measure 138 = .ok (.lastore, 1) := by decide +kernel
theorem d_O_measure_139 : decode c_O_measure 139 = .ok (.iload 6, 2) := by decide +kernel
theorem d_O_measure_141 : decode c_O_measure 141 = .ok (.aload_n 0, 1) := by decide +kernel
theorem d_O_measure_142 : decode c_O_measure 142 = .ok (.getfield 54, 3) := by decide +kernel
theorem d_O_measure_145 : decode c_O_measure 145 = .ok (.iload_n 1, 1) := by decide +kernel
theorem d_O_measure_146 : decode c_O_measure 146 = .ok (.baload, 1) := by decide +kernel
theorem d_O_measure_147 : decode c_O_measure 147 = .ok (.if_icmp .eq 48, 3) := by decide +kernel
theorem d_O_measure_150 : decode c_O_measure 150 = .ok (.aload_n 0, 1) := by decide +kernel
theorem d_O_measure_151 : decode c_O_measure 151 = .ok (.getfield 54, 3) := by decide +kernel
theorem d_O_measure_154 : decode c_O_measure 154 = .ok (.iload_n 1, 1) := by decide +kernel
theorem d_O_measure_155 : decode c_O_measure 155 = .ok (.iload 6, 2) := by decide +kernel
theorem d_O_measure_157 : decode c_O_measure 157 = .ok (.bastore, 1) := by decide +kernel
theorem d_O_measure_158 : decode c_O_measure 158 = .ok (.aload_n 0, 1) := by decide +kernel
theorem d_O_measure_159 : decode c_O_measure 159 = .ok (.getfield 57, 3) := by decide +kernel
theorem d_O_measure_162 : decode c_O_measure 162 = .ok (.iload_n 1, 1) := by decide +kernel
theorem d_O_measure_163 : decode c_O_measure 163 = .ok (.dup2, 1) := by decide +kernel
theorem d_O_measure_164 : decode c_O_measure 164 = .ok (.iaload, 1) := by decide +kernel
theorem d_O_measure_165 : decode c_O_measure 165 = .ok (.iconst 1, 1) := by decide +kernel
theorem d_O_measure_166 : decode c_O_measure 166 = .ok (.iadd, 1) := by decide +kernel
theorem d_O_measure_167 : decode c_O_measure 167 = .ok (.iastore, 1) := by decide +kernel
theorem d_O_measure_168 : decode c_O_measure 168 = .ok (.aload_n 0, 1) := by decide +kernel
theorem d_O_measure_169 : decode c_O_measure 169 = .ok (.iload_n 1, 1) := by decide +kernel
theorem d_O_measure_170 : decode c_O_measure 170 = .ok (.invokevirtual 142, 3) := by decide +kernel
theorem d_O_measure_173 : decode c_O_measure 173 = .ok (.aload_n 0, 1) := by decide +kernel
theorem d_O_measure_174 : decode c_O_measure 174 = .ok (.getfield 63, 3) := by decide +kernel
theorem d_O_measure_177 : decode c_O_measure 177 = .ok (.iload_n 1, 1) := by decide +kernel
theorem d_O_measure_178 : decode c_O_measure 178 = .ok (.iconst 1, 1) := by decide +kernel
theorem d_O_measure_179 : decode c_O_measure 179 = .ok (.iastore, 1) := by decide +kernel
theorem d_O_measure_180 : decode c_O_measure 180 = .ok (.aload_n 0, 1) := by decide +kernel
theorem d_O_measure_181 : decode c_O_measure 181 = .ok (.getfield 60, 3) := by decide +kernel
theorem d_O_measure_184 : decode c_O_measure 184 = .ok (.iload_n 1, 1) := by decide +kernel
theorem d_O_measure_185 : decode c_O_measure 185 = .ok (.aload_n 0, 1) := by decide +kernel
theorem d_O_measure_186 : decode c_O_measure 186 = .ok (.getfield 115, 3) := by decide +kernel
theorem d_O_measure_189 : decode c_O_measure 189 = .ok (.iconst 1, 1) := by decide +kernel
theorem d_O_measure_190 : decode c_O_measure 190 = .ok (.iadd, 1) := by decide +kernel
theorem d_O_measure_191 : decode c_O_measure 191 = .ok (.iastore, 1) := by decide +kernel
theorem d_O_measure_192 : decode c_O_measure 192 = .ok (.goto 67, 3) := by decide +kernel
theorem d_O_measure_195 : decode c_O_measure 195 = .ok (.aload_n 0, 1) := by decide +kernel
theorem d_O_measure_196 : decode c_O_measure 196 = .ok (.getfield 60, 3) := by decide +kernel
theorem d_O_measure_199 : decode c_O_measure 199 = .ok (.iload_n 1, 1) := by decide +kernel
theorem d_O_measure_200 : decode c_O_measure 200 = .ok (.iaload, 1) := by decide +kernel
theorem d_O_measure_201 : decode c_O_measure 201 = .ok (.aload_n 0, 1) := by decide +kernel
theorem d_O_measure_202 : decode c_O_measure 202 = .ok (.getfield 115, 3) := by decide +kernel
theorem d_O_measure_205 : decode c_O_measure 205 = .ok (.if_icmp .ne 54, 3) := by decide +kernel
theorem d_O_measure_208 : decode c_O_measure 208 = .ok (.aload_n 0, 1) := by decide +kernel
theorem d_O_measure_209 : decode c_O_measure 209 = .ok (.iload_n 1, 1) := by decide +kernel
theorem d_O_measure_210 : decode c_O_measure 210 = .ok (.invokevirtual 142, 3) := by decide +kernel
theorem d_O_measure_213 : decode c_O_measure 213 = .ok (.aload_n 0, 1) := by decide +kernel
theorem d_O_measure_214 : decode c_O_measure 214 = .ok (.getfield 63, 3) := by decide +kernel
theorem d_O_measure_217 : decode c_O_measure 217 = .ok (.iload_n 1, 1) := by decide +kernel
theorem d_O_measure_218 : decode c_O_measure 218 = .ok (.aload_n 0, 1) := by decide +kernel
theorem d_O_measure_219 : decode c_O_measure 219 = .ok (.getfield 63, 3) := by decide +kernel
theorem d_O_measure_222 : decode c_O_measure 222 = .ok (.iload_n 1, 1) := by decide +kernel
theorem d_O_measure_223 : decode c_O_measure 223 = .ok (.iaload, 1) := by decide +kernel
theorem d_O_measure_224 : decode c_O_measure 224 = .ok (.iconst 4, 1) := by decide +kernel
theorem d_O_measure_225 : decode c_O_measure 225 = .ok (.if_icmp .lt 8, 3) := by decide +kernel
theorem d_O_measure_228 : decode c_O_measure 228 = .ok (.bipush 8, 2) := by decide +kernel
theorem d_O_measure_230 : decode c_O_measure 230 = .ok (.goto 11, 3) := by decide +kernel
theorem d_O_measure_233 : decode c_O_measure 233 = .ok (.iconst 2, 1) := by decide +kernel
theorem d_O_measure_234 : decode c_O_measure 234 = .ok (.aload_n 0, 1) := by decide +kernel
theorem d_O_measure_235 : decode c_O_measure 235 = .ok (.getfield 63, 3) := by decide +kernel
theorem d_O_measure_238 : decode c_O_measure 238 = .ok (.iload_n 1, 1) := by decide +kernel
theorem d_O_measure_239 : decode c_O_measure 239 = .ok (.iaload, 1) := by decide +kernel
theorem d_O_measure_240 : decode c_O_measure 240 = .ok (.imul, 1) := by decide +kernel
theorem d_O_measure_241 : decode c_O_measure 241 = .ok (.iastore, 1) := by decide +kernel
theorem d_O_measure_242 : decode c_O_measure 242 = .ok (.aload_n 0, 1) := by decide +kernel
theorem d_O_measure_243 : decode c_O_measure 243 = .ok (.getfield 60, 3) := by decide +kernel
theorem d_O_measure_246 : decode c_O_measure 246 = .ok (.iload_n 1, 1) := by decide +kernel
theorem d_O_measure_247 : decode c_O_measure 247 = .ok (.aload_n 0, 1) := by decide +kernel
theorem d_O_measure_248 : decode c_O_measure 248 = .ok (.getfield 115, 3) := by decide +kernel
theorem d_O_measure_251 : decode c_O_measure 251 = .ok (.aload_n 0, 1) := by decide +kernel
theorem d_O_measure_252 : decode c_O_measure 252 = .ok (.getfield 63, 3) := by decide +kernel
theorem d_O_measure_255 : decode c_O_measure 255 = .ok (.iload_n 1, 1) := by decide +kernel
theorem d_O_measure_256 : decode c_O_measure 256 = .ok (.iaload, 1) := by decide +kernel
theorem d_O_measure_257 : decode c_O_measure 257 = .ok (.iadd, 1) := by decide +kernel
theorem d_O_measure_258 : decode c_O_measure 258 = .ok (.iastore, 1) := by decide +kernel
theorem d_O_measure_259 : decode c_O_measure 259 = .ok (.return_, 1) := by decide +kernel
theorem d_O_trip_0 : decode c_O_trip 0 = .ok (.aload_n 0, 1) := by decide +kernel
theorem d_O_trip_1 : decode c_O_trip 1 = .ok (.getfield 32, 3) := by decide +kernel
theorem d_O_trip_4 : decode c_O_trip 4 = .ok (.iload_n 1, 1) := by decide +kernel
theorem d_O_trip_5 : decode c_O_trip 5 = .ok (.iaload, 1) := by decide +kernel
theorem d_O_trip_6 : decode c_O_trip 6 = .ok (.i2l, 1) := by decide +kernel
theorem d_O_trip_7 : decode c_O_trip 7 = .ok (.lstore_n 2, 1) := by decide +kernel
theorem d_O_trip_8 : decode c_O_trip 8 = .ok (.aload_n 0, 1) := by decide +kernel
theorem d_O_trip_9 : decode c_O_trip 9 = .ok (.getfield 26, 3) := by decide +kernel
theorem d_O_trip_12 : decode c_O_trip 12 = .ok (.iload_n 1, 1) := by decide +kernel
theorem d_O_trip_13 : decode c_O_trip 13 = .ok (.iaload, 1) := by decide +kernel
theorem d_O_trip_14 : decode c_O_trip 14 = .ok (.iconst 1, 1) := by decide +kernel
theorem d_O_trip_15 : decode c_O_trip 15 = .ok (.if_icmp .lt 15, 3) := by decide +kernel
theorem d_O_trip_18 : decode c_O_trip 18 = .ok (.lload_n 2, 1) := by decide +kernel
theorem d_O_trip_19 : decode c_O_trip 19 = .ok (.aload_n 0, 1) := by decide +kernel
theorem d_O_trip_20 : decode c_O_trip 20 = .ok (.getfield 29, 3) := by decide +kernel
theorem d_O_trip_23 : decode c_O_trip 23 = .ok (.iload_n 1, 1) := by decide +kernel
theorem d_O_trip_24 : decode c_O_trip 24 = .ok (.iaload, 1) := by decide +kernel
theorem d_O_trip_25 : decode c_O_trip 25 = .ok (.i2l, 1) := by decide +kernel
theorem d_O_trip_26 : decode c_O_trip 26 = .ok (.lmul, 1) := by decide +kernel
theorem d_O_trip_27 : decode c_O_trip 27 = .ok (.goto 4, 3) := by decide +kernel
theorem d_O_trip_30 : decode c_O_trip 30 = .ok (.lload_n 2, 1) := by decide +kernel
theorem d_O_trip_31 : decode c_O_trip 31 = .ok (.lstore_n 2, 1) := by decide +kernel
theorem d_O_trip_32 : decode c_O_trip 32 = .ok (.aload_n 0, 1) := by decide +kernel
theorem d_O_trip_33 : decode c_O_trip 33 = .ok (.getfield 26, 3) := by decide +kernel
theorem d_O_trip_36 : decode c_O_trip 36 = .ok (.iload_n 1, 1) := by decide +kernel
theorem d_O_trip_37 : decode c_O_trip 37 = .ok (.iaload, 1) := by decide +kernel
theorem d_O_trip_38 : decode c_O_trip 38 = .ok (.iconst 2, 1) := by decide +kernel
theorem d_O_trip_39 : decode c_O_trip 39 = .ok (.if_icmp .ne 15, 3) := by decide +kernel
theorem d_O_trip_42 : decode c_O_trip 42 = .ok (.lload_n 2, 1) := by decide +kernel
theorem d_O_trip_43 : decode c_O_trip 43 = .ok (.aload_n 0, 1) := by decide +kernel
theorem d_O_trip_44 : decode c_O_trip 44 = .ok (.getfield 29, 3) := by decide +kernel
theorem d_O_trip_47 : decode c_O_trip 47 = .ok (.iload_n 1, 1) := by decide +kernel
theorem d_O_trip_48 : decode c_O_trip 48 = .ok (.iaload, 1) := by decide +kernel
theorem d_O_trip_49 : decode c_O_trip 49 = .ok (.i2l, 1) := by decide +kernel
theorem d_O_trip_50 : decode c_O_trip 50 = .ok (.lmul, 1) := by decide +kernel
theorem d_O_trip_51 : decode c_O_trip 51 = .ok (.goto 4, 3) := by decide +kernel
theorem d_O_trip_54 : decode c_O_trip 54 = .ok (.lload_n 2, 1) := by decide +kernel
theorem d_O_trip_55 : decode c_O_trip 55 = .ok (.lstore_n 2, 1) := by decide +kernel
theorem d_O_trip_56 : decode c_O_trip 56 = .ok (.aload_n 0, 1) := by decide +kernel
theorem d_O_trip_57 : decode c_O_trip 57 = .ok (.getfield 54, 3) := by decide +kernel
theorem d_O_trip_60 : decode c_O_trip 60 = .ok (.iload_n 1, 1) := by decide +kernel
theorem d_O_trip_61 : decode c_O_trip 61 = .ok (.baload, 1) := by decide +kernel
theorem d_O_trip_62 : decode c_O_trip 62 = .ok (.ifCond .eq 52, 3) := by decide +kernel
theorem d_O_trip_65 : decode c_O_trip 65 = .ok (.aload_n 0, 1) := by decide +kernel
theorem d_O_trip_66 : decode c_O_trip 66 = .ok (.getfield 50, 3) := by decide +kernel
theorem d_O_trip_69 : decode c_O_trip 69 = .ok (.iload_n 1, 1) := by decide +kernel
theorem d_O_trip_70 : decode c_O_trip 70 = .ok (.laload, 1) := by decide +kernel
theorem d_O_trip_71 : decode c_O_trip 71 = .ok (.lload_n 2, 1) := by decide +kernel
theorem d_O_trip_72 : decode c_O_trip 72 = .ok (.lcmp, 1) := by decide +kernel
theorem d_O_trip_73 : decode c_O_trip 73 = .ok (.ifCond .lt 41, 3) := by decide +kernel
theorem d_O_trip_76 : decode c_O_trip 76 = .ok (.aload_n 0, 1) := by decide +kernel
theorem d_O_trip_77 : decode c_O_trip 77 = .ok (.getfield 13, 3) := by decide +kernel
theorem d_O_trip_80 : decode c_O_trip 80 = .ok (.iload_n 1, 1) := by decide +kernel
theorem d_O_trip_81 : decode c_O_trip 81 = .ok (.baload, 1) := by decide +kernel
theorem d_O_trip_82 : decode c_O_trip 82 = .ok (.ifCond .eq 32, 3) := by decide +kernel
theorem d_O_trip_85 : decode c_O_trip 85 = .ok (.aload_n 0, 1) := by decide +kernel
theorem d_O_trip_86 : decode c_O_trip 86 = .ok (.getfield 66, 3) := by decide +kernel
theorem d_O_trip_89 : decode c_O_trip 89 = .ok (.iload_n 1, 1) := by decide +kernel
theorem d_O_trip_90 : decode c_O_trip 90 = .ok (.iaload, 1) := by decide +kernel
theorem d_O_trip_91 : decode c_O_trip 91 = .ok (.ifCond .ne 23, 3) := by decide +kernel
theorem d_O_trip_94 : decode c_O_trip 94 = .ok (.aload_n 0, 1) := by decide +kernel
theorem d_O_trip_95 : decode c_O_trip 95 = .ok (.iload_n 1, 1) := by decide +kernel
theorem d_O_trip_96 : decode c_O_trip 96 = .ok (.invokevirtual 146, 3) := by decide +kernel
theorem d_O_trip_99 : decode c_O_trip 99 = .ok (.ifCond .ne 15, 3) := by decide +kernel
theorem d_O_trip_102 : decode c_O_trip 102 = .ok (.aload_n 0, 1) := by decide +kernel
theorem d_O_trip_103 : decode c_O_trip 103 = .ok (.iload_n 1, 1) := by decide +kernel
theorem d_O_trip_104 : decode c_O_trip 104 = .ok (.iconst 1, 1) := by decide +kernel
theorem d_O_trip_105 : decode c_O_trip 105 = .ok (.invokevirtual 149, 3) := by decide +kernel
theorem d_O_trip_108 : decode c_O_trip 108 = .ok (.aload_n 0, 1) := by decide +kernel
theorem d_O_trip_109 : decode c_O_trip 109 = .ok (.iconst 1, 1) := by decide +kernel
theorem d_O_trip_110 : decode c_O_trip 110 = .ok (.iload_n 1, 1) := by decide +kernel
theorem d_O_trip_111 : decode c_O_trip 111 = .ok (.invokevirtual 131, 3) := by decide +kernel
theorem d_O_trip_114 : decode c_O_trip 114 = .ok (.return_, 1) := by decide +kernel
theorem d_O_give_0 : decode c_O_give 0 = .ok (.aload_n 0, 1) := by decide +kernel
theorem d_O_give_1 : decode c_O_give 1 = .ok (.getfield 66, 3) := by decide +kernel
theorem d_O_give_4 : decode c_O_give 4 = .ok (.iload_n 1, 1) := by decide +kernel
theorem d_O_give_5 : decode c_O_give 5 = .ok (.iload_n 2, 1) := by decide +kernel
theorem d_O_give_6 : decode c_O_give 6 = .ok (.iastore, 1) := by decide +kernel
theorem d_O_give_7 : decode c_O_give 7 = .ok (.aload_n 0, 1) := by decide +kernel
theorem d_O_give_8 : decode c_O_give 8 = .ok (.getfield 69, 3) := by decide +kernel
theorem d_O_give_11 : decode c_O_give 11 = .ok (.iload_n 1, 1) := by decide +kernel
theorem d_O_give_12 : decode c_O_give 12 = .ok (.aload_n 0, 1) := by decide +kernel
theorem d_O_give_13 : decode c_O_give 13 = .ok (.getfield 115, 3) := by decide +kernel
theorem d_O_give_16 : decode c_O_give 16 = .ok (.iastore, 1) := by decide +kernel
theorem d_O_give_17 : decode c_O_give 17 = .ok (.aload_n 0, 1) := by decide +kernel
theorem d_O_give_18 : decode c_O_give 18 = .ok (.getfield 72, 3) := by decide +kernel
theorem d_O_give_21 : decode c_O_give 21 = .ok (.iload_n 1, 1) := by decide +kernel
theorem d_O_give_22 : decode c_O_give 22 = .ok (.iconst 0, 1) := by decide +kernel
theorem d_O_give_23 : decode c_O_give 23 = .ok (.bastore, 1) := by decide +kernel
theorem d_O_give_24 : decode c_O_give 24 = .ok (.return_, 1) := by decide +kernel
theorem d_O_fail_0 : decode c_O_fail 0 = .ok (.aload_n 0, 1) := by decide +kernel
theorem d_O_fail_1 : decode c_O_fail 1 = .ok (.getfield 66, 3) := by decide +kernel
theorem d_O_fail_4 : decode c_O_fail 4 = .ok (.iload_n 1, 1) := by decide +kernel
theorem d_O_fail_5 : decode c_O_fail 5 = .ok (.iaload, 1) := by decide +kernel
theorem d_O_fail_6 : decode c_O_fail 6 = .ok (.ifCond .eq 41, 3) := by decide +kernel
theorem d_O_fail_9 : decode c_O_fail 9 = .ok (.aload_n 0, 1) := by decide +kernel
theorem d_O_fail_10 : decode c_O_fail 10 = .ok (.getfield 115, 3) := by decide +kernel
theorem d_O_fail_13 : decode c_O_fail 13 = .ok (.aload_n 0, 1) := by decide +kernel
theorem d_O_fail_14 : decode c_O_fail 14 = .ok (.getfield 69, 3) := by decide +kernel
theorem d_O_fail_17 : decode c_O_fail 17 = .ok (.iload_n 1, 1) := by decide +kernel
theorem d_O_fail_18 : decode c_O_fail 18 = .ok (.iaload, 1) := by decide +kernel
theorem d_O_fail_19 : decode c_O_fail 19 = .ok (.isub, 1) := by decide +kernel
theorem d_O_fail_20 : decode c_O_fail 20 = .ok (.aload_n 0, 1) := by decide +kernel
theorem d_O_fail_21 : decode c_O_fail 21 = .ok (.getfield 41, 3) := by decide +kernel
theorem d_O_fail_24 : decode c_O_fail 24 = .ok (.iload_n 1, 1) := by decide +kernel
theorem d_O_fail_25 : decode c_O_fail 25 = .ok (.iaload, 1) := by decide +kernel
theorem d_O_fail_26 : decode c_O_fail 26 = .ok (.if_icmp .lt 21, 3) := by decide +kernel
theorem d_O_fail_29 : decode c_O_fail 29 = .ok (.aload_n 0, 1) := by decide +kernel
theorem d_O_fail_30 : decode c_O_fail 30 = .ok (.getfield 72, 3) := by decide +kernel
theorem d_O_fail_33 : decode c_O_fail 33 = .ok (.iload_n 1, 1) := by decide +kernel
theorem d_O_fail_34 : decode c_O_fail 34 = .ok (.baload, 1) := by decide +kernel
theorem d_O_fail_35 : decode c_O_fail 35 = .ok (.ifCond .ne 12, 3) := by decide +kernel
theorem d_O_fail_38 : decode c_O_fail 38 = .ok (.aload_n 0, 1) := by decide +kernel
theorem d_O_fail_39 : decode c_O_fail 39 = .ok (.getfield 54, 3) := by decide +kernel
theorem d_O_fail_42 : decode c_O_fail 42 = .ok (.iload_n 1, 1) := by decide +kernel
theorem d_O_fail_43 : decode c_O_fail 43 = .ok (.baload, 1) := by decide +kernel
theorem d_O_fail_44 : decode c_O_fail 44 = .ok (.ifCond .ne 4, 3) := by decide +kernel
theorem d_O_fail_47 : decode c_O_fail 47 = .ok (.return_, 1) := by decide +kernel
theorem d_O_fail_48 : decode c_O_fail 48 = .ok (.aload_n 0, 1) := by decide +kernel
theorem d_O_fail_49 : decode c_O_fail 49 = .ok (.getfield 72, 3) := by decide +kernel
theorem d_O_fail_52 : decode c_O_fail 52 = .ok (.iload_n 1, 1) := by decide +kernel
theorem d_O_fail_53 : decode c_O_fail 53 = .ok (.iconst 1, 1) := by decide +kernel
theorem d_O_fail_54 : decode c_O_fail 54 = .ok (.bastore, 1) := by decide +kernel
theorem d_O_fail_55 : decode c_O_fail 55 = .ok (.aload_n 0, 1) := by decide +kernel
theorem d_O_fail_56 : decode c_O_fail 56 = .ok (.bipush 6, 2) := by decide +kernel
theorem d_O_fail_58 : decode c_O_fail 58 = .ok (.iload_n 1, 1) := by decide +kernel
theorem d_O_fail_59 : decode c_O_fail 59 = .ok (.invokevirtual 131, 3) := by decide +kernel
theorem d_O_fail_62 : decode c_O_fail 62 = .ok (.aload_n 0, 1) := by decide +kernel
theorem d_O_fail_63 : decode c_O_fail 63 = .ok (.getfield 7, 3) := by decide +kernel
theorem d_O_fail_66 : decode c_O_fail 66 = .ok (.iload_n 1, 1) := by decide +kernel
theorem d_O_fail_67 : decode c_O_fail 67 = .ok (.iaload, 1) := by decide +kernel
theorem d_O_fail_68 : decode c_O_fail 68 = .ok (.istore_n 2, 1) := by decide +kernel
theorem d_O_fail_69 : decode c_O_fail 69 = .ok (.iload_n 2, 1) := by decide +kernel
theorem d_O_fail_70 : decode c_O_fail 70 = .ok (.ifCond .lt 34, 3) := by decide +kernel
theorem d_O_fail_73 : decode c_O_fail 73 = .ok (.aload_n 0, 1) := by decide +kernel
theorem d_O_fail_74 : decode c_O_fail 74 = .ok (.getfield 13, 3) := by decide +kernel
theorem d_O_fail_77 : decode c_O_fail 77 = .ok (.iload_n 2, 1) := by decide +kernel
theorem d_O_fail_78 : decode c_O_fail 78 = .ok (.baload, 1) := by decide +kernel
theorem d_O_fail_79 : decode c_O_fail 79 = .ok (.ifCond .eq 25, 3) := by decide +kernel
theorem d_O_fail_82 : decode c_O_fail 82 = .ok (.aload_n 0, 1) := by decide +kernel
theorem d_O_fail_83 : decode c_O_fail 83 = .ok (.getfield 66, 3) := by decide +kernel
theorem d_O_fail_86 : decode c_O_fail 86 = .ok (.iload_n 2, 1) := by decide +kernel
theorem d_O_fail_87 : decode c_O_fail 87 = .ok (.iaload, 1) := by decide +kernel
theorem d_O_fail_88 : decode c_O_fail 88 = .ok (.ifCond .ne 16, 3) := by decide +kernel
theorem d_O_fail_91 : decode c_O_fail 91 = .ok (.aload_n 0, 1) := by decide +kernel
theorem d_O_fail_92 : decode c_O_fail 92 = .ok (.iload_n 2, 1) := by decide +kernel
theorem d_O_fail_93 : decode c_O_fail 93 = .ok (.iconst 2, 1) := by decide +kernel
theorem d_O_fail_94 : decode c_O_fail 94 = .ok (.invokevirtual 149, 3) := by decide +kernel
theorem d_O_fail_97 : decode c_O_fail 97 = .ok (.aload_n 0, 1) := by decide +kernel
theorem d_O_fail_98 : decode c_O_fail 98 = .ok (.bipush 7, 2) := by decide +kernel
theorem d_O_fail_100 : decode c_O_fail 100 = .ok (.iload_n 2, 1) := by decide +kernel
theorem d_O_fail_101 : decode c_O_fail 101 = .ok (.invokevirtual 131, 3) := by decide +kernel
theorem d_O_fail_104 : decode c_O_fail 104 = .ok (.return_, 1) := by decide +kernel
theorem d_O_tick_0 : decode c_O_tick 0 = .ok (.aload_n 0, 1) := by decide +kernel
theorem d_O_tick_1 : decode c_O_tick 1 = .ok (.dup, 1) := by decide +kernel
theorem d_O_tick_2 : decode c_O_tick 2 = .ok (.getfield 115, 3) := by decide +kernel
theorem d_O_tick_5 : decode c_O_tick 5 = .ok (.iconst 1, 1) := by decide +kernel
theorem d_O_tick_6 : decode c_O_tick 6 = .ok (.iadd, 1) := by decide +kernel
theorem d_O_tick_7 : decode c_O_tick 7 = .ok (.putfield 115, 3) := by decide +kernel
theorem d_O_tick_10 : decode c_O_tick 10 = .ok (.iconst 0, 1) := by decide +kernel
theorem d_O_tick_11 : decode c_O_tick 11 = .ok (.istore_n 1, 1) := by decide +kernel
theorem d_O_tick_12 : decode c_O_tick 12 = .ok (.iload_n 1, 1) := by decide +kernel
theorem d_O_tick_13 : decode c_O_tick 13 = .ok (.aload_n 0, 1) := by decide +kernel
theorem d_O_tick_14 : decode c_O_tick 14 = .ok (.getfield 111, 3) := by decide +kernel
theorem d_O_tick_17 : decode c_O_tick 17 = .ok (.if_icmp .ge 14, 3) := by decide +kernel
theorem d_O_tick_20 : decode c_O_tick 20 = .ok (.aload_n 0, 1) := by decide +kernel
theorem d_O_tick_21 : decode c_O_tick 21 = .ok (.iload_n 1, 1) := by decide +kernel
theorem d_O_tick_22 : decode c_O_tick 22 = .ok (.invokevirtual 152, 3) := by decide +kernel
theorem d_O_tick_25 : decode c_O_tick 25 = .ok (.iinc 1 1, 3) := by decide +kernel
theorem d_O_tick_28 : decode c_O_tick 28 = .ok (.goto (-16), 3) := by decide +kernel
theorem d_O_tick_31 : decode c_O_tick 31 = .ok (.iconst 0, 1) := by decide +kernel
theorem d_O_tick_32 : decode c_O_tick 32 = .ok (.istore_n 1, 1) := by decide +kernel
theorem d_O_tick_33 : decode c_O_tick 33 = .ok (.iload_n 1, 1) := by decide +kernel
theorem d_O_tick_34 : decode c_O_tick 34 = .ok (.aload_n 0, 1) := by decide +kernel
theorem d_O_tick_35 : decode c_O_tick 35 = .ok (.getfield 111, 3) := by decide +kernel
theorem d_O_tick_38 : decode c_O_tick 38 = .ok (.if_icmp .ge 14, 3) := by decide +kernel
theorem d_O_tick_41 : decode c_O_tick 41 = .ok (.aload_n 0, 1) := by decide +kernel
theorem d_O_tick_42 : decode c_O_tick 42 = .ok (.iload_n 1, 1) := by decide +kernel
theorem d_O_tick_43 : decode c_O_tick 43 = .ok (.invokevirtual 155, 3) := by decide +kernel
theorem d_O_tick_46 : decode c_O_tick 46 = .ok (.iinc 1 1, 3) := by decide +kernel
theorem d_O_tick_49 : decode c_O_tick 49 = .ok (.goto (-16), 3) := by decide +kernel
theorem d_O_tick_52 : decode c_O_tick 52 = .ok (.iconst 0, 1) := by decide +kernel
theorem d_O_tick_53 : decode c_O_tick 53 = .ok (.istore_n 1, 1) := by decide +kernel
theorem d_O_tick_54 : decode c_O_tick 54 = .ok (.iload_n 1, 1) := by decide +kernel
theorem d_O_tick_55 : decode c_O_tick 55 = .ok (.aload_n 0, 1) := by decide +kernel
theorem d_O_tick_56 : decode c_O_tick 56 = .ok (.getfield 111, 3) := by decide +kernel
theorem d_O_tick_59 : decode c_O_tick 59 = .ok (.if_icmp .ge 14, 3) := by decide +kernel
theorem d_O_tick_62 : decode c_O_tick 62 = .ok (.aload_n 0, 1) := by decide +kernel
theorem d_O_tick_63 : decode c_O_tick 63 = .ok (.iload_n 1, 1) := by decide +kernel
theorem d_O_tick_64 : decode c_O_tick 64 = .ok (.invokevirtual 158, 3) := by decide +kernel
theorem d_O_tick_67 : decode c_O_tick 67 = .ok (.iinc 1 1, 3) := by decide +kernel
theorem d_O_tick_70 : decode c_O_tick 70 = .ok (.goto (-16), 3) := by decide +kernel
theorem d_O_tick_73 : decode c_O_tick 73 = .ok (.iconst 0, 1) := by decide +kernel
theorem d_O_tick_74 : decode c_O_tick 74 = .ok (.istore_n 1, 1) := by decide +kernel
theorem d_O_tick_75 : decode c_O_tick 75 = .ok (.iload_n 1, 1) := by decide +kernel
theorem d_O_tick_76 : decode c_O_tick 76 = .ok (.aload_n 0, 1) := by decide +kernel
theorem d_O_tick_77 : decode c_O_tick 77 = .ok (.getfield 111, 3) := by decide +kernel
theorem d_O_tick_80 : decode c_O_tick 80 = .ok (.if_icmp .ge 14, 3) := by decide +kernel
theorem d_O_tick_83 : decode c_O_tick 83 = .ok (.aload_n 0, 1) := by decide +kernel
theorem d_O_tick_84 : decode c_O_tick 84 = .ok (.iload_n 1, 1) := by decide +kernel
theorem d_O_tick_85 : decode c_O_tick 85 = .ok (.invokevirtual 161, 3) := by decide +kernel
theorem d_O_tick_88 : decode c_O_tick 88 = .ok (.iinc 1 1, 3) := by decide +kernel
theorem d_O_tick_91 : decode c_O_tick 91 = .ok (.goto (-16), 3) := by decide +kernel
theorem d_O_tick_94 : decode c_O_tick 94 = .ok (.iconst 0, 1) := by decide +kernel
theorem d_O_tick_95 : decode c_O_tick 95 = .ok (.istore_n 1, 1) := by decide +kernel
theorem d_O_tick_96 : decode c_O_tick 96 = .ok (.iload_n 1, 1) := by decide +kernel
theorem d_O_tick_97 : decode c_O_tick 97 = .ok (.aload_n 0, 1) := by decide +kernel
theorem d_O_tick_98 : decode c_O_tick 98 = .ok (.getfield 111, 3) := by decide +kernel
theorem d_O_tick_101 : decode c_O_tick 101 = .ok (.if_icmp .ge 14, 3) := by decide +kernel
theorem d_O_tick_104 : decode c_O_tick 104 = .ok (.aload_n 0, 1) := by decide +kernel
theorem d_O_tick_105 : decode c_O_tick 105 = .ok (.iload_n 1, 1) := by decide +kernel
theorem d_O_tick_106 : decode c_O_tick 106 = .ok (.invokevirtual 164, 3) := by decide +kernel
theorem d_O_tick_109 : decode c_O_tick 109 = .ok (.iinc 1 1, 3) := by decide +kernel
theorem d_O_tick_112 : decode c_O_tick 112 = .ok (.goto (-16), 3) := by decide +kernel
theorem d_O_tick_115 : decode c_O_tick 115 = .ok (.aload_n 0, 1) := by decide +kernel
theorem d_O_tick_116 : decode c_O_tick 116 = .ok (.aload_n 0, 1) := by decide +kernel
theorem d_O_tick_117 : decode c_O_tick 117 = .ok (.getfield 167, 3) := by decide +kernel
theorem d_O_tick_120 : decode c_O_tick 120 = .ok (.iconst 2, 1) := by decide +kernel
theorem d_O_tick_121 : decode c_O_tick 121 = .ok (.iadd, 1) := by decide +kernel
theorem d_O_tick_122 : decode c_O_tick 122 = .ok (.aload_n 0, 1) := by decide +kernel
theorem d_O_tick_123 : decode c_O_tick 123 = .ok (.getfield 128, 3) := by decide +kernel
theorem d_O_tick_126 : decode c_O_tick 126 = .ok (.if_icmp .le 10, 3) := by decide +kernel
theorem d_O_tick_129 : decode c_O_tick 129 = .ok (.aload_n 0, 1) := by decide +kernel
theorem d_O_tick_130 : decode c_O_tick 130 = .ok (.getfield 128, 3) := by decide +kernel
theorem d_O_tick_133 : decode c_O_tick 133 = .ok (.goto 9, 3) := by decide +kernel
theorem d_O_tick_136 : decode c_O_tick 136 = .ok (.aload_n 0, 1) := by decide +kernel
theorem d_O_tick_137 : decode c_O_tick 137 = .ok (.getfield 167, 3) := by decide +kernel
theorem d_O_tick_140 : decode c_O_tick 140 = .ok (.iconst 2, 1) := by decide +kernel
theorem d_O_tick_141 : decode c_O_tick 141 = .ok (.iadd, 1) := by decide +kernel
theorem d_O_tick_142 : decode c_O_tick 142 = .ok (.putfield 167, 3) := by decide +kernel
theorem d_O_tick_145 : decode c_O_tick 145 = .ok (.return_, 1) := by decide +kernel
theorem d_O_run_0 : decode c_O_run 0 = .ok (.iload_n 1, 1) := by decide +kernel
theorem d_O_run_1 : decode c_O_run 1 = .ok (.iconst 1, 1) := by decide +kernel
theorem d_O_run_2 : decode c_O_run 2 = .ok (.if_icmp .lt 9, 3) := by decide +kernel
theorem d_O_run_5 : decode c_O_run 5 = .ok (.iload_n 1, 1) := by decide +kernel
theorem d_O_run_6 : decode c_O_run 6 = .ok (.bipush 20, 2) := by decide +kernel
theorem d_O_run_8 : decode c_O_run 8 = .ok (.if_icmp .le 5, 3) := by decide +kernel
theorem d_O_run_11 : decode c_O_run 11 = .ok (.iconst (-1), 1) := by decide +kernel
theorem d_O_run_12 : decode c_O_run 12 = .ok (.ireturn, 1) := by decide +kernel
theorem d_O_run_13 : decode c_O_run 13 = .ok (.iconst 0, 1) := by decide +kernel
theorem d_O_run_14 : decode c_O_run 14 = .ok (.istore_n 2, 1) := by decide +kernel
theorem d_O_run_15 : decode c_O_run 15 = .ok (.iload_n 2, 1) := by decide +kernel
theorem d_O_run_16 : decode c_O_run 16 = .ok (.iload_n 1, 1) := by decide +kernel
theorem d_O_run_17 : decode c_O_run 17 = .ok (.if_icmp .ge 13, 3) := by decide +kernel
theorem d_O_run_20 : decode c_O_run 20 = .ok (.aload_n 0, 1) := by decide +kernel
theorem d_O_run_21 : decode c_O_run 21 = .ok (.invokevirtual 170, 3) := by decide +kernel
theorem d_O_run_24 : decode c_O_run 24 = .ok (.iinc 2 1, 3) := by decide +kernel
theorem d_O_run_27 : decode c_O_run 27 = .ok (.goto (-12), 3) := by decide +kernel
theorem d_O_run_30 : decode c_O_run 30 = .ok (.aload_n 0, 1) := by decide +kernel
theorem d_O_run_31 : decode c_O_run 31 = .ok (.getfield 115, 3) := by decide +kernel
theorem d_O_run_34 : decode c_O_run 34 = .ok (.ireturn, 1) := by decide +kernel
theorem d_O_crash_0 : decode c_O_crash 0 = .ok (.aload_n 0, 1) := by decide +kernel
theorem d_O_crash_1 : decode c_O_crash 1 = .ok (.getfield 128, 3) := by decide +kernel
theorem d_O_crash_4 : decode c_O_crash 4 = .ok (.aload_n 0, 1) := by decide +kernel
theorem d_O_crash_5 : decode c_O_crash 5 = .ok (.getfield 167, 3) := by decide +kernel
theorem d_O_crash_8 : decode c_O_crash 8 = .ok (.isub, 1) := by decide +kernel
theorem d_O_crash_9 : decode c_O_crash 9 = .ok (.istore_n 1, 1) := by decide +kernel
theorem d_O_crash_10 : decode c_O_crash 10 = .ok (.aload_n 0, 1) := by decide +kernel
theorem d_O_crash_11 : decode c_O_crash 11 = .ok (.aload_n 0, 1) := by decide +kernel
theorem d_O_crash_12 : decode c_O_crash 12 = .ok (.getfield 167, 3) := by decide +kernel
theorem d_O_crash_15 : decode c_O_crash 15 = .ok (.putfield 128, 3) := by decide +kernel
theorem d_O_crash_18 : decode c_O_crash 18 = .ok (.iconst 0, 1) := by decide +kernel
theorem d_O_crash_19 : decode c_O_crash 19 = .ok (.istore_n 2, 1) := by decide +kernel
theorem d_O_crash_20 : decode c_O_crash 20 = .ok (.iload_n 2, 1) := by decide +kernel
theorem d_O_crash_21 : decode c_O_crash 21 = .ok (.aload_n 0, 1) := by decide +kernel
theorem d_O_crash_22 : decode c_O_crash 22 = .ok (.getfield 111, 3) := by decide +kernel
theorem d_O_crash_25 : decode c_O_crash 25 = .ok (.if_icmp .ge 118, 3) := by decide +kernel
theorem d_O_crash_28 : decode c_O_crash 28 = .ok (.iconst 4, 1) := by decide +kernel
theorem d_O_crash_29 : decode c_O_crash 29 = .ok (.iload_n 2, 1) := by decide +kernel
theorem d_O_crash_30 : decode c_O_crash 30 = .ok (.imul, 1) := by decide +kernel
theorem d_O_crash_31 : decode c_O_crash 31 = .ok (.istore_n 3, 1) := by decide +kernel
theorem d_O_crash_32 : decode c_O_crash 32 = .ok (.iload_n 3, 1) := by decide +kernel
theorem d_O_crash_33 : decode c_O_crash 33 = .ok (.iconst 4, 1) := by decide +kernel
theorem d_O_crash_34 : decode c_O_crash 34 = .ok (.iload_n 2, 1) := by decide +kernel
theorem d_O_crash_35 : decode c_O_crash 35 = .ok (.imul, 1) := by decide +kernel
theorem d_O_crash_36 : decode c_O_crash 36 = .ok (.iconst 4, 1) := by decide +kernel
theorem d_O_crash_37 : decode c_O_crash 37 = .ok (.iadd, 1) := by decide +kernel
theorem d_O_crash_38 : decode c_O_crash 38 = .ok (.if_icmp .ge 16, 3) := by decide +kernel
theorem d_O_crash_41 : decode c_O_crash 41 = .ok (.aload_n 0, 1) := by decide +kernel
theorem d_O_crash_42 : decode c_O_crash 42 = .ok (.getfield 47, 3) := by decide +kernel
theorem d_O_crash_45 : decode c_O_crash 45 = .ok (.iload_n 3, 1) := by decide +kernel
theorem d_O_crash_46 : decode c_O_crash 46 = .ok (.iconst 0, 1) := by decide +kernel
theorem d_O_crash_47 : decode c_O_crash 47 = .ok (.iastore, 1) := by decide +kernel
theorem d_O_crash_48 : decode c_O_crash 48 = .ok (.iinc 3 1, 3) := by decide +kernel
theorem d_O_crash_51 : decode c_O_crash 51 = .ok (.goto (-19), 3) := by decide +kernel
theorem d_O_crash_54 : decode c_O_crash 54 = .ok (.aload_n 0, 1) := by decide +kernel
theorem d_O_crash_55 : decode c_O_crash 55 = .ok (.getfield 50, 3) := by decide +kernel
theorem d_O_crash_58 : decode c_O_crash 58 = .ok (.iload_n 2, 1) := by decide +kernel
theorem d_O_crash_59 : decode c_O_crash 59 = .ok (.lconst 0, 1) := by decide +kernel
theorem d_O_crash_60 : decode c_O_crash 60 = .ok (.lastore, 1) := by decide +kernel
theorem d_O_crash_61 : decode c_O_crash 61 = .ok (.aload_n 0, 1) := by decide +kernel
theorem d_O_crash_62 : decode c_O_crash 62 = .ok (.getfield 54, 3) := by decide +kernel
theorem d_O_crash_65 : decode c_O_crash 65 = .ok (.iload_n 2, 1) := by decide +kernel
theorem d_O_crash_66 : decode c_O_crash 66 = .ok (.iconst 0, 1) := by decide +kernel
theorem d_O_crash_67 : decode c_O_crash 67 = .ok (.bastore, 1) := by decide +kernel
theorem d_O_crash_68 : decode c_O_crash 68 = .ok (.aload_n 0, 1) := by decide +kernel
theorem d_O_crash_69 : decode c_O_crash 69 = .ok (.getfield 57, 3) := by decide +kernel
theorem d_O_crash_72 : decode c_O_crash 72 = .ok (.iload_n 2, 1) := by decide +kernel
theorem d_O_crash_73 : decode c_O_crash 73 = .ok (.iconst 0, 1) := by decide +kernel
theorem d_O_crash_74 : decode c_O_crash 74 = .ok (.iastore, 1) := by decide +kernel
theorem d_O_crash_75 : decode c_O_crash 75 = .ok (.aload_n 0, 1) := by decide +kernel
theorem d_O_crash_76 : decode c_O_crash 76 = .ok (.getfield 60, 3) := by decide +kernel
theorem d_O_crash_79 : decode c_O_crash 79 = .ok (.iload_n 2, 1) := by decide +kernel
theorem d_O_crash_80 : decode c_O_crash 80 = .ok (.iconst 0, 1) := by decide +kernel
theorem d_O_crash_81 : decode c_O_crash 81 = .ok (.iastore, 1) := by decide +kernel
theorem d_O_crash_82 : decode c_O_crash 82 = .ok (.aload_n 0, 1) := by decide +kernel
theorem d_O_crash_83 : decode c_O_crash 83 = .ok (.getfield 90, 3) := by decide +kernel
theorem d_O_crash_86 : decode c_O_crash 86 = .ok (.iload_n 2, 1) := by decide +kernel
theorem d_O_crash_87 : decode c_O_crash 87 = .ok (.iconst 0, 1) := by decide +kernel
theorem d_O_crash_88 : decode c_O_crash 88 = .ok (.iastore, 1) := by decide +kernel
theorem d_O_crash_89 : decode c_O_crash 89 = .ok (.aload_n 0, 1) := by decide +kernel
theorem d_O_crash_90 : decode c_O_crash 90 = .ok (.getfield 99, 3) := by decide +kernel
theorem d_O_crash_93 : decode c_O_crash 93 = .ok (.iload_n 2, 1) := by decide +kernel
theorem d_O_crash_94 : decode c_O_crash 94 = .ok (.iconst 0, 1) := by decide +kernel
theorem d_O_crash_95 : decode c_O_crash 95 = .ok (.iastore, 1) := by decide +kernel
theorem d_O_crash_96 : decode c_O_crash 96 = .ok (.aload_n 0, 1) := by decide +kernel
theorem d_O_crash_97 : decode c_O_crash 97 = .ok (.getfield 66, 3) := by decide +kernel
theorem d_O_crash_100 : decode c_O_crash 100 = .ok (.iload_n 2, 1) := by decide +kernel
theorem d_O_crash_101 : decode c_O_crash 101 = .ok (.iconst 0, 1) := by decide +kernel
theorem d_O_crash_102 : decode c_O_crash 102 = .ok (.iastore, 1) := by decide +kernel
theorem d_O_crash_103 : decode c_O_crash 103 = .ok (.aload_n 0, 1) := by decide +kernel
theorem d_O_crash_104 : decode c_O_crash 104 = .ok (.getfield 75, 3) := by decide +kernel
theorem d_O_crash_107 : decode c_O_crash 107 = .ok (.iload_n 2, 1) := by decide +kernel
theorem d_O_crash_108 : decode c_O_crash 108 = .ok (.iconst 0, 1) := by decide +kernel
theorem d_O_crash_109 : decode c_O_crash 109 = .ok (.bastore, 1) := by decide +kernel
theorem d_O_crash_110 : decode c_O_crash 110 = .ok (.aload_n 0, 1) := by decide +kernel
theorem d_O_crash_111 : decode c_O_crash 111 = .ok (.getfield 84, 3) := by decide +kernel
theorem d_O_crash_114 : decode c_O_crash 114 = .ok (.iload_n 2, 1) := by decide +kernel
theorem d_O_crash_115 : decode c_O_crash 115 = .ok (.iconst 0, 1) := by decide +kernel
theorem d_O_crash_116 : decode c_O_crash 116 = .ok (.iastore, 1) := by decide +kernel
theorem d_O_crash_117 : decode c_O_crash 117 = .ok (.aload_n 0, 1) := by decide +kernel
theorem d_O_crash_118 : decode c_O_crash 118 = .ok (.getfield 81, 3) := by decide +kernel
theorem d_O_crash_121 : decode c_O_crash 121 = .ok (.iload_n 2, 1) := by decide +kernel
theorem d_O_crash_122 : decode c_O_crash 122 = .ok (.aload_n 0, 1) := by decide +kernel
theorem d_O_crash_123 : decode c_O_crash 123 = .ok (.getfield 13, 3) := by decide +kernel
theorem d_O_crash_126 : decode c_O_crash 126 = .ok (.iload_n 2, 1) := by decide +kernel
theorem d_O_crash_127 : decode c_O_crash 127 = .ok (.baload, 1) := by decide +kernel
theorem d_O_crash_128 : decode c_O_crash 128 = .ok (.ifCond .ne 7, 3) := by decide +kernel
theorem d_O_crash_131 : decode c_O_crash 131 = .ok (.iconst 1, 1) := by decide +kernel
theorem d_O_crash_132 : decode c_O_crash 132 = .ok (.goto 4, 3) := by decide +kernel
theorem d_O_crash_135 : decode c_O_crash 135 = .ok (.iconst 0, 1) := by decide +kernel
theorem d_O_crash_136 : decode c_O_crash 136 = .ok (.bastore, 1) := by decide +kernel
theorem d_O_crash_137 : decode c_O_crash 137 = .ok (.iinc 2 1, 3) := by decide +kernel
theorem d_O_crash_140 : decode c_O_crash 140 = .ok (.goto (-120), 3) := by decide +kernel
theorem d_O_crash_143 : decode c_O_crash 143 = .ok (.iload_n 1, 1) := by decide +kernel
theorem d_O_crash_144 : decode c_O_crash 144 = .ok (.ireturn, 1) := by decide +kernel
theorem d_O_time_0 : decode c_O_time 0 = .ok (.aload_n 0, 1) := by decide +kernel
theorem d_O_time_1 : decode c_O_time 1 = .ok (.getfield 115, 3) := by decide +kernel
theorem d_O_time_4 : decode c_O_time 4 = .ok (.ireturn, 1) := by decide +kernel
theorem d_O_current_0 : decode c_O_current 0 = .ok (.aload_n 0, 1) := by decide +kernel
theorem d_O_current_1 : decode c_O_current 1 = .ok (.iload_n 1, 1) := by decide +kernel
theorem d_O_current_2 : decode c_O_current 2 = .ok (.invokevirtual 118, 3) := by decide +kernel
theorem d_O_current_5 : decode c_O_current 5 = .ok (.ifCond .eq 7, 3) := by decide +kernel
theorem d_O_current_8 : decode c_O_current 8 = .ok (.iconst (-1), 1) := by decide +kernel
theorem d_O_current_9 : decode c_O_current 9 = .ok (.goto 8, 3) := by decide +kernel
theorem d_O_current_12 : decode c_O_current 12 = .ok (.aload_n 0, 1) := by decide +kernel
theorem d_O_current_13 : decode c_O_current 13 = .ok (.iload_n 1, 1) := by decide +kernel
theorem d_O_current_14 : decode c_O_current 14 = .ok (.invokevirtual 135, 3) := by decide +kernel
theorem d_O_current_17 : decode c_O_current 17 = .ok (.ireturn, 1) := by decide +kernel
theorem d_O_state_0 : decode c_O_state 0 = .ok (.aload_n 0, 1) := by decide +kernel
theorem d_O_state_1 : decode c_O_state 1 = .ok (.iload_n 1, 1) := by decide +kernel
theorem d_O_state_2 : decode c_O_state 2 = .ok (.invokevirtual 118, 3) := by decide +kernel
theorem d_O_state_5 : decode c_O_state 5 = .ok (.ifCond .eq 5, 3) := by decide +kernel
theorem d_O_state_8 : decode c_O_state 8 = .ok (.iconst (-1), 1) := by decide +kernel
theorem d_O_state_9 : decode c_O_state 9 = .ok (.ireturn, 1) := by decide +kernel
theorem d_O_state_10 : decode c_O_state 10 = .ok (.aload_n 0, 1) := by decide +kernel
theorem d_O_state_11 : decode c_O_state 11 = .ok (.getfield 13, 3) := by decide +kernel
theorem d_O_state_14 : decode c_O_state 14 = .ok (.iload_n 1, 1) := by decide +kernel
theorem d_O_state_15 : decode c_O_state 15 = .ok (.baload, 1) := by decide +kernel
theorem d_O_state_16 : decode c_O_state 16 = .ok (.ifCond .eq 7, 3) := by decide +kernel
theorem d_O_state_19 : decode c_O_state 19 = .ok (.iconst 1, 1) := by decide +kernel
theorem d_O_state_20 : decode c_O_state 20 = .ok (.goto 4, 3) := by decide +kernel
theorem d_O_state_23 : decode c_O_state 23 = .ok (.iconst 0, 1) := by decide +kernel
theorem d_O_state_24 : decode c_O_state 24 = .ok (.aload_n 0, 1) := by decide +kernel
theorem d_O_state_25 : decode c_O_state 25 = .ok (.getfield 54, 3) := by decide +kernel
theorem d_O_state_28 : decode c_O_state 28 = .ok (.iload_n 1, 1) := by decide +kernel
theorem d_O_state_29 : decode c_O_state 29 = .ok (.baload, 1) := by decide +kernel
theorem d_O_state_30 : decode c_O_state 30 = .ok (.ifCond .eq 7, 3) := by decide +kernel
theorem d_O_state_33 : decode c_O_state 33 = .ok (.iconst 2, 1) := by decide +kernel
theorem d_O_state_34 : decode c_O_state 34 = .ok (.goto 4, 3) := by decide +kernel
theorem d_O_state_37 : decode c_O_state 37 = .ok (.iconst 0, 1) := by decide +kernel
theorem d_O_state_38 : decode c_O_state 38 = .ok (.iadd, 1) := by decide +kernel
theorem d_O_state_39 : decode c_O_state 39 = .ok (.aload_n 0, 1) := by decide +kernel
theorem d_O_state_40 : decode c_O_state 40 = .ok (.getfield 66, 3) := by decide +kernel
theorem d_O_state_43 : decode c_O_state 43 = .ok (.iload_n 1, 1) := by decide +kernel
theorem d_O_state_44 : decode c_O_state 44 = .ok (.iaload, 1) := by decide +kernel
theorem d_O_state_45 : decode c_O_state 45 = .ok (.ifCond .le 7, 3) := by decide +kernel
theorem d_O_state_48 : decode c_O_state 48 = .ok (.iconst 4, 1) := by decide +kernel
theorem d_O_state_49 : decode c_O_state 49 = .ok (.goto 4, 3) := by decide +kernel
theorem d_O_state_52 : decode c_O_state 52 = .ok (.iconst 0, 1) := by decide +kernel
theorem d_O_state_53 : decode c_O_state 53 = .ok (.iadd, 1) := by decide +kernel
theorem d_O_state_54 : decode c_O_state 54 = .ok (.aload_n 0, 1) := by decide +kernel
theorem d_O_state_55 : decode c_O_state 55 = .ok (.getfield 75, 3) := by decide +kernel
theorem d_O_state_58 : decode c_O_state 58 = .ok (.iload_n 1, 1) := by decide +kernel
theorem d_O_state_59 : decode c_O_state 59 = .ok (.baload, 1) := by decide +kernel
theorem d_O_state_60 : decode c_O_state 60 = .ok (.ifCond .eq 8, 3) := by decide +kernel
theorem d_O_state_63 : decode c_O_state 63 = .ok (.bipush 8, 2) := by decide +kernel
theorem d_O_state_65 : decode c_O_state 65 = .ok (.goto 4, 3) := by decide +kernel
theorem d_O_state_68 : decode c_O_state 68 = .ok (.iconst 0, 1) := by decide +kernel
theorem d_O_state_69 : decode c_O_state 69 = .ok (.iadd, 1) := by decide +kernel
theorem d_O_state_70 : decode c_O_state 70 = .ok (.aload_n 0, 1) := by decide +kernel
theorem d_O_state_71 : decode c_O_state 71 = .ok (.getfield 81, 3) := by decide +kernel
theorem d_O_state_74 : decode c_O_state 74 = .ok (.iload_n 1, 1) := by decide +kernel
theorem d_O_state_75 : decode c_O_state 75 = .ok (.baload, 1) := by decide +kernel
theorem d_O_state_76 : decode c_O_state 76 = .ok (.ifCond .eq 8, 3) := by decide +kernel
theorem d_O_state_79 : decode c_O_state 79 = .ok (.bipush 16, 2) := by decide +kernel
theorem d_O_state_81 : decode c_O_state 81 = .ok (.goto 4, 3) := by decide +kernel
theorem d_O_state_84 : decode c_O_state 84 = .ok (.iconst 0, 1) := by decide +kernel
theorem d_O_state_85 : decode c_O_state 85 = .ok (.iadd, 1) := by decide +kernel
theorem d_O_state_86 : decode c_O_state 86 = .ok (.istore_n 2, 1) := by decide +kernel
theorem d_O_state_87 : decode c_O_state 87 = .ok (.aload_n 0, 1) := by decide +kernel
theorem d_O_state_88 : decode c_O_state 88 = .ok (.iload_n 1, 1) := by decide +kernel
theorem d_O_state_89 : decode c_O_state 89 = .ok (.invokevirtual 146, 3) := by decide +kernel
theorem d_O_state_92 : decode c_O_state 92 = .ok (.istore_n 3, 1) := by decide +kernel
theorem d_O_state_93 : decode c_O_state 93 = .ok (.iload_n 2, 1) := by decide +kernel
theorem d_O_state_94 : decode c_O_state 94 = .ok (.aload_n 0, 1) := by decide +kernel
theorem d_O_state_95 : decode c_O_state 95 = .ok (.getfield 17, 3) := by decide +kernel
theorem d_O_state_98 : decode c_O_state 98 = .ok (.iload_n 1, 1) := by decide +kernel
theorem d_O_state_99 : decode c_O_state 99 = .ok (.baload, 1) := by decide +kernel
theorem d_O_state_100 : decode c_O_state 100 = .ok (.ifCond .eq 8, 3) := by decide +kernel
theorem d_O_state_103 : decode c_O_state 103 = .ok (.bipush 32, 2) := by decide +kernel
theorem d_O_state_105 : decode c_O_state 105 = .ok (.goto 4, 3) := by decide +kernel
theorem d_O_state_108 : decode c_O_state 108 = .ok (.iconst 0, 1) := by decide +kernel
theorem d_O_state_109 : decode c_O_state 109 = .ok (.iadd, 1) := by decide +kernel
theorem d_O_state_110 : decode c_O_state 110 = .ok (.iload_n 3, 1) := by decide +kernel
theorem d_O_state_111 : decode c_O_state 111 = .ok (.ifCond .eq 8, 3) := by decide +kernel
theorem d_O_state_114 : decode c_O_state 114 = .ok (.bipush 64, 2) := by decide +kernel
theorem d_O_state_116 : decode c_O_state 116 = .ok (.goto 4, 3) := by decide +kernel
theorem d_O_state_119 : decode c_O_state 119 = .ok (.iconst 0, 1) := by decide +kernel
theorem d_O_state_120 : decode c_O_state 120 = .ok (.iadd, 1) := by decide +kernel
theorem d_O_state_121 : decode c_O_state 121 = .ok (.ireturn, 1) := by decide +kernel
theorem d_O_sum_0 : decode c_O_sum 0 = .ok (.aload_n 0, 1) := by decide +kernel
theorem d_O_sum_1 : decode c_O_sum 1 = .ok (.iload_n 1, 1) := by decide +kernel
theorem d_O_sum_2 : decode c_O_sum 2 = .ok (.invokevirtual 118, 3) := by decide +kernel
theorem d_O_sum_5 : decode c_O_sum 5 = .ok (.ifCond .eq 9, 3) := by decide +kernel
theorem d_O_sum_8 : decode c_O_sum 8 = .ok (.ldc2_w 173, 3) := by decide +kernel
theorem d_O_sum_11 : decode c_O_sum 11 = .ok (.goto 9, 3) := by decide +kernel
theorem d_O_sum_14 : decode c_O_sum 14 = .ok (.aload_n 0, 1) := by decide +kernel
theorem d_O_sum_15 : decode c_O_sum 15 = .ok (.getfield 50, 3) := by decide +kernel
theorem d_O_sum_18 : decode c_O_sum 18 = .ok (.iload_n 1, 1) := by decide +kernel
theorem d_O_sum_19 : decode c_O_sum 19 = .ok (.laload, 1) := by decide +kernel
theorem d_O_sum_20 : decode c_O_sum 20 = .ok (.lreturn, 1) := by decide +kernel
theorem d_O_used_0 : decode c_O_used 0 = .ok (.aload_n 0, 1) := by decide +kernel
theorem d_O_used_1 : decode c_O_used 1 = .ok (.iload_n 1, 1) := by decide +kernel
theorem d_O_used_2 : decode c_O_used 2 = .ok (.invokevirtual 118, 3) := by decide +kernel
theorem d_O_used_5 : decode c_O_used 5 = .ok (.ifCond .eq 7, 3) := by decide +kernel
theorem d_O_used_8 : decode c_O_used 8 = .ok (.iconst (-1), 1) := by decide +kernel
theorem d_O_used_9 : decode c_O_used 9 = .ok (.goto 9, 3) := by decide +kernel
theorem d_O_used_12 : decode c_O_used 12 = .ok (.aload_n 0, 1) := by decide +kernel
theorem d_O_used_13 : decode c_O_used 13 = .ok (.getfield 84, 3) := by decide +kernel
theorem d_O_used_16 : decode c_O_used 16 = .ok (.iload_n 1, 1) := by decide +kernel
theorem d_O_used_17 : decode c_O_used 17 = .ok (.iaload, 1) := by decide +kernel
theorem d_O_used_18 : decode c_O_used 18 = .ok (.ireturn, 1) := by decide +kernel
theorem d_O_changes_0 : decode c_O_changes 0 = .ok (.aload_n 0, 1) := by decide +kernel
theorem d_O_changes_1 : decode c_O_changes 1 = .ok (.iload_n 1, 1) := by decide +kernel
theorem d_O_changes_2 : decode c_O_changes 2 = .ok (.invokevirtual 118, 3) := by decide +kernel
theorem d_O_changes_5 : decode c_O_changes 5 = .ok (.ifCond .eq 7, 3) := by decide +kernel
theorem d_O_changes_8 : decode c_O_changes 8 = .ok (.iconst (-1), 1) := by decide +kernel
theorem d_O_changes_9 : decode c_O_changes 9 = .ok (.goto 9, 3) := by decide +kernel
theorem d_O_changes_12 : decode c_O_changes 12 = .ok (.aload_n 0, 1) := by decide +kernel
theorem d_O_changes_13 : decode c_O_changes 13 = .ok (.getfield 57, 3) := by decide +kernel
theorem d_O_changes_16 : decode c_O_changes 16 = .ok (.iload_n 1, 1) := by decide +kernel
theorem d_O_changes_17 : decode c_O_changes 17 = .ok (.iaload, 1) := by decide +kernel
theorem d_O_changes_18 : decode c_O_changes 18 = .ok (.ireturn, 1) := by decide +kernel
theorem d_O_known_0 : decode c_O_known 0 = .ok (.aload_n 0, 1) := by decide +kernel
theorem d_O_known_1 : decode c_O_known 1 = .ok (.iload_n 1, 1) := by decide +kernel
theorem d_O_known_2 : decode c_O_known 2 = .ok (.invokevirtual 118, 3) := by decide +kernel
theorem d_O_known_5 : decode c_O_known 5 = .ok (.ifCond .ne 7, 3) := by decide +kernel
theorem d_O_known_8 : decode c_O_known 8 = .ok (.iload_n 1, 1) := by decide +kernel
theorem d_O_known_9 : decode c_O_known 9 = .ok (.ifCond .ne 7, 3) := by decide +kernel
theorem d_O_known_12 : decode c_O_known 12 = .ok (.iconst (-1), 1) := by decide +kernel
theorem d_O_known_13 : decode c_O_known 13 = .ok (.goto 9, 3) := by decide +kernel
theorem d_O_known_16 : decode c_O_known 16 = .ok (.aload_n 0, 1) := by decide +kernel
theorem d_O_known_17 : decode c_O_known 17 = .ok (.getfield 99, 3) := by decide +kernel
theorem d_O_known_20 : decode c_O_known 20 = .ok (.iload_n 1, 1) := by decide +kernel
theorem d_O_known_21 : decode c_O_known 21 = .ok (.iaload, 1) := by decide +kernel
theorem d_O_known_22 : decode c_O_known 22 = .ok (.ireturn, 1) := by decide +kernel
theorem d_O_effective_0 : decode c_O_effective 0 = .ok (.aload_n 0, 1) := by decide +kernel
theorem d_O_effective_1 : decode c_O_effective 1 = .ok (.iload_n 1, 1) := by decide +kernel
theorem d_O_effective_2 : decode c_O_effective 2 = .ok (.invokevirtual 118, 3) := by decide +kernel
theorem d_O_effective_5 : decode c_O_effective 5 = .ok (.ifCond .eq 7, 3) := by decide +kernel
theorem d_O_effective_8 : decode c_O_effective 8 = .ok (.iconst (-1), 1) := by decide +kernel
theorem d_O_effective_9 : decode c_O_effective 9 = .ok (.goto 8, 3) := by decide +kernel
theorem d_O_effective_12 : decode c_O_effective 12 = .ok (.aload_n 0, 1) := by decide +kernel
theorem d_O_effective_13 : decode c_O_effective 13 = .ok (.iload_n 1, 1) := by decide +kernel
theorem d_O_effective_14 : decode c_O_effective 14 = .ok (.invokevirtual 139, 3) := by decide +kernel
theorem d_O_effective_17 : decode c_O_effective 17 = .ok (.ireturn, 1) := by decide +kernel
theorem d_O_events_0 : decode c_O_events 0 = .ok (.aload_n 0, 1) := by decide +kernel
theorem d_O_events_1 : decode c_O_events 1 = .ok (.getfield 128, 3) := by decide +kernel
theorem d_O_events_4 : decode c_O_events 4 = .ok (.ireturn, 1) := by decide +kernel
theorem d_O_event_0 : decode c_O_event 0 = .ok (.iload_n 1, 1) := by decide +kernel
theorem d_O_event_1 : decode c_O_event 1 = .ok (.ifCond .lt 11, 3) := by decide +kernel
theorem d_O_event_4 : decode c_O_event 4 = .ok (.iload_n 1, 1) := by decide +kernel
theorem d_O_event_5 : decode c_O_event 5 = .ok (.aload_n 0, 1) := by decide +kernel
theorem d_O_event_6 : decode c_O_event 6 = .ok (.getfield 128, 3) := by decide +kernel
theorem d_O_event_9 : decode c_O_event 9 = .ok (.if_icmp .lt 7, 3) := by decide +kernel
theorem d_O_event_12 : decode c_O_event 12 = .ok (.iconst (-1), 1) := by decide +kernel
theorem d_O_event_13 : decode c_O_event 13 = .ok (.goto 9, 3) := by decide +kernel
theorem d_O_event_16 : decode c_O_event 16 = .ok (.aload_n 0, 1) := by decide +kernel
theorem d_O_event_17 : decode c_O_event 17 = .ok (.getfield 105, 3) := by decide +kernel
theorem d_O_event_20 : decode c_O_event 20 = .ok (.iload_n 1, 1) := by decide +kernel
theorem d_O_event_21 : decode c_O_event 21 = .ok (.iaload, 1) := by decide +kernel
theorem d_O_event_22 : decode c_O_event 22 = .ok (.ireturn, 1) := by decide +kernel
theorem d_O_when_0 : decode c_O_when 0 = .ok (.iload_n 1, 1) := by decide +kernel
theorem d_O_when_1 : decode c_O_when 1 = .ok (.ifCond .lt 11, 3) := by decide +kernel
theorem d_O_when_4 : decode c_O_when 4 = .ok (.iload_n 1, 1) := by decide +kernel
theorem d_O_when_5 : decode c_O_when 5 = .ok (.aload_n 0, 1) := by decide +kernel
theorem d_O_when_6 : decode c_O_when 6 = .ok (.getfield 128, 3) := by decide +kernel
theorem d_O_when_9 : decode c_O_when 9 = .ok (.if_icmp .lt 7, 3) := by decide +kernel
theorem d_O_when_12 : decode c_O_when 12 = .ok (.iconst (-1), 1) := by decide +kernel
theorem d_O_when_13 : decode c_O_when 13 = .ok (.goto 9, 3) := by decide +kernel
theorem d_O_when_16 : decode c_O_when 16 = .ok (.aload_n 0, 1) := by decide +kernel
theorem d_O_when_17 : decode c_O_when 17 = .ok (.getfield 108, 3) := by decide +kernel
theorem d_O_when_20 : decode c_O_when 20 = .ok (.iload_n 1, 1) := by decide +kernel
theorem d_O_when_21 : decode c_O_when 21 = .ok (.iaload, 1) := by decide +kernel
theorem d_O_when_22 : decode c_O_when 22 = .ok (.ireturn, 1) := by decide +kernel
