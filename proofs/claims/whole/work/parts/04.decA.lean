theorem dX0_init_0 : decode cX0_init 0 = .ok (.aload_n 0, 1) := by decide +kernel
theorem dX0_init_1 : decode cX0_init 1 = .ok (.invokespecial 3, 3) := by decide +kernel
theorem dX0_init_4 : decode cX0_init 4 = .ok (.aload_n 0, 1) := by decide +kernel
theorem dX0_init_5 : decode cX0_init 5 = .ok (.sipush 256, 3) := by decide +kernel
theorem dX0_init_8 : decode cX0_init 8 = .ok (.newarray .int, 2) := by decide +kernel
theorem dX0_init_10 : decode cX0_init 10 = .ok (.putfield 9, 3) := by decide +kernel
theorem dX0_init_13 : decode cX0_init 13 = .ok (.aload_n 0, 1) := by decide +kernel
theorem dX0_init_14 : decode cX0_init 14 = .ok (.sipush 176, 3) := by decide +kernel
theorem dX0_init_17 : decode cX0_init 17 = .ok (.newarray .int, 2) := by decide +kernel
theorem dX0_init_19 : decode cX0_init 19 = .ok (.putfield 15, 3) := by decide +kernel
theorem dX0_init_22 : decode cX0_init 22 = .ok (.aload_n 0, 1) := by decide +kernel
theorem dX0_init_23 : decode cX0_init 23 = .ok (.bipush 16, 2) := by decide +kernel
theorem dX0_init_25 : decode cX0_init 25 = .ok (.newarray .int, 2) := by decide +kernel
theorem dX0_init_27 : decode cX0_init 27 = .ok (.putfield 18, 3) := by decide +kernel
theorem dX0_init_30 : decode cX0_init 30 = .ok (.aload_n 0, 1) := by decide +kernel
theorem dX0_init_31 : decode cX0_init 31 = .ok (.bipush 16, 2) := by decide +kernel
theorem dX0_init_33 : decode cX0_init 33 = .ok (.newarray .int, 2) := by decide +kernel
theorem dX0_init_35 : decode cX0_init 35 = .ok (.putfield 21, 3) := by decide +kernel
theorem dX0_init_38 : decode cX0_init 38 = .ok (.iconst 0, 1) := by decide +kernel
theorem dX0_init_39 : decode cX0_init 39 = .ok (.istore_n 1, 1) := by decide +kernel
theorem dX0_init_40 : decode cX0_init 40 = .ok (.iload_n 1, 1) := by decide +kernel
theorem dX0_init_41 : decode cX0_init 41 = .ok (.sipush 256, 3) := by decide +kernel
theorem dX0_init_44 : decode cX0_init 44 = .ok (.if_icmp .ge 20, 3) := by decide +kernel
theorem dX0_init_47 : decode cX0_init 47 = .ok (.aload_n 0, 1) := by decide +kernel
theorem dX0_init_48 : decode cX0_init 48 = .ok (.getfield 9, 3) := by decide +kernel
theorem dX0_init_51 : decode cX0_init 51 = .ok (.getstatic 24, 3) := by decide +kernel
theorem dX0_init_54 : decode cX0_init 54 = .ok (.iload_n 1, 1) := by decide +kernel
theorem dX0_init_55 : decode cX0_init 55 = .ok (.iaload, 1) := by decide +kernel
theorem dX0_init_56 : decode cX0_init 56 = .ok (.iload_n 1, 1) := by decide +kernel
theorem dX0_init_57 : decode cX0_init 57 = .ok (.iastore, 1) := by decide +kernel
theorem dX0_init_58 : decode cX0_init 58 = .ok (.iinc 1 1, 3) := by decide +kernel
theorem dX0_init_61 : decode cX0_init 61 = .ok (.goto (-21), 3) := by decide +kernel
theorem dX0_init_64 : decode cX0_init 64 = .ok (.return_, 1) := by decide +kernel
theorem dX0_expand_0 : decode cX0_expand 0 = .ok (.iconst 0, 1) := by decide +kernel
theorem dX0_expand_1 : decode cX0_expand 1 = .ok (.istore_n 2, 1) := by decide +kernel
theorem dX0_expand_2 : decode cX0_expand 2 = .ok (.iload_n 2, 1) := by decide +kernel
theorem dX0_expand_3 : decode cX0_expand 3 = .ok (.bipush 16, 2) := by decide +kernel
theorem dX0_expand_5 : decode cX0_expand 5 = .ok (.if_icmp .ge 33, 3) := by decide +kernel
theorem dX0_expand_8 : decode cX0_expand 8 = .ok (.aload_n 0, 1) := by decide +kernel
theorem dX0_expand_9 : decode cX0_expand 9 = .ok (.getfield 15, 3) := by decide +kernel
theorem dX0_expand_12 : decode cX0_expand 12 = .ok (.iload_n 2, 1) := by decide +kernel
theorem dX0_expand_13 : decode cX0_expand 13 = .ok (.iload_n 2, 1) := by decide +kernel
theorem dX0_expand_14 : decode cX0_expand 14 = .ok (.aload_n 1, 1) := by decide +kernel
theorem dX0_expand_15 : decode cX0_expand 15 = .ok (.getfield 27, 3) := by decide +kernel
theorem dX0_expand_18 : decode cX0_expand 18 = .ok (.if_icmp .ge 12, 3) := by decide +kernel
theorem dX0_expand_21 : decode cX0_expand 21 = .ok (.aload_n 1, 1) := by decide +kernel
theorem dX0_expand_22 : decode cX0_expand 22 = .ok (.getfield 33, 3) := by decide +kernel
theorem dX0_expand_25 : decode cX0_expand 25 = .ok (.iload_n 2, 1) := by decide +kernel
theorem dX0_expand_26 : decode cX0_expand 26 = .ok (.iaload, 1) := by decide +kernel
theorem dX0_expand_27 : decode cX0_expand 27 = .ok (.goto 4, 3) := by decide +kernel
theorem dX0_expand_30 : decode cX0_expand 30 = .ok (.iconst 0, 1) := by decide +kernel
theorem dX0_expand_31 : decode cX0_expand 31 = .ok (.iastore, 1) := by decide +kernel
theorem dX0_expand_32 : decode cX0_expand 32 = .ok (.iinc 2 1, 3) := by decide +kernel
theorem dX0_expand_35 : decode cX0_expand 35 = .ok (.goto (-33), 3) := by decide +kernel
theorem dX0_expand_38 : decode cX0_expand 38 = .ok (.iconst 1, 1) := by decide +kernel
theorem dX0_expand_39 : decode cX0_expand 39 = .ok (.istore_n 2, 1) := by decide +kernel
theorem dX0_expand_40 : decode cX0_expand 40 = .ok (.bipush 16, 2) := by decide +kernel
theorem dX0_expand_42 : decode cX0_expand 42 = .ok (.istore_n 3, 1) := by decide +kernel
theorem dX0_expand_43 : decode cX0_expand 43 = .ok (.iload_n 3, 1) := by decide +kernel
theorem dX0_expand_44 : decode cX0_expand 44 = .ok (.aload_n 0, 1) := by decide +kernel
theorem dX0_expand_45 : decode cX0_expand 45 = .ok (.getfield 15, 3) := by decide +kernel
theorem dX0_expand_48 : decode cX0_expand 48 = .ok (.arraylength, 1) := by decide +kernel
theorem dX0_expand_49 : decode cX0_expand 49 = .ok (.if_icmp .ge 204, 3) := by decide +kernel
theorem dX0_expand_52 : decode cX0_expand 52 = .ok (.iload_n 3, 1) := by decide +kernel
theorem dX0_expand_53 : decode cX0_expand 53 = .ok (.bipush 16, 2) := by decide +kernel
theorem dX0_expand_55 : decode cX0_expand 55 = .ok (.irem, 1) := by decide +kernel
theorem dX0_expand_56 : decode cX0_expand 56 = .ok (.ifCond .ne 147, 3) := by decide +kernel
theorem dX0_expand_59 : decode cX0_expand 59 = .ok (.aload_n 0, 1) := by decide +kernel
theorem dX0_expand_60 : decode cX0_expand 60 = .ok (.getfield 15, 3) := by decide +kernel
theorem dX0_expand_63 : decode cX0_expand 63 = .ok (.iload_n 3, 1) := by decide +kernel
theorem dX0_expand_64 : decode cX0_expand 64 = .ok (.aload_n 0, 1) := by decide +kernel
theorem dX0_expand_65 : decode cX0_expand 65 = .ok (.getfield 15, 3) := by decide +kernel
theorem dX0_expand_68 : decode cX0_expand 68 = .ok (.iload_n 3, 1) := by decide +kernel
theorem dX0_expand_69 : decode cX0_expand 69 = .ok (.bipush 16, 2) := by decide +kernel
theorem dX0_expand_71 : decode cX0_expand 71 = .ok (.isub, 1) := by decide +kernel
theorem dX0_expand_72 : decode cX0_expand 72 = .ok (.iaload, 1) := by decide +kernel
theorem dX0_expand_73 : decode cX0_expand 73 = .ok (.getstatic 24, 3) := by decide +kernel
theorem dX0_expand_76 : decode cX0_expand 76 = .ok (.aload_n 0, 1) := by decide +kernel
theorem dX0_expand_77 : decode cX0_expand 77 = .ok (.getfield 15, 3) := by decide +kernel
theorem dX0_expand_80 : decode cX0_expand 80 = .ok (.iload_n 3, 1) := by decide +kernel
theorem dX0_expand_81 : decode cX0_expand 81 = .ok (.iconst 3, 1) := by decide +kernel
theorem dX0_expand_82 : decode cX0_expand 82 = .ok (.isub, 1) := by decide +kernel
theorem dX0_expand_83 : decode cX0_expand 83 = .ok (.iaload, 1) := by decide +kernel
theorem dX0_expand_84 : decode cX0_expand 84 = .ok (.sipush 255, 3) := by decide +kernel
theorem dX0_expand_87 : decode cX0_expand 87 = .ok (.iand, 1) := by decide +kernel
theorem dX0_expand_88 : decode cX0_expand 88 = .ok (.iaload, 1) := by decide +kernel
theorem dX0_expand_89 : decode cX0_expand 89 = .ok (.ixor, 1) := by decide +kernel
theorem dX0_expand_90 : decode cX0_expand 90 = .ok (.iload_n 2, 1) := by decide +kernel
theorem dX0_expand_91 : decode cX0_expand 91 = .ok (.ixor, 1) := by decide +kernel
theorem dX0_expand_92 : decode cX0_expand 92 = .ok (.iastore, 1) := by decide +kernel
theorem dX0_expand_93 : decode cX0_expand 93 = .ok (.aload_n 0, 1) := by decide +kernel
theorem dX0_expand_94 : decode cX0_expand 94 = .ok (.getfield 15, 3) := by decide +kernel
theorem dX0_expand_97 : decode cX0_expand 97 = .ok (.iload_n 3, 1) := by decide +kernel
theorem dX0_expand_98 : decode cX0_expand 98 = .ok (.iconst 1, 1) := by decide +kernel
theorem dX0_expand_99 : decode cX0_expand 99 = .ok (.iadd, 1) := by decide +kernel
theorem dX0_expand_100 : decode cX0_expand 100 = .ok (.aload_n 0, 1) := by decide +kernel
theorem dX0_expand_101 : decode cX0_expand 101 = .ok (.getfield 15, 3) := by decide +kernel
theorem dX0_expand_104 : decode cX0_expand 104 = .ok (.iload_n 3, 1) := by decide +kernel
theorem dX0_expand_105 : decode cX0_expand 105 = .ok (.bipush 15, 2) := by decide +kernel
theorem dX0_expand_107 : decode cX0_expand 107 = .ok (.isub, 1) := by decide +kernel
theorem dX0_expand_108 : decode cX0_expand 108 = .ok (.iaload, 1) := by decide +kernel
theorem dX0_expand_109 : decode cX0_expand 109 = .ok (.getstatic 24, 3) := by decide +kernel
theorem dX0_expand_112 : decode cX0_expand 112 = .ok (.aload_n 0, 1) := by decide +kernel
theorem dX0_expand_113 : decode cX0_expand 113 = .ok (.getfield 15, 3) := by decide +kernel
theorem dX0_expand_116 : decode cX0_expand 116 = .ok (.iload_n 3, 1) := by decide +kernel
theorem dX0_expand_117 : decode cX0_expand 117 = .ok (.iconst 2, 1) := by decide +kernel
theorem dX0_expand_118 : decode cX0_expand 118 = .ok (.isub, 1) := by decide +kernel
theorem dX0_expand_119 : decode cX0_expand 119 = .ok (.iaload, 1) := by decide +kernel
theorem dX0_expand_120 : decode cX0_expand 120 = .ok (.sipush 255, 3) := by decide +kernel
theorem dX0_expand_123 : decode cX0_expand 123 = .ok (.iand, 1) := by decide +kernel
theorem dX0_expand_124 : decode cX0_expand 124 = .ok (.iaload, 1) := by decide +kernel
theorem dX0_expand_125 : decode cX0_expand 125 = .ok (.ixor, 1) := by decide +kernel
theorem dX0_expand_126 : decode cX0_expand 126 = .ok (.iastore, 1) := by decide +kernel
theorem dX0_expand_127 : decode cX0_expand 127 = .ok (.aload_n 0, 1) := by decide +kernel
theorem dX0_expand_128 : decode cX0_expand 128 = .ok (.getfield 15, 3) := by decide +kernel
theorem dX0_expand_131 : decode cX0_expand 131 = .ok (.iload_n 3, 1) := by decide +kernel
theorem dX0_expand_132 : decode cX0_expand 132 = .ok (.iconst 2, 1) := by decide +kernel
theorem dX0_expand_133 : decode cX0_expand 133 = .ok (.iadd, 1) := by decide +kernel
theorem dX0_expand_134 : decode cX0_expand 134 = .ok (.aload_n 0, 1) := by decide +kernel
theorem dX0_expand_135 : decode cX0_expand 135 = .ok (.getfield 15, 3) := by decide +kernel
theorem dX0_expand_138 : decode cX0_expand 138 = .ok (.iload_n 3, 1) := by decide +kernel
theorem dX0_expand_139 : decode cX0_expand 139 = .ok (.bipush 14, 2) := by decide +kernel
theorem dX0_expand_141 : decode cX0_expand 141 = .ok (.isub, 1) := by decide +kernel
theorem dX0_expand_142 : decode cX0_expand 142 = .ok (.iaload, 1) := by decide +kernel
theorem dX0_expand_143 : decode cX0_expand 143 = .ok (.getstatic 24, 3) := by decide +kernel
theorem dX0_expand_146 : decode cX0_expand 146 = .ok (.aload_n 0, 1) := by decide +kernel
theorem dX0_expand_147 : decode cX0_expand 147 = .ok (.getfield 15, 3) := by decide +kernel
theorem dX0_expand_150 : decode cX0_expand 150 = .ok (.iload_n 3, 1) := by decide +kernel
theorem dX0_expand_151 : decode cX0_expand 151 = .ok (.iconst 1, 1) := by decide +kernel
theorem dX0_expand_152 : decode cX0_expand 152 = .ok (.isub, 1) := by decide +kernel
theorem dX0_expand_153 : decode cX0_expand 153 = .ok (.iaload, 1) := by decide +kernel
theorem dX0_expand_154 : decode cX0_expand 154 = .ok (.sipush 255, 3) := by decide +kernel
theorem dX0_expand_157 : decode cX0_expand 157 = .ok (.iand, 1) := by decide +kernel
theorem dX0_expand_158 : decode cX0_expand 158 = .ok (.iaload, 1) := by decide +kernel
theorem dX0_expand_159 : decode cX0_expand 159 = .ok (.ixor, 1) := by decide +kernel
theorem dX0_expand_160 : decode cX0_expand 160 = .ok (.iastore, 1) := by decide +kernel
theorem dX0_expand_161 : decode cX0_expand 161 = .ok (.aload_n 0, 1) := by decide +kernel
theorem dX0_expand_162 : decode cX0_expand 162 = .ok (.getfield 15, 3) := by decide +kernel
theorem dX0_expand_165 : decode cX0_expand 165 = .ok (.iload_n 3, 1) := by decide +kernel
theorem dX0_expand_166 : decode cX0_expand 166 = .ok (.iconst 3, 1) := by decide +kernel
theorem dX0_expand_167 : decode cX0_expand 167 = .ok (.iadd, 1) := by decide +kernel
theorem dX0_expand_168 : decode cX0_expand 168 = .ok (.aload_n 0, 1) := by decide +kernel
theorem dX0_expand_169 : decode cX0_expand 169 = .ok (.getfield 15, 3) := by decide +kernel
theorem dX0_expand_172 : decode cX0_expand 172 = .ok (.iload_n 3, 1) := by decide +kernel
theorem dX0_expand_173 : decode cX0_expand 173 = .ok (.bipush 13, 2) := by decide +kernel
theorem dX0_expand_175 : decode cX0_expand 175 = .ok (.isub, 1) := by decide +kernel
theorem dX0_expand_176 : decode cX0_expand 176 = .ok (.iaload, 1) := by decide +kernel
theorem dX0_expand_177 : decode cX0_expand 177 = .ok (.getstatic 24, 3) := by decide +kernel
theorem dX0_expand_180 : decode cX0_expand 180 = .ok (.aload_n 0, 1) := by decide +kernel
theorem dX0_expand_181 : decode cX0_expand 181 = .ok (.getfield 15, 3) := by decide +kernel
theorem dX0_expand_184 : decode cX0_expand 184 = .ok (.iload_n 3, 1) := by decide +kernel
theorem dX0_expand_185 : decode cX0_expand 185 = .ok (.iconst 4, 1) := by decide +kernel
theorem dX0_expand_186 : decode cX0_expand 186 = .ok (.isub, 1) := by decide +kernel
theorem dX0_expand_187 : decode cX0_expand 187 = .ok (.iaload, 1) := by decide +kernel
theorem dX0_expand_188 : decode cX0_expand 188 = .ok (.sipush 255, 3) := by decide +kernel
theorem dX0_expand_191 : decode cX0_expand 191 = .ok (.iand, 1) := by decide +kernel
theorem dX0_expand_192 : decode cX0_expand 192 = .ok (.iaload, 1) := by decide +kernel
theorem dX0_expand_193 : decode cX0_expand 193 = .ok (.ixor, 1) := by decide +kernel
theorem dX0_expand_194 : decode cX0_expand 194 = .ok (.iastore, 1) := by decide +kernel
theorem dX0_expand_195 : decode cX0_expand 195 = .ok (.iload_n 2, 1) := by decide +kernel
theorem dX0_expand_196 : decode cX0_expand 196 = .ok (.invokestatic 36, 3) := by decide +kernel
theorem dX0_expand_199 : decode cX0_expand 199 = .ok (.istore_n 2, 1) := by decide +kernel
theorem dX0_expand_200 : decode cX0_expand 200 = .ok (.goto 47, 3) := by decide +kernel
theorem dX0_expand_203 : decode cX0_expand 203 = .ok (.iload_n 3, 1) := by decide +kernel
theorem dX0_expand_204 : decode cX0_expand 204 = .ok (.istore 4, 2) := by decide +kernel
theorem dX0_expand_206 : decode cX0_expand 206 = .ok (.iload 4, 2) := by decide +kernel
theorem dX0_expand_208 : decode cX0_expand 208 = .ok (.iload_n 3, 1) := by decide +kernel
theorem dX0_expand_209 : decode cX0_expand 209 = .ok (.iconst 4, 1) := by decide +kernel
theorem dX0_expand_210 : decode cX0_expand 210 = .ok (.iadd, 1) := by decide +kernel
theorem dX0_expand_211 : decode cX0_expand 211 = .ok (.if_icmp .ge 36, 3) := by decide +kernel
theorem dX0_expand_214 : decode cX0_expand 214 = .ok (.aload_n 0, 1) := by decide +kernel
theorem dX0_expand_215 : decode cX0_expand 215 = .ok (.getfield 15, 3) := by decide +kernel
theorem dX0_expand_218 : decode cX0_expand 218 = .ok (.iload 4, 2) := by decide +kernel
theorem dX0_expand_220 : decode cX0_expand 220 = .ok (.aload_n 0, 1) := by decide +kernel
theorem dX0_expand_221 : decode cX0_expand 221 = .ok (.getfield 15, 3) := by decide +kernel
theorem dX0_expand_224 : decode cX0_expand 224 = .ok (.iload 4, 2) := by decide +kernel
theorem dX0_expand_226 : decode cX0_expand 226 = .ok (.bipush 16, 2) := by decide +kernel
theorem dX0_expand_228 : decode cX0_expand 228 = .ok (.isub, 1) := by decide +kernel
theorem dX0_expand_229 : decode cX0_expand 229 = .ok (.iaload, 1) := by decide +kernel
theorem dX0_expand_230 : decode cX0_expand 230 = .ok (.aload_n 0, 1) := by decide +kernel
theorem dX0_expand_231 : decode cX0_expand 231 = .ok (.getfield 15, 3) := by decide +kernel
theorem dX0_expand_234 : decode cX0_expand 234 = .ok (.iload 4, 2) := by decide +kernel
theorem dX0_expand_236 : decode cX0_expand 236 = .ok (.iconst 4, 1) := by decide +kernel
theorem dX0_expand_237 : decode cX0_expand 237 = .ok (.isub, 1) := by decide +kernel
theorem dX0_expand_238 : decode cX0_expand 238 = .ok (.iaload, 1) := by decide +kernel
theorem dX0_expand_239 : decode cX0_expand 239 = .ok (.ixor, 1) := by decide +kernel
theorem dX0_expand_240 : decode cX0_expand 240 = .ok (.iastore, 1) := by decide +kernel
theorem dX0_expand_241 : decode cX0_expand 241 = .ok (.iinc 4 1, 3) := by decide +kernel
theorem dX0_expand_244 : decode cX0_expand 244 = .ok (.goto (-38), 3) := by decide +kernel
theorem dX0_expand_247 : decode cX0_expand 247 = .ok (.iinc 3 4, 3) := by decide +kernel
theorem dX0_expand_250 : decode cX0_expand 250 = .ok (.goto (-207), 3) := by decide +kernel
theorem dX0_expand_253 : decode cX0_expand 253 = .ok (.return_, 1) := by decide +kernel
theorem dX0_loadFrom_0 : decode cX0_loadFrom 0 = .ok (.aload_n 1, 1) := by decide +kernel
theorem dX0_loadFrom_1 : decode cX0_loadFrom 1 = .ok (.iload_n 2, 1) := by decide +kernel
theorem dX0_loadFrom_2 : decode cX0_loadFrom 2 = .ok (.invokestatic 40, 3) := by decide +kernel
theorem dX0_loadFrom_5 : decode cX0_loadFrom 5 = .ok (.ifCond .eq 18, 3) := by decide +kernel
theorem dX0_loadFrom_8 : decode cX0_loadFrom 8 = .ok (.aload_n 1, 1) := by decide +kernel
theorem dX0_loadFrom_9 : decode cX0_loadFrom 9 = .ok (.getfield 33, 3) := by decide +kernel
theorem dX0_loadFrom_12 : decode cX0_loadFrom 12 = .ok (.iload_n 2, 1) := by decide +kernel
theorem dX0_loadFrom_13 : decode cX0_loadFrom 13 = .ok (.aload_n 0, 1) := by decide +kernel
theorem dX0_loadFrom_14 : decode cX0_loadFrom 14 = .ok (.getfield 18, 3) := by decide +kernel
theorem dX0_loadFrom_17 : decode cX0_loadFrom 17 = .ok (.iconst 0, 1) := by decide +kernel
theorem dX0_loadFrom_18 : decode cX0_loadFrom 18 = .ok (.bipush 16, 2) := by decide +kernel
theorem dX0_loadFrom_20 : decode cX0_loadFrom 20 = .ok (.invokestatic 44, 3) := by decide +kernel
theorem dX0_loadFrom_23 : decode cX0_loadFrom 23 = .ok (.return_, 1) := by decide +kernel
theorem dX0_addFrom_0 : decode cX0_addFrom 0 = .ok (.aload_n 1, 1) := by decide +kernel
theorem dX0_addFrom_1 : decode cX0_addFrom 1 = .ok (.iload_n 2, 1) := by decide +kernel
theorem dX0_addFrom_2 : decode cX0_addFrom 2 = .ok (.invokestatic 40, 3) := by decide +kernel
theorem dX0_addFrom_5 : decode cX0_addFrom 5 = .ok (.ifCond .eq 34, 3) := by decide +kernel
theorem dX0_addFrom_8 : decode cX0_addFrom 8 = .ok (.iconst 0, 1) := by decide +kernel
theorem dX0_addFrom_9 : decode cX0_addFrom 9 = .ok (.istore_n 3, 1) := by decide +kernel
theorem dX0_addFrom_10 : decode cX0_addFrom 10 = .ok (.iload_n 3, 1) := by decide +kernel
theorem dX0_addFrom_11 : decode cX0_addFrom 11 = .ok (.bipush 16, 2) := by decide +kernel
theorem dX0_addFrom_13 : decode cX0_addFrom 13 = .ok (.if_icmp .ge 26, 3) := by decide +kernel
theorem dX0_addFrom_16 : decode cX0_addFrom 16 = .ok (.aload_n 0, 1) := by decide +kernel
theorem dX0_addFrom_17 : decode cX0_addFrom 17 = .ok (.getfield 18, 3) := by decide +kernel
theorem dX0_addFrom_20 : decode cX0_addFrom 20 = .ok (.iload_n 3, 1) := by decide +kernel
theorem dX0_addFrom_21 : decode cX0_addFrom 21 = .ok (.dup2, 1) := by decide +kernel
theorem dX0_addFrom_22 : decode cX0_addFrom 22 = .ok (.iaload, 1) := by decide +kernel
theorem dX0_addFrom_23 : decode cX0_addFrom 23 = .ok (.aload_n 1, 1) := by decide +kernel
theorem dX0_addFrom_24 : decode cX0_addFrom 24 = .ok (.getfield 33, 3) := by decide +kernel
theorem dX0_addFrom_27 : decode cX0_addFrom 27 = .ok (.iload_n 2, 1) := by decide +kernel
theorem dX0_addFrom_28 : decode cX0_addFrom 28 = .ok (.iload_n 3, 1) := by decide +kernel
theorem dX0_addFrom_29 : decode cX0_addFrom 29 = .ok (.iadd, 1) := by decide +kernel
theorem dX0_addFrom_30 : decode cX0_addFrom 30 = .ok (.iaload, 1) := by decide +kernel
theorem dX0_addFrom_31 : decode cX0_addFrom 31 = .ok (.ixor, 1) := by decide +kernel
theorem dX0_addFrom_32 : decode cX0_addFrom 32 = .ok (.iastore, 1) := by decide +kernel
theorem dX0_addFrom_33 : decode cX0_addFrom 33 = .ok (.iinc 3 1, 3) := by decide +kernel
theorem dX0_addFrom_36 : decode cX0_addFrom 36 = .ok (.goto (-26), 3) := by decide +kernel
theorem dX0_addFrom_39 : decode cX0_addFrom 39 = .ok (.return_, 1) := by decide +kernel
theorem dX0_storeTo_0 : decode cX0_storeTo 0 = .ok (.aload_n 1, 1) := by decide +kernel
theorem dX0_storeTo_1 : decode cX0_storeTo 1 = .ok (.iload_n 2, 1) := by decide +kernel
theorem dX0_storeTo_2 : decode cX0_storeTo 2 = .ok (.invokestatic 40, 3) := by decide +kernel
theorem dX0_storeTo_5 : decode cX0_storeTo 5 = .ok (.ifCond .eq 18, 3) := by decide +kernel
theorem dX0_storeTo_8 : decode cX0_storeTo 8 = .ok (.aload_n 0, 1) := by decide +kernel
theorem dX0_storeTo_9 : decode cX0_storeTo 9 = .ok (.getfield 18, 3) := by decide +kernel
theorem dX0_storeTo_12 : decode cX0_storeTo 12 = .ok (.iconst 0, 1) := by decide +kernel
theorem dX0_storeTo_13 : decode cX0_storeTo 13 = .ok (.aload_n 1, 1) := by decide +kernel
theorem dX0_storeTo_14 : decode cX0_storeTo 14 = .ok (.getfield 33, 3) := by decide +kernel
theorem dX0_storeTo_17 : decode cX0_storeTo 17 = .ok (.iload_n 2, 1) := by decide +kernel
theorem dX0_storeTo_18 : decode cX0_storeTo 18 = .ok (.bipush 16, 2) := by decide +kernel
theorem dX0_storeTo_20 : decode cX0_storeTo 20 = .ok (.invokestatic 44, 3) := by decide +kernel
theorem dX0_storeTo_23 : decode cX0_storeTo 23 = .ok (.return_, 1) := by decide +kernel
theorem dX0_fits_0 : decode cX0_fits 0 = .ok (.iload_n 1, 1) := by decide +kernel
theorem dX0_fits_1 : decode cX0_fits 1 = .ok (.ifCond .lt 19, 3) := by decide +kernel
theorem dX0_fits_4 : decode cX0_fits 4 = .ok (.iload_n 1, 1) := by decide +kernel
theorem dX0_fits_5 : decode cX0_fits 5 = .ok (.aload_n 0, 1) := by decide +kernel
theorem dX0_fits_6 : decode cX0_fits 6 = .ok (.getfield 33, 3) := by decide +kernel
theorem dX0_fits_9 : decode cX0_fits 9 = .ok (.arraylength, 1) := by decide +kernel
theorem dX0_fits_10 : decode cX0_fits 10 = .ok (.bipush 16, 2) := by decide +kernel
theorem dX0_fits_12 : decode cX0_fits 12 = .ok (.isub, 1) := by decide +kernel
theorem dX0_fits_13 : decode cX0_fits 13 = .ok (.if_icmp .gt 7, 3) := by decide +kernel
theorem dX0_fits_16 : decode cX0_fits 16 = .ok (.iconst 1, 1) := by decide +kernel
theorem dX0_fits_17 : decode cX0_fits 17 = .ok (.goto 4, 3) := by decide +kernel
theorem dX0_fits_20 : decode cX0_fits 20 = .ok (.iconst 0, 1) := by decide +kernel
theorem dX0_fits_21 : decode cX0_fits 21 = .ok (.ireturn, 1) := by decide +kernel
theorem dX0_filling_0 : decode cX0_filling 0 = .ok (.aload_n 0, 1) := by decide +kernel
theorem dX0_filling_1 : decode cX0_filling 1 = .ok (.getfield 18, 3) := by decide +kernel
theorem dX0_filling_4 : decode cX0_filling 4 = .ok (.bipush 15, 2) := by decide +kernel
theorem dX0_filling_6 : decode cX0_filling 6 = .ok (.iaload, 1) := by decide +kernel
theorem dX0_filling_7 : decode cX0_filling 7 = .ok (.istore_n 1, 1) := by decide +kernel
theorem dX0_filling_8 : decode cX0_filling 8 = .ok (.iload_n 1, 1) := by decide +kernel
theorem dX0_filling_9 : decode cX0_filling 9 = .ok (.iconst 1, 1) := by decide +kernel
theorem dX0_filling_10 : decode cX0_filling 10 = .ok (.if_icmp .lt 9, 3) := by decide +kernel
theorem dX0_filling_13 : decode cX0_filling 13 = .ok (.iload_n 1, 1) := by decide +kernel
theorem dX0_filling_14 : decode cX0_filling 14 = .ok (.bipush 16, 2) := by decide +kernel
theorem dX0_filling_16 : decode cX0_filling 16 = .ok (.if_icmp .le 5, 3) := by decide +kernel
theorem dX0_filling_19 : decode cX0_filling 19 = .ok (.iconst 0, 1) := by decide +kernel
theorem dX0_filling_20 : decode cX0_filling 20 = .ok (.ireturn, 1) := by decide +kernel
theorem dX0_filling_21 : decode cX0_filling 21 = .ok (.bipush 16, 2) := by decide +kernel
theorem dX0_filling_23 : decode cX0_filling 23 = .ok (.iload_n 1, 1) := by decide +kernel
theorem dX0_filling_24 : decode cX0_filling 24 = .ok (.isub, 1) := by decide +kernel
theorem dX0_filling_25 : decode cX0_filling 25 = .ok (.istore_n 2, 1) := by decide +kernel
theorem dX0_filling_26 : decode cX0_filling 26 = .ok (.iload_n 2, 1) := by decide +kernel
theorem dX0_filling_27 : decode cX0_filling 27 = .ok (.bipush 16, 2) := by decide +kernel
theorem dX0_filling_29 : decode cX0_filling 29 = .ok (.if_icmp .ge 21, 3) := by decide +kernel
theorem dX0_filling_32 : decode cX0_filling 32 = .ok (.aload_n 0, 1) := by decide +kernel
theorem dX0_filling_33 : decode cX0_filling 33 = .ok (.getfield 18, 3) := by decide +kernel
theorem dX0_filling_36 : decode cX0_filling 36 = .ok (.iload_n 2, 1) := by decide +kernel
theorem dX0_filling_37 : decode cX0_filling 37 = .ok (.iaload, 1) := by decide +kernel
theorem dX0_filling_38 : decode cX0_filling 38 = .ok (.iload_n 1, 1) := by decide +kernel
theorem dX0_filling_39 : decode cX0_filling 39 = .ok (.if_icmp .eq 5, 3) := by decide +kernel
theorem dX0_filling_42 : decode cX0_filling 42 = .ok (.iconst 0, 1) := by decide +kernel
theorem dX0_filling_43 : decode cX0_filling 43 = .ok (.ireturn, 1) := by decide +kernel
theorem dX0_filling_44 : decode cX0_filling 44 = .ok (.iinc 2 1, 3) := by decide +kernel
theorem dX0_filling_47 : decode cX0_filling 47 = .ok (.goto (-21), 3) := by decide +kernel
theorem dX0_filling_50 : decode cX0_filling 50 = .ok (.iload_n 1, 1) := by decide +kernel
theorem dX0_filling_51 : decode cX0_filling 51 = .ok (.ireturn, 1) := by decide +kernel
theorem dX0_makeBlock_0 : decode cX0_makeBlock 0 = .ok (.aload_n 0, 1) := by decide +kernel
theorem dX0_makeBlock_1 : decode cX0_makeBlock 1 = .ok (.iconst 0, 1) := by decide +kernel
theorem dX0_makeBlock_2 : decode cX0_makeBlock 2 = .ok (.invokevirtual 50, 3) := by decide +kernel
theorem dX0_makeBlock_5 : decode cX0_makeBlock 5 = .ok (.iconst 1, 1) := by decide +kernel
theorem dX0_makeBlock_6 : decode cX0_makeBlock 6 = .ok (.istore_n 1, 1) := by decide +kernel
theorem dX0_makeBlock_7 : decode cX0_makeBlock 7 = .ok (.iload_n 1, 1) := by decide +kernel
theorem dX0_makeBlock_8 : decode cX0_makeBlock 8 = .ok (.bipush 10, 2) := by decide +kernel
theorem dX0_makeBlock_10 : decode cX0_makeBlock 10 = .ok (.if_icmp .gt 28, 3) := by decide +kernel
theorem dX0_makeBlock_13 : decode cX0_makeBlock 13 = .ok (.aload_n 0, 1) := by decide +kernel
theorem dX0_makeBlock_14 : decode cX0_makeBlock 14 = .ok (.invokevirtual 54, 3) := by decide +kernel
theorem dX0_makeBlock_17 : decode cX0_makeBlock 17 = .ok (.iload_n 1, 1) := by decide +kernel
theorem dX0_makeBlock_18 : decode cX0_makeBlock 18 = .ok (.bipush 10, 2) := by decide +kernel
theorem dX0_makeBlock_20 : decode cX0_makeBlock 20 = .ok (.if_icmp .ge 7, 3) := by decide +kernel
theorem dX0_makeBlock_23 : decode cX0_makeBlock 23 = .ok (.aload_n 0, 1) := by decide +kernel
theorem dX0_makeBlock_24 : decode cX0_makeBlock 24 = .ok (.invokevirtual 57, 3) := by decide +kernel
theorem dX0_makeBlock_27 : decode cX0_makeBlock 27 = .ok (.aload_n 0, 1) := by decide +kernel
theorem dX0_makeBlock_28 : decode cX0_makeBlock 28 = .ok (.iload_n 1, 1) := by decide +kernel
theorem dX0_makeBlock_29 : decode cX0_makeBlock 29 = .ok (.invokevirtual 50, 3) := by decide +kernel
theorem dX0_makeBlock_32 : decode cX0_makeBlock 32 = .ok (.iinc 1 1, 3) := by decide +kernel
theorem dX0_makeBlock_35 : decode cX0_makeBlock 35 = .ok (.goto (-28), 3) := by decide +kernel
theorem dX0_makeBlock_38 : decode cX0_makeBlock 38 = .ok (.return_, 1) := by decide +kernel
theorem dX0_unmakeBlock_0 : decode cX0_unmakeBlock 0 = .ok (.bipush 10, 2) := by decide +kernel
theorem dX0_unmakeBlock_2 : decode cX0_unmakeBlock 2 = .ok (.istore_n 1, 1) := by decide +kernel
theorem dX0_unmakeBlock_3 : decode cX0_unmakeBlock 3 = .ok (.iload_n 1, 1) := by decide +kernel
theorem dX0_unmakeBlock_4 : decode cX0_unmakeBlock 4 = .ok (.iconst 1, 1) := by decide +kernel
theorem dX0_unmakeBlock_5 : decode cX0_unmakeBlock 5 = .ok (.if_icmp .lt 28, 3) := by decide +kernel
theorem dX0_unmakeBlock_8 : decode cX0_unmakeBlock 8 = .ok (.aload_n 0, 1) := by decide +kernel
theorem dX0_unmakeBlock_9 : decode cX0_unmakeBlock 9 = .ok (.iload_n 1, 1) := by decide +kernel
theorem dX0_unmakeBlock_10 : decode cX0_unmakeBlock 10 = .ok (.invokevirtual 50, 3) := by decide +kernel
theorem dX0_unmakeBlock_13 : decode cX0_unmakeBlock 13 = .ok (.iload_n 1, 1) := by decide +kernel
theorem dX0_unmakeBlock_14 : decode cX0_unmakeBlock 14 = .ok (.bipush 10, 2) := by decide +kernel
theorem dX0_unmakeBlock_16 : decode cX0_unmakeBlock 16 = .ok (.if_icmp .ge 7, 3) := by decide +kernel
theorem dX0_unmakeBlock_19 : decode cX0_unmakeBlock 19 = .ok (.aload_n 0, 1) := by decide +kernel
theorem dX0_unmakeBlock_20 : decode cX0_unmakeBlock 20 = .ok (.invokevirtual 60, 3) := by decide +kernel
theorem dX0_unmakeBlock_23 : decode cX0_unmakeBlock 23 = .ok (.aload_n 0, 1) := by decide +kernel
theorem dX0_unmakeBlock_24 : decode cX0_unmakeBlock 24 = .ok (.invokevirtual 63, 3) := by decide +kernel
theorem dX0_unmakeBlock_27 : decode cX0_unmakeBlock 27 = .ok (.iinc 1 (-1), 3) := by decide +kernel
theorem dX0_unmakeBlock_30 : decode cX0_unmakeBlock 30 = .ok (.goto (-27), 3) := by decide +kernel
theorem dX0_unmakeBlock_33 : decode cX0_unmakeBlock 33 = .ok (.aload_n 0, 1) := by decide +kernel
theorem dX0_unmakeBlock_34 : decode cX0_unmakeBlock 34 = .ok (.iconst 0, 1) := by decide +kernel
theorem dX0_unmakeBlock_35 : decode cX0_unmakeBlock 35 = .ok (.invokevirtual 50, 3) := by decide +kernel
theorem dX0_unmakeBlock_38 : decode cX0_unmakeBlock 38 = .ok (.return_, 1) := by decide +kernel
theorem dX0_addColumns_0 : decode cX0_addColumns 0 = .ok (.bipush 16, 2) := by decide +kernel
theorem dX0_addColumns_2 : decode cX0_addColumns 2 = .ok (.iload_n 1, 1) := by decide +kernel
theorem dX0_addColumns_3 : decode cX0_addColumns 3 = .ok (.imul, 1) := by decide +kernel
theorem dX0_addColumns_4 : decode cX0_addColumns 4 = .ok (.istore_n 2, 1) := by decide +kernel
theorem dX0_addColumns_5 : decode cX0_addColumns 5 = .ok (.iconst 0, 1) := by decide +kernel
theorem dX0_addColumns_6 : decode cX0_addColumns 6 = .ok (.istore_n 3, 1) := by decide +kernel
theorem dX0_addColumns_7 : decode cX0_addColumns 7 = .ok (.iload_n 3, 1) := by decide +kernel
theorem dX0_addColumns_8 : decode cX0_addColumns 8 = .ok (.bipush 16, 2) := by decide +kernel
theorem dX0_addColumns_10 : decode cX0_addColumns 10 = .ok (.if_icmp .ge 26, 3) := by decide +kernel
theorem dX0_addColumns_13 : decode cX0_addColumns 13 = .ok (.aload_n 0, 1) := by decide +kernel
theorem dX0_addColumns_14 : decode cX0_addColumns 14 = .ok (.getfield 18, 3) := by decide +kernel
theorem dX0_addColumns_17 : decode cX0_addColumns 17 = .ok (.iload_n 3, 1) := by decide +kernel
theorem dX0_addColumns_18 : decode cX0_addColumns 18 = .ok (.dup2, 1) := by decide +kernel
theorem dX0_addColumns_19 : decode cX0_addColumns 19 = .ok (.iaload, 1) := by decide +kernel
theorem dX0_addColumns_20 : decode cX0_addColumns 20 = .ok (.aload_n 0, 1) := by decide +kernel
theorem dX0_addColumns_21 : decode cX0_addColumns 21 = .ok (.getfield 15, 3) := by decide +kernel
theorem dX0_addColumns_24 : decode cX0_addColumns 24 = .ok (.iload_n 2, 1) := by decide +kernel
theorem dX0_addColumns_25 : decode cX0_addColumns 25 = .ok (.iload_n 3, 1) := by decide +kernel
theorem dX0_addColumns_26 : decode cX0_addColumns 26 = .ok (.iadd, 1) := by decide +kernel
theorem dX0_addColumns_27 : decode cX0_addColumns 27 = .ok (.iaload, 1) := by decide +kernel
theorem dX0_addColumns_28 : decode cX0_addColumns 28 = .ok (.ixor, 1) := by decide +kernel
theorem dX0_addColumns_29 : decode cX0_addColumns 29 = .ok (.iastore, 1) := by decide +kernel
theorem dX0_addColumns_30 : decode cX0_addColumns 30 = .ok (.iinc 3 1, 3) := by decide +kernel
theorem dX0_addColumns_33 : decode cX0_addColumns 33 = .ok (.goto (-26), 3) := by decide +kernel
theorem dX0_addColumns_36 : decode cX0_addColumns 36 = .ok (.return_, 1) := by decide +kernel
theorem dX0_swapAndTurn_0 : decode cX0_swapAndTurn 0 = .ok (.aload_n 0, 1) := by decide +kernel
theorem dX0_swapAndTurn_1 : decode cX0_swapAndTurn 1 = .ok (.getfield 18, 3) := by decide +kernel
theorem dX0_swapAndTurn_4 : decode cX0_swapAndTurn 4 = .ok (.iconst 0, 1) := by decide +kernel
theorem dX0_swapAndTurn_5 : decode cX0_swapAndTurn 5 = .ok (.aload_n 0, 1) := by decide +kernel
theorem dX0_swapAndTurn_6 : decode cX0_swapAndTurn 6 = .ok (.getfield 21, 3) := by decide +kernel
theorem dX0_swapAndTurn_9 : decode cX0_swapAndTurn 9 = .ok (.iconst 0, 1) := by decide +kernel
theorem dX0_swapAndTurn_10 : decode cX0_swapAndTurn 10 = .ok (.bipush 16, 2) := by decide +kernel
theorem dX0_swapAndTurn_12 : decode cX0_swapAndTurn 12 = .ok (.invokestatic 44, 3) := by decide +kernel
theorem dX0_swapAndTurn_15 : decode cX0_swapAndTurn 15 = .ok (.iconst 0, 1) := by decide +kernel
theorem dX0_swapAndTurn_16 : decode cX0_swapAndTurn 16 = .ok (.istore_n 1, 1) := by decide +kernel
theorem dX0_swapAndTurn_17 : decode cX0_swapAndTurn 17 = .ok (.iload_n 1, 1) := by decide +kernel
theorem dX0_swapAndTurn_18 : decode cX0_swapAndTurn 18 = .ok (.bipush 16, 2) := by decide +kernel
theorem dX0_swapAndTurn_20 : decode cX0_swapAndTurn 20 = .ok (.if_icmp .ge 34, 3) := by decide +kernel
theorem dX0_swapAndTurn_23 : decode cX0_swapAndTurn 23 = .ok (.aload_n 0, 1) := by decide +kernel
theorem dX0_swapAndTurn_24 : decode cX0_swapAndTurn 24 = .ok (.getfield 18, 3) := by decide +kernel
theorem dX0_swapAndTurn_27 : decode cX0_swapAndTurn 27 = .ok (.iload_n 1, 1) := by decide +kernel
theorem dX0_swapAndTurn_28 : decode cX0_swapAndTurn 28 = .ok (.getstatic 24, 3) := by decide +kernel
theorem dX0_swapAndTurn_31 : decode cX0_swapAndTurn 31 = .ok (.aload_n 0, 1) := by decide +kernel
theorem dX0_swapAndTurn_32 : decode cX0_swapAndTurn 32 = .ok (.getfield 21, 3) := by decide +kernel
theorem dX0_swapAndTurn_35 : decode cX0_swapAndTurn 35 = .ok (.iconst 5, 1) := by decide +kernel
theorem dX0_swapAndTurn_36 : decode cX0_swapAndTurn 36 = .ok (.iload_n 1, 1) := by decide +kernel
theorem dX0_swapAndTurn_37 : decode cX0_swapAndTurn 37 = .ok (.imul, 1) := by decide +kernel
theorem dX0_swapAndTurn_38 : decode cX0_swapAndTurn 38 = .ok (.bipush 15, 2) := by decide +kernel
theorem dX0_swapAndTurn_40 : decode cX0_swapAndTurn 40 = .ok (.iand, 1) := by decide +kernel
theorem dX0_swapAndTurn_41 : decode cX0_swapAndTurn 41 = .ok (.iaload, 1) := by decide +kernel
theorem dX0_swapAndTurn_42 : decode cX0_swapAndTurn 42 = .ok (.sipush 255, 3) := by decide +kernel
theorem dX0_swapAndTurn_45 : decode cX0_swapAndTurn 45 = .ok (.iand, 1) := by decide +kernel
theorem dX0_swapAndTurn_46 : decode cX0_swapAndTurn 46 = .ok (.iaload, 1) := by decide +kernel
theorem dX0_swapAndTurn_47 : decode cX0_swapAndTurn 47 = .ok (.iastore, 1) := by decide +kernel
theorem dX0_swapAndTurn_48 : decode cX0_swapAndTurn 48 = .ok (.iinc 1 1, 3) := by decide +kernel
theorem dX0_swapAndTurn_51 : decode cX0_swapAndTurn 51 = .ok (.goto (-34), 3) := by decide +kernel
theorem dX0_swapAndTurn_54 : decode cX0_swapAndTurn 54 = .ok (.return_, 1) := by decide +kernel
theorem dX0_swapAndTurnBack_0 : decode cX0_swapAndTurnBack 0 = .ok (.aload_n 0, 1) := by decide +kernel
theorem dX0_swapAndTurnBack_1 : decode cX0_swapAndTurnBack 1 = .ok (.getfield 18, 3) := by decide +kernel
theorem dX0_swapAndTurnBack_4 : decode cX0_swapAndTurnBack 4 = .ok (.iconst 0, 1) := by decide +kernel
theorem dX0_swapAndTurnBack_5 : decode cX0_swapAndTurnBack 5 = .ok (.aload_n 0, 1) := by decide +kernel
theorem dX0_swapAndTurnBack_6 : decode cX0_swapAndTurnBack 6 = .ok (.getfield 21, 3) := by decide +kernel
theorem dX0_swapAndTurnBack_9 : decode cX0_swapAndTurnBack 9 = .ok (.iconst 0, 1) := by decide +kernel
theorem dX0_swapAndTurnBack_10 : decode cX0_swapAndTurnBack 10 = .ok (.bipush 16, 2) := by decide +kernel
theorem dX0_swapAndTurnBack_12 : decode cX0_swapAndTurnBack 12 = .ok (.invokestatic 44, 3) := by decide +kernel
theorem dX0_swapAndTurnBack_15 : decode cX0_swapAndTurnBack 15 = .ok (.iconst 0, 1) := by decide +kernel
theorem dX0_swapAndTurnBack_16 : decode cX0_swapAndTurnBack 16 = .ok (.istore_n 1, 1) := by decide +kernel
theorem dX0_swapAndTurnBack_17 : decode cX0_swapAndTurnBack 17 = .ok (.iload_n 1, 1) := by decide +kernel
theorem dX0_swapAndTurnBack_18 : decode cX0_swapAndTurnBack 18 = .ok (.bipush 16, 2) := by decide +kernel
theorem dX0_swapAndTurnBack_20 : decode cX0_swapAndTurnBack 20 = .ok (.if_icmp .ge 35, 3) := by decide +kernel
theorem dX0_swapAndTurnBack_23 : decode cX0_swapAndTurnBack 23 = .ok (.aload_n 0, 1) := by decide +kernel
theorem dX0_swapAndTurnBack_24 : decode cX0_swapAndTurnBack 24 = .ok (.getfield 18, 3) := by decide +kernel
theorem dX0_swapAndTurnBack_27 : decode cX0_swapAndTurnBack 27 = .ok (.iconst 5, 1) := by decide +kernel
theorem dX0_swapAndTurnBack_28 : decode cX0_swapAndTurnBack 28 = .ok (.iload_n 1, 1) := by decide +kernel
theorem dX0_swapAndTurnBack_29 : decode cX0_swapAndTurnBack 29 = .ok (.imul, 1) := by decide +kernel
theorem dX0_swapAndTurnBack_30 : decode cX0_swapAndTurnBack 30 = .ok (.bipush 15, 2) := by decide +kernel
theorem dX0_swapAndTurnBack_32 : decode cX0_swapAndTurnBack 32 = .ok (.iand, 1) := by decide +kernel
theorem dX0_swapAndTurnBack_33 : decode cX0_swapAndTurnBack 33 = .ok (.aload_n 0, 1) := by decide +kernel
theorem dX0_swapAndTurnBack_34 : decode cX0_swapAndTurnBack 34 = .ok (.getfield 9, 3) := by decide +kernel
theorem dX0_swapAndTurnBack_37 : decode cX0_swapAndTurnBack 37 = .ok (.aload_n 0, 1) := by decide +kernel
theorem dX0_swapAndTurnBack_38 : decode cX0_swapAndTurnBack 38 = .ok (.getfield 21, 3) := by decide +kernel
theorem dX0_swapAndTurnBack_41 : decode cX0_swapAndTurnBack 41 = .ok (.iload_n 1, 1) := by decide +kernel
theorem dX0_swapAndTurnBack_42 : decode cX0_swapAndTurnBack 42 = .ok (.iaload, 1) := by decide +kernel
theorem dX0_swapAndTurnBack_43 : decode cX0_swapAndTurnBack 43 = .ok (.sipush 255, 3) := by decide +kernel
theorem dX0_swapAndTurnBack_46 : decode cX0_swapAndTurnBack 46 = .ok (.iand, 1) := by decide +kernel
theorem dX0_swapAndTurnBack_47 : decode cX0_swapAndTurnBack 47 = .ok (.iaload, 1) := by decide +kernel
theorem dX0_swapAndTurnBack_48 : decode cX0_swapAndTurnBack 48 = .ok (.iastore, 1) := by decide +kernel
theorem dX0_swapAndTurnBack_49 : decode cX0_swapAndTurnBack 49 = .ok (.iinc 1 1, 3) := by decide +kernel
theorem dX0_swapAndTurnBack_52 : decode cX0_swapAndTurnBack 52 = .ok (.goto (-35), 3) := by decide +kernel
theorem dX0_swapAndTurnBack_55 : decode cX0_swapAndTurnBack 55 = .ok (.return_, 1) := by decide +kernel
theorem dX0_mixColumns_0 : decode cX0_mixColumns 0 = .ok (.iconst 0, 1) := by decide +kernel
theorem dX0_mixColumns_1 : decode cX0_mixColumns 1 = .ok (.istore_n 1, 1) := by decide +kernel
theorem dX0_mixColumns_2 : decode cX0_mixColumns 2 = .ok (.iload_n 1, 1) := by decide +kernel
theorem dX0_mixColumns_3 : decode cX0_mixColumns 3 = .ok (.bipush 16, 2) := by decide +kernel
theorem dX0_mixColumns_5 : decode cX0_mixColumns 5 = .ok (.if_icmp .ge 136, 3) := by decide +kernel
theorem dX0_mixColumns_8 : decode cX0_mixColumns 8 = .ok (.aload_n 0, 1) := by decide +kernel
theorem dX0_mixColumns_9 : decode cX0_mixColumns 9 = .ok (.getfield 18, 3) := by decide +kernel
theorem dX0_mixColumns_12 : decode cX0_mixColumns 12 = .ok (.iload_n 1, 1) := by decide +kernel
theorem dX0_mixColumns_13 : decode cX0_mixColumns 13 = .ok (.iaload, 1) := by decide +kernel
theorem dX0_mixColumns_14 : decode cX0_mixColumns 14 = .ok (.istore_n 2, 1) := by decide +kernel
theorem dX0_mixColumns_15 : decode cX0_mixColumns 15 = .ok (.aload_n 0, 1) := by decide +kernel
theorem dX0_mixColumns_16 : decode cX0_mixColumns 16 = .ok (.getfield 18, 3) := by decide +kernel
theorem dX0_mixColumns_19 : decode cX0_mixColumns 19 = .ok (.iload_n 1, 1) := by decide +kernel
theorem dX0_mixColumns_20 : decode cX0_mixColumns 20 = .ok (.iconst 1, 1) := by decide +kernel
theorem dX0_mixColumns_21 : decode cX0_mixColumns 21 = .ok (.iadd, 1) := by decide +kernel
theorem dX0_mixColumns_22 : decode cX0_mixColumns 22 = .ok (.iaload, 1) := by decide +kernel
theorem dX0_mixColumns_23 : decode cX0_mixColumns 23 = .ok (.istore_n 3, 1) := by decide +kernel
theorem dX0_mixColumns_24 : decode cX0_mixColumns 24 = .ok (.aload_n 0, 1) := by decide +kernel
theorem dX0_mixColumns_25 : decode cX0_mixColumns 25 = .ok (.getfield 18, 3) := by decide +kernel
theorem dX0_mixColumns_28 : decode cX0_mixColumns 28 = .ok (.iload_n 1, 1) := by decide +kernel
theorem dX0_mixColumns_29 : decode cX0_mixColumns 29 = .ok (.iconst 2, 1) := by decide +kernel
theorem dX0_mixColumns_30 : decode cX0_mixColumns 30 = .ok (.iadd, 1) := by decide +kernel
theorem dX0_mixColumns_31 : decode cX0_mixColumns 31 = .ok (.iaload, 1) := by decide +kernel
theorem dX0_mixColumns_32 : decode cX0_mixColumns 32 = .ok (.istore 4, 2) := by decide +kernel
theorem dX0_mixColumns_34 : decode cX0_mixColumns 34 = .ok (.aload_n 0, 1) := by decide +kernel
theorem dX0_mixColumns_35 : decode cX0_mixColumns 35 = .ok (.getfield 18, 3) := by decide +kernel
theorem dX0_mixColumns_38 : decode cX0_mixColumns 38 = .ok (.iload_n 1, 1) := by decide +kernel
theorem dX0_mixColumns_39 : decode cX0_mixColumns 39 = .ok (.iconst 3, 1) := by decide +kernel
theorem dX0_mixColumns_40 : decode cX0_mixColumns 40 = .ok (.iadd, 1) := by decide +kernel
theorem dX0_mixColumns_41 : decode cX0_mixColumns 41 = .ok (.iaload, 1) := by decide +kernel
theorem dX0_mixColumns_42 : decode cX0_mixColumns 42 = .ok (.istore 5, 2) := by decide +kernel
theorem dX0_mixColumns_44 : decode cX0_mixColumns 44 = .ok (.iload_n 2, 1) := by decide +kernel
theorem dX0_mixColumns_45 : decode cX0_mixColumns 45 = .ok (.iload_n 3, 1) := by decide +kernel
theorem dX0_mixColumns_46 : decode cX0_mixColumns 46 = .ok (.ixor, 1) := by decide +kernel
theorem dX0_mixColumns_47 : decode cX0_mixColumns 47 = .ok (.iload 4, 2) := by decide +kernel
theorem dX0_mixColumns_49 : decode cX0_mixColumns 49 = .ok (.ixor, 1) := by decide +kernel
theorem dX0_mixColumns_50 : decode cX0_mixColumns 50 = .ok (.iload 5, 2) := by decide +kernel
theorem dX0_mixColumns_52 : decode cX0_mixColumns 52 = .ok (.ixor, 1) := by decide +kernel
theorem dX0_mixColumns_53 : decode cX0_mixColumns 53 = .ok (.istore 6, 2) := by decide +kernel
theorem dX0_mixColumns_55 : decode cX0_mixColumns 55 = .ok (.aload_n 0, 1) := by decide +kernel
theorem dX0_mixColumns_56 : decode cX0_mixColumns 56 = .ok (.getfield 18, 3) := by decide +kernel
theorem dX0_mixColumns_59 : decode cX0_mixColumns 59 = .ok (.iload_n 1, 1) := by decide +kernel
theorem dX0_mixColumns_60 : decode cX0_mixColumns 60 = .ok (.iload_n 2, 1) := by decide +kernel
theorem dX0_mixColumns_61 : decode cX0_mixColumns 61 = .ok (.iload 6, 2) := by decide +kernel
theorem dX0_mixColumns_63 : decode cX0_mixColumns 63 = .ok (.ixor, 1) := by decide +kernel
theorem dX0_mixColumns_64 : decode cX0_mixColumns 64 = .ok (.iload_n 2, 1) := by decide +kernel
theorem dX0_mixColumns_65 : decode cX0_mixColumns 65 = .ok (.iload_n 3, 1) := by decide +kernel
theorem dX0_mixColumns_66 : decode cX0_mixColumns 66 = .ok (.ixor, 1) := by decide +kernel
theorem dX0_mixColumns_67 : decode cX0_mixColumns 67 = .ok (.invokestatic 36, 3) := by decide +kernel
theorem dX0_mixColumns_70 : decode cX0_mixColumns 70 = .ok (.ixor, 1) := by decide +kernel
theorem dX0_mixColumns_71 : decode cX0_mixColumns 71 = .ok (.iastore, 1) := by decide +kernel
theorem dX0_mixColumns_72 : decode cX0_mixColumns 72 = .ok (.aload_n 0, 1) := by decide +kernel
theorem dX0_mixColumns_73 : decode cX0_mixColumns 73 = .ok (.getfield 18, 3) := by decide +kernel
theorem dX0_mixColumns_76 : decode cX0_mixColumns 76 = .ok (.iload_n 1, 1) := by decide +kernel
theorem dX0_mixColumns_77 : decode cX0_mixColumns 77 = .ok (.iconst 1, 1) := by decide +kernel
theorem dX0_mixColumns_78 : decode cX0_mixColumns 78 = .ok (.iadd, 1) := by decide +kernel
theorem dX0_mixColumns_79 : decode cX0_mixColumns 79 = .ok (.iload_n 3, 1) := by decide +kernel
theorem dX0_mixColumns_80 : decode cX0_mixColumns 80 = .ok (.iload 6, 2) := by decide +kernel
theorem dX0_mixColumns_82 : decode cX0_mixColumns 82 = .ok (.ixor, 1) := by decide +kernel
theorem dX0_mixColumns_83 : decode cX0_mixColumns 83 = .ok (.iload_n 3, 1) := by decide +kernel
theorem dX0_mixColumns_84 : decode cX0_mixColumns 84 = .ok (.iload 4, 2) := by decide +kernel
theorem dX0_mixColumns_86 : decode cX0_mixColumns 86 = .ok (.ixor, 1) := by decide +kernel
theorem dX0_mixColumns_87 : decode cX0_mixColumns 87 = .ok (.invokestatic 36, 3) := by decide +kernel
theorem dX0_mixColumns_90 : decode cX0_mixColumns 90 = .ok (.ixor, 1) := by decide +kernel
theorem dX0_mixColumns_91 : decode cX0_mixColumns 91 = .ok (.iastore, 1) := by decide +kernel
theorem dX0_mixColumns_92 : decode cX0_mixColumns 92 = .ok (.aload_n 0, 1) := by decide +kernel
theorem dX0_mixColumns_93 : decode cX0_mixColumns 93 = .ok (.getfield 18, 3) := by decide +kernel
theorem dX0_mixColumns_96 : decode cX0_mixColumns 96 = .ok (.iload_n 1, 1) := by decide +kernel
theorem dX0_mixColumns_97 : decode cX0_mixColumns 97 = .ok (.iconst 2, 1) := by decide +kernel
theorem dX0_mixColumns_98 : decode cX0_mixColumns 98 = .ok (.iadd, 1) := by decide +kernel
theorem dX0_mixColumns_99 : decode cX0_mixColumns 99 = .ok (.iload 4, 2) := by decide +kernel
theorem dX0_mixColumns_101 : decode cX0_mixColumns 101 = .ok (.iload 6, 2) := by decide +kernel
theorem dX0_mixColumns_103 : decode cX0_mixColumns 103 = .ok (.ixor, 1) := by decide +kernel
theorem dX0_mixColumns_104 : decode cX0_mixColumns 104 = .ok (.iload 4, 2) := by decide +kernel
theorem dX0_mixColumns_106 : decode cX0_mixColumns 106 = .ok (.iload 5, 2) := by decide +kernel
theorem dX0_mixColumns_108 : decode cX0_mixColumns 108 = .ok (.ixor, 1) := by decide +kernel
theorem dX0_mixColumns_109 : decode cX0_mixColumns 109 = .ok (.invokestatic 36, 3) := by decide +kernel
theorem dX0_mixColumns_112 : decode cX0_mixColumns 112 = .ok (.ixor, 1) := by decide +kernel
theorem dX0_mixColumns_113 : decode cX0_mixColumns 113 = .ok (.iastore, 1) := by decide +kernel
theorem dX0_mixColumns_114 : decode cX0_mixColumns 114 = .ok (.aload_n 0, 1) := by decide +kernel
theorem dX0_mixColumns_115 : decode cX0_mixColumns 115 = .ok (.getfield 18, 3) := by decide +kernel
theorem dX0_mixColumns_118 : decode cX0_mixColumns 118 = .ok (.iload_n 1, 1) := by decide +kernel
theorem dX0_mixColumns_119 : decode cX0_mixColumns 119 = .ok (.iconst 3, 1) := by decide +kernel
theorem dX0_mixColumns_120 : decode cX0_mixColumns 120 = .ok (.iadd, 1) := by decide +kernel
theorem dX0_mixColumns_121 : decode cX0_mixColumns 121 = .ok (.iload 5, 2) := by decide +kernel
theorem dX0_mixColumns_123 : decode cX0_mixColumns 123 = .ok (.iload 6, 2) := by decide +kernel
theorem dX0_mixColumns_125 : decode cX0_mixColumns 125 = .ok (.ixor, 1) := by decide +kernel
theorem dX0_mixColumns_126 : decode cX0_mixColumns 126 = .ok (.iload 5, 2) := by decide +kernel
theorem dX0_mixColumns_128 : decode cX0_mixColumns 128 = .ok (.iload_n 2, 1) := by decide +kernel
theorem dX0_mixColumns_129 : decode cX0_mixColumns 129 = .ok (.ixor, 1) := by decide +kernel
theorem dX0_mixColumns_130 : decode cX0_mixColumns 130 = .ok (.invokestatic 36, 3) := by decide +kernel
theorem dX0_mixColumns_133 : decode cX0_mixColumns 133 = .ok (.ixor, 1) := by decide +kernel
theorem dX0_mixColumns_134 : decode cX0_mixColumns 134 = .ok (.iastore, 1) := by decide +kernel
theorem dX0_mixColumns_135 : decode cX0_mixColumns 135 = .ok (.iinc 1 4, 3) := by decide +kernel
theorem dX0_mixColumns_138 : decode cX0_mixColumns 138 = .ok (.goto (-136), 3) := by decide +kernel
theorem dX0_mixColumns_141 : decode cX0_mixColumns 141 = .ok (.return_, 1) := by decide +kernel
theorem dX0_unmixColumns_0 : decode cX0_unmixColumns 0 = .ok (.iconst 0, 1) := by decide +kernel
theorem dX0_unmixColumns_1 : decode cX0_unmixColumns 1 = .ok (.istore_n 1, 1) := by decide +kernel
theorem dX0_unmixColumns_2 : decode cX0_unmixColumns 2 = .ok (.iload_n 1, 1) := by decide +kernel
theorem dX0_unmixColumns_3 : decode cX0_unmixColumns 3 = .ok (.bipush 16, 2) := by decide +kernel
theorem dX0_unmixColumns_5 : decode cX0_unmixColumns 5 = .ok (.if_icmp .ge 101, 3) := by decide +kernel
theorem dX0_unmixColumns_8 : decode cX0_unmixColumns 8 = .ok (.aload_n 0, 1) := by decide +kernel
theorem dX0_unmixColumns_9 : decode cX0_unmixColumns 9 = .ok (.getfield 18, 3) := by decide +kernel
theorem dX0_unmixColumns_12 : decode cX0_unmixColumns 12 = .ok (.iload_n 1, 1) := by decide +kernel
theorem dX0_unmixColumns_13 : decode cX0_unmixColumns 13 = .ok (.iaload, 1) := by decide +kernel
theorem dX0_unmixColumns_14 : decode cX0_unmixColumns 14 = .ok (.aload_n 0, 1) := by decide +kernel
theorem dX0_unmixColumns_15 : decode cX0_unmixColumns 15 = .ok (.getfield 18, 3) := by decide +kernel
theorem dX0_unmixColumns_18 : decode cX0_unmixColumns 18 = .ok (.iload_n 1, 1) := by decide +kernel
theorem dX0_unmixColumns_19 : decode cX0_unmixColumns 19 = .ok (.iconst 2, 1) := by decide +kernel
theorem dX0_unmixColumns_20 : decode cX0_unmixColumns 20 = .ok (.iadd, 1) := by decide +kernel
theorem dX0_unmixColumns_21 : decode cX0_unmixColumns 21 = .ok (.iaload, 1) := by decide +kernel
theorem dX0_unmixColumns_22 : decode cX0_unmixColumns 22 = .ok (.ixor, 1) := by decide +kernel
theorem dX0_unmixColumns_23 : decode cX0_unmixColumns 23 = .ok (.invokestatic 36, 3) := by decide +kernel
theorem dX0_unmixColumns_26 : decode cX0_unmixColumns 26 = .ok (.invokestatic 36, 3) := by decide +kernel
theorem dX0_unmixColumns_29 : decode cX0_unmixColumns 29 = .ok (.istore_n 2, 1) := by decide +kernel
theorem dX0_unmixColumns_30 : decode cX0_unmixColumns 30 = .ok (.aload_n 0, 1) := by decide +kernel
theorem dX0_unmixColumns_31 : decode cX0_unmixColumns 31 = .ok (.getfield 18, 3) := by decide +kernel
theorem dX0_unmixColumns_34 : decode cX0_unmixColumns 34 = .ok (.iload_n 1, 1) := by decide +kernel
theorem dX0_unmixColumns_35 : decode cX0_unmixColumns 35 = .ok (.iconst 1, 1) := by decide +kernel
theorem dX0_unmixColumns_36 : decode cX0_unmixColumns 36 = .ok (.iadd, 1) := by decide +kernel
theorem dX0_unmixColumns_37 : decode cX0_unmixColumns 37 = .ok (.iaload, 1) := by decide +kernel
theorem dX0_unmixColumns_38 : decode cX0_unmixColumns 38 = .ok (.aload_n 0, 1) := by decide +kernel
theorem dX0_unmixColumns_39 : decode cX0_unmixColumns 39 = .ok (.getfield 18, 3) := by decide +kernel
theorem dX0_unmixColumns_42 : decode cX0_unmixColumns 42 = .ok (.iload_n 1, 1) := by decide +kernel
theorem dX0_unmixColumns_43 : decode cX0_unmixColumns 43 = .ok (.iconst 3, 1) := by decide +kernel
theorem dX0_unmixColumns_44 : decode cX0_unmixColumns 44 = .ok (.iadd, 1) := by decide +kernel
theorem dX0_unmixColumns_45 : decode cX0_unmixColumns 45 = .ok (.iaload, 1) := by decide +kernel
theorem dX0_unmixColumns_46 : decode cX0_unmixColumns 46 = .ok (.ixor, 1) := by decide +kernel
theorem dX0_unmixColumns_47 : decode cX0_unmixColumns 47 = .ok (.invokestatic 36, 3) := by decide +kernel
theorem dX0_unmixColumns_50 : decode cX0_unmixColumns 50 = .ok (.invokestatic 36, 3) := by decide +kernel
theorem dX0_unmixColumns_53 : decode cX0_unmixColumns 53 = .ok (.istore_n 3, 1) := by decide +kernel
theorem dX0_unmixColumns_54 : decode cX0_unmixColumns 54 = .ok (.aload_n 0, 1) := by decide +kernel
theorem dX0_unmixColumns_55 : decode cX0_unmixColumns 55 = .ok (.getfield 18, 3) := by decide +kernel
theorem dX0_unmixColumns_58 : decode cX0_unmixColumns 58 = .ok (.iload_n 1, 1) := by decide +kernel
theorem dX0_unmixColumns_59 : decode cX0_unmixColumns 59 = .ok (.dup2, 1) := by decide +kernel
theorem dX0_unmixColumns_60 : decode cX0_unmixColumns 60 = .ok (.iaload, 1) := by decide +kernel
theorem dX0_unmixColumns_61 : decode cX0_unmixColumns 61 = .ok (.iload_n 2, 1) := by decide +kernel
theorem dX0_unmixColumns_62 : decode cX0_unmixColumns 62 = .ok (.ixor, 1) := by decide +kernel
theorem dX0_unmixColumns_63 : decode cX0_unmixColumns 63 = .ok (.iastore, 1) := by decide +kernel
theorem dX0_unmixColumns_64 : decode cX0_unmixColumns 64 = .ok (.aload_n 0, 1) := by decide +kernel
theorem dX0_unmixColumns_65 : decode cX0_unmixColumns 65 = .ok (.getfield 18, 3) := by decide +kernel
theorem dX0_unmixColumns_68 : decode cX0_unmixColumns 68 = .ok (.iload_n 1, 1) := by decide +kernel
theorem dX0_unmixColumns_69 : decode cX0_unmixColumns 69 = .ok (.iconst 1, 1) := by decide +kernel
theorem dX0_unmixColumns_70 : decode cX0_unmixColumns 70 = .ok (.iadd, 1) := by decide +kernel
theorem dX0_unmixColumns_71 : decode cX0_unmixColumns 71 = .ok (.dup2, 1) := by decide +kernel
theorem dX0_unmixColumns_72 : decode cX0_unmixColumns 72 = .ok (.iaload, 1) := by decide +kernel
theorem dX0_unmixColumns_73 : decode cX0_unmixColumns 73 = .ok (.iload_n 3, 1) := by decide +kernel
theorem dX0_unmixColumns_74 : decode cX0_unmixColumns 74 = .ok (.ixor, 1) := by decide +kernel
theorem dX0_unmixColumns_75 : decode cX0_unmixColumns 75 = .ok (.iastore, 1) := by decide +kernel
theorem dX0_unmixColumns_76 : decode cX0_unmixColumns 76 = .ok (.aload_n 0, 1) := by decide +kernel
theorem dX0_unmixColumns_77 : decode cX0_unmixColumns 77 = .ok (.getfield 18, 3) := by decide +kernel
theorem dX0_unmixColumns_80 : decode cX0_unmixColumns 80 = .ok (.iload_n 1, 1) := by decide +kernel
theorem dX0_unmixColumns_81 : decode cX0_unmixColumns 81 = .ok (.iconst 2, 1) := by decide +kernel
theorem dX0_unmixColumns_82 : decode cX0_unmixColumns 82 = .ok (.iadd, 1) := by decide +kernel
theorem dX0_unmixColumns_83 : decode cX0_unmixColumns 83 = .ok (.dup2, 1) := by decide +kernel
theorem dX0_unmixColumns_84 : decode cX0_unmixColumns 84 = .ok (.iaload, 1) := by decide +kernel
theorem dX0_unmixColumns_85 : decode cX0_unmixColumns 85 = .ok (.iload_n 2, 1) := by decide +kernel
theorem dX0_unmixColumns_86 : decode cX0_unmixColumns 86 = .ok (.ixor, 1) := by decide +kernel
theorem dX0_unmixColumns_87 : decode cX0_unmixColumns 87 = .ok (.iastore, 1) := by decide +kernel
theorem dX0_unmixColumns_88 : decode cX0_unmixColumns 88 = .ok (.aload_n 0, 1) := by decide +kernel
theorem dX0_unmixColumns_89 : decode cX0_unmixColumns 89 = .ok (.getfield 18, 3) := by decide +kernel
theorem dX0_unmixColumns_92 : decode cX0_unmixColumns 92 = .ok (.iload_n 1, 1) := by decide +kernel
theorem dX0_unmixColumns_93 : decode cX0_unmixColumns 93 = .ok (.iconst 3, 1) := by decide +kernel
theorem dX0_unmixColumns_94 : decode cX0_unmixColumns 94 = .ok (.iadd, 1) := by decide +kernel
theorem dX0_unmixColumns_95 : decode cX0_unmixColumns 95 = .ok (.dup2, 1) := by decide +kernel
theorem dX0_unmixColumns_96 : decode cX0_unmixColumns 96 = .ok (.iaload, 1) := by decide +kernel
theorem dX0_unmixColumns_97 : decode cX0_unmixColumns 97 = .ok (.iload_n 3, 1) := by decide +kernel
theorem dX0_unmixColumns_98 : decode cX0_unmixColumns 98 = .ok (.ixor, 1) := by decide +kernel
theorem dX0_unmixColumns_99 : decode cX0_unmixColumns 99 = .ok (.iastore, 1) := by decide +kernel
theorem dX0_unmixColumns_100 : decode cX0_unmixColumns 100 = .ok (.iinc 1 4, 3) := by decide +kernel
theorem dX0_unmixColumns_103 : decode cX0_unmixColumns 103 = .ok (.goto (-101), 3) := by decide +kernel
theorem dX0_unmixColumns_106 : decode cX0_unmixColumns 106 = .ok (.aload_n 0, 1) := by decide +kernel
theorem dX0_unmixColumns_107 : decode cX0_unmixColumns 107 = .ok (.invokevirtual 57, 3) := by decide +kernel
theorem dX0_unmixColumns_110 : decode cX0_unmixColumns 110 = .ok (.return_, 1) := by decide +kernel
theorem dX0_twice_0 : decode cX0_twice 0 = .ok (.iload_n 0, 1) := by decide +kernel
theorem dX0_twice_1 : decode cX0_twice 1 = .ok (.sipush 128, 3) := by decide +kernel
theorem dX0_twice_4 : decode cX0_twice 4 = .ok (.iand, 1) := by decide +kernel
theorem dX0_twice_5 : decode cX0_twice 5 = .ok (.ifCond .ne 9, 3) := by decide +kernel
theorem dX0_twice_8 : decode cX0_twice 8 = .ok (.iload_n 0, 1) := by decide +kernel
theorem dX0_twice_9 : decode cX0_twice 9 = .ok (.iconst 1, 1) := by decide +kernel
theorem dX0_twice_10 : decode cX0_twice 10 = .ok (.ishl, 1) := by decide +kernel
theorem dX0_twice_11 : decode cX0_twice 11 = .ok (.goto 10, 3) := by decide +kernel
theorem dX0_twice_14 : decode cX0_twice 14 = .ok (.iload_n 0, 1) := by decide +kernel
theorem dX0_twice_15 : decode cX0_twice 15 = .ok (.iconst 1, 1) := by decide +kernel
theorem dX0_twice_16 : decode cX0_twice 16 = .ok (.ishl, 1) := by decide +kernel
theorem dX0_twice_17 : decode cX0_twice 17 = .ok (.sipush 283, 3) := by decide +kernel
theorem dX0_twice_20 : decode cX0_twice 20 = .ok (.ixor, 1) := by decide +kernel
theorem dX0_twice_21 : decode cX0_twice 21 = .ok (.ireturn, 1) := by decide +kernel
theorem dX1_init_0 : decode cX1_init 0 = .ok (.aload_n 0, 1) := by decide +kernel
theorem dX1_init_1 : decode cX1_init 1 = .ok (.invokespecial 3, 3) := by decide +kernel
theorem dX1_init_4 : decode cX1_init 4 = .ok (.aload_n 0, 1) := by decide +kernel
theorem dX1_init_5 : decode cX1_init 5 = .ok (.iconst 3, 1) := by decide +kernel
theorem dX1_init_6 : decode cX1_init 6 = .ok (.putfield 9, 3) := by decide +kernel
theorem dX1_init_9 : decode cX1_init 9 = .ok (.aload_n 0, 1) := by decide +kernel
theorem dX1_init_10 : decode cX1_init 10 = .ok (.bipush 16, 2) := by decide +kernel
theorem dX1_init_12 : decode cX1_init 12 = .ok (.putfield 15, 3) := by decide +kernel
theorem dX1_init_15 : decode cX1_init 15 = .ok (.aload_n 0, 1) := by decide +kernel
theorem dX1_init_16 : decode cX1_init 16 = .ok (.bipush (-4), 2) := by decide +kernel
theorem dX1_init_18 : decode cX1_init 18 = .ok (.putfield 18, 3) := by decide +kernel
theorem dX1_init_21 : decode cX1_init 21 = .ok (.aload_n 0, 1) := by decide +kernel
theorem dX1_init_22 : decode cX1_init 22 = .ok (.iconst 0, 1) := by decide +kernel
theorem dX1_init_23 : decode cX1_init 23 = .ok (.putfield 21, 3) := by decide +kernel
theorem dX1_init_26 : decode cX1_init 26 = .ok (.aload_n 0, 1) := by decide +kernel
theorem dX1_init_27 : decode cX1_init 27 = .ok (.new 25, 3) := by decide +kernel
theorem dX1_init_30 : decode cX1_init 30 = .ok (.dup, 1) := by decide +kernel
theorem dX1_init_31 : decode cX1_init 31 = .ok (.bipush 32, 2) := by decide +kernel
theorem dX1_init_33 : decode cX1_init 33 = .ok (.invokespecial 27, 3) := by decide +kernel
theorem dX1_init_36 : decode cX1_init 36 = .ok (.putfield 30, 3) := by decide +kernel
theorem dX1_init_39 : decode cX1_init 39 = .ok (.aload_n 0, 1) := by decide +kernel
theorem dX1_init_40 : decode cX1_init 40 = .ok (.new 25, 3) := by decide +kernel
theorem dX1_init_43 : decode cX1_init 43 = .ok (.dup, 1) := by decide +kernel
theorem dX1_init_44 : decode cX1_init 44 = .ok (.bipush 32, 2) := by decide +kernel
theorem dX1_init_46 : decode cX1_init 46 = .ok (.invokespecial 27, 3) := by decide +kernel
theorem dX1_init_49 : decode cX1_init 49 = .ok (.putfield 34, 3) := by decide +kernel
theorem dX1_init_52 : decode cX1_init 52 = .ok (.aload_n 0, 1) := by decide +kernel
theorem dX1_init_53 : decode cX1_init 53 = .ok (.new 25, 3) := by decide +kernel
theorem dX1_init_56 : decode cX1_init 56 = .ok (.dup, 1) := by decide +kernel
theorem dX1_init_57 : decode cX1_init 57 = .ok (.bipush 64, 2) := by decide +kernel
theorem dX1_init_59 : decode cX1_init 59 = .ok (.invokespecial 27, 3) := by decide +kernel
theorem dX1_init_62 : decode cX1_init 62 = .ok (.putfield 37, 3) := by decide +kernel
theorem dX1_init_65 : decode cX1_init 65 = .ok (.aload_n 0, 1) := by decide +kernel
theorem dX1_init_66 : decode cX1_init 66 = .ok (.new 25, 3) := by decide +kernel
theorem dX1_init_69 : decode cX1_init 69 = .ok (.dup, 1) := by decide +kernel
theorem dX1_init_70 : decode cX1_init 70 = .ok (.bipush 64, 2) := by decide +kernel
theorem dX1_init_72 : decode cX1_init 72 = .ok (.invokespecial 27, 3) := by decide +kernel
theorem dX1_init_75 : decode cX1_init 75 = .ok (.putfield 40, 3) := by decide +kernel
theorem dX1_init_78 : decode cX1_init 78 = .ok (.aload_n 0, 1) := by decide +kernel
theorem dX1_init_79 : decode cX1_init 79 = .ok (.new 25, 3) := by decide +kernel
theorem dX1_init_82 : decode cX1_init 82 = .ok (.dup, 1) := by decide +kernel
theorem dX1_init_83 : decode cX1_init 83 = .ok (.bipush 64, 2) := by decide +kernel
theorem dX1_init_85 : decode cX1_init 85 = .ok (.invokespecial 27, 3) := by decide +kernel
theorem dX1_init_88 : decode cX1_init 88 = .ok (.putfield 43, 3) := by decide +kernel
theorem dX1_init_91 : decode cX1_init 91 = .ok (.aload_n 0, 1) := by decide +kernel
theorem dX1_init_92 : decode cX1_init 92 = .ok (.new 25, 3) := by decide +kernel
theorem dX1_init_95 : decode cX1_init 95 = .ok (.dup, 1) := by decide +kernel
theorem dX1_init_96 : decode cX1_init 96 = .ok (.bipush 16, 2) := by decide +kernel
theorem dX1_init_98 : decode cX1_init 98 = .ok (.invokespecial 27, 3) := by decide +kernel
theorem dX1_init_101 : decode cX1_init 101 = .ok (.putfield 46, 3) := by decide +kernel
theorem dX1_init_104 : decode cX1_init 104 = .ok (.aload_n 0, 1) := by decide +kernel
theorem dX1_init_105 : decode cX1_init 105 = .ok (.new 49, 3) := by decide +kernel
theorem dX1_init_108 : decode cX1_init 108 = .ok (.dup, 1) := by decide +kernel
theorem dX1_init_109 : decode cX1_init 109 = .ok (.invokespecial 51, 3) := by decide +kernel
theorem dX1_init_112 : decode cX1_init 112 = .ok (.putfield 52, 3) := by decide +kernel
theorem dX1_init_115 : decode cX1_init 115 = .ok (.aload_n 0, 1) := by decide +kernel
theorem dX1_init_116 : decode cX1_init 116 = .ok (.new 56, 3) := by decide +kernel
theorem dX1_init_119 : decode cX1_init 119 = .ok (.dup, 1) := by decide +kernel
theorem dX1_init_120 : decode cX1_init 120 = .ok (.invokespecial 58, 3) := by decide +kernel
theorem dX1_init_123 : decode cX1_init 123 = .ok (.putfield 59, 3) := by decide +kernel
theorem dX1_init_126 : decode cX1_init 126 = .ok (.aload_n 0, 1) := by decide +kernel
theorem dX1_init_127 : decode cX1_init 127 = .ok (.new 63, 3) := by decide +kernel
theorem dX1_init_130 : decode cX1_init 130 = .ok (.dup, 1) := by decide +kernel
theorem dX1_init_131 : decode cX1_init 131 = .ok (.invokespecial 65, 3) := by decide +kernel
theorem dX1_init_134 : decode cX1_init 134 = .ok (.putfield 66, 3) := by decide +kernel
theorem dX1_init_137 : decode cX1_init 137 = .ok (.aload_n 0, 1) := by decide +kernel
theorem dX1_init_138 : decode cX1_init 138 = .ok (.new 25, 3) := by decide +kernel
theorem dX1_init_141 : decode cX1_init 141 = .ok (.dup, 1) := by decide +kernel
theorem dX1_init_142 : decode cX1_init 142 = .ok (.sipush 136, 3) := by decide +kernel
theorem dX1_init_145 : decode cX1_init 145 = .ok (.invokespecial 27, 3) := by decide +kernel
theorem dX1_init_148 : decode cX1_init 148 = .ok (.putfield 70, 3) := by decide +kernel
theorem dX1_init_151 : decode cX1_init 151 = .ok (.aload_n 0, 1) := by decide +kernel
theorem dX1_init_152 : decode cX1_init 152 = .ok (.new 25, 3) := by decide +kernel
theorem dX1_init_155 : decode cX1_init 155 = .ok (.dup, 1) := by decide +kernel
theorem dX1_init_156 : decode cX1_init 156 = .ok (.bipush 16, 2) := by decide +kernel
theorem dX1_init_158 : decode cX1_init 158 = .ok (.invokespecial 27, 3) := by decide +kernel
theorem dX1_init_161 : decode cX1_init 161 = .ok (.putfield 73, 3) := by decide +kernel
theorem dX1_init_164 : decode cX1_init 164 = .ok (.aload_n 0, 1) := by decide +kernel
theorem dX1_init_165 : decode cX1_init 165 = .ok (.new 25, 3) := by decide +kernel
theorem dX1_init_168 : decode cX1_init 168 = .ok (.dup, 1) := by decide +kernel
theorem dX1_init_169 : decode cX1_init 169 = .ok (.bipush 32, 2) := by decide +kernel
theorem dX1_init_171 : decode cX1_init 171 = .ok (.invokespecial 27, 3) := by decide +kernel
theorem dX1_init_174 : decode cX1_init 174 = .ok (.putfield 76, 3) := by decide +kernel
theorem dX1_init_177 : decode cX1_init 177 = .ok (.aload_n 0, 1) := by decide +kernel
theorem dX1_init_178 : decode cX1_init 178 = .ok (.new 25, 3) := by decide +kernel
theorem dX1_init_181 : decode cX1_init 181 = .ok (.dup, 1) := by decide +kernel
theorem dX1_init_182 : decode cX1_init 182 = .ok (.bipush 32, 2) := by decide +kernel
theorem dX1_init_184 : decode cX1_init 184 = .ok (.invokespecial 27, 3) := by decide +kernel
theorem dX1_init_187 : decode cX1_init 187 = .ok (.putfield 79, 3) := by decide +kernel
theorem dX1_init_190 : decode cX1_init 190 = .ok (.aload_n 0, 1) := by decide +kernel
theorem dX1_init_191 : decode cX1_init 191 = .ok (.getfield 30, 3) := by decide +kernel
theorem dX1_init_194 : decode cX1_init 194 = .ok (.bipush 32, 2) := by decide +kernel
theorem dX1_init_196 : decode cX1_init 196 = .ok (.putfield 82, 3) := by decide +kernel
theorem dX1_init_199 : decode cX1_init 199 = .ok (.aload_n 0, 1) := by decide +kernel
theorem dX1_init_200 : decode cX1_init 200 = .ok (.getfield 34, 3) := by decide +kernel
theorem dX1_init_203 : decode cX1_init 203 = .ok (.bipush 32, 2) := by decide +kernel
theorem dX1_init_205 : decode cX1_init 205 = .ok (.putfield 82, 3) := by decide +kernel
theorem dX1_init_208 : decode cX1_init 208 = .ok (.return_, 1) := by decide +kernel
theorem dX1_toldRow_0 : decode cX1_toldRow 0 = .ok (.iload_n 1, 1) := by decide +kernel
theorem dX1_toldRow_1 : decode cX1_toldRow 1 = .ok (.tableswitch 60 0 4 #[35, 40, 45, 50, 55], 35) := by decide +kernel
theorem dX1_toldRow_36 : decode cX1_toldRow 36 = .ok (.aload_n 0, 1) := by decide +kernel
theorem dX1_toldRow_37 : decode cX1_toldRow 37 = .ok (.getfield 30, 3) := by decide +kernel
theorem dX1_toldRow_40 : decode cX1_toldRow 40 = .ok (.areturn, 1) := by decide +kernel
theorem dX1_toldRow_41 : decode cX1_toldRow 41 = .ok (.aload_n 0, 1) := by decide +kernel
theorem dX1_toldRow_42 : decode cX1_toldRow 42 = .ok (.getfield 34, 3) := by decide +kernel
theorem dX1_toldRow_45 : decode cX1_toldRow 45 = .ok (.areturn, 1) := by decide +kernel
theorem dX1_toldRow_46 : decode cX1_toldRow 46 = .ok (.aload_n 0, 1) := by decide +kernel
theorem dX1_toldRow_47 : decode cX1_toldRow 47 = .ok (.getfield 37, 3) := by decide +kernel
theorem dX1_toldRow_50 : decode cX1_toldRow 50 = .ok (.areturn, 1) := by decide +kernel
theorem dX1_toldRow_51 : decode cX1_toldRow 51 = .ok (.aload_n 0, 1) := by decide +kernel
theorem dX1_toldRow_52 : decode cX1_toldRow 52 = .ok (.getfield 40, 3) := by decide +kernel
theorem dX1_toldRow_55 : decode cX1_toldRow 55 = .ok (.areturn, 1) := by decide +kernel
theorem dX1_toldRow_56 : decode cX1_toldRow 56 = .ok (.aload_n 0, 1) := by decide +kernel
theorem dX1_toldRow_57 : decode cX1_toldRow 57 = .ok (.getfield 43, 3) := by decide +kernel
theorem dX1_toldRow_60 : decode cX1_toldRow 60 = .ok (.areturn, 1) := by decide +kernel
theorem dX1_toldRow_61 : decode cX1_toldRow 61 = .ok (.aconst_null, 1) := by decide +kernel
theorem dX1_toldRow_62 : decode cX1_toldRow 62 = .ok (.areturn, 1) := by decide +kernel
theorem dX1_makeOwnerEntry_0 : decode cX1_makeOwnerEntry 0 = .ok (.aload_n 0, 1) := by decide +kernel
theorem dX1_makeOwnerEntry_1 : decode cX1_makeOwnerEntry 1 = .ok (.aload_n 0, 1) := by decide +kernel
theorem dX1_makeOwnerEntry_2 : decode cX1_makeOwnerEntry 2 = .ok (.getfield 40, 3) := by decide +kernel
theorem dX1_makeOwnerEntry_5 : decode cX1_makeOwnerEntry 5 = .ok (.invokevirtual 85, 3) := by decide +kernel
theorem dX1_makeOwnerEntry_8 : decode cX1_makeOwnerEntry 8 = .ok (.aload_n 0, 1) := by decide +kernel
theorem dX1_makeOwnerEntry_9 : decode cX1_makeOwnerEntry 9 = .ok (.getfield 30, 3) := by decide +kernel
theorem dX1_makeOwnerEntry_12 : decode cX1_makeOwnerEntry 12 = .ok (.invokevirtual 89, 3) := by decide +kernel
theorem dX1_makeOwnerEntry_15 : decode cX1_makeOwnerEntry 15 = .ok (.aload_n 0, 1) := by decide +kernel
theorem dX1_makeOwnerEntry_16 : decode cX1_makeOwnerEntry 16 = .ok (.getfield 30, 3) := by decide +kernel
theorem dX1_makeOwnerEntry_19 : decode cX1_makeOwnerEntry 19 = .ok (.aload_n 0, 1) := by decide +kernel
theorem dX1_makeOwnerEntry_20 : decode cX1_makeOwnerEntry 20 = .ok (.getfield 43, 3) := by decide +kernel
theorem dX1_makeOwnerEntry_23 : decode cX1_makeOwnerEntry 23 = .ok (.invokestatic 92, 3) := by decide +kernel
theorem dX1_makeOwnerEntry_26 : decode cX1_makeOwnerEntry 26 = .ok (.aload_n 0, 1) := by decide +kernel
theorem dX1_makeOwnerEntry_27 : decode cX1_makeOwnerEntry 27 = .ok (.aload_n 0, 1) := by decide +kernel
theorem dX1_makeOwnerEntry_28 : decode cX1_makeOwnerEntry 28 = .ok (.getfield 30, 3) := by decide +kernel
theorem dX1_makeOwnerEntry_31 : decode cX1_makeOwnerEntry 31 = .ok (.invokevirtual 96, 3) := by decide +kernel
theorem dX1_makeOwnerEntry_34 : decode cX1_makeOwnerEntry 34 = .ok (.return_, 1) := by decide +kernel
theorem dX1_makeUserEntry_0 : decode cX1_makeUserEntry 0 = .ok (.aload_n 0, 1) := by decide +kernel
theorem dX1_makeUserEntry_1 : decode cX1_makeUserEntry 1 = .ok (.aload_n 0, 1) := by decide +kernel
theorem dX1_makeUserEntry_2 : decode cX1_makeUserEntry 2 = .ok (.getfield 43, 3) := by decide +kernel
theorem dX1_makeUserEntry_5 : decode cX1_makeUserEntry 5 = .ok (.invokevirtual 99, 3) := by decide +kernel
theorem dX1_makeUserEntry_8 : decode cX1_makeUserEntry 8 = .ok (.aload_n 0, 1) := by decide +kernel
theorem dX1_makeUserEntry_9 : decode cX1_makeUserEntry 9 = .ok (.invokevirtual 102, 3) := by decide +kernel
theorem dX1_makeUserEntry_12 : decode cX1_makeUserEntry 12 = .ok (.aload_n 0, 1) := by decide +kernel
theorem dX1_makeUserEntry_13 : decode cX1_makeUserEntry 13 = .ok (.getfield 34, 3) := by decide +kernel
theorem dX1_makeUserEntry_16 : decode cX1_makeUserEntry 16 = .ok (.aload_n 0, 1) := by decide +kernel
theorem dX1_makeUserEntry_17 : decode cX1_makeUserEntry 17 = .ok (.getfield 76, 3) := by decide +kernel
theorem dX1_makeUserEntry_20 : decode cX1_makeUserEntry 20 = .ok (.invokevirtual 105, 3) := by decide +kernel
theorem dX1_makeUserEntry_23 : decode cX1_makeUserEntry 23 = .ok (.return_, 1) := by decide +kernel
theorem dX1_tryPassword_0 : decode cX1_tryPassword 0 = .ok (.aload_n 0, 1) := by decide +kernel
theorem dX1_tryPassword_1 : decode cX1_tryPassword 1 = .ok (.aload_n 1, 1) := by decide +kernel
theorem dX1_tryPassword_2 : decode cX1_tryPassword 2 = .ok (.invokevirtual 99, 3) := by decide +kernel
theorem dX1_tryPassword_5 : decode cX1_tryPassword 5 = .ok (.aload_n 0, 1) := by decide +kernel
theorem dX1_tryPassword_6 : decode cX1_tryPassword 6 = .ok (.invokevirtual 108, 3) := by decide +kernel
theorem dX1_tryPassword_9 : decode cX1_tryPassword 9 = .ok (.ifCond .eq 16, 3) := by decide +kernel
theorem dX1_tryPassword_12 : decode cX1_tryPassword 12 = .ok (.aload_n 0, 1) := by decide +kernel
theorem dX1_tryPassword_13 : decode cX1_tryPassword 13 = .ok (.getfield 46, 3) := by decide +kernel
theorem dX1_tryPassword_16 : decode cX1_tryPassword 16 = .ok (.aload_n 0, 1) := by decide +kernel
theorem dX1_tryPassword_17 : decode cX1_tryPassword 17 = .ok (.getfield 73, 3) := by decide +kernel
theorem dX1_tryPassword_20 : decode cX1_tryPassword 20 = .ok (.invokevirtual 105, 3) := by decide +kernel
theorem dX1_tryPassword_23 : decode cX1_tryPassword 23 = .ok (.iconst 1, 1) := by decide +kernel
theorem dX1_tryPassword_24 : decode cX1_tryPassword 24 = .ok (.ireturn, 1) := by decide +kernel
theorem dX1_tryPassword_25 : decode cX1_tryPassword 25 = .ok (.aload_n 0, 1) := by decide +kernel
theorem dX1_tryPassword_26 : decode cX1_tryPassword 26 = .ok (.aload_n 1, 1) := by decide +kernel
theorem dX1_tryPassword_27 : decode cX1_tryPassword 27 = .ok (.invokevirtual 85, 3) := by decide +kernel
theorem dX1_tryPassword_30 : decode cX1_tryPassword 30 = .ok (.aload_n 0, 1) := by decide +kernel
theorem dX1_tryPassword_31 : decode cX1_tryPassword 31 = .ok (.getfield 79, 3) := by decide +kernel
theorem dX1_tryPassword_34 : decode cX1_tryPassword 34 = .ok (.aload_n 0, 1) := by decide +kernel
theorem dX1_tryPassword_35 : decode cX1_tryPassword 35 = .ok (.getfield 30, 3) := by decide +kernel
theorem dX1_tryPassword_38 : decode cX1_tryPassword 38 = .ok (.invokevirtual 105, 3) := by decide +kernel
theorem dX1_tryPassword_41 : decode cX1_tryPassword 41 = .ok (.aload_n 0, 1) := by decide +kernel
theorem dX1_tryPassword_42 : decode cX1_tryPassword 42 = .ok (.aload_n 0, 1) := by decide +kernel
theorem dX1_tryPassword_43 : decode cX1_tryPassword 43 = .ok (.getfield 79, 3) := by decide +kernel
theorem dX1_tryPassword_46 : decode cX1_tryPassword 46 = .ok (.invokevirtual 96, 3) := by decide +kernel
theorem dX1_tryPassword_49 : decode cX1_tryPassword 49 = .ok (.aload_n 0, 1) := by decide +kernel
theorem dX1_tryPassword_50 : decode cX1_tryPassword 50 = .ok (.aload_n 0, 1) := by decide +kernel
theorem dX1_tryPassword_51 : decode cX1_tryPassword 51 = .ok (.getfield 79, 3) := by decide +kernel
theorem dX1_tryPassword_54 : decode cX1_tryPassword 54 = .ok (.invokevirtual 99, 3) := by decide +kernel
theorem dX1_tryPassword_57 : decode cX1_tryPassword 57 = .ok (.aload_n 0, 1) := by decide +kernel
theorem dX1_tryPassword_58 : decode cX1_tryPassword 58 = .ok (.invokevirtual 108, 3) := by decide +kernel
theorem dX1_tryPassword_61 : decode cX1_tryPassword 61 = .ok (.ifCond .eq 16, 3) := by decide +kernel
theorem dX1_tryPassword_64 : decode cX1_tryPassword 64 = .ok (.aload_n 0, 1) := by decide +kernel
theorem dX1_tryPassword_65 : decode cX1_tryPassword 65 = .ok (.getfield 46, 3) := by decide +kernel
theorem dX1_tryPassword_68 : decode cX1_tryPassword 68 = .ok (.aload_n 0, 1) := by decide +kernel
theorem dX1_tryPassword_69 : decode cX1_tryPassword 69 = .ok (.getfield 73, 3) := by decide +kernel
theorem dX1_tryPassword_72 : decode cX1_tryPassword 72 = .ok (.invokevirtual 105, 3) := by decide +kernel
theorem dX1_tryPassword_75 : decode cX1_tryPassword 75 = .ok (.iconst 2, 1) := by decide +kernel
theorem dX1_tryPassword_76 : decode cX1_tryPassword 76 = .ok (.ireturn, 1) := by decide +kernel
theorem dX1_tryPassword_77 : decode cX1_tryPassword 77 = .ok (.iconst 0, 1) := by decide +kernel
theorem dX1_tryPassword_78 : decode cX1_tryPassword 78 = .ok (.ireturn, 1) := by decide +kernel
theorem dX1_objectKey_0 : decode cX1_objectKey 0 = .ok (.aload_n 0, 1) := by decide +kernel
theorem dX1_objectKey_1 : decode cX1_objectKey 1 = .ok (.getfield 70, 3) := by decide +kernel
theorem dX1_objectKey_4 : decode cX1_objectKey 4 = .ok (.aload_n 0, 1) := by decide +kernel
theorem dX1_objectKey_5 : decode cX1_objectKey 5 = .ok (.getfield 46, 3) := by decide +kernel
theorem dX1_objectKey_8 : decode cX1_objectKey 8 = .ok (.invokevirtual 105, 3) := by decide +kernel
theorem dX1_objectKey_11 : decode cX1_objectKey 11 = .ok (.aload_n 0, 1) := by decide +kernel
theorem dX1_objectKey_12 : decode cX1_objectKey 12 = .ok (.getfield 70, 3) := by decide +kernel
theorem dX1_objectKey_15 : decode cX1_objectKey 15 = .ok (.iload_n 1, 1) := by decide +kernel
theorem dX1_objectKey_16 : decode cX1_objectKey 16 = .ok (.iconst 3, 1) := by decide +kernel
theorem dX1_objectKey_17 : decode cX1_objectKey 17 = .ok (.invokevirtual 112, 3) := by decide +kernel
theorem dX1_objectKey_20 : decode cX1_objectKey 20 = .ok (.aload_n 0, 1) := by decide +kernel
theorem dX1_objectKey_21 : decode cX1_objectKey 21 = .ok (.getfield 70, 3) := by decide +kernel
theorem dX1_objectKey_24 : decode cX1_objectKey 24 = .ok (.iload_n 2, 1) := by decide +kernel
theorem dX1_objectKey_25 : decode cX1_objectKey 25 = .ok (.iconst 2, 1) := by decide +kernel
theorem dX1_objectKey_26 : decode cX1_objectKey 26 = .ok (.invokevirtual 112, 3) := by decide +kernel
theorem dX1_objectKey_29 : decode cX1_objectKey 29 = .ok (.iload_n 3, 1) := by decide +kernel
theorem dX1_objectKey_30 : decode cX1_objectKey 30 = .ok (.iconst 2, 1) := by decide +kernel
theorem dX1_objectKey_31 : decode cX1_objectKey 31 = .ok (.if_icmp .ne 12, 3) := by decide +kernel
theorem dX1_objectKey_34 : decode cX1_objectKey 34 = .ok (.aload_n 0, 1) := by decide +kernel
theorem dX1_objectKey_35 : decode cX1_objectKey 35 = .ok (.getfield 70, 3) := by decide +kernel
theorem dX1_objectKey_38 : decode cX1_objectKey 38 = .ok (.ldc 116, 2) := by decide +kernel
theorem dX1_objectKey_40 : decode cX1_objectKey 40 = .ok (.invokevirtual 117, 3) := by decide +kernel
theorem dX1_objectKey_43 : decode cX1_objectKey 43 = .ok (.aload_n 0, 1) := by decide +kernel
theorem dX1_objectKey_44 : decode cX1_objectKey 44 = .ok (.getfield 52, 3) := by decide +kernel
theorem dX1_objectKey_47 : decode cX1_objectKey 47 = .ok (.aload_n 0, 1) := by decide +kernel
theorem dX1_objectKey_48 : decode cX1_objectKey 48 = .ok (.getfield 70, 3) := by decide +kernel
theorem dX1_objectKey_51 : decode cX1_objectKey 51 = .ok (.aload_n 0, 1) := by decide +kernel
theorem dX1_objectKey_52 : decode cX1_objectKey 52 = .ok (.getfield 73, 3) := by decide +kernel
theorem dX1_objectKey_55 : decode cX1_objectKey 55 = .ok (.invokevirtual 120, 3) := by decide +kernel
theorem dX1_objectKey_58 : decode cX1_objectKey 58 = .ok (.aload_n 0, 1) := by decide +kernel
theorem dX1_objectKey_59 : decode cX1_objectKey 59 = .ok (.getfield 73, 3) := by decide +kernel
theorem dX1_objectKey_62 : decode cX1_objectKey 62 = .ok (.aload_n 0, 1) := by decide +kernel
theorem dX1_objectKey_63 : decode cX1_objectKey 63 = .ok (.getfield 15, 3) := by decide +kernel
theorem dX1_objectKey_66 : decode cX1_objectKey 66 = .ok (.iconst 5, 1) := by decide +kernel
theorem dX1_objectKey_67 : decode cX1_objectKey 67 = .ok (.iadd, 1) := by decide +kernel
theorem dX1_objectKey_68 : decode cX1_objectKey 68 = .ok (.invokevirtual 123, 3) := by decide +kernel
theorem dX1_objectKey_71 : decode cX1_objectKey 71 = .ok (.aload_n 0, 1) := by decide +kernel
theorem dX1_objectKey_72 : decode cX1_objectKey 72 = .ok (.getfield 73, 3) := by decide +kernel
theorem dX1_objectKey_75 : decode cX1_objectKey 75 = .ok (.areturn, 1) := by decide +kernel
theorem dX1_addPadded_0 : decode cX1_addPadded 0 = .ok (.aload_n 1, 1) := by decide +kernel
theorem dX1_addPadded_1 : decode cX1_addPadded 1 = .ok (.getfield 82, 3) := by decide +kernel
theorem dX1_addPadded_4 : decode cX1_addPadded 4 = .ok (.bipush 32, 2) := by decide +kernel
theorem dX1_addPadded_6 : decode cX1_addPadded 6 = .ok (.invokestatic 126, 3) := by decide +kernel
theorem dX1_addPadded_9 : decode cX1_addPadded 9 = .ok (.istore_n 2, 1) := by decide +kernel
theorem dX1_addPadded_10 : decode cX1_addPadded 10 = .ok (.iconst 0, 1) := by decide +kernel
theorem dX1_addPadded_11 : decode cX1_addPadded 11 = .ok (.istore_n 3, 1) := by decide +kernel
theorem dX1_addPadded_12 : decode cX1_addPadded 12 = .ok (.iload_n 3, 1) := by decide +kernel
theorem dX1_addPadded_13 : decode cX1_addPadded 13 = .ok (.iload_n 2, 1) := by decide +kernel
theorem dX1_addPadded_14 : decode cX1_addPadded 14 = .ok (.if_icmp .ge 19, 3) := by decide +kernel
theorem dX1_addPadded_17 : decode cX1_addPadded 17 = .ok (.aload_n 0, 1) := by decide +kernel
theorem dX1_addPadded_18 : decode cX1_addPadded 18 = .ok (.aload_n 1, 1) := by decide +kernel
theorem dX1_addPadded_19 : decode cX1_addPadded 19 = .ok (.getfield 132, 3) := by decide +kernel
theorem dX1_addPadded_22 : decode cX1_addPadded 22 = .ok (.iload_n 3, 1) := by decide +kernel
theorem dX1_addPadded_23 : decode cX1_addPadded 23 = .ok (.iaload, 1) := by decide +kernel
theorem dX1_addPadded_24 : decode cX1_addPadded 24 = .ok (.invokevirtual 136, 3) := by decide +kernel
theorem dX1_addPadded_27 : decode cX1_addPadded 27 = .ok (.iinc 3 1, 3) := by decide +kernel
theorem dX1_addPadded_30 : decode cX1_addPadded 30 = .ok (.goto (-18), 3) := by decide +kernel
theorem dX1_addPadded_33 : decode cX1_addPadded 33 = .ok (.iconst 0, 1) := by decide +kernel
theorem dX1_addPadded_34 : decode cX1_addPadded 34 = .ok (.istore_n 3, 1) := by decide +kernel
theorem dX1_addPadded_35 : decode cX1_addPadded 35 = .ok (.iload_n 3, 1) := by decide +kernel
theorem dX1_addPadded_36 : decode cX1_addPadded 36 = .ok (.bipush 32, 2) := by decide +kernel
theorem dX1_addPadded_38 : decode cX1_addPadded 38 = .ok (.iload_n 2, 1) := by decide +kernel
theorem dX1_addPadded_39 : decode cX1_addPadded 39 = .ok (.isub, 1) := by decide +kernel
theorem dX1_addPadded_40 : decode cX1_addPadded 40 = .ok (.if_icmp .ge 18, 3) := by decide +kernel
theorem dX1_addPadded_43 : decode cX1_addPadded 43 = .ok (.aload_n 0, 1) := by decide +kernel
theorem dX1_addPadded_44 : decode cX1_addPadded 44 = .ok (.getstatic 139, 3) := by decide +kernel
theorem dX1_addPadded_47 : decode cX1_addPadded 47 = .ok (.iload_n 3, 1) := by decide +kernel
theorem dX1_addPadded_48 : decode cX1_addPadded 48 = .ok (.iaload, 1) := by decide +kernel
theorem dX1_addPadded_49 : decode cX1_addPadded 49 = .ok (.invokevirtual 136, 3) := by decide +kernel
theorem dX1_addPadded_52 : decode cX1_addPadded 52 = .ok (.iinc 3 1, 3) := by decide +kernel
theorem dX1_addPadded_55 : decode cX1_addPadded 55 = .ok (.goto (-20), 3) := by decide +kernel
theorem dX1_addPadded_58 : decode cX1_addPadded 58 = .ok (.return_, 1) := by decide +kernel
theorem dX1_addPad_0 : decode cX1_addPad 0 = .ok (.iconst 0, 1) := by decide +kernel
theorem dX1_addPad_1 : decode cX1_addPad 1 = .ok (.istore_n 1, 1) := by decide +kernel
theorem dX1_addPad_2 : decode cX1_addPad 2 = .ok (.iload_n 1, 1) := by decide +kernel
theorem dX1_addPad_3 : decode cX1_addPad 3 = .ok (.bipush 32, 2) := by decide +kernel
theorem dX1_addPad_5 : decode cX1_addPad 5 = .ok (.if_icmp .ge 18, 3) := by decide +kernel
theorem dX1_addPad_8 : decode cX1_addPad 8 = .ok (.aload_n 0, 1) := by decide +kernel
theorem dX1_addPad_9 : decode cX1_addPad 9 = .ok (.getstatic 139, 3) := by decide +kernel
theorem dX1_addPad_12 : decode cX1_addPad 12 = .ok (.iload_n 1, 1) := by decide +kernel
theorem dX1_addPad_13 : decode cX1_addPad 13 = .ok (.iaload, 1) := by decide +kernel
theorem dX1_addPad_14 : decode cX1_addPad 14 = .ok (.invokevirtual 136, 3) := by decide +kernel
theorem dX1_addPad_17 : decode cX1_addPad 17 = .ok (.iinc 1 1, 3) := by decide +kernel
theorem dX1_addPad_20 : decode cX1_addPad 20 = .ok (.goto (-18), 3) := by decide +kernel
theorem dX1_addPad_23 : decode cX1_addPad 23 = .ok (.return_, 1) := by decide +kernel
theorem dX1_deriveKey_0 : decode cX1_deriveKey 0 = .ok (.aload_n 0, 1) := by decide +kernel
theorem dX1_deriveKey_1 : decode cX1_deriveKey 1 = .ok (.getfield 70, 3) := by decide +kernel
theorem dX1_deriveKey_4 : decode cX1_deriveKey 4 = .ok (.invokevirtual 89, 3) := by decide +kernel
theorem dX1_deriveKey_7 : decode cX1_deriveKey 7 = .ok (.aload_n 0, 1) := by decide +kernel
theorem dX1_deriveKey_8 : decode cX1_deriveKey 8 = .ok (.getfield 70, 3) := by decide +kernel
theorem dX1_deriveKey_11 : decode cX1_deriveKey 11 = .ok (.aload_n 1, 1) := by decide +kernel
theorem dX1_deriveKey_12 : decode cX1_deriveKey 12 = .ok (.invokestatic 92, 3) := by decide +kernel
theorem dX1_deriveKey_15 : decode cX1_deriveKey 15 = .ok (.aload_n 0, 1) := by decide +kernel
theorem dX1_deriveKey_16 : decode cX1_deriveKey 16 = .ok (.getfield 70, 3) := by decide +kernel
theorem dX1_deriveKey_19 : decode cX1_deriveKey 19 = .ok (.aload_n 0, 1) := by decide +kernel
theorem dX1_deriveKey_20 : decode cX1_deriveKey 20 = .ok (.getfield 30, 3) := by decide +kernel
theorem dX1_deriveKey_23 : decode cX1_deriveKey 23 = .ok (.invokevirtual 142, 3) := by decide +kernel
theorem dX1_deriveKey_26 : decode cX1_deriveKey 26 = .ok (.aload_n 0, 1) := by decide +kernel
theorem dX1_deriveKey_27 : decode cX1_deriveKey 27 = .ok (.getfield 70, 3) := by decide +kernel
theorem dX1_deriveKey_30 : decode cX1_deriveKey 30 = .ok (.aload_n 0, 1) := by decide +kernel
theorem dX1_deriveKey_31 : decode cX1_deriveKey 31 = .ok (.getfield 18, 3) := by decide +kernel
theorem dX1_deriveKey_34 : decode cX1_deriveKey 34 = .ok (.iconst 4, 1) := by decide +kernel
theorem dX1_deriveKey_35 : decode cX1_deriveKey 35 = .ok (.invokevirtual 112, 3) := by decide +kernel
theorem dX1_deriveKey_38 : decode cX1_deriveKey 38 = .ok (.aload_n 0, 1) := by decide +kernel
theorem dX1_deriveKey_39 : decode cX1_deriveKey 39 = .ok (.getfield 70, 3) := by decide +kernel
theorem dX1_deriveKey_42 : decode cX1_deriveKey 42 = .ok (.aload_n 0, 1) := by decide +kernel
theorem dX1_deriveKey_43 : decode cX1_deriveKey 43 = .ok (.getfield 37, 3) := by decide +kernel
theorem dX1_deriveKey_46 : decode cX1_deriveKey 46 = .ok (.invokevirtual 142, 3) := by decide +kernel
theorem dX1_deriveKey_49 : decode cX1_deriveKey 49 = .ok (.aload_n 0, 1) := by decide +kernel
theorem dX1_deriveKey_50 : decode cX1_deriveKey 50 = .ok (.getfield 9, 3) := by decide +kernel
theorem dX1_deriveKey_53 : decode cX1_deriveKey 53 = .ok (.iconst 4, 1) := by decide +kernel
theorem dX1_deriveKey_54 : decode cX1_deriveKey 54 = .ok (.if_icmp .ne 21, 3) := by decide +kernel
theorem dX1_deriveKey_57 : decode cX1_deriveKey 57 = .ok (.aload_n 0, 1) := by decide +kernel
theorem dX1_deriveKey_58 : decode cX1_deriveKey 58 = .ok (.getfield 21, 3) := by decide +kernel
theorem dX1_deriveKey_61 : decode cX1_deriveKey 61 = .ok (.ifCond .eq 14, 3) := by decide +kernel
theorem dX1_deriveKey_64 : decode cX1_deriveKey 64 = .ok (.aload_n 0, 1) := by decide +kernel
theorem dX1_deriveKey_65 : decode cX1_deriveKey 65 = .ok (.getfield 70, 3) := by decide +kernel
theorem dX1_deriveKey_68 : decode cX1_deriveKey 68 = .ok (.sipush 255, 3) := by decide +kernel
theorem dX1_deriveKey_71 : decode cX1_deriveKey 71 = .ok (.iconst 4, 1) := by decide +kernel
theorem dX1_deriveKey_72 : decode cX1_deriveKey 72 = .ok (.invokevirtual 145, 3) := by decide +kernel
theorem dX1_deriveKey_75 : decode cX1_deriveKey 75 = .ok (.aload_n 0, 1) := by decide +kernel
theorem dX1_deriveKey_76 : decode cX1_deriveKey 76 = .ok (.getfield 52, 3) := by decide +kernel
theorem dX1_deriveKey_79 : decode cX1_deriveKey 79 = .ok (.aload_n 0, 1) := by decide +kernel
theorem dX1_deriveKey_80 : decode cX1_deriveKey 80 = .ok (.getfield 70, 3) := by decide +kernel
theorem dX1_deriveKey_83 : decode cX1_deriveKey 83 = .ok (.aload_n 0, 1) := by decide +kernel
theorem dX1_deriveKey_84 : decode cX1_deriveKey 84 = .ok (.getfield 73, 3) := by decide +kernel
theorem dX1_deriveKey_87 : decode cX1_deriveKey 87 = .ok (.invokevirtual 120, 3) := by decide +kernel
theorem dX1_deriveKey_90 : decode cX1_deriveKey 90 = .ok (.aload_n 0, 1) := by decide +kernel
theorem dX1_deriveKey_91 : decode cX1_deriveKey 91 = .ok (.getfield 9, 3) := by decide +kernel
theorem dX1_deriveKey_94 : decode cX1_deriveKey 94 = .ok (.iconst 3, 1) := by decide +kernel
theorem dX1_deriveKey_95 : decode cX1_deriveKey 95 = .ok (.if_icmp .lt 43, 3) := by decide +kernel
theorem dX1_deriveKey_98 : decode cX1_deriveKey 98 = .ok (.iconst 0, 1) := by decide +kernel
theorem dX1_deriveKey_99 : decode cX1_deriveKey 99 = .ok (.istore_n 2, 1) := by decide +kernel
theorem dX1_deriveKey_100 : decode cX1_deriveKey 100 = .ok (.iload_n 2, 1) := by decide +kernel
theorem dX1_deriveKey_101 : decode cX1_deriveKey 101 = .ok (.bipush 50, 2) := by decide +kernel
theorem dX1_deriveKey_103 : decode cX1_deriveKey 103 = .ok (.if_icmp .ge 35, 3) := by decide +kernel
theorem dX1_deriveKey_106 : decode cX1_deriveKey 106 = .ok (.aload_n 0, 1) := by decide +kernel
theorem dX1_deriveKey_107 : decode cX1_deriveKey 107 = .ok (.getfield 73, 3) := by decide +kernel
theorem dX1_deriveKey_110 : decode cX1_deriveKey 110 = .ok (.aload_n 0, 1) := by decide +kernel
theorem dX1_deriveKey_111 : decode cX1_deriveKey 111 = .ok (.getfield 15, 3) := by decide +kernel
theorem dX1_deriveKey_114 : decode cX1_deriveKey 114 = .ok (.invokevirtual 123, 3) := by decide +kernel
theorem dX1_deriveKey_117 : decode cX1_deriveKey 117 = .ok (.aload_n 0, 1) := by decide +kernel
theorem dX1_deriveKey_118 : decode cX1_deriveKey 118 = .ok (.getfield 52, 3) := by decide +kernel
theorem dX1_deriveKey_121 : decode cX1_deriveKey 121 = .ok (.aload_n 0, 1) := by decide +kernel
theorem dX1_deriveKey_122 : decode cX1_deriveKey 122 = .ok (.getfield 73, 3) := by decide +kernel
theorem dX1_deriveKey_125 : decode cX1_deriveKey 125 = .ok (.aload_n 0, 1) := by decide +kernel
theorem dX1_deriveKey_126 : decode cX1_deriveKey 126 = .ok (.getfield 73, 3) := by decide +kernel
theorem dX1_deriveKey_129 : decode cX1_deriveKey 129 = .ok (.invokevirtual 120, 3) := by decide +kernel
theorem dX1_deriveKey_132 : decode cX1_deriveKey 132 = .ok (.iinc 2 1, 3) := by decide +kernel
theorem dX1_deriveKey_135 : decode cX1_deriveKey 135 = .ok (.goto (-35), 3) := by decide +kernel
theorem dX1_deriveKey_138 : decode cX1_deriveKey 138 = .ok (.aload_n 0, 1) := by decide +kernel
theorem dX1_deriveKey_139 : decode cX1_deriveKey 139 = .ok (.getfield 73, 3) := by decide +kernel
theorem dX1_deriveKey_142 : decode cX1_deriveKey 142 = .ok (.aload_n 0, 1) := by decide +kernel
theorem dX1_deriveKey_143 : decode cX1_deriveKey 143 = .ok (.getfield 15, 3) := by decide +kernel
theorem dX1_deriveKey_146 : decode cX1_deriveKey 146 = .ok (.invokevirtual 123, 3) := by decide +kernel
theorem dX1_deriveKey_149 : decode cX1_deriveKey 149 = .ok (.return_, 1) := by decide +kernel
theorem dX1_deriveOwnerKey_0 : decode cX1_deriveOwnerKey 0 = .ok (.aload_n 0, 1) := by decide +kernel
theorem dX1_deriveOwnerKey_1 : decode cX1_deriveOwnerKey 1 = .ok (.getfield 70, 3) := by decide +kernel
theorem dX1_deriveOwnerKey_4 : decode cX1_deriveOwnerKey 4 = .ok (.invokevirtual 89, 3) := by decide +kernel
theorem dX1_deriveOwnerKey_7 : decode cX1_deriveOwnerKey 7 = .ok (.aload_n 0, 1) := by decide +kernel
theorem dX1_deriveOwnerKey_8 : decode cX1_deriveOwnerKey 8 = .ok (.getfield 70, 3) := by decide +kernel
theorem dX1_deriveOwnerKey_11 : decode cX1_deriveOwnerKey 11 = .ok (.aload_n 1, 1) := by decide +kernel
theorem dX1_deriveOwnerKey_12 : decode cX1_deriveOwnerKey 12 = .ok (.invokestatic 92, 3) := by decide +kernel
theorem dX1_deriveOwnerKey_15 : decode cX1_deriveOwnerKey 15 = .ok (.aload_n 0, 1) := by decide +kernel
theorem dX1_deriveOwnerKey_16 : decode cX1_deriveOwnerKey 16 = .ok (.getfield 52, 3) := by decide +kernel
theorem dX1_deriveOwnerKey_19 : decode cX1_deriveOwnerKey 19 = .ok (.aload_n 0, 1) := by decide +kernel
theorem dX1_deriveOwnerKey_20 : decode cX1_deriveOwnerKey 20 = .ok (.getfield 70, 3) := by decide +kernel
theorem dX1_deriveOwnerKey_23 : decode cX1_deriveOwnerKey 23 = .ok (.aload_n 0, 1) := by decide +kernel
theorem dX1_deriveOwnerKey_24 : decode cX1_deriveOwnerKey 24 = .ok (.getfield 73, 3) := by decide +kernel
theorem dX1_deriveOwnerKey_27 : decode cX1_deriveOwnerKey 27 = .ok (.invokevirtual 120, 3) := by decide +kernel
theorem dX1_deriveOwnerKey_30 : decode cX1_deriveOwnerKey 30 = .ok (.aload_n 0, 1) := by decide +kernel
theorem dX1_deriveOwnerKey_31 : decode cX1_deriveOwnerKey 31 = .ok (.getfield 9, 3) := by decide +kernel
theorem dX1_deriveOwnerKey_34 : decode cX1_deriveOwnerKey 34 = .ok (.iconst 3, 1) := by decide +kernel
theorem dX1_deriveOwnerKey_35 : decode cX1_deriveOwnerKey 35 = .ok (.if_icmp .lt 32, 3) := by decide +kernel
theorem dX1_deriveOwnerKey_38 : decode cX1_deriveOwnerKey 38 = .ok (.iconst 0, 1) := by decide +kernel
theorem dX1_deriveOwnerKey_39 : decode cX1_deriveOwnerKey 39 = .ok (.istore_n 2, 1) := by decide +kernel
theorem dX1_deriveOwnerKey_40 : decode cX1_deriveOwnerKey 40 = .ok (.iload_n 2, 1) := by decide +kernel
theorem dX1_deriveOwnerKey_41 : decode cX1_deriveOwnerKey 41 = .ok (.bipush 50, 2) := by decide +kernel
theorem dX1_deriveOwnerKey_43 : decode cX1_deriveOwnerKey 43 = .ok (.if_icmp .ge 24, 3) := by decide +kernel
theorem dX1_deriveOwnerKey_46 : decode cX1_deriveOwnerKey 46 = .ok (.aload_n 0, 1) := by decide +kernel
theorem dX1_deriveOwnerKey_47 : decode cX1_deriveOwnerKey 47 = .ok (.getfield 52, 3) := by decide +kernel
theorem dX1_deriveOwnerKey_50 : decode cX1_deriveOwnerKey 50 = .ok (.aload_n 0, 1) := by decide +kernel
theorem dX1_deriveOwnerKey_51 : decode cX1_deriveOwnerKey 51 = .ok (.getfield 73, 3) := by decide +kernel
theorem dX1_deriveOwnerKey_54 : decode cX1_deriveOwnerKey 54 = .ok (.aload_n 0, 1) := by decide +kernel
theorem dX1_deriveOwnerKey_55 : decode cX1_deriveOwnerKey 55 = .ok (.getfield 73, 3) := by decide +kernel
theorem dX1_deriveOwnerKey_58 : decode cX1_deriveOwnerKey 58 = .ok (.invokevirtual 120, 3) := by decide +kernel
theorem dX1_deriveOwnerKey_61 : decode cX1_deriveOwnerKey 61 = .ok (.iinc 2 1, 3) := by decide +kernel
theorem dX1_deriveOwnerKey_64 : decode cX1_deriveOwnerKey 64 = .ok (.goto (-24), 3) := by decide +kernel
theorem dX1_deriveOwnerKey_67 : decode cX1_deriveOwnerKey 67 = .ok (.aload_n 0, 1) := by decide +kernel
theorem dX1_deriveOwnerKey_68 : decode cX1_deriveOwnerKey 68 = .ok (.getfield 73, 3) := by decide +kernel
theorem dX1_deriveOwnerKey_71 : decode cX1_deriveOwnerKey 71 = .ok (.aload_n 0, 1) := by decide +kernel
theorem dX1_deriveOwnerKey_72 : decode cX1_deriveOwnerKey 72 = .ok (.getfield 15, 3) := by decide +kernel
theorem dX1_deriveOwnerKey_75 : decode cX1_deriveOwnerKey 75 = .ok (.invokevirtual 123, 3) := by decide +kernel
theorem dX1_deriveOwnerKey_78 : decode cX1_deriveOwnerKey 78 = .ok (.return_, 1) := by decide +kernel
theorem dX1_streamEntry_0 : decode cX1_streamEntry 0 = .ok (.aload_n 0, 1) := by decide +kernel
theorem dX1_streamEntry_1 : decode cX1_streamEntry 1 = .ok (.getfield 9, 3) := by decide +kernel
theorem dX1_streamEntry_4 : decode cX1_streamEntry 4 = .ok (.iconst 3, 1) := by decide +kernel
theorem dX1_streamEntry_5 : decode cX1_streamEntry 5 = .ok (.if_icmp .lt 8, 3) := by decide +kernel
theorem dX1_streamEntry_8 : decode cX1_streamEntry 8 = .ok (.bipush 20, 2) := by decide +kernel
theorem dX1_streamEntry_10 : decode cX1_streamEntry 10 = .ok (.goto 4, 3) := by decide +kernel
theorem dX1_streamEntry_13 : decode cX1_streamEntry 13 = .ok (.iconst 1, 1) := by decide +kernel
theorem dX1_streamEntry_14 : decode cX1_streamEntry 14 = .ok (.istore_n 2, 1) := by decide +kernel
theorem dX1_streamEntry_15 : decode cX1_streamEntry 15 = .ok (.iconst 0, 1) := by decide +kernel
theorem dX1_streamEntry_16 : decode cX1_streamEntry 16 = .ok (.istore_n 3, 1) := by decide +kernel
theorem dX1_streamEntry_17 : decode cX1_streamEntry 17 = .ok (.iload_n 3, 1) := by decide +kernel
theorem dX1_streamEntry_18 : decode cX1_streamEntry 18 = .ok (.iload_n 2, 1) := by decide +kernel
theorem dX1_streamEntry_19 : decode cX1_streamEntry 19 = .ok (.if_icmp .ge 22, 3) := by decide +kernel
theorem dX1_streamEntry_22 : decode cX1_streamEntry 22 = .ok (.aload_n 0, 1) := by decide +kernel
theorem dX1_streamEntry_23 : decode cX1_streamEntry 23 = .ok (.getfield 59, 3) := by decide +kernel
theorem dX1_streamEntry_26 : decode cX1_streamEntry 26 = .ok (.aload_n 1, 1) := by decide +kernel
theorem dX1_streamEntry_27 : decode cX1_streamEntry 27 = .ok (.aload_n 0, 1) := by decide +kernel
theorem dX1_streamEntry_28 : decode cX1_streamEntry 28 = .ok (.getfield 73, 3) := by decide +kernel
theorem dX1_streamEntry_31 : decode cX1_streamEntry 31 = .ok (.iload_n 3, 1) := by decide +kernel
theorem dX1_streamEntry_32 : decode cX1_streamEntry 32 = .ok (.invokevirtual 148, 3) := by decide +kernel
theorem dX1_streamEntry_35 : decode cX1_streamEntry 35 = .ok (.iinc 3 1, 3) := by decide +kernel
theorem dX1_streamEntry_38 : decode cX1_streamEntry 38 = .ok (.goto (-21), 3) := by decide +kernel
theorem dX1_streamEntry_41 : decode cX1_streamEntry 41 = .ok (.return_, 1) := by decide +kernel
theorem dX1_makeEntryByTried_0 : decode cX1_makeEntryByTried 0 = .ok (.aload_n 0, 1) := by decide +kernel
theorem dX1_makeEntryByTried_1 : decode cX1_makeEntryByTried 1 = .ok (.getfield 9, 3) := by decide +kernel
theorem dX1_makeEntryByTried_4 : decode cX1_makeEntryByTried 4 = .ok (.iconst 3, 1) := by decide +kernel
theorem dX1_makeEntryByTried_5 : decode cX1_makeEntryByTried 5 = .ok (.if_icmp .lt 64, 3) := by decide +kernel
theorem dX1_makeEntryByTried_8 : decode cX1_makeEntryByTried 8 = .ok (.aload_n 0, 1) := by decide +kernel
theorem dX1_makeEntryByTried_9 : decode cX1_makeEntryByTried 9 = .ok (.getfield 70, 3) := by decide +kernel
theorem dX1_makeEntryByTried_12 : decode cX1_makeEntryByTried 12 = .ok (.invokevirtual 89, 3) := by decide +kernel
theorem dX1_makeEntryByTried_15 : decode cX1_makeEntryByTried 15 = .ok (.aload_n 0, 1) := by decide +kernel
theorem dX1_makeEntryByTried_16 : decode cX1_makeEntryByTried 16 = .ok (.getfield 70, 3) := by decide +kernel
theorem dX1_makeEntryByTried_19 : decode cX1_makeEntryByTried 19 = .ok (.invokestatic 152, 3) := by decide +kernel
theorem dX1_makeEntryByTried_22 : decode cX1_makeEntryByTried 22 = .ok (.aload_n 0, 1) := by decide +kernel
theorem dX1_makeEntryByTried_23 : decode cX1_makeEntryByTried 23 = .ok (.getfield 70, 3) := by decide +kernel
theorem dX1_makeEntryByTried_26 : decode cX1_makeEntryByTried 26 = .ok (.aload_n 0, 1) := by decide +kernel
theorem dX1_makeEntryByTried_27 : decode cX1_makeEntryByTried 27 = .ok (.getfield 37, 3) := by decide +kernel
theorem dX1_makeEntryByTried_30 : decode cX1_makeEntryByTried 30 = .ok (.invokevirtual 142, 3) := by decide +kernel
theorem dX1_makeEntryByTried_33 : decode cX1_makeEntryByTried 33 = .ok (.aload_n 0, 1) := by decide +kernel
theorem dX1_makeEntryByTried_34 : decode cX1_makeEntryByTried 34 = .ok (.getfield 52, 3) := by decide +kernel
theorem dX1_makeEntryByTried_37 : decode cX1_makeEntryByTried 37 = .ok (.aload_n 0, 1) := by decide +kernel
theorem dX1_makeEntryByTried_38 : decode cX1_makeEntryByTried 38 = .ok (.getfield 70, 3) := by decide +kernel
theorem dX1_makeEntryByTried_41 : decode cX1_makeEntryByTried 41 = .ok (.aload_n 0, 1) := by decide +kernel
theorem dX1_makeEntryByTried_42 : decode cX1_makeEntryByTried 42 = .ok (.getfield 76, 3) := by decide +kernel
theorem dX1_makeEntryByTried_45 : decode cX1_makeEntryByTried 45 = .ok (.invokevirtual 120, 3) := by decide +kernel
theorem dX1_makeEntryByTried_48 : decode cX1_makeEntryByTried 48 = .ok (.aload_n 0, 1) := by decide +kernel
theorem dX1_makeEntryByTried_49 : decode cX1_makeEntryByTried 49 = .ok (.aload_n 0, 1) := by decide +kernel
theorem dX1_makeEntryByTried_50 : decode cX1_makeEntryByTried 50 = .ok (.getfield 76, 3) := by decide +kernel
theorem dX1_makeEntryByTried_53 : decode cX1_makeEntryByTried 53 = .ok (.invokevirtual 96, 3) := by decide +kernel
theorem dX1_makeEntryByTried_56 : decode cX1_makeEntryByTried 56 = .ok (.aload_n 0, 1) := by decide +kernel
theorem dX1_makeEntryByTried_57 : decode cX1_makeEntryByTried 57 = .ok (.getfield 76, 3) := by decide +kernel
theorem dX1_makeEntryByTried_60 : decode cX1_makeEntryByTried 60 = .ok (.iconst 0, 1) := by decide +kernel
theorem dX1_makeEntryByTried_61 : decode cX1_makeEntryByTried 61 = .ok (.bipush 16, 2) := by decide +kernel
theorem dX1_makeEntryByTried_63 : decode cX1_makeEntryByTried 63 = .ok (.invokevirtual 145, 3) := by decide +kernel
theorem dX1_makeEntryByTried_66 : decode cX1_makeEntryByTried 66 = .ok (.goto 25, 3) := by decide +kernel
theorem dX1_makeEntryByTried_69 : decode cX1_makeEntryByTried 69 = .ok (.aload_n 0, 1) := by decide +kernel
theorem dX1_makeEntryByTried_70 : decode cX1_makeEntryByTried 70 = .ok (.getfield 76, 3) := by decide +kernel
theorem dX1_makeEntryByTried_73 : decode cX1_makeEntryByTried 73 = .ok (.invokevirtual 89, 3) := by decide +kernel
theorem dX1_makeEntryByTried_76 : decode cX1_makeEntryByTried 76 = .ok (.aload_n 0, 1) := by decide +kernel
theorem dX1_makeEntryByTried_77 : decode cX1_makeEntryByTried 77 = .ok (.getfield 76, 3) := by decide +kernel
theorem dX1_makeEntryByTried_80 : decode cX1_makeEntryByTried 80 = .ok (.invokestatic 152, 3) := by decide +kernel
theorem dX1_makeEntryByTried_83 : decode cX1_makeEntryByTried 83 = .ok (.aload_n 0, 1) := by decide +kernel
theorem dX1_makeEntryByTried_84 : decode cX1_makeEntryByTried 84 = .ok (.aload_n 0, 1) := by decide +kernel
theorem dX1_makeEntryByTried_85 : decode cX1_makeEntryByTried 85 = .ok (.getfield 76, 3) := by decide +kernel
theorem dX1_makeEntryByTried_88 : decode cX1_makeEntryByTried 88 = .ok (.invokevirtual 96, 3) := by decide +kernel
theorem dX1_makeEntryByTried_91 : decode cX1_makeEntryByTried 91 = .ok (.return_, 1) := by decide +kernel
theorem dX1_isTriedTheUsers_0 : decode cX1_isTriedTheUsers 0 = .ok (.aload_n 0, 1) := by decide +kernel
theorem dX1_isTriedTheUsers_1 : decode cX1_isTriedTheUsers 1 = .ok (.invokevirtual 102, 3) := by decide +kernel
theorem dX1_isTriedTheUsers_4 : decode cX1_isTriedTheUsers 4 = .ok (.aload_n 0, 1) := by decide +kernel
theorem dX1_isTriedTheUsers_5 : decode cX1_isTriedTheUsers 5 = .ok (.getfield 76, 3) := by decide +kernel
theorem dX1_isTriedTheUsers_8 : decode cX1_isTriedTheUsers 8 = .ok (.aload_n 0, 1) := by decide +kernel
theorem dX1_isTriedTheUsers_9 : decode cX1_isTriedTheUsers 9 = .ok (.getfield 34, 3) := by decide +kernel
theorem dX1_isTriedTheUsers_12 : decode cX1_isTriedTheUsers 12 = .ok (.aload_n 0, 1) := by decide +kernel
theorem dX1_isTriedTheUsers_13 : decode cX1_isTriedTheUsers 13 = .ok (.getfield 9, 3) := by decide +kernel
theorem dX1_isTriedTheUsers_16 : decode cX1_isTriedTheUsers 16 = .ok (.iconst 3, 1) := by decide +kernel
theorem dX1_isTriedTheUsers_17 : decode cX1_isTriedTheUsers 17 = .ok (.if_icmp .lt 8, 3) := by decide +kernel
theorem dX1_isTriedTheUsers_20 : decode cX1_isTriedTheUsers 20 = .ok (.bipush 16, 2) := by decide +kernel
theorem dX1_isTriedTheUsers_22 : decode cX1_isTriedTheUsers 22 = .ok (.goto 5, 3) := by decide +kernel
theorem dX1_isTriedTheUsers_25 : decode cX1_isTriedTheUsers 25 = .ok (.bipush 32, 2) := by decide +kernel
theorem dX1_isTriedTheUsers_27 : decode cX1_isTriedTheUsers 27 = .ok (.invokevirtual 155, 3) := by decide +kernel
theorem dX1_isTriedTheUsers_30 : decode cX1_isTriedTheUsers 30 = .ok (.ireturn, 1) := by decide +kernel
theorem dX2_init_0 : decode cX2_init 0 = .ok (.aload_n 0, 1) := by decide +kernel
theorem dX2_init_1 : decode cX2_init 1 = .ok (.invokespecial 1, 3) := by decide +kernel
theorem dX2_init_4 : decode cX2_init 4 = .ok (.aload_n 0, 1) := by decide +kernel
theorem dX2_init_5 : decode cX2_init 5 = .ok (.bipush 16, 2) := by decide +kernel
theorem dX2_init_7 : decode cX2_init 7 = .ok (.newarray .int, 2) := by decide +kernel
theorem dX2_init_9 : decode cX2_init 9 = .ok (.putfield 7, 3) := by decide +kernel
theorem dX2_init_12 : decode cX2_init 12 = .ok (.return_, 1) := by decide +kernel
theorem dX2_hash_0 : decode cX2_hash 0 = .ok (.aload_n 0, 1) := by decide +kernel
theorem dX2_hash_1 : decode cX2_hash 1 = .ok (.ldc 13, 2) := by decide +kernel
theorem dX2_hash_3 : decode cX2_hash 3 = .ok (.putfield 14, 3) := by decide +kernel
theorem dX2_hash_6 : decode cX2_hash 6 = .ok (.aload_n 0, 1) := by decide +kernel
theorem dX2_hash_7 : decode cX2_hash 7 = .ok (.ldc 18, 2) := by decide +kernel
theorem dX2_hash_9 : decode cX2_hash 9 = .ok (.putfield 19, 3) := by decide +kernel
theorem dX2_hash_12 : decode cX2_hash 12 = .ok (.aload_n 0, 1) := by decide +kernel
theorem dX2_hash_13 : decode cX2_hash 13 = .ok (.ldc 22, 2) := by decide +kernel
theorem dX2_hash_15 : decode cX2_hash 15 = .ok (.putfield 23, 3) := by decide +kernel
theorem dX2_hash_18 : decode cX2_hash 18 = .ok (.aload_n 0, 1) := by decide +kernel
theorem dX2_hash_19 : decode cX2_hash 19 = .ok (.ldc 26, 2) := by decide +kernel
theorem dX2_hash_21 : decode cX2_hash 21 = .ok (.putfield 27, 3) := by decide +kernel
theorem dX2_hash_24 : decode cX2_hash 24 = .ok (.aload_n 1, 1) := by decide +kernel
theorem dX2_hash_25 : decode cX2_hash 25 = .ok (.getfield 30, 3) := by decide +kernel
theorem dX2_hash_28 : decode cX2_hash 28 = .ok (.bipush 8, 2) := by decide +kernel
theorem dX2_hash_30 : decode cX2_hash 30 = .ok (.iadd, 1) := by decide +kernel
theorem dX2_hash_31 : decode cX2_hash 31 = .ok (.bipush 64, 2) := by decide +kernel
theorem dX2_hash_33 : decode cX2_hash 33 = .ok (.idiv, 1) := by decide +kernel
theorem dX2_hash_34 : decode cX2_hash 34 = .ok (.iconst 1, 1) := by decide +kernel
theorem dX2_hash_35 : decode cX2_hash 35 = .ok (.iadd, 1) := by decide +kernel
theorem dX2_hash_36 : decode cX2_hash 36 = .ok (.istore_n 3, 1) := by decide +kernel
theorem dX2_hash_37 : decode cX2_hash 37 = .ok (.iconst 0, 1) := by decide +kernel
theorem dX2_hash_38 : decode cX2_hash 38 = .ok (.istore 4, 2) := by decide +kernel
theorem dX2_hash_40 : decode cX2_hash 40 = .ok (.iload 4, 2) := by decide +kernel
theorem dX2_hash_42 : decode cX2_hash 42 = .ok (.iload_n 3, 1) := by decide +kernel
theorem dX2_hash_43 : decode cX2_hash 43 = .ok (.if_icmp .ge 45, 3) := by decide +kernel
theorem dX2_hash_46 : decode cX2_hash 46 = .ok (.aload_n 0, 1) := by decide +kernel
theorem dX2_hash_47 : decode cX2_hash 47 = .ok (.aload_n 1, 1) := by decide +kernel
theorem dX2_hash_48 : decode cX2_hash 48 = .ok (.iload 4, 2) := by decide +kernel
theorem dX2_hash_50 : decode cX2_hash 50 = .ok (.bipush 64, 2) := by decide +kernel
theorem dX2_hash_52 : decode cX2_hash 52 = .ok (.imul, 1) := by decide +kernel
theorem dX2_hash_53 : decode cX2_hash 53 = .ok (.invokevirtual 35, 3) := by decide +kernel
theorem dX2_hash_56 : decode cX2_hash 56 = .ok (.iload 4, 2) := by decide +kernel
theorem dX2_hash_58 : decode cX2_hash 58 = .ok (.iload_n 3, 1) := by decide +kernel
theorem dX2_hash_59 : decode cX2_hash 59 = .ok (.iconst 1, 1) := by decide +kernel
theorem dX2_hash_60 : decode cX2_hash 60 = .ok (.isub, 1) := by decide +kernel
theorem dX2_hash_61 : decode cX2_hash 61 = .ok (.if_icmp .ne 17, 3) := by decide +kernel
theorem dX2_hash_64 : decode cX2_hash 64 = .ok (.aload_n 0, 1) := by decide +kernel
theorem dX2_hash_65 : decode cX2_hash 65 = .ok (.getfield 7, 3) := by decide +kernel
theorem dX2_hash_68 : decode cX2_hash 68 = .ok (.bipush 14, 2) := by decide +kernel
theorem dX2_hash_70 : decode cX2_hash 70 = .ok (.bipush 8, 2) := by decide +kernel
theorem dX2_hash_72 : decode cX2_hash 72 = .ok (.aload_n 1, 1) := by decide +kernel
theorem dX2_hash_73 : decode cX2_hash 73 = .ok (.getfield 30, 3) := by decide +kernel
theorem dX2_hash_76 : decode cX2_hash 76 = .ok (.imul, 1) := by decide +kernel
theorem dX2_hash_77 : decode cX2_hash 77 = .ok (.iastore, 1) := by decide +kernel
theorem dX2_hash_78 : decode cX2_hash 78 = .ok (.aload_n 0, 1) := by decide +kernel
theorem dX2_hash_79 : decode cX2_hash 79 = .ok (.invokevirtual 39, 3) := by decide +kernel
theorem dX2_hash_82 : decode cX2_hash 82 = .ok (.iinc 4 1, 3) := by decide +kernel
theorem dX2_hash_85 : decode cX2_hash 85 = .ok (.goto (-45), 3) := by decide +kernel
theorem dX2_hash_88 : decode cX2_hash 88 = .ok (.aload_n 2, 1) := by decide +kernel
theorem dX2_hash_89 : decode cX2_hash 89 = .ok (.invokevirtual 42, 3) := by decide +kernel
theorem dX2_hash_92 : decode cX2_hash 92 = .ok (.aload_n 2, 1) := by decide +kernel
theorem dX2_hash_93 : decode cX2_hash 93 = .ok (.aload_n 0, 1) := by decide +kernel
theorem dX2_hash_94 : decode cX2_hash 94 = .ok (.getfield 14, 3) := by decide +kernel
theorem dX2_hash_97 : decode cX2_hash 97 = .ok (.iconst 4, 1) := by decide +kernel
theorem dX2_hash_98 : decode cX2_hash 98 = .ok (.invokevirtual 45, 3) := by decide +kernel
theorem dX2_hash_101 : decode cX2_hash 101 = .ok (.aload_n 2, 1) := by decide +kernel
theorem dX2_hash_102 : decode cX2_hash 102 = .ok (.aload_n 0, 1) := by decide +kernel
theorem dX2_hash_103 : decode cX2_hash 103 = .ok (.getfield 19, 3) := by decide +kernel
theorem dX2_hash_106 : decode cX2_hash 106 = .ok (.iconst 4, 1) := by decide +kernel
theorem dX2_hash_107 : decode cX2_hash 107 = .ok (.invokevirtual 45, 3) := by decide +kernel
theorem dX2_hash_110 : decode cX2_hash 110 = .ok (.aload_n 2, 1) := by decide +kernel
theorem dX2_hash_111 : decode cX2_hash 111 = .ok (.aload_n 0, 1) := by decide +kernel
theorem dX2_hash_112 : decode cX2_hash 112 = .ok (.getfield 23, 3) := by decide +kernel
theorem dX2_hash_115 : decode cX2_hash 115 = .ok (.iconst 4, 1) := by decide +kernel
theorem dX2_hash_116 : decode cX2_hash 116 = .ok (.invokevirtual 45, 3) := by decide +kernel
theorem dX2_hash_119 : decode cX2_hash 119 = .ok (.aload_n 2, 1) := by decide +kernel
theorem dX2_hash_120 : decode cX2_hash 120 = .ok (.aload_n 0, 1) := by decide +kernel
theorem dX2_hash_121 : decode cX2_hash 121 = .ok (.getfield 27, 3) := by decide +kernel
theorem dX2_hash_124 : decode cX2_hash 124 = .ok (.iconst 4, 1) := by decide +kernel
theorem dX2_hash_125 : decode cX2_hash 125 = .ok (.invokevirtual 45, 3) := by decide +kernel
theorem dX2_hash_128 : decode cX2_hash 128 = .ok (.return_, 1) := by decide +kernel
theorem dX2_loadWords_0 : decode cX2_loadWords 0 = .ok (.iconst 0, 1) := by decide +kernel
theorem dX2_loadWords_1 : decode cX2_loadWords 1 = .ok (.istore_n 3, 1) := by decide +kernel
theorem dX2_loadWords_2 : decode cX2_loadWords 2 = .ok (.iload_n 3, 1) := by decide +kernel
theorem dX2_loadWords_3 : decode cX2_loadWords 3 = .ok (.bipush 16, 2) := by decide +kernel
theorem dX2_loadWords_5 : decode cX2_loadWords 5 = .ok (.if_icmp .ge 64, 3) := by decide +kernel
theorem dX2_loadWords_8 : decode cX2_loadWords 8 = .ok (.iload_n 2, 1) := by decide +kernel
theorem dX2_loadWords_9 : decode cX2_loadWords 9 = .ok (.iconst 4, 1) := by decide +kernel
theorem dX2_loadWords_10 : decode cX2_loadWords 10 = .ok (.iload_n 3, 1) := by decide +kernel
theorem dX2_loadWords_11 : decode cX2_loadWords 11 = .ok (.imul, 1) := by decide +kernel
theorem dX2_loadWords_12 : decode cX2_loadWords 12 = .ok (.iadd, 1) := by decide +kernel
theorem dX2_loadWords_13 : decode cX2_loadWords 13 = .ok (.istore 4, 2) := by decide +kernel
theorem dX2_loadWords_15 : decode cX2_loadWords 15 = .ok (.aload_n 0, 1) := by decide +kernel
theorem dX2_loadWords_16 : decode cX2_loadWords 16 = .ok (.getfield 7, 3) := by decide +kernel
theorem dX2_loadWords_19 : decode cX2_loadWords 19 = .ok (.iload_n 3, 1) := by decide +kernel
theorem dX2_loadWords_20 : decode cX2_loadWords 20 = .ok (.aload_n 1, 1) := by decide +kernel
theorem dX2_loadWords_21 : decode cX2_loadWords 21 = .ok (.iload 4, 2) := by decide +kernel
theorem dX2_loadWords_23 : decode cX2_loadWords 23 = .ok (.invokestatic 49, 3) := by decide +kernel
theorem dX2_loadWords_26 : decode cX2_loadWords 26 = .ok (.aload_n 1, 1) := by decide +kernel
theorem dX2_loadWords_27 : decode cX2_loadWords 27 = .ok (.iload 4, 2) := by decide +kernel
theorem dX2_loadWords_29 : decode cX2_loadWords 29 = .ok (.iconst 1, 1) := by decide +kernel
theorem dX2_loadWords_30 : decode cX2_loadWords 30 = .ok (.iadd, 1) := by decide +kernel
theorem dX2_loadWords_31 : decode cX2_loadWords 31 = .ok (.invokestatic 49, 3) := by decide +kernel
theorem dX2_loadWords_34 : decode cX2_loadWords 34 = .ok (.bipush 8, 2) := by decide +kernel
theorem dX2_loadWords_36 : decode cX2_loadWords 36 = .ok (.ishl, 1) := by decide +kernel
theorem dX2_loadWords_37 : decode cX2_loadWords 37 = .ok (.ior, 1) := by decide +kernel
theorem dX2_loadWords_38 : decode cX2_loadWords 38 = .ok (.aload_n 1, 1) := by decide +kernel
theorem dX2_loadWords_39 : decode cX2_loadWords 39 = .ok (.iload 4, 2) := by decide +kernel
theorem dX2_loadWords_41 : decode cX2_loadWords 41 = .ok (.iconst 2, 1) := by decide +kernel
theorem dX2_loadWords_42 : decode cX2_loadWords 42 = .ok (.iadd, 1) := by decide +kernel
theorem dX2_loadWords_43 : decode cX2_loadWords 43 = .ok (.invokestatic 49, 3) := by decide +kernel
theorem dX2_loadWords_46 : decode cX2_loadWords 46 = .ok (.bipush 16, 2) := by decide +kernel
theorem dX2_loadWords_48 : decode cX2_loadWords 48 = .ok (.ishl, 1) := by decide +kernel
theorem dX2_loadWords_49 : decode cX2_loadWords 49 = .ok (.ior, 1) := by decide +kernel
theorem dX2_loadWords_50 : decode cX2_loadWords 50 = .ok (.aload_n 1, 1) := by decide +kernel
theorem dX2_loadWords_51 : decode cX2_loadWords 51 = .ok (.iload 4, 2) := by decide +kernel
theorem dX2_loadWords_53 : decode cX2_loadWords 53 = .ok (.iconst 3, 1) := by decide +kernel
theorem dX2_loadWords_54 : decode cX2_loadWords 54 = .ok (.iadd, 1) := by decide +kernel
theorem dX2_loadWords_55 : decode cX2_loadWords 55 = .ok (.invokestatic 49, 3) := by decide +kernel
theorem dX2_loadWords_58 : decode cX2_loadWords 58 = .ok (.bipush 24, 2) := by decide +kernel
theorem dX2_loadWords_60 : decode cX2_loadWords 60 = .ok (.ishl, 1) := by decide +kernel
theorem dX2_loadWords_61 : decode cX2_loadWords 61 = .ok (.ior, 1) := by decide +kernel
theorem dX2_loadWords_62 : decode cX2_loadWords 62 = .ok (.iastore, 1) := by decide +kernel
theorem dX2_loadWords_63 : decode cX2_loadWords 63 = .ok (.iinc 3 1, 3) := by decide +kernel
theorem dX2_loadWords_66 : decode cX2_loadWords 66 = .ok (.goto (-64), 3) := by decide +kernel
theorem dX2_loadWords_69 : decode cX2_loadWords 69 = .ok (.return_, 1) := by decide +kernel
theorem dX2_endedByte_0 : decode cX2_endedByte 0 = .ok (.iload_n 1, 1) := by decide +kernel
theorem dX2_endedByte_1 : decode cX2_endedByte 1 = .ok (.ifCond .lt 18, 3) := by decide +kernel
theorem dX2_endedByte_4 : decode cX2_endedByte 4 = .ok (.iload_n 1, 1) := by decide +kernel
theorem dX2_endedByte_5 : decode cX2_endedByte 5 = .ok (.aload_n 0, 1) := by decide +kernel
theorem dX2_endedByte_6 : decode cX2_endedByte 6 = .ok (.getfield 30, 3) := by decide +kernel
theorem dX2_endedByte_9 : decode cX2_endedByte 9 = .ok (.if_icmp .ge 10, 3) := by decide +kernel
theorem dX2_endedByte_12 : decode cX2_endedByte 12 = .ok (.aload_n 0, 1) := by decide +kernel
theorem dX2_endedByte_13 : decode cX2_endedByte 13 = .ok (.getfield 53, 3) := by decide +kernel
theorem dX2_endedByte_16 : decode cX2_endedByte 16 = .ok (.iload_n 1, 1) := by decide +kernel
theorem dX2_endedByte_17 : decode cX2_endedByte 17 = .ok (.iaload, 1) := by decide +kernel
theorem dX2_endedByte_18 : decode cX2_endedByte 18 = .ok (.ireturn, 1) := by decide +kernel
theorem dX2_endedByte_19 : decode cX2_endedByte 19 = .ok (.iload_n 1, 1) := by decide +kernel
theorem dX2_endedByte_20 : decode cX2_endedByte 20 = .ok (.aload_n 0, 1) := by decide +kernel
theorem dX2_endedByte_21 : decode cX2_endedByte 21 = .ok (.getfield 30, 3) := by decide +kernel
theorem dX2_endedByte_24 : decode cX2_endedByte 24 = .ok (.if_icmp .ne 9, 3) := by decide +kernel
theorem dX2_endedByte_27 : decode cX2_endedByte 27 = .ok (.sipush 128, 3) := by decide +kernel
theorem dX2_endedByte_30 : decode cX2_endedByte 30 = .ok (.goto 4, 3) := by decide +kernel
theorem dX2_endedByte_33 : decode cX2_endedByte 33 = .ok (.iconst 0, 1) := by decide +kernel
theorem dX2_endedByte_34 : decode cX2_endedByte 34 = .ok (.ireturn, 1) := by decide +kernel
theorem dX2_mixWords_0 : decode cX2_mixWords 0 = .ok (.aload_n 0, 1) := by decide +kernel
theorem dX2_mixWords_1 : decode cX2_mixWords 1 = .ok (.getfield 14, 3) := by decide +kernel
theorem dX2_mixWords_4 : decode cX2_mixWords 4 = .ok (.istore_n 1, 1) := by decide +kernel
theorem dX2_mixWords_5 : decode cX2_mixWords 5 = .ok (.aload_n 0, 1) := by decide +kernel
theorem dX2_mixWords_6 : decode cX2_mixWords 6 = .ok (.getfield 19, 3) := by decide +kernel
theorem dX2_mixWords_9 : decode cX2_mixWords 9 = .ok (.istore_n 2, 1) := by decide +kernel
theorem dX2_mixWords_10 : decode cX2_mixWords 10 = .ok (.aload_n 0, 1) := by decide +kernel
theorem dX2_mixWords_11 : decode cX2_mixWords 11 = .ok (.getfield 23, 3) := by decide +kernel
theorem dX2_mixWords_14 : decode cX2_mixWords 14 = .ok (.istore_n 3, 1) := by decide +kernel
theorem dX2_mixWords_15 : decode cX2_mixWords 15 = .ok (.aload_n 0, 1) := by decide +kernel
theorem dX2_mixWords_16 : decode cX2_mixWords 16 = .ok (.getfield 27, 3) := by decide +kernel
theorem dX2_mixWords_19 : decode cX2_mixWords 19 = .ok (.istore 4, 2) := by decide +kernel
theorem dX2_mixWords_21 : decode cX2_mixWords 21 = .ok (.iconst 0, 1) := by decide +kernel
theorem dX2_mixWords_22 : decode cX2_mixWords 22 = .ok (.istore 5, 2) := by decide +kernel
theorem dX2_mixWords_24 : decode cX2_mixWords 24 = .ok (.iload 5, 2) := by decide +kernel
theorem dX2_mixWords_26 : decode cX2_mixWords 26 = .ok (.bipush 64, 2) := by decide +kernel
theorem dX2_mixWords_28 : decode cX2_mixWords 28 = .ok (.if_icmp .ge 175, 3) := by decide +kernel
theorem dX2_mixWords_31 : decode cX2_mixWords 31 = .ok (.iload 5, 2) := by decide +kernel
theorem dX2_mixWords_33 : decode cX2_mixWords 33 = .ok (.bipush 16, 2) := by decide +kernel
theorem dX2_mixWords_35 : decode cX2_mixWords 35 = .ok (.if_icmp .ge 22, 3) := by decide +kernel
theorem dX2_mixWords_38 : decode cX2_mixWords 38 = .ok (.iload_n 2, 1) := by decide +kernel
theorem dX2_mixWords_39 : decode cX2_mixWords 39 = .ok (.iload_n 3, 1) := by decide +kernel
theorem dX2_mixWords_40 : decode cX2_mixWords 40 = .ok (.iand, 1) := by decide +kernel
theorem dX2_mixWords_41 : decode cX2_mixWords 41 = .ok (.iload_n 2, 1) := by decide +kernel
theorem dX2_mixWords_42 : decode cX2_mixWords 42 = .ok (.iconst (-1), 1) := by decide +kernel
theorem dX2_mixWords_43 : decode cX2_mixWords 43 = .ok (.ixor, 1) := by decide +kernel
theorem dX2_mixWords_44 : decode cX2_mixWords 44 = .ok (.iload 4, 2) := by decide +kernel
theorem dX2_mixWords_46 : decode cX2_mixWords 46 = .ok (.iand, 1) := by decide +kernel
theorem dX2_mixWords_47 : decode cX2_mixWords 47 = .ok (.ior, 1) := by decide +kernel
theorem dX2_mixWords_48 : decode cX2_mixWords 48 = .ok (.istore 6, 2) := by decide +kernel
theorem dX2_mixWords_50 : decode cX2_mixWords 50 = .ok (.iload 5, 2) := by decide +kernel
theorem dX2_mixWords_52 : decode cX2_mixWords 52 = .ok (.istore 7, 2) := by decide +kernel
theorem dX2_mixWords_54 : decode cX2_mixWords 54 = .ok (.goto 77, 3) := by decide +kernel
theorem dX2_mixWords_57 : decode cX2_mixWords 57 = .ok (.iload 5, 2) := by decide +kernel
theorem dX2_mixWords_59 : decode cX2_mixWords 59 = .ok (.bipush 32, 2) := by decide +kernel
theorem dX2_mixWords_61 : decode cX2_mixWords 61 = .ok (.if_icmp .ge 27, 3) := by decide +kernel
theorem dX2_mixWords_64 : decode cX2_mixWords 64 = .ok (.iload 4, 2) := by decide +kernel
theorem dX2_mixWords_66 : decode cX2_mixWords 66 = .ok (.iload_n 2, 1) := by decide +kernel
theorem dX2_mixWords_67 : decode cX2_mixWords 67 = .ok (.iand, 1) := by decide +kernel
theorem dX2_mixWords_68 : decode cX2_mixWords 68 = .ok (.iload 4, 2) := by decide +kernel
theorem dX2_mixWords_70 : decode cX2_mixWords 70 = .ok (.iconst (-1), 1) := by decide +kernel
theorem dX2_mixWords_71 : decode cX2_mixWords 71 = .ok (.ixor, 1) := by decide +kernel
theorem dX2_mixWords_72 : decode cX2_mixWords 72 = .ok (.iload_n 3, 1) := by decide +kernel
theorem dX2_mixWords_73 : decode cX2_mixWords 73 = .ok (.iand, 1) := by decide +kernel
theorem dX2_mixWords_74 : decode cX2_mixWords 74 = .ok (.ior, 1) := by decide +kernel
theorem dX2_mixWords_75 : decode cX2_mixWords 75 = .ok (.istore 6, 2) := by decide +kernel
theorem dX2_mixWords_77 : decode cX2_mixWords 77 = .ok (.iconst 5, 1) := by decide +kernel
theorem dX2_mixWords_78 : decode cX2_mixWords 78 = .ok (.iload 5, 2) := by decide +kernel
theorem dX2_mixWords_80 : decode cX2_mixWords 80 = .ok (.imul, 1) := by decide +kernel
theorem dX2_mixWords_81 : decode cX2_mixWords 81 = .ok (.iconst 1, 1) := by decide +kernel
theorem dX2_mixWords_82 : decode cX2_mixWords 82 = .ok (.iadd, 1) := by decide +kernel
theorem dX2_mixWords_83 : decode cX2_mixWords 83 = .ok (.istore 7, 2) := by decide +kernel
theorem dX2_mixWords_85 : decode cX2_mixWords 85 = .ok (.goto 46, 3) := by decide +kernel
theorem dX2_mixWords_88 : decode cX2_mixWords 88 = .ok (.iload 5, 2) := by decide +kernel
theorem dX2_mixWords_90 : decode cX2_mixWords 90 = .ok (.bipush 48, 2) := by decide +kernel
theorem dX2_mixWords_92 : decode cX2_mixWords 92 = .ok (.if_icmp .ge 22, 3) := by decide +kernel
theorem dX2_mixWords_95 : decode cX2_mixWords 95 = .ok (.iload_n 2, 1) := by decide +kernel
theorem dX2_mixWords_96 : decode cX2_mixWords 96 = .ok (.iload_n 3, 1) := by decide +kernel
theorem dX2_mixWords_97 : decode cX2_mixWords 97 = .ok (.ixor, 1) := by decide +kernel
theorem dX2_mixWords_98 : decode cX2_mixWords 98 = .ok (.iload 4, 2) := by decide +kernel
theorem dX2_mixWords_100 : decode cX2_mixWords 100 = .ok (.ixor, 1) := by decide +kernel
theorem dX2_mixWords_101 : decode cX2_mixWords 101 = .ok (.istore 6, 2) := by decide +kernel
theorem dX2_mixWords_103 : decode cX2_mixWords 103 = .ok (.iconst 3, 1) := by decide +kernel
theorem dX2_mixWords_104 : decode cX2_mixWords 104 = .ok (.iload 5, 2) := by decide +kernel
theorem dX2_mixWords_106 : decode cX2_mixWords 106 = .ok (.imul, 1) := by decide +kernel
theorem dX2_mixWords_107 : decode cX2_mixWords 107 = .ok (.iconst 5, 1) := by decide +kernel
theorem dX2_mixWords_108 : decode cX2_mixWords 108 = .ok (.iadd, 1) := by decide +kernel
theorem dX2_mixWords_109 : decode cX2_mixWords 109 = .ok (.istore 7, 2) := by decide +kernel
theorem dX2_mixWords_111 : decode cX2_mixWords 111 = .ok (.goto 20, 3) := by decide +kernel
theorem dX2_mixWords_114 : decode cX2_mixWords 114 = .ok (.iload_n 3, 1) := by decide +kernel
theorem dX2_mixWords_115 : decode cX2_mixWords 115 = .ok (.iload_n 2, 1) := by decide +kernel
theorem dX2_mixWords_116 : decode cX2_mixWords 116 = .ok (.iload 4, 2) := by decide +kernel
theorem dX2_mixWords_118 : decode cX2_mixWords 118 = .ok (.iconst (-1), 1) := by decide +kernel
theorem dX2_mixWords_119 : decode cX2_mixWords 119 = .ok (.ixor, 1) := by decide +kernel
theorem dX2_mixWords_120 : decode cX2_mixWords 120 = .ok (.ior, 1) := by decide +kernel
theorem dX2_mixWords_121 : decode cX2_mixWords 121 = .ok (.ixor, 1) := by decide +kernel
theorem dX2_mixWords_122 : decode cX2_mixWords 122 = .ok (.istore 6, 2) := by decide +kernel
theorem dX2_mixWords_124 : decode cX2_mixWords 124 = .ok (.bipush 7, 2) := by decide +kernel
theorem dX2_mixWords_126 : decode cX2_mixWords 126 = .ok (.iload 5, 2) := by decide +kernel
theorem dX2_mixWords_128 : decode cX2_mixWords 128 = .ok (.imul, 1) := by decide +kernel
theorem dX2_mixWords_129 : decode cX2_mixWords 129 = .ok (.istore 7, 2) := by decide +kernel
theorem dX2_mixWords_131 : decode cX2_mixWords 131 = .ok (.iload 6, 2) := by decide +kernel
theorem dX2_mixWords_133 : decode cX2_mixWords 133 = .ok (.iload_n 1, 1) := by decide +kernel
theorem dX2_mixWords_134 : decode cX2_mixWords 134 = .ok (.getstatic 56, 3) := by decide +kernel
theorem dX2_mixWords_137 : decode cX2_mixWords 137 = .ok (.iload 5, 2) := by decide +kernel
theorem dX2_mixWords_139 : decode cX2_mixWords 139 = .ok (.iaload, 1) := by decide +kernel
theorem dX2_mixWords_140 : decode cX2_mixWords 140 = .ok (.iadd, 1) := by decide +kernel
theorem dX2_mixWords_141 : decode cX2_mixWords 141 = .ok (.aload_n 0, 1) := by decide +kernel
theorem dX2_mixWords_142 : decode cX2_mixWords 142 = .ok (.getfield 7, 3) := by decide +kernel
theorem dX2_mixWords_145 : decode cX2_mixWords 145 = .ok (.iload 7, 2) := by decide +kernel
theorem dX2_mixWords_147 : decode cX2_mixWords 147 = .ok (.bipush 15, 2) := by decide +kernel
theorem dX2_mixWords_149 : decode cX2_mixWords 149 = .ok (.iand, 1) := by decide +kernel
theorem dX2_mixWords_150 : decode cX2_mixWords 150 = .ok (.iaload, 1) := by decide +kernel
theorem dX2_mixWords_151 : decode cX2_mixWords 151 = .ok (.iadd, 1) := by decide +kernel
theorem dX2_mixWords_152 : decode cX2_mixWords 152 = .ok (.iadd, 1) := by decide +kernel
theorem dX2_mixWords_153 : decode cX2_mixWords 153 = .ok (.istore 6, 2) := by decide +kernel
theorem dX2_mixWords_155 : decode cX2_mixWords 155 = .ok (.getstatic 59, 3) := by decide +kernel
theorem dX2_mixWords_158 : decode cX2_mixWords 158 = .ok (.iload 5, 2) := by decide +kernel
theorem dX2_mixWords_160 : decode cX2_mixWords 160 = .ok (.iconst 4, 1) := by decide +kernel
theorem dX2_mixWords_161 : decode cX2_mixWords 161 = .ok (.ishr, 1) := by decide +kernel
theorem dX2_mixWords_162 : decode cX2_mixWords 162 = .ok (.iconst 4, 1) := by decide +kernel
theorem dX2_mixWords_163 : decode cX2_mixWords 163 = .ok (.imul, 1) := by decide +kernel
theorem dX2_mixWords_164 : decode cX2_mixWords 164 = .ok (.iload 5, 2) := by decide +kernel
theorem dX2_mixWords_166 : decode cX2_mixWords 166 = .ok (.iconst 3, 1) := by decide +kernel
theorem dX2_mixWords_167 : decode cX2_mixWords 167 = .ok (.iand, 1) := by decide +kernel
theorem dX2_mixWords_168 : decode cX2_mixWords 168 = .ok (.iadd, 1) := by decide +kernel
theorem dX2_mixWords_169 : decode cX2_mixWords 169 = .ok (.iaload, 1) := by decide +kernel
theorem dX2_mixWords_170 : decode cX2_mixWords 170 = .ok (.istore 8, 2) := by decide +kernel
theorem dX2_mixWords_172 : decode cX2_mixWords 172 = .ok (.iload 4, 2) := by decide +kernel
theorem dX2_mixWords_174 : decode cX2_mixWords 174 = .ok (.istore_n 1, 1) := by decide +kernel
theorem dX2_mixWords_175 : decode cX2_mixWords 175 = .ok (.iload_n 3, 1) := by decide +kernel
theorem dX2_mixWords_176 : decode cX2_mixWords 176 = .ok (.istore 4, 2) := by decide +kernel
theorem dX2_mixWords_178 : decode cX2_mixWords 178 = .ok (.iload_n 2, 1) := by decide +kernel
theorem dX2_mixWords_179 : decode cX2_mixWords 179 = .ok (.istore_n 3, 1) := by decide +kernel
theorem dX2_mixWords_180 : decode cX2_mixWords 180 = .ok (.iload_n 2, 1) := by decide +kernel
theorem dX2_mixWords_181 : decode cX2_mixWords 181 = .ok (.iload 6, 2) := by decide +kernel
theorem dX2_mixWords_183 : decode cX2_mixWords 183 = .ok (.iload 8, 2) := by decide +kernel
theorem dX2_mixWords_185 : decode cX2_mixWords 185 = .ok (.ishl, 1) := by decide +kernel
theorem dX2_mixWords_186 : decode cX2_mixWords 186 = .ok (.iload 6, 2) := by decide +kernel
theorem dX2_mixWords_188 : decode cX2_mixWords 188 = .ok (.bipush 32, 2) := by decide +kernel
theorem dX2_mixWords_190 : decode cX2_mixWords 190 = .ok (.iload 8, 2) := by decide +kernel
theorem dX2_mixWords_192 : decode cX2_mixWords 192 = .ok (.isub, 1) := by decide +kernel
theorem dX2_mixWords_193 : decode cX2_mixWords 193 = .ok (.iushr, 1) := by decide +kernel
theorem dX2_mixWords_194 : decode cX2_mixWords 194 = .ok (.ior, 1) := by decide +kernel
theorem dX2_mixWords_195 : decode cX2_mixWords 195 = .ok (.iadd, 1) := by decide +kernel
theorem dX2_mixWords_196 : decode cX2_mixWords 196 = .ok (.istore_n 2, 1) := by decide +kernel
theorem dX2_mixWords_197 : decode cX2_mixWords 197 = .ok (.iinc 5 1, 3) := by decide +kernel
theorem dX2_mixWords_200 : decode cX2_mixWords 200 = .ok (.goto (-176), 3) := by decide +kernel
theorem dX2_mixWords_203 : decode cX2_mixWords 203 = .ok (.aload_n 0, 1) := by decide +kernel
theorem dX2_mixWords_204 : decode cX2_mixWords 204 = .ok (.dup, 1) := by decide +kernel
theorem dX2_mixWords_205 : decode cX2_mixWords 205 = .ok (.getfield 14, 3) := by decide +kernel
theorem dX2_mixWords_208 : decode cX2_mixWords 208 = .ok (.iload_n 1, 1) := by decide +kernel
theorem dX2_mixWords_209 : decode cX2_mixWords 209 = .ok (.iadd, 1) := by decide +kernel
theorem dX2_mixWords_210 : decode cX2_mixWords 210 = .ok (.putfield 14, 3) := by decide +kernel
theorem dX2_mixWords_213 : decode cX2_mixWords 213 = .ok (.aload_n 0, 1) := by decide +kernel
theorem dX2_mixWords_214 : decode cX2_mixWords 214 = .ok (.dup, 1) := by decide +kernel
theorem dX2_mixWords_215 : decode cX2_mixWords 215 = .ok (.getfield 19, 3) := by decide +kernel
theorem dX2_mixWords_218 : decode cX2_mixWords 218 = .ok (.iload_n 2, 1) := by decide +kernel
theorem dX2_mixWords_219 : decode cX2_mixWords 219 = .ok (.iadd, 1) := by decide +kernel
theorem dX2_mixWords_220 : decode cX2_mixWords 220 = .ok (.putfield 19, 3) := by decide +kernel
theorem dX2_mixWords_223 : decode cX2_mixWords 223 = .ok (.aload_n 0, 1) := by decide +kernel
theorem dX2_mixWords_224 : decode cX2_mixWords 224 = .ok (.dup, 1) := by decide +kernel
theorem dX2_mixWords_225 : decode cX2_mixWords 225 = .ok (.getfield 23, 3) := by decide +kernel
theorem dX2_mixWords_228 : decode cX2_mixWords 228 = .ok (.iload_n 3, 1) := by decide +kernel
theorem dX2_mixWords_229 : decode cX2_mixWords 229 = .ok (.iadd, 1) := by decide +kernel
theorem dX2_mixWords_230 : decode cX2_mixWords 230 = .ok (.putfield 23, 3) := by decide +kernel
theorem dX2_mixWords_233 : decode cX2_mixWords 233 = .ok (.aload_n 0, 1) := by decide +kernel
theorem dX2_mixWords_234 : decode cX2_mixWords 234 = .ok (.dup, 1) := by decide +kernel
theorem dX2_mixWords_235 : decode cX2_mixWords 235 = .ok (.getfield 27, 3) := by decide +kernel
theorem dX2_mixWords_238 : decode cX2_mixWords 238 = .ok (.iload 4, 2) := by decide +kernel
theorem dX2_mixWords_240 : decode cX2_mixWords 240 = .ok (.iadd, 1) := by decide +kernel
theorem dX2_mixWords_241 : decode cX2_mixWords 241 = .ok (.putfield 27, 3) := by decide +kernel
theorem dX2_mixWords_244 : decode cX2_mixWords 244 = .ok (.return_, 1) := by decide +kernel
theorem dX3_init_0 : decode cX3_init 0 = .ok (.aload_n 0, 1) := by decide +kernel
theorem dX3_init_1 : decode cX3_init 1 = .ok (.invokespecial 3, 3) := by decide +kernel
theorem dX3_init_4 : decode cX3_init 4 = .ok (.aload_n 0, 1) := by decide +kernel
theorem dX3_init_5 : decode cX3_init 5 = .ok (.iload_n 1, 1) := by decide +kernel
theorem dX3_init_6 : decode cX3_init 6 = .ok (.ifCond .ge 7, 3) := by decide +kernel
theorem dX3_init_9 : decode cX3_init 9 = .ok (.iconst 0, 1) := by decide +kernel
theorem dX3_init_10 : decode cX3_init 10 = .ok (.goto 4, 3) := by decide +kernel
theorem dX3_init_13 : decode cX3_init 13 = .ok (.iload_n 1, 1) := by decide +kernel
theorem dX3_init_14 : decode cX3_init 14 = .ok (.newarray .int, 2) := by decide +kernel
theorem dX3_init_16 : decode cX3_init 16 = .ok (.putfield 9, 3) := by decide +kernel
theorem dX3_init_19 : decode cX3_init 19 = .ok (.return_, 1) := by decide +kernel
theorem dX3_byteAt_0 : decode cX3_byteAt 0 = .ok (.iload_n 1, 1) := by decide +kernel
theorem dX3_byteAt_1 : decode cX3_byteAt 1 = .ok (.ifCond .lt 11, 3) := by decide +kernel
theorem dX3_byteAt_4 : decode cX3_byteAt 4 = .ok (.iload_n 1, 1) := by decide +kernel
theorem dX3_byteAt_5 : decode cX3_byteAt 5 = .ok (.aload_n 0, 1) := by decide +kernel
theorem dX3_byteAt_6 : decode cX3_byteAt 6 = .ok (.getfield 15, 3) := by decide +kernel
theorem dX3_byteAt_9 : decode cX3_byteAt 9 = .ok (.if_icmp .lt 7, 3) := by decide +kernel
theorem dX3_byteAt_12 : decode cX3_byteAt 12 = .ok (.iconst (-1), 1) := by decide +kernel
theorem dX3_byteAt_13 : decode cX3_byteAt 13 = .ok (.goto 9, 3) := by decide +kernel
theorem dX3_byteAt_16 : decode cX3_byteAt 16 = .ok (.aload_n 0, 1) := by decide +kernel
theorem dX3_byteAt_17 : decode cX3_byteAt 17 = .ok (.getfield 9, 3) := by decide +kernel
theorem dX3_byteAt_20 : decode cX3_byteAt 20 = .ok (.iload_n 1, 1) := by decide +kernel
theorem dX3_byteAt_21 : decode cX3_byteAt 21 = .ok (.iaload, 1) := by decide +kernel
theorem dX3_byteAt_22 : decode cX3_byteAt 22 = .ok (.ireturn, 1) := by decide +kernel
theorem dX3_clear_0 : decode cX3_clear 0 = .ok (.aload_n 0, 1) := by decide +kernel
theorem dX3_clear_1 : decode cX3_clear 1 = .ok (.iconst 0, 1) := by decide +kernel
theorem dX3_clear_2 : decode cX3_clear 2 = .ok (.putfield 15, 3) := by decide +kernel
theorem dX3_clear_5 : decode cX3_clear 5 = .ok (.return_, 1) := by decide +kernel
theorem dX3_shorten_0 : decode cX3_shorten 0 = .ok (.iload_n 1, 1) := by decide +kernel
theorem dX3_shorten_1 : decode cX3_shorten 1 = .ok (.ifCond .lt 16, 3) := by decide +kernel
theorem dX3_shorten_4 : decode cX3_shorten 4 = .ok (.iload_n 1, 1) := by decide +kernel
theorem dX3_shorten_5 : decode cX3_shorten 5 = .ok (.aload_n 0, 1) := by decide +kernel
theorem dX3_shorten_6 : decode cX3_shorten 6 = .ok (.getfield 15, 3) := by decide +kernel
theorem dX3_shorten_9 : decode cX3_shorten 9 = .ok (.if_icmp .ge 8, 3) := by decide +kernel
theorem dX3_shorten_12 : decode cX3_shorten 12 = .ok (.aload_n 0, 1) := by decide +kernel
theorem dX3_shorten_13 : decode cX3_shorten 13 = .ok (.iload_n 1, 1) := by decide +kernel
theorem dX3_shorten_14 : decode cX3_shorten 14 = .ok (.putfield 15, 3) := by decide +kernel
theorem dX3_shorten_17 : decode cX3_shorten 17 = .ok (.return_, 1) := by decide +kernel
theorem dX3_add_0 : decode cX3_add 0 = .ok (.aload_n 0, 1) := by decide +kernel
theorem dX3_add_1 : decode cX3_add 1 = .ok (.getfield 15, 3) := by decide +kernel
theorem dX3_add_4 : decode cX3_add 4 = .ok (.aload_n 0, 1) := by decide +kernel
theorem dX3_add_5 : decode cX3_add 5 = .ok (.getfield 9, 3) := by decide +kernel
theorem dX3_add_8 : decode cX3_add 8 = .ok (.arraylength, 1) := by decide +kernel
theorem dX3_add_9 : decode cX3_add 9 = .ok (.if_icmp .ge 27, 3) := by decide +kernel
theorem dX3_add_12 : decode cX3_add 12 = .ok (.aload_n 0, 1) := by decide +kernel
theorem dX3_add_13 : decode cX3_add 13 = .ok (.getfield 9, 3) := by decide +kernel
theorem dX3_add_16 : decode cX3_add 16 = .ok (.aload_n 0, 1) := by decide +kernel
theorem dX3_add_17 : decode cX3_add 17 = .ok (.getfield 15, 3) := by decide +kernel
theorem dX3_add_20 : decode cX3_add 20 = .ok (.iload_n 1, 1) := by decide +kernel
theorem dX3_add_21 : decode cX3_add 21 = .ok (.sipush 255, 3) := by decide +kernel
theorem dX3_add_24 : decode cX3_add 24 = .ok (.iand, 1) := by decide +kernel
theorem dX3_add_25 : decode cX3_add 25 = .ok (.iastore, 1) := by decide +kernel
theorem dX3_add_26 : decode cX3_add 26 = .ok (.aload_n 0, 1) := by decide +kernel
theorem dX3_add_27 : decode cX3_add 27 = .ok (.dup, 1) := by decide +kernel
theorem dX3_add_28 : decode cX3_add 28 = .ok (.getfield 15, 3) := by decide +kernel
theorem dX3_add_31 : decode cX3_add 31 = .ok (.iconst 1, 1) := by decide +kernel
theorem dX3_add_32 : decode cX3_add 32 = .ok (.iadd, 1) := by decide +kernel
theorem dX3_add_33 : decode cX3_add 33 = .ok (.putfield 15, 3) := by decide +kernel
theorem dX3_add_36 : decode cX3_add 36 = .ok (.return_, 1) := by decide +kernel
theorem dX3_addTimes_0 : decode cX3_addTimes 0 = .ok (.iconst 0, 1) := by decide +kernel
theorem dX3_addTimes_1 : decode cX3_addTimes 1 = .ok (.istore_n 3, 1) := by decide +kernel
theorem dX3_addTimes_2 : decode cX3_addTimes 2 = .ok (.iload_n 3, 1) := by decide +kernel
theorem dX3_addTimes_3 : decode cX3_addTimes 3 = .ok (.iload_n 2, 1) := by decide +kernel
theorem dX3_addTimes_4 : decode cX3_addTimes 4 = .ok (.if_icmp .ge 14, 3) := by decide +kernel
theorem dX3_addTimes_7 : decode cX3_addTimes 7 = .ok (.aload_n 0, 1) := by decide +kernel
theorem dX3_addTimes_8 : decode cX3_addTimes 8 = .ok (.iload_n 1, 1) := by decide +kernel
theorem dX3_addTimes_9 : decode cX3_addTimes 9 = .ok (.invokevirtual 19, 3) := by decide +kernel
theorem dX3_addTimes_12 : decode cX3_addTimes 12 = .ok (.iinc 3 1, 3) := by decide +kernel
theorem dX3_addTimes_15 : decode cX3_addTimes 15 = .ok (.goto (-13), 3) := by decide +kernel
theorem dX3_addTimes_18 : decode cX3_addTimes 18 = .ok (.return_, 1) := by decide +kernel
theorem dX3_addHighestFirst_0 : decode cX3_addHighestFirst 0 = .ok (.aload_n 0, 1) := by decide +kernel
theorem dX3_addHighestFirst_1 : decode cX3_addHighestFirst 1 = .ok (.iload_n 1, 1) := by decide +kernel
theorem dX3_addHighestFirst_2 : decode cX3_addHighestFirst 2 = .ok (.bipush 24, 2) := by decide +kernel
theorem dX3_addHighestFirst_4 : decode cX3_addHighestFirst 4 = .ok (.iushr, 1) := by decide +kernel
theorem dX3_addHighestFirst_5 : decode cX3_addHighestFirst 5 = .ok (.invokevirtual 19, 3) := by decide +kernel
theorem dX3_addHighestFirst_8 : decode cX3_addHighestFirst 8 = .ok (.aload_n 0, 1) := by decide +kernel
theorem dX3_addHighestFirst_9 : decode cX3_addHighestFirst 9 = .ok (.iload_n 1, 1) := by decide +kernel
theorem dX3_addHighestFirst_10 : decode cX3_addHighestFirst 10 = .ok (.bipush 16, 2) := by decide +kernel
theorem dX3_addHighestFirst_12 : decode cX3_addHighestFirst 12 = .ok (.iushr, 1) := by decide +kernel
theorem dX3_addHighestFirst_13 : decode cX3_addHighestFirst 13 = .ok (.invokevirtual 19, 3) := by decide +kernel
theorem dX3_addHighestFirst_16 : decode cX3_addHighestFirst 16 = .ok (.aload_n 0, 1) := by decide +kernel
theorem dX3_addHighestFirst_17 : decode cX3_addHighestFirst 17 = .ok (.iload_n 1, 1) := by decide +kernel
theorem dX3_addHighestFirst_18 : decode cX3_addHighestFirst 18 = .ok (.bipush 8, 2) := by decide +kernel
theorem dX3_addHighestFirst_20 : decode cX3_addHighestFirst 20 = .ok (.iushr, 1) := by decide +kernel
theorem dX3_addHighestFirst_21 : decode cX3_addHighestFirst 21 = .ok (.invokevirtual 19, 3) := by decide +kernel
theorem dX3_addHighestFirst_24 : decode cX3_addHighestFirst 24 = .ok (.aload_n 0, 1) := by decide +kernel
theorem dX3_addHighestFirst_25 : decode cX3_addHighestFirst 25 = .ok (.iload_n 1, 1) := by decide +kernel
theorem dX3_addHighestFirst_26 : decode cX3_addHighestFirst 26 = .ok (.invokevirtual 19, 3) := by decide +kernel
theorem dX3_addHighestFirst_29 : decode cX3_addHighestFirst 29 = .ok (.return_, 1) := by decide +kernel
theorem dX3_addLowestFirst_0 : decode cX3_addLowestFirst 0 = .ok (.iconst 0, 1) := by decide +kernel
theorem dX3_addLowestFirst_1 : decode cX3_addLowestFirst 1 = .ok (.istore_n 3, 1) := by decide +kernel
theorem dX3_addLowestFirst_2 : decode cX3_addLowestFirst 2 = .ok (.iload_n 3, 1) := by decide +kernel
theorem dX3_addLowestFirst_3 : decode cX3_addLowestFirst 3 = .ok (.iload_n 2, 1) := by decide +kernel
theorem dX3_addLowestFirst_4 : decode cX3_addLowestFirst 4 = .ok (.if_icmp .ge 19, 3) := by decide +kernel
theorem dX3_addLowestFirst_7 : decode cX3_addLowestFirst 7 = .ok (.aload_n 0, 1) := by decide +kernel
theorem dX3_addLowestFirst_8 : decode cX3_addLowestFirst 8 = .ok (.iload_n 1, 1) := by decide +kernel
theorem dX3_addLowestFirst_9 : decode cX3_addLowestFirst 9 = .ok (.bipush 8, 2) := by decide +kernel
theorem dX3_addLowestFirst_11 : decode cX3_addLowestFirst 11 = .ok (.iload_n 3, 1) := by decide +kernel
theorem dX3_addLowestFirst_12 : decode cX3_addLowestFirst 12 = .ok (.imul, 1) := by decide +kernel
theorem dX3_addLowestFirst_13 : decode cX3_addLowestFirst 13 = .ok (.iushr, 1) := by decide +kernel
theorem dX3_addLowestFirst_14 : decode cX3_addLowestFirst 14 = .ok (.invokevirtual 19, 3) := by decide +kernel
theorem dX3_addLowestFirst_17 : decode cX3_addLowestFirst 17 = .ok (.iinc 3 1, 3) := by decide +kernel
theorem dX3_addLowestFirst_20 : decode cX3_addLowestFirst 20 = .ok (.goto (-18), 3) := by decide +kernel
theorem dX3_addLowestFirst_23 : decode cX3_addLowestFirst 23 = .ok (.return_, 1) := by decide +kernel
theorem dX3_addRow_0 : decode cX3_addRow 0 = .ok (.aload_n 1, 1) := by decide +kernel
theorem dX3_addRow_1 : decode cX3_addRow 1 = .ok (.getfield 15, 3) := by decide +kernel
theorem dX3_addRow_4 : decode cX3_addRow 4 = .ok (.aload_n 0, 1) := by decide +kernel
theorem dX3_addRow_5 : decode cX3_addRow 5 = .ok (.getfield 9, 3) := by decide +kernel
theorem dX3_addRow_8 : decode cX3_addRow 8 = .ok (.arraylength, 1) := by decide +kernel
theorem dX3_addRow_9 : decode cX3_addRow 9 = .ok (.aload_n 0, 1) := by decide +kernel
theorem dX3_addRow_10 : decode cX3_addRow 10 = .ok (.getfield 15, 3) := by decide +kernel
theorem dX3_addRow_13 : decode cX3_addRow 13 = .ok (.isub, 1) := by decide +kernel
theorem dX3_addRow_14 : decode cX3_addRow 14 = .ok (.invokestatic 23, 3) := by decide +kernel
theorem dX3_addRow_17 : decode cX3_addRow 17 = .ok (.istore_n 2, 1) := by decide +kernel
theorem dX3_addRow_18 : decode cX3_addRow 18 = .ok (.aload_n 1, 1) := by decide +kernel
theorem dX3_addRow_19 : decode cX3_addRow 19 = .ok (.getfield 9, 3) := by decide +kernel
theorem dX3_addRow_22 : decode cX3_addRow 22 = .ok (.iconst 0, 1) := by decide +kernel
theorem dX3_addRow_23 : decode cX3_addRow 23 = .ok (.aload_n 0, 1) := by decide +kernel
theorem dX3_addRow_24 : decode cX3_addRow 24 = .ok (.getfield 9, 3) := by decide +kernel
theorem dX3_addRow_27 : decode cX3_addRow 27 = .ok (.aload_n 0, 1) := by decide +kernel
theorem dX3_addRow_28 : decode cX3_addRow 28 = .ok (.getfield 15, 3) := by decide +kernel
theorem dX3_addRow_31 : decode cX3_addRow 31 = .ok (.iload_n 2, 1) := by decide +kernel
theorem dX3_addRow_32 : decode cX3_addRow 32 = .ok (.invokestatic 29, 3) := by decide +kernel
theorem dX3_addRow_35 : decode cX3_addRow 35 = .ok (.aload_n 0, 1) := by decide +kernel
theorem dX3_addRow_36 : decode cX3_addRow 36 = .ok (.dup, 1) := by decide +kernel
theorem dX3_addRow_37 : decode cX3_addRow 37 = .ok (.getfield 15, 3) := by decide +kernel
theorem dX3_addRow_40 : decode cX3_addRow 40 = .ok (.iload_n 2, 1) := by decide +kernel
theorem dX3_addRow_41 : decode cX3_addRow 41 = .ok (.iadd, 1) := by decide +kernel
theorem dX3_addRow_42 : decode cX3_addRow 42 = .ok (.putfield 15, 3) := by decide +kernel
theorem dX3_addRow_45 : decode cX3_addRow 45 = .ok (.return_, 1) := by decide +kernel
theorem dX3_become_0 : decode cX3_become 0 = .ok (.aload_n 0, 1) := by decide +kernel
theorem dX3_become_1 : decode cX3_become 1 = .ok (.iconst 0, 1) := by decide +kernel
theorem dX3_become_2 : decode cX3_become 2 = .ok (.putfield 15, 3) := by decide +kernel
theorem dX3_become_5 : decode cX3_become 5 = .ok (.aload_n 0, 1) := by decide +kernel
theorem dX3_become_6 : decode cX3_become 6 = .ok (.aload_n 1, 1) := by decide +kernel
theorem dX3_become_7 : decode cX3_become 7 = .ok (.invokevirtual 35, 3) := by decide +kernel
theorem dX3_become_10 : decode cX3_become 10 = .ok (.return_, 1) := by decide +kernel
theorem dX3_beginsAs_0 : decode cX3_beginsAs 0 = .ok (.aload_n 0, 1) := by decide +kernel
theorem dX3_beginsAs_1 : decode cX3_beginsAs 1 = .ok (.getfield 15, 3) := by decide +kernel
theorem dX3_beginsAs_4 : decode cX3_beginsAs 4 = .ok (.iload_n 2, 1) := by decide +kernel
theorem dX3_beginsAs_5 : decode cX3_beginsAs 5 = .ok (.if_icmp .lt 11, 3) := by decide +kernel
theorem dX3_beginsAs_8 : decode cX3_beginsAs 8 = .ok (.aload_n 1, 1) := by decide +kernel
theorem dX3_beginsAs_9 : decode cX3_beginsAs 9 = .ok (.getfield 15, 3) := by decide +kernel
theorem dX3_beginsAs_12 : decode cX3_beginsAs 12 = .ok (.iload_n 2, 1) := by decide +kernel
theorem dX3_beginsAs_13 : decode cX3_beginsAs 13 = .ok (.if_icmp .ge 5, 3) := by decide +kernel
theorem dX3_beginsAs_16 : decode cX3_beginsAs 16 = .ok (.iconst 0, 1) := by decide +kernel
theorem dX3_beginsAs_17 : decode cX3_beginsAs 17 = .ok (.ireturn, 1) := by decide +kernel
theorem dX3_beginsAs_18 : decode cX3_beginsAs 18 = .ok (.iconst 0, 1) := by decide +kernel
theorem dX3_beginsAs_19 : decode cX3_beginsAs 19 = .ok (.istore_n 3, 1) := by decide +kernel
theorem dX3_beginsAs_20 : decode cX3_beginsAs 20 = .ok (.iload_n 3, 1) := by decide +kernel
theorem dX3_beginsAs_21 : decode cX3_beginsAs 21 = .ok (.iload_n 2, 1) := by decide +kernel
theorem dX3_beginsAs_22 : decode cX3_beginsAs 22 = .ok (.if_icmp .ge 26, 3) := by decide +kernel
theorem dX3_beginsAs_25 : decode cX3_beginsAs 25 = .ok (.aload_n 0, 1) := by decide +kernel
theorem dX3_beginsAs_26 : decode cX3_beginsAs 26 = .ok (.getfield 9, 3) := by decide +kernel
theorem dX3_beginsAs_29 : decode cX3_beginsAs 29 = .ok (.iload_n 3, 1) := by decide +kernel
theorem dX3_beginsAs_30 : decode cX3_beginsAs 30 = .ok (.iaload, 1) := by decide +kernel
theorem dX3_beginsAs_31 : decode cX3_beginsAs 31 = .ok (.aload_n 1, 1) := by decide +kernel
theorem dX3_beginsAs_32 : decode cX3_beginsAs 32 = .ok (.getfield 9, 3) := by decide +kernel
theorem dX3_beginsAs_35 : decode cX3_beginsAs 35 = .ok (.iload_n 3, 1) := by decide +kernel
theorem dX3_beginsAs_36 : decode cX3_beginsAs 36 = .ok (.iaload, 1) := by decide +kernel
theorem dX3_beginsAs_37 : decode cX3_beginsAs 37 = .ok (.if_icmp .eq 5, 3) := by decide +kernel
theorem dX3_beginsAs_40 : decode cX3_beginsAs 40 = .ok (.iconst 0, 1) := by decide +kernel
theorem dX3_beginsAs_41 : decode cX3_beginsAs 41 = .ok (.ireturn, 1) := by decide +kernel
theorem dX3_beginsAs_42 : decode cX3_beginsAs 42 = .ok (.iinc 3 1, 3) := by decide +kernel
theorem dX3_beginsAs_45 : decode cX3_beginsAs 45 = .ok (.goto (-25), 3) := by decide +kernel
theorem dX3_beginsAs_48 : decode cX3_beginsAs 48 = .ok (.iconst 1, 1) := by decide +kernel
theorem dX3_beginsAs_49 : decode cX3_beginsAs 49 = .ok (.ireturn, 1) := by decide +kernel
theorem dX4_init_0 : decode cX4_init 0 = .ok (.aload_n 0, 1) := by decide +kernel
theorem dX4_init_1 : decode cX4_init 1 = .ok (.invokespecial 1, 3) := by decide +kernel
theorem dX4_init_4 : decode cX4_init 4 = .ok (.aload_n 0, 1) := by decide +kernel
theorem dX4_init_5 : decode cX4_init 5 = .ok (.sipush 256, 3) := by decide +kernel
theorem dX4_init_8 : decode cX4_init 8 = .ok (.newarray .int, 2) := by decide +kernel
theorem dX4_init_10 : decode cX4_init 10 = .ok (.putfield 7, 3) := by decide +kernel
theorem dX4_init_13 : decode cX4_init 13 = .ok (.return_, 1) := by decide +kernel
theorem dX4_stream_0 : decode cX4_stream 0 = .ok (.aload_n 2, 1) := by decide +kernel
theorem dX4_stream_1 : decode cX4_stream 1 = .ok (.getfield 13, 3) := by decide +kernel
theorem dX4_stream_4 : decode cX4_stream 4 = .ok (.ifCond .ne 4, 3) := by decide +kernel
theorem dX4_stream_7 : decode cX4_stream 7 = .ok (.return_, 1) := by decide +kernel
theorem dX4_stream_8 : decode cX4_stream 8 = .ok (.aload_n 0, 1) := by decide +kernel
theorem dX4_stream_9 : decode cX4_stream 9 = .ok (.aload_n 2, 1) := by decide +kernel
theorem dX4_stream_10 : decode cX4_stream 10 = .ok (.iload_n 3, 1) := by decide +kernel
theorem dX4_stream_11 : decode cX4_stream 11 = .ok (.invokevirtual 19, 3) := by decide +kernel
theorem dX4_stream_14 : decode cX4_stream 14 = .ok (.iconst 0, 1) := by decide +kernel
theorem dX4_stream_15 : decode cX4_stream 15 = .ok (.istore 4, 2) := by decide +kernel
theorem dX4_stream_17 : decode cX4_stream 17 = .ok (.iconst 0, 1) := by decide +kernel
theorem dX4_stream_18 : decode cX4_stream 18 = .ok (.istore 5, 2) := by decide +kernel
theorem dX4_stream_20 : decode cX4_stream 20 = .ok (.iconst 0, 1) := by decide +kernel
theorem dX4_stream_21 : decode cX4_stream 21 = .ok (.istore 6, 2) := by decide +kernel
theorem dX4_stream_23 : decode cX4_stream 23 = .ok (.iload 6, 2) := by decide +kernel
theorem dX4_stream_25 : decode cX4_stream 25 = .ok (.aload_n 1, 1) := by decide +kernel
theorem dX4_stream_26 : decode cX4_stream 26 = .ok (.getfield 13, 3) := by decide +kernel
theorem dX4_stream_29 : decode cX4_stream 29 = .ok (.if_icmp .ge 90, 3) := by decide +kernel
theorem dX4_stream_32 : decode cX4_stream 32 = .ok (.iload 4, 2) := by decide +kernel
theorem dX4_stream_34 : decode cX4_stream 34 = .ok (.iconst 1, 1) := by decide +kernel
theorem dX4_stream_35 : decode cX4_stream 35 = .ok (.iadd, 1) := by decide +kernel
theorem dX4_stream_36 : decode cX4_stream 36 = .ok (.sipush 255, 3) := by decide +kernel
theorem dX4_stream_39 : decode cX4_stream 39 = .ok (.iand, 1) := by decide +kernel
theorem dX4_stream_40 : decode cX4_stream 40 = .ok (.istore 4, 2) := by decide +kernel
theorem dX4_stream_42 : decode cX4_stream 42 = .ok (.aload_n 0, 1) := by decide +kernel
theorem dX4_stream_43 : decode cX4_stream 43 = .ok (.getfield 7, 3) := by decide +kernel
theorem dX4_stream_46 : decode cX4_stream 46 = .ok (.iload 4, 2) := by decide +kernel
theorem dX4_stream_48 : decode cX4_stream 48 = .ok (.iaload, 1) := by decide +kernel
theorem dX4_stream_49 : decode cX4_stream 49 = .ok (.istore 7, 2) := by decide +kernel
theorem dX4_stream_51 : decode cX4_stream 51 = .ok (.iload 5, 2) := by decide +kernel
theorem dX4_stream_53 : decode cX4_stream 53 = .ok (.iload 7, 2) := by decide +kernel
theorem dX4_stream_55 : decode cX4_stream 55 = .ok (.iadd, 1) := by decide +kernel
theorem dX4_stream_56 : decode cX4_stream 56 = .ok (.sipush 255, 3) := by decide +kernel
theorem dX4_stream_59 : decode cX4_stream 59 = .ok (.iand, 1) := by decide +kernel
theorem dX4_stream_60 : decode cX4_stream 60 = .ok (.istore 5, 2) := by decide +kernel
theorem dX4_stream_62 : decode cX4_stream 62 = .ok (.aload_n 0, 1) := by decide +kernel
theorem dX4_stream_63 : decode cX4_stream 63 = .ok (.getfield 7, 3) := by decide +kernel
theorem dX4_stream_66 : decode cX4_stream 66 = .ok (.iload 5, 2) := by decide +kernel
theorem dX4_stream_68 : decode cX4_stream 68 = .ok (.iaload, 1) := by decide +kernel
theorem dX4_stream_69 : decode cX4_stream 69 = .ok (.istore 8, 2) := by decide +kernel
theorem dX4_stream_71 : decode cX4_stream 71 = .ok (.aload_n 0, 1) := by decide +kernel
theorem dX4_stream_72 : decode cX4_stream 72 = .ok (.getfield 7, 3) := by decide +kernel
theorem dX4_stream_75 : decode cX4_stream 75 = .ok (.iload 4, 2) := by decide +kernel
theorem dX4_stream_77 : decode cX4_stream 77 = .ok (.iload 8, 2) := by decide +kernel
theorem dX4_stream_79 : decode cX4_stream 79 = .ok (.iastore, 1) := by decide +kernel
theorem dX4_stream_80 : decode cX4_stream 80 = .ok (.aload_n 0, 1) := by decide +kernel
theorem dX4_stream_81 : decode cX4_stream 81 = .ok (.getfield 7, 3) := by decide +kernel
theorem dX4_stream_84 : decode cX4_stream 84 = .ok (.iload 5, 2) := by decide +kernel
theorem dX4_stream_86 : decode cX4_stream 86 = .ok (.iload 7, 2) := by decide +kernel
theorem dX4_stream_88 : decode cX4_stream 88 = .ok (.iastore, 1) := by decide +kernel
theorem dX4_stream_89 : decode cX4_stream 89 = .ok (.aload_n 1, 1) := by decide +kernel
theorem dX4_stream_90 : decode cX4_stream 90 = .ok (.getfield 23, 3) := by decide +kernel
theorem dX4_stream_93 : decode cX4_stream 93 = .ok (.iload 6, 2) := by decide +kernel
theorem dX4_stream_95 : decode cX4_stream 95 = .ok (.dup2, 1) := by decide +kernel
theorem dX4_stream_96 : decode cX4_stream 96 = .ok (.iaload, 1) := by decide +kernel
theorem dX4_stream_97 : decode cX4_stream 97 = .ok (.aload_n 0, 1) := by decide +kernel
theorem dX4_stream_98 : decode cX4_stream 98 = .ok (.getfield 7, 3) := by decide +kernel
theorem dX4_stream_101 : decode cX4_stream 101 = .ok (.iload 7, 2) := by decide +kernel
theorem dX4_stream_103 : decode cX4_stream 103 = .ok (.iload 8, 2) := by decide +kernel
theorem dX4_stream_105 : decode cX4_stream 105 = .ok (.iadd, 1) := by decide +kernel
theorem dX4_stream_106 : decode cX4_stream 106 = .ok (.sipush 255, 3) := by decide +kernel
theorem dX4_stream_109 : decode cX4_stream 109 = .ok (.iand, 1) := by decide +kernel
theorem dX4_stream_110 : decode cX4_stream 110 = .ok (.iaload, 1) := by decide +kernel
theorem dX4_stream_111 : decode cX4_stream 111 = .ok (.ixor, 1) := by decide +kernel
theorem dX4_stream_112 : decode cX4_stream 112 = .ok (.iastore, 1) := by decide +kernel
theorem dX4_stream_113 : decode cX4_stream 113 = .ok (.iinc 6 1, 3) := by decide +kernel
theorem dX4_stream_116 : decode cX4_stream 116 = .ok (.goto (-93), 3) := by decide +kernel
theorem dX4_stream_119 : decode cX4_stream 119 = .ok (.return_, 1) := by decide +kernel
theorem dX4_mixTable_0 : decode cX4_mixTable 0 = .ok (.iconst 0, 1) := by decide +kernel
theorem dX4_mixTable_1 : decode cX4_mixTable 1 = .ok (.istore_n 3, 1) := by decide +kernel
theorem dX4_mixTable_2 : decode cX4_mixTable 2 = .ok (.iload_n 3, 1) := by decide +kernel
theorem dX4_mixTable_3 : decode cX4_mixTable 3 = .ok (.sipush 256, 3) := by decide +kernel
theorem dX4_mixTable_6 : decode cX4_mixTable 6 = .ok (.if_icmp .ge 16, 3) := by decide +kernel
theorem dX4_mixTable_9 : decode cX4_mixTable 9 = .ok (.aload_n 0, 1) := by decide +kernel
theorem dX4_mixTable_10 : decode cX4_mixTable 10 = .ok (.getfield 7, 3) := by decide +kernel
theorem dX4_mixTable_13 : decode cX4_mixTable 13 = .ok (.iload_n 3, 1) := by decide +kernel
theorem dX4_mixTable_14 : decode cX4_mixTable 14 = .ok (.iload_n 3, 1) := by decide +kernel
theorem dX4_mixTable_15 : decode cX4_mixTable 15 = .ok (.iastore, 1) := by decide +kernel
theorem dX4_mixTable_16 : decode cX4_mixTable 16 = .ok (.iinc 3 1, 3) := by decide +kernel
theorem dX4_mixTable_19 : decode cX4_mixTable 19 = .ok (.goto (-17), 3) := by decide +kernel
theorem dX4_mixTable_22 : decode cX4_mixTable 22 = .ok (.iconst 0, 1) := by decide +kernel
theorem dX4_mixTable_23 : decode cX4_mixTable 23 = .ok (.istore_n 3, 1) := by decide +kernel
theorem dX4_mixTable_24 : decode cX4_mixTable 24 = .ok (.iconst 0, 1) := by decide +kernel
theorem dX4_mixTable_25 : decode cX4_mixTable 25 = .ok (.istore 4, 2) := by decide +kernel
theorem dX4_mixTable_27 : decode cX4_mixTable 27 = .ok (.iconst 0, 1) := by decide +kernel
theorem dX4_mixTable_28 : decode cX4_mixTable 28 = .ok (.istore 5, 2) := by decide +kernel
theorem dX4_mixTable_30 : decode cX4_mixTable 30 = .ok (.iload 5, 2) := by decide +kernel
theorem dX4_mixTable_32 : decode cX4_mixTable 32 = .ok (.sipush 256, 3) := by decide +kernel
theorem dX4_mixTable_35 : decode cX4_mixTable 35 = .ok (.if_icmp .ge 73, 3) := by decide +kernel
theorem dX4_mixTable_38 : decode cX4_mixTable 38 = .ok (.aload_n 0, 1) := by decide +kernel
theorem dX4_mixTable_39 : decode cX4_mixTable 39 = .ok (.getfield 7, 3) := by decide +kernel
theorem dX4_mixTable_42 : decode cX4_mixTable 42 = .ok (.iload 5, 2) := by decide +kernel
theorem dX4_mixTable_44 : decode cX4_mixTable 44 = .ok (.iaload, 1) := by decide +kernel
theorem dX4_mixTable_45 : decode cX4_mixTable 45 = .ok (.istore 6, 2) := by decide +kernel
theorem dX4_mixTable_47 : decode cX4_mixTable 47 = .ok (.iload_n 3, 1) := by decide +kernel
theorem dX4_mixTable_48 : decode cX4_mixTable 48 = .ok (.iload 6, 2) := by decide +kernel
theorem dX4_mixTable_50 : decode cX4_mixTable 50 = .ok (.iadd, 1) := by decide +kernel
theorem dX4_mixTable_51 : decode cX4_mixTable 51 = .ok (.aload_n 1, 1) := by decide +kernel
theorem dX4_mixTable_52 : decode cX4_mixTable 52 = .ok (.getfield 23, 3) := by decide +kernel
theorem dX4_mixTable_55 : decode cX4_mixTable 55 = .ok (.iload 4, 2) := by decide +kernel
theorem dX4_mixTable_57 : decode cX4_mixTable 57 = .ok (.iaload, 1) := by decide +kernel
theorem dX4_mixTable_58 : decode cX4_mixTable 58 = .ok (.iload_n 2, 1) := by decide +kernel
theorem dX4_mixTable_59 : decode cX4_mixTable 59 = .ok (.ixor, 1) := by decide +kernel
theorem dX4_mixTable_60 : decode cX4_mixTable 60 = .ok (.iadd, 1) := by decide +kernel
theorem dX4_mixTable_61 : decode cX4_mixTable 61 = .ok (.sipush 255, 3) := by decide +kernel
theorem dX4_mixTable_64 : decode cX4_mixTable 64 = .ok (.iand, 1) := by decide +kernel
theorem dX4_mixTable_65 : decode cX4_mixTable 65 = .ok (.istore_n 3, 1) := by decide +kernel
theorem dX4_mixTable_66 : decode cX4_mixTable 66 = .ok (.aload_n 0, 1) := by decide +kernel
theorem dX4_mixTable_67 : decode cX4_mixTable 67 = .ok (.getfield 7, 3) := by decide +kernel
theorem dX4_mixTable_70 : decode cX4_mixTable 70 = .ok (.iload 5, 2) := by decide +kernel
theorem dX4_mixTable_72 : decode cX4_mixTable 72 = .ok (.aload_n 0, 1) := by decide +kernel
theorem dX4_mixTable_73 : decode cX4_mixTable 73 = .ok (.getfield 7, 3) := by decide +kernel
theorem dX4_mixTable_76 : decode cX4_mixTable 76 = .ok (.iload_n 3, 1) := by decide +kernel
theorem dX4_mixTable_77 : decode cX4_mixTable 77 = .ok (.iaload, 1) := by decide +kernel
theorem dX4_mixTable_78 : decode cX4_mixTable 78 = .ok (.iastore, 1) := by decide +kernel
theorem dX4_mixTable_79 : decode cX4_mixTable 79 = .ok (.aload_n 0, 1) := by decide +kernel
theorem dX4_mixTable_80 : decode cX4_mixTable 80 = .ok (.getfield 7, 3) := by decide +kernel
theorem dX4_mixTable_83 : decode cX4_mixTable 83 = .ok (.iload_n 3, 1) := by decide +kernel
theorem dX4_mixTable_84 : decode cX4_mixTable 84 = .ok (.iload 6, 2) := by decide +kernel
theorem dX4_mixTable_86 : decode cX4_mixTable 86 = .ok (.iastore, 1) := by decide +kernel
theorem dX4_mixTable_87 : decode cX4_mixTable 87 = .ok (.iinc 4 1, 3) := by decide +kernel
theorem dX4_mixTable_90 : decode cX4_mixTable 90 = .ok (.iload 4, 2) := by decide +kernel
theorem dX4_mixTable_92 : decode cX4_mixTable 92 = .ok (.aload_n 1, 1) := by decide +kernel
theorem dX4_mixTable_93 : decode cX4_mixTable 93 = .ok (.getfield 13, 3) := by decide +kernel
theorem dX4_mixTable_96 : decode cX4_mixTable 96 = .ok (.if_icmp .lt 6, 3) := by decide +kernel
theorem dX4_mixTable_99 : decode cX4_mixTable 99 = .ok (.iconst 0, 1) := by decide +kernel
theorem dX4_mixTable_100 : decode cX4_mixTable 100 = .ok (.istore 4, 2) := by decide +kernel
theorem dX4_mixTable_102 : decode cX4_mixTable 102 = .ok (.iinc 5 1, 3) := by decide +kernel
theorem dX4_mixTable_105 : decode cX4_mixTable 105 = .ok (.goto (-75), 3) := by decide +kernel
theorem dX4_mixTable_108 : decode cX4_mixTable 108 = .ok (.return_, 1) := by decide +kernel
theorem dX5_init_0 : decode cX5_init 0 = .ok (.aload_n 0, 1) := by decide +kernel
theorem dX5_init_1 : decode cX5_init 1 = .ok (.invokespecial 1, 3) := by decide +kernel
theorem dX5_init_4 : decode cX5_init 4 = .ok (.aload_n 0, 1) := by decide +kernel
theorem dX5_init_5 : decode cX5_init 5 = .ok (.new 7, 3) := by decide +kernel
theorem dX5_init_8 : decode cX5_init 8 = .ok (.dup, 1) := by decide +kernel
theorem dX5_init_9 : decode cX5_init 9 = .ok (.sipush 16384, 3) := by decide +kernel
theorem dX5_init_12 : decode cX5_init 12 = .ok (.invokespecial 11, 3) := by decide +kernel
theorem dX5_init_15 : decode cX5_init 15 = .ok (.putfield 14, 3) := by decide +kernel
theorem dX5_init_18 : decode cX5_init 18 = .ok (.aload_n 0, 1) := by decide +kernel
theorem dX5_init_19 : decode cX5_init 19 = .ok (.new 7, 3) := by decide +kernel
theorem dX5_init_22 : decode cX5_init 22 = .ok (.dup, 1) := by decide +kernel
theorem dX5_init_23 : decode cX5_init 23 = .ok (.sipush 16384, 3) := by decide +kernel
theorem dX5_init_26 : decode cX5_init 26 = .ok (.invokespecial 11, 3) := by decide +kernel
theorem dX5_init_29 : decode cX5_init 29 = .ok (.putfield 18, 3) := by decide +kernel
theorem dX5_init_32 : decode cX5_init 32 = .ok (.aload_n 0, 1) := by decide +kernel
theorem dX5_init_33 : decode cX5_init 33 = .ok (.new 21, 3) := by decide +kernel
theorem dX5_init_36 : decode cX5_init 36 = .ok (.dup, 1) := by decide +kernel
theorem dX5_init_37 : decode cX5_init 37 = .ok (.invokespecial 23, 3) := by decide +kernel
theorem dX5_init_40 : decode cX5_init 40 = .ok (.putfield 24, 3) := by decide +kernel
theorem dX5_init_43 : decode cX5_init 43 = .ok (.return_, 1) := by decide +kernel
theorem dX5_feed_0 : decode cX5_feed 0 = .ok (.aload_n 0, 1) := by decide +kernel
theorem dX5_feed_1 : decode cX5_feed 1 = .ok (.getfield 14, 3) := by decide +kernel
theorem dX5_feed_4 : decode cX5_feed 4 = .ok (.getfield 28, 3) := by decide +kernel
theorem dX5_feed_7 : decode cX5_feed 7 = .ok (.sipush 16364, 3) := by decide +kernel
theorem dX5_feed_10 : decode cX5_feed 10 = .ok (.if_icmp .le 5, 3) := by decide +kernel
theorem dX5_feed_13 : decode cX5_feed 13 = .ok (.iconst (-1), 1) := by decide +kernel
theorem dX5_feed_14 : decode cX5_feed 14 = .ok (.ireturn, 1) := by decide +kernel
theorem dX5_feed_15 : decode cX5_feed 15 = .ok (.aload_n 0, 1) := by decide +kernel
theorem dX5_feed_16 : decode cX5_feed 16 = .ok (.getfield 14, 3) := by decide +kernel
theorem dX5_feed_19 : decode cX5_feed 19 = .ok (.iload_n 1, 1) := by decide +kernel
theorem dX5_feed_20 : decode cX5_feed 20 = .ok (.invokevirtual 32, 3) := by decide +kernel
theorem dX5_feed_23 : decode cX5_feed 23 = .ok (.aload_n 0, 1) := by decide +kernel
theorem dX5_feed_24 : decode cX5_feed 24 = .ok (.getfield 14, 3) := by decide +kernel
theorem dX5_feed_27 : decode cX5_feed 27 = .ok (.iload_n 2, 1) := by decide +kernel
theorem dX5_feed_28 : decode cX5_feed 28 = .ok (.invokevirtual 32, 3) := by decide +kernel
theorem dX5_feed_31 : decode cX5_feed 31 = .ok (.aload_n 0, 1) := by decide +kernel
theorem dX5_feed_32 : decode cX5_feed 32 = .ok (.getfield 14, 3) := by decide +kernel
theorem dX5_feed_35 : decode cX5_feed 35 = .ok (.iload_n 3, 1) := by decide +kernel
theorem dX5_feed_36 : decode cX5_feed 36 = .ok (.invokevirtual 32, 3) := by decide +kernel
theorem dX5_feed_39 : decode cX5_feed 39 = .ok (.aload_n 0, 1) := by decide +kernel
theorem dX5_feed_40 : decode cX5_feed 40 = .ok (.getfield 14, 3) := by decide +kernel
theorem dX5_feed_43 : decode cX5_feed 43 = .ok (.iload 4, 2) := by decide +kernel
theorem dX5_feed_45 : decode cX5_feed 45 = .ok (.invokevirtual 32, 3) := by decide +kernel
theorem dX5_feed_48 : decode cX5_feed 48 = .ok (.aload_n 0, 1) := by decide +kernel
theorem dX5_feed_49 : decode cX5_feed 49 = .ok (.getfield 14, 3) := by decide +kernel
theorem dX5_feed_52 : decode cX5_feed 52 = .ok (.iload 5, 2) := by decide +kernel
theorem dX5_feed_54 : decode cX5_feed 54 = .ok (.invokevirtual 32, 3) := by decide +kernel
theorem dX5_feed_57 : decode cX5_feed 57 = .ok (.aload_n 0, 1) := by decide +kernel
theorem dX5_feed_58 : decode cX5_feed 58 = .ok (.getfield 14, 3) := by decide +kernel
theorem dX5_feed_61 : decode cX5_feed 61 = .ok (.getfield 28, 3) := by decide +kernel
theorem dX5_feed_64 : decode cX5_feed 64 = .ok (.ireturn, 1) := by decide +kernel
theorem dX5_put_0 : decode cX5_put 0 = .ok (.iload_n 1, 1) := by decide +kernel
theorem dX5_put_1 : decode cX5_put 1 = .ok (.ifCond .lt 14, 3) := by decide +kernel
theorem dX5_put_4 : decode cX5_put 4 = .ok (.iload_n 1, 1) := by decide +kernel
theorem dX5_put_5 : decode cX5_put 5 = .ok (.aload_n 0, 1) := by decide +kernel
theorem dX5_put_6 : decode cX5_put 6 = .ok (.getfield 14, 3) := by decide +kernel
theorem dX5_put_9 : decode cX5_put 9 = .ok (.getfield 28, 3) := by decide +kernel
theorem dX5_put_12 : decode cX5_put 12 = .ok (.if_icmp .lt 13, 3) := by decide +kernel
theorem dX5_put_15 : decode cX5_put 15 = .ok (.new 35, 3) := by decide +kernel
theorem dX5_put_18 : decode cX5_put 18 = .ok (.dup, 1) := by decide +kernel
theorem dX5_put_19 : decode cX5_put 19 = .ok (.ldc 37, 2) := by decide +kernel
theorem dX5_put_21 : decode cX5_put 21 = .ok (.invokespecial 39, 3) := by decide +kernel
theorem dX5_put_24 : decode cX5_put 24 = .ok (.athrow, 1) := by decide +kernel
theorem dX5_put_25 : decode cX5_put 25 = .ok (.iload_n 2, 1) := by decide +kernel
theorem dX5_put_26 : decode cX5_put 26 = .ok (.ifCond .lt 10, 3) := by decide +kernel
theorem dX5_put_29 : decode cX5_put 29 = .ok (.iload_n 2, 1) := by decide +kernel
theorem dX5_put_30 : decode cX5_put 30 = .ok (.sipush 255, 3) := by decide +kernel
theorem dX5_put_33 : decode cX5_put 33 = .ok (.if_icmp .le 13, 3) := by decide +kernel
theorem dX5_put_36 : decode cX5_put 36 = .ok (.new 42, 3) := by decide +kernel
theorem dX5_put_39 : decode cX5_put 39 = .ok (.dup, 1) := by decide +kernel
theorem dX5_put_40 : decode cX5_put 40 = .ok (.ldc 44, 2) := by decide +kernel
theorem dX5_put_42 : decode cX5_put 42 = .ok (.invokespecial 46, 3) := by decide +kernel
theorem dX5_put_45 : decode cX5_put 45 = .ok (.athrow, 1) := by decide +kernel
theorem dX5_put_46 : decode cX5_put 46 = .ok (.aload_n 0, 1) := by decide +kernel
theorem dX5_put_47 : decode cX5_put 47 = .ok (.getfield 14, 3) := by decide +kernel
theorem dX5_put_50 : decode cX5_put 50 = .ok (.getfield 47, 3) := by decide +kernel
theorem dX5_put_53 : decode cX5_put 53 = .ok (.iload_n 1, 1) := by decide +kernel
theorem dX5_put_54 : decode cX5_put 54 = .ok (.iaload, 1) := by decide +kernel
theorem dX5_put_55 : decode cX5_put 55 = .ok (.istore_n 3, 1) := by decide +kernel
theorem dX5_put_56 : decode cX5_put 56 = .ok (.aload_n 0, 1) := by decide +kernel
theorem dX5_put_57 : decode cX5_put 57 = .ok (.getfield 14, 3) := by decide +kernel
theorem dX5_put_60 : decode cX5_put 60 = .ok (.getfield 47, 3) := by decide +kernel
theorem dX5_put_63 : decode cX5_put 63 = .ok (.iload_n 1, 1) := by decide +kernel
theorem dX5_put_64 : decode cX5_put 64 = .ok (.iload_n 2, 1) := by decide +kernel
theorem dX5_put_65 : decode cX5_put 65 = .ok (.iastore, 1) := by decide +kernel
theorem dX5_put_66 : decode cX5_put 66 = .ok (.iload_n 3, 1) := by decide +kernel
theorem dX5_put_67 : decode cX5_put 67 = .ok (.ireturn, 1) := by decide +kernel
theorem dX5_cut_0 : decode cX5_cut 0 = .ok (.iload_n 1, 1) := by decide +kernel
theorem dX5_cut_1 : decode cX5_cut 1 = .ok (.ifCond .ge 13, 3) := by decide +kernel
theorem dX5_cut_4 : decode cX5_cut 4 = .ok (.new 42, 3) := by decide +kernel
theorem dX5_cut_7 : decode cX5_cut 7 = .ok (.dup, 1) := by decide +kernel
theorem dX5_cut_8 : decode cX5_cut 8 = .ok (.ldc 51, 2) := by decide +kernel
theorem dX5_cut_10 : decode cX5_cut 10 = .ok (.invokespecial 46, 3) := by decide +kernel
theorem dX5_cut_13 : decode cX5_cut 13 = .ok (.athrow, 1) := by decide +kernel
theorem dX5_cut_14 : decode cX5_cut 14 = .ok (.aload_n 0, 1) := by decide +kernel
theorem dX5_cut_15 : decode cX5_cut 15 = .ok (.getfield 14, 3) := by decide +kernel
theorem dX5_cut_18 : decode cX5_cut 18 = .ok (.getfield 28, 3) := by decide +kernel
theorem dX5_cut_21 : decode cX5_cut 21 = .ok (.istore_n 2, 1) := by decide +kernel
theorem dX5_cut_22 : decode cX5_cut 22 = .ok (.aload_n 0, 1) := by decide +kernel
theorem dX5_cut_23 : decode cX5_cut 23 = .ok (.getfield 14, 3) := by decide +kernel
theorem dX5_cut_26 : decode cX5_cut 26 = .ok (.iload_n 1, 1) := by decide +kernel
theorem dX5_cut_27 : decode cX5_cut 27 = .ok (.invokevirtual 53, 3) := by decide +kernel
theorem dX5_cut_30 : decode cX5_cut 30 = .ok (.iload_n 2, 1) := by decide +kernel
theorem dX5_cut_31 : decode cX5_cut 31 = .ok (.aload_n 0, 1) := by decide +kernel
theorem dX5_cut_32 : decode cX5_cut 32 = .ok (.getfield 14, 3) := by decide +kernel
theorem dX5_cut_35 : decode cX5_cut 35 = .ok (.getfield 28, 3) := by decide +kernel
theorem dX5_cut_38 : decode cX5_cut 38 = .ok (.isub, 1) := by decide +kernel
theorem dX5_cut_39 : decode cX5_cut 39 = .ok (.ireturn, 1) := by decide +kernel
theorem dX5_handler_0 : decode cX5_handler 0 = .ok (.iload_n 1, 1) := by decide +kernel
theorem dX5_handler_1 : decode cX5_handler 1 = .ok (.iconst 2, 1) := by decide +kernel
theorem dX5_handler_2 : decode cX5_handler 2 = .ok (.if_icmp .lt 8, 3) := by decide +kernel
theorem dX5_handler_5 : decode cX5_handler 5 = .ok (.iload_n 1, 1) := by decide +kernel
theorem dX5_handler_6 : decode cX5_handler 6 = .ok (.iconst 4, 1) := by decide +kernel
theorem dX5_handler_7 : decode cX5_handler 7 = .ok (.if_icmp .le 13, 3) := by decide +kernel
theorem dX5_handler_10 : decode cX5_handler 10 = .ok (.new 42, 3) := by decide +kernel
theorem dX5_handler_13 : decode cX5_handler 13 = .ok (.dup, 1) := by decide +kernel
theorem dX5_handler_14 : decode cX5_handler 14 = .ok (.ldc 56, 2) := by decide +kernel
theorem dX5_handler_16 : decode cX5_handler 16 = .ok (.invokespecial 46, 3) := by decide +kernel
theorem dX5_handler_19 : decode cX5_handler 19 = .ok (.athrow, 1) := by decide +kernel
theorem dX5_handler_20 : decode cX5_handler 20 = .ok (.iload_n 2, 1) := by decide +kernel
theorem dX5_handler_21 : decode cX5_handler 21 = .ok (.iconst 5, 1) := by decide +kernel
theorem dX5_handler_22 : decode cX5_handler 22 = .ok (.if_icmp .lt 18, 3) := by decide +kernel
theorem dX5_handler_25 : decode cX5_handler 25 = .ok (.iload_n 2, 1) := by decide +kernel
theorem dX5_handler_26 : decode cX5_handler 26 = .ok (.iload_n 1, 1) := by decide +kernel
theorem dX5_handler_27 : decode cX5_handler 27 = .ok (.iconst 2, 1) := by decide +kernel
theorem dX5_handler_28 : decode cX5_handler 28 = .ok (.if_icmp .ne 7, 3) := by decide +kernel
theorem dX5_handler_31 : decode cX5_handler 31 = .ok (.iconst 5, 1) := by decide +kernel
theorem dX5_handler_32 : decode cX5_handler 32 = .ok (.goto 5, 3) := by decide +kernel
theorem dX5_handler_35 : decode cX5_handler 35 = .ok (.bipush 16, 2) := by decide +kernel
theorem dX5_handler_37 : decode cX5_handler 37 = .ok (.if_icmp .le 13, 3) := by decide +kernel
theorem dX5_handler_40 : decode cX5_handler 40 = .ok (.new 42, 3) := by decide +kernel
theorem dX5_handler_43 : decode cX5_handler 43 = .ok (.dup, 1) := by decide +kernel
theorem dX5_handler_44 : decode cX5_handler 44 = .ok (.ldc 58, 2) := by decide +kernel
theorem dX5_handler_46 : decode cX5_handler 46 = .ok (.invokespecial 46, 3) := by decide +kernel
theorem dX5_handler_49 : decode cX5_handler 49 = .ok (.athrow, 1) := by decide +kernel
theorem dX5_handler_50 : decode cX5_handler 50 = .ok (.aload_n 0, 1) := by decide +kernel
theorem dX5_handler_51 : decode cX5_handler 51 = .ok (.getfield 24, 3) := by decide +kernel
theorem dX5_handler_54 : decode cX5_handler 54 = .ok (.iload_n 1, 1) := by decide +kernel
theorem dX5_handler_55 : decode cX5_handler 55 = .ok (.putfield 60, 3) := by decide +kernel
theorem dX5_handler_58 : decode cX5_handler 58 = .ok (.aload_n 0, 1) := by decide +kernel
theorem dX5_handler_59 : decode cX5_handler 59 = .ok (.getfield 24, 3) := by decide +kernel
theorem dX5_handler_62 : decode cX5_handler 62 = .ok (.iload_n 2, 1) := by decide +kernel
theorem dX5_handler_63 : decode cX5_handler 63 = .ok (.putfield 63, 3) := by decide +kernel
theorem dX5_handler_66 : decode cX5_handler 66 = .ok (.aload_n 0, 1) := by decide +kernel
theorem dX5_handler_67 : decode cX5_handler 67 = .ok (.getfield 24, 3) := by decide +kernel
theorem dX5_handler_70 : decode cX5_handler 70 = .ok (.iload_n 3, 1) := by decide +kernel
theorem dX5_handler_71 : decode cX5_handler 71 = .ok (.putfield 66, 3) := by decide +kernel
theorem dX5_handler_74 : decode cX5_handler 74 = .ok (.aload_n 0, 1) := by decide +kernel
theorem dX5_handler_75 : decode cX5_handler 75 = .ok (.getfield 24, 3) := by decide +kernel
theorem dX5_handler_78 : decode cX5_handler 78 = .ok (.iload 4, 2) := by decide +kernel
theorem dX5_handler_80 : decode cX5_handler 80 = .ok (.putfield 69, 3) := by decide +kernel
theorem dX5_handler_83 : decode cX5_handler 83 = .ok (.aload_n 0, 1) := by decide +kernel
theorem dX5_handler_84 : decode cX5_handler 84 = .ok (.getfield 24, 3) := by decide +kernel
theorem dX5_handler_87 : decode cX5_handler 87 = .ok (.getfield 73, 3) := by decide +kernel
theorem dX5_handler_90 : decode cX5_handler 90 = .ok (.invokevirtual 76, 3) := by decide +kernel
theorem dX5_handler_93 : decode cX5_handler 93 = .ok (.return_, 1) := by decide +kernel
theorem dX5_take_0 : decode cX5_take 0 = .ok (.aload_n 0, 1) := by decide +kernel
theorem dX5_take_1 : decode cX5_take 1 = .ok (.getfield 24, 3) := by decide +kernel
theorem dX5_take_4 : decode cX5_take 4 = .ok (.iload_n 1, 1) := by decide +kernel
theorem dX5_take_5 : decode cX5_take 5 = .ok (.invokevirtual 79, 3) := by decide +kernel
theorem dX5_take_8 : decode cX5_take 8 = .ok (.astore_n 2, 1) := by decide +kernel
theorem dX5_take_9 : decode cX5_take 9 = .ok (.aload_n 2, 1) := by decide +kernel
theorem dX5_take_10 : decode cX5_take 10 = .ok (.ifnonnull 13, 3) := by decide +kernel
theorem dX5_take_13 : decode cX5_take 13 = .ok (.new 42, 3) := by decide +kernel
theorem dX5_take_16 : decode cX5_take 16 = .ok (.dup, 1) := by decide +kernel
theorem dX5_take_17 : decode cX5_take 17 = .ok (.ldc 83, 2) := by decide +kernel
theorem dX5_take_19 : decode cX5_take 19 = .ok (.invokespecial 46, 3) := by decide +kernel
theorem dX5_take_22 : decode cX5_take 22 = .ok (.athrow, 1) := by decide +kernel
theorem dX5_take_23 : decode cX5_take 23 = .ok (.iload_n 1, 1) := by decide +kernel
theorem dX5_take_24 : decode cX5_take 24 = .ok (.iconst 1, 1) := by decide +kernel
theorem dX5_take_25 : decode cX5_take 25 = .ok (.if_icmp .gt 7, 3) := by decide +kernel
theorem dX5_take_28 : decode cX5_take 28 = .ok (.iconst 1, 1) := by decide +kernel
theorem dX5_take_29 : decode cX5_take 29 = .ok (.goto 4, 3) := by decide +kernel
theorem dX5_take_32 : decode cX5_take 32 = .ok (.iconst 0, 1) := by decide +kernel
theorem dX5_take_33 : decode cX5_take 33 = .ok (.istore_n 3, 1) := by decide +kernel
theorem dX5_take_34 : decode cX5_take 34 = .ok (.iload_n 3, 1) := by decide +kernel
theorem dX5_take_35 : decode cX5_take 35 = .ok (.ifCond .eq 18, 3) := by decide +kernel
theorem dX5_take_38 : decode cX5_take 38 = .ok (.aload_n 0, 1) := by decide +kernel
theorem dX5_take_39 : decode cX5_take 39 = .ok (.getfield 14, 3) := by decide +kernel
theorem dX5_take_42 : decode cX5_take 42 = .ok (.getfield 28, 3) := by decide +kernel
theorem dX5_take_45 : decode cX5_take 45 = .ok (.bipush 32, 2) := by decide +kernel
theorem dX5_take_47 : decode cX5_take 47 = .ok (.if_icmp .eq 28, 3) := by decide +kernel
theorem dX5_take_50 : decode cX5_take 50 = .ok (.goto 15, 3) := by decide +kernel
theorem dX5_take_53 : decode cX5_take 53 = .ok (.aload_n 0, 1) := by decide +kernel
theorem dX5_take_54 : decode cX5_take 54 = .ok (.getfield 14, 3) := by decide +kernel
theorem dX5_take_57 : decode cX5_take 57 = .ok (.getfield 28, 3) := by decide +kernel
theorem dX5_take_60 : decode cX5_take 60 = .ok (.bipush 64, 2) := by decide +kernel
theorem dX5_take_62 : decode cX5_take 62 = .ok (.if_icmp .le 13, 3) := by decide +kernel
theorem dX5_take_65 : decode cX5_take 65 = .ok (.new 85, 3) := by decide +kernel
theorem dX5_take_68 : decode cX5_take 68 = .ok (.dup, 1) := by decide +kernel
theorem dX5_take_69 : decode cX5_take 69 = .ok (.ldc 87, 2) := by decide +kernel
theorem dX5_take_71 : decode cX5_take 71 = .ok (.invokespecial 89, 3) := by decide +kernel
theorem dX5_take_74 : decode cX5_take 74 = .ok (.athrow, 1) := by decide +kernel
theorem dX5_take_75 : decode cX5_take 75 = .ok (.aload_n 2, 1) := by decide +kernel
theorem dX5_take_76 : decode cX5_take 76 = .ok (.aload_n 0, 1) := by decide +kernel
theorem dX5_take_77 : decode cX5_take 77 = .ok (.getfield 14, 3) := by decide +kernel
theorem dX5_take_80 : decode cX5_take 80 = .ok (.invokevirtual 90, 3) := by decide +kernel
theorem dX5_take_83 : decode cX5_take 83 = .ok (.iload_n 1, 1) := by decide +kernel
theorem dX5_take_84 : decode cX5_take 84 = .ok (.iconst 2, 1) := by decide +kernel
theorem dX5_take_85 : decode cX5_take 85 = .ok (.if_icmp .gt 13, 3) := by decide +kernel
theorem dX5_take_88 : decode cX5_take 88 = .ok (.aload_n 0, 1) := by decide +kernel
theorem dX5_take_89 : decode cX5_take 89 = .ok (.getfield 24, 3) := by decide +kernel
theorem dX5_take_92 : decode cX5_take 92 = .ok (.getfield 73, 3) := by decide +kernel
theorem dX5_take_95 : decode cX5_take 95 = .ok (.invokevirtual 76, 3) := by decide +kernel
theorem dX5_take_98 : decode cX5_take 98 = .ok (.aload_n 0, 1) := by decide +kernel
theorem dX5_take_99 : decode cX5_take 99 = .ok (.getfield 14, 3) := by decide +kernel
theorem dX5_take_102 : decode cX5_take 102 = .ok (.getfield 28, 3) := by decide +kernel
theorem dX5_take_105 : decode cX5_take 105 = .ok (.ireturn, 1) := by decide +kernel
theorem dX5_enter_0 : decode cX5_enter 0 = .ok (.iload_n 1, 1) := by decide +kernel
theorem dX5_enter_1 : decode cX5_enter 1 = .ok (.ifCond .eq 18, 3) := by decide +kernel
theorem dX5_enter_4 : decode cX5_enter 4 = .ok (.iload_n 1, 1) := by decide +kernel
theorem dX5_enter_5 : decode cX5_enter 5 = .ok (.iconst 1, 1) := by decide +kernel
theorem dX5_enter_6 : decode cX5_enter 6 = .ok (.if_icmp .eq 13, 3) := by decide +kernel
theorem dX5_enter_9 : decode cX5_enter 9 = .ok (.new 42, 3) := by decide +kernel
theorem dX5_enter_12 : decode cX5_enter 12 = .ok (.dup, 1) := by decide +kernel
theorem dX5_enter_13 : decode cX5_enter 13 = .ok (.ldc 94, 2) := by decide +kernel
theorem dX5_enter_15 : decode cX5_enter 15 = .ok (.invokespecial 46, 3) := by decide +kernel
theorem dX5_enter_18 : decode cX5_enter 18 = .ok (.athrow, 1) := by decide +kernel
theorem dX5_enter_19 : decode cX5_enter 19 = .ok (.iload_n 1, 1) := by decide +kernel
theorem dX5_enter_20 : decode cX5_enter 20 = .ok (.ifCond .ne 13, 3) := by decide +kernel
theorem dX5_enter_23 : decode cX5_enter 23 = .ok (.aload_n 0, 1) := by decide +kernel
theorem dX5_enter_24 : decode cX5_enter 24 = .ok (.getfield 24, 3) := by decide +kernel
theorem dX5_enter_27 : decode cX5_enter 27 = .ok (.invokevirtual 96, 3) := by decide +kernel
theorem dX5_enter_30 : decode cX5_enter 30 = .ok (.goto 10, 3) := by decide +kernel
theorem dX5_enter_33 : decode cX5_enter 33 = .ok (.aload_n 0, 1) := by decide +kernel
theorem dX5_enter_34 : decode cX5_enter 34 = .ok (.getfield 24, 3) := by decide +kernel
theorem dX5_enter_37 : decode cX5_enter 37 = .ok (.invokevirtual 99, 3) := by decide +kernel
theorem dX5_enter_40 : decode cX5_enter 40 = .ok (.aload_n 0, 1) := by decide +kernel
theorem dX5_enter_41 : decode cX5_enter 41 = .ok (.getfield 24, 3) := by decide +kernel
theorem dX5_enter_44 : decode cX5_enter 44 = .ok (.getfield 73, 3) := by decide +kernel
theorem dX5_enter_47 : decode cX5_enter 47 = .ok (.invokevirtual 76, 3) := by decide +kernel
theorem dX5_enter_50 : decode cX5_enter 50 = .ok (.return_, 1) := by decide +kernel
theorem dX5_open_0 : decode cX5_open 0 = .ok (.aload_n 0, 1) := by decide +kernel
theorem dX5_open_1 : decode cX5_open 1 = .ok (.getfield 24, 3) := by decide +kernel
theorem dX5_open_4 : decode cX5_open 4 = .ok (.aload_n 0, 1) := by decide +kernel
theorem dX5_open_5 : decode cX5_open 5 = .ok (.getfield 14, 3) := by decide +kernel
theorem dX5_open_8 : decode cX5_open 8 = .ok (.invokevirtual 102, 3) := by decide +kernel
theorem dX5_open_11 : decode cX5_open 11 = .ok (.ireturn, 1) := by decide +kernel
theorem dX5_key_0 : decode cX5_key 0 = .ok (.aload_n 0, 1) := by decide +kernel
theorem dX5_key_1 : decode cX5_key 1 = .ok (.getfield 24, 3) := by decide +kernel
theorem dX5_key_4 : decode cX5_key 4 = .ok (.getfield 73, 3) := by decide +kernel
theorem dX5_key_7 : decode cX5_key 7 = .ok (.iload_n 1, 1) := by decide +kernel
theorem dX5_key_8 : decode cX5_key 8 = .ok (.invokevirtual 106, 3) := by decide +kernel
theorem dX5_key_11 : decode cX5_key 11 = .ok (.ireturn, 1) := by decide +kernel
theorem dX5_digest_0 : decode cX5_digest 0 = .ok (.aload_n 0, 1) := by decide +kernel
theorem dX5_digest_1 : decode cX5_digest 1 = .ok (.getfield 24, 3) := by decide +kernel
theorem dX5_digest_4 : decode cX5_digest 4 = .ok (.getfield 110, 3) := by decide +kernel
theorem dX5_digest_7 : decode cX5_digest 7 = .ok (.aload_n 0, 1) := by decide +kernel
theorem dX5_digest_8 : decode cX5_digest 8 = .ok (.getfield 14, 3) := by decide +kernel
theorem dX5_digest_11 : decode cX5_digest 11 = .ok (.aload_n 0, 1) := by decide +kernel
theorem dX5_digest_12 : decode cX5_digest 12 = .ok (.getfield 18, 3) := by decide +kernel
theorem dX5_digest_15 : decode cX5_digest 15 = .ok (.invokevirtual 114, 3) := by decide +kernel
theorem dX5_digest_18 : decode cX5_digest 18 = .ok (.return_, 1) := by decide +kernel
theorem dX5_undo_0 : decode cX5_undo 0 = .ok (.iload_n 1, 1) := by decide +kernel
theorem dX5_undo_1 : decode cX5_undo 1 = .ok (.iload_n 2, 1) := by decide +kernel
theorem dX5_undo_2 : decode cX5_undo 2 = .ok (.iload_n 3, 1) := by decide +kernel
theorem dX5_undo_3 : decode cX5_undo 3 = .ok (.invokestatic 120, 3) := by decide +kernel
theorem dX5_undo_6 : decode cX5_undo 6 = .ok (.ifCond .ne 13, 3) := by decide +kernel
theorem dX5_undo_9 : decode cX5_undo 9 = .ok (.new 42, 3) := by decide +kernel
theorem dX5_undo_12 : decode cX5_undo 12 = .ok (.dup, 1) := by decide +kernel
theorem dX5_undo_13 : decode cX5_undo 13 = .ok (.ldc 124, 2) := by decide +kernel
theorem dX5_undo_15 : decode cX5_undo 15 = .ok (.invokespecial 46, 3) := by decide +kernel
theorem dX5_undo_18 : decode cX5_undo 18 = .ok (.athrow, 1) := by decide +kernel
theorem dX5_undo_19 : decode cX5_undo 19 = .ok (.aload_n 0, 1) := by decide +kernel
theorem dX5_undo_20 : decode cX5_undo 20 = .ok (.getfield 24, 3) := by decide +kernel
theorem dX5_undo_23 : decode cX5_undo 23 = .ok (.getfield 73, 3) := by decide +kernel
theorem dX5_undo_26 : decode cX5_undo 26 = .ok (.getfield 28, 3) := by decide +kernel
theorem dX5_undo_29 : decode cX5_undo 29 = .ok (.ifCond .ne 13, 3) := by decide +kernel
theorem dX5_undo_32 : decode cX5_undo 32 = .ok (.new 85, 3) := by decide +kernel
theorem dX5_undo_35 : decode cX5_undo 35 = .ok (.dup, 1) := by decide +kernel
theorem dX5_undo_36 : decode cX5_undo 36 = .ok (.ldc 126, 2) := by decide +kernel
theorem dX5_undo_38 : decode cX5_undo 38 = .ok (.invokespecial 89, 3) := by decide +kernel
theorem dX5_undo_41 : decode cX5_undo 41 = .ok (.athrow, 1) := by decide +kernel
theorem dX5_undo_42 : decode cX5_undo 42 = .ok (.iload_n 3, 1) := by decide +kernel
theorem dX5_undo_43 : decode cX5_undo 43 = .ok (.iconst 2, 1) := by decide +kernel
theorem dX5_undo_44 : decode cX5_undo 44 = .ok (.if_icmp .ne 10, 3) := by decide +kernel
theorem dX5_undo_47 : decode cX5_undo 47 = .ok (.aload_n 0, 1) := by decide +kernel
theorem dX5_undo_48 : decode cX5_undo 48 = .ok (.iload_n 1, 1) := by decide +kernel
theorem dX5_undo_49 : decode cX5_undo 49 = .ok (.iload_n 2, 1) := by decide +kernel
theorem dX5_undo_50 : decode cX5_undo 50 = .ok (.invokevirtual 128, 3) := by decide +kernel
theorem dX5_undo_53 : decode cX5_undo 53 = .ok (.ireturn, 1) := by decide +kernel
theorem dX5_undo_54 : decode cX5_undo 54 = .ok (.aload_n 0, 1) := by decide +kernel
theorem dX5_undo_55 : decode cX5_undo 55 = .ok (.iload_n 1, 1) := by decide +kernel
theorem dX5_undo_56 : decode cX5_undo 56 = .ok (.iload_n 2, 1) := by decide +kernel
theorem dX5_undo_57 : decode cX5_undo 57 = .ok (.iload_n 3, 1) := by decide +kernel
theorem dX5_undo_58 : decode cX5_undo 58 = .ok (.invokevirtual 132, 3) := by decide +kernel
theorem dX5_undo_61 : decode cX5_undo 61 = .ok (.ireturn, 1) := by decide +kernel
theorem dX5_seal_0 : decode cX5_seal 0 = .ok (.iload_n 1, 1) := by decide +kernel
theorem dX5_seal_1 : decode cX5_seal 1 = .ok (.iload_n 2, 1) := by decide +kernel
theorem dX5_seal_2 : decode cX5_seal 2 = .ok (.iload_n 3, 1) := by decide +kernel
theorem dX5_seal_3 : decode cX5_seal 3 = .ok (.invokestatic 120, 3) := by decide +kernel
theorem dX5_seal_6 : decode cX5_seal 6 = .ok (.ifCond .ne 13, 3) := by decide +kernel
theorem dX5_seal_9 : decode cX5_seal 9 = .ok (.new 42, 3) := by decide +kernel
theorem dX5_seal_12 : decode cX5_seal 12 = .ok (.dup, 1) := by decide +kernel
theorem dX5_seal_13 : decode cX5_seal 13 = .ok (.ldc 124, 2) := by decide +kernel
theorem dX5_seal_15 : decode cX5_seal 15 = .ok (.invokespecial 46, 3) := by decide +kernel
theorem dX5_seal_18 : decode cX5_seal 18 = .ok (.athrow, 1) := by decide +kernel
theorem dX5_seal_19 : decode cX5_seal 19 = .ok (.aload_n 0, 1) := by decide +kernel
theorem dX5_seal_20 : decode cX5_seal 20 = .ok (.getfield 24, 3) := by decide +kernel
theorem dX5_seal_23 : decode cX5_seal 23 = .ok (.getfield 73, 3) := by decide +kernel
theorem dX5_seal_26 : decode cX5_seal 26 = .ok (.getfield 28, 3) := by decide +kernel
theorem dX5_seal_29 : decode cX5_seal 29 = .ok (.ifCond .ne 13, 3) := by decide +kernel
theorem dX5_seal_32 : decode cX5_seal 32 = .ok (.new 85, 3) := by decide +kernel
theorem dX5_seal_35 : decode cX5_seal 35 = .ok (.dup, 1) := by decide +kernel
theorem dX5_seal_36 : decode cX5_seal 36 = .ok (.ldc 126, 2) := by decide +kernel
theorem dX5_seal_38 : decode cX5_seal 38 = .ok (.invokespecial 89, 3) := by decide +kernel
theorem dX5_seal_41 : decode cX5_seal 41 = .ok (.athrow, 1) := by decide +kernel
theorem dX5_seal_42 : decode cX5_seal 42 = .ok (.iload_n 3, 1) := by decide +kernel
theorem dX5_seal_43 : decode cX5_seal 43 = .ok (.iconst 2, 1) := by decide +kernel
theorem dX5_seal_44 : decode cX5_seal 44 = .ok (.if_icmp .eq 11, 3) := by decide +kernel
theorem dX5_seal_47 : decode cX5_seal 47 = .ok (.aload_n 0, 1) := by decide +kernel
theorem dX5_seal_48 : decode cX5_seal 48 = .ok (.iload_n 1, 1) := by decide +kernel
theorem dX5_seal_49 : decode cX5_seal 49 = .ok (.iload_n 2, 1) := by decide +kernel
theorem dX5_seal_50 : decode cX5_seal 50 = .ok (.iload_n 3, 1) := by decide +kernel
theorem dX5_seal_51 : decode cX5_seal 51 = .ok (.invokevirtual 132, 3) := by decide +kernel
theorem dX5_seal_54 : decode cX5_seal 54 = .ok (.ireturn, 1) := by decide +kernel
theorem dX5_seal_55 : decode cX5_seal 55 = .ok (.bipush 16, 2) := by decide +kernel
theorem dX5_seal_57 : decode cX5_seal 57 = .ok (.aload_n 0, 1) := by decide +kernel
theorem dX5_seal_58 : decode cX5_seal 58 = .ok (.getfield 14, 3) := by decide +kernel
theorem dX5_seal_61 : decode cX5_seal 61 = .ok (.getfield 28, 3) := by decide +kernel
theorem dX5_seal_64 : decode cX5_seal 64 = .ok (.iadd, 1) := by decide +kernel
theorem dX5_seal_65 : decode cX5_seal 65 = .ok (.aload_n 0, 1) := by decide +kernel
theorem dX5_seal_66 : decode cX5_seal 66 = .ok (.invokevirtual 136, 3) := by decide +kernel
theorem dX5_seal_69 : decode cX5_seal 69 = .ok (.iadd, 1) := by decide +kernel
theorem dX5_seal_70 : decode cX5_seal 70 = .ok (.sipush 16384, 3) := by decide +kernel
theorem dX5_seal_73 : decode cX5_seal 73 = .ok (.if_icmp .le 13, 3) := by decide +kernel
theorem dX5_seal_76 : decode cX5_seal 76 = .ok (.new 85, 3) := by decide +kernel
theorem dX5_seal_79 : decode cX5_seal 79 = .ok (.dup, 1) := by decide +kernel
theorem dX5_seal_80 : decode cX5_seal 80 = .ok (.ldc 140, 2) := by decide +kernel
theorem dX5_seal_82 : decode cX5_seal 82 = .ok (.invokespecial 89, 3) := by decide +kernel
theorem dX5_seal_85 : decode cX5_seal 85 = .ok (.athrow, 1) := by decide +kernel
theorem dX5_seal_86 : decode cX5_seal 86 = .ok (.aload_n 0, 1) := by decide +kernel
theorem dX5_seal_87 : decode cX5_seal 87 = .ok (.iload_n 1, 1) := by decide +kernel
theorem dX5_seal_88 : decode cX5_seal 88 = .ok (.iload_n 2, 1) := by decide +kernel
theorem dX5_seal_89 : decode cX5_seal 89 = .ok (.iload 4, 2) := by decide +kernel
theorem dX5_seal_91 : decode cX5_seal 91 = .ok (.iload 5, 2) := by decide +kernel
theorem dX5_seal_93 : decode cX5_seal 93 = .ok (.invokevirtual 142, 3) := by decide +kernel
theorem dX5_seal_96 : decode cX5_seal 96 = .ok (.ireturn, 1) := by decide +kernel
theorem dX5_count_0 : decode cX5_count 0 = .ok (.iload_n 1, 1) := by decide +kernel
theorem dX5_count_1 : decode cX5_count 1 = .ok (.ifCond .ne 11, 3) := by decide +kernel
theorem dX5_count_4 : decode cX5_count 4 = .ok (.aload_n 0, 1) := by decide +kernel
theorem dX5_count_5 : decode cX5_count 5 = .ok (.getfield 18, 3) := by decide +kernel
theorem dX5_count_8 : decode cX5_count 8 = .ok (.getfield 28, 3) := by decide +kernel
theorem dX5_count_11 : decode cX5_count 11 = .ok (.ireturn, 1) := by decide +kernel
theorem dX5_count_12 : decode cX5_count 12 = .ok (.iload_n 1, 1) := by decide +kernel
theorem dX5_count_13 : decode cX5_count 13 = .ok (.iconst 1, 1) := by decide +kernel
theorem dX5_count_14 : decode cX5_count 14 = .ok (.if_icmp .ne 13, 3) := by decide +kernel
theorem dX5_count_17 : decode cX5_count 17 = .ok (.aload_n 0, 1) := by decide +kernel
theorem dX5_count_18 : decode cX5_count 18 = .ok (.getfield 14, 3) := by decide +kernel
theorem dX5_count_21 : decode cX5_count 21 = .ok (.getfield 28, 3) := by decide +kernel
theorem dX5_count_24 : decode cX5_count 24 = .ok (.goto 4, 3) := by decide +kernel
theorem dX5_count_27 : decode cX5_count 27 = .ok (.iconst (-1), 1) := by decide +kernel
theorem dX5_count_28 : decode cX5_count 28 = .ok (.ireturn, 1) := by decide +kernel
theorem dX5_at_0 : decode cX5_at 0 = .ok (.aload_n 0, 1) := by decide +kernel
theorem dX5_at_1 : decode cX5_at 1 = .ok (.getfield 18, 3) := by decide +kernel
theorem dX5_at_4 : decode cX5_at 4 = .ok (.iload_n 1, 1) := by decide +kernel
theorem dX5_at_5 : decode cX5_at 5 = .ok (.invokevirtual 106, 3) := by decide +kernel
theorem dX5_at_8 : decode cX5_at 8 = .ok (.ireturn, 1) := by decide +kernel
theorem dX5_entry_0 : decode cX5_entry 0 = .ok (.iload_n 1, 1) := by decide +kernel
theorem dX5_entry_1 : decode cX5_entry 1 = .ok (.ifCond .ne 15, 3) := by decide +kernel
theorem dX5_entry_4 : decode cX5_entry 4 = .ok (.aload_n 0, 1) := by decide +kernel
theorem dX5_entry_5 : decode cX5_entry 5 = .ok (.getfield 24, 3) := by decide +kernel
theorem dX5_entry_8 : decode cX5_entry 8 = .ok (.getfield 146, 3) := by decide +kernel
theorem dX5_entry_11 : decode cX5_entry 11 = .ok (.iload_n 2, 1) := by decide +kernel
theorem dX5_entry_12 : decode cX5_entry 12 = .ok (.invokevirtual 106, 3) := by decide +kernel
theorem dX5_entry_15 : decode cX5_entry 15 = .ok (.ireturn, 1) := by decide +kernel
theorem dX5_entry_16 : decode cX5_entry 16 = .ok (.iload_n 1, 1) := by decide +kernel
theorem dX5_entry_17 : decode cX5_entry 17 = .ok (.iconst 1, 1) := by decide +kernel
theorem dX5_entry_18 : decode cX5_entry 18 = .ok (.if_icmp .ne 17, 3) := by decide +kernel
theorem dX5_entry_21 : decode cX5_entry 21 = .ok (.aload_n 0, 1) := by decide +kernel
theorem dX5_entry_22 : decode cX5_entry 22 = .ok (.getfield 24, 3) := by decide +kernel
theorem dX5_entry_25 : decode cX5_entry 25 = .ok (.getfield 149, 3) := by decide +kernel
theorem dX5_entry_28 : decode cX5_entry 28 = .ok (.iload_n 2, 1) := by decide +kernel
theorem dX5_entry_29 : decode cX5_entry 29 = .ok (.invokevirtual 106, 3) := by decide +kernel
theorem dX5_entry_32 : decode cX5_entry 32 = .ok (.goto 4, 3) := by decide +kernel
theorem dX5_entry_35 : decode cX5_entry 35 = .ok (.iconst (-1), 1) := by decide +kernel
theorem dX5_entry_36 : decode cX5_entry 36 = .ok (.ireturn, 1) := by decide +kernel
theorem dX5_keep_0 : decode cX5_keep 0 = .ok (.aload_n 0, 1) := by decide +kernel
theorem dX5_keep_1 : decode cX5_keep 1 = .ok (.getfield 14, 3) := by decide +kernel
theorem dX5_keep_4 : decode cX5_keep 4 = .ok (.aload_n 0, 1) := by decide +kernel
theorem dX5_keep_5 : decode cX5_keep 5 = .ok (.getfield 18, 3) := by decide +kernel
theorem dX5_keep_8 : decode cX5_keep 8 = .ok (.invokevirtual 90, 3) := by decide +kernel
theorem dX5_keep_11 : decode cX5_keep 11 = .ok (.aload_n 0, 1) := by decide +kernel
theorem dX5_keep_12 : decode cX5_keep 12 = .ok (.getfield 14, 3) := by decide +kernel
theorem dX5_keep_15 : decode cX5_keep 15 = .ok (.getfield 28, 3) := by decide +kernel
theorem dX5_keep_18 : decode cX5_keep 18 = .ok (.ireturn, 1) := by decide +kernel
theorem dX5_isObject_0 : decode cX5_isObject 0 = .ok (.iload_n 0, 1) := by decide +kernel
theorem dX5_isObject_1 : decode cX5_isObject 1 = .ok (.ifCond .lt 32, 3) := by decide +kernel
theorem dX5_isObject_4 : decode cX5_isObject 4 = .ok (.iload_n 0, 1) := by decide +kernel
theorem dX5_isObject_5 : decode cX5_isObject 5 = .ok (.ldc 152, 2) := by decide +kernel
theorem dX5_isObject_7 : decode cX5_isObject 7 = .ok (.if_icmp .gt 26, 3) := by decide +kernel
theorem dX5_isObject_10 : decode cX5_isObject 10 = .ok (.iload_n 1, 1) := by decide +kernel
theorem dX5_isObject_11 : decode cX5_isObject 11 = .ok (.ifCond .lt 22, 3) := by decide +kernel
theorem dX5_isObject_14 : decode cX5_isObject 14 = .ok (.iload_n 1, 1) := by decide +kernel
theorem dX5_isObject_15 : decode cX5_isObject 15 = .ok (.ldc 153, 2) := by decide +kernel
theorem dX5_isObject_17 : decode cX5_isObject 17 = .ok (.if_icmp .gt 16, 3) := by decide +kernel
theorem dX5_isObject_20 : decode cX5_isObject 20 = .ok (.iload_n 2, 1) := by decide +kernel
theorem dX5_isObject_21 : decode cX5_isObject 21 = .ok (.ifCond .lt 12, 3) := by decide +kernel
theorem dX5_isObject_24 : decode cX5_isObject 24 = .ok (.iload_n 2, 1) := by decide +kernel
theorem dX5_isObject_25 : decode cX5_isObject 25 = .ok (.iconst 2, 1) := by decide +kernel
theorem dX5_isObject_26 : decode cX5_isObject 26 = .ok (.if_icmp .gt 7, 3) := by decide +kernel
theorem dX5_isObject_29 : decode cX5_isObject 29 = .ok (.iconst 1, 1) := by decide +kernel
theorem dX5_isObject_30 : decode cX5_isObject 30 = .ok (.goto 4, 3) := by decide +kernel
theorem dX5_isObject_33 : decode cX5_isObject 33 = .ok (.iconst 0, 1) := by decide +kernel
theorem dX5_isObject_34 : decode cX5_isObject 34 = .ok (.ireturn, 1) := by decide +kernel
theorem dX5_streamOrCopy_0 : decode cX5_streamOrCopy 0 = .ok (.aload_n 0, 1) := by decide +kernel
theorem dX5_streamOrCopy_1 : decode cX5_streamOrCopy 1 = .ok (.getfield 18, 3) := by decide +kernel
theorem dX5_streamOrCopy_4 : decode cX5_streamOrCopy 4 = .ok (.aload_n 0, 1) := by decide +kernel
theorem dX5_streamOrCopy_5 : decode cX5_streamOrCopy 5 = .ok (.getfield 14, 3) := by decide +kernel
theorem dX5_streamOrCopy_8 : decode cX5_streamOrCopy 8 = .ok (.invokevirtual 90, 3) := by decide +kernel
theorem dX5_streamOrCopy_11 : decode cX5_streamOrCopy 11 = .ok (.iload_n 3, 1) := by decide +kernel
theorem dX5_streamOrCopy_12 : decode cX5_streamOrCopy 12 = .ok (.iconst 1, 1) := by decide +kernel
theorem dX5_streamOrCopy_13 : decode cX5_streamOrCopy 13 = .ok (.if_icmp .ne 28, 3) := by decide +kernel
theorem dX5_streamOrCopy_16 : decode cX5_streamOrCopy 16 = .ok (.aload_n 0, 1) := by decide +kernel
theorem dX5_streamOrCopy_17 : decode cX5_streamOrCopy 17 = .ok (.getfield 24, 3) := by decide +kernel
theorem dX5_streamOrCopy_20 : decode cX5_streamOrCopy 20 = .ok (.getfield 154, 3) := by decide +kernel
theorem dX5_streamOrCopy_23 : decode cX5_streamOrCopy 23 = .ok (.aload_n 0, 1) := by decide +kernel
theorem dX5_streamOrCopy_24 : decode cX5_streamOrCopy 24 = .ok (.getfield 18, 3) := by decide +kernel
theorem dX5_streamOrCopy_27 : decode cX5_streamOrCopy 27 = .ok (.aload_n 0, 1) := by decide +kernel
theorem dX5_streamOrCopy_28 : decode cX5_streamOrCopy 28 = .ok (.getfield 24, 3) := by decide +kernel
theorem dX5_streamOrCopy_31 : decode cX5_streamOrCopy 31 = .ok (.iload_n 1, 1) := by decide +kernel
theorem dX5_streamOrCopy_32 : decode cX5_streamOrCopy 32 = .ok (.iload_n 2, 1) := by decide +kernel
theorem dX5_streamOrCopy_33 : decode cX5_streamOrCopy 33 = .ok (.iload_n 3, 1) := by decide +kernel
theorem dX5_streamOrCopy_34 : decode cX5_streamOrCopy 34 = .ok (.invokevirtual 158, 3) := by decide +kernel
theorem dX5_streamOrCopy_37 : decode cX5_streamOrCopy 37 = .ok (.iconst 0, 1) := by decide +kernel
theorem dX5_streamOrCopy_38 : decode cX5_streamOrCopy 38 = .ok (.invokevirtual 162, 3) := by decide +kernel
theorem dX5_streamOrCopy_41 : decode cX5_streamOrCopy 41 = .ok (.aload_n 0, 1) := by decide +kernel
theorem dX5_streamOrCopy_42 : decode cX5_streamOrCopy 42 = .ok (.getfield 18, 3) := by decide +kernel
theorem dX5_streamOrCopy_45 : decode cX5_streamOrCopy 45 = .ok (.getfield 28, 3) := by decide +kernel
theorem dX5_streamOrCopy_48 : decode cX5_streamOrCopy 48 = .ok (.ireturn, 1) := by decide +kernel
theorem dX5_undoBlocks_0 : decode cX5_undoBlocks 0 = .ok (.aload_n 0, 1) := by decide +kernel
theorem dX5_undoBlocks_1 : decode cX5_undoBlocks 1 = .ok (.getfield 14, 3) := by decide +kernel
theorem dX5_undoBlocks_4 : decode cX5_undoBlocks 4 = .ok (.getfield 28, 3) := by decide +kernel
theorem dX5_undoBlocks_7 : decode cX5_undoBlocks 7 = .ok (.istore_n 3, 1) := by decide +kernel
theorem dX5_undoBlocks_8 : decode cX5_undoBlocks 8 = .ok (.iload_n 3, 1) := by decide +kernel
theorem dX5_undoBlocks_9 : decode cX5_undoBlocks 9 = .ok (.bipush 16, 2) := by decide +kernel
theorem dX5_undoBlocks_11 : decode cX5_undoBlocks 11 = .ok (.irem, 1) := by decide +kernel
theorem dX5_undoBlocks_12 : decode cX5_undoBlocks 12 = .ok (.ifCond .ne 9, 3) := by decide +kernel
theorem dX5_undoBlocks_15 : decode cX5_undoBlocks 15 = .ok (.iload_n 3, 1) := by decide +kernel
theorem dX5_undoBlocks_16 : decode cX5_undoBlocks 16 = .ok (.bipush 32, 2) := by decide +kernel
theorem dX5_undoBlocks_18 : decode cX5_undoBlocks 18 = .ok (.if_icmp .ge 6, 3) := by decide +kernel
theorem dX5_undoBlocks_21 : decode cX5_undoBlocks 21 = .ok (.bipush (-2), 2) := by decide +kernel
theorem dX5_undoBlocks_23 : decode cX5_undoBlocks 23 = .ok (.ireturn, 1) := by decide +kernel
theorem dX5_undoBlocks_24 : decode cX5_undoBlocks 24 = .ok (.aload_n 0, 1) := by decide +kernel
theorem dX5_undoBlocks_25 : decode cX5_undoBlocks 25 = .ok (.getfield 24, 3) := by decide +kernel
theorem dX5_undoBlocks_28 : decode cX5_undoBlocks 28 = .ok (.getfield 168, 3) := by decide +kernel
theorem dX5_undoBlocks_31 : decode cX5_undoBlocks 31 = .ok (.astore 4, 2) := by decide +kernel
theorem dX5_undoBlocks_33 : decode cX5_undoBlocks 33 = .ok (.aload 4, 2) := by decide +kernel
theorem dX5_undoBlocks_35 : decode cX5_undoBlocks 35 = .ok (.aload_n 0, 1) := by decide +kernel
theorem dX5_undoBlocks_36 : decode cX5_undoBlocks 36 = .ok (.getfield 24, 3) := by decide +kernel
theorem dX5_undoBlocks_39 : decode cX5_undoBlocks 39 = .ok (.iload_n 1, 1) := by decide +kernel
theorem dX5_undoBlocks_40 : decode cX5_undoBlocks 40 = .ok (.iload_n 2, 1) := by decide +kernel
theorem dX5_undoBlocks_41 : decode cX5_undoBlocks 41 = .ok (.iconst 2, 1) := by decide +kernel
theorem dX5_undoBlocks_42 : decode cX5_undoBlocks 42 = .ok (.invokevirtual 158, 3) := by decide +kernel
theorem dX5_undoBlocks_45 : decode cX5_undoBlocks 45 = .ok (.invokevirtual 172, 3) := by decide +kernel
theorem dX5_undoBlocks_48 : decode cX5_undoBlocks 48 = .ok (.aload_n 0, 1) := by decide +kernel
theorem dX5_undoBlocks_49 : decode cX5_undoBlocks 49 = .ok (.aload 4, 2) := by decide +kernel
theorem dX5_undoBlocks_51 : decode cX5_undoBlocks 51 = .ok (.iload_n 3, 1) := by decide +kernel
theorem dX5_undoBlocks_52 : decode cX5_undoBlocks 52 = .ok (.bipush 16, 2) := by decide +kernel
theorem dX5_undoBlocks_54 : decode cX5_undoBlocks 54 = .ok (.isub, 1) := by decide +kernel
theorem dX5_undoBlocks_55 : decode cX5_undoBlocks 55 = .ok (.invokevirtual 177, 3) := by decide +kernel
theorem dX5_undoBlocks_58 : decode cX5_undoBlocks 58 = .ok (.aload 4, 2) := by decide +kernel
theorem dX5_undoBlocks_60 : decode cX5_undoBlocks 60 = .ok (.invokevirtual 181, 3) := by decide +kernel
theorem dX5_undoBlocks_63 : decode cX5_undoBlocks 63 = .ok (.istore 5, 2) := by decide +kernel
theorem dX5_undoBlocks_65 : decode cX5_undoBlocks 65 = .ok (.iload 5, 2) := by decide +kernel
theorem dX5_undoBlocks_67 : decode cX5_undoBlocks 67 = .ok (.ifCond .ne 6, 3) := by decide +kernel
theorem dX5_undoBlocks_70 : decode cX5_undoBlocks 70 = .ok (.bipush (-3), 2) := by decide +kernel
theorem dX5_undoBlocks_72 : decode cX5_undoBlocks 72 = .ok (.ireturn, 1) := by decide +kernel
theorem dX5_undoBlocks_73 : decode cX5_undoBlocks 73 = .ok (.bipush 16, 2) := by decide +kernel
theorem dX5_undoBlocks_75 : decode cX5_undoBlocks 75 = .ok (.istore 6, 2) := by decide +kernel
theorem dX5_undoBlocks_77 : decode cX5_undoBlocks 77 = .ok (.iload 6, 2) := by decide +kernel
theorem dX5_undoBlocks_79 : decode cX5_undoBlocks 79 = .ok (.iload_n 3, 1) := by decide +kernel
theorem dX5_undoBlocks_80 : decode cX5_undoBlocks 80 = .ok (.if_icmp .ge 31, 3) := by decide +kernel
theorem dX5_undoBlocks_83 : decode cX5_undoBlocks 83 = .ok (.aload_n 0, 1) := by decide +kernel
theorem dX5_undoBlocks_84 : decode cX5_undoBlocks 84 = .ok (.aload 4, 2) := by decide +kernel
theorem dX5_undoBlocks_86 : decode cX5_undoBlocks 86 = .ok (.iload 6, 2) := by decide +kernel
theorem dX5_undoBlocks_88 : decode cX5_undoBlocks 88 = .ok (.invokevirtual 177, 3) := by decide +kernel
theorem dX5_undoBlocks_91 : decode cX5_undoBlocks 91 = .ok (.aload 4, 2) := by decide +kernel
theorem dX5_undoBlocks_93 : decode cX5_undoBlocks 93 = .ok (.aload_n 0, 1) := by decide +kernel
theorem dX5_undoBlocks_94 : decode cX5_undoBlocks 94 = .ok (.getfield 18, 3) := by decide +kernel
theorem dX5_undoBlocks_97 : decode cX5_undoBlocks 97 = .ok (.iload 6, 2) := by decide +kernel
theorem dX5_undoBlocks_99 : decode cX5_undoBlocks 99 = .ok (.bipush 16, 2) := by decide +kernel
theorem dX5_undoBlocks_101 : decode cX5_undoBlocks 101 = .ok (.isub, 1) := by decide +kernel
theorem dX5_undoBlocks_102 : decode cX5_undoBlocks 102 = .ok (.invokevirtual 184, 3) := by decide +kernel
theorem dX5_undoBlocks_105 : decode cX5_undoBlocks 105 = .ok (.iinc 6 16, 3) := by decide +kernel
theorem dX5_undoBlocks_108 : decode cX5_undoBlocks 108 = .ok (.goto (-31), 3) := by decide +kernel
theorem dX5_undoBlocks_111 : decode cX5_undoBlocks 111 = .ok (.aload_n 0, 1) := by decide +kernel
theorem dX5_undoBlocks_112 : decode cX5_undoBlocks 112 = .ok (.getfield 18, 3) := by decide +kernel
theorem dX5_undoBlocks_115 : decode cX5_undoBlocks 115 = .ok (.iload_n 3, 1) := by decide +kernel
theorem dX5_undoBlocks_116 : decode cX5_undoBlocks 116 = .ok (.bipush 16, 2) := by decide +kernel
theorem dX5_undoBlocks_118 : decode cX5_undoBlocks 118 = .ok (.isub, 1) := by decide +kernel
theorem dX5_undoBlocks_119 : decode cX5_undoBlocks 119 = .ok (.iload 5, 2) := by decide +kernel
theorem dX5_undoBlocks_121 : decode cX5_undoBlocks 121 = .ok (.isub, 1) := by decide +kernel
theorem dX5_undoBlocks_122 : decode cX5_undoBlocks 122 = .ok (.putfield 28, 3) := by decide +kernel
theorem dX5_undoBlocks_125 : decode cX5_undoBlocks 125 = .ok (.aload_n 0, 1) := by decide +kernel
theorem dX5_undoBlocks_126 : decode cX5_undoBlocks 126 = .ok (.getfield 18, 3) := by decide +kernel
theorem dX5_undoBlocks_129 : decode cX5_undoBlocks 129 = .ok (.getfield 28, 3) := by decide +kernel
theorem dX5_undoBlocks_132 : decode cX5_undoBlocks 132 = .ok (.ireturn, 1) := by decide +kernel
theorem dX5_unchain_0 : decode cX5_unchain 0 = .ok (.aload_n 1, 1) := by decide +kernel
theorem dX5_unchain_1 : decode cX5_unchain 1 = .ok (.aload_n 0, 1) := by decide +kernel
theorem dX5_unchain_2 : decode cX5_unchain 2 = .ok (.getfield 14, 3) := by decide +kernel
theorem dX5_unchain_5 : decode cX5_unchain 5 = .ok (.iload_n 2, 1) := by decide +kernel
theorem dX5_unchain_6 : decode cX5_unchain 6 = .ok (.invokevirtual 188, 3) := by decide +kernel
theorem dX5_unchain_9 : decode cX5_unchain 9 = .ok (.aload_n 1, 1) := by decide +kernel
theorem dX5_unchain_10 : decode cX5_unchain 10 = .ok (.invokevirtual 191, 3) := by decide +kernel
theorem dX5_unchain_13 : decode cX5_unchain 13 = .ok (.aload_n 1, 1) := by decide +kernel
theorem dX5_unchain_14 : decode cX5_unchain 14 = .ok (.aload_n 0, 1) := by decide +kernel
theorem dX5_unchain_15 : decode cX5_unchain 15 = .ok (.getfield 14, 3) := by decide +kernel
theorem dX5_unchain_18 : decode cX5_unchain 18 = .ok (.iload_n 2, 1) := by decide +kernel
theorem dX5_unchain_19 : decode cX5_unchain 19 = .ok (.bipush 16, 2) := by decide +kernel
theorem dX5_unchain_21 : decode cX5_unchain 21 = .ok (.isub, 1) := by decide +kernel
theorem dX5_unchain_22 : decode cX5_unchain 22 = .ok (.invokevirtual 194, 3) := by decide +kernel
theorem dX5_unchain_25 : decode cX5_unchain 25 = .ok (.return_, 1) := by decide +kernel
theorem dX5_fillingBytes_0 : decode cX5_fillingBytes 0 = .ok (.bipush 16, 2) := by decide +kernel
theorem dX5_fillingBytes_2 : decode cX5_fillingBytes 2 = .ok (.aload_n 0, 1) := by decide +kernel
theorem dX5_fillingBytes_3 : decode cX5_fillingBytes 3 = .ok (.getfield 14, 3) := by decide +kernel
theorem dX5_fillingBytes_6 : decode cX5_fillingBytes 6 = .ok (.getfield 28, 3) := by decide +kernel
theorem dX5_fillingBytes_9 : decode cX5_fillingBytes 9 = .ok (.bipush 16, 2) := by decide +kernel
theorem dX5_fillingBytes_11 : decode cX5_fillingBytes 11 = .ok (.irem, 1) := by decide +kernel
theorem dX5_fillingBytes_12 : decode cX5_fillingBytes 12 = .ok (.isub, 1) := by decide +kernel
theorem dX5_fillingBytes_13 : decode cX5_fillingBytes 13 = .ok (.ireturn, 1) := by decide +kernel
theorem dX5_sealBlocks_0 : decode cX5_sealBlocks 0 = .ok (.aload_n 0, 1) := by decide +kernel
theorem dX5_sealBlocks_1 : decode cX5_sealBlocks 1 = .ok (.getfield 24, 3) := by decide +kernel
theorem dX5_sealBlocks_4 : decode cX5_sealBlocks 4 = .ok (.getfield 168, 3) := by decide +kernel
theorem dX5_sealBlocks_7 : decode cX5_sealBlocks 7 = .ok (.astore 5, 2) := by decide +kernel
theorem dX5_sealBlocks_9 : decode cX5_sealBlocks 9 = .ok (.aload 5, 2) := by decide +kernel
theorem dX5_sealBlocks_11 : decode cX5_sealBlocks 11 = .ok (.aload_n 0, 1) := by decide +kernel
theorem dX5_sealBlocks_12 : decode cX5_sealBlocks 12 = .ok (.getfield 24, 3) := by decide +kernel
theorem dX5_sealBlocks_15 : decode cX5_sealBlocks 15 = .ok (.iload_n 1, 1) := by decide +kernel
theorem dX5_sealBlocks_16 : decode cX5_sealBlocks 16 = .ok (.iload_n 2, 1) := by decide +kernel
theorem dX5_sealBlocks_17 : decode cX5_sealBlocks 17 = .ok (.iconst 2, 1) := by decide +kernel
theorem dX5_sealBlocks_18 : decode cX5_sealBlocks 18 = .ok (.invokevirtual 158, 3) := by decide +kernel
theorem dX5_sealBlocks_21 : decode cX5_sealBlocks 21 = .ok (.invokevirtual 172, 3) := by decide +kernel
theorem dX5_sealBlocks_24 : decode cX5_sealBlocks 24 = .ok (.aload_n 0, 1) := by decide +kernel
theorem dX5_sealBlocks_25 : decode cX5_sealBlocks 25 = .ok (.getfield 18, 3) := by decide +kernel
theorem dX5_sealBlocks_28 : decode cX5_sealBlocks 28 = .ok (.invokevirtual 76, 3) := by decide +kernel
theorem dX5_sealBlocks_31 : decode cX5_sealBlocks 31 = .ok (.aload_n 0, 1) := by decide +kernel
theorem dX5_sealBlocks_32 : decode cX5_sealBlocks 32 = .ok (.getfield 18, 3) := by decide +kernel
theorem dX5_sealBlocks_35 : decode cX5_sealBlocks 35 = .ok (.iload_n 3, 1) := by decide +kernel
theorem dX5_sealBlocks_36 : decode cX5_sealBlocks 36 = .ok (.invokevirtual 32, 3) := by decide +kernel
theorem dX5_sealBlocks_39 : decode cX5_sealBlocks 39 = .ok (.aload_n 0, 1) := by decide +kernel
theorem dX5_sealBlocks_40 : decode cX5_sealBlocks 40 = .ok (.getfield 18, 3) := by decide +kernel
theorem dX5_sealBlocks_43 : decode cX5_sealBlocks 43 = .ok (.iload 4, 2) := by decide +kernel
theorem dX5_sealBlocks_45 : decode cX5_sealBlocks 45 = .ok (.invokevirtual 32, 3) := by decide +kernel
theorem dX5_sealBlocks_48 : decode cX5_sealBlocks 48 = .ok (.aload_n 0, 1) := by decide +kernel
theorem dX5_sealBlocks_49 : decode cX5_sealBlocks 49 = .ok (.getfield 18, 3) := by decide +kernel
theorem dX5_sealBlocks_52 : decode cX5_sealBlocks 52 = .ok (.iload_n 3, 1) := by decide +kernel
theorem dX5_sealBlocks_53 : decode cX5_sealBlocks 53 = .ok (.iconst (-1), 1) := by decide +kernel
theorem dX5_sealBlocks_54 : decode cX5_sealBlocks 54 = .ok (.ixor, 1) := by decide +kernel
theorem dX5_sealBlocks_55 : decode cX5_sealBlocks 55 = .ok (.invokevirtual 32, 3) := by decide +kernel
theorem dX5_sealBlocks_58 : decode cX5_sealBlocks 58 = .ok (.aload_n 0, 1) := by decide +kernel
theorem dX5_sealBlocks_59 : decode cX5_sealBlocks 59 = .ok (.getfield 18, 3) := by decide +kernel
theorem dX5_sealBlocks_62 : decode cX5_sealBlocks 62 = .ok (.iload 4, 2) := by decide +kernel
theorem dX5_sealBlocks_64 : decode cX5_sealBlocks 64 = .ok (.iconst (-1), 1) := by decide +kernel
theorem dX5_sealBlocks_65 : decode cX5_sealBlocks 65 = .ok (.ixor, 1) := by decide +kernel
theorem dX5_sealBlocks_66 : decode cX5_sealBlocks 66 = .ok (.invokevirtual 32, 3) := by decide +kernel
theorem dX5_sealBlocks_69 : decode cX5_sealBlocks 69 = .ok (.aload_n 0, 1) := by decide +kernel
theorem dX5_sealBlocks_70 : decode cX5_sealBlocks 70 = .ok (.getfield 18, 3) := by decide +kernel
theorem dX5_sealBlocks_73 : decode cX5_sealBlocks 73 = .ok (.aload_n 0, 1) := by decide +kernel
theorem dX5_sealBlocks_74 : decode cX5_sealBlocks 74 = .ok (.getfield 14, 3) := by decide +kernel
theorem dX5_sealBlocks_77 : decode cX5_sealBlocks 77 = .ok (.invokevirtual 197, 3) := by decide +kernel
theorem dX5_sealBlocks_80 : decode cX5_sealBlocks 80 = .ok (.aload_n 0, 1) := by decide +kernel
theorem dX5_sealBlocks_81 : decode cX5_sealBlocks 81 = .ok (.invokevirtual 136, 3) := by decide +kernel
theorem dX5_sealBlocks_84 : decode cX5_sealBlocks 84 = .ok (.istore 6, 2) := by decide +kernel
theorem dX5_sealBlocks_86 : decode cX5_sealBlocks 86 = .ok (.aload_n 0, 1) := by decide +kernel
theorem dX5_sealBlocks_87 : decode cX5_sealBlocks 87 = .ok (.getfield 18, 3) := by decide +kernel
theorem dX5_sealBlocks_90 : decode cX5_sealBlocks 90 = .ok (.iload 6, 2) := by decide +kernel
theorem dX5_sealBlocks_92 : decode cX5_sealBlocks 92 = .ok (.iload 6, 2) := by decide +kernel
theorem dX5_sealBlocks_94 : decode cX5_sealBlocks 94 = .ok (.invokevirtual 200, 3) := by decide +kernel
theorem dX5_sealBlocks_97 : decode cX5_sealBlocks 97 = .ok (.bipush 16, 2) := by decide +kernel
theorem dX5_sealBlocks_99 : decode cX5_sealBlocks 99 = .ok (.istore 7, 2) := by decide +kernel
theorem dX5_sealBlocks_101 : decode cX5_sealBlocks 101 = .ok (.iload 7, 2) := by decide +kernel
theorem dX5_sealBlocks_103 : decode cX5_sealBlocks 103 = .ok (.aload_n 0, 1) := by decide +kernel
theorem dX5_sealBlocks_104 : decode cX5_sealBlocks 104 = .ok (.getfield 18, 3) := by decide +kernel
theorem dX5_sealBlocks_107 : decode cX5_sealBlocks 107 = .ok (.getfield 28, 3) := by decide +kernel
theorem dX5_sealBlocks_110 : decode cX5_sealBlocks 110 = .ok (.if_icmp .ge 50, 3) := by decide +kernel
theorem dX5_sealBlocks_113 : decode cX5_sealBlocks 113 = .ok (.aload 5, 2) := by decide +kernel
theorem dX5_sealBlocks_115 : decode cX5_sealBlocks 115 = .ok (.aload_n 0, 1) := by decide +kernel
theorem dX5_sealBlocks_116 : decode cX5_sealBlocks 116 = .ok (.getfield 18, 3) := by decide +kernel
theorem dX5_sealBlocks_119 : decode cX5_sealBlocks 119 = .ok (.iload 7, 2) := by decide +kernel
theorem dX5_sealBlocks_121 : decode cX5_sealBlocks 121 = .ok (.invokevirtual 188, 3) := by decide +kernel
theorem dX5_sealBlocks_124 : decode cX5_sealBlocks 124 = .ok (.aload 5, 2) := by decide +kernel
theorem dX5_sealBlocks_126 : decode cX5_sealBlocks 126 = .ok (.aload_n 0, 1) := by decide +kernel
theorem dX5_sealBlocks_127 : decode cX5_sealBlocks 127 = .ok (.getfield 18, 3) := by decide +kernel
theorem dX5_sealBlocks_130 : decode cX5_sealBlocks 130 = .ok (.iload 7, 2) := by decide +kernel
theorem dX5_sealBlocks_132 : decode cX5_sealBlocks 132 = .ok (.bipush 16, 2) := by decide +kernel
theorem dX5_sealBlocks_134 : decode cX5_sealBlocks 134 = .ok (.isub, 1) := by decide +kernel
theorem dX5_sealBlocks_135 : decode cX5_sealBlocks 135 = .ok (.invokevirtual 194, 3) := by decide +kernel
theorem dX5_sealBlocks_138 : decode cX5_sealBlocks 138 = .ok (.aload 5, 2) := by decide +kernel
theorem dX5_sealBlocks_140 : decode cX5_sealBlocks 140 = .ok (.invokevirtual 204, 3) := by decide +kernel
theorem dX5_sealBlocks_143 : decode cX5_sealBlocks 143 = .ok (.aload 5, 2) := by decide +kernel
theorem dX5_sealBlocks_145 : decode cX5_sealBlocks 145 = .ok (.aload_n 0, 1) := by decide +kernel
theorem dX5_sealBlocks_146 : decode cX5_sealBlocks 146 = .ok (.getfield 18, 3) := by decide +kernel
theorem dX5_sealBlocks_149 : decode cX5_sealBlocks 149 = .ok (.iload 7, 2) := by decide +kernel
theorem dX5_sealBlocks_151 : decode cX5_sealBlocks 151 = .ok (.invokevirtual 184, 3) := by decide +kernel
theorem dX5_sealBlocks_154 : decode cX5_sealBlocks 154 = .ok (.iinc 7 16, 3) := by decide +kernel
theorem dX5_sealBlocks_157 : decode cX5_sealBlocks 157 = .ok (.goto (-56), 3) := by decide +kernel
theorem dX5_sealBlocks_160 : decode cX5_sealBlocks 160 = .ok (.aload_n 0, 1) := by decide +kernel
theorem dX5_sealBlocks_161 : decode cX5_sealBlocks 161 = .ok (.getfield 18, 3) := by decide +kernel
theorem dX5_sealBlocks_164 : decode cX5_sealBlocks 164 = .ok (.getfield 28, 3) := by decide +kernel
theorem dX5_sealBlocks_167 : decode cX5_sealBlocks 167 = .ok (.ireturn, 1) := by decide +kernel
