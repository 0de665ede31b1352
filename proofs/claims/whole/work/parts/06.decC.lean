theorem dX6_makeUserEntry_135 : decode cX6_makeUserEntry 135 = .ok (.bipush 20, 2) := by decide +kernel
theorem dX6_makeUserEntry_137 : decode cX6_makeUserEntry 137 = .ok (.if_icmp .ge 16, 3) := by decide +kernel
theorem dX6_makeUserEntry_140 : decode cX6_makeUserEntry 140 = .ok (.aload_n 0, 1) := by decide +kernel
theorem dX6_makeUserEntry_141 : decode cX6_makeUserEntry 141 = .ok (.iload_n 1, 1) := by decide +kernel
theorem dX6_makeUserEntry_142 : decode cX6_makeUserEntry 142 = .ok (.bipush 16, 2) := by decide +kernel
theorem dX6_makeUserEntry_144 : decode cX6_makeUserEntry 144 = .ok (.invokevirtual 217, 3) := by decide +kernel
theorem dX6_makeUserEntry_147 : decode cX6_makeUserEntry 147 = .ok (.iinc 1 1, 3) := by decide +kernel
theorem dX6_makeUserEntry_150 : decode cX6_makeUserEntry 150 = .ok (.goto (-16), 3) := by decide +kernel
theorem dX6_makeUserEntry_153 : decode cX6_makeUserEntry 153 = .ok (.return_, 1) := by decide +kernel
theorem dX6_handler_0 : decode cX6_handler 0 = .ok (.iload_n 1, 1) := by decide +kernel
theorem dX6_handler_1 : decode cX6_handler 1 = .ok (.iconst 2, 1) := by decide +kernel
theorem dX6_handler_2 : decode cX6_handler 2 = .ok (.if_icmp .lt 33, 3) := by decide +kernel
theorem dX6_handler_5 : decode cX6_handler 5 = .ok (.iload_n 1, 1) := by decide +kernel
theorem dX6_handler_6 : decode cX6_handler 6 = .ok (.iconst 4, 1) := by decide +kernel
theorem dX6_handler_7 : decode cX6_handler 7 = .ok (.if_icmp .gt 28, 3) := by decide +kernel
theorem dX6_handler_10 : decode cX6_handler 10 = .ok (.iload_n 2, 1) := by decide +kernel
theorem dX6_handler_11 : decode cX6_handler 11 = .ok (.iconst 5, 1) := by decide +kernel
theorem dX6_handler_12 : decode cX6_handler 12 = .ok (.if_icmp .lt 23, 3) := by decide +kernel
theorem dX6_handler_15 : decode cX6_handler 15 = .ok (.iload_n 2, 1) := by decide +kernel
theorem dX6_handler_16 : decode cX6_handler 16 = .ok (.bipush 16, 2) := by decide +kernel
theorem dX6_handler_18 : decode cX6_handler 18 = .ok (.if_icmp .gt 17, 3) := by decide +kernel
theorem dX6_handler_21 : decode cX6_handler 21 = .ok (.iload_n 1, 1) := by decide +kernel
theorem dX6_handler_22 : decode cX6_handler 22 = .ok (.iconst 2, 1) := by decide +kernel
theorem dX6_handler_23 : decode cX6_handler 23 = .ok (.if_icmp .gt 8, 3) := by decide +kernel
theorem dX6_handler_26 : decode cX6_handler 26 = .ok (.iload_n 2, 1) := by decide +kernel
theorem dX6_handler_27 : decode cX6_handler 27 = .ok (.iconst 5, 1) := by decide +kernel
theorem dX6_handler_28 : decode cX6_handler 28 = .ok (.if_icmp .ne 7, 3) := by decide +kernel
theorem dX6_handler_31 : decode cX6_handler 31 = .ok (.iconst 1, 1) := by decide +kernel
theorem dX6_handler_32 : decode cX6_handler 32 = .ok (.goto 4, 3) := by decide +kernel
theorem dX6_handler_35 : decode cX6_handler 35 = .ok (.iconst 0, 1) := by decide +kernel
theorem dX6_handler_36 : decode cX6_handler 36 = .ok (.istore 5, 2) := by decide +kernel
theorem dX6_handler_38 : decode cX6_handler 38 = .ok (.aload_n 0, 1) := by decide +kernel
theorem dX6_handler_39 : decode cX6_handler 39 = .ok (.iload 5, 2) := by decide +kernel
theorem dX6_handler_41 : decode cX6_handler 41 = .ok (.ifCond .eq 7, 3) := by decide +kernel
theorem dX6_handler_44 : decode cX6_handler 44 = .ok (.iconst 0, 1) := by decide +kernel
theorem dX6_handler_45 : decode cX6_handler 45 = .ok (.goto 4, 3) := by decide +kernel
theorem dX6_handler_48 : decode cX6_handler 48 = .ok (.iconst 1, 1) := by decide +kernel
theorem dX6_handler_49 : decode cX6_handler 49 = .ok (.invokevirtual 159, 3) := by decide +kernel
theorem dX6_handler_52 : decode cX6_handler 52 = .ok (.ifCond .eq 4, 3) := by decide +kernel
theorem dX6_handler_55 : decode cX6_handler 55 = .ok (.return_, 1) := by decide +kernel
theorem dX6_handler_56 : decode cX6_handler 56 = .ok (.aload_n 0, 1) := by decide +kernel
theorem dX6_handler_57 : decode cX6_handler 57 = .ok (.iload_n 1, 1) := by decide +kernel
theorem dX6_handler_58 : decode cX6_handler 58 = .ok (.putfield 16, 3) := by decide +kernel
theorem dX6_handler_61 : decode cX6_handler 61 = .ok (.aload_n 0, 1) := by decide +kernel
theorem dX6_handler_62 : decode cX6_handler 62 = .ok (.iload_n 2, 1) := by decide +kernel
theorem dX6_handler_63 : decode cX6_handler 63 = .ok (.putfield 20, 3) := by decide +kernel
theorem dX6_handler_66 : decode cX6_handler 66 = .ok (.aload_n 0, 1) := by decide +kernel
theorem dX6_handler_67 : decode cX6_handler 67 = .ok (.iload_n 3, 1) := by decide +kernel
theorem dX6_handler_68 : decode cX6_handler 68 = .ok (.putfield 23, 3) := by decide +kernel
theorem dX6_handler_71 : decode cX6_handler 71 = .ok (.aload_n 0, 1) := by decide +kernel
theorem dX6_handler_72 : decode cX6_handler 72 = .ok (.iload 4, 2) := by decide +kernel
theorem dX6_handler_74 : decode cX6_handler 74 = .ok (.putfield 206, 3) := by decide +kernel
theorem dX6_handler_77 : decode cX6_handler 77 = .ok (.aload_n 0, 1) := by decide +kernel
theorem dX6_handler_78 : decode cX6_handler 78 = .ok (.iconst 0, 1) := by decide +kernel
theorem dX6_handler_79 : decode cX6_handler 79 = .ok (.putfield 220, 3) := by decide +kernel
theorem dX6_handler_82 : decode cX6_handler 82 = .ok (.return_, 1) := by decide +kernel
theorem dX6_take_0 : decode cX6_take 0 = .ok (.iload_n 1, 1) := by decide +kernel
theorem dX6_take_1 : decode cX6_take 1 = .ok (.ifCond .lt 12, 3) := by decide +kernel
theorem dX6_take_4 : decode cX6_take 4 = .ok (.iload_n 1, 1) := by decide +kernel
theorem dX6_take_5 : decode cX6_take 5 = .ok (.iconst 4, 1) := by decide +kernel
theorem dX6_take_6 : decode cX6_take 6 = .ok (.if_icmp .gt 7, 3) := by decide +kernel
theorem dX6_take_9 : decode cX6_take 9 = .ok (.iconst 1, 1) := by decide +kernel
theorem dX6_take_10 : decode cX6_take 10 = .ok (.goto 4, 3) := by decide +kernel
theorem dX6_take_13 : decode cX6_take 13 = .ok (.iconst 0, 1) := by decide +kernel
theorem dX6_take_14 : decode cX6_take 14 = .ok (.istore_n 2, 1) := by decide +kernel
theorem dX6_take_15 : decode cX6_take 15 = .ok (.iload_n 1, 1) := by decide +kernel
theorem dX6_take_16 : decode cX6_take 16 = .ok (.iconst 2, 1) := by decide +kernel
theorem dX6_take_17 : decode cX6_take 17 = .ok (.if_icmp .ge 20, 3) := by decide +kernel
theorem dX6_take_20 : decode cX6_take 20 = .ok (.aload_n 0, 1) := by decide +kernel
theorem dX6_take_21 : decode cX6_take 21 = .ok (.getfield 156, 3) := by decide +kernel
theorem dX6_take_24 : decode cX6_take 24 = .ok (.bipush 32, 2) := by decide +kernel
theorem dX6_take_26 : decode cX6_take 26 = .ok (.if_icmp .ne 7, 3) := by decide +kernel
theorem dX6_take_29 : decode cX6_take 29 = .ok (.iconst 1, 1) := by decide +kernel
theorem dX6_take_30 : decode cX6_take 30 = .ok (.goto 21, 3) := by decide +kernel
theorem dX6_take_33 : decode cX6_take 33 = .ok (.iconst 0, 1) := by decide +kernel
theorem dX6_take_34 : decode cX6_take 34 = .ok (.goto 17, 3) := by decide +kernel
theorem dX6_take_37 : decode cX6_take 37 = .ok (.aload_n 0, 1) := by decide +kernel
theorem dX6_take_38 : decode cX6_take 38 = .ok (.getfield 156, 3) := by decide +kernel
theorem dX6_take_41 : decode cX6_take 41 = .ok (.bipush 64, 2) := by decide +kernel
theorem dX6_take_43 : decode cX6_take 43 = .ok (.if_icmp .gt 7, 3) := by decide +kernel
theorem dX6_take_46 : decode cX6_take 46 = .ok (.iconst 1, 1) := by decide +kernel
theorem dX6_take_47 : decode cX6_take 47 = .ok (.goto 4, 3) := by decide +kernel
theorem dX6_take_50 : decode cX6_take 50 = .ok (.iconst 0, 1) := by decide +kernel
theorem dX6_take_51 : decode cX6_take 51 = .ok (.istore_n 3, 1) := by decide +kernel
theorem dX6_take_52 : decode cX6_take 52 = .ok (.aload_n 0, 1) := by decide +kernel
theorem dX6_take_53 : decode cX6_take 53 = .ok (.iload_n 2, 1) := by decide +kernel
theorem dX6_take_54 : decode cX6_take 54 = .ok (.ifCond .ne 7, 3) := by decide +kernel
theorem dX6_take_57 : decode cX6_take 57 = .ok (.iconst 1, 1) := by decide +kernel
theorem dX6_take_58 : decode cX6_take 58 = .ok (.goto 12, 3) := by decide +kernel
theorem dX6_take_61 : decode cX6_take 61 = .ok (.iload_n 3, 1) := by decide +kernel
theorem dX6_take_62 : decode cX6_take 62 = .ok (.ifCond .ne 7, 3) := by decide +kernel
theorem dX6_take_65 : decode cX6_take 65 = .ok (.iconst 2, 1) := by decide +kernel
theorem dX6_take_66 : decode cX6_take 66 = .ok (.goto 4, 3) := by decide +kernel
theorem dX6_take_69 : decode cX6_take 69 = .ok (.iconst 0, 1) := by decide +kernel
theorem dX6_take_70 : decode cX6_take 70 = .ok (.invokevirtual 159, 3) := by decide +kernel
theorem dX6_take_73 : decode cX6_take 73 = .ok (.ifCond .eq 5, 3) := by decide +kernel
theorem dX6_take_76 : decode cX6_take 76 = .ok (.iconst 0, 1) := by decide +kernel
theorem dX6_take_77 : decode cX6_take 77 = .ok (.ireturn, 1) := by decide +kernel
theorem dX6_take_78 : decode cX6_take 78 = .ok (.aload_n 0, 1) := by decide +kernel
theorem dX6_take_79 : decode cX6_take 79 = .ok (.iload_n 1, 1) := by decide +kernel
theorem dX6_take_80 : decode cX6_take 80 = .ok (.iconst 2, 1) := by decide +kernel
theorem dX6_take_81 : decode cX6_take 81 = .ok (.if_icmp .ne 10, 3) := by decide +kernel
theorem dX6_take_84 : decode cX6_take 84 = .ok (.aload_n 0, 1) := by decide +kernel
theorem dX6_take_85 : decode cX6_take 85 = .ok (.getfield 156, 3) := by decide +kernel
theorem dX6_take_88 : decode cX6_take 88 = .ok (.goto 7, 3) := by decide +kernel
theorem dX6_take_91 : decode cX6_take 91 = .ok (.aload_n 0, 1) := by decide +kernel
theorem dX6_take_92 : decode cX6_take 92 = .ok (.getfield 203, 3) := by decide +kernel
theorem dX6_take_95 : decode cX6_take 95 = .ok (.putfield 203, 3) := by decide +kernel
theorem dX6_take_98 : decode cX6_take 98 = .ok (.aload_n 0, 1) := by decide +kernel
theorem dX6_take_99 : decode cX6_take 99 = .ok (.iload_n 1, 1) := by decide +kernel
theorem dX6_take_100 : decode cX6_take 100 = .ok (.iconst 3, 1) := by decide +kernel
theorem dX6_take_101 : decode cX6_take 101 = .ok (.if_icmp .ne 10, 3) := by decide +kernel
theorem dX6_take_104 : decode cX6_take 104 = .ok (.aload_n 0, 1) := by decide +kernel
theorem dX6_take_105 : decode cX6_take 105 = .ok (.getfield 156, 3) := by decide +kernel
theorem dX6_take_108 : decode cX6_take 108 = .ok (.goto 7, 3) := by decide +kernel
theorem dX6_take_111 : decode cX6_take 111 = .ok (.aload_n 0, 1) := by decide +kernel
theorem dX6_take_112 : decode cX6_take 112 = .ok (.getfield 197, 3) := by decide +kernel
theorem dX6_take_115 : decode cX6_take 115 = .ok (.putfield 197, 3) := by decide +kernel
theorem dX6_take_118 : decode cX6_take 118 = .ok (.aload_n 0, 1) := by decide +kernel
theorem dX6_take_119 : decode cX6_take 119 = .ok (.iload_n 1, 1) := by decide +kernel
theorem dX6_take_120 : decode cX6_take 120 = .ok (.iconst 4, 1) := by decide +kernel
theorem dX6_take_121 : decode cX6_take 121 = .ok (.if_icmp .ne 10, 3) := by decide +kernel
theorem dX6_take_124 : decode cX6_take 124 = .ok (.aload_n 0, 1) := by decide +kernel
theorem dX6_take_125 : decode cX6_take 125 = .ok (.getfield 156, 3) := by decide +kernel
theorem dX6_take_128 : decode cX6_take 128 = .ok (.goto 7, 3) := by decide +kernel
theorem dX6_take_131 : decode cX6_take 131 = .ok (.aload_n 0, 1) := by decide +kernel
theorem dX6_take_132 : decode cX6_take 132 = .ok (.getfield 200, 3) := by decide +kernel
theorem dX6_take_135 : decode cX6_take 135 = .ok (.putfield 200, 3) := by decide +kernel
theorem dX6_take_138 : decode cX6_take 138 = .ok (.aload_n 0, 1) := by decide +kernel
theorem dX6_take_139 : decode cX6_take 139 = .ok (.aload_n 0, 1) := by decide +kernel
theorem dX6_take_140 : decode cX6_take 140 = .ok (.getfield 220, 3) := by decide +kernel
theorem dX6_take_143 : decode cX6_take 143 = .ok (.ifCond .eq 12, 3) := by decide +kernel
theorem dX6_take_146 : decode cX6_take 146 = .ok (.iload_n 1, 1) := by decide +kernel
theorem dX6_take_147 : decode cX6_take 147 = .ok (.iconst 2, 1) := by decide +kernel
theorem dX6_take_148 : decode cX6_take 148 = .ok (.if_icmp .le 7, 3) := by decide +kernel
theorem dX6_take_151 : decode cX6_take 151 = .ok (.iconst 1, 1) := by decide +kernel
theorem dX6_take_152 : decode cX6_take 152 = .ok (.goto 4, 3) := by decide +kernel
theorem dX6_take_155 : decode cX6_take 155 = .ok (.iconst 0, 1) := by decide +kernel
theorem dX6_take_156 : decode cX6_take 156 = .ok (.putfield 220, 3) := by decide +kernel
theorem dX6_take_159 : decode cX6_take 159 = .ok (.iconst 0, 1) := by decide +kernel
theorem dX6_take_160 : decode cX6_take 160 = .ok (.istore 4, 2) := by decide +kernel
theorem dX6_take_162 : decode cX6_take 162 = .ok (.iload 4, 2) := by decide +kernel
theorem dX6_take_164 : decode cX6_take 164 = .ok (.aload_n 0, 1) := by decide +kernel
theorem dX6_take_165 : decode cX6_take 165 = .ok (.getfield 156, 3) := by decide +kernel
theorem dX6_take_168 : decode cX6_take 168 = .ok (.if_icmp .ge 124, 3) := by decide +kernel
theorem dX6_take_171 : decode cX6_take 171 = .ok (.iload_n 1, 1) := by decide +kernel
theorem dX6_take_172 : decode cX6_take 172 = .ok (.tableswitch 100 0 3 #[32, 49, 66, 83], 32) := by decide +kernel
theorem dX6_take_204 : decode cX6_take 204 = .ok (.aload_n 0, 1) := by decide +kernel
theorem dX6_take_205 : decode cX6_take 205 = .ok (.getfield 26, 3) := by decide +kernel
theorem dX6_take_208 : decode cX6_take 208 = .ok (.iload 4, 2) := by decide +kernel
theorem dX6_take_210 : decode cX6_take 210 = .ok (.aload_n 0, 1) := by decide +kernel
theorem dX6_take_211 : decode cX6_take 211 = .ok (.getfield 7, 3) := by decide +kernel
theorem dX6_take_214 : decode cX6_take 214 = .ok (.iload 4, 2) := by decide +kernel
theorem dX6_take_216 : decode cX6_take 216 = .ok (.iaload, 1) := by decide +kernel
theorem dX6_take_217 : decode cX6_take 217 = .ok (.iastore, 1) := by decide +kernel
theorem dX6_take_218 : decode cX6_take 218 = .ok (.goto 68, 3) := by decide +kernel
theorem dX6_take_221 : decode cX6_take 221 = .ok (.aload_n 0, 1) := by decide +kernel
theorem dX6_take_222 : decode cX6_take 222 = .ok (.getfield 29, 3) := by decide +kernel
theorem dX6_take_225 : decode cX6_take 225 = .ok (.iload 4, 2) := by decide +kernel
theorem dX6_take_227 : decode cX6_take 227 = .ok (.aload_n 0, 1) := by decide +kernel
theorem dX6_take_228 : decode cX6_take 228 = .ok (.getfield 7, 3) := by decide +kernel
theorem dX6_take_231 : decode cX6_take 231 = .ok (.iload 4, 2) := by decide +kernel
theorem dX6_take_233 : decode cX6_take 233 = .ok (.iaload, 1) := by decide +kernel
theorem dX6_take_234 : decode cX6_take 234 = .ok (.iastore, 1) := by decide +kernel
theorem dX6_take_235 : decode cX6_take 235 = .ok (.goto 51, 3) := by decide +kernel
theorem dX6_take_238 : decode cX6_take 238 = .ok (.aload_n 0, 1) := by decide +kernel
theorem dX6_take_239 : decode cX6_take 239 = .ok (.getfield 32, 3) := by decide +kernel
theorem dX6_take_242 : decode cX6_take 242 = .ok (.iload 4, 2) := by decide +kernel
theorem dX6_take_244 : decode cX6_take 244 = .ok (.aload_n 0, 1) := by decide +kernel
theorem dX6_take_245 : decode cX6_take 245 = .ok (.getfield 7, 3) := by decide +kernel
theorem dX6_take_248 : decode cX6_take 248 = .ok (.iload 4, 2) := by decide +kernel
theorem dX6_take_250 : decode cX6_take 250 = .ok (.iaload, 1) := by decide +kernel
theorem dX6_take_251 : decode cX6_take 251 = .ok (.iastore, 1) := by decide +kernel
theorem dX6_take_252 : decode cX6_take 252 = .ok (.goto 34, 3) := by decide +kernel
theorem dX6_take_255 : decode cX6_take 255 = .ok (.aload_n 0, 1) := by decide +kernel
theorem dX6_take_256 : decode cX6_take 256 = .ok (.getfield 35, 3) := by decide +kernel
theorem dX6_take_259 : decode cX6_take 259 = .ok (.iload 4, 2) := by decide +kernel
theorem dX6_take_261 : decode cX6_take 261 = .ok (.aload_n 0, 1) := by decide +kernel
theorem dX6_take_262 : decode cX6_take 262 = .ok (.getfield 7, 3) := by decide +kernel
theorem dX6_take_265 : decode cX6_take 265 = .ok (.iload 4, 2) := by decide +kernel
theorem dX6_take_267 : decode cX6_take 267 = .ok (.iaload, 1) := by decide +kernel
theorem dX6_take_268 : decode cX6_take 268 = .ok (.iastore, 1) := by decide +kernel
theorem dX6_take_269 : decode cX6_take 269 = .ok (.goto 17, 3) := by decide +kernel
theorem dX6_take_272 : decode cX6_take 272 = .ok (.aload_n 0, 1) := by decide +kernel
theorem dX6_take_273 : decode cX6_take 273 = .ok (.getfield 38, 3) := by decide +kernel
theorem dX6_take_276 : decode cX6_take 276 = .ok (.iload 4, 2) := by decide +kernel
theorem dX6_take_278 : decode cX6_take 278 = .ok (.aload_n 0, 1) := by decide +kernel
theorem dX6_take_279 : decode cX6_take 279 = .ok (.getfield 7, 3) := by decide +kernel
theorem dX6_take_282 : decode cX6_take 282 = .ok (.iload 4, 2) := by decide +kernel
theorem dX6_take_284 : decode cX6_take 284 = .ok (.iaload, 1) := by decide +kernel
theorem dX6_take_285 : decode cX6_take 285 = .ok (.iastore, 1) := by decide +kernel
theorem dX6_take_286 : decode cX6_take 286 = .ok (.iinc 4 1, 3) := by decide +kernel
theorem dX6_take_289 : decode cX6_take 289 = .ok (.goto (-127), 3) := by decide +kernel
theorem dX6_take_292 : decode cX6_take 292 = .ok (.aload_n 0, 1) := by decide +kernel
theorem dX6_take_293 : decode cX6_take 293 = .ok (.getfield 156, 3) := by decide +kernel
theorem dX6_take_296 : decode cX6_take 296 = .ok (.ireturn, 1) := by decide +kernel
theorem dX6_makeOwnerEntry_0 : decode cX6_makeOwnerEntry 0 = .ok (.aload_n 0, 1) := by decide +kernel
theorem dX6_makeOwnerEntry_1 : decode cX6_makeOwnerEntry 1 = .ok (.iconst 1, 1) := by decide +kernel
theorem dX6_makeOwnerEntry_2 : decode cX6_makeOwnerEntry 2 = .ok (.invokevirtual 223, 3) := by decide +kernel
theorem dX6_makeOwnerEntry_5 : decode cX6_makeOwnerEntry 5 = .ok (.aload_n 0, 1) := by decide +kernel
theorem dX6_makeOwnerEntry_6 : decode cX6_makeOwnerEntry 6 = .ok (.invokevirtual 226, 3) := by decide +kernel
theorem dX6_makeOwnerEntry_9 : decode cX6_makeOwnerEntry 9 = .ok (.aload_n 0, 1) := by decide +kernel
theorem dX6_makeOwnerEntry_10 : decode cX6_makeOwnerEntry 10 = .ok (.iconst 2, 1) := by decide +kernel
theorem dX6_makeOwnerEntry_11 : decode cX6_makeOwnerEntry 11 = .ok (.invokevirtual 223, 3) := by decide +kernel
theorem dX6_makeOwnerEntry_14 : decode cX6_makeOwnerEntry 14 = .ok (.iconst 0, 1) := by decide +kernel
theorem dX6_makeOwnerEntry_15 : decode cX6_makeOwnerEntry 15 = .ok (.istore_n 1, 1) := by decide +kernel
theorem dX6_makeOwnerEntry_16 : decode cX6_makeOwnerEntry 16 = .ok (.iload_n 1, 1) := by decide +kernel
theorem dX6_makeOwnerEntry_17 : decode cX6_makeOwnerEntry 17 = .ok (.bipush 32, 2) := by decide +kernel
theorem dX6_makeOwnerEntry_19 : decode cX6_makeOwnerEntry 19 = .ok (.if_icmp .ge 21, 3) := by decide +kernel
theorem dX6_makeOwnerEntry_22 : decode cX6_makeOwnerEntry 22 = .ok (.aload_n 0, 1) := by decide +kernel
theorem dX6_makeOwnerEntry_23 : decode cX6_makeOwnerEntry 23 = .ok (.getfield 132, 3) := by decide +kernel
theorem dX6_makeOwnerEntry_26 : decode cX6_makeOwnerEntry 26 = .ok (.iload_n 1, 1) := by decide +kernel
theorem dX6_makeOwnerEntry_27 : decode cX6_makeOwnerEntry 27 = .ok (.aload_n 0, 1) := by decide +kernel
theorem dX6_makeOwnerEntry_28 : decode cX6_makeOwnerEntry 28 = .ok (.getfield 135, 3) := by decide +kernel
theorem dX6_makeOwnerEntry_31 : decode cX6_makeOwnerEntry 31 = .ok (.iload_n 1, 1) := by decide +kernel
theorem dX6_makeOwnerEntry_32 : decode cX6_makeOwnerEntry 32 = .ok (.iaload, 1) := by decide +kernel
theorem dX6_makeOwnerEntry_33 : decode cX6_makeOwnerEntry 33 = .ok (.iastore, 1) := by decide +kernel
theorem dX6_makeOwnerEntry_34 : decode cX6_makeOwnerEntry 34 = .ok (.iinc 1 1, 3) := by decide +kernel
theorem dX6_makeOwnerEntry_37 : decode cX6_makeOwnerEntry 37 = .ok (.goto (-21), 3) := by decide +kernel
theorem dX6_makeOwnerEntry_40 : decode cX6_makeOwnerEntry 40 = .ok (.iconst 0, 1) := by decide +kernel
theorem dX6_makeOwnerEntry_41 : decode cX6_makeOwnerEntry 41 = .ok (.istore_n 1, 1) := by decide +kernel
theorem dX6_makeOwnerEntry_42 : decode cX6_makeOwnerEntry 42 = .ok (.iload_n 1, 1) := by decide +kernel
theorem dX6_makeOwnerEntry_43 : decode cX6_makeOwnerEntry 43 = .ok (.aload_n 0, 1) := by decide +kernel
theorem dX6_makeOwnerEntry_44 : decode cX6_makeOwnerEntry 44 = .ok (.getfield 16, 3) := by decide +kernel
theorem dX6_makeOwnerEntry_47 : decode cX6_makeOwnerEntry 47 = .ok (.iconst 2, 1) := by decide +kernel
theorem dX6_makeOwnerEntry_48 : decode cX6_makeOwnerEntry 48 = .ok (.if_icmp .le 8, 3) := by decide +kernel
theorem dX6_makeOwnerEntry_51 : decode cX6_makeOwnerEntry 51 = .ok (.bipush 20, 2) := by decide +kernel
theorem dX6_makeOwnerEntry_53 : decode cX6_makeOwnerEntry 53 = .ok (.goto 4, 3) := by decide +kernel
theorem dX6_makeOwnerEntry_56 : decode cX6_makeOwnerEntry 56 = .ok (.iconst 1, 1) := by decide +kernel
theorem dX6_makeOwnerEntry_57 : decode cX6_makeOwnerEntry 57 = .ok (.if_icmp .ge 16, 3) := by decide +kernel
theorem dX6_makeOwnerEntry_60 : decode cX6_makeOwnerEntry 60 = .ok (.aload_n 0, 1) := by decide +kernel
theorem dX6_makeOwnerEntry_61 : decode cX6_makeOwnerEntry 61 = .ok (.iload_n 1, 1) := by decide +kernel
theorem dX6_makeOwnerEntry_62 : decode cX6_makeOwnerEntry 62 = .ok (.bipush 32, 2) := by decide +kernel
theorem dX6_makeOwnerEntry_64 : decode cX6_makeOwnerEntry 64 = .ok (.invokevirtual 217, 3) := by decide +kernel
theorem dX6_makeOwnerEntry_67 : decode cX6_makeOwnerEntry 67 = .ok (.iinc 1 1, 3) := by decide +kernel
theorem dX6_makeOwnerEntry_70 : decode cX6_makeOwnerEntry 70 = .ok (.goto (-28), 3) := by decide +kernel
theorem dX6_makeOwnerEntry_73 : decode cX6_makeOwnerEntry 73 = .ok (.return_, 1) := by decide +kernel
theorem dX6_enter_0 : decode cX6_enter 0 = .ok (.aload_n 0, 1) := by decide +kernel
theorem dX6_enter_1 : decode cX6_enter 1 = .ok (.iload_n 1, 1) := by decide +kernel
theorem dX6_enter_2 : decode cX6_enter 2 = .ok (.ifCond .eq 12, 3) := by decide +kernel
theorem dX6_enter_5 : decode cX6_enter 5 = .ok (.iload_n 1, 1) := by decide +kernel
theorem dX6_enter_6 : decode cX6_enter 6 = .ok (.iconst 1, 1) := by decide +kernel
theorem dX6_enter_7 : decode cX6_enter 7 = .ok (.if_icmp .eq 7, 3) := by decide +kernel
theorem dX6_enter_10 : decode cX6_enter 10 = .ok (.iconst 1, 1) := by decide +kernel
theorem dX6_enter_11 : decode cX6_enter 11 = .ok (.goto 4, 3) := by decide +kernel
theorem dX6_enter_14 : decode cX6_enter 14 = .ok (.iconst 0, 1) := by decide +kernel
theorem dX6_enter_15 : decode cX6_enter 15 = .ok (.invokevirtual 159, 3) := by decide +kernel
theorem dX6_enter_18 : decode cX6_enter 18 = .ok (.ifCond .eq 4, 3) := by decide +kernel
theorem dX6_enter_21 : decode cX6_enter 21 = .ok (.return_, 1) := by decide +kernel
theorem dX6_enter_22 : decode cX6_enter 22 = .ok (.aload_n 0, 1) := by decide +kernel
theorem dX6_enter_23 : decode cX6_enter 23 = .ok (.iconst 0, 1) := by decide +kernel
theorem dX6_enter_24 : decode cX6_enter 24 = .ok (.putfield 220, 3) := by decide +kernel
theorem dX6_enter_27 : decode cX6_enter 27 = .ok (.iload_n 1, 1) := by decide +kernel
theorem dX6_enter_28 : decode cX6_enter 28 = .ok (.ifCond .ne 10, 3) := by decide +kernel
theorem dX6_enter_31 : decode cX6_enter 31 = .ok (.aload_n 0, 1) := by decide +kernel
theorem dX6_enter_32 : decode cX6_enter 32 = .ok (.invokevirtual 229, 3) := by decide +kernel
theorem dX6_enter_35 : decode cX6_enter 35 = .ok (.goto 16, 3) := by decide +kernel
theorem dX6_enter_38 : decode cX6_enter 38 = .ok (.aload_n 0, 1) := by decide +kernel
theorem dX6_enter_39 : decode cX6_enter 39 = .ok (.iconst 2, 1) := by decide +kernel
theorem dX6_enter_40 : decode cX6_enter 40 = .ok (.invokevirtual 223, 3) := by decide +kernel
theorem dX6_enter_43 : decode cX6_enter 43 = .ok (.aload_n 0, 1) := by decide +kernel
theorem dX6_enter_44 : decode cX6_enter 44 = .ok (.invokevirtual 232, 3) := by decide +kernel
theorem dX6_enter_47 : decode cX6_enter 47 = .ok (.aload_n 0, 1) := by decide +kernel
theorem dX6_enter_48 : decode cX6_enter 48 = .ok (.invokevirtual 235, 3) := by decide +kernel
theorem dX6_enter_51 : decode cX6_enter 51 = .ok (.iconst 0, 1) := by decide +kernel
theorem dX6_enter_52 : decode cX6_enter 52 = .ok (.istore_n 2, 1) := by decide +kernel
theorem dX6_enter_53 : decode cX6_enter 53 = .ok (.iload_n 2, 1) := by decide +kernel
theorem dX6_enter_54 : decode cX6_enter 54 = .ok (.bipush 32, 2) := by decide +kernel
theorem dX6_enter_56 : decode cX6_enter 56 = .ok (.if_icmp .ge 40, 3) := by decide +kernel
theorem dX6_enter_59 : decode cX6_enter 59 = .ok (.iload_n 1, 1) := by decide +kernel
theorem dX6_enter_60 : decode cX6_enter 60 = .ok (.ifCond .ne 18, 3) := by decide +kernel
theorem dX6_enter_63 : decode cX6_enter 63 = .ok (.aload_n 0, 1) := by decide +kernel
theorem dX6_enter_64 : decode cX6_enter 64 = .ok (.getfield 26, 3) := by decide +kernel
theorem dX6_enter_67 : decode cX6_enter 67 = .ok (.iload_n 2, 1) := by decide +kernel
theorem dX6_enter_68 : decode cX6_enter 68 = .ok (.aload_n 0, 1) := by decide +kernel
theorem dX6_enter_69 : decode cX6_enter 69 = .ok (.getfield 132, 3) := by decide +kernel
theorem dX6_enter_72 : decode cX6_enter 72 = .ok (.iload_n 2, 1) := by decide +kernel
theorem dX6_enter_73 : decode cX6_enter 73 = .ok (.iaload, 1) := by decide +kernel
theorem dX6_enter_74 : decode cX6_enter 74 = .ok (.iastore, 1) := by decide +kernel
theorem dX6_enter_75 : decode cX6_enter 75 = .ok (.goto 15, 3) := by decide +kernel
theorem dX6_enter_78 : decode cX6_enter 78 = .ok (.aload_n 0, 1) := by decide +kernel
theorem dX6_enter_79 : decode cX6_enter 79 = .ok (.getfield 29, 3) := by decide +kernel
theorem dX6_enter_82 : decode cX6_enter 82 = .ok (.iload_n 2, 1) := by decide +kernel
theorem dX6_enter_83 : decode cX6_enter 83 = .ok (.aload_n 0, 1) := by decide +kernel
theorem dX6_enter_84 : decode cX6_enter 84 = .ok (.getfield 132, 3) := by decide +kernel
theorem dX6_enter_87 : decode cX6_enter 87 = .ok (.iload_n 2, 1) := by decide +kernel
theorem dX6_enter_88 : decode cX6_enter 88 = .ok (.iaload, 1) := by decide +kernel
theorem dX6_enter_89 : decode cX6_enter 89 = .ok (.iastore, 1) := by decide +kernel
theorem dX6_enter_90 : decode cX6_enter 90 = .ok (.iinc 2 1, 3) := by decide +kernel
theorem dX6_enter_93 : decode cX6_enter 93 = .ok (.goto (-40), 3) := by decide +kernel
theorem dX6_enter_96 : decode cX6_enter 96 = .ok (.return_, 1) := by decide +kernel
theorem dX6_isUsers_0 : decode cX6_isUsers 0 = .ok (.aload_n 0, 1) := by decide +kernel
theorem dX6_isUsers_1 : decode cX6_isUsers 1 = .ok (.invokevirtual 232, 3) := by decide +kernel
theorem dX6_isUsers_4 : decode cX6_isUsers 4 = .ok (.aload_n 0, 1) := by decide +kernel
theorem dX6_isUsers_5 : decode cX6_isUsers 5 = .ok (.invokevirtual 235, 3) := by decide +kernel
theorem dX6_isUsers_8 : decode cX6_isUsers 8 = .ok (.iconst 1, 1) := by decide +kernel
theorem dX6_isUsers_9 : decode cX6_isUsers 9 = .ok (.istore_n 1, 1) := by decide +kernel
theorem dX6_isUsers_10 : decode cX6_isUsers 10 = .ok (.iconst 0, 1) := by decide +kernel
theorem dX6_isUsers_11 : decode cX6_isUsers 11 = .ok (.istore_n 2, 1) := by decide +kernel
theorem dX6_isUsers_12 : decode cX6_isUsers 12 = .ok (.iload_n 2, 1) := by decide +kernel
theorem dX6_isUsers_13 : decode cX6_isUsers 13 = .ok (.aload_n 0, 1) := by decide +kernel
theorem dX6_isUsers_14 : decode cX6_isUsers 14 = .ok (.getfield 16, 3) := by decide +kernel
theorem dX6_isUsers_17 : decode cX6_isUsers 17 = .ok (.iconst 2, 1) := by decide +kernel
theorem dX6_isUsers_18 : decode cX6_isUsers 18 = .ok (.if_icmp .le 8, 3) := by decide +kernel
theorem dX6_isUsers_21 : decode cX6_isUsers 21 = .ok (.bipush 16, 2) := by decide +kernel
theorem dX6_isUsers_23 : decode cX6_isUsers 23 = .ok (.goto 5, 3) := by decide +kernel
theorem dX6_isUsers_26 : decode cX6_isUsers 26 = .ok (.bipush 32, 2) := by decide +kernel
theorem dX6_isUsers_28 : decode cX6_isUsers 28 = .ok (.if_icmp .ge 34, 3) := by decide +kernel
theorem dX6_isUsers_31 : decode cX6_isUsers 31 = .ok (.iload_n 1, 1) := by decide +kernel
theorem dX6_isUsers_32 : decode cX6_isUsers 32 = .ok (.ifCond .eq 22, 3) := by decide +kernel
theorem dX6_isUsers_35 : decode cX6_isUsers 35 = .ok (.aload_n 0, 1) := by decide +kernel
theorem dX6_isUsers_36 : decode cX6_isUsers 36 = .ok (.getfield 132, 3) := by decide +kernel
theorem dX6_isUsers_39 : decode cX6_isUsers 39 = .ok (.iload_n 2, 1) := by decide +kernel
theorem dX6_isUsers_40 : decode cX6_isUsers 40 = .ok (.iaload, 1) := by decide +kernel
theorem dX6_isUsers_41 : decode cX6_isUsers 41 = .ok (.aload_n 0, 1) := by decide +kernel
theorem dX6_isUsers_42 : decode cX6_isUsers 42 = .ok (.getfield 29, 3) := by decide +kernel
theorem dX6_isUsers_45 : decode cX6_isUsers 45 = .ok (.iload_n 2, 1) := by decide +kernel
theorem dX6_isUsers_46 : decode cX6_isUsers 46 = .ok (.iaload, 1) := by decide +kernel
theorem dX6_isUsers_47 : decode cX6_isUsers 47 = .ok (.if_icmp .ne 7, 3) := by decide +kernel
theorem dX6_isUsers_50 : decode cX6_isUsers 50 = .ok (.iconst 1, 1) := by decide +kernel
theorem dX6_isUsers_51 : decode cX6_isUsers 51 = .ok (.goto 4, 3) := by decide +kernel
theorem dX6_isUsers_54 : decode cX6_isUsers 54 = .ok (.iconst 0, 1) := by decide +kernel
theorem dX6_isUsers_55 : decode cX6_isUsers 55 = .ok (.istore_n 1, 1) := by decide +kernel
theorem dX6_isUsers_56 : decode cX6_isUsers 56 = .ok (.iinc 2 1, 3) := by decide +kernel
theorem dX6_isUsers_59 : decode cX6_isUsers 59 = .ok (.goto (-47), 3) := by decide +kernel
theorem dX6_isUsers_62 : decode cX6_isUsers 62 = .ok (.iload_n 1, 1) := by decide +kernel
theorem dX6_isUsers_63 : decode cX6_isUsers 63 = .ok (.ireturn, 1) := by decide +kernel
theorem dX6_know_0 : decode cX6_know 0 = .ok (.aload_n 0, 1) := by decide +kernel
theorem dX6_know_1 : decode cX6_know 1 = .ok (.iconst 1, 1) := by decide +kernel
theorem dX6_know_2 : decode cX6_know 2 = .ok (.putfield 220, 3) := by decide +kernel
theorem dX6_know_5 : decode cX6_know 5 = .ok (.iconst 0, 1) := by decide +kernel
theorem dX6_know_6 : decode cX6_know 6 = .ok (.istore_n 1, 1) := by decide +kernel
theorem dX6_know_7 : decode cX6_know 7 = .ok (.iload_n 1, 1) := by decide +kernel
theorem dX6_know_8 : decode cX6_know 8 = .ok (.aload_n 0, 1) := by decide +kernel
theorem dX6_know_9 : decode cX6_know 9 = .ok (.getfield 20, 3) := by decide +kernel
theorem dX6_know_12 : decode cX6_know 12 = .ok (.if_icmp .ge 21, 3) := by decide +kernel
theorem dX6_know_15 : decode cX6_know 15 = .ok (.aload_n 0, 1) := by decide +kernel
theorem dX6_know_16 : decode cX6_know 16 = .ok (.getfield 41, 3) := by decide +kernel
theorem dX6_know_19 : decode cX6_know 19 = .ok (.iload_n 1, 1) := by decide +kernel
theorem dX6_know_20 : decode cX6_know 20 = .ok (.aload_n 0, 1) := by decide +kernel
theorem dX6_know_21 : decode cX6_know 21 = .ok (.getfield 126, 3) := by decide +kernel
theorem dX6_know_24 : decode cX6_know 24 = .ok (.iload_n 1, 1) := by decide +kernel
theorem dX6_know_25 : decode cX6_know 25 = .ok (.iaload, 1) := by decide +kernel
theorem dX6_know_26 : decode cX6_know 26 = .ok (.iastore, 1) := by decide +kernel
theorem dX6_know_27 : decode cX6_know 27 = .ok (.iinc 1 1, 3) := by decide +kernel
theorem dX6_know_30 : decode cX6_know 30 = .ok (.goto (-23), 3) := by decide +kernel
theorem dX6_know_33 : decode cX6_know 33 = .ok (.return_, 1) := by decide +kernel
theorem dX6_open_0 : decode cX6_open 0 = .ok (.aload_n 0, 1) := by decide +kernel
theorem dX6_open_1 : decode cX6_open 1 = .ok (.iconst 0, 1) := by decide +kernel
theorem dX6_open_2 : decode cX6_open 2 = .ok (.putfield 153, 3) := by decide +kernel
theorem dX6_open_5 : decode cX6_open 5 = .ok (.aload_n 0, 1) := by decide +kernel
theorem dX6_open_6 : decode cX6_open 6 = .ok (.iconst 0, 1) := by decide +kernel
theorem dX6_open_7 : decode cX6_open 7 = .ok (.invokevirtual 223, 3) := by decide +kernel
theorem dX6_open_10 : decode cX6_open 10 = .ok (.aload_n 0, 1) := by decide +kernel
theorem dX6_open_11 : decode cX6_open 11 = .ok (.invokevirtual 238, 3) := by decide +kernel
theorem dX6_open_14 : decode cX6_open 14 = .ok (.ifCond .eq 9, 3) := by decide +kernel
theorem dX6_open_17 : decode cX6_open 17 = .ok (.aload_n 0, 1) := by decide +kernel
theorem dX6_open_18 : decode cX6_open 18 = .ok (.invokevirtual 242, 3) := by decide +kernel
theorem dX6_open_21 : decode cX6_open 21 = .ok (.iconst 1, 1) := by decide +kernel
theorem dX6_open_22 : decode cX6_open 22 = .ok (.ireturn, 1) := by decide +kernel
theorem dX6_open_23 : decode cX6_open 23 = .ok (.aload_n 0, 1) := by decide +kernel
theorem dX6_open_24 : decode cX6_open 24 = .ok (.iconst 0, 1) := by decide +kernel
theorem dX6_open_25 : decode cX6_open 25 = .ok (.invokevirtual 223, 3) := by decide +kernel
theorem dX6_open_28 : decode cX6_open 28 = .ok (.aload_n 0, 1) := by decide +kernel
theorem dX6_open_29 : decode cX6_open 29 = .ok (.invokevirtual 226, 3) := by decide +kernel
theorem dX6_open_32 : decode cX6_open 32 = .ok (.iconst 0, 1) := by decide +kernel
theorem dX6_open_33 : decode cX6_open 33 = .ok (.istore_n 1, 1) := by decide +kernel
theorem dX6_open_34 : decode cX6_open 34 = .ok (.iload_n 1, 1) := by decide +kernel
theorem dX6_open_35 : decode cX6_open 35 = .ok (.bipush 32, 2) := by decide +kernel
theorem dX6_open_37 : decode cX6_open 37 = .ok (.if_icmp .ge 21, 3) := by decide +kernel
theorem dX6_open_40 : decode cX6_open 40 = .ok (.aload_n 0, 1) := by decide +kernel
theorem dX6_open_41 : decode cX6_open 41 = .ok (.getfield 132, 3) := by decide +kernel
theorem dX6_open_44 : decode cX6_open 44 = .ok (.iload_n 1, 1) := by decide +kernel
theorem dX6_open_45 : decode cX6_open 45 = .ok (.aload_n 0, 1) := by decide +kernel
theorem dX6_open_46 : decode cX6_open 46 = .ok (.getfield 26, 3) := by decide +kernel
theorem dX6_open_49 : decode cX6_open 49 = .ok (.iload_n 1, 1) := by decide +kernel
theorem dX6_open_50 : decode cX6_open 50 = .ok (.iaload, 1) := by decide +kernel
theorem dX6_open_51 : decode cX6_open 51 = .ok (.iastore, 1) := by decide +kernel
theorem dX6_open_52 : decode cX6_open 52 = .ok (.iinc 1 1, 3) := by decide +kernel
theorem dX6_open_55 : decode cX6_open 55 = .ok (.goto (-21), 3) := by decide +kernel
theorem dX6_open_58 : decode cX6_open 58 = .ok (.aload_n 0, 1) := by decide +kernel
theorem dX6_open_59 : decode cX6_open 59 = .ok (.getfield 16, 3) := by decide +kernel
theorem dX6_open_62 : decode cX6_open 62 = .ok (.iconst 2, 1) := by decide +kernel
theorem dX6_open_63 : decode cX6_open 63 = .ok (.if_icmp .le 8, 3) := by decide +kernel
theorem dX6_open_66 : decode cX6_open 66 = .ok (.bipush 19, 2) := by decide +kernel
theorem dX6_open_68 : decode cX6_open 68 = .ok (.goto 4, 3) := by decide +kernel
theorem dX6_open_71 : decode cX6_open 71 = .ok (.iconst 0, 1) := by decide +kernel
theorem dX6_open_72 : decode cX6_open 72 = .ok (.istore_n 1, 1) := by decide +kernel
theorem dX6_open_73 : decode cX6_open 73 = .ok (.iload_n 1, 1) := by decide +kernel
theorem dX6_open_74 : decode cX6_open 74 = .ok (.ifCond .lt 16, 3) := by decide +kernel
theorem dX6_open_77 : decode cX6_open 77 = .ok (.aload_n 0, 1) := by decide +kernel
theorem dX6_open_78 : decode cX6_open 78 = .ok (.iload_n 1, 1) := by decide +kernel
theorem dX6_open_79 : decode cX6_open 79 = .ok (.bipush 32, 2) := by decide +kernel
theorem dX6_open_81 : decode cX6_open 81 = .ok (.invokevirtual 217, 3) := by decide +kernel
theorem dX6_open_84 : decode cX6_open 84 = .ok (.iinc 1 (-1), 3) := by decide +kernel
theorem dX6_open_87 : decode cX6_open 87 = .ok (.goto (-14), 3) := by decide +kernel
theorem dX6_open_90 : decode cX6_open 90 = .ok (.aload_n 0, 1) := by decide +kernel
theorem dX6_open_91 : decode cX6_open 91 = .ok (.iconst 3, 1) := by decide +kernel
theorem dX6_open_92 : decode cX6_open 92 = .ok (.invokevirtual 223, 3) := by decide +kernel
theorem dX6_open_95 : decode cX6_open 95 = .ok (.aload_n 0, 1) := by decide +kernel
theorem dX6_open_96 : decode cX6_open 96 = .ok (.invokevirtual 238, 3) := by decide +kernel
theorem dX6_open_99 : decode cX6_open 99 = .ok (.ifCond .ne 5, 3) := by decide +kernel
theorem dX6_open_102 : decode cX6_open 102 = .ok (.iconst 0, 1) := by decide +kernel
theorem dX6_open_103 : decode cX6_open 103 = .ok (.ireturn, 1) := by decide +kernel
theorem dX6_open_104 : decode cX6_open 104 = .ok (.aload_n 0, 1) := by decide +kernel
theorem dX6_open_105 : decode cX6_open 105 = .ok (.invokevirtual 242, 3) := by decide +kernel
theorem dX6_open_108 : decode cX6_open 108 = .ok (.iconst 2, 1) := by decide +kernel
theorem dX6_open_109 : decode cX6_open 109 = .ok (.ireturn, 1) := by decide +kernel
theorem dX6_key_0 : decode cX6_key 0 = .ok (.aload_n 0, 1) := by decide +kernel
theorem dX6_key_1 : decode cX6_key 1 = .ok (.iconst 0, 1) := by decide +kernel
theorem dX6_key_2 : decode cX6_key 2 = .ok (.putfield 153, 3) := by decide +kernel
theorem dX6_key_5 : decode cX6_key 5 = .ok (.aload_n 0, 1) := by decide +kernel
theorem dX6_key_6 : decode cX6_key 6 = .ok (.getfield 220, 3) := by decide +kernel
theorem dX6_key_9 : decode cX6_key 9 = .ok (.ifCond .eq 24, 3) := by decide +kernel
theorem dX6_key_12 : decode cX6_key 12 = .ok (.iload_n 1, 1) := by decide +kernel
theorem dX6_key_13 : decode cX6_key 13 = .ok (.ifCond .lt 20, 3) := by decide +kernel
theorem dX6_key_16 : decode cX6_key 16 = .ok (.iload_n 1, 1) := by decide +kernel
theorem dX6_key_17 : decode cX6_key 17 = .ok (.aload_n 0, 1) := by decide +kernel
theorem dX6_key_18 : decode cX6_key 18 = .ok (.getfield 20, 3) := by decide +kernel
theorem dX6_key_21 : decode cX6_key 21 = .ok (.if_icmp .ge 12, 3) := by decide +kernel
theorem dX6_key_24 : decode cX6_key 24 = .ok (.aload_n 0, 1) := by decide +kernel
theorem dX6_key_25 : decode cX6_key 25 = .ok (.getfield 41, 3) := by decide +kernel
theorem dX6_key_28 : decode cX6_key 28 = .ok (.iload_n 1, 1) := by decide +kernel
theorem dX6_key_29 : decode cX6_key 29 = .ok (.iaload, 1) := by decide +kernel
theorem dX6_key_30 : decode cX6_key 30 = .ok (.goto 4, 3) := by decide +kernel
theorem dX6_key_33 : decode cX6_key 33 = .ok (.iconst (-1), 1) := by decide +kernel
theorem dX6_key_34 : decode cX6_key 34 = .ok (.ireturn, 1) := by decide +kernel
theorem dX6_digest_0 : decode cX6_digest 0 = .ok (.aload_n 0, 1) := by decide +kernel
theorem dX6_digest_1 : decode cX6_digest 1 = .ok (.iconst 0, 1) := by decide +kernel
theorem dX6_digest_2 : decode cX6_digest 2 = .ok (.putfield 153, 3) := by decide +kernel
theorem dX6_digest_5 : decode cX6_digest 5 = .ok (.iconst 0, 1) := by decide +kernel
theorem dX6_digest_6 : decode cX6_digest 6 = .ok (.istore_n 1, 1) := by decide +kernel
theorem dX6_digest_7 : decode cX6_digest 7 = .ok (.iload_n 1, 1) := by decide +kernel
theorem dX6_digest_8 : decode cX6_digest 8 = .ok (.aload_n 0, 1) := by decide +kernel
theorem dX6_digest_9 : decode cX6_digest 9 = .ok (.getfield 156, 3) := by decide +kernel
theorem dX6_digest_12 : decode cX6_digest 12 = .ok (.if_icmp .ge 19, 3) := by decide +kernel
theorem dX6_digest_15 : decode cX6_digest 15 = .ok (.aload_n 0, 1) := by decide +kernel
theorem dX6_digest_16 : decode cX6_digest 16 = .ok (.aload_n 0, 1) := by decide +kernel
theorem dX6_digest_17 : decode cX6_digest 17 = .ok (.getfield 7, 3) := by decide +kernel
theorem dX6_digest_20 : decode cX6_digest 20 = .ok (.iload_n 1, 1) := by decide +kernel
theorem dX6_digest_21 : decode cX6_digest 21 = .ok (.iaload, 1) := by decide +kernel
theorem dX6_digest_22 : decode cX6_digest 22 = .ok (.invokevirtual 174, 3) := by decide +kernel
theorem dX6_digest_25 : decode cX6_digest 25 = .ok (.iinc 1 1, 3) := by decide +kernel
theorem dX6_digest_28 : decode cX6_digest 28 = .ok (.goto (-21), 3) := by decide +kernel
theorem dX6_digest_31 : decode cX6_digest 31 = .ok (.aload_n 0, 1) := by decide +kernel
theorem dX6_digest_32 : decode cX6_digest 32 = .ok (.invokevirtual 185, 3) := by decide +kernel
theorem dX6_digest_35 : decode cX6_digest 35 = .ok (.aload_n 0, 1) := by decide +kernel
theorem dX6_digest_36 : decode cX6_digest 36 = .ok (.bipush 16, 2) := by decide +kernel
theorem dX6_digest_38 : decode cX6_digest 38 = .ok (.putfield 194, 3) := by decide +kernel
theorem dX6_digest_41 : decode cX6_digest 41 = .ok (.iconst 0, 1) := by decide +kernel
theorem dX6_digest_42 : decode cX6_digest 42 = .ok (.istore_n 1, 1) := by decide +kernel
theorem dX6_digest_43 : decode cX6_digest 43 = .ok (.iload_n 1, 1) := by decide +kernel
theorem dX6_digest_44 : decode cX6_digest 44 = .ok (.bipush 16, 2) := by decide +kernel
theorem dX6_digest_46 : decode cX6_digest 46 = .ok (.if_icmp .ge 21, 3) := by decide +kernel
theorem dX6_digest_49 : decode cX6_digest 49 = .ok (.aload_n 0, 1) := by decide +kernel
theorem dX6_digest_50 : decode cX6_digest 50 = .ok (.getfield 13, 3) := by decide +kernel
theorem dX6_digest_53 : decode cX6_digest 53 = .ok (.iload_n 1, 1) := by decide +kernel
theorem dX6_digest_54 : decode cX6_digest 54 = .ok (.aload_n 0, 1) := by decide +kernel
theorem dX6_digest_55 : decode cX6_digest 55 = .ok (.getfield 47, 3) := by decide +kernel
theorem dX6_digest_58 : decode cX6_digest 58 = .ok (.iload_n 1, 1) := by decide +kernel
theorem dX6_digest_59 : decode cX6_digest 59 = .ok (.iaload, 1) := by decide +kernel
theorem dX6_digest_60 : decode cX6_digest 60 = .ok (.iastore, 1) := by decide +kernel
theorem dX6_digest_61 : decode cX6_digest 61 = .ok (.iinc 1 1, 3) := by decide +kernel
theorem dX6_digest_64 : decode cX6_digest 64 = .ok (.goto (-21), 3) := by decide +kernel
theorem dX6_digest_67 : decode cX6_digest 67 = .ok (.return_, 1) := by decide +kernel
theorem dX6_doubled_0 : decode cX6_doubled 0 = .ok (.iload_n 0, 1) := by decide +kernel
theorem dX6_doubled_1 : decode cX6_doubled 1 = .ok (.sipush 128, 3) := by decide +kernel
theorem dX6_doubled_4 : decode cX6_doubled 4 = .ok (.if_icmp .ge 9, 3) := by decide +kernel
theorem dX6_doubled_7 : decode cX6_doubled 7 = .ok (.iconst 2, 1) := by decide +kernel
theorem dX6_doubled_8 : decode cX6_doubled 8 = .ok (.iload_n 0, 1) := by decide +kernel
theorem dX6_doubled_9 : decode cX6_doubled 9 = .ok (.imul, 1) := by decide +kernel
theorem dX6_doubled_10 : decode cX6_doubled 10 = .ok (.goto 13, 3) := by decide +kernel
theorem dX6_doubled_13 : decode cX6_doubled 13 = .ok (.iconst 2, 1) := by decide +kernel
theorem dX6_doubled_14 : decode cX6_doubled 14 = .ok (.iload_n 0, 1) := by decide +kernel
theorem dX6_doubled_15 : decode cX6_doubled 15 = .ok (.imul, 1) := by decide +kernel
theorem dX6_doubled_16 : decode cX6_doubled 16 = .ok (.sipush 256, 3) := by decide +kernel
theorem dX6_doubled_19 : decode cX6_doubled 19 = .ok (.isub, 1) := by decide +kernel
theorem dX6_doubled_20 : decode cX6_doubled 20 = .ok (.bipush 27, 2) := by decide +kernel
theorem dX6_doubled_22 : decode cX6_doubled 22 = .ok (.ixor, 1) := by decide +kernel
theorem dX6_doubled_23 : decode cX6_doubled 23 = .ok (.ireturn, 1) := by decide +kernel
theorem dX6_product_0 : decode cX6_product 0 = .ok (.iconst 0, 1) := by decide +kernel
theorem dX6_product_1 : decode cX6_product 1 = .ok (.istore_n 2, 1) := by decide +kernel
theorem dX6_product_2 : decode cX6_product 2 = .ok (.iload_n 0, 1) := by decide +kernel
theorem dX6_product_3 : decode cX6_product 3 = .ok (.istore_n 3, 1) := by decide +kernel
theorem dX6_product_4 : decode cX6_product 4 = .ok (.iconst 0, 1) := by decide +kernel
theorem dX6_product_5 : decode cX6_product 5 = .ok (.istore 4, 2) := by decide +kernel
theorem dX6_product_7 : decode cX6_product 7 = .ok (.iload 4, 2) := by decide +kernel
theorem dX6_product_9 : decode cX6_product 9 = .ok (.bipush 8, 2) := by decide +kernel
theorem dX6_product_11 : decode cX6_product 11 = .ok (.if_icmp .ge 32, 3) := by decide +kernel
theorem dX6_product_14 : decode cX6_product 14 = .ok (.iload_n 1, 1) := by decide +kernel
theorem dX6_product_15 : decode cX6_product 15 = .ok (.iload 4, 2) := by decide +kernel
theorem dX6_product_17 : decode cX6_product 17 = .ok (.ishr, 1) := by decide +kernel
theorem dX6_product_18 : decode cX6_product 18 = .ok (.iconst 1, 1) := by decide +kernel
theorem dX6_product_19 : decode cX6_product 19 = .ok (.iand, 1) := by decide +kernel
theorem dX6_product_20 : decode cX6_product 20 = .ok (.iconst 1, 1) := by decide +kernel
theorem dX6_product_21 : decode cX6_product 21 = .ok (.if_icmp .ne 9, 3) := by decide +kernel
theorem dX6_product_24 : decode cX6_product 24 = .ok (.iload_n 2, 1) := by decide +kernel
theorem dX6_product_25 : decode cX6_product 25 = .ok (.iload_n 3, 1) := by decide +kernel
theorem dX6_product_26 : decode cX6_product 26 = .ok (.ixor, 1) := by decide +kernel
theorem dX6_product_27 : decode cX6_product 27 = .ok (.goto 4, 3) := by decide +kernel
theorem dX6_product_30 : decode cX6_product 30 = .ok (.iload_n 2, 1) := by decide +kernel
theorem dX6_product_31 : decode cX6_product 31 = .ok (.istore_n 2, 1) := by decide +kernel
theorem dX6_product_32 : decode cX6_product 32 = .ok (.iload_n 3, 1) := by decide +kernel
theorem dX6_product_33 : decode cX6_product 33 = .ok (.invokestatic 245, 3) := by decide +kernel
theorem dX6_product_36 : decode cX6_product 36 = .ok (.istore_n 3, 1) := by decide +kernel
theorem dX6_product_37 : decode cX6_product 37 = .ok (.iinc 4 1, 3) := by decide +kernel
theorem dX6_product_40 : decode cX6_product 40 = .ok (.goto (-33), 3) := by decide +kernel
theorem dX6_product_43 : decode cX6_product 43 = .ok (.iload_n 2, 1) := by decide +kernel
theorem dX6_product_44 : decode cX6_product 44 = .ok (.ireturn, 1) := by decide +kernel
theorem dX6_swapped_0 : decode cX6_swapped 0 = .ok (.iconst 0, 1) := by decide +kernel
theorem dX6_swapped_1 : decode cX6_swapped 1 = .ok (.istore_n 1, 1) := by decide +kernel
theorem dX6_swapped_2 : decode cX6_swapped 2 = .ok (.iconst 1, 1) := by decide +kernel
theorem dX6_swapped_3 : decode cX6_swapped 3 = .ok (.istore_n 2, 1) := by decide +kernel
theorem dX6_swapped_4 : decode cX6_swapped 4 = .ok (.iload_n 2, 1) := by decide +kernel
theorem dX6_swapped_5 : decode cX6_swapped 5 = .ok (.sipush 256, 3) := by decide +kernel
theorem dX6_swapped_8 : decode cX6_swapped 8 = .ok (.if_icmp .ge 32, 3) := by decide +kernel
theorem dX6_swapped_11 : decode cX6_swapped 11 = .ok (.iload_n 0, 1) := by decide +kernel
theorem dX6_swapped_12 : decode cX6_swapped 12 = .ok (.ifCond .le 28, 3) := by decide +kernel
theorem dX6_swapped_15 : decode cX6_swapped 15 = .ok (.iload_n 1, 1) := by decide +kernel
theorem dX6_swapped_16 : decode cX6_swapped 16 = .ok (.ifCond .ne 24, 3) := by decide +kernel
theorem dX6_swapped_19 : decode cX6_swapped 19 = .ok (.iload_n 0, 1) := by decide +kernel
theorem dX6_swapped_20 : decode cX6_swapped 20 = .ok (.iload_n 2, 1) := by decide +kernel
theorem dX6_swapped_21 : decode cX6_swapped 21 = .ok (.invokestatic 248, 3) := by decide +kernel
theorem dX6_swapped_24 : decode cX6_swapped 24 = .ok (.iconst 1, 1) := by decide +kernel
theorem dX6_swapped_25 : decode cX6_swapped 25 = .ok (.if_icmp .ne 7, 3) := by decide +kernel
theorem dX6_swapped_28 : decode cX6_swapped 28 = .ok (.iload_n 2, 1) := by decide +kernel
theorem dX6_swapped_29 : decode cX6_swapped 29 = .ok (.goto 4, 3) := by decide +kernel
theorem dX6_swapped_32 : decode cX6_swapped 32 = .ok (.iconst 0, 1) := by decide +kernel
theorem dX6_swapped_33 : decode cX6_swapped 33 = .ok (.istore_n 1, 1) := by decide +kernel
theorem dX6_swapped_34 : decode cX6_swapped 34 = .ok (.iinc 2 1, 3) := by decide +kernel
theorem dX6_swapped_37 : decode cX6_swapped 37 = .ok (.goto (-33), 3) := by decide +kernel
theorem dX6_swapped_40 : decode cX6_swapped 40 = .ok (.iload_n 1, 1) := by decide +kernel
theorem dX6_swapped_41 : decode cX6_swapped 41 = .ok (.istore_n 2, 1) := by decide +kernel
theorem dX6_swapped_42 : decode cX6_swapped 42 = .ok (.iconst 1, 1) := by decide +kernel
theorem dX6_swapped_43 : decode cX6_swapped 43 = .ok (.istore_n 3, 1) := by decide +kernel
theorem dX6_swapped_44 : decode cX6_swapped 44 = .ok (.iload_n 3, 1) := by decide +kernel
theorem dX6_swapped_45 : decode cX6_swapped 45 = .ok (.iconst 5, 1) := by decide +kernel
theorem dX6_swapped_46 : decode cX6_swapped 46 = .ok (.if_icmp .ge 26, 3) := by decide +kernel
theorem dX6_swapped_49 : decode cX6_swapped 49 = .ok (.iload_n 2, 1) := by decide +kernel
theorem dX6_swapped_50 : decode cX6_swapped 50 = .ok (.iload_n 1, 1) := by decide +kernel
theorem dX6_swapped_51 : decode cX6_swapped 51 = .ok (.iload_n 3, 1) := by decide +kernel
theorem dX6_swapped_52 : decode cX6_swapped 52 = .ok (.ishl, 1) := by decide +kernel
theorem dX6_swapped_53 : decode cX6_swapped 53 = .ok (.iload_n 1, 1) := by decide +kernel
theorem dX6_swapped_54 : decode cX6_swapped 54 = .ok (.bipush 8, 2) := by decide +kernel
theorem dX6_swapped_56 : decode cX6_swapped 56 = .ok (.iload_n 3, 1) := by decide +kernel
theorem dX6_swapped_57 : decode cX6_swapped 57 = .ok (.isub, 1) := by decide +kernel
theorem dX6_swapped_58 : decode cX6_swapped 58 = .ok (.ishr, 1) := by decide +kernel
theorem dX6_swapped_59 : decode cX6_swapped 59 = .ok (.ior, 1) := by decide +kernel
theorem dX6_swapped_60 : decode cX6_swapped 60 = .ok (.sipush 255, 3) := by decide +kernel
theorem dX6_swapped_63 : decode cX6_swapped 63 = .ok (.iand, 1) := by decide +kernel
theorem dX6_swapped_64 : decode cX6_swapped 64 = .ok (.ixor, 1) := by decide +kernel
theorem dX6_swapped_65 : decode cX6_swapped 65 = .ok (.istore_n 2, 1) := by decide +kernel
theorem dX6_swapped_66 : decode cX6_swapped 66 = .ok (.iinc 3 1, 3) := by decide +kernel
theorem dX6_swapped_69 : decode cX6_swapped 69 = .ok (.goto (-25), 3) := by decide +kernel
theorem dX6_swapped_72 : decode cX6_swapped 72 = .ok (.iload_n 2, 1) := by decide +kernel
theorem dX6_swapped_73 : decode cX6_swapped 73 = .ok (.bipush 99, 2) := by decide +kernel
theorem dX6_swapped_75 : decode cX6_swapped 75 = .ok (.ixor, 1) := by decide +kernel
theorem dX6_swapped_76 : decode cX6_swapped 76 = .ok (.ireturn, 1) := by decide +kernel
theorem dX6_unswapped_0 : decode cX6_unswapped 0 = .ok (.aload_n 0, 1) := by decide +kernel
theorem dX6_unswapped_1 : decode cX6_unswapped 1 = .ok (.getfield 150, 3) := by decide +kernel
theorem dX6_unswapped_4 : decode cX6_unswapped 4 = .ok (.iload_n 1, 1) := by decide +kernel
theorem dX6_unswapped_5 : decode cX6_unswapped 5 = .ok (.iaload, 1) := by decide +kernel
theorem dX6_unswapped_6 : decode cX6_unswapped 6 = .ok (.ireturn, 1) := by decide +kernel
theorem dX6_makeSwaps_0 : decode cX6_makeSwaps 0 = .ok (.iconst 0, 1) := by decide +kernel
theorem dX6_makeSwaps_1 : decode cX6_makeSwaps 1 = .ok (.istore_n 1, 1) := by decide +kernel
theorem dX6_makeSwaps_2 : decode cX6_makeSwaps 2 = .ok (.iload_n 1, 1) := by decide +kernel
theorem dX6_makeSwaps_3 : decode cX6_makeSwaps 3 = .ok (.sipush 256, 3) := by decide +kernel
theorem dX6_makeSwaps_6 : decode cX6_makeSwaps 6 = .ok (.if_icmp .ge 31, 3) := by decide +kernel
theorem dX6_makeSwaps_9 : decode cX6_makeSwaps 9 = .ok (.aload_n 0, 1) := by decide +kernel
theorem dX6_makeSwaps_10 : decode cX6_makeSwaps 10 = .ok (.getfield 147, 3) := by decide +kernel
theorem dX6_makeSwaps_13 : decode cX6_makeSwaps 13 = .ok (.iload_n 1, 1) := by decide +kernel
theorem dX6_makeSwaps_14 : decode cX6_makeSwaps 14 = .ok (.iload_n 1, 1) := by decide +kernel
theorem dX6_makeSwaps_15 : decode cX6_makeSwaps 15 = .ok (.invokestatic 251, 3) := by decide +kernel
theorem dX6_makeSwaps_18 : decode cX6_makeSwaps 18 = .ok (.iastore, 1) := by decide +kernel
theorem dX6_makeSwaps_19 : decode cX6_makeSwaps 19 = .ok (.aload_n 0, 1) := by decide +kernel
theorem dX6_makeSwaps_20 : decode cX6_makeSwaps 20 = .ok (.getfield 150, 3) := by decide +kernel
theorem dX6_makeSwaps_23 : decode cX6_makeSwaps 23 = .ok (.aload_n 0, 1) := by decide +kernel
theorem dX6_makeSwaps_24 : decode cX6_makeSwaps 24 = .ok (.getfield 147, 3) := by decide +kernel
theorem dX6_makeSwaps_27 : decode cX6_makeSwaps 27 = .ok (.iload_n 1, 1) := by decide +kernel
theorem dX6_makeSwaps_28 : decode cX6_makeSwaps 28 = .ok (.iaload, 1) := by decide +kernel
theorem dX6_makeSwaps_29 : decode cX6_makeSwaps 29 = .ok (.iload_n 1, 1) := by decide +kernel
theorem dX6_makeSwaps_30 : decode cX6_makeSwaps 30 = .ok (.iastore, 1) := by decide +kernel
theorem dX6_makeSwaps_31 : decode cX6_makeSwaps 31 = .ok (.iinc 1 1, 3) := by decide +kernel
theorem dX6_makeSwaps_34 : decode cX6_makeSwaps 34 = .ok (.goto (-32), 3) := by decide +kernel
theorem dX6_makeSwaps_37 : decode cX6_makeSwaps 37 = .ok (.return_, 1) := by decide +kernel
theorem dX6_makeColumns_0 : decode cX6_makeColumns 0 = .ok (.aload_n 0, 1) := by decide +kernel
theorem dX6_makeColumns_1 : decode cX6_makeColumns 1 = .ok (.invokevirtual 254, 3) := by decide +kernel
theorem dX6_makeColumns_4 : decode cX6_makeColumns 4 = .ok (.iconst 0, 1) := by decide +kernel
theorem dX6_makeColumns_5 : decode cX6_makeColumns 5 = .ok (.istore_n 1, 1) := by decide +kernel
theorem dX6_makeColumns_6 : decode cX6_makeColumns 6 = .ok (.iload_n 1, 1) := by decide +kernel
theorem dX6_makeColumns_7 : decode cX6_makeColumns 7 = .ok (.bipush 16, 2) := by decide +kernel
theorem dX6_makeColumns_9 : decode cX6_makeColumns 9 = .ok (.if_icmp .ge 33, 3) := by decide +kernel
theorem dX6_makeColumns_12 : decode cX6_makeColumns 12 = .ok (.aload_n 0, 1) := by decide +kernel
theorem dX6_makeColumns_13 : decode cX6_makeColumns 13 = .ok (.getfield 138, 3) := by decide +kernel
theorem dX6_makeColumns_16 : decode cX6_makeColumns 16 = .ok (.iload_n 1, 1) := by decide +kernel
theorem dX6_makeColumns_17 : decode cX6_makeColumns 17 = .ok (.iload_n 1, 1) := by decide +kernel
theorem dX6_makeColumns_18 : decode cX6_makeColumns 18 = .ok (.aload_n 0, 1) := by decide +kernel
theorem dX6_makeColumns_19 : decode cX6_makeColumns 19 = .ok (.getfield 188, 3) := by decide +kernel
theorem dX6_makeColumns_22 : decode cX6_makeColumns 22 = .ok (.if_icmp .ge 12, 3) := by decide +kernel
theorem dX6_makeColumns_25 : decode cX6_makeColumns 25 = .ok (.aload_n 0, 1) := by decide +kernel
theorem dX6_makeColumns_26 : decode cX6_makeColumns 26 = .ok (.getfield 126, 3) := by decide +kernel
theorem dX6_makeColumns_29 : decode cX6_makeColumns 29 = .ok (.iload_n 1, 1) := by decide +kernel
theorem dX6_makeColumns_30 : decode cX6_makeColumns 30 = .ok (.iaload, 1) := by decide +kernel
theorem dX6_makeColumns_31 : decode cX6_makeColumns 31 = .ok (.goto 4, 3) := by decide +kernel
theorem dX6_makeColumns_34 : decode cX6_makeColumns 34 = .ok (.iconst 0, 1) := by decide +kernel
theorem dX6_makeColumns_35 : decode cX6_makeColumns 35 = .ok (.iastore, 1) := by decide +kernel
theorem dX6_makeColumns_36 : decode cX6_makeColumns 36 = .ok (.iinc 1 1, 3) := by decide +kernel
theorem dX6_makeColumns_39 : decode cX6_makeColumns 39 = .ok (.goto (-33), 3) := by decide +kernel
theorem dX6_makeColumns_42 : decode cX6_makeColumns 42 = .ok (.iconst 1, 1) := by decide +kernel
theorem dX6_makeColumns_43 : decode cX6_makeColumns 43 = .ok (.istore_n 1, 1) := by decide +kernel
theorem dX6_makeColumns_44 : decode cX6_makeColumns 44 = .ok (.iconst 4, 1) := by decide +kernel
theorem dX6_makeColumns_45 : decode cX6_makeColumns 45 = .ok (.istore_n 2, 1) := by decide +kernel
theorem dX6_makeColumns_46 : decode cX6_makeColumns 46 = .ok (.iload_n 2, 1) := by decide +kernel
theorem dX6_makeColumns_47 : decode cX6_makeColumns 47 = .ok (.bipush 44, 2) := by decide +kernel
theorem dX6_makeColumns_49 : decode cX6_makeColumns 49 = .ok (.if_icmp .ge 128, 3) := by decide +kernel
theorem dX6_makeColumns_52 : decode cX6_makeColumns 52 = .ok (.iconst 0, 1) := by decide +kernel
theorem dX6_makeColumns_53 : decode cX6_makeColumns 53 = .ok (.istore_n 3, 1) := by decide +kernel
theorem dX6_makeColumns_54 : decode cX6_makeColumns 54 = .ok (.iload_n 3, 1) := by decide +kernel
theorem dX6_makeColumns_55 : decode cX6_makeColumns 55 = .ok (.iconst 4, 1) := by decide +kernel
theorem dX6_makeColumns_56 : decode cX6_makeColumns 56 = .ok (.if_icmp .ge 100, 3) := by decide +kernel
theorem dX6_makeColumns_59 : decode cX6_makeColumns 59 = .ok (.iload_n 2, 1) := by decide +kernel
theorem dX6_makeColumns_60 : decode cX6_makeColumns 60 = .ok (.iconst 4, 1) := by decide +kernel
theorem dX6_makeColumns_61 : decode cX6_makeColumns 61 = .ok (.irem, 1) := by decide +kernel
theorem dX6_makeColumns_62 : decode cX6_makeColumns 62 = .ok (.ifCond .ne 27, 3) := by decide +kernel
theorem dX6_makeColumns_65 : decode cX6_makeColumns 65 = .ok (.aload_n 0, 1) := by decide +kernel
theorem dX6_makeColumns_66 : decode cX6_makeColumns 66 = .ok (.getfield 147, 3) := by decide +kernel
theorem dX6_makeColumns_69 : decode cX6_makeColumns 69 = .ok (.aload_n 0, 1) := by decide +kernel
theorem dX6_makeColumns_70 : decode cX6_makeColumns 70 = .ok (.getfield 138, 3) := by decide +kernel
theorem dX6_makeColumns_73 : decode cX6_makeColumns 73 = .ok (.iconst 4, 1) := by decide +kernel
theorem dX6_makeColumns_74 : decode cX6_makeColumns 74 = .ok (.iload_n 2, 1) := by decide +kernel
theorem dX6_makeColumns_75 : decode cX6_makeColumns 75 = .ok (.imul, 1) := by decide +kernel
theorem dX6_makeColumns_76 : decode cX6_makeColumns 76 = .ok (.iconst 4, 1) := by decide +kernel
theorem dX6_makeColumns_77 : decode cX6_makeColumns 77 = .ok (.isub, 1) := by decide +kernel
theorem dX6_makeColumns_78 : decode cX6_makeColumns 78 = .ok (.iload_n 3, 1) := by decide +kernel
theorem dX6_makeColumns_79 : decode cX6_makeColumns 79 = .ok (.iconst 1, 1) := by decide +kernel
theorem dX6_makeColumns_80 : decode cX6_makeColumns 80 = .ok (.iadd, 1) := by decide +kernel
theorem dX6_makeColumns_81 : decode cX6_makeColumns 81 = .ok (.iconst 4, 1) := by decide +kernel
theorem dX6_makeColumns_82 : decode cX6_makeColumns 82 = .ok (.irem, 1) := by decide +kernel
theorem dX6_makeColumns_83 : decode cX6_makeColumns 83 = .ok (.iadd, 1) := by decide +kernel
theorem dX6_makeColumns_84 : decode cX6_makeColumns 84 = .ok (.iaload, 1) := by decide +kernel
theorem dX6_makeColumns_85 : decode cX6_makeColumns 85 = .ok (.iaload, 1) := by decide +kernel
theorem dX6_makeColumns_86 : decode cX6_makeColumns 86 = .ok (.goto 15, 3) := by decide +kernel
theorem dX6_makeColumns_89 : decode cX6_makeColumns 89 = .ok (.aload_n 0, 1) := by decide +kernel
theorem dX6_makeColumns_90 : decode cX6_makeColumns 90 = .ok (.getfield 138, 3) := by decide +kernel
theorem dX6_makeColumns_93 : decode cX6_makeColumns 93 = .ok (.iconst 4, 1) := by decide +kernel
theorem dX6_makeColumns_94 : decode cX6_makeColumns 94 = .ok (.iload_n 2, 1) := by decide +kernel
theorem dX6_makeColumns_95 : decode cX6_makeColumns 95 = .ok (.imul, 1) := by decide +kernel
theorem dX6_makeColumns_96 : decode cX6_makeColumns 96 = .ok (.iconst 4, 1) := by decide +kernel
theorem dX6_makeColumns_97 : decode cX6_makeColumns 97 = .ok (.isub, 1) := by decide +kernel
theorem dX6_makeColumns_98 : decode cX6_makeColumns 98 = .ok (.iload_n 3, 1) := by decide +kernel
theorem dX6_makeColumns_99 : decode cX6_makeColumns 99 = .ok (.iadd, 1) := by decide +kernel
theorem dX6_makeColumns_100 : decode cX6_makeColumns 100 = .ok (.iaload, 1) := by decide +kernel
theorem dX6_makeColumns_101 : decode cX6_makeColumns 101 = .ok (.istore 4, 2) := by decide +kernel
theorem dX6_makeColumns_103 : decode cX6_makeColumns 103 = .ok (.iload_n 2, 1) := by decide +kernel
theorem dX6_makeColumns_104 : decode cX6_makeColumns 104 = .ok (.iconst 4, 1) := by decide +kernel
theorem dX6_makeColumns_105 : decode cX6_makeColumns 105 = .ok (.irem, 1) := by decide +kernel
theorem dX6_makeColumns_106 : decode cX6_makeColumns 106 = .ok (.ifCond .ne 14, 3) := by decide +kernel
theorem dX6_makeColumns_109 : decode cX6_makeColumns 109 = .ok (.iload_n 3, 1) := by decide +kernel
theorem dX6_makeColumns_110 : decode cX6_makeColumns 110 = .ok (.ifCond .ne 10, 3) := by decide +kernel
theorem dX6_makeColumns_113 : decode cX6_makeColumns 113 = .ok (.iload 4, 2) := by decide +kernel
theorem dX6_makeColumns_115 : decode cX6_makeColumns 115 = .ok (.iload_n 1, 1) := by decide +kernel
theorem dX6_makeColumns_116 : decode cX6_makeColumns 116 = .ok (.ixor, 1) := by decide +kernel
theorem dX6_makeColumns_117 : decode cX6_makeColumns 117 = .ok (.goto 5, 3) := by decide +kernel
theorem dX6_makeColumns_120 : decode cX6_makeColumns 120 = .ok (.iload 4, 2) := by decide +kernel
theorem dX6_makeColumns_122 : decode cX6_makeColumns 122 = .ok (.istore 4, 2) := by decide +kernel
theorem dX6_makeColumns_124 : decode cX6_makeColumns 124 = .ok (.aload_n 0, 1) := by decide +kernel
theorem dX6_makeColumns_125 : decode cX6_makeColumns 125 = .ok (.getfield 138, 3) := by decide +kernel
theorem dX6_makeColumns_128 : decode cX6_makeColumns 128 = .ok (.iconst 4, 1) := by decide +kernel
theorem dX6_makeColumns_129 : decode cX6_makeColumns 129 = .ok (.iload_n 2, 1) := by decide +kernel
theorem dX6_makeColumns_130 : decode cX6_makeColumns 130 = .ok (.imul, 1) := by decide +kernel
theorem dX6_makeColumns_131 : decode cX6_makeColumns 131 = .ok (.iload_n 3, 1) := by decide +kernel
theorem dX6_makeColumns_132 : decode cX6_makeColumns 132 = .ok (.iadd, 1) := by decide +kernel
theorem dX6_makeColumns_133 : decode cX6_makeColumns 133 = .ok (.aload_n 0, 1) := by decide +kernel
theorem dX6_makeColumns_134 : decode cX6_makeColumns 134 = .ok (.getfield 138, 3) := by decide +kernel
theorem dX6_makeColumns_137 : decode cX6_makeColumns 137 = .ok (.iconst 4, 1) := by decide +kernel
theorem dX6_makeColumns_138 : decode cX6_makeColumns 138 = .ok (.iload_n 2, 1) := by decide +kernel
theorem dX6_makeColumns_139 : decode cX6_makeColumns 139 = .ok (.imul, 1) := by decide +kernel
theorem dX6_makeColumns_140 : decode cX6_makeColumns 140 = .ok (.bipush 16, 2) := by decide +kernel
theorem dX6_makeColumns_142 : decode cX6_makeColumns 142 = .ok (.isub, 1) := by decide +kernel
theorem dX6_makeColumns_143 : decode cX6_makeColumns 143 = .ok (.iload_n 3, 1) := by decide +kernel
theorem dX6_makeColumns_144 : decode cX6_makeColumns 144 = .ok (.iadd, 1) := by decide +kernel
theorem dX6_makeColumns_145 : decode cX6_makeColumns 145 = .ok (.iaload, 1) := by decide +kernel
theorem dX6_makeColumns_146 : decode cX6_makeColumns 146 = .ok (.iload 4, 2) := by decide +kernel
theorem dX6_makeColumns_148 : decode cX6_makeColumns 148 = .ok (.ixor, 1) := by decide +kernel
theorem dX6_makeColumns_149 : decode cX6_makeColumns 149 = .ok (.iastore, 1) := by decide +kernel
theorem dX6_makeColumns_150 : decode cX6_makeColumns 150 = .ok (.iinc 3 1, 3) := by decide +kernel
theorem dX6_makeColumns_153 : decode cX6_makeColumns 153 = .ok (.goto (-99), 3) := by decide +kernel
theorem dX6_makeColumns_156 : decode cX6_makeColumns 156 = .ok (.iload_n 2, 1) := by decide +kernel
theorem dX6_makeColumns_157 : decode cX6_makeColumns 157 = .ok (.iconst 4, 1) := by decide +kernel
theorem dX6_makeColumns_158 : decode cX6_makeColumns 158 = .ok (.irem, 1) := by decide +kernel
theorem dX6_makeColumns_159 : decode cX6_makeColumns 159 = .ok (.ifCond .ne 10, 3) := by decide +kernel
theorem dX6_makeColumns_162 : decode cX6_makeColumns 162 = .ok (.iload_n 1, 1) := by decide +kernel
theorem dX6_makeColumns_163 : decode cX6_makeColumns 163 = .ok (.invokestatic 245, 3) := by decide +kernel
theorem dX6_makeColumns_166 : decode cX6_makeColumns 166 = .ok (.goto 4, 3) := by decide +kernel
theorem dX6_makeColumns_169 : decode cX6_makeColumns 169 = .ok (.iload_n 1, 1) := by decide +kernel
theorem dX6_makeColumns_170 : decode cX6_makeColumns 170 = .ok (.istore_n 1, 1) := by decide +kernel
theorem dX6_makeColumns_171 : decode cX6_makeColumns 171 = .ok (.iinc 2 1, 3) := by decide +kernel
theorem dX6_makeColumns_174 : decode cX6_makeColumns 174 = .ok (.goto (-128), 3) := by decide +kernel
theorem dX6_makeColumns_177 : decode cX6_makeColumns 177 = .ok (.return_, 1) := by decide +kernel
theorem dX6_addKey_0 : decode cX6_addKey 0 = .ok (.iconst 0, 1) := by decide +kernel
theorem dX6_addKey_1 : decode cX6_addKey 1 = .ok (.istore_n 2, 1) := by decide +kernel
theorem dX6_addKey_2 : decode cX6_addKey 2 = .ok (.iload_n 2, 1) := by decide +kernel
theorem dX6_addKey_3 : decode cX6_addKey 3 = .ok (.bipush 16, 2) := by decide +kernel
theorem dX6_addKey_5 : decode cX6_addKey 5 = .ok (.if_icmp .ge 33, 3) := by decide +kernel
theorem dX6_addKey_8 : decode cX6_addKey 8 = .ok (.aload_n 0, 1) := by decide +kernel
theorem dX6_addKey_9 : decode cX6_addKey 9 = .ok (.getfield 141, 3) := by decide +kernel
theorem dX6_addKey_12 : decode cX6_addKey 12 = .ok (.iload_n 2, 1) := by decide +kernel
theorem dX6_addKey_13 : decode cX6_addKey 13 = .ok (.aload_n 0, 1) := by decide +kernel
theorem dX6_addKey_14 : decode cX6_addKey 14 = .ok (.getfield 141, 3) := by decide +kernel
theorem dX6_addKey_17 : decode cX6_addKey 17 = .ok (.iload_n 2, 1) := by decide +kernel
theorem dX6_addKey_18 : decode cX6_addKey 18 = .ok (.iaload, 1) := by decide +kernel
theorem dX6_addKey_19 : decode cX6_addKey 19 = .ok (.aload_n 0, 1) := by decide +kernel
theorem dX6_addKey_20 : decode cX6_addKey 20 = .ok (.getfield 138, 3) := by decide +kernel
theorem dX6_addKey_23 : decode cX6_addKey 23 = .ok (.bipush 16, 2) := by decide +kernel
theorem dX6_addKey_25 : decode cX6_addKey 25 = .ok (.iload_n 1, 1) := by decide +kernel
theorem dX6_addKey_26 : decode cX6_addKey 26 = .ok (.imul, 1) := by decide +kernel
theorem dX6_addKey_27 : decode cX6_addKey 27 = .ok (.iload_n 2, 1) := by decide +kernel
theorem dX6_addKey_28 : decode cX6_addKey 28 = .ok (.iadd, 1) := by decide +kernel
theorem dX6_addKey_29 : decode cX6_addKey 29 = .ok (.iaload, 1) := by decide +kernel
theorem dX6_addKey_30 : decode cX6_addKey 30 = .ok (.ixor, 1) := by decide +kernel
theorem dX6_addKey_31 : decode cX6_addKey 31 = .ok (.iastore, 1) := by decide +kernel
theorem dX6_addKey_32 : decode cX6_addKey 32 = .ok (.iinc 2 1, 3) := by decide +kernel
theorem dX6_addKey_35 : decode cX6_addKey 35 = .ok (.goto (-33), 3) := by decide +kernel
theorem dX6_addKey_38 : decode cX6_addKey 38 = .ok (.return_, 1) := by decide +kernel
theorem dX6_shift_0 : decode cX6_shift 0 = .ok (.iconst 0, 1) := by decide +kernel
theorem dX6_shift_1 : decode cX6_shift 1 = .ok (.istore_n 2, 1) := by decide +kernel
theorem dX6_shift_2 : decode cX6_shift 2 = .ok (.iload_n 2, 1) := by decide +kernel
theorem dX6_shift_3 : decode cX6_shift 3 = .ok (.bipush 16, 2) := by decide +kernel
theorem dX6_shift_5 : decode cX6_shift 5 = .ok (.if_icmp .ge 40, 3) := by decide +kernel
theorem dX6_shift_8 : decode cX6_shift 8 = .ok (.iload_n 2, 1) := by decide +kernel
theorem dX6_shift_9 : decode cX6_shift 9 = .ok (.iconst 4, 1) := by decide +kernel
theorem dX6_shift_10 : decode cX6_shift 10 = .ok (.irem, 1) := by decide +kernel
theorem dX6_shift_11 : decode cX6_shift 11 = .ok (.istore_n 3, 1) := by decide +kernel
theorem dX6_shift_12 : decode cX6_shift 12 = .ok (.aload_n 0, 1) := by decide +kernel
theorem dX6_shift_13 : decode cX6_shift 13 = .ok (.getfield 144, 3) := by decide +kernel
theorem dX6_shift_16 : decode cX6_shift 16 = .ok (.iload_n 2, 1) := by decide +kernel
theorem dX6_shift_17 : decode cX6_shift 17 = .ok (.aload_n 0, 1) := by decide +kernel
theorem dX6_shift_18 : decode cX6_shift 18 = .ok (.getfield 141, 3) := by decide +kernel
theorem dX6_shift_21 : decode cX6_shift 21 = .ok (.iload_n 3, 1) := by decide +kernel
theorem dX6_shift_22 : decode cX6_shift 22 = .ok (.iconst 4, 1) := by decide +kernel
theorem dX6_shift_23 : decode cX6_shift 23 = .ok (.iload_n 2, 1) := by decide +kernel
theorem dX6_shift_24 : decode cX6_shift 24 = .ok (.iconst 4, 1) := by decide +kernel
theorem dX6_shift_25 : decode cX6_shift 25 = .ok (.idiv, 1) := by decide +kernel
theorem dX6_shift_26 : decode cX6_shift 26 = .ok (.iload_n 1, 1) := by decide +kernel
theorem dX6_shift_27 : decode cX6_shift 27 = .ok (.iload_n 3, 1) := by decide +kernel
theorem dX6_shift_28 : decode cX6_shift 28 = .ok (.imul, 1) := by decide +kernel
theorem dX6_shift_29 : decode cX6_shift 29 = .ok (.iadd, 1) := by decide +kernel
theorem dX6_shift_30 : decode cX6_shift 30 = .ok (.bipush 32, 2) := by decide +kernel
theorem dX6_shift_32 : decode cX6_shift 32 = .ok (.iadd, 1) := by decide +kernel
theorem dX6_shift_33 : decode cX6_shift 33 = .ok (.iconst 4, 1) := by decide +kernel
theorem dX6_shift_34 : decode cX6_shift 34 = .ok (.irem, 1) := by decide +kernel
theorem dX6_shift_35 : decode cX6_shift 35 = .ok (.imul, 1) := by decide +kernel
theorem dX6_shift_36 : decode cX6_shift 36 = .ok (.iadd, 1) := by decide +kernel
theorem dX6_shift_37 : decode cX6_shift 37 = .ok (.iaload, 1) := by decide +kernel
theorem dX6_shift_38 : decode cX6_shift 38 = .ok (.iastore, 1) := by decide +kernel
theorem dX6_shift_39 : decode cX6_shift 39 = .ok (.iinc 2 1, 3) := by decide +kernel
theorem dX6_shift_42 : decode cX6_shift 42 = .ok (.goto (-40), 3) := by decide +kernel
theorem dX6_shift_45 : decode cX6_shift 45 = .ok (.iconst 0, 1) := by decide +kernel
theorem dX6_shift_46 : decode cX6_shift 46 = .ok (.istore_n 2, 1) := by decide +kernel
theorem dX6_shift_47 : decode cX6_shift 47 = .ok (.iload_n 2, 1) := by decide +kernel
theorem dX6_shift_48 : decode cX6_shift 48 = .ok (.bipush 16, 2) := by decide +kernel
theorem dX6_shift_50 : decode cX6_shift 50 = .ok (.if_icmp .ge 21, 3) := by decide +kernel
theorem dX6_shift_53 : decode cX6_shift 53 = .ok (.aload_n 0, 1) := by decide +kernel
theorem dX6_shift_54 : decode cX6_shift 54 = .ok (.getfield 141, 3) := by decide +kernel
theorem dX6_shift_57 : decode cX6_shift 57 = .ok (.iload_n 2, 1) := by decide +kernel
theorem dX6_shift_58 : decode cX6_shift 58 = .ok (.aload_n 0, 1) := by decide +kernel
theorem dX6_shift_59 : decode cX6_shift 59 = .ok (.getfield 144, 3) := by decide +kernel
theorem dX6_shift_62 : decode cX6_shift 62 = .ok (.iload_n 2, 1) := by decide +kernel
theorem dX6_shift_63 : decode cX6_shift 63 = .ok (.iaload, 1) := by decide +kernel
theorem dX6_shift_64 : decode cX6_shift 64 = .ok (.iastore, 1) := by decide +kernel
theorem dX6_shift_65 : decode cX6_shift 65 = .ok (.iinc 2 1, 3) := by decide +kernel
theorem dX6_shift_68 : decode cX6_shift 68 = .ok (.goto (-21), 3) := by decide +kernel
theorem dX6_shift_71 : decode cX6_shift 71 = .ok (.return_, 1) := by decide +kernel
theorem dX6_mixColumns_0 : decode cX6_mixColumns 0 = .ok (.iconst 0, 1) := by decide +kernel
theorem dX6_mixColumns_1 : decode cX6_mixColumns 1 = .ok (.istore 5, 2) := by decide +kernel
theorem dX6_mixColumns_3 : decode cX6_mixColumns 3 = .ok (.iload 5, 2) := by decide +kernel
theorem dX6_mixColumns_5 : decode cX6_mixColumns 5 = .ok (.bipush 16, 2) := by decide +kernel
theorem dX6_mixColumns_7 : decode cX6_mixColumns 7 = .ok (.if_icmp .ge 103, 3) := by decide +kernel
theorem dX6_mixColumns_10 : decode cX6_mixColumns 10 = .ok (.iload 5, 2) := by decide +kernel
theorem dX6_mixColumns_12 : decode cX6_mixColumns 12 = .ok (.iload 5, 2) := by decide +kernel
theorem dX6_mixColumns_14 : decode cX6_mixColumns 14 = .ok (.iconst 4, 1) := by decide +kernel
theorem dX6_mixColumns_15 : decode cX6_mixColumns 15 = .ok (.irem, 1) := by decide +kernel
theorem dX6_mixColumns_16 : decode cX6_mixColumns 16 = .ok (.isub, 1) := by decide +kernel
theorem dX6_mixColumns_17 : decode cX6_mixColumns 17 = .ok (.istore 6, 2) := by decide +kernel
theorem dX6_mixColumns_19 : decode cX6_mixColumns 19 = .ok (.iload 5, 2) := by decide +kernel
theorem dX6_mixColumns_21 : decode cX6_mixColumns 21 = .ok (.iconst 4, 1) := by decide +kernel
theorem dX6_mixColumns_22 : decode cX6_mixColumns 22 = .ok (.irem, 1) := by decide +kernel
theorem dX6_mixColumns_23 : decode cX6_mixColumns 23 = .ok (.istore 7, 2) := by decide +kernel
theorem dX6_mixColumns_25 : decode cX6_mixColumns 25 = .ok (.aload_n 0, 1) := by decide +kernel
theorem dX6_mixColumns_26 : decode cX6_mixColumns 26 = .ok (.getfield 144, 3) := by decide +kernel
theorem dX6_mixColumns_29 : decode cX6_mixColumns 29 = .ok (.iload 5, 2) := by decide +kernel
theorem dX6_mixColumns_31 : decode cX6_mixColumns 31 = .ok (.aload_n 0, 1) := by decide +kernel
theorem dX6_mixColumns_32 : decode cX6_mixColumns 32 = .ok (.getfield 141, 3) := by decide +kernel
theorem dX6_mixColumns_35 : decode cX6_mixColumns 35 = .ok (.iload 6, 2) := by decide +kernel
theorem dX6_mixColumns_37 : decode cX6_mixColumns 37 = .ok (.iload 7, 2) := by decide +kernel
theorem dX6_mixColumns_39 : decode cX6_mixColumns 39 = .ok (.iadd, 1) := by decide +kernel
theorem dX6_mixColumns_40 : decode cX6_mixColumns 40 = .ok (.iaload, 1) := by decide +kernel
theorem dX6_mixColumns_41 : decode cX6_mixColumns 41 = .ok (.iload_n 1, 1) := by decide +kernel
theorem dX6_mixColumns_42 : decode cX6_mixColumns 42 = .ok (.invokestatic 248, 3) := by decide +kernel
theorem dX6_mixColumns_45 : decode cX6_mixColumns 45 = .ok (.aload_n 0, 1) := by decide +kernel
theorem dX6_mixColumns_46 : decode cX6_mixColumns 46 = .ok (.getfield 141, 3) := by decide +kernel
theorem dX6_mixColumns_49 : decode cX6_mixColumns 49 = .ok (.iload 6, 2) := by decide +kernel
theorem dX6_mixColumns_51 : decode cX6_mixColumns 51 = .ok (.iload 7, 2) := by decide +kernel
theorem dX6_mixColumns_53 : decode cX6_mixColumns 53 = .ok (.iconst 1, 1) := by decide +kernel
theorem dX6_mixColumns_54 : decode cX6_mixColumns 54 = .ok (.iadd, 1) := by decide +kernel
theorem dX6_mixColumns_55 : decode cX6_mixColumns 55 = .ok (.iconst 4, 1) := by decide +kernel
theorem dX6_mixColumns_56 : decode cX6_mixColumns 56 = .ok (.irem, 1) := by decide +kernel
theorem dX6_mixColumns_57 : decode cX6_mixColumns 57 = .ok (.iadd, 1) := by decide +kernel
theorem dX6_mixColumns_58 : decode cX6_mixColumns 58 = .ok (.iaload, 1) := by decide +kernel
theorem dX6_mixColumns_59 : decode cX6_mixColumns 59 = .ok (.iload_n 2, 1) := by decide +kernel
theorem dX6_mixColumns_60 : decode cX6_mixColumns 60 = .ok (.invokestatic 248, 3) := by decide +kernel
theorem dX6_mixColumns_63 : decode cX6_mixColumns 63 = .ok (.ixor, 1) := by decide +kernel
theorem dX6_mixColumns_64 : decode cX6_mixColumns 64 = .ok (.aload_n 0, 1) := by decide +kernel
theorem dX6_mixColumns_65 : decode cX6_mixColumns 65 = .ok (.getfield 141, 3) := by decide +kernel
theorem dX6_mixColumns_68 : decode cX6_mixColumns 68 = .ok (.iload 6, 2) := by decide +kernel
theorem dX6_mixColumns_70 : decode cX6_mixColumns 70 = .ok (.iload 7, 2) := by decide +kernel
theorem dX6_mixColumns_72 : decode cX6_mixColumns 72 = .ok (.iconst 2, 1) := by decide +kernel
theorem dX6_mixColumns_73 : decode cX6_mixColumns 73 = .ok (.iadd, 1) := by decide +kernel
theorem dX6_mixColumns_74 : decode cX6_mixColumns 74 = .ok (.iconst 4, 1) := by decide +kernel
theorem dX6_mixColumns_75 : decode cX6_mixColumns 75 = .ok (.irem, 1) := by decide +kernel
theorem dX6_mixColumns_76 : decode cX6_mixColumns 76 = .ok (.iadd, 1) := by decide +kernel
theorem dX6_mixColumns_77 : decode cX6_mixColumns 77 = .ok (.iaload, 1) := by decide +kernel
theorem dX6_mixColumns_78 : decode cX6_mixColumns 78 = .ok (.iload_n 3, 1) := by decide +kernel
theorem dX6_mixColumns_79 : decode cX6_mixColumns 79 = .ok (.invokestatic 248, 3) := by decide +kernel
theorem dX6_mixColumns_82 : decode cX6_mixColumns 82 = .ok (.ixor, 1) := by decide +kernel
theorem dX6_mixColumns_83 : decode cX6_mixColumns 83 = .ok (.aload_n 0, 1) := by decide +kernel
theorem dX6_mixColumns_84 : decode cX6_mixColumns 84 = .ok (.getfield 141, 3) := by decide +kernel
theorem dX6_mixColumns_87 : decode cX6_mixColumns 87 = .ok (.iload 6, 2) := by decide +kernel
theorem dX6_mixColumns_89 : decode cX6_mixColumns 89 = .ok (.iload 7, 2) := by decide +kernel
theorem dX6_mixColumns_91 : decode cX6_mixColumns 91 = .ok (.iconst 3, 1) := by decide +kernel
theorem dX6_mixColumns_92 : decode cX6_mixColumns 92 = .ok (.iadd, 1) := by decide +kernel
theorem dX6_mixColumns_93 : decode cX6_mixColumns 93 = .ok (.iconst 4, 1) := by decide +kernel
theorem dX6_mixColumns_94 : decode cX6_mixColumns 94 = .ok (.irem, 1) := by decide +kernel
theorem dX6_mixColumns_95 : decode cX6_mixColumns 95 = .ok (.iadd, 1) := by decide +kernel
theorem dX6_mixColumns_96 : decode cX6_mixColumns 96 = .ok (.iaload, 1) := by decide +kernel
theorem dX6_mixColumns_97 : decode cX6_mixColumns 97 = .ok (.iload 4, 2) := by decide +kernel
theorem dX6_mixColumns_99 : decode cX6_mixColumns 99 = .ok (.invokestatic 248, 3) := by decide +kernel
theorem dX6_mixColumns_102 : decode cX6_mixColumns 102 = .ok (.ixor, 1) := by decide +kernel
theorem dX6_mixColumns_103 : decode cX6_mixColumns 103 = .ok (.iastore, 1) := by decide +kernel
theorem dX6_mixColumns_104 : decode cX6_mixColumns 104 = .ok (.iinc 5 1, 3) := by decide +kernel
theorem dX6_mixColumns_107 : decode cX6_mixColumns 107 = .ok (.goto (-104), 3) := by decide +kernel
theorem dX6_mixColumns_110 : decode cX6_mixColumns 110 = .ok (.iconst 0, 1) := by decide +kernel
theorem dX6_mixColumns_111 : decode cX6_mixColumns 111 = .ok (.istore 5, 2) := by decide +kernel
theorem dX6_mixColumns_113 : decode cX6_mixColumns 113 = .ok (.iload 5, 2) := by decide +kernel
theorem dX6_mixColumns_115 : decode cX6_mixColumns 115 = .ok (.bipush 16, 2) := by decide +kernel
theorem dX6_mixColumns_117 : decode cX6_mixColumns 117 = .ok (.if_icmp .ge 23, 3) := by decide +kernel
theorem dX6_mixColumns_120 : decode cX6_mixColumns 120 = .ok (.aload_n 0, 1) := by decide +kernel
theorem dX6_mixColumns_121 : decode cX6_mixColumns 121 = .ok (.getfield 141, 3) := by decide +kernel
theorem dX6_mixColumns_124 : decode cX6_mixColumns 124 = .ok (.iload 5, 2) := by decide +kernel
theorem dX6_mixColumns_126 : decode cX6_mixColumns 126 = .ok (.aload_n 0, 1) := by decide +kernel
theorem dX6_mixColumns_127 : decode cX6_mixColumns 127 = .ok (.getfield 144, 3) := by decide +kernel
theorem dX6_mixColumns_130 : decode cX6_mixColumns 130 = .ok (.iload 5, 2) := by decide +kernel
theorem dX6_mixColumns_132 : decode cX6_mixColumns 132 = .ok (.iaload, 1) := by decide +kernel
theorem dX6_mixColumns_133 : decode cX6_mixColumns 133 = .ok (.iastore, 1) := by decide +kernel
theorem dX6_mixColumns_134 : decode cX6_mixColumns 134 = .ok (.iinc 5 1, 3) := by decide +kernel
theorem dX6_mixColumns_137 : decode cX6_mixColumns 137 = .ok (.goto (-24), 3) := by decide +kernel
theorem dX6_mixColumns_140 : decode cX6_mixColumns 140 = .ok (.return_, 1) := by decide +kernel
theorem dX6_makeBlock_0 : decode cX6_makeBlock 0 = .ok (.aload_n 0, 1) := by decide +kernel
theorem dX6_makeBlock_1 : decode cX6_makeBlock 1 = .ok (.iconst 0, 1) := by decide +kernel
theorem dX6_makeBlock_2 : decode cX6_makeBlock 2 = .ok (.invokevirtual 257, 3) := by decide +kernel
theorem dX6_makeBlock_5 : decode cX6_makeBlock 5 = .ok (.iconst 1, 1) := by decide +kernel
theorem dX6_makeBlock_6 : decode cX6_makeBlock 6 = .ok (.istore_n 1, 1) := by decide +kernel
theorem dX6_makeBlock_7 : decode cX6_makeBlock 7 = .ok (.iload_n 1, 1) := by decide +kernel
theorem dX6_makeBlock_8 : decode cX6_makeBlock 8 = .ok (.bipush 10, 2) := by decide +kernel
theorem dX6_makeBlock_10 : decode cX6_makeBlock 10 = .ok (.if_icmp .gt 64, 3) := by decide +kernel
theorem dX6_makeBlock_13 : decode cX6_makeBlock 13 = .ok (.iconst 0, 1) := by decide +kernel
theorem dX6_makeBlock_14 : decode cX6_makeBlock 14 = .ok (.istore_n 2, 1) := by decide +kernel
theorem dX6_makeBlock_15 : decode cX6_makeBlock 15 = .ok (.iload_n 2, 1) := by decide +kernel
theorem dX6_makeBlock_16 : decode cX6_makeBlock 16 = .ok (.bipush 16, 2) := by decide +kernel
theorem dX6_makeBlock_18 : decode cX6_makeBlock 18 = .ok (.if_icmp .ge 26, 3) := by decide +kernel
theorem dX6_makeBlock_21 : decode cX6_makeBlock 21 = .ok (.aload_n 0, 1) := by decide +kernel
theorem dX6_makeBlock_22 : decode cX6_makeBlock 22 = .ok (.getfield 141, 3) := by decide +kernel
theorem dX6_makeBlock_25 : decode cX6_makeBlock 25 = .ok (.iload_n 2, 1) := by decide +kernel
theorem dX6_makeBlock_26 : decode cX6_makeBlock 26 = .ok (.aload_n 0, 1) := by decide +kernel
theorem dX6_makeBlock_27 : decode cX6_makeBlock 27 = .ok (.getfield 147, 3) := by decide +kernel
theorem dX6_makeBlock_30 : decode cX6_makeBlock 30 = .ok (.aload_n 0, 1) := by decide +kernel
theorem dX6_makeBlock_31 : decode cX6_makeBlock 31 = .ok (.getfield 141, 3) := by decide +kernel
theorem dX6_makeBlock_34 : decode cX6_makeBlock 34 = .ok (.iload_n 2, 1) := by decide +kernel
theorem dX6_makeBlock_35 : decode cX6_makeBlock 35 = .ok (.iaload, 1) := by decide +kernel
theorem dX6_makeBlock_36 : decode cX6_makeBlock 36 = .ok (.iaload, 1) := by decide +kernel
theorem dX6_makeBlock_37 : decode cX6_makeBlock 37 = .ok (.iastore, 1) := by decide +kernel
theorem dX6_makeBlock_38 : decode cX6_makeBlock 38 = .ok (.iinc 2 1, 3) := by decide +kernel
theorem dX6_makeBlock_41 : decode cX6_makeBlock 41 = .ok (.goto (-26), 3) := by decide +kernel
theorem dX6_makeBlock_44 : decode cX6_makeBlock 44 = .ok (.aload_n 0, 1) := by decide +kernel
theorem dX6_makeBlock_45 : decode cX6_makeBlock 45 = .ok (.iconst 1, 1) := by decide +kernel
theorem dX6_makeBlock_46 : decode cX6_makeBlock 46 = .ok (.invokevirtual 260, 3) := by decide +kernel
theorem dX6_makeBlock_49 : decode cX6_makeBlock 49 = .ok (.iload_n 1, 1) := by decide +kernel
theorem dX6_makeBlock_50 : decode cX6_makeBlock 50 = .ok (.bipush 10, 2) := by decide +kernel
theorem dX6_makeBlock_52 : decode cX6_makeBlock 52 = .ok (.if_icmp .ge 11, 3) := by decide +kernel
theorem dX6_makeBlock_55 : decode cX6_makeBlock 55 = .ok (.aload_n 0, 1) := by decide +kernel
theorem dX6_makeBlock_56 : decode cX6_makeBlock 56 = .ok (.iconst 2, 1) := by decide +kernel
theorem dX6_makeBlock_57 : decode cX6_makeBlock 57 = .ok (.iconst 3, 1) := by decide +kernel
theorem dX6_makeBlock_58 : decode cX6_makeBlock 58 = .ok (.iconst 1, 1) := by decide +kernel
theorem dX6_makeBlock_59 : decode cX6_makeBlock 59 = .ok (.iconst 1, 1) := by decide +kernel
theorem dX6_makeBlock_60 : decode cX6_makeBlock 60 = .ok (.invokevirtual 263, 3) := by decide +kernel
theorem dX6_makeBlock_63 : decode cX6_makeBlock 63 = .ok (.aload_n 0, 1) := by decide +kernel
theorem dX6_makeBlock_64 : decode cX6_makeBlock 64 = .ok (.iload_n 1, 1) := by decide +kernel
theorem dX6_makeBlock_65 : decode cX6_makeBlock 65 = .ok (.invokevirtual 257, 3) := by decide +kernel
theorem dX6_makeBlock_68 : decode cX6_makeBlock 68 = .ok (.iinc 1 1, 3) := by decide +kernel
theorem dX6_makeBlock_71 : decode cX6_makeBlock 71 = .ok (.goto (-64), 3) := by decide +kernel
theorem dX6_makeBlock_74 : decode cX6_makeBlock 74 = .ok (.return_, 1) := by decide +kernel
theorem dX6_undoBlock_0 : decode cX6_undoBlock 0 = .ok (.bipush 10, 2) := by decide +kernel
theorem dX6_undoBlock_2 : decode cX6_undoBlock 2 = .ok (.istore_n 1, 1) := by decide +kernel
theorem dX6_undoBlock_3 : decode cX6_undoBlock 3 = .ok (.iload_n 1, 1) := by decide +kernel
theorem dX6_undoBlock_4 : decode cX6_undoBlock 4 = .ok (.iconst 1, 1) := by decide +kernel
theorem dX6_undoBlock_5 : decode cX6_undoBlock 5 = .ok (.if_icmp .lt 67, 3) := by decide +kernel
theorem dX6_undoBlock_8 : decode cX6_undoBlock 8 = .ok (.aload_n 0, 1) := by decide +kernel
theorem dX6_undoBlock_9 : decode cX6_undoBlock 9 = .ok (.iload_n 1, 1) := by decide +kernel
theorem dX6_undoBlock_10 : decode cX6_undoBlock 10 = .ok (.invokevirtual 257, 3) := by decide +kernel
theorem dX6_undoBlock_13 : decode cX6_undoBlock 13 = .ok (.iload_n 1, 1) := by decide +kernel
theorem dX6_undoBlock_14 : decode cX6_undoBlock 14 = .ok (.bipush 10, 2) := by decide +kernel
theorem dX6_undoBlock_16 : decode cX6_undoBlock 16 = .ok (.if_icmp .ge 15, 3) := by decide +kernel
theorem dX6_undoBlock_19 : decode cX6_undoBlock 19 = .ok (.aload_n 0, 1) := by decide +kernel
theorem dX6_undoBlock_20 : decode cX6_undoBlock 20 = .ok (.bipush 14, 2) := by decide +kernel
theorem dX6_undoBlock_22 : decode cX6_undoBlock 22 = .ok (.bipush 11, 2) := by decide +kernel
theorem dX6_undoBlock_24 : decode cX6_undoBlock 24 = .ok (.bipush 13, 2) := by decide +kernel
theorem dX6_undoBlock_26 : decode cX6_undoBlock 26 = .ok (.bipush 9, 2) := by decide +kernel
theorem dX6_undoBlock_28 : decode cX6_undoBlock 28 = .ok (.invokevirtual 263, 3) := by decide +kernel
theorem dX6_undoBlock_31 : decode cX6_undoBlock 31 = .ok (.aload_n 0, 1) := by decide +kernel
theorem dX6_undoBlock_32 : decode cX6_undoBlock 32 = .ok (.iconst (-1), 1) := by decide +kernel
theorem dX6_undoBlock_33 : decode cX6_undoBlock 33 = .ok (.invokevirtual 260, 3) := by decide +kernel
theorem dX6_undoBlock_36 : decode cX6_undoBlock 36 = .ok (.iconst 0, 1) := by decide +kernel
theorem dX6_undoBlock_37 : decode cX6_undoBlock 37 = .ok (.istore_n 2, 1) := by decide +kernel
theorem dX6_undoBlock_38 : decode cX6_undoBlock 38 = .ok (.iload_n 2, 1) := by decide +kernel
theorem dX6_undoBlock_39 : decode cX6_undoBlock 39 = .ok (.bipush 16, 2) := by decide +kernel
theorem dX6_undoBlock_41 : decode cX6_undoBlock 41 = .ok (.if_icmp .ge 25, 3) := by decide +kernel
theorem dX6_undoBlock_44 : decode cX6_undoBlock 44 = .ok (.aload_n 0, 1) := by decide +kernel
theorem dX6_undoBlock_45 : decode cX6_undoBlock 45 = .ok (.getfield 141, 3) := by decide +kernel
theorem dX6_undoBlock_48 : decode cX6_undoBlock 48 = .ok (.iload_n 2, 1) := by decide +kernel
theorem dX6_undoBlock_49 : decode cX6_undoBlock 49 = .ok (.aload_n 0, 1) := by decide +kernel
theorem dX6_undoBlock_50 : decode cX6_undoBlock 50 = .ok (.aload_n 0, 1) := by decide +kernel
theorem dX6_undoBlock_51 : decode cX6_undoBlock 51 = .ok (.getfield 141, 3) := by decide +kernel
theorem dX6_undoBlock_54 : decode cX6_undoBlock 54 = .ok (.iload_n 2, 1) := by decide +kernel
theorem dX6_undoBlock_55 : decode cX6_undoBlock 55 = .ok (.iaload, 1) := by decide +kernel
theorem dX6_undoBlock_56 : decode cX6_undoBlock 56 = .ok (.invokevirtual 267, 3) := by decide +kernel
theorem dX6_undoBlock_59 : decode cX6_undoBlock 59 = .ok (.iastore, 1) := by decide +kernel
theorem dX6_undoBlock_60 : decode cX6_undoBlock 60 = .ok (.iinc 2 1, 3) := by decide +kernel
theorem dX6_undoBlock_63 : decode cX6_undoBlock 63 = .ok (.goto (-25), 3) := by decide +kernel
theorem dX6_undoBlock_66 : decode cX6_undoBlock 66 = .ok (.iinc 1 (-1), 3) := by decide +kernel
theorem dX6_undoBlock_69 : decode cX6_undoBlock 69 = .ok (.goto (-66), 3) := by decide +kernel
theorem dX6_undoBlock_72 : decode cX6_undoBlock 72 = .ok (.aload_n 0, 1) := by decide +kernel
theorem dX6_undoBlock_73 : decode cX6_undoBlock 73 = .ok (.iconst 0, 1) := by decide +kernel
theorem dX6_undoBlock_74 : decode cX6_undoBlock 74 = .ok (.invokevirtual 257, 3) := by decide +kernel
theorem dX6_undoBlock_77 : decode cX6_undoBlock 77 = .ok (.return_, 1) := by decide +kernel
theorem dX6_makeObjectKey_0 : decode cX6_makeObjectKey 0 = .ok (.iconst 0, 1) := by decide +kernel
theorem dX6_makeObjectKey_1 : decode cX6_makeObjectKey 1 = .ok (.istore 4, 2) := by decide +kernel
theorem dX6_makeObjectKey_3 : decode cX6_makeObjectKey 3 = .ok (.iload 4, 2) := by decide +kernel
theorem dX6_makeObjectKey_5 : decode cX6_makeObjectKey 5 = .ok (.aload_n 0, 1) := by decide +kernel
theorem dX6_makeObjectKey_6 : decode cX6_makeObjectKey 6 = .ok (.getfield 20, 3) := by decide +kernel
theorem dX6_makeObjectKey_9 : decode cX6_makeObjectKey 9 = .ok (.if_icmp .ge 20, 3) := by decide +kernel
theorem dX6_makeObjectKey_12 : decode cX6_makeObjectKey 12 = .ok (.aload_n 0, 1) := by decide +kernel
theorem dX6_makeObjectKey_13 : decode cX6_makeObjectKey 13 = .ok (.aload_n 0, 1) := by decide +kernel
theorem dX6_makeObjectKey_14 : decode cX6_makeObjectKey 14 = .ok (.getfield 41, 3) := by decide +kernel
theorem dX6_makeObjectKey_17 : decode cX6_makeObjectKey 17 = .ok (.iload 4, 2) := by decide +kernel
theorem dX6_makeObjectKey_19 : decode cX6_makeObjectKey 19 = .ok (.iaload, 1) := by decide +kernel
theorem dX6_makeObjectKey_20 : decode cX6_makeObjectKey 20 = .ok (.invokevirtual 174, 3) := by decide +kernel
theorem dX6_makeObjectKey_23 : decode cX6_makeObjectKey 23 = .ok (.iinc 4 1, 3) := by decide +kernel
theorem dX6_makeObjectKey_26 : decode cX6_makeObjectKey 26 = .ok (.goto (-23), 3) := by decide +kernel
theorem dX6_makeObjectKey_29 : decode cX6_makeObjectKey 29 = .ok (.iconst 0, 1) := by decide +kernel
theorem dX6_makeObjectKey_30 : decode cX6_makeObjectKey 30 = .ok (.istore 4, 2) := by decide +kernel
theorem dX6_makeObjectKey_32 : decode cX6_makeObjectKey 32 = .ok (.iload 4, 2) := by decide +kernel
theorem dX6_makeObjectKey_34 : decode cX6_makeObjectKey 34 = .ok (.iconst 3, 1) := by decide +kernel
theorem dX6_makeObjectKey_35 : decode cX6_makeObjectKey 35 = .ok (.if_icmp .ge 24, 3) := by decide +kernel
theorem dX6_makeObjectKey_38 : decode cX6_makeObjectKey 38 = .ok (.aload_n 0, 1) := by decide +kernel
theorem dX6_makeObjectKey_39 : decode cX6_makeObjectKey 39 = .ok (.iload_n 1, 1) := by decide +kernel
theorem dX6_makeObjectKey_40 : decode cX6_makeObjectKey 40 = .ok (.bipush 8, 2) := by decide +kernel
theorem dX6_makeObjectKey_42 : decode cX6_makeObjectKey 42 = .ok (.iload 4, 2) := by decide +kernel
theorem dX6_makeObjectKey_44 : decode cX6_makeObjectKey 44 = .ok (.imul, 1) := by decide +kernel
theorem dX6_makeObjectKey_45 : decode cX6_makeObjectKey 45 = .ok (.ishr, 1) := by decide +kernel
theorem dX6_makeObjectKey_46 : decode cX6_makeObjectKey 46 = .ok (.sipush 255, 3) := by decide +kernel
theorem dX6_makeObjectKey_49 : decode cX6_makeObjectKey 49 = .ok (.iand, 1) := by decide +kernel
theorem dX6_makeObjectKey_50 : decode cX6_makeObjectKey 50 = .ok (.invokevirtual 174, 3) := by decide +kernel
theorem dX6_makeObjectKey_53 : decode cX6_makeObjectKey 53 = .ok (.iinc 4 1, 3) := by decide +kernel
theorem dX6_makeObjectKey_56 : decode cX6_makeObjectKey 56 = .ok (.goto (-24), 3) := by decide +kernel
theorem dX6_makeObjectKey_59 : decode cX6_makeObjectKey 59 = .ok (.aload_n 0, 1) := by decide +kernel
theorem dX6_makeObjectKey_60 : decode cX6_makeObjectKey 60 = .ok (.iload_n 2, 1) := by decide +kernel
theorem dX6_makeObjectKey_61 : decode cX6_makeObjectKey 61 = .ok (.sipush 255, 3) := by decide +kernel
theorem dX6_makeObjectKey_64 : decode cX6_makeObjectKey 64 = .ok (.iand, 1) := by decide +kernel
theorem dX6_makeObjectKey_65 : decode cX6_makeObjectKey 65 = .ok (.invokevirtual 174, 3) := by decide +kernel
theorem dX6_makeObjectKey_68 : decode cX6_makeObjectKey 68 = .ok (.aload_n 0, 1) := by decide +kernel
theorem dX6_makeObjectKey_69 : decode cX6_makeObjectKey 69 = .ok (.iload_n 2, 1) := by decide +kernel
theorem dX6_makeObjectKey_70 : decode cX6_makeObjectKey 70 = .ok (.bipush 8, 2) := by decide +kernel
theorem dX6_makeObjectKey_72 : decode cX6_makeObjectKey 72 = .ok (.ishr, 1) := by decide +kernel
theorem dX6_makeObjectKey_73 : decode cX6_makeObjectKey 73 = .ok (.sipush 255, 3) := by decide +kernel
theorem dX6_makeObjectKey_76 : decode cX6_makeObjectKey 76 = .ok (.iand, 1) := by decide +kernel
theorem dX6_makeObjectKey_77 : decode cX6_makeObjectKey 77 = .ok (.invokevirtual 174, 3) := by decide +kernel
theorem dX6_makeObjectKey_80 : decode cX6_makeObjectKey 80 = .ok (.iload_n 3, 1) := by decide +kernel
theorem dX6_makeObjectKey_81 : decode cX6_makeObjectKey 81 = .ok (.iconst 2, 1) := by decide +kernel
theorem dX6_makeObjectKey_82 : decode cX6_makeObjectKey 82 = .ok (.if_icmp .ne 27, 3) := by decide +kernel
theorem dX6_makeObjectKey_85 : decode cX6_makeObjectKey 85 = .ok (.aload_n 0, 1) := by decide +kernel
theorem dX6_makeObjectKey_86 : decode cX6_makeObjectKey 86 = .ok (.bipush 115, 2) := by decide +kernel
theorem dX6_makeObjectKey_88 : decode cX6_makeObjectKey 88 = .ok (.invokevirtual 174, 3) := by decide +kernel
theorem dX6_makeObjectKey_91 : decode cX6_makeObjectKey 91 = .ok (.aload_n 0, 1) := by decide +kernel
theorem dX6_makeObjectKey_92 : decode cX6_makeObjectKey 92 = .ok (.bipush 65, 2) := by decide +kernel
theorem dX6_makeObjectKey_94 : decode cX6_makeObjectKey 94 = .ok (.invokevirtual 174, 3) := by decide +kernel
theorem dX6_makeObjectKey_97 : decode cX6_makeObjectKey 97 = .ok (.aload_n 0, 1) := by decide +kernel
theorem dX6_makeObjectKey_98 : decode cX6_makeObjectKey 98 = .ok (.bipush 108, 2) := by decide +kernel
theorem dX6_makeObjectKey_100 : decode cX6_makeObjectKey 100 = .ok (.invokevirtual 174, 3) := by decide +kernel
theorem dX6_makeObjectKey_103 : decode cX6_makeObjectKey 103 = .ok (.aload_n 0, 1) := by decide +kernel
theorem dX6_makeObjectKey_104 : decode cX6_makeObjectKey 104 = .ok (.bipush 84, 2) := by decide +kernel
theorem dX6_makeObjectKey_106 : decode cX6_makeObjectKey 106 = .ok (.invokevirtual 174, 3) := by decide +kernel
theorem dX6_makeObjectKey_109 : decode cX6_makeObjectKey 109 = .ok (.aload_n 0, 1) := by decide +kernel
theorem dX6_makeObjectKey_110 : decode cX6_makeObjectKey 110 = .ok (.invokevirtual 185, 3) := by decide +kernel
theorem dX6_makeObjectKey_113 : decode cX6_makeObjectKey 113 = .ok (.aload_n 0, 1) := by decide +kernel
theorem dX6_makeObjectKey_114 : decode cX6_makeObjectKey 114 = .ok (.aload_n 0, 1) := by decide +kernel
theorem dX6_makeObjectKey_115 : decode cX6_makeObjectKey 115 = .ok (.getfield 20, 3) := by decide +kernel
theorem dX6_makeObjectKey_118 : decode cX6_makeObjectKey 118 = .ok (.iconst 5, 1) := by decide +kernel
theorem dX6_makeObjectKey_119 : decode cX6_makeObjectKey 119 = .ok (.iadd, 1) := by decide +kernel
theorem dX6_makeObjectKey_120 : decode cX6_makeObjectKey 120 = .ok (.bipush 16, 2) := by decide +kernel
theorem dX6_makeObjectKey_122 : decode cX6_makeObjectKey 122 = .ok (.if_icmp .le 8, 3) := by decide +kernel
theorem dX6_makeObjectKey_125 : decode cX6_makeObjectKey 125 = .ok (.bipush 16, 2) := by decide +kernel
theorem dX6_makeObjectKey_127 : decode cX6_makeObjectKey 127 = .ok (.goto 9, 3) := by decide +kernel
theorem dX6_makeObjectKey_130 : decode cX6_makeObjectKey 130 = .ok (.aload_n 0, 1) := by decide +kernel
theorem dX6_makeObjectKey_131 : decode cX6_makeObjectKey 131 = .ok (.getfield 20, 3) := by decide +kernel
theorem dX6_makeObjectKey_134 : decode cX6_makeObjectKey 134 = .ok (.iconst 5, 1) := by decide +kernel
theorem dX6_makeObjectKey_135 : decode cX6_makeObjectKey 135 = .ok (.iadd, 1) := by decide +kernel
theorem dX6_makeObjectKey_136 : decode cX6_makeObjectKey 136 = .ok (.invokevirtual 214, 3) := by decide +kernel
theorem dX6_makeObjectKey_139 : decode cX6_makeObjectKey 139 = .ok (.return_, 1) := by decide +kernel
theorem dX6_isSound_0 : decode cX6_isSound 0 = .ok (.iload_n 1, 1) := by decide +kernel
theorem dX6_isSound_1 : decode cX6_isSound 1 = .ok (.ifCond .lt 34, 3) := by decide +kernel
theorem dX6_isSound_4 : decode cX6_isSound 4 = .ok (.iload_n 1, 1) := by decide +kernel
theorem dX6_isSound_5 : decode cX6_isSound 5 = .ok (.ldc_w 270, 3) := by decide +kernel
theorem dX6_isSound_8 : decode cX6_isSound 8 = .ok (.if_icmp .gt 27, 3) := by decide +kernel
theorem dX6_isSound_11 : decode cX6_isSound 11 = .ok (.iload_n 2, 1) := by decide +kernel
theorem dX6_isSound_12 : decode cX6_isSound 12 = .ok (.ifCond .lt 23, 3) := by decide +kernel
theorem dX6_isSound_15 : decode cX6_isSound 15 = .ok (.iload_n 2, 1) := by decide +kernel
theorem dX6_isSound_16 : decode cX6_isSound 16 = .ok (.ldc_w 271, 3) := by decide +kernel
theorem dX6_isSound_19 : decode cX6_isSound 19 = .ok (.if_icmp .gt 16, 3) := by decide +kernel
theorem dX6_isSound_22 : decode cX6_isSound 22 = .ok (.iload_n 3, 1) := by decide +kernel
theorem dX6_isSound_23 : decode cX6_isSound 23 = .ok (.ifCond .lt 12, 3) := by decide +kernel
theorem dX6_isSound_26 : decode cX6_isSound 26 = .ok (.iload_n 3, 1) := by decide +kernel
theorem dX6_isSound_27 : decode cX6_isSound 27 = .ok (.iconst 2, 1) := by decide +kernel
theorem dX6_isSound_28 : decode cX6_isSound 28 = .ok (.if_icmp .gt 7, 3) := by decide +kernel
theorem dX6_isSound_31 : decode cX6_isSound 31 = .ok (.iconst 1, 1) := by decide +kernel
theorem dX6_isSound_32 : decode cX6_isSound 32 = .ok (.goto 4, 3) := by decide +kernel
theorem dX6_isSound_35 : decode cX6_isSound 35 = .ok (.iconst 0, 1) := by decide +kernel
theorem dX6_isSound_36 : decode cX6_isSound 36 = .ok (.ireturn, 1) := by decide +kernel
theorem dX6_copy_0 : decode cX6_copy 0 = .ok (.aload_n 0, 1) := by decide +kernel
theorem dX6_copy_1 : decode cX6_copy 1 = .ok (.aload_n 0, 1) := by decide +kernel
theorem dX6_copy_2 : decode cX6_copy 2 = .ok (.getfield 156, 3) := by decide +kernel
theorem dX6_copy_5 : decode cX6_copy 5 = .ok (.putfield 194, 3) := by decide +kernel
theorem dX6_copy_8 : decode cX6_copy 8 = .ok (.iconst 0, 1) := by decide +kernel
theorem dX6_copy_9 : decode cX6_copy 9 = .ok (.istore_n 1, 1) := by decide +kernel
theorem dX6_copy_10 : decode cX6_copy 10 = .ok (.iload_n 1, 1) := by decide +kernel
theorem dX6_copy_11 : decode cX6_copy 11 = .ok (.aload_n 0, 1) := by decide +kernel
theorem dX6_copy_12 : decode cX6_copy 12 = .ok (.getfield 156, 3) := by decide +kernel
theorem dX6_copy_15 : decode cX6_copy 15 = .ok (.if_icmp .ge 21, 3) := by decide +kernel
theorem dX6_copy_18 : decode cX6_copy 18 = .ok (.aload_n 0, 1) := by decide +kernel
theorem dX6_copy_19 : decode cX6_copy 19 = .ok (.getfield 13, 3) := by decide +kernel
theorem dX6_copy_22 : decode cX6_copy 22 = .ok (.iload_n 1, 1) := by decide +kernel
theorem dX6_copy_23 : decode cX6_copy 23 = .ok (.aload_n 0, 1) := by decide +kernel
theorem dX6_copy_24 : decode cX6_copy 24 = .ok (.getfield 7, 3) := by decide +kernel
theorem dX6_copy_27 : decode cX6_copy 27 = .ok (.iload_n 1, 1) := by decide +kernel
theorem dX6_copy_28 : decode cX6_copy 28 = .ok (.iaload, 1) := by decide +kernel
theorem dX6_copy_29 : decode cX6_copy 29 = .ok (.iastore, 1) := by decide +kernel
theorem dX6_copy_30 : decode cX6_copy 30 = .ok (.iinc 1 1, 3) := by decide +kernel
theorem dX6_copy_33 : decode cX6_copy 33 = .ok (.goto (-23), 3) := by decide +kernel
theorem dX6_copy_36 : decode cX6_copy 36 = .ok (.return_, 1) := by decide +kernel
theorem dX6_filling_0 : decode cX6_filling 0 = .ok (.aload_n 0, 1) := by decide +kernel
theorem dX6_filling_1 : decode cX6_filling 1 = .ok (.aload_n 0, 1) := by decide +kernel
theorem dX6_filling_2 : decode cX6_filling 2 = .ok (.getfield 156, 3) := by decide +kernel
theorem dX6_filling_5 : decode cX6_filling 5 = .ok (.bipush 16, 2) := by decide +kernel
theorem dX6_filling_7 : decode cX6_filling 7 = .ok (.isub, 1) := by decide +kernel
theorem dX6_filling_8 : decode cX6_filling 8 = .ok (.invokevirtual 272, 3) := by decide +kernel
theorem dX6_filling_11 : decode cX6_filling 11 = .ok (.aload_n 0, 1) := by decide +kernel
theorem dX6_filling_12 : decode cX6_filling 12 = .ok (.getfield 141, 3) := by decide +kernel
theorem dX6_filling_15 : decode cX6_filling 15 = .ok (.bipush 15, 2) := by decide +kernel
theorem dX6_filling_17 : decode cX6_filling 17 = .ok (.iaload, 1) := by decide +kernel
theorem dX6_filling_18 : decode cX6_filling 18 = .ok (.istore_n 1, 1) := by decide +kernel
theorem dX6_filling_19 : decode cX6_filling 19 = .ok (.iload_n 1, 1) := by decide +kernel
theorem dX6_filling_20 : decode cX6_filling 20 = .ok (.iconst 1, 1) := by decide +kernel
theorem dX6_filling_21 : decode cX6_filling 21 = .ok (.if_icmp .lt 13, 3) := by decide +kernel
theorem dX6_filling_24 : decode cX6_filling 24 = .ok (.iload_n 1, 1) := by decide +kernel
theorem dX6_filling_25 : decode cX6_filling 25 = .ok (.bipush 16, 2) := by decide +kernel
theorem dX6_filling_27 : decode cX6_filling 27 = .ok (.if_icmp .gt 7, 3) := by decide +kernel
theorem dX6_filling_30 : decode cX6_filling 30 = .ok (.iconst 1, 1) := by decide +kernel
theorem dX6_filling_31 : decode cX6_filling 31 = .ok (.goto 4, 3) := by decide +kernel
theorem dX6_filling_34 : decode cX6_filling 34 = .ok (.iconst 0, 1) := by decide +kernel
theorem dX6_filling_35 : decode cX6_filling 35 = .ok (.istore_n 2, 1) := by decide +kernel
theorem dX6_filling_36 : decode cX6_filling 36 = .ok (.bipush 16, 2) := by decide +kernel
theorem dX6_filling_38 : decode cX6_filling 38 = .ok (.iload_n 1, 1) := by decide +kernel
theorem dX6_filling_39 : decode cX6_filling 39 = .ok (.isub, 1) := by decide +kernel
theorem dX6_filling_40 : decode cX6_filling 40 = .ok (.istore_n 3, 1) := by decide +kernel
theorem dX6_filling_41 : decode cX6_filling 41 = .ok (.iload_n 2, 1) := by decide +kernel
theorem dX6_filling_42 : decode cX6_filling 42 = .ok (.ifCond .eq 31, 3) := by decide +kernel
theorem dX6_filling_45 : decode cX6_filling 45 = .ok (.iload_n 3, 1) := by decide +kernel
theorem dX6_filling_46 : decode cX6_filling 46 = .ok (.bipush 16, 2) := by decide +kernel
theorem dX6_filling_48 : decode cX6_filling 48 = .ok (.if_icmp .ge 25, 3) := by decide +kernel
theorem dX6_filling_51 : decode cX6_filling 51 = .ok (.aload_n 0, 1) := by decide +kernel
theorem dX6_filling_52 : decode cX6_filling 52 = .ok (.getfield 141, 3) := by decide +kernel
theorem dX6_filling_55 : decode cX6_filling 55 = .ok (.iload_n 3, 1) := by decide +kernel
theorem dX6_filling_56 : decode cX6_filling 56 = .ok (.iaload, 1) := by decide +kernel
theorem dX6_filling_57 : decode cX6_filling 57 = .ok (.iload_n 1, 1) := by decide +kernel
theorem dX6_filling_58 : decode cX6_filling 58 = .ok (.if_icmp .ne 7, 3) := by decide +kernel
theorem dX6_filling_61 : decode cX6_filling 61 = .ok (.iconst 1, 1) := by decide +kernel
theorem dX6_filling_62 : decode cX6_filling 62 = .ok (.goto 4, 3) := by decide +kernel
theorem dX6_filling_65 : decode cX6_filling 65 = .ok (.iconst 0, 1) := by decide +kernel
theorem dX6_filling_66 : decode cX6_filling 66 = .ok (.istore_n 2, 1) := by decide +kernel
theorem dX6_filling_67 : decode cX6_filling 67 = .ok (.iinc 3 1, 3) := by decide +kernel
theorem dX6_filling_70 : decode cX6_filling 70 = .ok (.goto (-29), 3) := by decide +kernel
theorem dX6_filling_73 : decode cX6_filling 73 = .ok (.iload_n 2, 1) := by decide +kernel
theorem dX6_filling_74 : decode cX6_filling 74 = .ok (.ifCond .eq 7, 3) := by decide +kernel
theorem dX6_filling_77 : decode cX6_filling 77 = .ok (.iload_n 1, 1) := by decide +kernel
theorem dX6_filling_78 : decode cX6_filling 78 = .ok (.goto 4, 3) := by decide +kernel
theorem dX6_filling_81 : decode cX6_filling 81 = .ok (.iconst 0, 1) := by decide +kernel
theorem dX6_filling_82 : decode cX6_filling 82 = .ok (.ireturn, 1) := by decide +kernel
theorem dX6_undoAt_0 : decode cX6_undoAt 0 = .ok (.iconst 0, 1) := by decide +kernel
theorem dX6_undoAt_1 : decode cX6_undoAt 1 = .ok (.istore_n 2, 1) := by decide +kernel
theorem dX6_undoAt_2 : decode cX6_undoAt 2 = .ok (.iload_n 2, 1) := by decide +kernel
theorem dX6_undoAt_3 : decode cX6_undoAt 3 = .ok (.bipush 16, 2) := by decide +kernel
theorem dX6_undoAt_5 : decode cX6_undoAt 5 = .ok (.if_icmp .ge 23, 3) := by decide +kernel
theorem dX6_undoAt_8 : decode cX6_undoAt 8 = .ok (.aload_n 0, 1) := by decide +kernel
theorem dX6_undoAt_9 : decode cX6_undoAt 9 = .ok (.getfield 141, 3) := by decide +kernel
theorem dX6_undoAt_12 : decode cX6_undoAt 12 = .ok (.iload_n 2, 1) := by decide +kernel
theorem dX6_undoAt_13 : decode cX6_undoAt 13 = .ok (.aload_n 0, 1) := by decide +kernel
theorem dX6_undoAt_14 : decode cX6_undoAt 14 = .ok (.getfield 7, 3) := by decide +kernel
theorem dX6_undoAt_17 : decode cX6_undoAt 17 = .ok (.iload_n 1, 1) := by decide +kernel
theorem dX6_undoAt_18 : decode cX6_undoAt 18 = .ok (.iload_n 2, 1) := by decide +kernel
theorem dX6_undoAt_19 : decode cX6_undoAt 19 = .ok (.iadd, 1) := by decide +kernel
theorem dX6_undoAt_20 : decode cX6_undoAt 20 = .ok (.iaload, 1) := by decide +kernel
theorem dX6_undoAt_21 : decode cX6_undoAt 21 = .ok (.iastore, 1) := by decide +kernel
theorem dX6_undoAt_22 : decode cX6_undoAt 22 = .ok (.iinc 2 1, 3) := by decide +kernel
theorem dX6_undoAt_25 : decode cX6_undoAt 25 = .ok (.goto (-23), 3) := by decide +kernel
theorem dX6_undoAt_28 : decode cX6_undoAt 28 = .ok (.aload_n 0, 1) := by decide +kernel
theorem dX6_undoAt_29 : decode cX6_undoAt 29 = .ok (.invokevirtual 275, 3) := by decide +kernel
theorem dX6_undoAt_32 : decode cX6_undoAt 32 = .ok (.iconst 0, 1) := by decide +kernel
theorem dX6_undoAt_33 : decode cX6_undoAt 33 = .ok (.istore_n 2, 1) := by decide +kernel
theorem dX6_undoAt_34 : decode cX6_undoAt 34 = .ok (.iload_n 2, 1) := by decide +kernel
theorem dX6_undoAt_35 : decode cX6_undoAt 35 = .ok (.bipush 16, 2) := by decide +kernel
theorem dX6_undoAt_37 : decode cX6_undoAt 37 = .ok (.if_icmp .ge 33, 3) := by decide +kernel
theorem dX6_undoAt_40 : decode cX6_undoAt 40 = .ok (.aload_n 0, 1) := by decide +kernel
theorem dX6_undoAt_41 : decode cX6_undoAt 41 = .ok (.getfield 141, 3) := by decide +kernel
theorem dX6_undoAt_44 : decode cX6_undoAt 44 = .ok (.iload_n 2, 1) := by decide +kernel
theorem dX6_undoAt_45 : decode cX6_undoAt 45 = .ok (.aload_n 0, 1) := by decide +kernel
theorem dX6_undoAt_46 : decode cX6_undoAt 46 = .ok (.getfield 141, 3) := by decide +kernel
theorem dX6_undoAt_49 : decode cX6_undoAt 49 = .ok (.iload_n 2, 1) := by decide +kernel
theorem dX6_undoAt_50 : decode cX6_undoAt 50 = .ok (.iaload, 1) := by decide +kernel
theorem dX6_undoAt_51 : decode cX6_undoAt 51 = .ok (.aload_n 0, 1) := by decide +kernel
theorem dX6_undoAt_52 : decode cX6_undoAt 52 = .ok (.getfield 7, 3) := by decide +kernel
theorem dX6_undoAt_55 : decode cX6_undoAt 55 = .ok (.iload_n 1, 1) := by decide +kernel
theorem dX6_undoAt_56 : decode cX6_undoAt 56 = .ok (.bipush 16, 2) := by decide +kernel
theorem dX6_undoAt_58 : decode cX6_undoAt 58 = .ok (.isub, 1) := by decide +kernel
theorem dX6_undoAt_59 : decode cX6_undoAt 59 = .ok (.iload_n 2, 1) := by decide +kernel
theorem dX6_undoAt_60 : decode cX6_undoAt 60 = .ok (.iadd, 1) := by decide +kernel
theorem dX6_undoAt_61 : decode cX6_undoAt 61 = .ok (.iaload, 1) := by decide +kernel
theorem dX6_undoAt_62 : decode cX6_undoAt 62 = .ok (.ixor, 1) := by decide +kernel
theorem dX6_undoAt_63 : decode cX6_undoAt 63 = .ok (.iastore, 1) := by decide +kernel
theorem dX6_undoAt_64 : decode cX6_undoAt 64 = .ok (.iinc 2 1, 3) := by decide +kernel
theorem dX6_undoAt_67 : decode cX6_undoAt 67 = .ok (.goto (-33), 3) := by decide +kernel
theorem dX6_undoAt_70 : decode cX6_undoAt 70 = .ok (.return_, 1) := by decide +kernel
theorem dX6_undoBlocks_0 : decode cX6_undoBlocks 0 = .ok (.aload_n 0, 1) := by decide +kernel
theorem dX6_undoBlocks_1 : decode cX6_undoBlocks 1 = .ok (.getfield 156, 3) := by decide +kernel
theorem dX6_undoBlocks_4 : decode cX6_undoBlocks 4 = .ok (.bipush 16, 2) := by decide +kernel
theorem dX6_undoBlocks_6 : decode cX6_undoBlocks 6 = .ok (.irem, 1) := by decide +kernel
theorem dX6_undoBlocks_7 : decode cX6_undoBlocks 7 = .ok (.ifCond .ne 12, 3) := by decide +kernel
theorem dX6_undoBlocks_10 : decode cX6_undoBlocks 10 = .ok (.aload_n 0, 1) := by decide +kernel
theorem dX6_undoBlocks_11 : decode cX6_undoBlocks 11 = .ok (.getfield 156, 3) := by decide +kernel
theorem dX6_undoBlocks_14 : decode cX6_undoBlocks 14 = .ok (.bipush 32, 2) := by decide +kernel
theorem dX6_undoBlocks_16 : decode cX6_undoBlocks 16 = .ok (.if_icmp .ge 6, 3) := by decide +kernel
theorem dX6_undoBlocks_19 : decode cX6_undoBlocks 19 = .ok (.bipush (-2), 2) := by decide +kernel
theorem dX6_undoBlocks_21 : decode cX6_undoBlocks 21 = .ok (.ireturn, 1) := by decide +kernel
theorem dX6_undoBlocks_22 : decode cX6_undoBlocks 22 = .ok (.aload_n 0, 1) := by decide +kernel
theorem dX6_undoBlocks_23 : decode cX6_undoBlocks 23 = .ok (.invokevirtual 278, 3) := by decide +kernel
theorem dX6_undoBlocks_26 : decode cX6_undoBlocks 26 = .ok (.aload_n 0, 1) := by decide +kernel
theorem dX6_undoBlocks_27 : decode cX6_undoBlocks 27 = .ok (.invokevirtual 281, 3) := by decide +kernel
theorem dX6_undoBlocks_30 : decode cX6_undoBlocks 30 = .ok (.istore_n 1, 1) := by decide +kernel
theorem dX6_undoBlocks_31 : decode cX6_undoBlocks 31 = .ok (.iload_n 1, 1) := by decide +kernel
theorem dX6_undoBlocks_32 : decode cX6_undoBlocks 32 = .ok (.ifCond .ne 6, 3) := by decide +kernel
theorem dX6_undoBlocks_35 : decode cX6_undoBlocks 35 = .ok (.bipush (-3), 2) := by decide +kernel
theorem dX6_undoBlocks_37 : decode cX6_undoBlocks 37 = .ok (.ireturn, 1) := by decide +kernel
theorem dX6_undoBlocks_38 : decode cX6_undoBlocks 38 = .ok (.bipush 16, 2) := by decide +kernel
theorem dX6_undoBlocks_40 : decode cX6_undoBlocks 40 = .ok (.istore_n 2, 1) := by decide +kernel
theorem dX6_undoBlocks_41 : decode cX6_undoBlocks 41 = .ok (.iload_n 2, 1) := by decide +kernel
theorem dX6_undoBlocks_42 : decode cX6_undoBlocks 42 = .ok (.aload_n 0, 1) := by decide +kernel
theorem dX6_undoBlocks_43 : decode cX6_undoBlocks 43 = .ok (.getfield 156, 3) := by decide +kernel
theorem dX6_undoBlocks_46 : decode cX6_undoBlocks 46 = .ok (.if_icmp .ge 45, 3) := by decide +kernel
theorem dX6_undoBlocks_49 : decode cX6_undoBlocks 49 = .ok (.aload_n 0, 1) := by decide +kernel
theorem dX6_undoBlocks_50 : decode cX6_undoBlocks 50 = .ok (.iload_n 2, 1) := by decide +kernel
theorem dX6_undoBlocks_51 : decode cX6_undoBlocks 51 = .ok (.invokevirtual 272, 3) := by decide +kernel
theorem dX6_undoBlocks_54 : decode cX6_undoBlocks 54 = .ok (.iconst 0, 1) := by decide +kernel
theorem dX6_undoBlocks_55 : decode cX6_undoBlocks 55 = .ok (.istore_n 3, 1) := by decide +kernel
theorem dX6_undoBlocks_56 : decode cX6_undoBlocks 56 = .ok (.iload_n 3, 1) := by decide +kernel
theorem dX6_undoBlocks_57 : decode cX6_undoBlocks 57 = .ok (.bipush 16, 2) := by decide +kernel
theorem dX6_undoBlocks_59 : decode cX6_undoBlocks 59 = .ok (.if_icmp .ge 26, 3) := by decide +kernel
theorem dX6_undoBlocks_62 : decode cX6_undoBlocks 62 = .ok (.aload_n 0, 1) := by decide +kernel
theorem dX6_undoBlocks_63 : decode cX6_undoBlocks 63 = .ok (.getfield 13, 3) := by decide +kernel
theorem dX6_undoBlocks_66 : decode cX6_undoBlocks 66 = .ok (.iload_n 2, 1) := by decide +kernel
theorem dX6_undoBlocks_67 : decode cX6_undoBlocks 67 = .ok (.bipush 16, 2) := by decide +kernel
theorem dX6_undoBlocks_69 : decode cX6_undoBlocks 69 = .ok (.isub, 1) := by decide +kernel
theorem dX6_undoBlocks_70 : decode cX6_undoBlocks 70 = .ok (.iload_n 3, 1) := by decide +kernel
theorem dX6_undoBlocks_71 : decode cX6_undoBlocks 71 = .ok (.iadd, 1) := by decide +kernel
theorem dX6_undoBlocks_72 : decode cX6_undoBlocks 72 = .ok (.aload_n 0, 1) := by decide +kernel
theorem dX6_undoBlocks_73 : decode cX6_undoBlocks 73 = .ok (.getfield 141, 3) := by decide +kernel
theorem dX6_undoBlocks_76 : decode cX6_undoBlocks 76 = .ok (.iload_n 3, 1) := by decide +kernel
theorem dX6_undoBlocks_77 : decode cX6_undoBlocks 77 = .ok (.iaload, 1) := by decide +kernel
theorem dX6_undoBlocks_78 : decode cX6_undoBlocks 78 = .ok (.iastore, 1) := by decide +kernel
theorem dX6_undoBlocks_79 : decode cX6_undoBlocks 79 = .ok (.iinc 3 1, 3) := by decide +kernel
theorem dX6_undoBlocks_82 : decode cX6_undoBlocks 82 = .ok (.goto (-26), 3) := by decide +kernel
theorem dX6_undoBlocks_85 : decode cX6_undoBlocks 85 = .ok (.iinc 2 16, 3) := by decide +kernel
theorem dX6_undoBlocks_88 : decode cX6_undoBlocks 88 = .ok (.goto (-47), 3) := by decide +kernel
theorem dX6_undoBlocks_91 : decode cX6_undoBlocks 91 = .ok (.aload_n 0, 1) := by decide +kernel
theorem dX6_undoBlocks_92 : decode cX6_undoBlocks 92 = .ok (.aload_n 0, 1) := by decide +kernel
theorem dX6_undoBlocks_93 : decode cX6_undoBlocks 93 = .ok (.getfield 156, 3) := by decide +kernel
theorem dX6_undoBlocks_96 : decode cX6_undoBlocks 96 = .ok (.bipush 16, 2) := by decide +kernel
theorem dX6_undoBlocks_98 : decode cX6_undoBlocks 98 = .ok (.isub, 1) := by decide +kernel
theorem dX6_undoBlocks_99 : decode cX6_undoBlocks 99 = .ok (.iload_n 1, 1) := by decide +kernel
theorem dX6_undoBlocks_100 : decode cX6_undoBlocks 100 = .ok (.isub, 1) := by decide +kernel
theorem dX6_undoBlocks_101 : decode cX6_undoBlocks 101 = .ok (.putfield 194, 3) := by decide +kernel
theorem dX6_undoBlocks_104 : decode cX6_undoBlocks 104 = .ok (.aload_n 0, 1) := by decide +kernel
theorem dX6_undoBlocks_105 : decode cX6_undoBlocks 105 = .ok (.getfield 194, 3) := by decide +kernel
theorem dX6_undoBlocks_108 : decode cX6_undoBlocks 108 = .ok (.ireturn, 1) := by decide +kernel
theorem dX6_undo_0 : decode cX6_undo 0 = .ok (.aload_n 0, 1) := by decide +kernel
theorem dX6_undo_1 : decode cX6_undo 1 = .ok (.aload_n 0, 1) := by decide +kernel
theorem dX6_undo_2 : decode cX6_undo 2 = .ok (.iload_n 1, 1) := by decide +kernel
theorem dX6_undo_3 : decode cX6_undo 3 = .ok (.iload_n 2, 1) := by decide +kernel
theorem dX6_undo_4 : decode cX6_undo 4 = .ok (.iload_n 3, 1) := by decide +kernel
theorem dX6_undo_5 : decode cX6_undo 5 = .ok (.invokevirtual 285, 3) := by decide +kernel
theorem dX6_undo_8 : decode cX6_undo 8 = .ok (.ifCond .ne 7, 3) := by decide +kernel
theorem dX6_undo_11 : decode cX6_undo 11 = .ok (.iconst 1, 1) := by decide +kernel
theorem dX6_undo_12 : decode cX6_undo 12 = .ok (.goto 15, 3) := by decide +kernel
theorem dX6_undo_15 : decode cX6_undo 15 = .ok (.aload_n 0, 1) := by decide +kernel
theorem dX6_undo_16 : decode cX6_undo 16 = .ok (.getfield 220, 3) := by decide +kernel
theorem dX6_undo_19 : decode cX6_undo 19 = .ok (.ifCond .ne 7, 3) := by decide +kernel
theorem dX6_undo_22 : decode cX6_undo 22 = .ok (.iconst 2, 1) := by decide +kernel
theorem dX6_undo_23 : decode cX6_undo 23 = .ok (.goto 4, 3) := by decide +kernel
theorem dX6_undo_26 : decode cX6_undo 26 = .ok (.iconst 0, 1) := by decide +kernel
theorem dX6_undo_27 : decode cX6_undo 27 = .ok (.invokevirtual 159, 3) := by decide +kernel
theorem dX6_undo_30 : decode cX6_undo 30 = .ok (.ifCond .eq 5, 3) := by decide +kernel
theorem dX6_undo_33 : decode cX6_undo 33 = .ok (.iconst 0, 1) := by decide +kernel
theorem dX6_undo_34 : decode cX6_undo 34 = .ok (.ireturn, 1) := by decide +kernel
theorem dX6_undo_35 : decode cX6_undo 35 = .ok (.aload_n 0, 1) := by decide +kernel
theorem dX6_undo_36 : decode cX6_undo 36 = .ok (.iload_n 1, 1) := by decide +kernel
theorem dX6_undo_37 : decode cX6_undo 37 = .ok (.iload_n 2, 1) := by decide +kernel
theorem dX6_undo_38 : decode cX6_undo 38 = .ok (.iload_n 3, 1) := by decide +kernel
theorem dX6_undo_39 : decode cX6_undo 39 = .ok (.invokevirtual 289, 3) := by decide +kernel
theorem dX6_undo_42 : decode cX6_undo 42 = .ok (.iload_n 3, 1) := by decide +kernel
theorem dX6_undo_43 : decode cX6_undo 43 = .ok (.iconst 2, 1) := by decide +kernel
theorem dX6_undo_44 : decode cX6_undo 44 = .ok (.if_icmp .ne 8, 3) := by decide +kernel
theorem dX6_undo_47 : decode cX6_undo 47 = .ok (.aload_n 0, 1) := by decide +kernel
theorem dX6_undo_48 : decode cX6_undo 48 = .ok (.invokevirtual 293, 3) := by decide +kernel
theorem dX6_undo_51 : decode cX6_undo 51 = .ok (.ireturn, 1) := by decide +kernel
theorem dX6_undo_52 : decode cX6_undo 52 = .ok (.iload_n 3, 1) := by decide +kernel
theorem dX6_undo_53 : decode cX6_undo 53 = .ok (.iconst 1, 1) := by decide +kernel
theorem dX6_undo_54 : decode cX6_undo 54 = .ok (.if_icmp .ne 10, 3) := by decide +kernel
theorem dX6_undo_57 : decode cX6_undo 57 = .ok (.aload_n 0, 1) := by decide +kernel
theorem dX6_undo_58 : decode cX6_undo 58 = .ok (.invokevirtual 296, 3) := by decide +kernel
theorem dX6_undo_61 : decode cX6_undo 61 = .ok (.goto 7, 3) := by decide +kernel
theorem dX6_undo_64 : decode cX6_undo 64 = .ok (.aload_n 0, 1) := by decide +kernel
theorem dX6_undo_65 : decode cX6_undo 65 = .ok (.invokevirtual 299, 3) := by decide +kernel
theorem dX6_undo_68 : decode cX6_undo 68 = .ok (.aload_n 0, 1) := by decide +kernel
theorem dX6_undo_69 : decode cX6_undo 69 = .ok (.getfield 194, 3) := by decide +kernel
theorem dX6_undo_72 : decode cX6_undo 72 = .ok (.ireturn, 1) := by decide +kernel
theorem dX6_sealBlocks_0 : decode cX6_sealBlocks 0 = .ok (.aload_n 0, 1) := by decide +kernel
theorem dX6_sealBlocks_1 : decode cX6_sealBlocks 1 = .ok (.invokevirtual 278, 3) := by decide +kernel
theorem dX6_sealBlocks_4 : decode cX6_sealBlocks 4 = .ok (.bipush 16, 2) := by decide +kernel
theorem dX6_sealBlocks_6 : decode cX6_sealBlocks 6 = .ok (.aload_n 0, 1) := by decide +kernel
theorem dX6_sealBlocks_7 : decode cX6_sealBlocks 7 = .ok (.getfield 156, 3) := by decide +kernel
theorem dX6_sealBlocks_10 : decode cX6_sealBlocks 10 = .ok (.bipush 16, 2) := by decide +kernel
theorem dX6_sealBlocks_12 : decode cX6_sealBlocks 12 = .ok (.irem, 1) := by decide +kernel
theorem dX6_sealBlocks_13 : decode cX6_sealBlocks 13 = .ok (.isub, 1) := by decide +kernel
theorem dX6_sealBlocks_14 : decode cX6_sealBlocks 14 = .ok (.istore_n 3, 1) := by decide +kernel
theorem dX6_sealBlocks_15 : decode cX6_sealBlocks 15 = .ok (.iconst 0, 1) := by decide +kernel
theorem dX6_sealBlocks_16 : decode cX6_sealBlocks 16 = .ok (.istore 4, 2) := by decide +kernel
theorem dX6_sealBlocks_18 : decode cX6_sealBlocks 18 = .ok (.iload 4, 2) := by decide +kernel
theorem dX6_sealBlocks_20 : decode cX6_sealBlocks 20 = .ok (.bipush 16, 2) := by decide +kernel
theorem dX6_sealBlocks_22 : decode cX6_sealBlocks 22 = .ok (.if_icmp .ge 72, 3) := by decide +kernel
theorem dX6_sealBlocks_25 : decode cX6_sealBlocks 25 = .ok (.iload 4, 2) := by decide +kernel
theorem dX6_sealBlocks_27 : decode cX6_sealBlocks 27 = .ok (.iconst 4, 1) := by decide +kernel
theorem dX6_sealBlocks_28 : decode cX6_sealBlocks 28 = .ok (.if_icmp .ge 7, 3) := by decide +kernel
theorem dX6_sealBlocks_31 : decode cX6_sealBlocks 31 = .ok (.iload_n 1, 1) := by decide +kernel
theorem dX6_sealBlocks_32 : decode cX6_sealBlocks 32 = .ok (.goto 30, 3) := by decide +kernel
theorem dX6_sealBlocks_35 : decode cX6_sealBlocks 35 = .ok (.iload 4, 2) := by decide +kernel
theorem dX6_sealBlocks_37 : decode cX6_sealBlocks 37 = .ok (.bipush 8, 2) := by decide +kernel
theorem dX6_sealBlocks_39 : decode cX6_sealBlocks 39 = .ok (.if_icmp .ge 7, 3) := by decide +kernel
theorem dX6_sealBlocks_42 : decode cX6_sealBlocks 42 = .ok (.iload_n 2, 1) := by decide +kernel
theorem dX6_sealBlocks_43 : decode cX6_sealBlocks 43 = .ok (.goto 19, 3) := by decide +kernel
theorem dX6_sealBlocks_46 : decode cX6_sealBlocks 46 = .ok (.iload 4, 2) := by decide +kernel
theorem dX6_sealBlocks_48 : decode cX6_sealBlocks 48 = .ok (.bipush 12, 2) := by decide +kernel
theorem dX6_sealBlocks_50 : decode cX6_sealBlocks 50 = .ok (.if_icmp .ge 9, 3) := by decide +kernel
theorem dX6_sealBlocks_53 : decode cX6_sealBlocks 53 = .ok (.iload_n 1, 1) := by decide +kernel
theorem dX6_sealBlocks_54 : decode cX6_sealBlocks 54 = .ok (.iconst (-1), 1) := by decide +kernel
theorem dX6_sealBlocks_55 : decode cX6_sealBlocks 55 = .ok (.ixor, 1) := by decide +kernel
theorem dX6_sealBlocks_56 : decode cX6_sealBlocks 56 = .ok (.goto 6, 3) := by decide +kernel
theorem dX6_sealBlocks_59 : decode cX6_sealBlocks 59 = .ok (.iload_n 2, 1) := by decide +kernel
theorem dX6_sealBlocks_60 : decode cX6_sealBlocks 60 = .ok (.iconst (-1), 1) := by decide +kernel
theorem dX6_sealBlocks_61 : decode cX6_sealBlocks 61 = .ok (.ixor, 1) := by decide +kernel
theorem dX6_sealBlocks_62 : decode cX6_sealBlocks 62 = .ok (.istore 5, 2) := by decide +kernel
theorem dX6_sealBlocks_64 : decode cX6_sealBlocks 64 = .ok (.aload_n 0, 1) := by decide +kernel
theorem dX6_sealBlocks_65 : decode cX6_sealBlocks 65 = .ok (.getfield 13, 3) := by decide +kernel
theorem dX6_sealBlocks_68 : decode cX6_sealBlocks 68 = .ok (.iload 4, 2) := by decide +kernel
theorem dX6_sealBlocks_70 : decode cX6_sealBlocks 70 = .ok (.iload 5, 2) := by decide +kernel
theorem dX6_sealBlocks_72 : decode cX6_sealBlocks 72 = .ok (.bipush 24, 2) := by decide +kernel
theorem dX6_sealBlocks_74 : decode cX6_sealBlocks 74 = .ok (.bipush 8, 2) := by decide +kernel
theorem dX6_sealBlocks_76 : decode cX6_sealBlocks 76 = .ok (.iload 4, 2) := by decide +kernel
theorem dX6_sealBlocks_78 : decode cX6_sealBlocks 78 = .ok (.iconst 4, 1) := by decide +kernel
theorem dX6_sealBlocks_79 : decode cX6_sealBlocks 79 = .ok (.irem, 1) := by decide +kernel
theorem dX6_sealBlocks_80 : decode cX6_sealBlocks 80 = .ok (.imul, 1) := by decide +kernel
theorem dX6_sealBlocks_81 : decode cX6_sealBlocks 81 = .ok (.isub, 1) := by decide +kernel
theorem dX6_sealBlocks_82 : decode cX6_sealBlocks 82 = .ok (.ishr, 1) := by decide +kernel
theorem dX6_sealBlocks_83 : decode cX6_sealBlocks 83 = .ok (.sipush 255, 3) := by decide +kernel
theorem dX6_sealBlocks_86 : decode cX6_sealBlocks 86 = .ok (.iand, 1) := by decide +kernel
theorem dX6_sealBlocks_87 : decode cX6_sealBlocks 87 = .ok (.iastore, 1) := by decide +kernel
theorem dX6_sealBlocks_88 : decode cX6_sealBlocks 88 = .ok (.iinc 4 1, 3) := by decide +kernel
theorem dX6_sealBlocks_91 : decode cX6_sealBlocks 91 = .ok (.goto (-73), 3) := by decide +kernel
theorem dX6_sealBlocks_94 : decode cX6_sealBlocks 94 = .ok (.aload_n 0, 1) := by decide +kernel
theorem dX6_sealBlocks_95 : decode cX6_sealBlocks 95 = .ok (.bipush 16, 2) := by decide +kernel
theorem dX6_sealBlocks_97 : decode cX6_sealBlocks 97 = .ok (.putfield 194, 3) := by decide +kernel
theorem dX6_sealBlocks_100 : decode cX6_sealBlocks 100 = .ok (.iconst 0, 1) := by decide +kernel
theorem dX6_sealBlocks_101 : decode cX6_sealBlocks 101 = .ok (.istore 4, 2) := by decide +kernel
theorem dX6_sealBlocks_103 : decode cX6_sealBlocks 103 = .ok (.iload 4, 2) := by decide +kernel
theorem dX6_sealBlocks_105 : decode cX6_sealBlocks 105 = .ok (.aload_n 0, 1) := by decide +kernel
theorem dX6_sealBlocks_106 : decode cX6_sealBlocks 106 = .ok (.getfield 156, 3) := by decide +kernel
theorem dX6_sealBlocks_109 : decode cX6_sealBlocks 109 = .ok (.iload_n 3, 1) := by decide +kernel
theorem dX6_sealBlocks_110 : decode cX6_sealBlocks 110 = .ok (.iadd, 1) := by decide +kernel
theorem dX6_sealBlocks_111 : decode cX6_sealBlocks 111 = .ok (.if_icmp .ge 119, 3) := by decide +kernel
theorem dX6_sealBlocks_114 : decode cX6_sealBlocks 114 = .ok (.iconst 0, 1) := by decide +kernel
theorem dX6_sealBlocks_115 : decode cX6_sealBlocks 115 = .ok (.istore 5, 2) := by decide +kernel
theorem dX6_sealBlocks_117 : decode cX6_sealBlocks 117 = .ok (.iload 5, 2) := by decide +kernel
theorem dX6_sealBlocks_119 : decode cX6_sealBlocks 119 = .ok (.bipush 16, 2) := by decide +kernel
theorem dX6_sealBlocks_121 : decode cX6_sealBlocks 121 = .ok (.if_icmp .ge 57, 3) := by decide +kernel
theorem dX6_sealBlocks_124 : decode cX6_sealBlocks 124 = .ok (.iload 4, 2) := by decide +kernel
theorem dX6_sealBlocks_126 : decode cX6_sealBlocks 126 = .ok (.iload 5, 2) := by decide +kernel
theorem dX6_sealBlocks_128 : decode cX6_sealBlocks 128 = .ok (.iadd, 1) := by decide +kernel
theorem dX6_sealBlocks_129 : decode cX6_sealBlocks 129 = .ok (.aload_n 0, 1) := by decide +kernel
theorem dX6_sealBlocks_130 : decode cX6_sealBlocks 130 = .ok (.getfield 156, 3) := by decide +kernel
theorem dX6_sealBlocks_133 : decode cX6_sealBlocks 133 = .ok (.if_icmp .ge 16, 3) := by decide +kernel
theorem dX6_sealBlocks_136 : decode cX6_sealBlocks 136 = .ok (.aload_n 0, 1) := by decide +kernel
theorem dX6_sealBlocks_137 : decode cX6_sealBlocks 137 = .ok (.getfield 7, 3) := by decide +kernel
theorem dX6_sealBlocks_140 : decode cX6_sealBlocks 140 = .ok (.iload 4, 2) := by decide +kernel
theorem dX6_sealBlocks_142 : decode cX6_sealBlocks 142 = .ok (.iload 5, 2) := by decide +kernel
theorem dX6_sealBlocks_144 : decode cX6_sealBlocks 144 = .ok (.iadd, 1) := by decide +kernel
theorem dX6_sealBlocks_145 : decode cX6_sealBlocks 145 = .ok (.iaload, 1) := by decide +kernel
theorem dX6_sealBlocks_146 : decode cX6_sealBlocks 146 = .ok (.goto 4, 3) := by decide +kernel
theorem dX6_sealBlocks_149 : decode cX6_sealBlocks 149 = .ok (.iload_n 3, 1) := by decide +kernel
theorem dX6_sealBlocks_150 : decode cX6_sealBlocks 150 = .ok (.istore 6, 2) := by decide +kernel
theorem dX6_sealBlocks_152 : decode cX6_sealBlocks 152 = .ok (.aload_n 0, 1) := by decide +kernel
theorem dX6_sealBlocks_153 : decode cX6_sealBlocks 153 = .ok (.getfield 141, 3) := by decide +kernel
theorem dX6_sealBlocks_156 : decode cX6_sealBlocks 156 = .ok (.iload 5, 2) := by decide +kernel
theorem dX6_sealBlocks_158 : decode cX6_sealBlocks 158 = .ok (.iload 6, 2) := by decide +kernel
theorem dX6_sealBlocks_160 : decode cX6_sealBlocks 160 = .ok (.aload_n 0, 1) := by decide +kernel
theorem dX6_sealBlocks_161 : decode cX6_sealBlocks 161 = .ok (.getfield 13, 3) := by decide +kernel
theorem dX6_sealBlocks_164 : decode cX6_sealBlocks 164 = .ok (.iload 4, 2) := by decide +kernel
theorem dX6_sealBlocks_166 : decode cX6_sealBlocks 166 = .ok (.iload 5, 2) := by decide +kernel
theorem dX6_sealBlocks_168 : decode cX6_sealBlocks 168 = .ok (.iadd, 1) := by decide +kernel
theorem dX6_sealBlocks_169 : decode cX6_sealBlocks 169 = .ok (.iaload, 1) := by decide +kernel
theorem dX6_sealBlocks_170 : decode cX6_sealBlocks 170 = .ok (.ixor, 1) := by decide +kernel
theorem dX6_sealBlocks_171 : decode cX6_sealBlocks 171 = .ok (.iastore, 1) := by decide +kernel
theorem dX6_sealBlocks_172 : decode cX6_sealBlocks 172 = .ok (.iinc 5 1, 3) := by decide +kernel
theorem dX6_sealBlocks_175 : decode cX6_sealBlocks 175 = .ok (.goto (-58), 3) := by decide +kernel
theorem dX6_sealBlocks_178 : decode cX6_sealBlocks 178 = .ok (.aload_n 0, 1) := by decide +kernel
theorem dX6_sealBlocks_179 : decode cX6_sealBlocks 179 = .ok (.invokevirtual 302, 3) := by decide +kernel
theorem dX6_sealBlocks_182 : decode cX6_sealBlocks 182 = .ok (.iconst 0, 1) := by decide +kernel
theorem dX6_sealBlocks_183 : decode cX6_sealBlocks 183 = .ok (.istore 5, 2) := by decide +kernel
theorem dX6_sealBlocks_185 : decode cX6_sealBlocks 185 = .ok (.iload 5, 2) := by decide +kernel
theorem dX6_sealBlocks_187 : decode cX6_sealBlocks 187 = .ok (.bipush 16, 2) := by decide +kernel
theorem dX6_sealBlocks_189 : decode cX6_sealBlocks 189 = .ok (.if_icmp .ge 35, 3) := by decide +kernel
theorem dX6_sealBlocks_192 : decode cX6_sealBlocks 192 = .ok (.aload_n 0, 1) := by decide +kernel
theorem dX6_sealBlocks_193 : decode cX6_sealBlocks 193 = .ok (.getfield 13, 3) := by decide +kernel
theorem dX6_sealBlocks_196 : decode cX6_sealBlocks 196 = .ok (.aload_n 0, 1) := by decide +kernel
theorem dX6_sealBlocks_197 : decode cX6_sealBlocks 197 = .ok (.getfield 194, 3) := by decide +kernel
theorem dX6_sealBlocks_200 : decode cX6_sealBlocks 200 = .ok (.aload_n 0, 1) := by decide +kernel
theorem dX6_sealBlocks_201 : decode cX6_sealBlocks 201 = .ok (.getfield 141, 3) := by decide +kernel
theorem dX6_sealBlocks_204 : decode cX6_sealBlocks 204 = .ok (.iload 5, 2) := by decide +kernel
theorem dX6_sealBlocks_206 : decode cX6_sealBlocks 206 = .ok (.iaload, 1) := by decide +kernel
theorem dX6_sealBlocks_207 : decode cX6_sealBlocks 207 = .ok (.iastore, 1) := by decide +kernel
theorem dX6_sealBlocks_208 : decode cX6_sealBlocks 208 = .ok (.aload_n 0, 1) := by decide +kernel
theorem dX6_sealBlocks_209 : decode cX6_sealBlocks 209 = .ok (.dup, 1) := by decide +kernel
theorem dX6_sealBlocks_210 : decode cX6_sealBlocks 210 = .ok (.getfield 194, 3) := by decide +kernel
theorem dX6_sealBlocks_213 : decode cX6_sealBlocks 213 = .ok (.iconst 1, 1) := by decide +kernel
theorem dX6_sealBlocks_214 : decode cX6_sealBlocks 214 = .ok (.iadd, 1) := by decide +kernel
theorem dX6_sealBlocks_215 : decode cX6_sealBlocks 215 = .ok (.putfield 194, 3) := by decide +kernel
theorem dX6_sealBlocks_218 : decode cX6_sealBlocks 218 = .ok (.iinc 5 1, 3) := by decide +kernel
theorem dX6_sealBlocks_221 : decode cX6_sealBlocks 221 = .ok (.goto (-36), 3) := by decide +kernel
theorem dX6_sealBlocks_224 : decode cX6_sealBlocks 224 = .ok (.iinc 4 16, 3) := by decide +kernel
theorem dX6_sealBlocks_227 : decode cX6_sealBlocks 227 = .ok (.goto (-124), 3) := by decide +kernel
theorem dX6_sealBlocks_230 : decode cX6_sealBlocks 230 = .ok (.return_, 1) := by decide +kernel
theorem dX6_seal_0 : decode cX6_seal 0 = .ok (.iload_n 3, 1) := by decide +kernel
theorem dX6_seal_1 : decode cX6_seal 1 = .ok (.iconst 2, 1) := by decide +kernel
theorem dX6_seal_2 : decode cX6_seal 2 = .ok (.if_icmp .ne 24, 3) := by decide +kernel
theorem dX6_seal_5 : decode cX6_seal 5 = .ok (.aload_n 0, 1) := by decide +kernel
theorem dX6_seal_6 : decode cX6_seal 6 = .ok (.getfield 156, 3) := by decide +kernel
theorem dX6_seal_9 : decode cX6_seal 9 = .ok (.bipush 32, 2) := by decide +kernel
theorem dX6_seal_11 : decode cX6_seal 11 = .ok (.iadd, 1) := by decide +kernel
theorem dX6_seal_12 : decode cX6_seal 12 = .ok (.aload_n 0, 1) := by decide +kernel
theorem dX6_seal_13 : decode cX6_seal 13 = .ok (.getfield 156, 3) := by decide +kernel
theorem dX6_seal_16 : decode cX6_seal 16 = .ok (.bipush 16, 2) := by decide +kernel
theorem dX6_seal_18 : decode cX6_seal 18 = .ok (.irem, 1) := by decide +kernel
theorem dX6_seal_19 : decode cX6_seal 19 = .ok (.isub, 1) := by decide +kernel
theorem dX6_seal_20 : decode cX6_seal 20 = .ok (.sipush 16384, 3) := by decide +kernel
theorem dX6_seal_23 : decode cX6_seal 23 = .ok (.if_icmp .gt 7, 3) := by decide +kernel
theorem dX6_seal_26 : decode cX6_seal 26 = .ok (.iconst 1, 1) := by decide +kernel
theorem dX6_seal_27 : decode cX6_seal 27 = .ok (.goto 4, 3) := by decide +kernel
theorem dX6_seal_30 : decode cX6_seal 30 = .ok (.iconst 0, 1) := by decide +kernel
theorem dX6_seal_31 : decode cX6_seal 31 = .ok (.istore 6, 2) := by decide +kernel
theorem dX6_seal_33 : decode cX6_seal 33 = .ok (.aload_n 0, 1) := by decide +kernel
theorem dX6_seal_34 : decode cX6_seal 34 = .ok (.aload_n 0, 1) := by decide +kernel
theorem dX6_seal_35 : decode cX6_seal 35 = .ok (.iload_n 1, 1) := by decide +kernel
theorem dX6_seal_36 : decode cX6_seal 36 = .ok (.iload_n 2, 1) := by decide +kernel
theorem dX6_seal_37 : decode cX6_seal 37 = .ok (.iload_n 3, 1) := by decide +kernel
theorem dX6_seal_38 : decode cX6_seal 38 = .ok (.invokevirtual 285, 3) := by decide +kernel
theorem dX6_seal_41 : decode cX6_seal 41 = .ok (.ifCond .ne 7, 3) := by decide +kernel
theorem dX6_seal_44 : decode cX6_seal 44 = .ok (.iconst 1, 1) := by decide +kernel
theorem dX6_seal_45 : decode cX6_seal 45 = .ok (.goto 20, 3) := by decide +kernel
theorem dX6_seal_48 : decode cX6_seal 48 = .ok (.aload_n 0, 1) := by decide +kernel
theorem dX6_seal_49 : decode cX6_seal 49 = .ok (.getfield 220, 3) := by decide +kernel
theorem dX6_seal_52 : decode cX6_seal 52 = .ok (.ifCond .eq 8, 3) := by decide +kernel
theorem dX6_seal_55 : decode cX6_seal 55 = .ok (.iload 6, 2) := by decide +kernel
theorem dX6_seal_57 : decode cX6_seal 57 = .ok (.ifCond .ne 7, 3) := by decide +kernel
theorem dX6_seal_60 : decode cX6_seal 60 = .ok (.iconst 2, 1) := by decide +kernel
theorem dX6_seal_61 : decode cX6_seal 61 = .ok (.goto 4, 3) := by decide +kernel
theorem dX6_seal_64 : decode cX6_seal 64 = .ok (.iconst 0, 1) := by decide +kernel
theorem dX6_seal_65 : decode cX6_seal 65 = .ok (.invokevirtual 159, 3) := by decide +kernel
theorem dX6_seal_68 : decode cX6_seal 68 = .ok (.ifCond .eq 5, 3) := by decide +kernel
theorem dX6_seal_71 : decode cX6_seal 71 = .ok (.iconst 0, 1) := by decide +kernel
theorem dX6_seal_72 : decode cX6_seal 72 = .ok (.ireturn, 1) := by decide +kernel
theorem dX6_seal_73 : decode cX6_seal 73 = .ok (.aload_n 0, 1) := by decide +kernel
theorem dX6_seal_74 : decode cX6_seal 74 = .ok (.iload_n 1, 1) := by decide +kernel
theorem dX6_seal_75 : decode cX6_seal 75 = .ok (.iload_n 2, 1) := by decide +kernel
theorem dX6_seal_76 : decode cX6_seal 76 = .ok (.iload_n 3, 1) := by decide +kernel
theorem dX6_seal_77 : decode cX6_seal 77 = .ok (.invokevirtual 289, 3) := by decide +kernel
theorem dX6_seal_80 : decode cX6_seal 80 = .ok (.iload_n 3, 1) := by decide +kernel
theorem dX6_seal_81 : decode cX6_seal 81 = .ok (.iconst 2, 1) := by decide +kernel
theorem dX6_seal_82 : decode cX6_seal 82 = .ok (.if_icmp .ne 14, 3) := by decide +kernel
theorem dX6_seal_85 : decode cX6_seal 85 = .ok (.aload_n 0, 1) := by decide +kernel
theorem dX6_seal_86 : decode cX6_seal 86 = .ok (.iload 4, 2) := by decide +kernel
theorem dX6_seal_88 : decode cX6_seal 88 = .ok (.iload 5, 2) := by decide +kernel
theorem dX6_seal_90 : decode cX6_seal 90 = .ok (.invokevirtual 305, 3) := by decide +kernel
theorem dX6_seal_93 : decode cX6_seal 93 = .ok (.goto 19, 3) := by decide +kernel
theorem dX6_seal_96 : decode cX6_seal 96 = .ok (.iload_n 3, 1) := by decide +kernel
theorem dX6_seal_97 : decode cX6_seal 97 = .ok (.iconst 1, 1) := by decide +kernel
theorem dX6_seal_98 : decode cX6_seal 98 = .ok (.if_icmp .ne 10, 3) := by decide +kernel
theorem dX6_seal_101 : decode cX6_seal 101 = .ok (.aload_n 0, 1) := by decide +kernel
theorem dX6_seal_102 : decode cX6_seal 102 = .ok (.invokevirtual 296, 3) := by decide +kernel
theorem dX6_seal_105 : decode cX6_seal 105 = .ok (.goto 7, 3) := by decide +kernel
theorem dX6_seal_108 : decode cX6_seal 108 = .ok (.aload_n 0, 1) := by decide +kernel
theorem dX6_seal_109 : decode cX6_seal 109 = .ok (.invokevirtual 299, 3) := by decide +kernel
theorem dX6_seal_112 : decode cX6_seal 112 = .ok (.aload_n 0, 1) := by decide +kernel
theorem dX6_seal_113 : decode cX6_seal 113 = .ok (.getfield 194, 3) := by decide +kernel
theorem dX6_seal_116 : decode cX6_seal 116 = .ok (.ireturn, 1) := by decide +kernel
theorem dX6_count_0 : decode cX6_count 0 = .ok (.aload_n 0, 1) := by decide +kernel
theorem dX6_count_1 : decode cX6_count 1 = .ok (.iconst 0, 1) := by decide +kernel
theorem dX6_count_2 : decode cX6_count 2 = .ok (.putfield 153, 3) := by decide +kernel
theorem dX6_count_5 : decode cX6_count 5 = .ok (.iload_n 1, 1) := by decide +kernel
theorem dX6_count_6 : decode cX6_count 6 = .ok (.ifCond .ne 10, 3) := by decide +kernel
theorem dX6_count_9 : decode cX6_count 9 = .ok (.aload_n 0, 1) := by decide +kernel
theorem dX6_count_10 : decode cX6_count 10 = .ok (.getfield 194, 3) := by decide +kernel
theorem dX6_count_13 : decode cX6_count 13 = .ok (.goto 16, 3) := by decide +kernel
theorem dX6_count_16 : decode cX6_count 16 = .ok (.iload_n 1, 1) := by decide +kernel
theorem dX6_count_17 : decode cX6_count 17 = .ok (.iconst 1, 1) := by decide +kernel
theorem dX6_count_18 : decode cX6_count 18 = .ok (.if_icmp .ne 10, 3) := by decide +kernel
theorem dX6_count_21 : decode cX6_count 21 = .ok (.aload_n 0, 1) := by decide +kernel
theorem dX6_count_22 : decode cX6_count 22 = .ok (.getfield 156, 3) := by decide +kernel
theorem dX6_count_25 : decode cX6_count 25 = .ok (.goto 4, 3) := by decide +kernel
theorem dX6_count_28 : decode cX6_count 28 = .ok (.iconst (-1), 1) := by decide +kernel
theorem dX6_count_29 : decode cX6_count 29 = .ok (.ireturn, 1) := by decide +kernel
theorem dX6_at_0 : decode cX6_at 0 = .ok (.aload_n 0, 1) := by decide +kernel
theorem dX6_at_1 : decode cX6_at 1 = .ok (.iconst 0, 1) := by decide +kernel
theorem dX6_at_2 : decode cX6_at 2 = .ok (.putfield 153, 3) := by decide +kernel
theorem dX6_at_5 : decode cX6_at 5 = .ok (.iload_n 1, 1) := by decide +kernel
theorem dX6_at_6 : decode cX6_at 6 = .ok (.ifCond .lt 20, 3) := by decide +kernel
theorem dX6_at_9 : decode cX6_at 9 = .ok (.iload_n 1, 1) := by decide +kernel
theorem dX6_at_10 : decode cX6_at 10 = .ok (.aload_n 0, 1) := by decide +kernel
theorem dX6_at_11 : decode cX6_at 11 = .ok (.getfield 194, 3) := by decide +kernel
theorem dX6_at_14 : decode cX6_at 14 = .ok (.if_icmp .ge 12, 3) := by decide +kernel
theorem dX6_at_17 : decode cX6_at 17 = .ok (.aload_n 0, 1) := by decide +kernel
theorem dX6_at_18 : decode cX6_at 18 = .ok (.getfield 13, 3) := by decide +kernel
theorem dX6_at_21 : decode cX6_at 21 = .ok (.iload_n 1, 1) := by decide +kernel
theorem dX6_at_22 : decode cX6_at 22 = .ok (.iaload, 1) := by decide +kernel
theorem dX6_at_23 : decode cX6_at 23 = .ok (.goto 4, 3) := by decide +kernel
theorem dX6_at_26 : decode cX6_at 26 = .ok (.iconst (-1), 1) := by decide +kernel
theorem dX6_at_27 : decode cX6_at 27 = .ok (.ireturn, 1) := by decide +kernel
theorem dX6_entry_0 : decode cX6_entry 0 = .ok (.aload_n 0, 1) := by decide +kernel
theorem dX6_entry_1 : decode cX6_entry 1 = .ok (.iconst 0, 1) := by decide +kernel
theorem dX6_entry_2 : decode cX6_entry 2 = .ok (.putfield 153, 3) := by decide +kernel
theorem dX6_entry_5 : decode cX6_entry 5 = .ok (.iload_n 2, 1) := by decide +kernel
theorem dX6_entry_6 : decode cX6_entry 6 = .ok (.ifCond .lt 13, 3) := by decide +kernel
theorem dX6_entry_9 : decode cX6_entry 9 = .ok (.iload_n 2, 1) := by decide +kernel
theorem dX6_entry_10 : decode cX6_entry 10 = .ok (.bipush 32, 2) := by decide +kernel
theorem dX6_entry_12 : decode cX6_entry 12 = .ok (.if_icmp .ge 7, 3) := by decide +kernel
theorem dX6_entry_15 : decode cX6_entry 15 = .ok (.iconst 1, 1) := by decide +kernel
theorem dX6_entry_16 : decode cX6_entry 16 = .ok (.goto 4, 3) := by decide +kernel
theorem dX6_entry_19 : decode cX6_entry 19 = .ok (.iconst 0, 1) := by decide +kernel
theorem dX6_entry_20 : decode cX6_entry 20 = .ok (.istore_n 3, 1) := by decide +kernel
theorem dX6_entry_21 : decode cX6_entry 21 = .ok (.iload_n 3, 1) := by decide +kernel
theorem dX6_entry_22 : decode cX6_entry 22 = .ok (.ifCond .ne 7, 3) := by decide +kernel
theorem dX6_entry_25 : decode cX6_entry 25 = .ok (.iconst (-1), 1) := by decide +kernel
theorem dX6_entry_26 : decode cX6_entry 26 = .ok (.goto 31, 3) := by decide +kernel
theorem dX6_entry_29 : decode cX6_entry 29 = .ok (.iload_n 1, 1) := by decide +kernel
theorem dX6_entry_30 : decode cX6_entry 30 = .ok (.ifCond .ne 12, 3) := by decide +kernel
theorem dX6_entry_33 : decode cX6_entry 33 = .ok (.aload_n 0, 1) := by decide +kernel
theorem dX6_entry_34 : decode cX6_entry 34 = .ok (.getfield 26, 3) := by decide +kernel
theorem dX6_entry_37 : decode cX6_entry 37 = .ok (.iload_n 2, 1) := by decide +kernel
theorem dX6_entry_38 : decode cX6_entry 38 = .ok (.iaload, 1) := by decide +kernel
theorem dX6_entry_39 : decode cX6_entry 39 = .ok (.goto 18, 3) := by decide +kernel
theorem dX6_entry_42 : decode cX6_entry 42 = .ok (.iload_n 1, 1) := by decide +kernel
theorem dX6_entry_43 : decode cX6_entry 43 = .ok (.iconst 1, 1) := by decide +kernel
theorem dX6_entry_44 : decode cX6_entry 44 = .ok (.if_icmp .ne 12, 3) := by decide +kernel
theorem dX6_entry_47 : decode cX6_entry 47 = .ok (.aload_n 0, 1) := by decide +kernel
theorem dX6_entry_48 : decode cX6_entry 48 = .ok (.getfield 29, 3) := by decide +kernel
theorem dX6_entry_51 : decode cX6_entry 51 = .ok (.iload_n 2, 1) := by decide +kernel
theorem dX6_entry_52 : decode cX6_entry 52 = .ok (.iaload, 1) := by decide +kernel
theorem dX6_entry_53 : decode cX6_entry 53 = .ok (.goto 4, 3) := by decide +kernel
theorem dX6_entry_56 : decode cX6_entry 56 = .ok (.iconst (-1), 1) := by decide +kernel
theorem dX6_entry_57 : decode cX6_entry 57 = .ok (.ireturn, 1) := by decide +kernel
theorem dX6_keep_0 : decode cX6_keep 0 = .ok (.aload_n 0, 1) := by decide +kernel
theorem dX6_keep_1 : decode cX6_keep 1 = .ok (.iconst 0, 1) := by decide +kernel
theorem dX6_keep_2 : decode cX6_keep 2 = .ok (.putfield 153, 3) := by decide +kernel
theorem dX6_keep_5 : decode cX6_keep 5 = .ok (.aload_n 0, 1) := by decide +kernel
theorem dX6_keep_6 : decode cX6_keep 6 = .ok (.aload_n 0, 1) := by decide +kernel
theorem dX6_keep_7 : decode cX6_keep 7 = .ok (.getfield 194, 3) := by decide +kernel
theorem dX6_keep_10 : decode cX6_keep 10 = .ok (.putfield 156, 3) := by decide +kernel
theorem dX6_keep_13 : decode cX6_keep 13 = .ok (.iconst 0, 1) := by decide +kernel
theorem dX6_keep_14 : decode cX6_keep 14 = .ok (.istore_n 1, 1) := by decide +kernel
theorem dX6_keep_15 : decode cX6_keep 15 = .ok (.iload_n 1, 1) := by decide +kernel
theorem dX6_keep_16 : decode cX6_keep 16 = .ok (.aload_n 0, 1) := by decide +kernel
theorem dX6_keep_17 : decode cX6_keep 17 = .ok (.getfield 156, 3) := by decide +kernel
theorem dX6_keep_20 : decode cX6_keep 20 = .ok (.if_icmp .ge 21, 3) := by decide +kernel
theorem dX6_keep_23 : decode cX6_keep 23 = .ok (.aload_n 0, 1) := by decide +kernel
theorem dX6_keep_24 : decode cX6_keep 24 = .ok (.getfield 7, 3) := by decide +kernel
theorem dX6_keep_27 : decode cX6_keep 27 = .ok (.iload_n 1, 1) := by decide +kernel
theorem dX6_keep_28 : decode cX6_keep 28 = .ok (.aload_n 0, 1) := by decide +kernel
theorem dX6_keep_29 : decode cX6_keep 29 = .ok (.getfield 13, 3) := by decide +kernel
theorem dX6_keep_32 : decode cX6_keep 32 = .ok (.iload_n 1, 1) := by decide +kernel
theorem dX6_keep_33 : decode cX6_keep 33 = .ok (.iaload, 1) := by decide +kernel
theorem dX6_keep_34 : decode cX6_keep 34 = .ok (.iastore, 1) := by decide +kernel
theorem dX6_keep_35 : decode cX6_keep 35 = .ok (.iinc 1 1, 3) := by decide +kernel
theorem dX6_keep_38 : decode cX6_keep 38 = .ok (.goto (-23), 3) := by decide +kernel
theorem dX6_keep_41 : decode cX6_keep 41 = .ok (.aload_n 0, 1) := by decide +kernel
theorem dX6_keep_42 : decode cX6_keep 42 = .ok (.getfield 156, 3) := by decide +kernel
theorem dX6_keep_45 : decode cX6_keep 45 = .ok (.ireturn, 1) := by decide +kernel
