theorem dX12_within_0 : decode cX12_within 0 = .ok (.lload_n 0, 1) := by decide +kernel
theorem dX12_within_1 : decode cX12_within 1 = .ok (.lload_n 2, 1) := by decide +kernel
theorem dX12_within_2 : decode cX12_within 2 = .ok (.lcmp, 1) := by decide +kernel
theorem dX12_within_3 : decode cX12_within 3 = .ok (.ifCond .lt 14, 3) := by decide +kernel
theorem dX12_within_6 : decode cX12_within 6 = .ok (.lload_n 0, 1) := by decide +kernel
theorem dX12_within_7 : decode cX12_within 7 = .ok (.lload 4, 2) := by decide +kernel
theorem dX12_within_9 : decode cX12_within 9 = .ok (.lcmp, 1) := by decide +kernel
theorem dX12_within_10 : decode cX12_within 10 = .ok (.ifCond .gt 7, 3) := by decide +kernel
theorem dX12_within_13 : decode cX12_within 13 = .ok (.iconst 1, 1) := by decide +kernel
theorem dX12_within_14 : decode cX12_within 14 = .ok (.goto 4, 3) := by decide +kernel
theorem dX12_within_17 : decode cX12_within 17 = .ok (.iconst 0, 1) := by decide +kernel
theorem dX12_within_18 : decode cX12_within 18 = .ok (.ireturn, 1) := by decide +kernel
theorem dX12_init_0 : decode cX12_init 0 = .ok (.aload_n 0, 1) := by decide +kernel
theorem dX12_init_1 : decode cX12_init 1 = .ok (.invokespecial 7, 3) := by decide +kernel
theorem dX12_init_4 : decode cX12_init 4 = .ok (.aload_n 0, 1) := by decide +kernel
theorem dX12_init_5 : decode cX12_init 5 = .ok (.sipush 3318, 3) := by decide +kernel
theorem dX12_init_8 : decode cX12_init 8 = .ok (.newarray .int, 2) := by decide +kernel
theorem dX12_init_10 : decode cX12_init 10 = .ok (.putfield 13, 3) := by decide +kernel
theorem dX12_init_13 : decode cX12_init 13 = .ok (.aload_n 0, 1) := by decide +kernel
theorem dX12_init_14 : decode cX12_init 14 = .ok (.iconst 2, 1) := by decide +kernel
theorem dX12_init_15 : decode cX12_init 15 = .ok (.newarray .boolean, 2) := by decide +kernel
theorem dX12_init_17 : decode cX12_init 17 = .ok (.putfield 17, 3) := by decide +kernel
theorem dX12_init_20 : decode cX12_init 20 = .ok (.aload_n 0, 1) := by decide +kernel
theorem dX12_init_21 : decode cX12_init 21 = .ok (.sipush 900, 3) := by decide +kernel
theorem dX12_init_24 : decode cX12_init 24 = .ok (.newarray .int, 2) := by decide +kernel
theorem dX12_init_26 : decode cX12_init 26 = .ok (.putfield 21, 3) := by decide +kernel
theorem dX12_init_29 : decode cX12_init 29 = .ok (.aload_n 0, 1) := by decide +kernel
theorem dX12_init_30 : decode cX12_init 30 = .ok (.sipush 1106, 3) := by decide +kernel
theorem dX12_init_33 : decode cX12_init 33 = .ok (.newarray .int, 2) := by decide +kernel
theorem dX12_init_35 : decode cX12_init 35 = .ok (.putfield 24, 3) := by decide +kernel
theorem dX12_init_38 : decode cX12_init 38 = .ok (.aload_n 0, 1) := by decide +kernel
theorem dX12_init_39 : decode cX12_init 39 = .ok (.iconst (-1), 1) := by decide +kernel
theorem dX12_init_40 : decode cX12_init 40 = .ok (.putfield 27, 3) := by decide +kernel
theorem dX12_init_43 : decode cX12_init 43 = .ok (.aload_n 0, 1) := by decide +kernel
theorem dX12_init_44 : decode cX12_init 44 = .ok (.bipush 12, 2) := by decide +kernel
theorem dX12_init_46 : decode cX12_init 46 = .ok (.newarray .int, 2) := by decide +kernel
theorem dX12_init_48 : decode cX12_init 48 = .ok (.putfield 30, 3) := by decide +kernel
theorem dX12_init_51 : decode cX12_init 51 = .ok (.aload_n 0, 1) := by decide +kernel
theorem dX12_init_52 : decode cX12_init 52 = .ok (.sipush 366, 3) := by decide +kernel
theorem dX12_init_55 : decode cX12_init 55 = .ok (.newarray .long, 2) := by decide +kernel
theorem dX12_init_57 : decode cX12_init 57 = .ok (.putfield 33, 3) := by decide +kernel
theorem dX12_init_60 : decode cX12_init 60 = .ok (.aload_n 0, 1) := by decide +kernel
theorem dX12_init_61 : decode cX12_init 61 = .ok (.sipush 366, 3) := by decide +kernel
theorem dX12_init_64 : decode cX12_init 64 = .ok (.newarray .long, 2) := by decide +kernel
theorem dX12_init_66 : decode cX12_init 66 = .ok (.putfield 37, 3) := by decide +kernel
theorem dX12_init_69 : decode cX12_init 69 = .ok (.aload_n 0, 1) := by decide +kernel
theorem dX12_init_70 : decode cX12_init 70 = .ok (.sipush 900, 3) := by decide +kernel
theorem dX12_init_73 : decode cX12_init 73 = .ok (.newarray .int, 2) := by decide +kernel
theorem dX12_init_75 : decode cX12_init 75 = .ok (.putfield 40, 3) := by decide +kernel
theorem dX12_init_78 : decode cX12_init 78 = .ok (.aload_n 0, 1) := by decide +kernel
theorem dX12_init_79 : decode cX12_init 79 = .ok (.iconst 5, 1) := by decide +kernel
theorem dX12_init_80 : decode cX12_init 80 = .ok (.newarray .int, 2) := by decide +kernel
theorem dX12_init_82 : decode cX12_init 82 = .ok (.putfield 43, 3) := by decide +kernel
theorem dX12_init_85 : decode cX12_init 85 = .ok (.aload_n 0, 1) := by decide +kernel
theorem dX12_init_86 : decode cX12_init 86 = .ok (.iconst 3, 1) := by decide +kernel
theorem dX12_init_87 : decode cX12_init 87 = .ok (.newarray .int, 2) := by decide +kernel
theorem dX12_init_89 : decode cX12_init 89 = .ok (.putfield 46, 3) := by decide +kernel
theorem dX12_init_92 : decode cX12_init 92 = .ok (.aload_n 0, 1) := by decide +kernel
theorem dX12_init_93 : decode cX12_init 93 = .ok (.bipush 60, 2) := by decide +kernel
theorem dX12_init_95 : decode cX12_init 95 = .ok (.newarray .int, 2) := by decide +kernel
theorem dX12_init_97 : decode cX12_init 97 = .ok (.putfield 49, 3) := by decide +kernel
theorem dX12_init_100 : decode cX12_init 100 = .ok (.aload_n 0, 1) := by decide +kernel
theorem dX12_init_101 : decode cX12_init 101 = .ok (.sipush 2196, 3) := by decide +kernel
theorem dX12_init_104 : decode cX12_init 104 = .ok (.newarray .int, 2) := by decide +kernel
theorem dX12_init_106 : decode cX12_init 106 = .ok (.putfield 52, 3) := by decide +kernel
theorem dX12_init_109 : decode cX12_init 109 = .ok (.aload_n 0, 1) := by decide +kernel
theorem dX12_init_110 : decode cX12_init 110 = .ok (.bipush 6, 2) := by decide +kernel
theorem dX12_init_112 : decode cX12_init 112 = .ok (.newarray .int, 2) := by decide +kernel
theorem dX12_init_114 : decode cX12_init 114 = .ok (.putfield 55, 3) := by decide +kernel
theorem dX12_init_117 : decode cX12_init 117 = .ok (.aload_n 0, 1) := by decide +kernel
theorem dX12_init_118 : decode cX12_init 118 = .ok (.sipush 2196, 3) := by decide +kernel
theorem dX12_init_121 : decode cX12_init 121 = .ok (.newarray .long, 2) := by decide +kernel
theorem dX12_init_123 : decode cX12_init 123 = .ok (.putfield 58, 3) := by decide +kernel
theorem dX12_init_126 : decode cX12_init 126 = .ok (.aload_n 0, 1) := by decide +kernel
theorem dX12_init_127 : decode cX12_init 127 = .ok (.bipush 7, 2) := by decide +kernel
theorem dX12_init_129 : decode cX12_init 129 = .ok (.newarray .int, 2) := by decide +kernel
theorem dX12_init_131 : decode cX12_init 131 = .ok (.putfield 61, 3) := by decide +kernel
theorem dX12_init_134 : decode cX12_init 134 = .ok (.aload_n 0, 1) := by decide +kernel
theorem dX12_init_135 : decode cX12_init 135 = .ok (.bipush 6, 2) := by decide +kernel
theorem dX12_init_137 : decode cX12_init 137 = .ok (.newarray .int, 2) := by decide +kernel
theorem dX12_init_139 : decode cX12_init 139 = .ok (.putfield 64, 3) := by decide +kernel
theorem dX12_init_142 : decode cX12_init 142 = .ok (.aload_n 0, 1) := by decide +kernel
theorem dX12_init_143 : decode cX12_init 143 = .ok (.bipush 84, 2) := by decide +kernel
theorem dX12_init_145 : decode cX12_init 145 = .ok (.newarray .long, 2) := by decide +kernel
theorem dX12_init_147 : decode cX12_init 147 = .ok (.putfield 67, 3) := by decide +kernel
theorem dX12_init_150 : decode cX12_init 150 = .ok (.aload_n 0, 1) := by decide +kernel
theorem dX12_init_151 : decode cX12_init 151 = .ok (.bipush 64, 2) := by decide +kernel
theorem dX12_init_153 : decode cX12_init 153 = .ok (.newarray .int, 2) := by decide +kernel
theorem dX12_init_155 : decode cX12_init 155 = .ok (.putfield 70, 3) := by decide +kernel
theorem dX12_init_158 : decode cX12_init 158 = .ok (.aload_n 0, 1) := by decide +kernel
theorem dX12_init_159 : decode cX12_init 159 = .ok (.bipush 8, 2) := by decide +kernel
theorem dX12_init_161 : decode cX12_init 161 = .ok (.newarray .int, 2) := by decide +kernel
theorem dX12_init_163 : decode cX12_init 163 = .ok (.putfield 73, 3) := by decide +kernel
theorem dX12_init_166 : decode cX12_init 166 = .ok (.aload_n 0, 1) := by decide +kernel
theorem dX12_init_167 : decode cX12_init 167 = .ok (.bipush 8, 2) := by decide +kernel
theorem dX12_init_169 : decode cX12_init 169 = .ok (.newarray .int, 2) := by decide +kernel
theorem dX12_init_171 : decode cX12_init 171 = .ok (.putfield 76, 3) := by decide +kernel
theorem dX12_init_174 : decode cX12_init 174 = .ok (.aload_n 0, 1) := by decide +kernel
theorem dX12_init_175 : decode cX12_init 175 = .ok (.sipush 19683, 3) := by decide +kernel
theorem dX12_init_178 : decode cX12_init 178 = .ok (.newarray .long, 2) := by decide +kernel
theorem dX12_init_180 : decode cX12_init 180 = .ok (.putfield 79, 3) := by decide +kernel
theorem dX12_init_183 : decode cX12_init 183 = .ok (.aload_n 0, 1) := by decide +kernel
theorem dX12_init_184 : decode cX12_init 184 = .ok (.bipush 64, 2) := by decide +kernel
theorem dX12_init_186 : decode cX12_init 186 = .ok (.newarray .long, 2) := by decide +kernel
theorem dX12_init_188 : decode cX12_init 188 = .ok (.putfield 82, 3) := by decide +kernel
theorem dX12_init_191 : decode cX12_init 191 = .ok (.aload_n 0, 1) := by decide +kernel
theorem dX12_init_192 : decode cX12_init 192 = .ok (.bipush 64, 2) := by decide +kernel
theorem dX12_init_194 : decode cX12_init 194 = .ok (.newarray .long, 2) := by decide +kernel
theorem dX12_init_196 : decode cX12_init 196 = .ok (.putfield 85, 3) := by decide +kernel
theorem dX12_init_199 : decode cX12_init 199 = .ok (.aload_n 0, 1) := by decide +kernel
theorem dX12_init_200 : decode cX12_init 200 = .ok (.bipush 6, 2) := by decide +kernel
theorem dX12_init_202 : decode cX12_init 202 = .ok (.newarray .long, 2) := by decide +kernel
theorem dX12_init_204 : decode cX12_init 204 = .ok (.putfield 88, 3) := by decide +kernel
theorem dX12_init_207 : decode cX12_init 207 = .ok (.aload_n 0, 1) := by decide +kernel
theorem dX12_init_208 : decode cX12_init 208 = .ok (.bipush 6, 2) := by decide +kernel
theorem dX12_init_210 : decode cX12_init 210 = .ok (.newarray .long, 2) := by decide +kernel
theorem dX12_init_212 : decode cX12_init 212 = .ok (.putfield 91, 3) := by decide +kernel
theorem dX12_init_215 : decode cX12_init 215 = .ok (.aload_n 0, 1) := by decide +kernel
theorem dX12_init_216 : decode cX12_init 216 = .ok (.iconst 4, 1) := by decide +kernel
theorem dX12_init_217 : decode cX12_init 217 = .ok (.newarray .int, 2) := by decide +kernel
theorem dX12_init_219 : decode cX12_init 219 = .ok (.dup, 1) := by decide +kernel
theorem dX12_init_220 : decode cX12_init 220 = .ok (.iconst 0, 1) := by decide +kernel
theorem dX12_init_221 : decode cX12_init 221 = .ok (.iconst (-1), 1) := by decide +kernel
theorem dX12_init_222 : decode cX12_init 222 = .ok (.iastore, 1) := by decide +kernel
theorem dX12_init_223 : decode cX12_init 223 = .ok (.dup, 1) := by decide +kernel
theorem dX12_init_224 : decode cX12_init 224 = .ok (.iconst 1, 1) := by decide +kernel
theorem dX12_init_225 : decode cX12_init 225 = .ok (.iconst (-1), 1) := by decide +kernel
theorem dX12_init_226 : decode cX12_init 226 = .ok (.iastore, 1) := by decide +kernel
theorem dX12_init_227 : decode cX12_init 227 = .ok (.dup, 1) := by decide +kernel
theorem dX12_init_228 : decode cX12_init 228 = .ok (.iconst 2, 1) := by decide +kernel
theorem dX12_init_229 : decode cX12_init 229 = .ok (.iconst (-1), 1) := by decide +kernel
theorem dX12_init_230 : decode cX12_init 230 = .ok (.iastore, 1) := by decide +kernel
theorem dX12_init_231 : decode cX12_init 231 = .ok (.dup, 1) := by decide +kernel
theorem dX12_init_232 : decode cX12_init 232 = .ok (.iconst 3, 1) := by decide +kernel
theorem dX12_init_233 : decode cX12_init 233 = .ok (.iconst (-1), 1) := by decide +kernel
theorem dX12_init_234 : decode cX12_init 234 = .ok (.iastore, 1) := by decide +kernel
theorem dX12_init_235 : decode cX12_init 235 = .ok (.putfield 94, 3) := by decide +kernel
theorem dX12_init_238 : decode cX12_init 238 = .ok (.aload_n 0, 1) := by decide +kernel
theorem dX12_init_239 : decode cX12_init 239 = .ok (.iconst 4, 1) := by decide +kernel
theorem dX12_init_240 : decode cX12_init 240 = .ok (.newarray .int, 2) := by decide +kernel
theorem dX12_init_242 : decode cX12_init 242 = .ok (.putfield 97, 3) := by decide +kernel
theorem dX12_init_245 : decode cX12_init 245 = .ok (.aload_n 0, 1) := by decide +kernel
theorem dX12_init_246 : decode cX12_init 246 = .ok (.sipush 160, 3) := by decide +kernel
theorem dX12_init_249 : decode cX12_init 249 = .ok (.newarray .long, 2) := by decide +kernel
theorem dX12_init_251 : decode cX12_init 251 = .ok (.putfield 100, 3) := by decide +kernel
theorem dX12_init_254 : decode cX12_init 254 = .ok (.aload_n 0, 1) := by decide +kernel
theorem dX12_init_255 : decode cX12_init 255 = .ok (.getfield 13, 3) := by decide +kernel
theorem dX12_init_258 : decode cX12_init 258 = .ok (.invokestatic 103, 3) := by decide +kernel
theorem dX12_init_261 : decode cX12_init 261 = .ok (.return_, 1) := by decide +kernel
theorem dX12_plain_0 : decode cX12_plain 0 = .ok (.iconst 0, 1) := by decide +kernel
theorem dX12_plain_1 : decode cX12_plain 1 = .ok (.istore_n 1, 1) := by decide +kernel
theorem dX12_plain_2 : decode cX12_plain 2 = .ok (.iload_n 1, 1) := by decide +kernel
theorem dX12_plain_3 : decode cX12_plain 3 = .ok (.sipush 1106, 3) := by decide +kernel
theorem dX12_plain_6 : decode cX12_plain 6 = .ok (.if_icmp .ge 13, 3) := by decide +kernel
theorem dX12_plain_9 : decode cX12_plain 9 = .ok (.aload_n 0, 1) := by decide +kernel
theorem dX12_plain_10 : decode cX12_plain 10 = .ok (.iload_n 1, 1) := by decide +kernel
theorem dX12_plain_11 : decode cX12_plain 11 = .ok (.iconst 0, 1) := by decide +kernel
theorem dX12_plain_12 : decode cX12_plain 12 = .ok (.iastore, 1) := by decide +kernel
theorem dX12_plain_13 : decode cX12_plain 13 = .ok (.iinc 1 1, 3) := by decide +kernel
theorem dX12_plain_16 : decode cX12_plain 16 = .ok (.goto (-14), 3) := by decide +kernel
theorem dX12_plain_19 : decode cX12_plain 19 = .ok (.aload_n 0, 1) := by decide +kernel
theorem dX12_plain_20 : decode cX12_plain 20 = .ok (.iconst 1, 1) := by decide +kernel
theorem dX12_plain_21 : decode cX12_plain 21 = .ok (.iconst 1, 1) := by decide +kernel
theorem dX12_plain_22 : decode cX12_plain 22 = .ok (.iastore, 1) := by decide +kernel
theorem dX12_plain_23 : decode cX12_plain 23 = .ok (.aload_n 0, 1) := by decide +kernel
theorem dX12_plain_24 : decode cX12_plain 24 = .ok (.iconst 2, 1) := by decide +kernel
theorem dX12_plain_25 : decode cX12_plain 25 = .ok (.iconst 1, 1) := by decide +kernel
theorem dX12_plain_26 : decode cX12_plain 26 = .ok (.iastore, 1) := by decide +kernel
theorem dX12_plain_27 : decode cX12_plain 27 = .ok (.iconst 0, 1) := by decide +kernel
theorem dX12_plain_28 : decode cX12_plain 28 = .ok (.istore_n 1, 1) := by decide +kernel
theorem dX12_plain_29 : decode cX12_plain 29 = .ok (.iload_n 1, 1) := by decide +kernel
theorem dX12_plain_30 : decode cX12_plain 30 = .ok (.bipush 18, 2) := by decide +kernel
theorem dX12_plain_32 : decode cX12_plain 32 = .ok (.if_icmp .ge 32, 3) := by decide +kernel
theorem dX12_plain_35 : decode cX12_plain 35 = .ok (.aload_n 0, 1) := by decide +kernel
theorem dX12_plain_36 : decode cX12_plain 36 = .ok (.bipush 15, 2) := by decide +kernel
theorem dX12_plain_38 : decode cX12_plain 38 = .ok (.iconst 5, 1) := by decide +kernel
theorem dX12_plain_39 : decode cX12_plain 39 = .ok (.iload_n 1, 1) := by decide +kernel
theorem dX12_plain_40 : decode cX12_plain 40 = .ok (.imul, 1) := by decide +kernel
theorem dX12_plain_41 : decode cX12_plain 41 = .ok (.iadd, 1) := by decide +kernel
theorem dX12_plain_42 : decode cX12_plain 42 = .ok (.iconst 1, 1) := by decide +kernel
theorem dX12_plain_43 : decode cX12_plain 43 = .ok (.iastore, 1) := by decide +kernel
theorem dX12_plain_44 : decode cX12_plain 44 = .ok (.aload_n 0, 1) := by decide +kernel
theorem dX12_plain_45 : decode cX12_plain 45 = .ok (.bipush 15, 2) := by decide +kernel
theorem dX12_plain_47 : decode cX12_plain 47 = .ok (.iconst 5, 1) := by decide +kernel
theorem dX12_plain_48 : decode cX12_plain 48 = .ok (.iload_n 1, 1) := by decide +kernel
theorem dX12_plain_49 : decode cX12_plain 49 = .ok (.imul, 1) := by decide +kernel
theorem dX12_plain_50 : decode cX12_plain 50 = .ok (.iadd, 1) := by decide +kernel
theorem dX12_plain_51 : decode cX12_plain 51 = .ok (.iconst 1, 1) := by decide +kernel
theorem dX12_plain_52 : decode cX12_plain 52 = .ok (.iadd, 1) := by decide +kernel
theorem dX12_plain_53 : decode cX12_plain 53 = .ok (.iload_n 1, 1) := by decide +kernel
theorem dX12_plain_54 : decode cX12_plain 54 = .ok (.bipush 6, 2) := by decide +kernel
theorem dX12_plain_56 : decode cX12_plain 56 = .ok (.irem, 1) := by decide +kernel
theorem dX12_plain_57 : decode cX12_plain 57 = .ok (.iastore, 1) := by decide +kernel
theorem dX12_plain_58 : decode cX12_plain 58 = .ok (.iinc 1 1, 3) := by decide +kernel
theorem dX12_plain_61 : decode cX12_plain 61 = .ok (.goto (-32), 3) := by decide +kernel
theorem dX12_plain_64 : decode cX12_plain 64 = .ok (.return_, 1) := by decide +kernel
theorem dX12_feed_0 : decode cX12_feed 0 = .ok (.aload_n 0, 1) := by decide +kernel
theorem dX12_feed_1 : decode cX12_feed 1 = .ok (.iconst 0, 1) := by decide +kernel
theorem dX12_feed_2 : decode cX12_feed 2 = .ok (.putfield 1, 3) := by decide +kernel
theorem dX12_feed_5 : decode cX12_feed 5 = .ok (.aload_n 0, 1) := by decide +kernel
theorem dX12_feed_6 : decode cX12_feed 6 = .ok (.getfield 107, 3) := by decide +kernel
theorem dX12_feed_9 : decode cX12_feed 9 = .ok (.bipush 20, 2) := by decide +kernel
theorem dX12_feed_11 : decode cX12_feed 11 = .ok (.iadd, 1) := by decide +kernel
theorem dX12_feed_12 : decode cX12_feed 12 = .ok (.sipush 900, 3) := by decide +kernel
theorem dX12_feed_15 : decode cX12_feed 15 = .ok (.if_icmp .le 6, 3) := by decide +kernel
theorem dX12_feed_18 : decode cX12_feed 18 = .ok (.bipush (-5), 2) := by decide +kernel
theorem dX12_feed_20 : decode cX12_feed 20 = .ok (.ireturn, 1) := by decide +kernel
theorem dX12_feed_21 : decode cX12_feed 21 = .ok (.iconst 0, 1) := by decide +kernel
theorem dX12_feed_22 : decode cX12_feed 22 = .ok (.istore 6, 2) := by decide +kernel
theorem dX12_feed_24 : decode cX12_feed 24 = .ok (.iload 6, 2) := by decide +kernel
theorem dX12_feed_26 : decode cX12_feed 26 = .ok (.bipush 20, 2) := by decide +kernel
theorem dX12_feed_28 : decode cX12_feed 28 = .ok (.if_icmp .ge 93, 3) := by decide +kernel
theorem dX12_feed_31 : decode cX12_feed 31 = .ok (.iload 6, 2) := by decide +kernel
theorem dX12_feed_33 : decode cX12_feed 33 = .ok (.iconst 4, 1) := by decide +kernel
theorem dX12_feed_34 : decode cX12_feed 34 = .ok (.if_icmp .ge 7, 3) := by decide +kernel
theorem dX12_feed_37 : decode cX12_feed 37 = .ok (.iload_n 1, 1) := by decide +kernel
theorem dX12_feed_38 : decode cX12_feed 38 = .ok (.goto 39, 3) := by decide +kernel
theorem dX12_feed_41 : decode cX12_feed 41 = .ok (.iload 6, 2) := by decide +kernel
theorem dX12_feed_43 : decode cX12_feed 43 = .ok (.bipush 8, 2) := by decide +kernel
theorem dX12_feed_45 : decode cX12_feed 45 = .ok (.if_icmp .ge 7, 3) := by decide +kernel
theorem dX12_feed_48 : decode cX12_feed 48 = .ok (.iload_n 2, 1) := by decide +kernel
theorem dX12_feed_49 : decode cX12_feed 49 = .ok (.goto 28, 3) := by decide +kernel
theorem dX12_feed_52 : decode cX12_feed 52 = .ok (.iload 6, 2) := by decide +kernel
theorem dX12_feed_54 : decode cX12_feed 54 = .ok (.bipush 12, 2) := by decide +kernel
theorem dX12_feed_56 : decode cX12_feed 56 = .ok (.if_icmp .ge 7, 3) := by decide +kernel
theorem dX12_feed_59 : decode cX12_feed 59 = .ok (.iload_n 3, 1) := by decide +kernel
theorem dX12_feed_60 : decode cX12_feed 60 = .ok (.goto 17, 3) := by decide +kernel
theorem dX12_feed_63 : decode cX12_feed 63 = .ok (.iload 6, 2) := by decide +kernel
theorem dX12_feed_65 : decode cX12_feed 65 = .ok (.bipush 16, 2) := by decide +kernel
theorem dX12_feed_67 : decode cX12_feed 67 = .ok (.if_icmp .ge 8, 3) := by decide +kernel
theorem dX12_feed_70 : decode cX12_feed 70 = .ok (.iload 4, 2) := by decide +kernel
theorem dX12_feed_72 : decode cX12_feed 72 = .ok (.goto 5, 3) := by decide +kernel
theorem dX12_feed_75 : decode cX12_feed 75 = .ok (.iload 5, 2) := by decide +kernel
theorem dX12_feed_77 : decode cX12_feed 77 = .ok (.istore 7, 2) := by decide +kernel
theorem dX12_feed_79 : decode cX12_feed 79 = .ok (.aload_n 0, 1) := by decide +kernel
theorem dX12_feed_80 : decode cX12_feed 80 = .ok (.getfield 21, 3) := by decide +kernel
theorem dX12_feed_83 : decode cX12_feed 83 = .ok (.aload_n 0, 1) := by decide +kernel
theorem dX12_feed_84 : decode cX12_feed 84 = .ok (.getfield 107, 3) := by decide +kernel
theorem dX12_feed_87 : decode cX12_feed 87 = .ok (.iload 7, 2) := by decide +kernel
theorem dX12_feed_89 : decode cX12_feed 89 = .ok (.bipush 24, 2) := by decide +kernel
theorem dX12_feed_91 : decode cX12_feed 91 = .ok (.bipush 8, 2) := by decide +kernel
theorem dX12_feed_93 : decode cX12_feed 93 = .ok (.iload 6, 2) := by decide +kernel
theorem dX12_feed_95 : decode cX12_feed 95 = .ok (.iconst 4, 1) := by decide +kernel
theorem dX12_feed_96 : decode cX12_feed 96 = .ok (.irem, 1) := by decide +kernel
theorem dX12_feed_97 : decode cX12_feed 97 = .ok (.imul, 1) := by decide +kernel
theorem dX12_feed_98 : decode cX12_feed 98 = .ok (.isub, 1) := by decide +kernel
theorem dX12_feed_99 : decode cX12_feed 99 = .ok (.ishr, 1) := by decide +kernel
theorem dX12_feed_100 : decode cX12_feed 100 = .ok (.sipush 255, 3) := by decide +kernel
theorem dX12_feed_103 : decode cX12_feed 103 = .ok (.iand, 1) := by decide +kernel
theorem dX12_feed_104 : decode cX12_feed 104 = .ok (.iastore, 1) := by decide +kernel
theorem dX12_feed_105 : decode cX12_feed 105 = .ok (.aload_n 0, 1) := by decide +kernel
theorem dX12_feed_106 : decode cX12_feed 106 = .ok (.dup, 1) := by decide +kernel
theorem dX12_feed_107 : decode cX12_feed 107 = .ok (.getfield 107, 3) := by decide +kernel
theorem dX12_feed_110 : decode cX12_feed 110 = .ok (.iconst 1, 1) := by decide +kernel
theorem dX12_feed_111 : decode cX12_feed 111 = .ok (.iadd, 1) := by decide +kernel
theorem dX12_feed_112 : decode cX12_feed 112 = .ok (.putfield 107, 3) := by decide +kernel
theorem dX12_feed_115 : decode cX12_feed 115 = .ok (.iinc 6 1, 3) := by decide +kernel
theorem dX12_feed_118 : decode cX12_feed 118 = .ok (.goto (-94), 3) := by decide +kernel
theorem dX12_feed_121 : decode cX12_feed 121 = .ok (.aload_n 0, 1) := by decide +kernel
theorem dX12_feed_122 : decode cX12_feed 122 = .ok (.getfield 107, 3) := by decide +kernel
theorem dX12_feed_125 : decode cX12_feed 125 = .ok (.ireturn, 1) := by decide +kernel
theorem dX12_see_0 : decode cX12_see 0 = .ok (.iload_n 1, 1) := by decide +kernel
theorem dX12_see_1 : decode cX12_see 1 = .ok (.aload_n 0, 1) := by decide +kernel
theorem dX12_see_2 : decode cX12_see 2 = .ok (.getfield 110, 3) := by decide +kernel
theorem dX12_see_5 : decode cX12_see 5 = .ok (.if_icmp .ge 12, 3) := by decide +kernel
theorem dX12_see_8 : decode cX12_see 8 = .ok (.aload_n 0, 1) := by decide +kernel
theorem dX12_see_9 : decode cX12_see 9 = .ok (.getfield 21, 3) := by decide +kernel
theorem dX12_see_12 : decode cX12_see 12 = .ok (.iload_n 1, 1) := by decide +kernel
theorem dX12_see_13 : decode cX12_see 13 = .ok (.iaload, 1) := by decide +kernel
theorem dX12_see_14 : decode cX12_see 14 = .ok (.goto 4, 3) := by decide +kernel
theorem dX12_see_17 : decode cX12_see 17 = .ok (.iconst (-1), 1) := by decide +kernel
theorem dX12_see_18 : decode cX12_see 18 = .ok (.ireturn, 1) := by decide +kernel
theorem dX12_isSmall_0 : decode cX12_isSmall 0 = .ok (.iload_n 0, 1) := by decide +kernel
theorem dX12_isSmall_1 : decode cX12_isSmall 1 = .ok (.bipush 97, 2) := by decide +kernel
theorem dX12_isSmall_3 : decode cX12_isSmall 3 = .ok (.if_icmp .lt 13, 3) := by decide +kernel
theorem dX12_isSmall_6 : decode cX12_isSmall 6 = .ok (.iload_n 0, 1) := by decide +kernel
theorem dX12_isSmall_7 : decode cX12_isSmall 7 = .ok (.bipush 122, 2) := by decide +kernel
theorem dX12_isSmall_9 : decode cX12_isSmall 9 = .ok (.if_icmp .gt 7, 3) := by decide +kernel
theorem dX12_isSmall_12 : decode cX12_isSmall 12 = .ok (.iconst 1, 1) := by decide +kernel
theorem dX12_isSmall_13 : decode cX12_isSmall 13 = .ok (.goto 4, 3) := by decide +kernel
theorem dX12_isSmall_16 : decode cX12_isSmall 16 = .ok (.iconst 0, 1) := by decide +kernel
theorem dX12_isSmall_17 : decode cX12_isSmall 17 = .ok (.ireturn, 1) := by decide +kernel
theorem dX12_isDigit_0 : decode cX12_isDigit 0 = .ok (.iload_n 0, 1) := by decide +kernel
theorem dX12_isDigit_1 : decode cX12_isDigit 1 = .ok (.bipush 48, 2) := by decide +kernel
theorem dX12_isDigit_3 : decode cX12_isDigit 3 = .ok (.if_icmp .lt 13, 3) := by decide +kernel
theorem dX12_isDigit_6 : decode cX12_isDigit 6 = .ok (.iload_n 0, 1) := by decide +kernel
theorem dX12_isDigit_7 : decode cX12_isDigit 7 = .ok (.bipush 57, 2) := by decide +kernel
theorem dX12_isDigit_9 : decode cX12_isDigit 9 = .ok (.if_icmp .gt 7, 3) := by decide +kernel
theorem dX12_isDigit_12 : decode cX12_isDigit 12 = .ok (.iconst 1, 1) := by decide +kernel
theorem dX12_isDigit_13 : decode cX12_isDigit 13 = .ok (.goto 4, 3) := by decide +kernel
theorem dX12_isDigit_16 : decode cX12_isDigit 16 = .ok (.iconst 0, 1) := by decide +kernel
theorem dX12_isDigit_17 : decode cX12_isDigit 17 = .ok (.ireturn, 1) := by decide +kernel
theorem dX12_keyAt_0 : decode cX12_keyAt 0 = .ok (.iconst 0, 1) := by decide +kernel
theorem dX12_keyAt_1 : decode cX12_keyAt 1 = .ok (.istore_n 1, 1) := by decide +kernel
theorem dX12_keyAt_2 : decode cX12_keyAt 2 = .ok (.iconst 1, 1) := by decide +kernel
theorem dX12_keyAt_3 : decode cX12_keyAt 3 = .ok (.istore_n 2, 1) := by decide +kernel
theorem dX12_keyAt_4 : decode cX12_keyAt 4 = .ok (.iload_n 2, 1) := by decide +kernel
theorem dX12_keyAt_5 : decode cX12_keyAt 5 = .ok (.ldc 113, 2) := by decide +kernel
theorem dX12_keyAt_7 : decode cX12_keyAt 7 = .ok (.invokevirtual 115, 3) := by decide +kernel
theorem dX12_keyAt_10 : decode cX12_keyAt 10 = .ok (.if_icmp .ge 113, 3) := by decide +kernel
theorem dX12_keyAt_13 : decode cX12_keyAt 13 = .ok (.iconst 0, 1) := by decide +kernel
theorem dX12_keyAt_14 : decode cX12_keyAt 14 = .ok (.istore_n 3, 1) := by decide +kernel
theorem dX12_keyAt_15 : decode cX12_keyAt 15 = .ok (.ldc 113, 2) := by decide +kernel
theorem dX12_keyAt_17 : decode cX12_keyAt 17 = .ok (.iload_n 2, 1) := by decide +kernel
theorem dX12_keyAt_18 : decode cX12_keyAt 18 = .ok (.iload_n 3, 1) := by decide +kernel
theorem dX12_keyAt_19 : decode cX12_keyAt 19 = .ok (.iadd, 1) := by decide +kernel
theorem dX12_keyAt_20 : decode cX12_keyAt 20 = .ok (.invokevirtual 121, 3) := by decide +kernel
theorem dX12_keyAt_23 : decode cX12_keyAt 23 = .ok (.bipush 32, 2) := by decide +kernel
theorem dX12_keyAt_25 : decode cX12_keyAt 25 = .ok (.if_icmp .eq 44, 3) := by decide +kernel
theorem dX12_keyAt_28 : decode cX12_keyAt 28 = .ok (.aload_n 0, 1) := by decide +kernel
theorem dX12_keyAt_29 : decode cX12_keyAt 29 = .ok (.getfield 125, 3) := by decide +kernel
theorem dX12_keyAt_32 : decode cX12_keyAt 32 = .ok (.iload_n 3, 1) := by decide +kernel
theorem dX12_keyAt_33 : decode cX12_keyAt 33 = .ok (.iadd, 1) := by decide +kernel
theorem dX12_keyAt_34 : decode cX12_keyAt 34 = .ok (.aload_n 0, 1) := by decide +kernel
theorem dX12_keyAt_35 : decode cX12_keyAt 35 = .ok (.getfield 128, 3) := by decide +kernel
theorem dX12_keyAt_38 : decode cX12_keyAt 38 = .ok (.if_icmp .ge 31, 3) := by decide +kernel
theorem dX12_keyAt_41 : decode cX12_keyAt 41 = .ok (.aload_n 0, 1) := by decide +kernel
theorem dX12_keyAt_42 : decode cX12_keyAt 42 = .ok (.getfield 21, 3) := by decide +kernel
theorem dX12_keyAt_45 : decode cX12_keyAt 45 = .ok (.aload_n 0, 1) := by decide +kernel
theorem dX12_keyAt_46 : decode cX12_keyAt 46 = .ok (.getfield 125, 3) := by decide +kernel
theorem dX12_keyAt_49 : decode cX12_keyAt 49 = .ok (.iload_n 3, 1) := by decide +kernel
theorem dX12_keyAt_50 : decode cX12_keyAt 50 = .ok (.iadd, 1) := by decide +kernel
theorem dX12_keyAt_51 : decode cX12_keyAt 51 = .ok (.iaload, 1) := by decide +kernel
theorem dX12_keyAt_52 : decode cX12_keyAt 52 = .ok (.ldc 113, 2) := by decide +kernel
theorem dX12_keyAt_54 : decode cX12_keyAt 54 = .ok (.iload_n 2, 1) := by decide +kernel
theorem dX12_keyAt_55 : decode cX12_keyAt 55 = .ok (.iload_n 3, 1) := by decide +kernel
theorem dX12_keyAt_56 : decode cX12_keyAt 56 = .ok (.iadd, 1) := by decide +kernel
theorem dX12_keyAt_57 : decode cX12_keyAt 57 = .ok (.invokevirtual 121, 3) := by decide +kernel
theorem dX12_keyAt_60 : decode cX12_keyAt 60 = .ok (.if_icmp .ne 9, 3) := by decide +kernel
theorem dX12_keyAt_63 : decode cX12_keyAt 63 = .ok (.iinc 3 1, 3) := by decide +kernel
theorem dX12_keyAt_66 : decode cX12_keyAt 66 = .ok (.goto (-51), 3) := by decide +kernel
theorem dX12_keyAt_69 : decode cX12_keyAt 69 = .ok (.ldc 113, 2) := by decide +kernel
theorem dX12_keyAt_71 : decode cX12_keyAt 71 = .ok (.iload_n 2, 1) := by decide +kernel
theorem dX12_keyAt_72 : decode cX12_keyAt 72 = .ok (.iload_n 3, 1) := by decide +kernel
theorem dX12_keyAt_73 : decode cX12_keyAt 73 = .ok (.iadd, 1) := by decide +kernel
theorem dX12_keyAt_74 : decode cX12_keyAt 74 = .ok (.invokevirtual 121, 3) := by decide +kernel
theorem dX12_keyAt_77 : decode cX12_keyAt 77 = .ok (.bipush 32, 2) := by decide +kernel
theorem dX12_keyAt_79 : decode cX12_keyAt 79 = .ok (.if_icmp .ne 18, 3) := by decide +kernel
theorem dX12_keyAt_82 : decode cX12_keyAt 82 = .ok (.aload_n 0, 1) := by decide +kernel
theorem dX12_keyAt_83 : decode cX12_keyAt 83 = .ok (.getfield 125, 3) := by decide +kernel
theorem dX12_keyAt_86 : decode cX12_keyAt 86 = .ok (.iload_n 3, 1) := by decide +kernel
theorem dX12_keyAt_87 : decode cX12_keyAt 87 = .ok (.iadd, 1) := by decide +kernel
theorem dX12_keyAt_88 : decode cX12_keyAt 88 = .ok (.aload_n 0, 1) := by decide +kernel
theorem dX12_keyAt_89 : decode cX12_keyAt 89 = .ok (.getfield 128, 3) := by decide +kernel
theorem dX12_keyAt_92 : decode cX12_keyAt 92 = .ok (.if_icmp .ne 5, 3) := by decide +kernel
theorem dX12_keyAt_95 : decode cX12_keyAt 95 = .ok (.iload_n 1, 1) := by decide +kernel
theorem dX12_keyAt_96 : decode cX12_keyAt 96 = .ok (.ireturn, 1) := by decide +kernel
theorem dX12_keyAt_97 : decode cX12_keyAt 97 = .ok (.ldc 113, 2) := by decide +kernel
theorem dX12_keyAt_99 : decode cX12_keyAt 99 = .ok (.iload_n 2, 1) := by decide +kernel
theorem dX12_keyAt_100 : decode cX12_keyAt 100 = .ok (.invokevirtual 121, 3) := by decide +kernel
theorem dX12_keyAt_103 : decode cX12_keyAt 103 = .ok (.bipush 32, 2) := by decide +kernel
theorem dX12_keyAt_105 : decode cX12_keyAt 105 = .ok (.if_icmp .eq 9, 3) := by decide +kernel
theorem dX12_keyAt_108 : decode cX12_keyAt 108 = .ok (.iinc 2 1, 3) := by decide +kernel
theorem dX12_keyAt_111 : decode cX12_keyAt 111 = .ok (.goto (-14), 3) := by decide +kernel
theorem dX12_keyAt_114 : decode cX12_keyAt 114 = .ok (.iinc 2 1, 3) := by decide +kernel
theorem dX12_keyAt_117 : decode cX12_keyAt 117 = .ok (.iinc 1 1, 3) := by decide +kernel
theorem dX12_keyAt_120 : decode cX12_keyAt 120 = .ok (.goto (-116), 3) := by decide +kernel
theorem dX12_keyAt_123 : decode cX12_keyAt 123 = .ok (.bipush 22, 2) := by decide +kernel
theorem dX12_keyAt_125 : decode cX12_keyAt 125 = .ok (.ireturn, 1) := by decide +kernel
theorem dX12_next_0 : decode cX12_next 0 = .ok (.aload_n 0, 1) := by decide +kernel
theorem dX12_next_1 : decode cX12_next 1 = .ok (.aload_n 0, 1) := by decide +kernel
theorem dX12_next_2 : decode cX12_next 2 = .ok (.getfield 128, 3) := by decide +kernel
theorem dX12_next_5 : decode cX12_next 5 = .ok (.putfield 125, 3) := by decide +kernel
theorem dX12_next_8 : decode cX12_next 8 = .ok (.aload_n 0, 1) := by decide +kernel
theorem dX12_next_9 : decode cX12_next 9 = .ok (.aload_n 0, 1) := by decide +kernel
theorem dX12_next_10 : decode cX12_next 10 = .ok (.getfield 125, 3) := by decide +kernel
theorem dX12_next_13 : decode cX12_next 13 = .ok (.invokevirtual 131, 3) := by decide +kernel
theorem dX12_next_16 : decode cX12_next 16 = .ok (.bipush 10, 2) := by decide +kernel
theorem dX12_next_18 : decode cX12_next 18 = .ok (.if_icmp .eq 16, 3) := by decide +kernel
theorem dX12_next_21 : decode cX12_next 21 = .ok (.aload_n 0, 1) := by decide +kernel
theorem dX12_next_22 : decode cX12_next 22 = .ok (.aload_n 0, 1) := by decide +kernel
theorem dX12_next_23 : decode cX12_next 23 = .ok (.getfield 125, 3) := by decide +kernel
theorem dX12_next_26 : decode cX12_next 26 = .ok (.invokevirtual 131, 3) := by decide +kernel
theorem dX12_next_29 : decode cX12_next 29 = .ok (.bipush 32, 2) := by decide +kernel
theorem dX12_next_31 : decode cX12_next 31 = .ok (.if_icmp .ne 16, 3) := by decide +kernel
theorem dX12_next_34 : decode cX12_next 34 = .ok (.aload_n 0, 1) := by decide +kernel
theorem dX12_next_35 : decode cX12_next 35 = .ok (.dup, 1) := by decide +kernel
theorem dX12_next_36 : decode cX12_next 36 = .ok (.getfield 125, 3) := by decide +kernel
theorem dX12_next_39 : decode cX12_next 39 = .ok (.iconst 1, 1) := by decide +kernel
theorem dX12_next_40 : decode cX12_next 40 = .ok (.iadd, 1) := by decide +kernel
theorem dX12_next_41 : decode cX12_next 41 = .ok (.putfield 125, 3) := by decide +kernel
theorem dX12_next_44 : decode cX12_next 44 = .ok (.goto (-36), 3) := by decide +kernel
theorem dX12_next_47 : decode cX12_next 47 = .ok (.aload_n 0, 1) := by decide +kernel
theorem dX12_next_48 : decode cX12_next 48 = .ok (.aload_n 0, 1) := by decide +kernel
theorem dX12_next_49 : decode cX12_next 49 = .ok (.getfield 125, 3) := by decide +kernel
theorem dX12_next_52 : decode cX12_next 52 = .ok (.putfield 128, 3) := by decide +kernel
theorem dX12_next_55 : decode cX12_next 55 = .ok (.aload_n 0, 1) := by decide +kernel
theorem dX12_next_56 : decode cX12_next 56 = .ok (.getfield 125, 3) := by decide +kernel
theorem dX12_next_59 : decode cX12_next 59 = .ok (.aload_n 0, 1) := by decide +kernel
theorem dX12_next_60 : decode cX12_next 60 = .ok (.getfield 110, 3) := by decide +kernel
theorem dX12_next_63 : decode cX12_next 63 = .ok (.if_icmp .lt 12, 3) := by decide +kernel
theorem dX12_next_66 : decode cX12_next 66 = .ok (.aload_n 0, 1) := by decide +kernel
theorem dX12_next_67 : decode cX12_next 67 = .ok (.bipush 24, 2) := by decide +kernel
theorem dX12_next_69 : decode cX12_next 69 = .ok (.putfield 135, 3) := by decide +kernel
theorem dX12_next_72 : decode cX12_next 72 = .ok (.goto 222, 3) := by decide +kernel
theorem dX12_next_75 : decode cX12_next 75 = .ok (.aload_n 0, 1) := by decide +kernel
theorem dX12_next_76 : decode cX12_next 76 = .ok (.aload_n 0, 1) := by decide +kernel
theorem dX12_next_77 : decode cX12_next 77 = .ok (.getfield 125, 3) := by decide +kernel
theorem dX12_next_80 : decode cX12_next 80 = .ok (.invokevirtual 131, 3) := by decide +kernel
theorem dX12_next_83 : decode cX12_next 83 = .ok (.invokestatic 138, 3) := by decide +kernel
theorem dX12_next_86 : decode cX12_next 86 = .ok (.ifCond .eq 41, 3) := by decide +kernel
theorem dX12_next_89 : decode cX12_next 89 = .ok (.aload_n 0, 1) := by decide +kernel
theorem dX12_next_90 : decode cX12_next 90 = .ok (.aload_n 0, 1) := by decide +kernel
theorem dX12_next_91 : decode cX12_next 91 = .ok (.getfield 128, 3) := by decide +kernel
theorem dX12_next_94 : decode cX12_next 94 = .ok (.invokevirtual 131, 3) := by decide +kernel
theorem dX12_next_97 : decode cX12_next 97 = .ok (.invokestatic 138, 3) := by decide +kernel
theorem dX12_next_100 : decode cX12_next 100 = .ok (.ifCond .eq 16, 3) := by decide +kernel
theorem dX12_next_103 : decode cX12_next 103 = .ok (.aload_n 0, 1) := by decide +kernel
theorem dX12_next_104 : decode cX12_next 104 = .ok (.dup, 1) := by decide +kernel
theorem dX12_next_105 : decode cX12_next 105 = .ok (.getfield 128, 3) := by decide +kernel
theorem dX12_next_108 : decode cX12_next 108 = .ok (.iconst 1, 1) := by decide +kernel
theorem dX12_next_109 : decode cX12_next 109 = .ok (.iadd, 1) := by decide +kernel
theorem dX12_next_110 : decode cX12_next 110 = .ok (.putfield 128, 3) := by decide +kernel
theorem dX12_next_113 : decode cX12_next 113 = .ok (.goto (-24), 3) := by decide +kernel
theorem dX12_next_116 : decode cX12_next 116 = .ok (.aload_n 0, 1) := by decide +kernel
theorem dX12_next_117 : decode cX12_next 117 = .ok (.aload_n 0, 1) := by decide +kernel
theorem dX12_next_118 : decode cX12_next 118 = .ok (.invokevirtual 142, 3) := by decide +kernel
theorem dX12_next_121 : decode cX12_next 121 = .ok (.putfield 135, 3) := by decide +kernel
theorem dX12_next_124 : decode cX12_next 124 = .ok (.goto 170, 3) := by decide +kernel
theorem dX12_next_127 : decode cX12_next 127 = .ok (.aload_n 0, 1) := by decide +kernel
theorem dX12_next_128 : decode cX12_next 128 = .ok (.aload_n 0, 1) := by decide +kernel
theorem dX12_next_129 : decode cX12_next 129 = .ok (.getfield 125, 3) := by decide +kernel
theorem dX12_next_132 : decode cX12_next 132 = .ok (.invokevirtual 131, 3) := by decide +kernel
theorem dX12_next_135 : decode cX12_next 135 = .ok (.invokestatic 145, 3) := by decide +kernel
theorem dX12_next_138 : decode cX12_next 138 = .ok (.ifCond .eq 98, 3) := by decide +kernel
theorem dX12_next_141 : decode cX12_next 141 = .ok (.aload_n 0, 1) := by decide +kernel
theorem dX12_next_142 : decode cX12_next 142 = .ok (.iconst 0, 1) := by decide +kernel
theorem dX12_next_143 : decode cX12_next 143 = .ok (.putfield 148, 3) := by decide +kernel
theorem dX12_next_146 : decode cX12_next 146 = .ok (.aload_n 0, 1) := by decide +kernel
theorem dX12_next_147 : decode cX12_next 147 = .ok (.aload_n 0, 1) := by decide +kernel
theorem dX12_next_148 : decode cX12_next 148 = .ok (.getfield 128, 3) := by decide +kernel
theorem dX12_next_151 : decode cX12_next 151 = .ok (.invokevirtual 131, 3) := by decide +kernel
theorem dX12_next_154 : decode cX12_next 154 = .ok (.invokestatic 145, 3) := by decide +kernel
theorem dX12_next_157 : decode cX12_next 157 = .ok (.ifCond .eq 52, 3) := by decide +kernel
theorem dX12_next_160 : decode cX12_next 160 = .ok (.aload_n 0, 1) := by decide +kernel
theorem dX12_next_161 : decode cX12_next 161 = .ok (.getfield 128, 3) := by decide +kernel
theorem dX12_next_164 : decode cX12_next 164 = .ok (.aload_n 0, 1) := by decide +kernel
theorem dX12_next_165 : decode cX12_next 165 = .ok (.getfield 125, 3) := by decide +kernel
theorem dX12_next_168 : decode cX12_next 168 = .ok (.isub, 1) := by decide +kernel
theorem dX12_next_169 : decode cX12_next 169 = .ok (.iconst 3, 1) := by decide +kernel
theorem dX12_next_170 : decode cX12_next 170 = .ok (.if_icmp .ge 26, 3) := by decide +kernel
theorem dX12_next_173 : decode cX12_next 173 = .ok (.aload_n 0, 1) := by decide +kernel
theorem dX12_next_174 : decode cX12_next 174 = .ok (.bipush 10, 2) := by decide +kernel
theorem dX12_next_176 : decode cX12_next 176 = .ok (.aload_n 0, 1) := by decide +kernel
theorem dX12_next_177 : decode cX12_next 177 = .ok (.getfield 148, 3) := by decide +kernel
theorem dX12_next_180 : decode cX12_next 180 = .ok (.imul, 1) := by decide +kernel
theorem dX12_next_181 : decode cX12_next 181 = .ok (.aload_n 0, 1) := by decide +kernel
theorem dX12_next_182 : decode cX12_next 182 = .ok (.aload_n 0, 1) := by decide +kernel
theorem dX12_next_183 : decode cX12_next 183 = .ok (.getfield 128, 3) := by decide +kernel
theorem dX12_next_186 : decode cX12_next 186 = .ok (.invokevirtual 131, 3) := by decide +kernel
theorem dX12_next_189 : decode cX12_next 189 = .ok (.iadd, 1) := by decide +kernel
theorem dX12_next_190 : decode cX12_next 190 = .ok (.bipush 48, 2) := by decide +kernel
theorem dX12_next_192 : decode cX12_next 192 = .ok (.isub, 1) := by decide +kernel
theorem dX12_next_193 : decode cX12_next 193 = .ok (.putfield 148, 3) := by decide +kernel
theorem dX12_next_196 : decode cX12_next 196 = .ok (.aload_n 0, 1) := by decide +kernel
theorem dX12_next_197 : decode cX12_next 197 = .ok (.dup, 1) := by decide +kernel
theorem dX12_next_198 : decode cX12_next 198 = .ok (.getfield 128, 3) := by decide +kernel
theorem dX12_next_201 : decode cX12_next 201 = .ok (.iconst 1, 1) := by decide +kernel
theorem dX12_next_202 : decode cX12_next 202 = .ok (.iadd, 1) := by decide +kernel
theorem dX12_next_203 : decode cX12_next 203 = .ok (.putfield 128, 3) := by decide +kernel
theorem dX12_next_206 : decode cX12_next 206 = .ok (.goto (-60), 3) := by decide +kernel
theorem dX12_next_209 : decode cX12_next 209 = .ok (.aload_n 0, 1) := by decide +kernel
theorem dX12_next_210 : decode cX12_next 210 = .ok (.aload_n 0, 1) := by decide +kernel
theorem dX12_next_211 : decode cX12_next 211 = .ok (.getfield 128, 3) := by decide +kernel
theorem dX12_next_214 : decode cX12_next 214 = .ok (.aload_n 0, 1) := by decide +kernel
theorem dX12_next_215 : decode cX12_next 215 = .ok (.getfield 125, 3) := by decide +kernel
theorem dX12_next_218 : decode cX12_next 218 = .ok (.isub, 1) := by decide +kernel
theorem dX12_next_219 : decode cX12_next 219 = .ok (.iconst 3, 1) := by decide +kernel
theorem dX12_next_220 : decode cX12_next 220 = .ok (.if_icmp .le 8, 3) := by decide +kernel
theorem dX12_next_223 : decode cX12_next 223 = .ok (.bipush 25, 2) := by decide +kernel
theorem dX12_next_225 : decode cX12_next 225 = .ok (.goto 5, 3) := by decide +kernel
theorem dX12_next_228 : decode cX12_next 228 = .ok (.bipush 23, 2) := by decide +kernel
theorem dX12_next_230 : decode cX12_next 230 = .ok (.putfield 135, 3) := by decide +kernel
theorem dX12_next_233 : decode cX12_next 233 = .ok (.goto 61, 3) := by decide +kernel
theorem dX12_next_236 : decode cX12_next 236 = .ok (.aload_n 0, 1) := by decide +kernel
theorem dX12_next_237 : decode cX12_next 237 = .ok (.dup, 1) := by decide +kernel
theorem dX12_next_238 : decode cX12_next 238 = .ok (.getfield 128, 3) := by decide +kernel
theorem dX12_next_241 : decode cX12_next 241 = .ok (.iconst 1, 1) := by decide +kernel
theorem dX12_next_242 : decode cX12_next 242 = .ok (.iadd, 1) := by decide +kernel
theorem dX12_next_243 : decode cX12_next 243 = .ok (.putfield 128, 3) := by decide +kernel
theorem dX12_next_246 : decode cX12_next 246 = .ok (.aload_n 0, 1) := by decide +kernel
theorem dX12_next_247 : decode cX12_next 247 = .ok (.bipush 25, 2) := by decide +kernel
theorem dX12_next_249 : decode cX12_next 249 = .ok (.putfield 135, 3) := by decide +kernel
theorem dX12_next_252 : decode cX12_next 252 = .ok (.iconst 0, 1) := by decide +kernel
theorem dX12_next_253 : decode cX12_next 253 = .ok (.istore_n 1, 1) := by decide +kernel
theorem dX12_next_254 : decode cX12_next 254 = .ok (.iload_n 1, 1) := by decide +kernel
theorem dX12_next_255 : decode cX12_next 255 = .ok (.ldc 151, 2) := by decide +kernel
theorem dX12_next_257 : decode cX12_next 257 = .ok (.invokevirtual 115, 3) := by decide +kernel
theorem dX12_next_260 : decode cX12_next 260 = .ok (.if_icmp .ge 34, 3) := by decide +kernel
theorem dX12_next_263 : decode cX12_next 263 = .ok (.aload_n 0, 1) := by decide +kernel
theorem dX12_next_264 : decode cX12_next 264 = .ok (.aload_n 0, 1) := by decide +kernel
theorem dX12_next_265 : decode cX12_next 265 = .ok (.getfield 125, 3) := by decide +kernel
theorem dX12_next_268 : decode cX12_next 268 = .ok (.invokevirtual 131, 3) := by decide +kernel
theorem dX12_next_271 : decode cX12_next 271 = .ok (.ldc 151, 2) := by decide +kernel
theorem dX12_next_273 : decode cX12_next 273 = .ok (.iload_n 1, 1) := by decide +kernel
theorem dX12_next_274 : decode cX12_next 274 = .ok (.invokevirtual 121, 3) := by decide +kernel
theorem dX12_next_277 : decode cX12_next 277 = .ok (.if_icmp .ne 11, 3) := by decide +kernel
theorem dX12_next_280 : decode cX12_next 280 = .ok (.aload_n 0, 1) := by decide +kernel
theorem dX12_next_281 : decode cX12_next 281 = .ok (.bipush 30, 2) := by decide +kernel
theorem dX12_next_283 : decode cX12_next 283 = .ok (.iload_n 1, 1) := by decide +kernel
theorem dX12_next_284 : decode cX12_next 284 = .ok (.iadd, 1) := by decide +kernel
theorem dX12_next_285 : decode cX12_next 285 = .ok (.putfield 135, 3) := by decide +kernel
theorem dX12_next_288 : decode cX12_next 288 = .ok (.iinc 1 1, 3) := by decide +kernel
theorem dX12_next_291 : decode cX12_next 291 = .ok (.goto (-37), 3) := by decide +kernel
theorem dX12_next_294 : decode cX12_next 294 = .ok (.return_, 1) := by decide +kernel
theorem dX12_fails_0 : decode cX12_fails 0 = .ok (.aload_n 0, 1) := by decide +kernel
theorem dX12_fails_1 : decode cX12_fails 1 = .ok (.getfield 153, 3) := by decide +kernel
theorem dX12_fails_4 : decode cX12_fails 4 = .ok (.ifCond .eq 4, 3) := by decide +kernel
theorem dX12_fails_7 : decode cX12_fails 7 = .ok (.return_, 1) := by decide +kernel
theorem dX12_fails_8 : decode cX12_fails 8 = .ok (.aload_n 0, 1) := by decide +kernel
theorem dX12_fails_9 : decode cX12_fails 9 = .ok (.aload_n 0, 1) := by decide +kernel
theorem dX12_fails_10 : decode cX12_fails 10 = .ok (.getfield 135, 3) := by decide +kernel
theorem dX12_fails_13 : decode cX12_fails 13 = .ok (.bipush 25, 2) := by decide +kernel
theorem dX12_fails_15 : decode cX12_fails 15 = .ok (.if_icmp .ne 7, 3) := by decide +kernel
theorem dX12_fails_18 : decode cX12_fails 18 = .ok (.iconst 1, 1) := by decide +kernel
theorem dX12_fails_19 : decode cX12_fails 19 = .ok (.goto 4, 3) := by decide +kernel
theorem dX12_fails_22 : decode cX12_fails 22 = .ok (.iload_n 1, 1) := by decide +kernel
theorem dX12_fails_23 : decode cX12_fails 23 = .ok (.putfield 153, 3) := by decide +kernel
theorem dX12_fails_26 : decode cX12_fails 26 = .ok (.aload_n 0, 1) := by decide +kernel
theorem dX12_fails_27 : decode cX12_fails 27 = .ok (.aload_n 0, 1) := by decide +kernel
theorem dX12_fails_28 : decode cX12_fails 28 = .ok (.getfield 125, 3) := by decide +kernel
theorem dX12_fails_31 : decode cX12_fails 31 = .ok (.putfield 156, 3) := by decide +kernel
theorem dX12_fails_34 : decode cX12_fails 34 = .ok (.return_, 1) := by decide +kernel
theorem dX12_is_0 : decode cX12_is 0 = .ok (.aload_n 0, 1) := by decide +kernel
theorem dX12_is_1 : decode cX12_is 1 = .ok (.getfield 153, 3) := by decide +kernel
theorem dX12_is_4 : decode cX12_is 4 = .ok (.ifCond .ne 15, 3) := by decide +kernel
theorem dX12_is_7 : decode cX12_is 7 = .ok (.aload_n 0, 1) := by decide +kernel
theorem dX12_is_8 : decode cX12_is 8 = .ok (.getfield 135, 3) := by decide +kernel
theorem dX12_is_11 : decode cX12_is 11 = .ok (.iload_n 1, 1) := by decide +kernel
theorem dX12_is_12 : decode cX12_is 12 = .ok (.if_icmp .ne 7, 3) := by decide +kernel
theorem dX12_is_15 : decode cX12_is 15 = .ok (.iconst 1, 1) := by decide +kernel
theorem dX12_is_16 : decode cX12_is 16 = .ok (.goto 4, 3) := by decide +kernel
theorem dX12_is_19 : decode cX12_is 19 = .ok (.iconst 0, 1) := by decide +kernel
theorem dX12_is_20 : decode cX12_is 20 = .ok (.ireturn, 1) := by decide +kernel
theorem dX12_eats_0 : decode cX12_eats 0 = .ok (.aload_n 0, 1) := by decide +kernel
theorem dX12_eats_1 : decode cX12_eats 1 = .ok (.iload_n 1, 1) := by decide +kernel
theorem dX12_eats_2 : decode cX12_eats 2 = .ok (.invokevirtual 159, 3) := by decide +kernel
theorem dX12_eats_5 : decode cX12_eats 5 = .ok (.ifCond .ne 5, 3) := by decide +kernel
theorem dX12_eats_8 : decode cX12_eats 8 = .ok (.iconst 0, 1) := by decide +kernel
theorem dX12_eats_9 : decode cX12_eats 9 = .ok (.ireturn, 1) := by decide +kernel
theorem dX12_eats_10 : decode cX12_eats 10 = .ok (.aload_n 0, 1) := by decide +kernel
theorem dX12_eats_11 : decode cX12_eats 11 = .ok (.invokevirtual 162, 3) := by decide +kernel
theorem dX12_eats_14 : decode cX12_eats 14 = .ok (.iconst 1, 1) := by decide +kernel
theorem dX12_eats_15 : decode cX12_eats 15 = .ok (.ireturn, 1) := by decide +kernel
theorem dX12_takes_0 : decode cX12_takes 0 = .ok (.aload_n 0, 1) := by decide +kernel
theorem dX12_takes_1 : decode cX12_takes 1 = .ok (.bipush 23, 2) := by decide +kernel
theorem dX12_takes_3 : decode cX12_takes 3 = .ok (.invokevirtual 159, 3) := by decide +kernel
theorem dX12_takes_6 : decode cX12_takes 6 = .ok (.ifCond .ne 11, 3) := by decide +kernel
theorem dX12_takes_9 : decode cX12_takes 9 = .ok (.aload_n 0, 1) := by decide +kernel
theorem dX12_takes_10 : decode cX12_takes 10 = .ok (.iconst 2, 1) := by decide +kernel
theorem dX12_takes_11 : decode cX12_takes 11 = .ok (.invokevirtual 165, 3) := by decide +kernel
theorem dX12_takes_14 : decode cX12_takes 14 = .ok (.goto 23, 3) := by decide +kernel
theorem dX12_takes_17 : decode cX12_takes 17 = .ok (.aload_n 0, 1) := by decide +kernel
theorem dX12_takes_18 : decode cX12_takes 18 = .ok (.getfield 148, 3) := by decide +kernel
theorem dX12_takes_21 : decode cX12_takes 21 = .ok (.i2l, 1) := by decide +kernel
theorem dX12_takes_22 : decode cX12_takes 22 = .ok (.iload_n 1, 1) := by decide +kernel
theorem dX12_takes_23 : decode cX12_takes 23 = .ok (.i2l, 1) := by decide +kernel
theorem dX12_takes_24 : decode cX12_takes 24 = .ok (.iload_n 2, 1) := by decide +kernel
theorem dX12_takes_25 : decode cX12_takes 25 = .ok (.i2l, 1) := by decide +kernel
theorem dX12_takes_26 : decode cX12_takes 26 = .ok (.invokestatic 169, 3) := by decide +kernel
theorem dX12_takes_29 : decode cX12_takes 29 = .ok (.ifCond .ne 8, 3) := by decide +kernel
theorem dX12_takes_32 : decode cX12_takes 32 = .ok (.aload_n 0, 1) := by decide +kernel
theorem dX12_takes_33 : decode cX12_takes 33 = .ok (.iconst 3, 1) := by decide +kernel
theorem dX12_takes_34 : decode cX12_takes 34 = .ok (.invokevirtual 165, 3) := by decide +kernel
theorem dX12_takes_37 : decode cX12_takes 37 = .ok (.aload_n 0, 1) := by decide +kernel
theorem dX12_takes_38 : decode cX12_takes 38 = .ok (.getfield 148, 3) := by decide +kernel
theorem dX12_takes_41 : decode cX12_takes 41 = .ok (.istore_n 3, 1) := by decide +kernel
theorem dX12_takes_42 : decode cX12_takes 42 = .ok (.aload_n 0, 1) := by decide +kernel
theorem dX12_takes_43 : decode cX12_takes 43 = .ok (.getfield 153, 3) := by decide +kernel
theorem dX12_takes_46 : decode cX12_takes 46 = .ok (.ifCond .ne 7, 3) := by decide +kernel
theorem dX12_takes_49 : decode cX12_takes 49 = .ok (.aload_n 0, 1) := by decide +kernel
theorem dX12_takes_50 : decode cX12_takes 50 = .ok (.invokevirtual 162, 3) := by decide +kernel
theorem dX12_takes_53 : decode cX12_takes 53 = .ok (.iload_n 3, 1) := by decide +kernel
theorem dX12_takes_54 : decode cX12_takes 54 = .ok (.ireturn, 1) := by decide +kernel
theorem dX12_isIn_0 : decode cX12_isIn 0 = .ok (.lload_n 0, 1) := by decide +kernel
theorem dX12_isIn_1 : decode cX12_isIn 1 = .ok (.iload_n 2, 1) := by decide +kernel
theorem dX12_isIn_2 : decode cX12_isIn 2 = .ok (.lshr, 1) := by decide +kernel
theorem dX12_isIn_3 : decode cX12_isIn 3 = .ok (.lconst 1, 1) := by decide +kernel
theorem dX12_isIn_4 : decode cX12_isIn 4 = .ok (.land, 1) := by decide +kernel
theorem dX12_isIn_5 : decode cX12_isIn 5 = .ok (.lconst 1, 1) := by decide +kernel
theorem dX12_isIn_6 : decode cX12_isIn 6 = .ok (.lcmp, 1) := by decide +kernel
theorem dX12_isIn_7 : decode cX12_isIn 7 = .ok (.ifCond .ne 7, 3) := by decide +kernel
theorem dX12_isIn_10 : decode cX12_isIn 10 = .ok (.iconst 1, 1) := by decide +kernel
theorem dX12_isIn_11 : decode cX12_isIn 11 = .ok (.goto 4, 3) := by decide +kernel
theorem dX12_isIn_14 : decode cX12_isIn 14 = .ok (.iconst 0, 1) := by decide +kernel
theorem dX12_isIn_15 : decode cX12_isIn 15 = .ok (.ireturn, 1) := by decide +kernel
theorem dX12_wordOf_0 : decode cX12_wordOf 0 = .ok (.iload_n 1, 1) := by decide +kernel
theorem dX12_wordOf_1 : decode cX12_wordOf 1 = .ok (.tableswitch 81 2 15 #[73, 81, 81, 81, 81, 81, 81, 81, 81, 81, 71, 75, 77, 79], 71) := by decide +kernel
theorem dX12_wordOf_72 : decode cX12_wordOf 72 = .ok (.iconst 0, 1) := by decide +kernel
theorem dX12_wordOf_73 : decode cX12_wordOf 73 = .ok (.ireturn, 1) := by decide +kernel
theorem dX12_wordOf_74 : decode cX12_wordOf 74 = .ok (.iconst 1, 1) := by decide +kernel
theorem dX12_wordOf_75 : decode cX12_wordOf 75 = .ok (.ireturn, 1) := by decide +kernel
theorem dX12_wordOf_76 : decode cX12_wordOf 76 = .ok (.iconst 2, 1) := by decide +kernel
theorem dX12_wordOf_77 : decode cX12_wordOf 77 = .ok (.ireturn, 1) := by decide +kernel
theorem dX12_wordOf_78 : decode cX12_wordOf 78 = .ok (.iconst 3, 1) := by decide +kernel
theorem dX12_wordOf_79 : decode cX12_wordOf 79 = .ok (.ireturn, 1) := by decide +kernel
theorem dX12_wordOf_80 : decode cX12_wordOf 80 = .ok (.iconst 4, 1) := by decide +kernel
theorem dX12_wordOf_81 : decode cX12_wordOf 81 = .ok (.ireturn, 1) := by decide +kernel
theorem dX12_wordOf_82 : decode cX12_wordOf 82 = .ok (.iconst (-1), 1) := by decide +kernel
theorem dX12_wordOf_83 : decode cX12_wordOf 83 = .ok (.ireturn, 1) := by decide +kernel
theorem dX12_codes_0 : decode cX12_codes 0 = .ok (.aload_n 0, 1) := by decide +kernel
theorem dX12_codes_1 : decode cX12_codes 1 = .ok (.getfield 153, 3) := by decide +kernel
theorem dX12_codes_4 : decode cX12_codes 4 = .ok (.ifCond .eq 4, 3) := by decide +kernel
theorem dX12_codes_7 : decode cX12_codes 7 = .ok (.return_, 1) := by decide +kernel
theorem dX12_codes_8 : decode cX12_codes 8 = .ok (.aload_n 0, 1) := by decide +kernel
theorem dX12_codes_9 : decode cX12_codes 9 = .ok (.getfield 24, 3) := by decide +kernel
theorem dX12_codes_12 : decode cX12_codes 12 = .ok (.sipush 206, 3) := by decide +kernel
theorem dX12_codes_15 : decode cX12_codes 15 = .ok (.aload_n 0, 1) := by decide +kernel
theorem dX12_codes_16 : decode cX12_codes 16 = .ok (.getfield 24, 3) := by decide +kernel
theorem dX12_codes_19 : decode cX12_codes 19 = .ok (.sipush 205, 3) := by decide +kernel
theorem dX12_codes_22 : decode cX12_codes 22 = .ok (.iaload, 1) := by decide +kernel
theorem dX12_codes_23 : decode cX12_codes 23 = .ok (.iadd, 1) := by decide +kernel
theorem dX12_codes_24 : decode cX12_codes 24 = .ok (.iload_n 1, 1) := by decide +kernel
theorem dX12_codes_25 : decode cX12_codes 25 = .ok (.iastore, 1) := by decide +kernel
theorem dX12_codes_26 : decode cX12_codes 26 = .ok (.aload_n 0, 1) := by decide +kernel
theorem dX12_codes_27 : decode cX12_codes 27 = .ok (.getfield 24, 3) := by decide +kernel
theorem dX12_codes_30 : decode cX12_codes 30 = .ok (.sipush 205, 3) := by decide +kernel
theorem dX12_codes_33 : decode cX12_codes 33 = .ok (.dup2, 1) := by decide +kernel
theorem dX12_codes_34 : decode cX12_codes 34 = .ok (.iaload, 1) := by decide +kernel
theorem dX12_codes_35 : decode cX12_codes 35 = .ok (.iconst 1, 1) := by decide +kernel
theorem dX12_codes_36 : decode cX12_codes 36 = .ok (.iadd, 1) := by decide +kernel
theorem dX12_codes_37 : decode cX12_codes 37 = .ok (.iastore, 1) := by decide +kernel
theorem dX12_codes_38 : decode cX12_codes 38 = .ok (.return_, 1) := by decide +kernel
theorem dX12_goesIn_0 : decode cX12_goesIn 0 = .ok (.iload_n 1, 1) := by decide +kernel
theorem dX12_goesIn_1 : decode cX12_goesIn 1 = .ok (.bipush 6, 2) := by decide +kernel
theorem dX12_goesIn_3 : decode cX12_goesIn 3 = .ok (.if_icmp .ne 8, 3) := by decide +kernel
theorem dX12_goesIn_6 : decode cX12_goesIn 6 = .ok (.aload_n 0, 1) := by decide +kernel
theorem dX12_goesIn_7 : decode cX12_goesIn 7 = .ok (.iconst 4, 1) := by decide +kernel
theorem dX12_goesIn_8 : decode cX12_goesIn 8 = .ok (.invokevirtual 165, 3) := by decide +kernel
theorem dX12_goesIn_11 : decode cX12_goesIn 11 = .ok (.aload_n 0, 1) := by decide +kernel
theorem dX12_goesIn_12 : decode cX12_goesIn 12 = .ok (.getfield 153, 3) := by decide +kernel
theorem dX12_goesIn_15 : decode cX12_goesIn 15 = .ok (.ifCond .ne 7, 3) := by decide +kernel
theorem dX12_goesIn_18 : decode cX12_goesIn 18 = .ok (.aload_n 0, 1) := by decide +kernel
theorem dX12_goesIn_19 : decode cX12_goesIn 19 = .ok (.invokevirtual 162, 3) := by decide +kernel
theorem dX12_goesIn_22 : decode cX12_goesIn 22 = .ok (.aload_n 0, 1) := by decide +kernel
theorem dX12_goesIn_23 : decode cX12_goesIn 23 = .ok (.getfield 153, 3) := by decide +kernel
theorem dX12_goesIn_26 : decode cX12_goesIn 26 = .ok (.ifCond .ne 7, 3) := by decide +kernel
theorem dX12_goesIn_29 : decode cX12_goesIn 29 = .ok (.iconst 1, 1) := by decide +kernel
theorem dX12_goesIn_30 : decode cX12_goesIn 30 = .ok (.goto 4, 3) := by decide +kernel
theorem dX12_goesIn_33 : decode cX12_goesIn 33 = .ok (.iconst 0, 1) := by decide +kernel
theorem dX12_goesIn_34 : decode cX12_goesIn 34 = .ok (.ireturn, 1) := by decide +kernel
theorem dX12_readAtom_0 : decode cX12_readAtom 0 = .ok (.aload_n 0, 1) := by decide +kernel
theorem dX12_readAtom_1 : decode cX12_readAtom 1 = .ok (.bipush 23, 2) := by decide +kernel
theorem dX12_readAtom_3 : decode cX12_readAtom 3 = .ok (.invokevirtual 159, 3) := by decide +kernel
theorem dX12_readAtom_6 : decode cX12_readAtom 6 = .ok (.ifCond .eq 18, 3) := by decide +kernel
theorem dX12_readAtom_9 : decode cX12_readAtom 9 = .ok (.aload_n 0, 1) := by decide +kernel
theorem dX12_readAtom_10 : decode cX12_readAtom 10 = .ok (.aload_n 0, 1) := by decide +kernel
theorem dX12_readAtom_11 : decode cX12_readAtom 11 = .ok (.getfield 148, 3) := by decide +kernel
theorem dX12_readAtom_14 : decode cX12_readAtom 14 = .ok (.invokevirtual 173, 3) := by decide +kernel
theorem dX12_readAtom_17 : decode cX12_readAtom 17 = .ok (.aload_n 0, 1) := by decide +kernel
theorem dX12_readAtom_18 : decode cX12_readAtom 18 = .ok (.invokevirtual 162, 3) := by decide +kernel
theorem dX12_readAtom_21 : decode cX12_readAtom 21 = .ok (.goto 109, 3) := by decide +kernel
theorem dX12_readAtom_24 : decode cX12_readAtom 24 = .ok (.aload_n 0, 1) := by decide +kernel
theorem dX12_readAtom_25 : decode cX12_readAtom 25 = .ok (.getfield 153, 3) := by decide +kernel
theorem dX12_readAtom_28 : decode cX12_readAtom 28 = .ok (.ifCond .ne 38, 3) := by decide +kernel
theorem dX12_readAtom_31 : decode cX12_readAtom 31 = .ok (.aload_n 0, 1) := by decide +kernel
theorem dX12_readAtom_32 : decode cX12_readAtom 32 = .ok (.aload_n 0, 1) := by decide +kernel
theorem dX12_readAtom_33 : decode cX12_readAtom 33 = .ok (.getfield 135, 3) := by decide +kernel
theorem dX12_readAtom_36 : decode cX12_readAtom 36 = .ok (.invokevirtual 176, 3) := by decide +kernel
theorem dX12_readAtom_39 : decode cX12_readAtom 39 = .ok (.iconst (-1), 1) := by decide +kernel
theorem dX12_readAtom_40 : decode cX12_readAtom 40 = .ok (.if_icmp .eq 26, 3) := by decide +kernel
theorem dX12_readAtom_43 : decode cX12_readAtom 43 = .ok (.aload_n 0, 1) := by decide +kernel
theorem dX12_readAtom_44 : decode cX12_readAtom 44 = .ok (.sipush 1000, 3) := by decide +kernel
theorem dX12_readAtom_47 : decode cX12_readAtom 47 = .ok (.aload_n 0, 1) := by decide +kernel
theorem dX12_readAtom_48 : decode cX12_readAtom 48 = .ok (.aload_n 0, 1) := by decide +kernel
theorem dX12_readAtom_49 : decode cX12_readAtom 49 = .ok (.getfield 135, 3) := by decide +kernel
theorem dX12_readAtom_52 : decode cX12_readAtom 52 = .ok (.invokevirtual 176, 3) := by decide +kernel
theorem dX12_readAtom_55 : decode cX12_readAtom 55 = .ok (.iadd, 1) := by decide +kernel
theorem dX12_readAtom_56 : decode cX12_readAtom 56 = .ok (.invokevirtual 173, 3) := by decide +kernel
theorem dX12_readAtom_59 : decode cX12_readAtom 59 = .ok (.aload_n 0, 1) := by decide +kernel
theorem dX12_readAtom_60 : decode cX12_readAtom 60 = .ok (.invokevirtual 162, 3) := by decide +kernel
theorem dX12_readAtom_63 : decode cX12_readAtom 63 = .ok (.goto 67, 3) := by decide +kernel
theorem dX12_readAtom_66 : decode cX12_readAtom 66 = .ok (.aload_n 0, 1) := by decide +kernel
theorem dX12_readAtom_67 : decode cX12_readAtom 67 = .ok (.bipush 35, 2) := by decide +kernel
theorem dX12_readAtom_69 : decode cX12_readAtom 69 = .ok (.invokevirtual 159, 3) := by decide +kernel
theorem dX12_readAtom_72 : decode cX12_readAtom 72 = .ok (.ifCond .eq 36, 3) := by decide +kernel
theorem dX12_readAtom_75 : decode cX12_readAtom 75 = .ok (.aload_n 0, 1) := by decide +kernel
theorem dX12_readAtom_76 : decode cX12_readAtom 76 = .ok (.iload_n 1, 1) := by decide +kernel
theorem dX12_readAtom_77 : decode cX12_readAtom 77 = .ok (.invokevirtual 179, 3) := by decide +kernel
theorem dX12_readAtom_80 : decode cX12_readAtom 80 = .ok (.ifCond .ne 4, 3) := by decide +kernel
theorem dX12_readAtom_83 : decode cX12_readAtom 83 = .ok (.return_, 1) := by decide +kernel
theorem dX12_readAtom_84 : decode cX12_readAtom 84 = .ok (.aload_n 0, 1) := by decide +kernel
theorem dX12_readAtom_85 : decode cX12_readAtom 85 = .ok (.iload_n 1, 1) := by decide +kernel
theorem dX12_readAtom_86 : decode cX12_readAtom 86 = .ok (.iconst 1, 1) := by decide +kernel
theorem dX12_readAtom_87 : decode cX12_readAtom 87 = .ok (.iadd, 1) := by decide +kernel
theorem dX12_readAtom_88 : decode cX12_readAtom 88 = .ok (.invokevirtual 182, 3) := by decide +kernel
theorem dX12_readAtom_91 : decode cX12_readAtom 91 = .ok (.aload_n 0, 1) := by decide +kernel
theorem dX12_readAtom_92 : decode cX12_readAtom 92 = .ok (.bipush 36, 2) := by decide +kernel
theorem dX12_readAtom_94 : decode cX12_readAtom 94 = .ok (.invokevirtual 185, 3) := by decide +kernel
theorem dX12_readAtom_97 : decode cX12_readAtom 97 = .ok (.ifCond .ne 33, 3) := by decide +kernel
theorem dX12_readAtom_100 : decode cX12_readAtom 100 = .ok (.aload_n 0, 1) := by decide +kernel
theorem dX12_readAtom_101 : decode cX12_readAtom 101 = .ok (.iconst 2, 1) := by decide +kernel
theorem dX12_readAtom_102 : decode cX12_readAtom 102 = .ok (.invokevirtual 165, 3) := by decide +kernel
theorem dX12_readAtom_105 : decode cX12_readAtom 105 = .ok (.goto 25, 3) := by decide +kernel
theorem dX12_readAtom_108 : decode cX12_readAtom 108 = .ok (.aload_n 0, 1) := by decide +kernel
theorem dX12_readAtom_109 : decode cX12_readAtom 109 = .ok (.bipush 8, 2) := by decide +kernel
theorem dX12_readAtom_111 : decode cX12_readAtom 111 = .ok (.invokevirtual 159, 3) := by decide +kernel
theorem dX12_readAtom_114 : decode cX12_readAtom 114 = .ok (.ifCond .eq 11, 3) := by decide +kernel
theorem dX12_readAtom_117 : decode cX12_readAtom 117 = .ok (.aload_n 0, 1) := by decide +kernel
theorem dX12_readAtom_118 : decode cX12_readAtom 118 = .ok (.iload_n 1, 1) := by decide +kernel
theorem dX12_readAtom_119 : decode cX12_readAtom 119 = .ok (.invokevirtual 188, 3) := by decide +kernel
theorem dX12_readAtom_122 : decode cX12_readAtom 122 = .ok (.goto 8, 3) := by decide +kernel
theorem dX12_readAtom_125 : decode cX12_readAtom 125 = .ok (.aload_n 0, 1) := by decide +kernel
theorem dX12_readAtom_126 : decode cX12_readAtom 126 = .ok (.iconst 2, 1) := by decide +kernel
theorem dX12_readAtom_127 : decode cX12_readAtom 127 = .ok (.invokevirtual 165, 3) := by decide +kernel
theorem dX12_readAtom_130 : decode cX12_readAtom 130 = .ok (.return_, 1) := by decide +kernel
theorem dX12_readIf_0 : decode cX12_readIf 0 = .ok (.aload_n 0, 1) := by decide +kernel
theorem dX12_readIf_1 : decode cX12_readIf 1 = .ok (.iload_n 1, 1) := by decide +kernel
theorem dX12_readIf_2 : decode cX12_readIf 2 = .ok (.invokevirtual 179, 3) := by decide +kernel
theorem dX12_readIf_5 : decode cX12_readIf 5 = .ok (.ifCond .ne 4, 3) := by decide +kernel
theorem dX12_readIf_8 : decode cX12_readIf 8 = .ok (.return_, 1) := by decide +kernel
theorem dX12_readIf_9 : decode cX12_readIf 9 = .ok (.aload_n 0, 1) := by decide +kernel
theorem dX12_readIf_10 : decode cX12_readIf 10 = .ok (.iload_n 1, 1) := by decide +kernel
theorem dX12_readIf_11 : decode cX12_readIf 11 = .ok (.iconst 1, 1) := by decide +kernel
theorem dX12_readIf_12 : decode cX12_readIf 12 = .ok (.iadd, 1) := by decide +kernel
theorem dX12_readIf_13 : decode cX12_readIf 13 = .ok (.invokevirtual 191, 3) := by decide +kernel
theorem dX12_readIf_16 : decode cX12_readIf 16 = .ok (.aload_n 0, 1) := by decide +kernel
theorem dX12_readIf_17 : decode cX12_readIf 17 = .ok (.bipush 9, 2) := by decide +kernel
theorem dX12_readIf_19 : decode cX12_readIf 19 = .ok (.invokevirtual 185, 3) := by decide +kernel
theorem dX12_readIf_22 : decode cX12_readIf 22 = .ok (.ifCond .ne 8, 3) := by decide +kernel
theorem dX12_readIf_25 : decode cX12_readIf 25 = .ok (.aload_n 0, 1) := by decide +kernel
theorem dX12_readIf_26 : decode cX12_readIf 26 = .ok (.iconst 2, 1) := by decide +kernel
theorem dX12_readIf_27 : decode cX12_readIf 27 = .ok (.invokevirtual 165, 3) := by decide +kernel
theorem dX12_readIf_30 : decode cX12_readIf 30 = .ok (.aload_n 0, 1) := by decide +kernel
theorem dX12_readIf_31 : decode cX12_readIf 31 = .ok (.iload_n 1, 1) := by decide +kernel
theorem dX12_readIf_32 : decode cX12_readIf 32 = .ok (.iconst 1, 1) := by decide +kernel
theorem dX12_readIf_33 : decode cX12_readIf 33 = .ok (.iadd, 1) := by decide +kernel
theorem dX12_readIf_34 : decode cX12_readIf 34 = .ok (.invokevirtual 182, 3) := by decide +kernel
theorem dX12_readIf_37 : decode cX12_readIf 37 = .ok (.aload_n 0, 1) := by decide +kernel
theorem dX12_readIf_38 : decode cX12_readIf 38 = .ok (.bipush 10, 2) := by decide +kernel
theorem dX12_readIf_40 : decode cX12_readIf 40 = .ok (.invokevirtual 185, 3) := by decide +kernel
theorem dX12_readIf_43 : decode cX12_readIf 43 = .ok (.ifCond .ne 8, 3) := by decide +kernel
theorem dX12_readIf_46 : decode cX12_readIf 46 = .ok (.aload_n 0, 1) := by decide +kernel
theorem dX12_readIf_47 : decode cX12_readIf 47 = .ok (.iconst 2, 1) := by decide +kernel
theorem dX12_readIf_48 : decode cX12_readIf 48 = .ok (.invokevirtual 165, 3) := by decide +kernel
theorem dX12_readIf_51 : decode cX12_readIf 51 = .ok (.aload_n 0, 1) := by decide +kernel
theorem dX12_readIf_52 : decode cX12_readIf 52 = .ok (.iload_n 1, 1) := by decide +kernel
theorem dX12_readIf_53 : decode cX12_readIf 53 = .ok (.iconst 1, 1) := by decide +kernel
theorem dX12_readIf_54 : decode cX12_readIf 54 = .ok (.iadd, 1) := by decide +kernel
theorem dX12_readIf_55 : decode cX12_readIf 55 = .ok (.invokevirtual 182, 3) := by decide +kernel
theorem dX12_readIf_58 : decode cX12_readIf 58 = .ok (.aload_n 0, 1) := by decide +kernel
theorem dX12_readIf_59 : decode cX12_readIf 59 = .ok (.bipush 11, 2) := by decide +kernel
theorem dX12_readIf_61 : decode cX12_readIf 61 = .ok (.invokevirtual 185, 3) := by decide +kernel
theorem dX12_readIf_64 : decode cX12_readIf 64 = .ok (.ifCond .ne 8, 3) := by decide +kernel
theorem dX12_readIf_67 : decode cX12_readIf 67 = .ok (.aload_n 0, 1) := by decide +kernel
theorem dX12_readIf_68 : decode cX12_readIf 68 = .ok (.iconst 2, 1) := by decide +kernel
theorem dX12_readIf_69 : decode cX12_readIf 69 = .ok (.invokevirtual 165, 3) := by decide +kernel
theorem dX12_readIf_72 : decode cX12_readIf 72 = .ok (.aload_n 0, 1) := by decide +kernel
theorem dX12_readIf_73 : decode cX12_readIf 73 = .ok (.sipush 3009, 3) := by decide +kernel
theorem dX12_readIf_76 : decode cX12_readIf 76 = .ok (.invokevirtual 173, 3) := by decide +kernel
theorem dX12_readIf_79 : decode cX12_readIf 79 = .ok (.return_, 1) := by decide +kernel
theorem dX12_readTerm_0 : decode cX12_readTerm 0 = .ok (.aload_n 0, 1) := by decide +kernel
theorem dX12_readTerm_1 : decode cX12_readTerm 1 = .ok (.iload_n 1, 1) := by decide +kernel
theorem dX12_readTerm_2 : decode cX12_readTerm 2 = .ok (.invokevirtual 194, 3) := by decide +kernel
theorem dX12_readTerm_5 : decode cX12_readTerm 5 = .ok (.aload_n 0, 1) := by decide +kernel
theorem dX12_readTerm_6 : decode cX12_readTerm 6 = .ok (.bipush 34, 2) := by decide +kernel
theorem dX12_readTerm_8 : decode cX12_readTerm 8 = .ok (.invokevirtual 185, 3) := by decide +kernel
theorem dX12_readTerm_11 : decode cX12_readTerm 11 = .ok (.ifCond .eq 18, 3) := by decide +kernel
theorem dX12_readTerm_14 : decode cX12_readTerm 14 = .ok (.aload_n 0, 1) := by decide +kernel
theorem dX12_readTerm_15 : decode cX12_readTerm 15 = .ok (.iload_n 1, 1) := by decide +kernel
theorem dX12_readTerm_16 : decode cX12_readTerm 16 = .ok (.invokevirtual 194, 3) := by decide +kernel
theorem dX12_readTerm_19 : decode cX12_readTerm 19 = .ok (.aload_n 0, 1) := by decide +kernel
theorem dX12_readTerm_20 : decode cX12_readTerm 20 = .ok (.sipush 3002, 3) := by decide +kernel
theorem dX12_readTerm_23 : decode cX12_readTerm 23 = .ok (.invokevirtual 173, 3) := by decide +kernel
theorem dX12_readTerm_26 : decode cX12_readTerm 26 = .ok (.goto (-21), 3) := by decide +kernel
theorem dX12_readTerm_29 : decode cX12_readTerm 29 = .ok (.return_, 1) := by decide +kernel
theorem dX12_readSum_0 : decode cX12_readSum 0 = .ok (.aload_n 0, 1) := by decide +kernel
theorem dX12_readSum_1 : decode cX12_readSum 1 = .ok (.iload_n 1, 1) := by decide +kernel
theorem dX12_readSum_2 : decode cX12_readSum 2 = .ok (.invokevirtual 197, 3) := by decide +kernel
theorem dX12_readSum_5 : decode cX12_readSum 5 = .ok (.aload_n 0, 1) := by decide +kernel
theorem dX12_readSum_6 : decode cX12_readSum 6 = .ok (.bipush 32, 2) := by decide +kernel
theorem dX12_readSum_8 : decode cX12_readSum 8 = .ok (.invokevirtual 159, 3) := by decide +kernel
theorem dX12_readSum_11 : decode cX12_readSum 11 = .ok (.ifCond .ne 12, 3) := by decide +kernel
theorem dX12_readSum_14 : decode cX12_readSum 14 = .ok (.aload_n 0, 1) := by decide +kernel
theorem dX12_readSum_15 : decode cX12_readSum 15 = .ok (.bipush 33, 2) := by decide +kernel
theorem dX12_readSum_17 : decode cX12_readSum 17 = .ok (.invokevirtual 159, 3) := by decide +kernel
theorem dX12_readSum_20 : decode cX12_readSum 20 = .ok (.ifCond .eq 39, 3) := by decide +kernel
theorem dX12_readSum_23 : decode cX12_readSum 23 = .ok (.aload_n 0, 1) := by decide +kernel
theorem dX12_readSum_24 : decode cX12_readSum 24 = .ok (.getfield 135, 3) := by decide +kernel
theorem dX12_readSum_27 : decode cX12_readSum 27 = .ok (.bipush 32, 2) := by decide +kernel
theorem dX12_readSum_29 : decode cX12_readSum 29 = .ok (.if_icmp .ne 9, 3) := by decide +kernel
theorem dX12_readSum_32 : decode cX12_readSum 32 = .ok (.sipush 3000, 3) := by decide +kernel
theorem dX12_readSum_35 : decode cX12_readSum 35 = .ok (.goto 6, 3) := by decide +kernel
theorem dX12_readSum_38 : decode cX12_readSum 38 = .ok (.sipush 3001, 3) := by decide +kernel
theorem dX12_readSum_41 : decode cX12_readSum 41 = .ok (.istore_n 2, 1) := by decide +kernel
theorem dX12_readSum_42 : decode cX12_readSum 42 = .ok (.aload_n 0, 1) := by decide +kernel
theorem dX12_readSum_43 : decode cX12_readSum 43 = .ok (.invokevirtual 162, 3) := by decide +kernel
theorem dX12_readSum_46 : decode cX12_readSum 46 = .ok (.aload_n 0, 1) := by decide +kernel
theorem dX12_readSum_47 : decode cX12_readSum 47 = .ok (.iload_n 1, 1) := by decide +kernel
theorem dX12_readSum_48 : decode cX12_readSum 48 = .ok (.invokevirtual 197, 3) := by decide +kernel
theorem dX12_readSum_51 : decode cX12_readSum 51 = .ok (.aload_n 0, 1) := by decide +kernel
theorem dX12_readSum_52 : decode cX12_readSum 52 = .ok (.iload_n 2, 1) := by decide +kernel
theorem dX12_readSum_53 : decode cX12_readSum 53 = .ok (.invokevirtual 173, 3) := by decide +kernel
theorem dX12_readSum_56 : decode cX12_readSum 56 = .ok (.goto (-51), 3) := by decide +kernel
theorem dX12_readSum_59 : decode cX12_readSum 59 = .ok (.return_, 1) := by decide +kernel
theorem dX12_readUnit_0 : decode cX12_readUnit 0 = .ok (.aload_n 0, 1) := by decide +kernel
theorem dX12_readUnit_1 : decode cX12_readUnit 1 = .ok (.bipush 18, 2) := by decide +kernel
theorem dX12_readUnit_3 : decode cX12_readUnit 3 = .ok (.invokevirtual 159, 3) := by decide +kernel
theorem dX12_readUnit_6 : decode cX12_readUnit 6 = .ok (.ifCond .eq 27, 3) := by decide +kernel
theorem dX12_readUnit_9 : decode cX12_readUnit 9 = .ok (.aload_n 0, 1) := by decide +kernel
theorem dX12_readUnit_10 : decode cX12_readUnit 10 = .ok (.iload_n 1, 1) := by decide +kernel
theorem dX12_readUnit_11 : decode cX12_readUnit 11 = .ok (.invokevirtual 179, 3) := by decide +kernel
theorem dX12_readUnit_14 : decode cX12_readUnit 14 = .ok (.ifCond .ne 4, 3) := by decide +kernel
theorem dX12_readUnit_17 : decode cX12_readUnit 17 = .ok (.return_, 1) := by decide +kernel
theorem dX12_readUnit_18 : decode cX12_readUnit 18 = .ok (.aload_n 0, 1) := by decide +kernel
theorem dX12_readUnit_19 : decode cX12_readUnit 19 = .ok (.iload_n 1, 1) := by decide +kernel
theorem dX12_readUnit_20 : decode cX12_readUnit 20 = .ok (.iconst 1, 1) := by decide +kernel
theorem dX12_readUnit_21 : decode cX12_readUnit 21 = .ok (.iadd, 1) := by decide +kernel
theorem dX12_readUnit_22 : decode cX12_readUnit 22 = .ok (.invokevirtual 200, 3) := by decide +kernel
theorem dX12_readUnit_25 : decode cX12_readUnit 25 = .ok (.aload_n 0, 1) := by decide +kernel
theorem dX12_readUnit_26 : decode cX12_readUnit 26 = .ok (.sipush 3006, 3) := by decide +kernel
theorem dX12_readUnit_29 : decode cX12_readUnit 29 = .ok (.invokevirtual 173, 3) := by decide +kernel
theorem dX12_readUnit_32 : decode cX12_readUnit 32 = .ok (.return_, 1) := by decide +kernel
theorem dX12_readUnit_33 : decode cX12_readUnit 33 = .ok (.aload_n 0, 1) := by decide +kernel
theorem dX12_readUnit_34 : decode cX12_readUnit 34 = .ok (.bipush 37, 2) := by decide +kernel
theorem dX12_readUnit_36 : decode cX12_readUnit 36 = .ok (.invokevirtual 159, 3) := by decide +kernel
theorem dX12_readUnit_39 : decode cX12_readUnit 39 = .ok (.ifCond .eq 34, 3) := by decide +kernel
theorem dX12_readUnit_42 : decode cX12_readUnit 42 = .ok (.aload_n 0, 1) := by decide +kernel
theorem dX12_readUnit_43 : decode cX12_readUnit 43 = .ok (.iload_n 1, 1) := by decide +kernel
theorem dX12_readUnit_44 : decode cX12_readUnit 44 = .ok (.invokevirtual 179, 3) := by decide +kernel
theorem dX12_readUnit_47 : decode cX12_readUnit 47 = .ok (.ifCond .ne 4, 3) := by decide +kernel
theorem dX12_readUnit_50 : decode cX12_readUnit 50 = .ok (.return_, 1) := by decide +kernel
theorem dX12_readUnit_51 : decode cX12_readUnit 51 = .ok (.aload_n 0, 1) := by decide +kernel
theorem dX12_readUnit_52 : decode cX12_readUnit 52 = .ok (.iload_n 1, 1) := by decide +kernel
theorem dX12_readUnit_53 : decode cX12_readUnit 53 = .ok (.iconst 1, 1) := by decide +kernel
theorem dX12_readUnit_54 : decode cX12_readUnit 54 = .ok (.iadd, 1) := by decide +kernel
theorem dX12_readUnit_55 : decode cX12_readUnit 55 = .ok (.invokevirtual 191, 3) := by decide +kernel
theorem dX12_readUnit_58 : decode cX12_readUnit 58 = .ok (.aload_n 0, 1) := by decide +kernel
theorem dX12_readUnit_59 : decode cX12_readUnit 59 = .ok (.bipush 38, 2) := by decide +kernel
theorem dX12_readUnit_61 : decode cX12_readUnit 61 = .ok (.invokevirtual 185, 3) := by decide +kernel
theorem dX12_readUnit_64 : decode cX12_readUnit 64 = .ok (.ifCond .ne 8, 3) := by decide +kernel
theorem dX12_readUnit_67 : decode cX12_readUnit 67 = .ok (.aload_n 0, 1) := by decide +kernel
theorem dX12_readUnit_68 : decode cX12_readUnit 68 = .ok (.iconst 2, 1) := by decide +kernel
theorem dX12_readUnit_69 : decode cX12_readUnit 69 = .ok (.invokevirtual 165, 3) := by decide +kernel
theorem dX12_readUnit_72 : decode cX12_readUnit 72 = .ok (.return_, 1) := by decide +kernel
theorem dX12_readUnit_73 : decode cX12_readUnit 73 = .ok (.aload_n 0, 1) := by decide +kernel
theorem dX12_readUnit_74 : decode cX12_readUnit 74 = .ok (.iload_n 1, 1) := by decide +kernel
theorem dX12_readUnit_75 : decode cX12_readUnit 75 = .ok (.invokevirtual 182, 3) := by decide +kernel
theorem dX12_readUnit_78 : decode cX12_readUnit 78 = .ok (.aload_n 0, 1) := by decide +kernel
theorem dX12_readUnit_79 : decode cX12_readUnit 79 = .ok (.bipush 39, 2) := by decide +kernel
theorem dX12_readUnit_81 : decode cX12_readUnit 81 = .ok (.invokevirtual 159, 3) := by decide +kernel
theorem dX12_readUnit_84 : decode cX12_readUnit 84 = .ok (.ifCond .eq 9, 3) := by decide +kernel
theorem dX12_readUnit_87 : decode cX12_readUnit 87 = .ok (.sipush 3003, 3) := by decide +kernel
theorem dX12_readUnit_90 : decode cX12_readUnit 90 = .ok (.goto 21, 3) := by decide +kernel
theorem dX12_readUnit_93 : decode cX12_readUnit 93 = .ok (.aload_n 0, 1) := by decide +kernel
theorem dX12_readUnit_94 : decode cX12_readUnit 94 = .ok (.bipush 40, 2) := by decide +kernel
theorem dX12_readUnit_96 : decode cX12_readUnit 96 = .ok (.invokevirtual 159, 3) := by decide +kernel
theorem dX12_readUnit_99 : decode cX12_readUnit 99 = .ok (.ifCond .eq 9, 3) := by decide +kernel
theorem dX12_readUnit_102 : decode cX12_readUnit 102 = .ok (.sipush 3004, 3) := by decide +kernel
theorem dX12_readUnit_105 : decode cX12_readUnit 105 = .ok (.goto 6, 3) := by decide +kernel
theorem dX12_readUnit_108 : decode cX12_readUnit 108 = .ok (.sipush 3005, 3) := by decide +kernel
theorem dX12_readUnit_111 : decode cX12_readUnit 111 = .ok (.istore_n 2, 1) := by decide +kernel
theorem dX12_readUnit_112 : decode cX12_readUnit 112 = .ok (.aload_n 0, 1) := by decide +kernel
theorem dX12_readUnit_113 : decode cX12_readUnit 113 = .ok (.bipush 39, 2) := by decide +kernel
theorem dX12_readUnit_115 : decode cX12_readUnit 115 = .ok (.invokevirtual 159, 3) := by decide +kernel
theorem dX12_readUnit_118 : decode cX12_readUnit 118 = .ok (.ifCond .ne 21, 3) := by decide +kernel
theorem dX12_readUnit_121 : decode cX12_readUnit 121 = .ok (.aload_n 0, 1) := by decide +kernel
theorem dX12_readUnit_122 : decode cX12_readUnit 122 = .ok (.bipush 40, 2) := by decide +kernel
theorem dX12_readUnit_124 : decode cX12_readUnit 124 = .ok (.invokevirtual 159, 3) := by decide +kernel
theorem dX12_readUnit_127 : decode cX12_readUnit 127 = .ok (.ifCond .ne 12, 3) := by decide +kernel
theorem dX12_readUnit_130 : decode cX12_readUnit 130 = .ok (.aload_n 0, 1) := by decide +kernel
theorem dX12_readUnit_131 : decode cX12_readUnit 131 = .ok (.bipush 41, 2) := by decide +kernel
theorem dX12_readUnit_133 : decode cX12_readUnit 133 = .ok (.invokevirtual 159, 3) := by decide +kernel
theorem dX12_readUnit_136 : decode cX12_readUnit 136 = .ok (.ifCond .eq 10, 3) := by decide +kernel
theorem dX12_readUnit_139 : decode cX12_readUnit 139 = .ok (.aload_n 0, 1) := by decide +kernel
theorem dX12_readUnit_140 : decode cX12_readUnit 140 = .ok (.invokevirtual 162, 3) := by decide +kernel
theorem dX12_readUnit_143 : decode cX12_readUnit 143 = .ok (.goto 8, 3) := by decide +kernel
theorem dX12_readUnit_146 : decode cX12_readUnit 146 = .ok (.aload_n 0, 1) := by decide +kernel
theorem dX12_readUnit_147 : decode cX12_readUnit 147 = .ok (.iconst 2, 1) := by decide +kernel
theorem dX12_readUnit_148 : decode cX12_readUnit 148 = .ok (.invokevirtual 165, 3) := by decide +kernel
theorem dX12_readUnit_151 : decode cX12_readUnit 151 = .ok (.aload_n 0, 1) := by decide +kernel
theorem dX12_readUnit_152 : decode cX12_readUnit 152 = .ok (.iload_n 1, 1) := by decide +kernel
theorem dX12_readUnit_153 : decode cX12_readUnit 153 = .ok (.invokevirtual 182, 3) := by decide +kernel
theorem dX12_readUnit_156 : decode cX12_readUnit 156 = .ok (.aload_n 0, 1) := by decide +kernel
theorem dX12_readUnit_157 : decode cX12_readUnit 157 = .ok (.iload_n 2, 1) := by decide +kernel
theorem dX12_readUnit_158 : decode cX12_readUnit 158 = .ok (.invokevirtual 173, 3) := by decide +kernel
theorem dX12_readUnit_161 : decode cX12_readUnit 161 = .ok (.return_, 1) := by decide +kernel
theorem dX12_readBoth_0 : decode cX12_readBoth 0 = .ok (.aload_n 0, 1) := by decide +kernel
theorem dX12_readBoth_1 : decode cX12_readBoth 1 = .ok (.iload_n 1, 1) := by decide +kernel
theorem dX12_readBoth_2 : decode cX12_readBoth 2 = .ok (.invokevirtual 200, 3) := by decide +kernel
theorem dX12_readBoth_5 : decode cX12_readBoth 5 = .ok (.aload_n 0, 1) := by decide +kernel
theorem dX12_readBoth_6 : decode cX12_readBoth 6 = .ok (.bipush 16, 2) := by decide +kernel
theorem dX12_readBoth_8 : decode cX12_readBoth 8 = .ok (.invokevirtual 185, 3) := by decide +kernel
theorem dX12_readBoth_11 : decode cX12_readBoth 11 = .ok (.ifCond .eq 18, 3) := by decide +kernel
theorem dX12_readBoth_14 : decode cX12_readBoth 14 = .ok (.aload_n 0, 1) := by decide +kernel
theorem dX12_readBoth_15 : decode cX12_readBoth 15 = .ok (.iload_n 1, 1) := by decide +kernel
theorem dX12_readBoth_16 : decode cX12_readBoth 16 = .ok (.invokevirtual 200, 3) := by decide +kernel
theorem dX12_readBoth_19 : decode cX12_readBoth 19 = .ok (.aload_n 0, 1) := by decide +kernel
theorem dX12_readBoth_20 : decode cX12_readBoth 20 = .ok (.sipush 3007, 3) := by decide +kernel
theorem dX12_readBoth_23 : decode cX12_readBoth 23 = .ok (.invokevirtual 173, 3) := by decide +kernel
theorem dX12_readBoth_26 : decode cX12_readBoth 26 = .ok (.goto (-21), 3) := by decide +kernel
theorem dX12_readBoth_29 : decode cX12_readBoth 29 = .ok (.return_, 1) := by decide +kernel
theorem dX12_readTruth_0 : decode cX12_readTruth 0 = .ok (.aload_n 0, 1) := by decide +kernel
theorem dX12_readTruth_1 : decode cX12_readTruth 1 = .ok (.iload_n 1, 1) := by decide +kernel
theorem dX12_readTruth_2 : decode cX12_readTruth 2 = .ok (.invokevirtual 203, 3) := by decide +kernel
theorem dX12_readTruth_5 : decode cX12_readTruth 5 = .ok (.aload_n 0, 1) := by decide +kernel
theorem dX12_readTruth_6 : decode cX12_readTruth 6 = .ok (.bipush 17, 2) := by decide +kernel
theorem dX12_readTruth_8 : decode cX12_readTruth 8 = .ok (.invokevirtual 185, 3) := by decide +kernel
theorem dX12_readTruth_11 : decode cX12_readTruth 11 = .ok (.ifCond .eq 18, 3) := by decide +kernel
theorem dX12_readTruth_14 : decode cX12_readTruth 14 = .ok (.aload_n 0, 1) := by decide +kernel
theorem dX12_readTruth_15 : decode cX12_readTruth 15 = .ok (.iload_n 1, 1) := by decide +kernel
theorem dX12_readTruth_16 : decode cX12_readTruth 16 = .ok (.invokevirtual 203, 3) := by decide +kernel
theorem dX12_readTruth_19 : decode cX12_readTruth 19 = .ok (.aload_n 0, 1) := by decide +kernel
theorem dX12_readTruth_20 : decode cX12_readTruth 20 = .ok (.sipush 3008, 3) := by decide +kernel
theorem dX12_readTruth_23 : decode cX12_readTruth 23 = .ok (.invokevirtual 173, 3) := by decide +kernel
theorem dX12_readTruth_26 : decode cX12_readTruth 26 = .ok (.goto (-21), 3) := by decide +kernel
theorem dX12_readTruth_29 : decode cX12_readTruth 29 = .ok (.return_, 1) := by decide +kernel
theorem dX12_named_0 : decode cX12_named 0 = .ok (.aload_n 0, 1) := by decide +kernel
theorem dX12_named_1 : decode cX12_named 1 = .ok (.iload_n 1, 1) := by decide +kernel
theorem dX12_named_2 : decode cX12_named 2 = .ok (.invokevirtual 185, 3) := by decide +kernel
theorem dX12_named_5 : decode cX12_named 5 = .ok (.ifCond .ne 8, 3) := by decide +kernel
theorem dX12_named_8 : decode cX12_named 8 = .ok (.aload_n 0, 1) := by decide +kernel
theorem dX12_named_9 : decode cX12_named 9 = .ok (.iconst 2, 1) := by decide +kernel
theorem dX12_named_10 : decode cX12_named 10 = .ok (.invokevirtual 165, 3) := by decide +kernel
theorem dX12_named_13 : decode cX12_named 13 = .ok (.aload_n 0, 1) := by decide +kernel
theorem dX12_named_14 : decode cX12_named 14 = .ok (.iload_n 2, 1) := by decide +kernel
theorem dX12_named_15 : decode cX12_named 15 = .ok (.iload_n 3, 1) := by decide +kernel
theorem dX12_named_16 : decode cX12_named 16 = .ok (.invokevirtual 206, 3) := by decide +kernel
theorem dX12_named_19 : decode cX12_named 19 = .ok (.ireturn, 1) := by decide +kernel
theorem dX12_spells_0 : decode cX12_spells 0 = .ok (.aload_n 0, 1) := by decide +kernel
theorem dX12_spells_1 : decode cX12_spells 1 = .ok (.bipush 22, 2) := by decide +kernel
theorem dX12_spells_3 : decode cX12_spells 3 = .ok (.invokevirtual 159, 3) := by decide +kernel
theorem dX12_spells_6 : decode cX12_spells 6 = .ok (.istore_n 2, 1) := by decide +kernel
theorem dX12_spells_7 : decode cX12_spells 7 = .ok (.aload_n 0, 1) := by decide +kernel
theorem dX12_spells_8 : decode cX12_spells 8 = .ok (.getfield 125, 3) := by decide +kernel
theorem dX12_spells_11 : decode cX12_spells 11 = .ok (.istore_n 3, 1) := by decide +kernel
theorem dX12_spells_12 : decode cX12_spells 12 = .ok (.iload_n 2, 1) := by decide +kernel
theorem dX12_spells_13 : decode cX12_spells 13 = .ok (.ifCond .eq 34, 3) := by decide +kernel
theorem dX12_spells_16 : decode cX12_spells 16 = .ok (.iload_n 3, 1) := by decide +kernel
theorem dX12_spells_17 : decode cX12_spells 17 = .ok (.aload_n 0, 1) := by decide +kernel
theorem dX12_spells_18 : decode cX12_spells 18 = .ok (.getfield 128, 3) := by decide +kernel
theorem dX12_spells_21 : decode cX12_spells 21 = .ok (.if_icmp .ge 26, 3) := by decide +kernel
theorem dX12_spells_24 : decode cX12_spells 24 = .ok (.aload_n 0, 1) := by decide +kernel
theorem dX12_spells_25 : decode cX12_spells 25 = .ok (.getfield 21, 3) := by decide +kernel
theorem dX12_spells_28 : decode cX12_spells 28 = .ok (.iload_n 3, 1) := by decide +kernel
theorem dX12_spells_29 : decode cX12_spells 29 = .ok (.iaload, 1) := by decide +kernel
theorem dX12_spells_30 : decode cX12_spells 30 = .ok (.bipush 102, 2) := by decide +kernel
theorem dX12_spells_32 : decode cX12_spells 32 = .ok (.if_icmp .gt 7, 3) := by decide +kernel
theorem dX12_spells_35 : decode cX12_spells 35 = .ok (.iconst 1, 1) := by decide +kernel
theorem dX12_spells_36 : decode cX12_spells 36 = .ok (.goto 4, 3) := by decide +kernel
theorem dX12_spells_39 : decode cX12_spells 39 = .ok (.iconst 0, 1) := by decide +kernel
theorem dX12_spells_40 : decode cX12_spells 40 = .ok (.istore_n 2, 1) := by decide +kernel
theorem dX12_spells_41 : decode cX12_spells 41 = .ok (.iinc 3 1, 3) := by decide +kernel
theorem dX12_spells_44 : decode cX12_spells 44 = .ok (.goto (-32), 3) := by decide +kernel
theorem dX12_spells_47 : decode cX12_spells 47 = .ok (.iload_n 2, 1) := by decide +kernel
theorem dX12_spells_48 : decode cX12_spells 48 = .ok (.ifCond .ne 8, 3) := by decide +kernel
theorem dX12_spells_51 : decode cX12_spells 51 = .ok (.aload_n 0, 1) := by decide +kernel
theorem dX12_spells_52 : decode cX12_spells 52 = .ok (.iconst 2, 1) := by decide +kernel
theorem dX12_spells_53 : decode cX12_spells 53 = .ok (.invokevirtual 165, 3) := by decide +kernel
theorem dX12_spells_56 : decode cX12_spells 56 = .ok (.aload_n 0, 1) := by decide +kernel
theorem dX12_spells_57 : decode cX12_spells 57 = .ok (.getfield 128, 3) := by decide +kernel
theorem dX12_spells_60 : decode cX12_spells 60 = .ok (.aload_n 0, 1) := by decide +kernel
theorem dX12_spells_61 : decode cX12_spells 61 = .ok (.getfield 125, 3) := by decide +kernel
theorem dX12_spells_64 : decode cX12_spells 64 = .ok (.isub, 1) := by decide +kernel
theorem dX12_spells_65 : decode cX12_spells 65 = .ok (.istore_n 3, 1) := by decide +kernel
theorem dX12_spells_66 : decode cX12_spells 66 = .ok (.iload_n 3, 1) := by decide +kernel
theorem dX12_spells_67 : decode cX12_spells 67 = .ok (.iload_n 1, 1) := by decide +kernel
theorem dX12_spells_68 : decode cX12_spells 68 = .ok (.if_icmp .le 8, 3) := by decide +kernel
theorem dX12_spells_71 : decode cX12_spells 71 = .ok (.aload_n 0, 1) := by decide +kernel
theorem dX12_spells_72 : decode cX12_spells 72 = .ok (.iconst 3, 1) := by decide +kernel
theorem dX12_spells_73 : decode cX12_spells 73 = .ok (.invokevirtual 165, 3) := by decide +kernel
theorem dX12_spells_76 : decode cX12_spells 76 = .ok (.aload_n 0, 1) := by decide +kernel
theorem dX12_spells_77 : decode cX12_spells 77 = .ok (.getfield 153, 3) := by decide +kernel
theorem dX12_spells_80 : decode cX12_spells 80 = .ok (.ifCond .eq 5, 3) := by decide +kernel
theorem dX12_spells_83 : decode cX12_spells 83 = .ok (.iconst 0, 1) := by decide +kernel
theorem dX12_spells_84 : decode cX12_spells 84 = .ok (.ireturn, 1) := by decide +kernel
theorem dX12_spells_85 : decode cX12_spells 85 = .ok (.iconst 0, 1) := by decide +kernel
theorem dX12_spells_86 : decode cX12_spells 86 = .ok (.istore 4, 2) := by decide +kernel
theorem dX12_spells_88 : decode cX12_spells 88 = .ok (.iload 4, 2) := by decide +kernel
theorem dX12_spells_90 : decode cX12_spells 90 = .ok (.iload_n 3, 1) := by decide +kernel
theorem dX12_spells_91 : decode cX12_spells 91 = .ok (.if_icmp .ge 31, 3) := by decide +kernel
theorem dX12_spells_94 : decode cX12_spells 94 = .ok (.aload_n 0, 1) := by decide +kernel
theorem dX12_spells_95 : decode cX12_spells 95 = .ok (.getfield 30, 3) := by decide +kernel
theorem dX12_spells_98 : decode cX12_spells 98 = .ok (.iload 4, 2) := by decide +kernel
theorem dX12_spells_100 : decode cX12_spells 100 = .ok (.aload_n 0, 1) := by decide +kernel
theorem dX12_spells_101 : decode cX12_spells 101 = .ok (.getfield 21, 3) := by decide +kernel
theorem dX12_spells_104 : decode cX12_spells 104 = .ok (.aload_n 0, 1) := by decide +kernel
theorem dX12_spells_105 : decode cX12_spells 105 = .ok (.getfield 125, 3) := by decide +kernel
theorem dX12_spells_108 : decode cX12_spells 108 = .ok (.iload 4, 2) := by decide +kernel
theorem dX12_spells_110 : decode cX12_spells 110 = .ok (.iadd, 1) := by decide +kernel
theorem dX12_spells_111 : decode cX12_spells 111 = .ok (.iaload, 1) := by decide +kernel
theorem dX12_spells_112 : decode cX12_spells 112 = .ok (.bipush 97, 2) := by decide +kernel
theorem dX12_spells_114 : decode cX12_spells 114 = .ok (.isub, 1) := by decide +kernel
theorem dX12_spells_115 : decode cX12_spells 115 = .ok (.iastore, 1) := by decide +kernel
theorem dX12_spells_116 : decode cX12_spells 116 = .ok (.iinc 4 1, 3) := by decide +kernel
theorem dX12_spells_119 : decode cX12_spells 119 = .ok (.goto (-31), 3) := by decide +kernel
theorem dX12_spells_122 : decode cX12_spells 122 = .ok (.aload_n 0, 1) := by decide +kernel
theorem dX12_spells_123 : decode cX12_spells 123 = .ok (.invokevirtual 162, 3) := by decide +kernel
theorem dX12_spells_126 : decode cX12_spells 126 = .ok (.iload_n 3, 1) := by decide +kernel
theorem dX12_spells_127 : decode cX12_spells 127 = .ok (.ireturn, 1) := by decide +kernel
theorem dX12_readStands_0 : decode cX12_readStands 0 = .ok (.aload_n 0, 1) := by decide +kernel
theorem dX12_readStands_1 : decode cX12_readStands 1 = .ok (.invokevirtual 162, 3) := by decide +kernel
theorem dX12_readStands_4 : decode cX12_readStands 4 = .ok (.aload_n 0, 1) := by decide +kernel
theorem dX12_readStands_5 : decode cX12_readStands 5 = .ok (.bipush 12, 2) := by decide +kernel
theorem dX12_readStands_7 : decode cX12_readStands 7 = .ok (.invokevirtual 210, 3) := by decide +kernel
theorem dX12_readStands_10 : decode cX12_readStands 10 = .ok (.istore_n 1, 1) := by decide +kernel
theorem dX12_readStands_11 : decode cX12_readStands 11 = .ok (.aload_n 0, 1) := by decide +kernel
theorem dX12_readStands_12 : decode cX12_readStands 12 = .ok (.getfield 153, 3) := by decide +kernel
theorem dX12_readStands_15 : decode cX12_readStands 15 = .ok (.ifCond .eq 4, 3) := by decide +kernel
theorem dX12_readStands_18 : decode cX12_readStands 18 = .ok (.return_, 1) := by decide +kernel
theorem dX12_readStands_19 : decode cX12_readStands 19 = .ok (.aload_n 0, 1) := by decide +kernel
theorem dX12_readStands_20 : decode cX12_readStands 20 = .ok (.getfield 24, 3) := by decide +kernel
theorem dX12_readStands_23 : decode cX12_readStands 23 = .ok (.iconst 2, 1) := by decide +kernel
theorem dX12_readStands_24 : decode cX12_readStands 24 = .ok (.iload_n 1, 1) := by decide +kernel
theorem dX12_readStands_25 : decode cX12_readStands 25 = .ok (.iastore, 1) := by decide +kernel
theorem dX12_readStands_26 : decode cX12_readStands 26 = .ok (.iconst 0, 1) := by decide +kernel
theorem dX12_readStands_27 : decode cX12_readStands 27 = .ok (.istore_n 2, 1) := by decide +kernel
theorem dX12_readStands_28 : decode cX12_readStands 28 = .ok (.iload_n 2, 1) := by decide +kernel
theorem dX12_readStands_29 : decode cX12_readStands 29 = .ok (.iload_n 1, 1) := by decide +kernel
theorem dX12_readStands_30 : decode cX12_readStands 30 = .ok (.if_icmp .ge 23, 3) := by decide +kernel
theorem dX12_readStands_33 : decode cX12_readStands 33 = .ok (.aload_n 0, 1) := by decide +kernel
theorem dX12_readStands_34 : decode cX12_readStands 34 = .ok (.getfield 24, 3) := by decide +kernel
theorem dX12_readStands_37 : decode cX12_readStands 37 = .ok (.iconst 3, 1) := by decide +kernel
theorem dX12_readStands_38 : decode cX12_readStands 38 = .ok (.iload_n 2, 1) := by decide +kernel
theorem dX12_readStands_39 : decode cX12_readStands 39 = .ok (.iadd, 1) := by decide +kernel
theorem dX12_readStands_40 : decode cX12_readStands 40 = .ok (.aload_n 0, 1) := by decide +kernel
theorem dX12_readStands_41 : decode cX12_readStands 41 = .ok (.getfield 30, 3) := by decide +kernel
theorem dX12_readStands_44 : decode cX12_readStands 44 = .ok (.iload_n 2, 1) := by decide +kernel
theorem dX12_readStands_45 : decode cX12_readStands 45 = .ok (.iaload, 1) := by decide +kernel
theorem dX12_readStands_46 : decode cX12_readStands 46 = .ok (.iastore, 1) := by decide +kernel
theorem dX12_readStands_47 : decode cX12_readStands 47 = .ok (.iinc 2 1, 3) := by decide +kernel
theorem dX12_readStands_50 : decode cX12_readStands 50 = .ok (.goto (-22), 3) := by decide +kernel
theorem dX12_readStands_53 : decode cX12_readStands 53 = .ok (.return_, 1) := by decide +kernel
theorem dX12_readRule_0 : decode cX12_readRule 0 = .ok (.aload_n 0, 1) := by decide +kernel
theorem dX12_readRule_1 : decode cX12_readRule 1 = .ok (.invokevirtual 162, 3) := by decide +kernel
theorem dX12_readRule_4 : decode cX12_readRule 4 = .ok (.aload_n 0, 1) := by decide +kernel
theorem dX12_readRule_5 : decode cX12_readRule 5 = .ok (.iconst 0, 1) := by decide +kernel
theorem dX12_readRule_6 : decode cX12_readRule 6 = .ok (.aload_n 0, 1) := by decide +kernel
theorem dX12_readRule_7 : decode cX12_readRule 7 = .ok (.getfield 24, 3) := by decide +kernel
theorem dX12_readRule_10 : decode cX12_readRule 10 = .ok (.iconst 1, 1) := by decide +kernel
theorem dX12_readRule_11 : decode cX12_readRule 11 = .ok (.iaload, 1) := by decide +kernel
theorem dX12_readRule_12 : decode cX12_readRule 12 = .ok (.iconst 1, 1) := by decide +kernel
theorem dX12_readRule_13 : decode cX12_readRule 13 = .ok (.isub, 1) := by decide +kernel
theorem dX12_readRule_14 : decode cX12_readRule 14 = .ok (.invokevirtual 206, 3) := by decide +kernel
theorem dX12_readRule_17 : decode cX12_readRule 17 = .ok (.istore_n 1, 1) := by decide +kernel
theorem dX12_readRule_18 : decode cX12_readRule 18 = .ok (.aload_n 0, 1) := by decide +kernel
theorem dX12_readRule_19 : decode cX12_readRule 19 = .ok (.iconst 1, 1) := by decide +kernel
theorem dX12_readRule_20 : decode cX12_readRule 20 = .ok (.invokevirtual 210, 3) := by decide +kernel
theorem dX12_readRule_23 : decode cX12_readRule 23 = .ok (.pop, 1) := by decide +kernel
theorem dX12_readRule_24 : decode cX12_readRule 24 = .ok (.bipush 15, 2) := by decide +kernel
theorem dX12_readRule_26 : decode cX12_readRule 26 = .ok (.iconst 5, 1) := by decide +kernel
theorem dX12_readRule_27 : decode cX12_readRule 27 = .ok (.bipush 6, 2) := by decide +kernel
theorem dX12_readRule_29 : decode cX12_readRule 29 = .ok (.iload_n 1, 1) := by decide +kernel
theorem dX12_readRule_30 : decode cX12_readRule 30 = .ok (.imul, 1) := by decide +kernel
theorem dX12_readRule_31 : decode cX12_readRule 31 = .ok (.aload_n 0, 1) := by decide +kernel
theorem dX12_readRule_32 : decode cX12_readRule 32 = .ok (.getfield 30, 3) := by decide +kernel
theorem dX12_readRule_35 : decode cX12_readRule 35 = .ok (.iconst 0, 1) := by decide +kernel
theorem dX12_readRule_36 : decode cX12_readRule 36 = .ok (.iaload, 1) := by decide +kernel
theorem dX12_readRule_37 : decode cX12_readRule 37 = .ok (.iadd, 1) := by decide +kernel
theorem dX12_readRule_38 : decode cX12_readRule 38 = .ok (.imul, 1) := by decide +kernel
theorem dX12_readRule_39 : decode cX12_readRule 39 = .ok (.iadd, 1) := by decide +kernel
theorem dX12_readRule_40 : decode cX12_readRule 40 = .ok (.istore_n 2, 1) := by decide +kernel
theorem dX12_readRule_41 : decode cX12_readRule 41 = .ok (.aload_n 0, 1) := by decide +kernel
theorem dX12_readRule_42 : decode cX12_readRule 42 = .ok (.bipush 31, 2) := by decide +kernel
theorem dX12_readRule_44 : decode cX12_readRule 44 = .ok (.invokevirtual 185, 3) := by decide +kernel
theorem dX12_readRule_47 : decode cX12_readRule 47 = .ok (.ifCond .ne 8, 3) := by decide +kernel
theorem dX12_readRule_50 : decode cX12_readRule 50 = .ok (.aload_n 0, 1) := by decide +kernel
theorem dX12_readRule_51 : decode cX12_readRule 51 = .ok (.iconst 2, 1) := by decide +kernel
theorem dX12_readRule_52 : decode cX12_readRule 52 = .ok (.invokevirtual 165, 3) := by decide +kernel
theorem dX12_readRule_55 : decode cX12_readRule 55 = .ok (.iconst 0, 1) := by decide +kernel
theorem dX12_readRule_56 : decode cX12_readRule 56 = .ok (.istore_n 3, 1) := by decide +kernel
theorem dX12_readRule_57 : decode cX12_readRule 57 = .ok (.aload_n 0, 1) := by decide +kernel
theorem dX12_readRule_58 : decode cX12_readRule 58 = .ok (.iconst 5, 1) := by decide +kernel
theorem dX12_readRule_59 : decode cX12_readRule 59 = .ok (.invokevirtual 185, 3) := by decide +kernel
theorem dX12_readRule_62 : decode cX12_readRule 62 = .ok (.ifCond .ne 9, 3) := by decide +kernel
theorem dX12_readRule_65 : decode cX12_readRule 65 = .ok (.aload_n 0, 1) := by decide +kernel
theorem dX12_readRule_66 : decode cX12_readRule 66 = .ok (.iconst 4, 1) := by decide +kernel
theorem dX12_readRule_67 : decode cX12_readRule 67 = .ok (.invokevirtual 210, 3) := by decide +kernel
theorem dX12_readRule_70 : decode cX12_readRule 70 = .ok (.istore_n 3, 1) := by decide +kernel
theorem dX12_readRule_71 : decode cX12_readRule 71 = .ok (.aload_n 0, 1) := by decide +kernel
theorem dX12_readRule_72 : decode cX12_readRule 72 = .ok (.getfield 153, 3) := by decide +kernel
theorem dX12_readRule_75 : decode cX12_readRule 75 = .ok (.ifCond .eq 4, 3) := by decide +kernel
theorem dX12_readRule_78 : decode cX12_readRule 78 = .ok (.return_, 1) := by decide +kernel
theorem dX12_readRule_79 : decode cX12_readRule 79 = .ok (.aload_n 0, 1) := by decide +kernel
theorem dX12_readRule_80 : decode cX12_readRule 80 = .ok (.getfield 24, 3) := by decide +kernel
theorem dX12_readRule_83 : decode cX12_readRule 83 = .ok (.iload_n 2, 1) := by decide +kernel
theorem dX12_readRule_84 : decode cX12_readRule 84 = .ok (.iload_n 3, 1) := by decide +kernel
theorem dX12_readRule_85 : decode cX12_readRule 85 = .ok (.iastore, 1) := by decide +kernel
theorem dX12_readRule_86 : decode cX12_readRule 86 = .ok (.iconst 0, 1) := by decide +kernel
theorem dX12_readRule_87 : decode cX12_readRule 87 = .ok (.istore 4, 2) := by decide +kernel
theorem dX12_readRule_89 : decode cX12_readRule 89 = .ok (.iload 4, 2) := by decide +kernel
theorem dX12_readRule_91 : decode cX12_readRule 91 = .ok (.iload_n 3, 1) := by decide +kernel
theorem dX12_readRule_92 : decode cX12_readRule 92 = .ok (.if_icmp .ge 27, 3) := by decide +kernel
theorem dX12_readRule_95 : decode cX12_readRule 95 = .ok (.aload_n 0, 1) := by decide +kernel
theorem dX12_readRule_96 : decode cX12_readRule 96 = .ok (.getfield 24, 3) := by decide +kernel
theorem dX12_readRule_99 : decode cX12_readRule 99 = .ok (.iload_n 2, 1) := by decide +kernel
theorem dX12_readRule_100 : decode cX12_readRule 100 = .ok (.iconst 1, 1) := by decide +kernel
theorem dX12_readRule_101 : decode cX12_readRule 101 = .ok (.iadd, 1) := by decide +kernel
theorem dX12_readRule_102 : decode cX12_readRule 102 = .ok (.iload 4, 2) := by decide +kernel
theorem dX12_readRule_104 : decode cX12_readRule 104 = .ok (.iadd, 1) := by decide +kernel
theorem dX12_readRule_105 : decode cX12_readRule 105 = .ok (.aload_n 0, 1) := by decide +kernel
theorem dX12_readRule_106 : decode cX12_readRule 106 = .ok (.getfield 30, 3) := by decide +kernel
theorem dX12_readRule_109 : decode cX12_readRule 109 = .ok (.iload 4, 2) := by decide +kernel
theorem dX12_readRule_111 : decode cX12_readRule 111 = .ok (.iaload, 1) := by decide +kernel
theorem dX12_readRule_112 : decode cX12_readRule 112 = .ok (.iastore, 1) := by decide +kernel
theorem dX12_readRule_113 : decode cX12_readRule 113 = .ok (.iinc 4 1, 3) := by decide +kernel
theorem dX12_readRule_116 : decode cX12_readRule 116 = .ok (.goto (-27), 3) := by decide +kernel
theorem dX12_readRule_119 : decode cX12_readRule 119 = .ok (.return_, 1) := by decide +kernel
theorem dX12_readLaw_0 : decode cX12_readLaw 0 = .ok (.aload_n 0, 1) := by decide +kernel
theorem dX12_readLaw_1 : decode cX12_readLaw 1 = .ok (.invokevirtual 162, 3) := by decide +kernel
theorem dX12_readLaw_4 : decode cX12_readLaw 4 = .ok (.aload_n 0, 1) := by decide +kernel
theorem dX12_readLaw_5 : decode cX12_readLaw 5 = .ok (.bipush 31, 2) := by decide +kernel
theorem dX12_readLaw_7 : decode cX12_readLaw 7 = .ok (.invokevirtual 185, 3) := by decide +kernel
theorem dX12_readLaw_10 : decode cX12_readLaw 10 = .ok (.ifCond .ne 8, 3) := by decide +kernel
theorem dX12_readLaw_13 : decode cX12_readLaw 13 = .ok (.aload_n 0, 1) := by decide +kernel
theorem dX12_readLaw_14 : decode cX12_readLaw 14 = .ok (.iconst 2, 1) := by decide +kernel
theorem dX12_readLaw_15 : decode cX12_readLaw 15 = .ok (.invokevirtual 165, 3) := by decide +kernel
theorem dX12_readLaw_18 : decode cX12_readLaw 18 = .ok (.aload_n 0, 1) := by decide +kernel
theorem dX12_readLaw_19 : decode cX12_readLaw 19 = .ok (.getfield 24, 3) := by decide +kernel
theorem dX12_readLaw_22 : decode cX12_readLaw 22 = .ok (.sipush 205, 3) := by decide +kernel
theorem dX12_readLaw_25 : decode cX12_readLaw 25 = .ok (.iaload, 1) := by decide +kernel
theorem dX12_readLaw_26 : decode cX12_readLaw 26 = .ok (.istore_n 2, 1) := by decide +kernel
theorem dX12_readLaw_27 : decode cX12_readLaw 27 = .ok (.iload_n 1, 1) := by decide +kernel
theorem dX12_readLaw_28 : decode cX12_readLaw 28 = .ok (.ifCond .ne 11, 3) := by decide +kernel
theorem dX12_readLaw_31 : decode cX12_readLaw 31 = .ok (.aload_n 0, 1) := by decide +kernel
theorem dX12_readLaw_32 : decode cX12_readLaw 32 = .ok (.iconst 0, 1) := by decide +kernel
theorem dX12_readLaw_33 : decode cX12_readLaw 33 = .ok (.invokevirtual 182, 3) := by decide +kernel
theorem dX12_readLaw_36 : decode cX12_readLaw 36 = .ok (.goto 8, 3) := by decide +kernel
theorem dX12_readLaw_39 : decode cX12_readLaw 39 = .ok (.aload_n 0, 1) := by decide +kernel
theorem dX12_readLaw_40 : decode cX12_readLaw 40 = .ok (.iconst 0, 1) := by decide +kernel
theorem dX12_readLaw_41 : decode cX12_readLaw 41 = .ok (.invokevirtual 191, 3) := by decide +kernel
theorem dX12_readLaw_44 : decode cX12_readLaw 44 = .ok (.aload_n 0, 1) := by decide +kernel
theorem dX12_readLaw_45 : decode cX12_readLaw 45 = .ok (.getfield 153, 3) := by decide +kernel
theorem dX12_readLaw_48 : decode cX12_readLaw 48 = .ok (.ifCond .eq 4, 3) := by decide +kernel
theorem dX12_readLaw_51 : decode cX12_readLaw 51 = .ok (.return_, 1) := by decide +kernel
theorem dX12_readLaw_52 : decode cX12_readLaw 52 = .ok (.aload_n 0, 1) := by decide +kernel
theorem dX12_readLaw_53 : decode cX12_readLaw 53 = .ok (.getfield 24, 3) := by decide +kernel
theorem dX12_readLaw_56 : decode cX12_readLaw 56 = .ok (.bipush 105, 2) := by decide +kernel
theorem dX12_readLaw_58 : decode cX12_readLaw 58 = .ok (.iload_n 1, 1) := by decide +kernel
theorem dX12_readLaw_59 : decode cX12_readLaw 59 = .ok (.iadd, 1) := by decide +kernel
theorem dX12_readLaw_60 : decode cX12_readLaw 60 = .ok (.iconst 1, 1) := by decide +kernel
theorem dX12_readLaw_61 : decode cX12_readLaw 61 = .ok (.iastore, 1) := by decide +kernel
theorem dX12_readLaw_62 : decode cX12_readLaw 62 = .ok (.aload_n 0, 1) := by decide +kernel
theorem dX12_readLaw_63 : decode cX12_readLaw 63 = .ok (.getfield 24, 3) := by decide +kernel
theorem dX12_readLaw_66 : decode cX12_readLaw 66 = .ok (.bipush 107, 2) := by decide +kernel
theorem dX12_readLaw_68 : decode cX12_readLaw 68 = .ok (.iload_n 1, 1) := by decide +kernel
theorem dX12_readLaw_69 : decode cX12_readLaw 69 = .ok (.iadd, 1) := by decide +kernel
theorem dX12_readLaw_70 : decode cX12_readLaw 70 = .ok (.iload_n 2, 1) := by decide +kernel
theorem dX12_readLaw_71 : decode cX12_readLaw 71 = .ok (.iastore, 1) := by decide +kernel
theorem dX12_readLaw_72 : decode cX12_readLaw 72 = .ok (.aload_n 0, 1) := by decide +kernel
theorem dX12_readLaw_73 : decode cX12_readLaw 73 = .ok (.getfield 24, 3) := by decide +kernel
theorem dX12_readLaw_76 : decode cX12_readLaw 76 = .ok (.bipush 109, 2) := by decide +kernel
theorem dX12_readLaw_78 : decode cX12_readLaw 78 = .ok (.iload_n 1, 1) := by decide +kernel
theorem dX12_readLaw_79 : decode cX12_readLaw 79 = .ok (.iadd, 1) := by decide +kernel
theorem dX12_readLaw_80 : decode cX12_readLaw 80 = .ok (.aload_n 0, 1) := by decide +kernel
theorem dX12_readLaw_81 : decode cX12_readLaw 81 = .ok (.getfield 24, 3) := by decide +kernel
theorem dX12_readLaw_84 : decode cX12_readLaw 84 = .ok (.sipush 205, 3) := by decide +kernel
theorem dX12_readLaw_87 : decode cX12_readLaw 87 = .ok (.iaload, 1) := by decide +kernel
theorem dX12_readLaw_88 : decode cX12_readLaw 88 = .ok (.iload_n 2, 1) := by decide +kernel
theorem dX12_readLaw_89 : decode cX12_readLaw 89 = .ok (.isub, 1) := by decide +kernel
theorem dX12_readLaw_90 : decode cX12_readLaw 90 = .ok (.iastore, 1) := by decide +kernel
theorem dX12_readLaw_91 : decode cX12_readLaw 91 = .ok (.return_, 1) := by decide +kernel
theorem dX12_readLine_0 : decode cX12_readLine 0 = .ok (.aload_n 0, 1) := by decide +kernel
theorem dX12_readLine_1 : decode cX12_readLine 1 = .ok (.getfield 153, 3) := by decide +kernel
theorem dX12_readLine_4 : decode cX12_readLine 4 = .ok (.ifCond .eq 4, 3) := by decide +kernel
theorem dX12_readLine_7 : decode cX12_readLine 7 = .ok (.return_, 1) := by decide +kernel
theorem dX12_readLine_8 : decode cX12_readLine 8 = .ok (.aload_n 0, 1) := by decide +kernel
theorem dX12_readLine_9 : decode cX12_readLine 9 = .ok (.iconst 3, 1) := by decide +kernel
theorem dX12_readLine_10 : decode cX12_readLine 10 = .ok (.invokevirtual 159, 3) := by decide +kernel
theorem dX12_readLine_13 : decode cX12_readLine 13 = .ok (.ifCond .eq 10, 3) := by decide +kernel
theorem dX12_readLine_16 : decode cX12_readLine 16 = .ok (.aload_n 0, 1) := by decide +kernel
theorem dX12_readLine_17 : decode cX12_readLine 17 = .ok (.invokevirtual 213, 3) := by decide +kernel
theorem dX12_readLine_20 : decode cX12_readLine 20 = .ok (.goto 55, 3) := by decide +kernel
theorem dX12_readLine_23 : decode cX12_readLine 23 = .ok (.aload_n 0, 1) := by decide +kernel
theorem dX12_readLine_24 : decode cX12_readLine 24 = .ok (.iconst 4, 1) := by decide +kernel
theorem dX12_readLine_25 : decode cX12_readLine 25 = .ok (.invokevirtual 159, 3) := by decide +kernel
theorem dX12_readLine_28 : decode cX12_readLine 28 = .ok (.ifCond .eq 10, 3) := by decide +kernel
theorem dX12_readLine_31 : decode cX12_readLine 31 = .ok (.aload_n 0, 1) := by decide +kernel
theorem dX12_readLine_32 : decode cX12_readLine 32 = .ok (.invokevirtual 216, 3) := by decide +kernel
theorem dX12_readLine_35 : decode cX12_readLine 35 = .ok (.goto 40, 3) := by decide +kernel
theorem dX12_readLine_38 : decode cX12_readLine 38 = .ok (.aload_n 0, 1) := by decide +kernel
theorem dX12_readLine_39 : decode cX12_readLine 39 = .ok (.bipush 6, 2) := by decide +kernel
theorem dX12_readLine_41 : decode cX12_readLine 41 = .ok (.invokevirtual 159, 3) := by decide +kernel
theorem dX12_readLine_44 : decode cX12_readLine 44 = .ok (.ifCond .ne 12, 3) := by decide +kernel
theorem dX12_readLine_47 : decode cX12_readLine 47 = .ok (.aload_n 0, 1) := by decide +kernel
theorem dX12_readLine_48 : decode cX12_readLine 48 = .ok (.bipush 7, 2) := by decide +kernel
theorem dX12_readLine_50 : decode cX12_readLine 50 = .ok (.invokevirtual 159, 3) := by decide +kernel
theorem dX12_readLine_53 : decode cX12_readLine 53 = .ok (.ifCond .eq 17, 3) := by decide +kernel
theorem dX12_readLine_56 : decode cX12_readLine 56 = .ok (.aload_n 0, 1) := by decide +kernel
theorem dX12_readLine_57 : decode cX12_readLine 57 = .ok (.aload_n 0, 1) := by decide +kernel
theorem dX12_readLine_58 : decode cX12_readLine 58 = .ok (.getfield 135, 3) := by decide +kernel
theorem dX12_readLine_61 : decode cX12_readLine 61 = .ok (.bipush 6, 2) := by decide +kernel
theorem dX12_readLine_63 : decode cX12_readLine 63 = .ok (.isub, 1) := by decide +kernel
theorem dX12_readLine_64 : decode cX12_readLine 64 = .ok (.invokevirtual 219, 3) := by decide +kernel
theorem dX12_readLine_67 : decode cX12_readLine 67 = .ok (.goto 8, 3) := by decide +kernel
theorem dX12_readLine_70 : decode cX12_readLine 70 = .ok (.aload_n 0, 1) := by decide +kernel
theorem dX12_readLine_71 : decode cX12_readLine 71 = .ok (.iconst 2, 1) := by decide +kernel
theorem dX12_readLine_72 : decode cX12_readLine 72 = .ok (.invokevirtual 165, 3) := by decide +kernel
theorem dX12_readLine_75 : decode cX12_readLine 75 = .ok (.return_, 1) := by decide +kernel
theorem dX12_closes_0 : decode cX12_closes 0 = .ok (.aload_n 0, 1) := by decide +kernel
theorem dX12_closes_1 : decode cX12_closes 1 = .ok (.bipush 30, 2) := by decide +kernel
theorem dX12_closes_3 : decode cX12_closes 3 = .ok (.invokevirtual 185, 3) := by decide +kernel
theorem dX12_closes_6 : decode cX12_closes 6 = .ok (.ifCond .ne 8, 3) := by decide +kernel
theorem dX12_closes_9 : decode cX12_closes 9 = .ok (.aload_n 0, 1) := by decide +kernel
theorem dX12_closes_10 : decode cX12_closes 10 = .ok (.iconst 2, 1) := by decide +kernel
theorem dX12_closes_11 : decode cX12_closes 11 = .ok (.invokevirtual 165, 3) := by decide +kernel
theorem dX12_closes_14 : decode cX12_closes 14 = .ok (.aload_n 0, 1) := by decide +kernel
theorem dX12_closes_15 : decode cX12_closes 15 = .ok (.getfield 24, 3) := by decide +kernel
theorem dX12_closes_18 : decode cX12_closes 18 = .ok (.iconst 0, 1) := by decide +kernel
theorem dX12_closes_19 : decode cX12_closes 19 = .ok (.dup2, 1) := by decide +kernel
theorem dX12_closes_20 : decode cX12_closes 20 = .ok (.iaload, 1) := by decide +kernel
theorem dX12_closes_21 : decode cX12_closes 21 = .ok (.iconst 1, 1) := by decide +kernel
theorem dX12_closes_22 : decode cX12_closes 22 = .ok (.iadd, 1) := by decide +kernel
theorem dX12_closes_23 : decode cX12_closes 23 = .ok (.iastore, 1) := by decide +kernel
theorem dX12_closes_24 : decode cX12_closes 24 = .ok (.return_, 1) := by decide +kernel
theorem dX12_street_0 : decode cX12_street 0 = .ok (.aload_n 0, 1) := by decide +kernel
theorem dX12_street_1 : decode cX12_street 1 = .ok (.iconst 0, 1) := by decide +kernel
theorem dX12_street_2 : decode cX12_street 2 = .ok (.putfield 1, 3) := by decide +kernel
theorem dX12_street_5 : decode cX12_street 5 = .ok (.iload_n 1, 1) := by decide +kernel
theorem dX12_street_6 : decode cX12_street 6 = .ok (.i2l, 1) := by decide +kernel
theorem dX12_street_7 : decode cX12_street 7 = .ok (.lconst 0, 1) := by decide +kernel
theorem dX12_street_8 : decode cX12_street 8 = .ok (.aload_n 0, 1) := by decide +kernel
theorem dX12_street_9 : decode cX12_street 9 = .ok (.getfield 107, 3) := by decide +kernel
theorem dX12_street_12 : decode cX12_street 12 = .ok (.i2l, 1) := by decide +kernel
theorem dX12_street_13 : decode cX12_street 13 = .ok (.invokestatic 169, 3) := by decide +kernel
theorem dX12_street_16 : decode cX12_street 16 = .ok (.ifCond .ne 6, 3) := by decide +kernel
theorem dX12_street_19 : decode cX12_street 19 = .ok (.bipush (-3), 2) := by decide +kernel
theorem dX12_street_21 : decode cX12_street 21 = .ok (.ireturn, 1) := by decide +kernel
theorem dX12_street_22 : decode cX12_street 22 = .ok (.aload_n 0, 1) := by decide +kernel
theorem dX12_street_23 : decode cX12_street 23 = .ok (.iload_n 1, 1) := by decide +kernel
theorem dX12_street_24 : decode cX12_street 24 = .ok (.putfield 110, 3) := by decide +kernel
theorem dX12_street_27 : decode cX12_street 27 = .ok (.aload_n 0, 1) := by decide +kernel
theorem dX12_street_28 : decode cX12_street 28 = .ok (.iconst 0, 1) := by decide +kernel
theorem dX12_street_29 : decode cX12_street 29 = .ok (.putfield 107, 3) := by decide +kernel
theorem dX12_street_32 : decode cX12_street 32 = .ok (.aload_n 0, 1) := by decide +kernel
theorem dX12_street_33 : decode cX12_street 33 = .ok (.iconst 0, 1) := by decide +kernel
theorem dX12_street_34 : decode cX12_street 34 = .ok (.putfield 128, 3) := by decide +kernel
theorem dX12_street_37 : decode cX12_street 37 = .ok (.aload_n 0, 1) := by decide +kernel
theorem dX12_street_38 : decode cX12_street 38 = .ok (.iconst 0, 1) := by decide +kernel
theorem dX12_street_39 : decode cX12_street 39 = .ok (.putfield 153, 3) := by decide +kernel
theorem dX12_street_42 : decode cX12_street 42 = .ok (.aload_n 0, 1) := by decide +kernel
theorem dX12_street_43 : decode cX12_street 43 = .ok (.getfield 24, 3) := by decide +kernel
theorem dX12_street_46 : decode cX12_street 46 = .ok (.invokestatic 103, 3) := by decide +kernel
theorem dX12_street_49 : decode cX12_street 49 = .ok (.aload_n 0, 1) := by decide +kernel
theorem dX12_street_50 : decode cX12_street 50 = .ok (.invokevirtual 162, 3) := by decide +kernel
theorem dX12_street_53 : decode cX12_street 53 = .ok (.aload_n 0, 1) := by decide +kernel
theorem dX12_street_54 : decode cX12_street 54 = .ok (.iconst 0, 1) := by decide +kernel
theorem dX12_street_55 : decode cX12_street 55 = .ok (.invokevirtual 185, 3) := by decide +kernel
theorem dX12_street_58 : decode cX12_street 58 = .ok (.ifCond .ne 8, 3) := by decide +kernel
theorem dX12_street_61 : decode cX12_street 61 = .ok (.aload_n 0, 1) := by decide +kernel
theorem dX12_street_62 : decode cX12_street 62 = .ok (.iconst 2, 1) := by decide +kernel
theorem dX12_street_63 : decode cX12_street 63 = .ok (.invokevirtual 165, 3) := by decide +kernel
theorem dX12_street_66 : decode cX12_street 66 = .ok (.aload_n 0, 1) := by decide +kernel
theorem dX12_street_67 : decode cX12_street 67 = .ok (.getfield 24, 3) := by decide +kernel
theorem dX12_street_70 : decode cX12_street 70 = .ok (.iconst 1, 1) := by decide +kernel
theorem dX12_street_71 : decode cX12_street 71 = .ok (.aload_n 0, 1) := by decide +kernel
theorem dX12_street_72 : decode cX12_street 72 = .ok (.iconst 1, 1) := by decide +kernel
theorem dX12_street_73 : decode cX12_street 73 = .ok (.iconst 1, 1) := by decide +kernel
theorem dX12_street_74 : decode cX12_street 74 = .ok (.iconst 3, 1) := by decide +kernel
theorem dX12_street_75 : decode cX12_street 75 = .ok (.invokevirtual 222, 3) := by decide +kernel
theorem dX12_street_78 : decode cX12_street 78 = .ok (.iastore, 1) := by decide +kernel
theorem dX12_street_79 : decode cX12_street 79 = .ok (.aload_n 0, 1) := by decide +kernel
theorem dX12_street_80 : decode cX12_street 80 = .ok (.getfield 24, 3) := by decide +kernel
theorem dX12_street_83 : decode cX12_street 83 = .ok (.bipush 111, 2) := by decide +kernel
theorem dX12_street_85 : decode cX12_street 85 = .ok (.aload_n 0, 1) := by decide +kernel
theorem dX12_street_86 : decode cX12_street 86 = .ok (.iconst 2, 1) := by decide +kernel
theorem dX12_street_87 : decode cX12_street 87 = .ok (.iconst 0, 1) := by decide +kernel
theorem dX12_street_88 : decode cX12_street 88 = .ok (.bipush 9, 2) := by decide +kernel
theorem dX12_street_90 : decode cX12_street 90 = .ok (.invokevirtual 222, 3) := by decide +kernel
theorem dX12_street_93 : decode cX12_street 93 = .ok (.iastore, 1) := by decide +kernel
theorem dX12_street_94 : decode cX12_street 94 = .ok (.aload_n 0, 1) := by decide +kernel
theorem dX12_street_95 : decode cX12_street 95 = .ok (.invokevirtual 226, 3) := by decide +kernel
theorem dX12_street_98 : decode cX12_street 98 = .ok (.aload_n 0, 1) := by decide +kernel
theorem dX12_street_99 : decode cX12_street 99 = .ok (.getfield 153, 3) := by decide +kernel
theorem dX12_street_102 : decode cX12_street 102 = .ok (.ifCond .ne 23, 3) := by decide +kernel
theorem dX12_street_105 : decode cX12_street 105 = .ok (.aload_n 0, 1) := by decide +kernel
theorem dX12_street_106 : decode cX12_street 106 = .ok (.getfield 135, 3) := by decide +kernel
theorem dX12_street_109 : decode cX12_street 109 = .ok (.bipush 24, 2) := by decide +kernel
theorem dX12_street_111 : decode cX12_street 111 = .ok (.if_icmp .eq 14, 3) := by decide +kernel
theorem dX12_street_114 : decode cX12_street 114 = .ok (.aload_n 0, 1) := by decide +kernel
theorem dX12_street_115 : decode cX12_street 115 = .ok (.invokevirtual 229, 3) := by decide +kernel
theorem dX12_street_118 : decode cX12_street 118 = .ok (.aload_n 0, 1) := by decide +kernel
theorem dX12_street_119 : decode cX12_street 119 = .ok (.invokevirtual 226, 3) := by decide +kernel
theorem dX12_street_122 : decode cX12_street 122 = .ok (.goto (-24), 3) := by decide +kernel
theorem dX12_street_125 : decode cX12_street 125 = .ok (.aload_n 0, 1) := by decide +kernel
theorem dX12_street_126 : decode cX12_street 126 = .ok (.aload_n 0, 1) := by decide +kernel
theorem dX12_street_127 : decode cX12_street 127 = .ok (.getfield 153, 3) := by decide +kernel
theorem dX12_street_130 : decode cX12_street 130 = .ok (.putfield 232, 3) := by decide +kernel
theorem dX12_street_133 : decode cX12_street 133 = .ok (.aload_n 0, 1) := by decide +kernel
theorem dX12_street_134 : decode cX12_street 134 = .ok (.aload_n 0, 1) := by decide +kernel
theorem dX12_street_135 : decode cX12_street 135 = .ok (.getfield 153, 3) := by decide +kernel
theorem dX12_street_138 : decode cX12_street 138 = .ok (.ifCond .ne 7, 3) := by decide +kernel
theorem dX12_street_141 : decode cX12_street 141 = .ok (.iconst (-1), 1) := by decide +kernel
theorem dX12_street_142 : decode cX12_street 142 = .ok (.goto 7, 3) := by decide +kernel
theorem dX12_street_145 : decode cX12_street 145 = .ok (.aload_n 0, 1) := by decide +kernel
theorem dX12_street_146 : decode cX12_street 146 = .ok (.getfield 156, 3) := by decide +kernel
theorem dX12_street_149 : decode cX12_street 149 = .ok (.putfield 27, 3) := by decide +kernel
theorem dX12_street_152 : decode cX12_street 152 = .ok (.aload_n 0, 1) := by decide +kernel
theorem dX12_street_153 : decode cX12_street 153 = .ok (.getfield 153, 3) := by decide +kernel
theorem dX12_street_156 : decode cX12_street 156 = .ok (.ifCond .eq 11, 3) := by decide +kernel
theorem dX12_street_159 : decode cX12_street 159 = .ok (.bipush (-30), 2) := by decide +kernel
theorem dX12_street_161 : decode cX12_street 161 = .ok (.aload_n 0, 1) := by decide +kernel
theorem dX12_street_162 : decode cX12_street 162 = .ok (.getfield 153, 3) := by decide +kernel
theorem dX12_street_165 : decode cX12_street 165 = .ok (.isub, 1) := by decide +kernel
theorem dX12_street_166 : decode cX12_street 166 = .ok (.ireturn, 1) := by decide +kernel
theorem dX12_street_167 : decode cX12_street 167 = .ok (.iconst 0, 1) := by decide +kernel
theorem dX12_street_168 : decode cX12_street 168 = .ok (.istore_n 2, 1) := by decide +kernel
theorem dX12_street_169 : decode cX12_street 169 = .ok (.iload_n 2, 1) := by decide +kernel
theorem dX12_street_170 : decode cX12_street 170 = .ok (.sipush 1106, 3) := by decide +kernel
theorem dX12_street_173 : decode cX12_street 173 = .ok (.if_icmp .ge 21, 3) := by decide +kernel
theorem dX12_street_176 : decode cX12_street 176 = .ok (.aload_n 0, 1) := by decide +kernel
theorem dX12_street_177 : decode cX12_street 177 = .ok (.getfield 13, 3) := by decide +kernel
theorem dX12_street_180 : decode cX12_street 180 = .ok (.iload_n 2, 1) := by decide +kernel
theorem dX12_street_181 : decode cX12_street 181 = .ok (.aload_n 0, 1) := by decide +kernel
theorem dX12_street_182 : decode cX12_street 182 = .ok (.getfield 24, 3) := by decide +kernel
theorem dX12_street_185 : decode cX12_street 185 = .ok (.iload_n 2, 1) := by decide +kernel
theorem dX12_street_186 : decode cX12_street 186 = .ok (.iaload, 1) := by decide +kernel
theorem dX12_street_187 : decode cX12_street 187 = .ok (.iastore, 1) := by decide +kernel
theorem dX12_street_188 : decode cX12_street 188 = .ok (.iinc 2 1, 3) := by decide +kernel
theorem dX12_street_191 : decode cX12_street 191 = .ok (.goto (-22), 3) := by decide +kernel
theorem dX12_street_194 : decode cX12_street 194 = .ok (.aload_n 0, 1) := by decide +kernel
theorem dX12_street_195 : decode cX12_street 195 = .ok (.getfield 13, 3) := by decide +kernel
theorem dX12_street_198 : decode cX12_street 198 = .ok (.iconst 0, 1) := by decide +kernel
theorem dX12_street_199 : decode cX12_street 199 = .ok (.iaload, 1) := by decide +kernel
theorem dX12_street_200 : decode cX12_street 200 = .ok (.ireturn, 1) := by decide +kernel
theorem dX12_fault_0 : decode cX12_fault 0 = .ok (.aload_n 0, 1) := by decide +kernel
theorem dX12_fault_1 : decode cX12_fault 1 = .ok (.iconst 0, 1) := by decide +kernel
theorem dX12_fault_2 : decode cX12_fault 2 = .ok (.putfield 1, 3) := by decide +kernel
theorem dX12_fault_5 : decode cX12_fault 5 = .ok (.iload_n 1, 1) := by decide +kernel
theorem dX12_fault_6 : decode cX12_fault 6 = .ok (.ifCond .ne 10, 3) := by decide +kernel
theorem dX12_fault_9 : decode cX12_fault 9 = .ok (.aload_n 0, 1) := by decide +kernel
theorem dX12_fault_10 : decode cX12_fault 10 = .ok (.getfield 232, 3) := by decide +kernel
theorem dX12_fault_13 : decode cX12_fault 13 = .ok (.goto 16, 3) := by decide +kernel
theorem dX12_fault_16 : decode cX12_fault 16 = .ok (.iload_n 1, 1) := by decide +kernel
theorem dX12_fault_17 : decode cX12_fault 17 = .ok (.iconst 1, 1) := by decide +kernel
theorem dX12_fault_18 : decode cX12_fault 18 = .ok (.if_icmp .ne 10, 3) := by decide +kernel
theorem dX12_fault_21 : decode cX12_fault 21 = .ok (.aload_n 0, 1) := by decide +kernel
theorem dX12_fault_22 : decode cX12_fault 22 = .ok (.getfield 27, 3) := by decide +kernel
theorem dX12_fault_25 : decode cX12_fault 25 = .ok (.goto 4, 3) := by decide +kernel
theorem dX12_fault_28 : decode cX12_fault 28 = .ok (.iconst (-1), 1) := by decide +kernel
theorem dX12_fault_29 : decode cX12_fault 29 = .ok (.ireturn, 1) := by decide +kernel
theorem dX12_isLetter_0 : decode cX12_isLetter 0 = .ok (.lload_n 0, 1) := by decide +kernel
theorem dX12_isLetter_1 : decode cX12_isLetter 1 = .ok (.lconst 0, 1) := by decide +kernel
theorem dX12_isLetter_2 : decode cX12_isLetter 2 = .ok (.ldc2_w 235, 3) := by decide +kernel
theorem dX12_isLetter_5 : decode cX12_isLetter 5 = .ok (.invokestatic 169, 3) := by decide +kernel
theorem dX12_isLetter_8 : decode cX12_isLetter 8 = .ok (.ireturn, 1) := by decide +kernel
theorem dX12_isTable_0 : decode cX12_isTable 0 = .ok (.iload_n 1, 1) := by decide +kernel
theorem dX12_isTable_1 : decode cX12_isTable 1 = .ok (.i2l, 1) := by decide +kernel
theorem dX12_isTable_2 : decode cX12_isTable 2 = .ok (.lconst 0, 1) := by decide +kernel
theorem dX12_isTable_3 : decode cX12_isTable 3 = .ok (.aload_n 0, 1) := by decide +kernel
theorem dX12_isTable_4 : decode cX12_isTable 4 = .ok (.getfield 13, 3) := by decide +kernel
theorem dX12_isTable_7 : decode cX12_isTable 7 = .ok (.iconst 1, 1) := by decide +kernel
theorem dX12_isTable_8 : decode cX12_isTable 8 = .ok (.iaload, 1) := by decide +kernel
theorem dX12_isTable_9 : decode cX12_isTable 9 = .ok (.iconst 1, 1) := by decide +kernel
theorem dX12_isTable_10 : decode cX12_isTable 10 = .ok (.isub, 1) := by decide +kernel
theorem dX12_isTable_11 : decode cX12_isTable 11 = .ok (.i2l, 1) := by decide +kernel
theorem dX12_isTable_12 : decode cX12_isTable 12 = .ok (.invokestatic 169, 3) := by decide +kernel
theorem dX12_isTable_15 : decode cX12_isTable 15 = .ok (.ireturn, 1) := by decide +kernel
theorem dX12_becomeMany_0 : decode cX12_becomeMany 0 = .ok (.aload_n 0, 1) := by decide +kernel
theorem dX12_becomeMany_1 : decode cX12_becomeMany 1 = .ok (.getfield 13, 3) := by decide +kernel
theorem dX12_becomeMany_4 : decode cX12_becomeMany 4 = .ok (.bipush 15, 2) := by decide +kernel
theorem dX12_becomeMany_6 : decode cX12_becomeMany 6 = .ok (.iconst 5, 1) := by decide +kernel
theorem dX12_becomeMany_7 : decode cX12_becomeMany 7 = .ok (.bipush 6, 2) := by decide +kernel
theorem dX12_becomeMany_9 : decode cX12_becomeMany 9 = .ok (.iload_n 1, 1) := by decide +kernel
theorem dX12_becomeMany_10 : decode cX12_becomeMany 10 = .ok (.imul, 1) := by decide +kernel
theorem dX12_becomeMany_11 : decode cX12_becomeMany 11 = .ok (.iload_n 2, 1) := by decide +kernel
theorem dX12_becomeMany_12 : decode cX12_becomeMany 12 = .ok (.iadd, 1) := by decide +kernel
theorem dX12_becomeMany_13 : decode cX12_becomeMany 13 = .ok (.imul, 1) := by decide +kernel
theorem dX12_becomeMany_14 : decode cX12_becomeMany 14 = .ok (.iadd, 1) := by decide +kernel
theorem dX12_becomeMany_15 : decode cX12_becomeMany 15 = .ok (.iaload, 1) := by decide +kernel
theorem dX12_becomeMany_16 : decode cX12_becomeMany 16 = .ok (.ireturn, 1) := by decide +kernel
theorem dX12_becomeOf_0 : decode cX12_becomeOf 0 = .ok (.aload_n 0, 1) := by decide +kernel
theorem dX12_becomeOf_1 : decode cX12_becomeOf 1 = .ok (.getfield 13, 3) := by decide +kernel
theorem dX12_becomeOf_4 : decode cX12_becomeOf 4 = .ok (.bipush 15, 2) := by decide +kernel
theorem dX12_becomeOf_6 : decode cX12_becomeOf 6 = .ok (.iconst 5, 1) := by decide +kernel
theorem dX12_becomeOf_7 : decode cX12_becomeOf 7 = .ok (.bipush 6, 2) := by decide +kernel
theorem dX12_becomeOf_9 : decode cX12_becomeOf 9 = .ok (.iload_n 1, 1) := by decide +kernel
theorem dX12_becomeOf_10 : decode cX12_becomeOf 10 = .ok (.imul, 1) := by decide +kernel
theorem dX12_becomeOf_11 : decode cX12_becomeOf 11 = .ok (.iload_n 2, 1) := by decide +kernel
theorem dX12_becomeOf_12 : decode cX12_becomeOf 12 = .ok (.iadd, 1) := by decide +kernel
theorem dX12_becomeOf_13 : decode cX12_becomeOf 13 = .ok (.imul, 1) := by decide +kernel
theorem dX12_becomeOf_14 : decode cX12_becomeOf 14 = .ok (.iadd, 1) := by decide +kernel
theorem dX12_becomeOf_15 : decode cX12_becomeOf 15 = .ok (.iconst 1, 1) := by decide +kernel
theorem dX12_becomeOf_16 : decode cX12_becomeOf 16 = .ok (.iadd, 1) := by decide +kernel
theorem dX12_becomeOf_17 : decode cX12_becomeOf 17 = .ok (.iload_n 3, 1) := by decide +kernel
theorem dX12_becomeOf_18 : decode cX12_becomeOf 18 = .ok (.iadd, 1) := by decide +kernel
theorem dX12_becomeOf_19 : decode cX12_becomeOf 19 = .ok (.iaload, 1) := by decide +kernel
theorem dX12_becomeOf_20 : decode cX12_becomeOf 20 = .ok (.ireturn, 1) := by decide +kernel
theorem dX12_plus_0 : decode cX12_plus 0 = .ok (.lload_n 0, 1) := by decide +kernel
theorem dX12_plus_1 : decode cX12_plus 1 = .ok (.ldc2_w 237, 3) := by decide +kernel
theorem dX12_plus_4 : decode cX12_plus 4 = .ok (.lload_n 2, 1) := by decide +kernel
theorem dX12_plus_5 : decode cX12_plus 5 = .ok (.lsub, 1) := by decide +kernel
theorem dX12_plus_6 : decode cX12_plus 6 = .ok (.lcmp, 1) := by decide +kernel
theorem dX12_plus_7 : decode cX12_plus 7 = .ok (.ifCond .le 9, 3) := by decide +kernel
theorem dX12_plus_10 : decode cX12_plus 10 = .ok (.ldc2_w 237, 3) := by decide +kernel
theorem dX12_plus_13 : decode cX12_plus 13 = .ok (.goto 6, 3) := by decide +kernel
theorem dX12_plus_16 : decode cX12_plus 16 = .ok (.lload_n 0, 1) := by decide +kernel
theorem dX12_plus_17 : decode cX12_plus 17 = .ok (.lload_n 2, 1) := by decide +kernel
theorem dX12_plus_18 : decode cX12_plus 18 = .ok (.ladd, 1) := by decide +kernel
theorem dX12_plus_19 : decode cX12_plus 19 = .ok (.lreturn, 1) := by decide +kernel
theorem dX12_laysBack_0 : decode cX12_laysBack 0 = .ok (.aload_n 0, 1) := by decide +kernel
theorem dX12_laysBack_1 : decode cX12_laysBack 1 = .ok (.getfield 13, 3) := by decide +kernel
theorem dX12_laysBack_4 : decode cX12_laysBack 4 = .ok (.bipush 113, 2) := by decide +kernel
theorem dX12_laysBack_6 : decode cX12_laysBack 6 = .ok (.iaload, 1) := by decide +kernel
theorem dX12_laysBack_7 : decode cX12_laysBack 7 = .ok (.iconst 1, 1) := by decide +kernel
theorem dX12_laysBack_8 : decode cX12_laysBack 8 = .ok (.isub, 1) := by decide +kernel
theorem dX12_laysBack_9 : decode cX12_laysBack 9 = .ok (.istore_n 2, 1) := by decide +kernel
theorem dX12_laysBack_10 : decode cX12_laysBack 10 = .ok (.iload_n 2, 1) := by decide +kernel
theorem dX12_laysBack_11 : decode cX12_laysBack 11 = .ok (.ifCond .lt 96, 3) := by decide +kernel
theorem dX12_laysBack_14 : decode cX12_laysBack 14 = .ok (.aload_n 0, 1) := by decide +kernel
theorem dX12_laysBack_15 : decode cX12_laysBack 15 = .ok (.getfield 13, 3) := by decide +kernel
theorem dX12_laysBack_18 : decode cX12_laysBack 18 = .ok (.sipush 145, 3) := by decide +kernel
theorem dX12_laysBack_21 : decode cX12_laysBack 21 = .ok (.iload_n 2, 1) := by decide +kernel
theorem dX12_laysBack_22 : decode cX12_laysBack 22 = .ok (.iadd, 1) := by decide +kernel
theorem dX12_laysBack_23 : decode cX12_laysBack 23 = .ok (.iaload, 1) := by decide +kernel
theorem dX12_laysBack_24 : decode cX12_laysBack 24 = .ok (.istore_n 3, 1) := by decide +kernel
theorem dX12_laysBack_25 : decode cX12_laysBack 25 = .ok (.iconst 0, 1) := by decide +kernel
theorem dX12_laysBack_26 : decode cX12_laysBack 26 = .ok (.istore 4, 2) := by decide +kernel
theorem dX12_laysBack_28 : decode cX12_laysBack 28 = .ok (.iload 4, 2) := by decide +kernel
theorem dX12_laysBack_30 : decode cX12_laysBack 30 = .ok (.bipush 6, 2) := by decide +kernel
theorem dX12_laysBack_32 : decode cX12_laysBack 32 = .ok (.if_icmp .ge 69, 3) := by decide +kernel
theorem dX12_laysBack_35 : decode cX12_laysBack 35 = .ok (.lconst 0, 1) := by decide +kernel
theorem dX12_laysBack_36 : decode cX12_laysBack 36 = .ok (.lstore 5, 2) := by decide +kernel
theorem dX12_laysBack_38 : decode cX12_laysBack 38 = .ok (.iconst 0, 1) := by decide +kernel
theorem dX12_laysBack_39 : decode cX12_laysBack 39 = .ok (.istore 7, 2) := by decide +kernel
theorem dX12_laysBack_41 : decode cX12_laysBack 41 = .ok (.iload 7, 2) := by decide +kernel
theorem dX12_laysBack_43 : decode cX12_laysBack 43 = .ok (.aload_n 0, 1) := by decide +kernel
theorem dX12_laysBack_44 : decode cX12_laysBack 44 = .ok (.iload_n 3, 1) := by decide +kernel
theorem dX12_laysBack_45 : decode cX12_laysBack 45 = .ok (.iload 4, 2) := by decide +kernel
theorem dX12_laysBack_47 : decode cX12_laysBack 47 = .ok (.invokevirtual 239, 3) := by decide +kernel
theorem dX12_laysBack_50 : decode cX12_laysBack 50 = .ok (.if_icmp .ge 34, 3) := by decide +kernel
theorem dX12_laysBack_53 : decode cX12_laysBack 53 = .ok (.lload 5, 2) := by decide +kernel
theorem dX12_laysBack_55 : decode cX12_laysBack 55 = .ok (.aload_n 1, 1) := by decide +kernel
theorem dX12_laysBack_56 : decode cX12_laysBack 56 = .ok (.bipush 6, 2) := by decide +kernel
theorem dX12_laysBack_58 : decode cX12_laysBack 58 = .ok (.iload_n 2, 1) := by decide +kernel
theorem dX12_laysBack_59 : decode cX12_laysBack 59 = .ok (.iconst 1, 1) := by decide +kernel
theorem dX12_laysBack_60 : decode cX12_laysBack 60 = .ok (.iadd, 1) := by decide +kernel
theorem dX12_laysBack_61 : decode cX12_laysBack 61 = .ok (.imul, 1) := by decide +kernel
theorem dX12_laysBack_62 : decode cX12_laysBack 62 = .ok (.aload_n 0, 1) := by decide +kernel
theorem dX12_laysBack_63 : decode cX12_laysBack 63 = .ok (.iload_n 3, 1) := by decide +kernel
theorem dX12_laysBack_64 : decode cX12_laysBack 64 = .ok (.iload 4, 2) := by decide +kernel
theorem dX12_laysBack_66 : decode cX12_laysBack 66 = .ok (.iload 7, 2) := by decide +kernel
theorem dX12_laysBack_68 : decode cX12_laysBack 68 = .ok (.invokevirtual 242, 3) := by decide +kernel
theorem dX12_laysBack_71 : decode cX12_laysBack 71 = .ok (.iadd, 1) := by decide +kernel
theorem dX12_laysBack_72 : decode cX12_laysBack 72 = .ok (.laload, 1) := by decide +kernel
theorem dX12_laysBack_73 : decode cX12_laysBack 73 = .ok (.invokestatic 245, 3) := by decide +kernel
theorem dX12_laysBack_76 : decode cX12_laysBack 76 = .ok (.lstore 5, 2) := by decide +kernel
theorem dX12_laysBack_78 : decode cX12_laysBack 78 = .ok (.iinc 7 1, 3) := by decide +kernel
theorem dX12_laysBack_81 : decode cX12_laysBack 81 = .ok (.goto (-40), 3) := by decide +kernel
theorem dX12_laysBack_84 : decode cX12_laysBack 84 = .ok (.aload_n 1, 1) := by decide +kernel
theorem dX12_laysBack_85 : decode cX12_laysBack 85 = .ok (.bipush 6, 2) := by decide +kernel
theorem dX12_laysBack_87 : decode cX12_laysBack 87 = .ok (.iload_n 2, 1) := by decide +kernel
theorem dX12_laysBack_88 : decode cX12_laysBack 88 = .ok (.imul, 1) := by decide +kernel
theorem dX12_laysBack_89 : decode cX12_laysBack 89 = .ok (.iload 4, 2) := by decide +kernel
theorem dX12_laysBack_91 : decode cX12_laysBack 91 = .ok (.iadd, 1) := by decide +kernel
theorem dX12_laysBack_92 : decode cX12_laysBack 92 = .ok (.lload 5, 2) := by decide +kernel
theorem dX12_laysBack_94 : decode cX12_laysBack 94 = .ok (.lastore, 1) := by decide +kernel
theorem dX12_laysBack_95 : decode cX12_laysBack 95 = .ok (.iinc 4 1, 3) := by decide +kernel
theorem dX12_laysBack_98 : decode cX12_laysBack 98 = .ok (.goto (-70), 3) := by decide +kernel
theorem dX12_laysBack_101 : decode cX12_laysBack 101 = .ok (.iinc 2 (-1), 3) := by decide +kernel
theorem dX12_laysBack_104 : decode cX12_laysBack 104 = .ok (.goto (-94), 3) := by decide +kernel
theorem dX12_laysBack_107 : decode cX12_laysBack 107 = .ok (.return_, 1) := by decide +kernel
theorem dX12_laysLong_0 : decode cX12_laysLong 0 = .ok (.iconst 0, 1) := by decide +kernel
theorem dX12_laysLong_1 : decode cX12_laysLong 1 = .ok (.istore_n 1, 1) := by decide +kernel
theorem dX12_laysLong_2 : decode cX12_laysLong 2 = .ok (.iload_n 1, 1) := by decide +kernel
theorem dX12_laysLong_3 : decode cX12_laysLong 3 = .ok (.bipush 6, 2) := by decide +kernel
theorem dX12_laysLong_5 : decode cX12_laysLong 5 = .ok (.if_icmp .ge 27, 3) := by decide +kernel
theorem dX12_laysLong_8 : decode cX12_laysLong 8 = .ok (.aload_n 0, 1) := by decide +kernel
theorem dX12_laysLong_9 : decode cX12_laysLong 9 = .ok (.getfield 33, 3) := by decide +kernel
theorem dX12_laysLong_12 : decode cX12_laysLong 12 = .ok (.bipush 6, 2) := by decide +kernel
theorem dX12_laysLong_14 : decode cX12_laysLong 14 = .ok (.aload_n 0, 1) := by decide +kernel
theorem dX12_laysLong_15 : decode cX12_laysLong 15 = .ok (.getfield 13, 3) := by decide +kernel
theorem dX12_laysLong_18 : decode cX12_laysLong 18 = .ok (.bipush 113, 2) := by decide +kernel
theorem dX12_laysLong_20 : decode cX12_laysLong 20 = .ok (.iaload, 1) := by decide +kernel
theorem dX12_laysLong_21 : decode cX12_laysLong 21 = .ok (.imul, 1) := by decide +kernel
theorem dX12_laysLong_22 : decode cX12_laysLong 22 = .ok (.iload_n 1, 1) := by decide +kernel
theorem dX12_laysLong_23 : decode cX12_laysLong 23 = .ok (.iadd, 1) := by decide +kernel
theorem dX12_laysLong_24 : decode cX12_laysLong 24 = .ok (.lconst 1, 1) := by decide +kernel
theorem dX12_laysLong_25 : decode cX12_laysLong 25 = .ok (.lastore, 1) := by decide +kernel
theorem dX12_laysLong_26 : decode cX12_laysLong 26 = .ok (.iinc 1 1, 3) := by decide +kernel
theorem dX12_laysLong_29 : decode cX12_laysLong 29 = .ok (.goto (-27), 3) := by decide +kernel
theorem dX12_laysLong_32 : decode cX12_laysLong 32 = .ok (.aload_n 0, 1) := by decide +kernel
theorem dX12_laysLong_33 : decode cX12_laysLong 33 = .ok (.aload_n 0, 1) := by decide +kernel
theorem dX12_laysLong_34 : decode cX12_laysLong 34 = .ok (.getfield 33, 3) := by decide +kernel
theorem dX12_laysLong_37 : decode cX12_laysLong 37 = .ok (.invokevirtual 249, 3) := by decide +kernel
theorem dX12_laysLong_40 : decode cX12_laysLong 40 = .ok (.return_, 1) := by decide +kernel
theorem dX12_laysOf_0 : decode cX12_laysOf 0 = .ok (.iconst 0, 1) := by decide +kernel
theorem dX12_laysOf_1 : decode cX12_laysOf 1 = .ok (.istore_n 2, 1) := by decide +kernel
theorem dX12_laysOf_2 : decode cX12_laysOf 2 = .ok (.iload_n 2, 1) := by decide +kernel
theorem dX12_laysOf_3 : decode cX12_laysOf 3 = .ok (.bipush 6, 2) := by decide +kernel
theorem dX12_laysOf_5 : decode cX12_laysOf 5 = .ok (.if_icmp .ge 36, 3) := by decide +kernel
theorem dX12_laysOf_8 : decode cX12_laysOf 8 = .ok (.aload_n 0, 1) := by decide +kernel
theorem dX12_laysOf_9 : decode cX12_laysOf 9 = .ok (.getfield 37, 3) := by decide +kernel
theorem dX12_laysOf_12 : decode cX12_laysOf 12 = .ok (.bipush 6, 2) := by decide +kernel
theorem dX12_laysOf_14 : decode cX12_laysOf 14 = .ok (.aload_n 0, 1) := by decide +kernel
theorem dX12_laysOf_15 : decode cX12_laysOf 15 = .ok (.getfield 13, 3) := by decide +kernel
theorem dX12_laysOf_18 : decode cX12_laysOf 18 = .ok (.bipush 113, 2) := by decide +kernel
theorem dX12_laysOf_20 : decode cX12_laysOf 20 = .ok (.iaload, 1) := by decide +kernel
theorem dX12_laysOf_21 : decode cX12_laysOf 21 = .ok (.imul, 1) := by decide +kernel
theorem dX12_laysOf_22 : decode cX12_laysOf 22 = .ok (.iload_n 2, 1) := by decide +kernel
theorem dX12_laysOf_23 : decode cX12_laysOf 23 = .ok (.iadd, 1) := by decide +kernel
theorem dX12_laysOf_24 : decode cX12_laysOf 24 = .ok (.iload_n 2, 1) := by decide +kernel
theorem dX12_laysOf_25 : decode cX12_laysOf 25 = .ok (.iload_n 1, 1) := by decide +kernel
theorem dX12_laysOf_26 : decode cX12_laysOf 26 = .ok (.if_icmp .ne 7, 3) := by decide +kernel
theorem dX12_laysOf_29 : decode cX12_laysOf 29 = .ok (.lconst 1, 1) := by decide +kernel
theorem dX12_laysOf_30 : decode cX12_laysOf 30 = .ok (.goto 4, 3) := by decide +kernel
theorem dX12_laysOf_33 : decode cX12_laysOf 33 = .ok (.lconst 0, 1) := by decide +kernel
theorem dX12_laysOf_34 : decode cX12_laysOf 34 = .ok (.lastore, 1) := by decide +kernel
theorem dX12_laysOf_35 : decode cX12_laysOf 35 = .ok (.iinc 2 1, 3) := by decide +kernel
theorem dX12_laysOf_38 : decode cX12_laysOf 38 = .ok (.goto (-36), 3) := by decide +kernel
theorem dX12_laysOf_41 : decode cX12_laysOf 41 = .ok (.aload_n 0, 1) := by decide +kernel
theorem dX12_laysOf_42 : decode cX12_laysOf 42 = .ok (.aload_n 0, 1) := by decide +kernel
theorem dX12_laysOf_43 : decode cX12_laysOf 43 = .ok (.getfield 37, 3) := by decide +kernel
theorem dX12_laysOf_46 : decode cX12_laysOf 46 = .ok (.invokevirtual 249, 3) := by decide +kernel
theorem dX12_laysOf_49 : decode cX12_laysOf 49 = .ok (.return_, 1) := by decide +kernel
theorem dX12_sumOf_0 : decode cX12_sumOf 0 = .ok (.lconst 0, 1) := by decide +kernel
theorem dX12_sumOf_1 : decode cX12_sumOf 1 = .ok (.lstore_n 2, 1) := by decide +kernel
theorem dX12_sumOf_2 : decode cX12_sumOf 2 = .ok (.iconst 0, 1) := by decide +kernel
theorem dX12_sumOf_3 : decode cX12_sumOf 3 = .ok (.istore 4, 2) := by decide +kernel
theorem dX12_sumOf_5 : decode cX12_sumOf 5 = .ok (.iload 4, 2) := by decide +kernel
theorem dX12_sumOf_7 : decode cX12_sumOf 7 = .ok (.aload_n 0, 1) := by decide +kernel
theorem dX12_sumOf_8 : decode cX12_sumOf 8 = .ok (.getfield 13, 3) := by decide +kernel
theorem dX12_sumOf_11 : decode cX12_sumOf 11 = .ok (.iconst 2, 1) := by decide +kernel
theorem dX12_sumOf_12 : decode cX12_sumOf 12 = .ok (.iaload, 1) := by decide +kernel
theorem dX12_sumOf_13 : decode cX12_sumOf 13 = .ok (.if_icmp .ge 23, 3) := by decide +kernel
theorem dX12_sumOf_16 : decode cX12_sumOf 16 = .ok (.lload_n 2, 1) := by decide +kernel
theorem dX12_sumOf_17 : decode cX12_sumOf 17 = .ok (.aload_n 1, 1) := by decide +kernel
theorem dX12_sumOf_18 : decode cX12_sumOf 18 = .ok (.aload_n 0, 1) := by decide +kernel
theorem dX12_sumOf_19 : decode cX12_sumOf 19 = .ok (.getfield 13, 3) := by decide +kernel
theorem dX12_sumOf_22 : decode cX12_sumOf 22 = .ok (.iconst 3, 1) := by decide +kernel
theorem dX12_sumOf_23 : decode cX12_sumOf 23 = .ok (.iload 4, 2) := by decide +kernel
theorem dX12_sumOf_25 : decode cX12_sumOf 25 = .ok (.iadd, 1) := by decide +kernel
theorem dX12_sumOf_26 : decode cX12_sumOf 26 = .ok (.iaload, 1) := by decide +kernel
theorem dX12_sumOf_27 : decode cX12_sumOf 27 = .ok (.laload, 1) := by decide +kernel
theorem dX12_sumOf_28 : decode cX12_sumOf 28 = .ok (.ladd, 1) := by decide +kernel
theorem dX12_sumOf_29 : decode cX12_sumOf 29 = .ok (.lstore_n 2, 1) := by decide +kernel
theorem dX12_sumOf_30 : decode cX12_sumOf 30 = .ok (.iinc 4 1, 3) := by decide +kernel
theorem dX12_sumOf_33 : decode cX12_sumOf 33 = .ok (.goto (-28), 3) := by decide +kernel
theorem dX12_sumOf_36 : decode cX12_sumOf 36 = .ok (.lload_n 2, 1) := by decide +kernel
theorem dX12_sumOf_37 : decode cX12_sumOf 37 = .ok (.lreturn, 1) := by decide +kernel
theorem dX12_lengthNow_0 : decode cX12_lengthNow 0 = .ok (.aload_n 0, 1) := by decide +kernel
theorem dX12_lengthNow_1 : decode cX12_lengthNow 1 = .ok (.invokevirtual 253, 3) := by decide +kernel
theorem dX12_lengthNow_4 : decode cX12_lengthNow 4 = .ok (.aload_n 0, 1) := by decide +kernel
theorem dX12_lengthNow_5 : decode cX12_lengthNow 5 = .ok (.aload_n 0, 1) := by decide +kernel
theorem dX12_lengthNow_6 : decode cX12_lengthNow 6 = .ok (.getfield 33, 3) := by decide +kernel
theorem dX12_lengthNow_9 : decode cX12_lengthNow 9 = .ok (.invokevirtual 256, 3) := by decide +kernel
theorem dX12_lengthNow_12 : decode cX12_lengthNow 12 = .ok (.lreturn, 1) := by decide +kernel
theorem dX12_partOf_0 : decode cX12_partOf 0 = .ok (.iload_n 1, 1) := by decide +kernel
theorem dX12_partOf_1 : decode cX12_partOf 1 = .ok (.ifCond .ge 26, 3) := by decide +kernel
theorem dX12_partOf_4 : decode cX12_partOf 4 = .ok (.iload_n 3, 1) := by decide +kernel
theorem dX12_partOf_5 : decode cX12_partOf 5 = .ok (.aload_n 0, 1) := by decide +kernel
theorem dX12_partOf_6 : decode cX12_partOf 6 = .ok (.getfield 13, 3) := by decide +kernel
theorem dX12_partOf_9 : decode cX12_partOf 9 = .ok (.iconst 2, 1) := by decide +kernel
theorem dX12_partOf_10 : decode cX12_partOf 10 = .ok (.iaload, 1) := by decide +kernel
theorem dX12_partOf_11 : decode cX12_partOf 11 = .ok (.if_icmp .ge 14, 3) := by decide +kernel
theorem dX12_partOf_14 : decode cX12_partOf 14 = .ok (.aload_n 0, 1) := by decide +kernel
theorem dX12_partOf_15 : decode cX12_partOf 15 = .ok (.getfield 13, 3) := by decide +kernel
theorem dX12_partOf_18 : decode cX12_partOf 18 = .ok (.iconst 3, 1) := by decide +kernel
theorem dX12_partOf_19 : decode cX12_partOf 19 = .ok (.iload_n 3, 1) := by decide +kernel
theorem dX12_partOf_20 : decode cX12_partOf 20 = .ok (.iadd, 1) := by decide +kernel
theorem dX12_partOf_21 : decode cX12_partOf 21 = .ok (.iaload, 1) := by decide +kernel
theorem dX12_partOf_22 : decode cX12_partOf 22 = .ok (.goto 4, 3) := by decide +kernel
theorem dX12_partOf_25 : decode cX12_partOf 25 = .ok (.iconst (-1), 1) := by decide +kernel
theorem dX12_partOf_26 : decode cX12_partOf 26 = .ok (.ireturn, 1) := by decide +kernel
theorem dX12_partOf_27 : decode cX12_partOf 27 = .ok (.aload_n 0, 1) := by decide +kernel
theorem dX12_partOf_28 : decode cX12_partOf 28 = .ok (.getfield 13, 3) := by decide +kernel
theorem dX12_partOf_31 : decode cX12_partOf 31 = .ok (.sipush 145, 3) := by decide +kernel
theorem dX12_partOf_34 : decode cX12_partOf 34 = .ok (.iload_n 1, 1) := by decide +kernel
theorem dX12_partOf_35 : decode cX12_partOf 35 = .ok (.iadd, 1) := by decide +kernel
theorem dX12_partOf_36 : decode cX12_partOf 36 = .ok (.iaload, 1) := by decide +kernel
theorem dX12_partOf_37 : decode cX12_partOf 37 = .ok (.istore 4, 2) := by decide +kernel
theorem dX12_partOf_39 : decode cX12_partOf 39 = .ok (.iload_n 3, 1) := by decide +kernel
theorem dX12_partOf_40 : decode cX12_partOf 40 = .ok (.aload_n 0, 1) := by decide +kernel
theorem dX12_partOf_41 : decode cX12_partOf 41 = .ok (.iload 4, 2) := by decide +kernel
theorem dX12_partOf_43 : decode cX12_partOf 43 = .ok (.iload_n 2, 1) := by decide +kernel
theorem dX12_partOf_44 : decode cX12_partOf 44 = .ok (.invokevirtual 239, 3) := by decide +kernel
theorem dX12_partOf_47 : decode cX12_partOf 47 = .ok (.if_icmp .ge 14, 3) := by decide +kernel
theorem dX12_partOf_50 : decode cX12_partOf 50 = .ok (.aload_n 0, 1) := by decide +kernel
theorem dX12_partOf_51 : decode cX12_partOf 51 = .ok (.iload 4, 2) := by decide +kernel
theorem dX12_partOf_53 : decode cX12_partOf 53 = .ok (.iload_n 2, 1) := by decide +kernel
theorem dX12_partOf_54 : decode cX12_partOf 54 = .ok (.iload_n 3, 1) := by decide +kernel
theorem dX12_partOf_55 : decode cX12_partOf 55 = .ok (.invokevirtual 242, 3) := by decide +kernel
theorem dX12_partOf_58 : decode cX12_partOf 58 = .ok (.goto 4, 3) := by decide +kernel
theorem dX12_partOf_61 : decode cX12_partOf 61 = .ok (.iconst (-1), 1) := by decide +kernel
theorem dX12_partOf_62 : decode cX12_partOf 62 = .ok (.ireturn, 1) := by decide +kernel
theorem dX12_comesTo_0 : decode cX12_comesTo 0 = .ok (.lload_n 1, 1) := by decide +kernel
theorem dX12_comesTo_1 : decode cX12_comesTo 1 = .ok (.lstore_n 3, 1) := by decide +kernel
theorem dX12_comesTo_2 : decode cX12_comesTo 2 = .ok (.iconst (-1), 1) := by decide +kernel
theorem dX12_comesTo_3 : decode cX12_comesTo 3 = .ok (.istore 5, 2) := by decide +kernel
theorem dX12_comesTo_5 : decode cX12_comesTo 5 = .ok (.aload_n 0, 1) := by decide +kernel
theorem dX12_comesTo_6 : decode cX12_comesTo 6 = .ok (.lconst 0, 1) := by decide +kernel
theorem dX12_comesTo_7 : decode cX12_comesTo 7 = .ok (.putfield 260, 3) := by decide +kernel
theorem dX12_comesTo_10 : decode cX12_comesTo 10 = .ok (.iconst 0, 1) := by decide +kernel
theorem dX12_comesTo_11 : decode cX12_comesTo 11 = .ok (.istore 6, 2) := by decide +kernel
theorem dX12_comesTo_13 : decode cX12_comesTo 13 = .ok (.iload 6, 2) := by decide +kernel
theorem dX12_comesTo_15 : decode cX12_comesTo 15 = .ok (.aload_n 0, 1) := by decide +kernel
theorem dX12_comesTo_16 : decode cX12_comesTo 16 = .ok (.getfield 13, 3) := by decide +kernel
theorem dX12_comesTo_19 : decode cX12_comesTo 19 = .ok (.bipush 113, 2) := by decide +kernel
theorem dX12_comesTo_21 : decode cX12_comesTo 21 = .ok (.iaload, 1) := by decide +kernel
theorem dX12_comesTo_22 : decode cX12_comesTo 22 = .ok (.if_icmp .gt 119, 3) := by decide +kernel
theorem dX12_comesTo_25 : decode cX12_comesTo 25 = .ok (.iconst 0, 1) := by decide +kernel
theorem dX12_comesTo_26 : decode cX12_comesTo 26 = .ok (.istore 7, 2) := by decide +kernel
theorem dX12_comesTo_28 : decode cX12_comesTo 28 = .ok (.aload_n 0, 1) := by decide +kernel
theorem dX12_comesTo_29 : decode cX12_comesTo 29 = .ok (.iload 6, 2) := by decide +kernel
theorem dX12_comesTo_31 : decode cX12_comesTo 31 = .ok (.iconst 1, 1) := by decide +kernel
theorem dX12_comesTo_32 : decode cX12_comesTo 32 = .ok (.isub, 1) := by decide +kernel
theorem dX12_comesTo_33 : decode cX12_comesTo 33 = .ok (.iload 5, 2) := by decide +kernel
theorem dX12_comesTo_35 : decode cX12_comesTo 35 = .ok (.iconst 0, 1) := by decide +kernel
theorem dX12_comesTo_36 : decode cX12_comesTo 36 = .ok (.invokevirtual 264, 3) := by decide +kernel
theorem dX12_comesTo_39 : decode cX12_comesTo 39 = .ok (.istore 8, 2) := by decide +kernel
theorem dX12_comesTo_41 : decode cX12_comesTo 41 = .ok (.iload 8, 2) := by decide +kernel
theorem dX12_comesTo_43 : decode cX12_comesTo 43 = .ok (.iconst (-1), 1) := by decide +kernel
theorem dX12_comesTo_44 : decode cX12_comesTo 44 = .ok (.if_icmp .eq 79, 3) := by decide +kernel
theorem dX12_comesTo_47 : decode cX12_comesTo 47 = .ok (.lload_n 3, 1) := by decide +kernel
theorem dX12_comesTo_48 : decode cX12_comesTo 48 = .ok (.aload_n 0, 1) := by decide +kernel
theorem dX12_comesTo_49 : decode cX12_comesTo 49 = .ok (.getfield 33, 3) := by decide +kernel
theorem dX12_comesTo_52 : decode cX12_comesTo 52 = .ok (.bipush 6, 2) := by decide +kernel
theorem dX12_comesTo_54 : decode cX12_comesTo 54 = .ok (.iload 6, 2) := by decide +kernel
theorem dX12_comesTo_56 : decode cX12_comesTo 56 = .ok (.imul, 1) := by decide +kernel
theorem dX12_comesTo_57 : decode cX12_comesTo 57 = .ok (.iload 8, 2) := by decide +kernel
theorem dX12_comesTo_59 : decode cX12_comesTo 59 = .ok (.iadd, 1) := by decide +kernel
theorem dX12_comesTo_60 : decode cX12_comesTo 60 = .ok (.laload, 1) := by decide +kernel
theorem dX12_comesTo_61 : decode cX12_comesTo 61 = .ok (.lcmp, 1) := by decide +kernel
theorem dX12_comesTo_62 : decode cX12_comesTo 62 = .ok (.ifCond .lt 61, 3) := by decide +kernel
theorem dX12_comesTo_65 : decode cX12_comesTo 65 = .ok (.lload_n 3, 1) := by decide +kernel
theorem dX12_comesTo_66 : decode cX12_comesTo 66 = .ok (.aload_n 0, 1) := by decide +kernel
theorem dX12_comesTo_67 : decode cX12_comesTo 67 = .ok (.getfield 33, 3) := by decide +kernel
theorem dX12_comesTo_70 : decode cX12_comesTo 70 = .ok (.bipush 6, 2) := by decide +kernel
theorem dX12_comesTo_72 : decode cX12_comesTo 72 = .ok (.iload 6, 2) := by decide +kernel
theorem dX12_comesTo_74 : decode cX12_comesTo 74 = .ok (.imul, 1) := by decide +kernel
theorem dX12_comesTo_75 : decode cX12_comesTo 75 = .ok (.iload 8, 2) := by decide +kernel
theorem dX12_comesTo_77 : decode cX12_comesTo 77 = .ok (.iadd, 1) := by decide +kernel
theorem dX12_comesTo_78 : decode cX12_comesTo 78 = .ok (.laload, 1) := by decide +kernel
theorem dX12_comesTo_79 : decode cX12_comesTo 79 = .ok (.lsub, 1) := by decide +kernel
theorem dX12_comesTo_80 : decode cX12_comesTo 80 = .ok (.lstore_n 3, 1) := by decide +kernel
theorem dX12_comesTo_81 : decode cX12_comesTo 81 = .ok (.aload_n 0, 1) := by decide +kernel
theorem dX12_comesTo_82 : decode cX12_comesTo 82 = .ok (.dup, 1) := by decide +kernel
theorem dX12_comesTo_83 : decode cX12_comesTo 83 = .ok (.getfield 260, 3) := by decide +kernel
theorem dX12_comesTo_86 : decode cX12_comesTo 86 = .ok (.aload_n 0, 1) := by decide +kernel
theorem dX12_comesTo_87 : decode cX12_comesTo 87 = .ok (.getfield 37, 3) := by decide +kernel
theorem dX12_comesTo_90 : decode cX12_comesTo 90 = .ok (.bipush 6, 2) := by decide +kernel
theorem dX12_comesTo_92 : decode cX12_comesTo 92 = .ok (.iload 6, 2) := by decide +kernel
theorem dX12_comesTo_94 : decode cX12_comesTo 94 = .ok (.imul, 1) := by decide +kernel
theorem dX12_comesTo_95 : decode cX12_comesTo 95 = .ok (.iload 8, 2) := by decide +kernel
theorem dX12_comesTo_97 : decode cX12_comesTo 97 = .ok (.iadd, 1) := by decide +kernel
theorem dX12_comesTo_98 : decode cX12_comesTo 98 = .ok (.laload, 1) := by decide +kernel
theorem dX12_comesTo_99 : decode cX12_comesTo 99 = .ok (.ladd, 1) := by decide +kernel
theorem dX12_comesTo_100 : decode cX12_comesTo 100 = .ok (.putfield 260, 3) := by decide +kernel
theorem dX12_comesTo_103 : decode cX12_comesTo 103 = .ok (.iinc 7 1, 3) := by decide +kernel
theorem dX12_comesTo_106 : decode cX12_comesTo 106 = .ok (.aload_n 0, 1) := by decide +kernel
theorem dX12_comesTo_107 : decode cX12_comesTo 107 = .ok (.iload 6, 2) := by decide +kernel
theorem dX12_comesTo_109 : decode cX12_comesTo 109 = .ok (.iconst 1, 1) := by decide +kernel
theorem dX12_comesTo_110 : decode cX12_comesTo 110 = .ok (.isub, 1) := by decide +kernel
theorem dX12_comesTo_111 : decode cX12_comesTo 111 = .ok (.iload 5, 2) := by decide +kernel
theorem dX12_comesTo_113 : decode cX12_comesTo 113 = .ok (.iload 7, 2) := by decide +kernel
theorem dX12_comesTo_115 : decode cX12_comesTo 115 = .ok (.invokevirtual 264, 3) := by decide +kernel
theorem dX12_comesTo_118 : decode cX12_comesTo 118 = .ok (.istore 8, 2) := by decide +kernel
theorem dX12_comesTo_120 : decode cX12_comesTo 120 = .ok (.goto (-79), 3) := by decide +kernel
theorem dX12_comesTo_123 : decode cX12_comesTo 123 = .ok (.iload 8, 2) := by decide +kernel
theorem dX12_comesTo_125 : decode cX12_comesTo 125 = .ok (.iconst (-1), 1) := by decide +kernel
theorem dX12_comesTo_126 : decode cX12_comesTo 126 = .ok (.if_icmp .ne 5, 3) := by decide +kernel
theorem dX12_comesTo_129 : decode cX12_comesTo 129 = .ok (.iconst (-1), 1) := by decide +kernel
theorem dX12_comesTo_130 : decode cX12_comesTo 130 = .ok (.ireturn, 1) := by decide +kernel
theorem dX12_comesTo_131 : decode cX12_comesTo 131 = .ok (.iload 8, 2) := by decide +kernel
theorem dX12_comesTo_133 : decode cX12_comesTo 133 = .ok (.istore 5, 2) := by decide +kernel
theorem dX12_comesTo_135 : decode cX12_comesTo 135 = .ok (.iinc 6 1, 3) := by decide +kernel
theorem dX12_comesTo_138 : decode cX12_comesTo 138 = .ok (.goto (-125), 3) := by decide +kernel
theorem dX12_comesTo_141 : decode cX12_comesTo 141 = .ok (.iload 5, 2) := by decide +kernel
theorem dX12_comesTo_143 : decode cX12_comesTo 143 = .ok (.ireturn, 1) := by decide +kernel
theorem dX12_letterAt_0 : decode cX12_letterAt 0 = .ok (.aload_n 0, 1) := by decide +kernel
theorem dX12_letterAt_1 : decode cX12_letterAt 1 = .ok (.lload_n 1, 1) := by decide +kernel
theorem dX12_letterAt_2 : decode cX12_letterAt 2 = .ok (.invokevirtual 267, 3) := by decide +kernel
theorem dX12_letterAt_5 : decode cX12_letterAt 5 = .ok (.istore_n 3, 1) := by decide +kernel
theorem dX12_letterAt_6 : decode cX12_letterAt 6 = .ok (.iload_n 3, 1) := by decide +kernel
theorem dX12_letterAt_7 : decode cX12_letterAt 7 = .ok (.iconst (-1), 1) := by decide +kernel
theorem dX12_letterAt_8 : decode cX12_letterAt 8 = .ok (.if_icmp .ne 8, 3) := by decide +kernel
theorem dX12_letterAt_11 : decode cX12_letterAt 11 = .ok (.bipush 6, 2) := by decide +kernel
theorem dX12_letterAt_13 : decode cX12_letterAt 13 = .ok (.goto 4, 3) := by decide +kernel
theorem dX12_letterAt_16 : decode cX12_letterAt 16 = .ok (.iload_n 3, 1) := by decide +kernel
theorem dX12_letterAt_17 : decode cX12_letterAt 17 = .ok (.ireturn, 1) := by decide +kernel
theorem dX12_between_0 : decode cX12_between 0 = .ok (.iload_n 0, 1) := by decide +kernel
theorem dX12_between_1 : decode cX12_between 1 = .ok (.tableswitch 80 3003 3008 #[39, 50, 61, 80, 72, 76], 39) := by decide +kernel
theorem dX12_between_40 : decode cX12_between 40 = .ok (.iload_n 1, 1) := by decide +kernel
theorem dX12_between_41 : decode cX12_between 41 = .ok (.iload_n 2, 1) := by decide +kernel
theorem dX12_between_42 : decode cX12_between 42 = .ok (.if_icmp .ne 7, 3) := by decide +kernel
theorem dX12_between_45 : decode cX12_between 45 = .ok (.iconst 1, 1) := by decide +kernel
theorem dX12_between_46 : decode cX12_between 46 = .ok (.goto 4, 3) := by decide +kernel
theorem dX12_between_49 : decode cX12_between 49 = .ok (.iconst 0, 1) := by decide +kernel
theorem dX12_between_50 : decode cX12_between 50 = .ok (.ireturn, 1) := by decide +kernel
theorem dX12_between_51 : decode cX12_between 51 = .ok (.iload_n 1, 1) := by decide +kernel
theorem dX12_between_52 : decode cX12_between 52 = .ok (.iload_n 2, 1) := by decide +kernel
theorem dX12_between_53 : decode cX12_between 53 = .ok (.if_icmp .ge 7, 3) := by decide +kernel
theorem dX12_between_56 : decode cX12_between 56 = .ok (.iconst 1, 1) := by decide +kernel
theorem dX12_between_57 : decode cX12_between 57 = .ok (.goto 4, 3) := by decide +kernel
theorem dX12_between_60 : decode cX12_between 60 = .ok (.iconst 0, 1) := by decide +kernel
theorem dX12_between_61 : decode cX12_between 61 = .ok (.ireturn, 1) := by decide +kernel
theorem dX12_between_62 : decode cX12_between 62 = .ok (.iload_n 1, 1) := by decide +kernel
theorem dX12_between_63 : decode cX12_between 63 = .ok (.iload_n 2, 1) := by decide +kernel
theorem dX12_between_64 : decode cX12_between 64 = .ok (.if_icmp .le 7, 3) := by decide +kernel
theorem dX12_between_67 : decode cX12_between 67 = .ok (.iconst 1, 1) := by decide +kernel
theorem dX12_between_68 : decode cX12_between 68 = .ok (.goto 4, 3) := by decide +kernel
theorem dX12_between_71 : decode cX12_between 71 = .ok (.iconst 0, 1) := by decide +kernel
theorem dX12_between_72 : decode cX12_between 72 = .ok (.ireturn, 1) := by decide +kernel
theorem dX12_between_73 : decode cX12_between 73 = .ok (.iload_n 1, 1) := by decide +kernel
theorem dX12_between_74 : decode cX12_between 74 = .ok (.iload_n 2, 1) := by decide +kernel
theorem dX12_between_75 : decode cX12_between 75 = .ok (.iand, 1) := by decide +kernel
theorem dX12_between_76 : decode cX12_between 76 = .ok (.ireturn, 1) := by decide +kernel
theorem dX12_between_77 : decode cX12_between 77 = .ok (.iload_n 1, 1) := by decide +kernel
theorem dX12_between_78 : decode cX12_between 78 = .ok (.iload_n 2, 1) := by decide +kernel
theorem dX12_between_79 : decode cX12_between 79 = .ok (.ior, 1) := by decide +kernel
theorem dX12_between_80 : decode cX12_between 80 = .ok (.ireturn, 1) := by decide +kernel
theorem dX12_between_81 : decode cX12_between 81 = .ok (.iload_n 0, 1) := by decide +kernel
theorem dX12_between_82 : decode cX12_between 82 = .ok (.sipush 3000, 3) := by decide +kernel
theorem dX12_between_85 : decode cX12_between 85 = .ok (.if_icmp .ne 11, 3) := by decide +kernel
theorem dX12_between_88 : decode cX12_between 88 = .ok (.iload_n 1, 1) := by decide +kernel
theorem dX12_between_89 : decode cX12_between 89 = .ok (.i2l, 1) := by decide +kernel
theorem dX12_between_90 : decode cX12_between 90 = .ok (.iload_n 2, 1) := by decide +kernel
theorem dX12_between_91 : decode cX12_between 91 = .ok (.i2l, 1) := by decide +kernel
theorem dX12_between_92 : decode cX12_between 92 = .ok (.ladd, 1) := by decide +kernel
theorem dX12_between_93 : decode cX12_between 93 = .ok (.goto 23, 3) := by decide +kernel
theorem dX12_between_96 : decode cX12_between 96 = .ok (.iload_n 0, 1) := by decide +kernel
theorem dX12_between_97 : decode cX12_between 97 = .ok (.sipush 3001, 3) := by decide +kernel
theorem dX12_between_100 : decode cX12_between 100 = .ok (.if_icmp .ne 11, 3) := by decide +kernel
theorem dX12_between_103 : decode cX12_between 103 = .ok (.iload_n 1, 1) := by decide +kernel
theorem dX12_between_104 : decode cX12_between 104 = .ok (.i2l, 1) := by decide +kernel
theorem dX12_between_105 : decode cX12_between 105 = .ok (.iload_n 2, 1) := by decide +kernel
theorem dX12_between_106 : decode cX12_between 106 = .ok (.i2l, 1) := by decide +kernel
theorem dX12_between_107 : decode cX12_between 107 = .ok (.lsub, 1) := by decide +kernel
theorem dX12_between_108 : decode cX12_between 108 = .ok (.goto 8, 3) := by decide +kernel
theorem dX12_between_111 : decode cX12_between 111 = .ok (.iload_n 1, 1) := by decide +kernel
theorem dX12_between_112 : decode cX12_between 112 = .ok (.i2l, 1) := by decide +kernel
theorem dX12_between_113 : decode cX12_between 113 = .ok (.iload_n 2, 1) := by decide +kernel
theorem dX12_between_114 : decode cX12_between 114 = .ok (.i2l, 1) := by decide +kernel
theorem dX12_between_115 : decode cX12_between 115 = .ok (.lmul, 1) := by decide +kernel
theorem dX12_between_116 : decode cX12_between 116 = .ok (.lstore_n 3, 1) := by decide +kernel
theorem dX12_between_117 : decode cX12_between 117 = .ok (.lload_n 3, 1) := by decide +kernel
theorem dX12_between_118 : decode cX12_between 118 = .ok (.ldc2_w 271, 3) := by decide +kernel
theorem dX12_between_121 : decode cX12_between 121 = .ok (.lcmp, 1) := by decide +kernel
theorem dX12_between_122 : decode cX12_between 122 = .ok (.ifCond .le 9, 3) := by decide +kernel
theorem dX12_between_125 : decode cX12_between 125 = .ok (.ldc2_w 271, 3) := by decide +kernel
theorem dX12_between_128 : decode cX12_between 128 = .ok (.goto 18, 3) := by decide +kernel
theorem dX12_between_131 : decode cX12_between 131 = .ok (.lload_n 3, 1) := by decide +kernel
theorem dX12_between_132 : decode cX12_between 132 = .ok (.ldc2_w 273, 3) := by decide +kernel
theorem dX12_between_135 : decode cX12_between 135 = .ok (.lcmp, 1) := by decide +kernel
theorem dX12_between_136 : decode cX12_between 136 = .ok (.ifCond .ge 9, 3) := by decide +kernel
theorem dX12_between_139 : decode cX12_between 139 = .ok (.ldc2_w 273, 3) := by decide +kernel
theorem dX12_between_142 : decode cX12_between 142 = .ok (.goto 4, 3) := by decide +kernel
theorem dX12_between_145 : decode cX12_between 145 = .ok (.lload_n 3, 1) := by decide +kernel
theorem dX12_between_146 : decode cX12_between 146 = .ok (.l2i, 1) := by decide +kernel
theorem dX12_between_147 : decode cX12_between 147 = .ok (.ireturn, 1) := by decide +kernel
theorem dX12_reckons_0 : decode cX12_reckons 0 = .ok (.iconst 0, 1) := by decide +kernel
theorem dX12_reckons_1 : decode cX12_reckons 1 = .ok (.istore_n 2, 1) := by decide +kernel
theorem dX12_reckons_2 : decode cX12_reckons 2 = .ok (.iconst 0, 1) := by decide +kernel
theorem dX12_reckons_3 : decode cX12_reckons 3 = .ok (.istore_n 3, 1) := by decide +kernel
theorem dX12_reckons_4 : decode cX12_reckons 4 = .ok (.iload_n 3, 1) := by decide +kernel
theorem dX12_reckons_5 : decode cX12_reckons 5 = .ok (.aload_n 0, 1) := by decide +kernel
theorem dX12_reckons_6 : decode cX12_reckons 6 = .ok (.getfield 13, 3) := by decide +kernel
theorem dX12_reckons_9 : decode cX12_reckons 9 = .ok (.bipush 109, 2) := by decide +kernel
theorem dX12_reckons_11 : decode cX12_reckons 11 = .ok (.iload_n 1, 1) := by decide +kernel
theorem dX12_reckons_12 : decode cX12_reckons 12 = .ok (.iadd, 1) := by decide +kernel
theorem dX12_reckons_13 : decode cX12_reckons 13 = .ok (.iaload, 1) := by decide +kernel
theorem dX12_reckons_14 : decode cX12_reckons 14 = .ok (.if_icmp .ge 185, 3) := by decide +kernel
theorem dX12_reckons_17 : decode cX12_reckons 17 = .ok (.aload_n 0, 1) := by decide +kernel
theorem dX12_reckons_18 : decode cX12_reckons 18 = .ok (.getfield 13, 3) := by decide +kernel
theorem dX12_reckons_21 : decode cX12_reckons 21 = .ok (.sipush 206, 3) := by decide +kernel
theorem dX12_reckons_24 : decode cX12_reckons 24 = .ok (.aload_n 0, 1) := by decide +kernel
theorem dX12_reckons_25 : decode cX12_reckons 25 = .ok (.getfield 13, 3) := by decide +kernel
theorem dX12_reckons_28 : decode cX12_reckons 28 = .ok (.bipush 107, 2) := by decide +kernel
theorem dX12_reckons_30 : decode cX12_reckons 30 = .ok (.iload_n 1, 1) := by decide +kernel
theorem dX12_reckons_31 : decode cX12_reckons 31 = .ok (.iadd, 1) := by decide +kernel
theorem dX12_reckons_32 : decode cX12_reckons 32 = .ok (.iaload, 1) := by decide +kernel
theorem dX12_reckons_33 : decode cX12_reckons 33 = .ok (.iadd, 1) := by decide +kernel
theorem dX12_reckons_34 : decode cX12_reckons 34 = .ok (.iload_n 3, 1) := by decide +kernel
theorem dX12_reckons_35 : decode cX12_reckons 35 = .ok (.iadd, 1) := by decide +kernel
theorem dX12_reckons_36 : decode cX12_reckons 36 = .ok (.iaload, 1) := by decide +kernel
theorem dX12_reckons_37 : decode cX12_reckons 37 = .ok (.istore 4, 2) := by decide +kernel
theorem dX12_reckons_39 : decode cX12_reckons 39 = .ok (.iload 4, 2) := by decide +kernel
theorem dX12_reckons_41 : decode cX12_reckons 41 = .ok (.sipush 3000, 3) := by decide +kernel
theorem dX12_reckons_44 : decode cX12_reckons 44 = .ok (.if_icmp .ge 39, 3) := by decide +kernel
theorem dX12_reckons_47 : decode cX12_reckons 47 = .ok (.aload_n 0, 1) := by decide +kernel
theorem dX12_reckons_48 : decode cX12_reckons 48 = .ok (.getfield 40, 3) := by decide +kernel
theorem dX12_reckons_51 : decode cX12_reckons 51 = .ok (.iload_n 2, 1) := by decide +kernel
theorem dX12_reckons_52 : decode cX12_reckons 52 = .ok (.iload 4, 2) := by decide +kernel
theorem dX12_reckons_54 : decode cX12_reckons 54 = .ok (.sipush 1000, 3) := by decide +kernel
theorem dX12_reckons_57 : decode cX12_reckons 57 = .ok (.if_icmp .ge 8, 3) := by decide +kernel
theorem dX12_reckons_60 : decode cX12_reckons 60 = .ok (.iload 4, 2) := by decide +kernel
theorem dX12_reckons_62 : decode cX12_reckons 62 = .ok (.goto 14, 3) := by decide +kernel
theorem dX12_reckons_65 : decode cX12_reckons 65 = .ok (.aload_n 0, 1) := by decide +kernel
theorem dX12_reckons_66 : decode cX12_reckons 66 = .ok (.getfield 43, 3) := by decide +kernel
theorem dX12_reckons_69 : decode cX12_reckons 69 = .ok (.iload 4, 2) := by decide +kernel
theorem dX12_reckons_71 : decode cX12_reckons 71 = .ok (.sipush 1000, 3) := by decide +kernel
theorem dX12_reckons_74 : decode cX12_reckons 74 = .ok (.isub, 1) := by decide +kernel
theorem dX12_reckons_75 : decode cX12_reckons 75 = .ok (.iaload, 1) := by decide +kernel
theorem dX12_reckons_76 : decode cX12_reckons 76 = .ok (.iastore, 1) := by decide +kernel
theorem dX12_reckons_77 : decode cX12_reckons 77 = .ok (.iinc 2 1, 3) := by decide +kernel
theorem dX12_reckons_80 : decode cX12_reckons 80 = .ok (.goto 113, 3) := by decide +kernel
theorem dX12_reckons_83 : decode cX12_reckons 83 = .ok (.iload 4, 2) := by decide +kernel
theorem dX12_reckons_85 : decode cX12_reckons 85 = .ok (.sipush 3006, 3) := by decide +kernel
theorem dX12_reckons_88 : decode cX12_reckons 88 = .ok (.if_icmp .ne 24, 3) := by decide +kernel
theorem dX12_reckons_91 : decode cX12_reckons 91 = .ok (.aload_n 0, 1) := by decide +kernel
theorem dX12_reckons_92 : decode cX12_reckons 92 = .ok (.getfield 40, 3) := by decide +kernel
theorem dX12_reckons_95 : decode cX12_reckons 95 = .ok (.iload_n 2, 1) := by decide +kernel
theorem dX12_reckons_96 : decode cX12_reckons 96 = .ok (.iconst 1, 1) := by decide +kernel
theorem dX12_reckons_97 : decode cX12_reckons 97 = .ok (.isub, 1) := by decide +kernel
theorem dX12_reckons_98 : decode cX12_reckons 98 = .ok (.iconst 1, 1) := by decide +kernel
theorem dX12_reckons_99 : decode cX12_reckons 99 = .ok (.aload_n 0, 1) := by decide +kernel
theorem dX12_reckons_100 : decode cX12_reckons 100 = .ok (.getfield 40, 3) := by decide +kernel
theorem dX12_reckons_103 : decode cX12_reckons 103 = .ok (.iload_n 2, 1) := by decide +kernel
theorem dX12_reckons_104 : decode cX12_reckons 104 = .ok (.iconst 1, 1) := by decide +kernel
theorem dX12_reckons_105 : decode cX12_reckons 105 = .ok (.isub, 1) := by decide +kernel
theorem dX12_reckons_106 : decode cX12_reckons 106 = .ok (.iaload, 1) := by decide +kernel
theorem dX12_reckons_107 : decode cX12_reckons 107 = .ok (.isub, 1) := by decide +kernel
theorem dX12_reckons_108 : decode cX12_reckons 108 = .ok (.iastore, 1) := by decide +kernel
theorem dX12_reckons_109 : decode cX12_reckons 109 = .ok (.goto 84, 3) := by decide +kernel
theorem dX12_reckons_112 : decode cX12_reckons 112 = .ok (.iload 4, 2) := by decide +kernel
theorem dX12_reckons_114 : decode cX12_reckons 114 = .ok (.sipush 3009, 3) := by decide +kernel
theorem dX12_reckons_117 : decode cX12_reckons 117 = .ok (.if_icmp .ne 46, 3) := by decide +kernel
theorem dX12_reckons_120 : decode cX12_reckons 120 = .ok (.iinc 2 (-2), 3) := by decide +kernel
theorem dX12_reckons_123 : decode cX12_reckons 123 = .ok (.aload_n 0, 1) := by decide +kernel
theorem dX12_reckons_124 : decode cX12_reckons 124 = .ok (.getfield 40, 3) := by decide +kernel
theorem dX12_reckons_127 : decode cX12_reckons 127 = .ok (.iload_n 2, 1) := by decide +kernel
theorem dX12_reckons_128 : decode cX12_reckons 128 = .ok (.iconst 1, 1) := by decide +kernel
theorem dX12_reckons_129 : decode cX12_reckons 129 = .ok (.isub, 1) := by decide +kernel
theorem dX12_reckons_130 : decode cX12_reckons 130 = .ok (.aload_n 0, 1) := by decide +kernel
theorem dX12_reckons_131 : decode cX12_reckons 131 = .ok (.getfield 40, 3) := by decide +kernel
theorem dX12_reckons_134 : decode cX12_reckons 134 = .ok (.iload_n 2, 1) := by decide +kernel
theorem dX12_reckons_135 : decode cX12_reckons 135 = .ok (.iconst 1, 1) := by decide +kernel
theorem dX12_reckons_136 : decode cX12_reckons 136 = .ok (.isub, 1) := by decide +kernel
theorem dX12_reckons_137 : decode cX12_reckons 137 = .ok (.iaload, 1) := by decide +kernel
theorem dX12_reckons_138 : decode cX12_reckons 138 = .ok (.iconst 1, 1) := by decide +kernel
theorem dX12_reckons_139 : decode cX12_reckons 139 = .ok (.if_icmp .ne 12, 3) := by decide +kernel
theorem dX12_reckons_142 : decode cX12_reckons 142 = .ok (.aload_n 0, 1) := by decide +kernel
theorem dX12_reckons_143 : decode cX12_reckons 143 = .ok (.getfield 40, 3) := by decide +kernel
theorem dX12_reckons_146 : decode cX12_reckons 146 = .ok (.iload_n 2, 1) := by decide +kernel
theorem dX12_reckons_147 : decode cX12_reckons 147 = .ok (.iaload, 1) := by decide +kernel
theorem dX12_reckons_148 : decode cX12_reckons 148 = .ok (.goto 11, 3) := by decide +kernel
theorem dX12_reckons_151 : decode cX12_reckons 151 = .ok (.aload_n 0, 1) := by decide +kernel
theorem dX12_reckons_152 : decode cX12_reckons 152 = .ok (.getfield 40, 3) := by decide +kernel
theorem dX12_reckons_155 : decode cX12_reckons 155 = .ok (.iload_n 2, 1) := by decide +kernel
theorem dX12_reckons_156 : decode cX12_reckons 156 = .ok (.iconst 1, 1) := by decide +kernel
theorem dX12_reckons_157 : decode cX12_reckons 157 = .ok (.iadd, 1) := by decide +kernel
theorem dX12_reckons_158 : decode cX12_reckons 158 = .ok (.iaload, 1) := by decide +kernel
theorem dX12_reckons_159 : decode cX12_reckons 159 = .ok (.iastore, 1) := by decide +kernel
theorem dX12_reckons_160 : decode cX12_reckons 160 = .ok (.goto 33, 3) := by decide +kernel
theorem dX12_reckons_163 : decode cX12_reckons 163 = .ok (.iinc 2 (-1), 3) := by decide +kernel
theorem dX12_reckons_166 : decode cX12_reckons 166 = .ok (.aload_n 0, 1) := by decide +kernel
theorem dX12_reckons_167 : decode cX12_reckons 167 = .ok (.getfield 40, 3) := by decide +kernel
theorem dX12_reckons_170 : decode cX12_reckons 170 = .ok (.iload_n 2, 1) := by decide +kernel
theorem dX12_reckons_171 : decode cX12_reckons 171 = .ok (.iconst 1, 1) := by decide +kernel
theorem dX12_reckons_172 : decode cX12_reckons 172 = .ok (.isub, 1) := by decide +kernel
theorem dX12_reckons_173 : decode cX12_reckons 173 = .ok (.iload 4, 2) := by decide +kernel
theorem dX12_reckons_175 : decode cX12_reckons 175 = .ok (.aload_n 0, 1) := by decide +kernel
theorem dX12_reckons_176 : decode cX12_reckons 176 = .ok (.getfield 40, 3) := by decide +kernel
theorem dX12_reckons_179 : decode cX12_reckons 179 = .ok (.iload_n 2, 1) := by decide +kernel
theorem dX12_reckons_180 : decode cX12_reckons 180 = .ok (.iconst 1, 1) := by decide +kernel
theorem dX12_reckons_181 : decode cX12_reckons 181 = .ok (.isub, 1) := by decide +kernel
theorem dX12_reckons_182 : decode cX12_reckons 182 = .ok (.iaload, 1) := by decide +kernel
theorem dX12_reckons_183 : decode cX12_reckons 183 = .ok (.aload_n 0, 1) := by decide +kernel
theorem dX12_reckons_184 : decode cX12_reckons 184 = .ok (.getfield 40, 3) := by decide +kernel
theorem dX12_reckons_187 : decode cX12_reckons 187 = .ok (.iload_n 2, 1) := by decide +kernel
theorem dX12_reckons_188 : decode cX12_reckons 188 = .ok (.iaload, 1) := by decide +kernel
theorem dX12_reckons_189 : decode cX12_reckons 189 = .ok (.invokestatic 275, 3) := by decide +kernel
theorem dX12_reckons_192 : decode cX12_reckons 192 = .ok (.iastore, 1) := by decide +kernel
theorem dX12_reckons_193 : decode cX12_reckons 193 = .ok (.iinc 3 1, 3) := by decide +kernel
theorem dX12_reckons_196 : decode cX12_reckons 196 = .ok (.goto (-192), 3) := by decide +kernel
theorem dX12_reckons_199 : decode cX12_reckons 199 = .ok (.aload_n 0, 1) := by decide +kernel
theorem dX12_reckons_200 : decode cX12_reckons 200 = .ok (.getfield 40, 3) := by decide +kernel
theorem dX12_reckons_203 : decode cX12_reckons 203 = .ok (.iconst 0, 1) := by decide +kernel
theorem dX12_reckons_204 : decode cX12_reckons 204 = .ok (.iaload, 1) := by decide +kernel
theorem dX12_reckons_205 : decode cX12_reckons 205 = .ok (.ireturn, 1) := by decide +kernel
theorem dX12_pickedNow_0 : decode cX12_pickedNow 0 = .ok (.aload_n 0, 1) := by decide +kernel
theorem dX12_pickedNow_1 : decode cX12_pickedNow 1 = .ok (.invokevirtual 278, 3) := by decide +kernel
theorem dX12_pickedNow_4 : decode cX12_pickedNow 4 = .ok (.lstore_n 1, 1) := by decide +kernel
theorem dX12_pickedNow_5 : decode cX12_pickedNow 5 = .ok (.aload_n 0, 1) := by decide +kernel
theorem dX12_pickedNow_6 : decode cX12_pickedNow 6 = .ok (.getfield 43, 3) := by decide +kernel
theorem dX12_pickedNow_9 : decode cX12_pickedNow 9 = .ok (.iconst 0, 1) := by decide +kernel
theorem dX12_pickedNow_10 : decode cX12_pickedNow 10 = .ok (.aload_n 0, 1) := by decide +kernel
theorem dX12_pickedNow_11 : decode cX12_pickedNow 11 = .ok (.getfield 13, 3) := by decide +kernel
theorem dX12_pickedNow_14 : decode cX12_pickedNow 14 = .ok (.bipush 112, 2) := by decide +kernel
theorem dX12_pickedNow_16 : decode cX12_pickedNow 16 = .ok (.iaload, 1) := by decide +kernel
theorem dX12_pickedNow_17 : decode cX12_pickedNow 17 = .ok (.iastore, 1) := by decide +kernel
theorem dX12_pickedNow_18 : decode cX12_pickedNow 18 = .ok (.aload_n 0, 1) := by decide +kernel
theorem dX12_pickedNow_19 : decode cX12_pickedNow 19 = .ok (.getfield 43, 3) := by decide +kernel
theorem dX12_pickedNow_22 : decode cX12_pickedNow 22 = .ok (.iconst 1, 1) := by decide +kernel
theorem dX12_pickedNow_23 : decode cX12_pickedNow 23 = .ok (.aload_n 0, 1) := by decide +kernel
theorem dX12_pickedNow_24 : decode cX12_pickedNow 24 = .ok (.getfield 13, 3) := by decide +kernel
theorem dX12_pickedNow_27 : decode cX12_pickedNow 27 = .ok (.bipush 111, 2) := by decide +kernel
theorem dX12_pickedNow_29 : decode cX12_pickedNow 29 = .ok (.iaload, 1) := by decide +kernel
theorem dX12_pickedNow_30 : decode cX12_pickedNow 30 = .ok (.iastore, 1) := by decide +kernel
theorem dX12_pickedNow_31 : decode cX12_pickedNow 31 = .ok (.aload_n 0, 1) := by decide +kernel
theorem dX12_pickedNow_32 : decode cX12_pickedNow 32 = .ok (.getfield 43, 3) := by decide +kernel
theorem dX12_pickedNow_35 : decode cX12_pickedNow 35 = .ok (.iconst 2, 1) := by decide +kernel
theorem dX12_pickedNow_36 : decode cX12_pickedNow 36 = .ok (.aload_n 0, 1) := by decide +kernel
theorem dX12_pickedNow_37 : decode cX12_pickedNow 37 = .ok (.lconst 0, 1) := by decide +kernel
theorem dX12_pickedNow_38 : decode cX12_pickedNow 38 = .ok (.invokevirtual 282, 3) := by decide +kernel
theorem dX12_pickedNow_41 : decode cX12_pickedNow 41 = .ok (.iastore, 1) := by decide +kernel
theorem dX12_pickedNow_42 : decode cX12_pickedNow 42 = .ok (.aload_n 0, 1) := by decide +kernel
theorem dX12_pickedNow_43 : decode cX12_pickedNow 43 = .ok (.getfield 43, 3) := by decide +kernel
theorem dX12_pickedNow_46 : decode cX12_pickedNow 46 = .ok (.iconst 3, 1) := by decide +kernel
theorem dX12_pickedNow_47 : decode cX12_pickedNow 47 = .ok (.lload_n 1, 1) := by decide +kernel
theorem dX12_pickedNow_48 : decode cX12_pickedNow 48 = .ok (.lconst 0, 1) := by decide +kernel
theorem dX12_pickedNow_49 : decode cX12_pickedNow 49 = .ok (.lcmp, 1) := by decide +kernel
theorem dX12_pickedNow_50 : decode cX12_pickedNow 50 = .ok (.ifCond .ne 8, 3) := by decide +kernel
theorem dX12_pickedNow_53 : decode cX12_pickedNow 53 = .ok (.bipush 6, 2) := by decide +kernel
theorem dX12_pickedNow_55 : decode cX12_pickedNow 55 = .ok (.goto 10, 3) := by decide +kernel
theorem dX12_pickedNow_58 : decode cX12_pickedNow 58 = .ok (.aload_n 0, 1) := by decide +kernel
theorem dX12_pickedNow_59 : decode cX12_pickedNow 59 = .ok (.lload_n 1, 1) := by decide +kernel
theorem dX12_pickedNow_60 : decode cX12_pickedNow 60 = .ok (.lconst 1, 1) := by decide +kernel
theorem dX12_pickedNow_61 : decode cX12_pickedNow 61 = .ok (.lsub, 1) := by decide +kernel
theorem dX12_pickedNow_62 : decode cX12_pickedNow 62 = .ok (.invokevirtual 282, 3) := by decide +kernel
theorem dX12_pickedNow_65 : decode cX12_pickedNow 65 = .ok (.iastore, 1) := by decide +kernel
theorem dX12_pickedNow_66 : decode cX12_pickedNow 66 = .ok (.aload_n 0, 1) := by decide +kernel
theorem dX12_pickedNow_67 : decode cX12_pickedNow 67 = .ok (.getfield 43, 3) := by decide +kernel
theorem dX12_pickedNow_70 : decode cX12_pickedNow 70 = .ok (.iconst 4, 1) := by decide +kernel
theorem dX12_pickedNow_71 : decode cX12_pickedNow 71 = .ok (.lload_n 1, 1) := by decide +kernel
theorem dX12_pickedNow_72 : decode cX12_pickedNow 72 = .ok (.ldc2_w 285, 3) := by decide +kernel
theorem dX12_pickedNow_75 : decode cX12_pickedNow 75 = .ok (.lrem, 1) := by decide +kernel
theorem dX12_pickedNow_76 : decode cX12_pickedNow 76 = .ok (.l2i, 1) := by decide +kernel
theorem dX12_pickedNow_77 : decode cX12_pickedNow 77 = .ok (.iastore, 1) := by decide +kernel
theorem dX12_pickedNow_78 : decode cX12_pickedNow 78 = .ok (.aload_n 0, 1) := by decide +kernel
theorem dX12_pickedNow_79 : decode cX12_pickedNow 79 = .ok (.getfield 13, 3) := by decide +kernel
theorem dX12_pickedNow_82 : decode cX12_pickedNow 82 = .ok (.bipush 106, 2) := by decide +kernel
theorem dX12_pickedNow_84 : decode cX12_pickedNow 84 = .ok (.iaload, 1) := by decide +kernel
theorem dX12_pickedNow_85 : decode cX12_pickedNow 85 = .ok (.iconst 1, 1) := by decide +kernel
theorem dX12_pickedNow_86 : decode cX12_pickedNow 86 = .ok (.if_icmp .ne 14, 3) := by decide +kernel
theorem dX12_pickedNow_89 : decode cX12_pickedNow 89 = .ok (.aload_n 0, 1) := by decide +kernel
theorem dX12_pickedNow_90 : decode cX12_pickedNow 90 = .ok (.iconst 1, 1) := by decide +kernel
theorem dX12_pickedNow_91 : decode cX12_pickedNow 91 = .ok (.invokevirtual 287, 3) := by decide +kernel
theorem dX12_pickedNow_94 : decode cX12_pickedNow 94 = .ok (.iconst 1, 1) := by decide +kernel
theorem dX12_pickedNow_95 : decode cX12_pickedNow 95 = .ok (.if_icmp .ne 5, 3) := by decide +kernel
theorem dX12_pickedNow_98 : decode cX12_pickedNow 98 = .ok (.iconst (-1), 1) := by decide +kernel
theorem dX12_pickedNow_99 : decode cX12_pickedNow 99 = .ok (.ireturn, 1) := by decide +kernel
theorem dX12_pickedNow_100 : decode cX12_pickedNow 100 = .ok (.aload_n 0, 1) := by decide +kernel
theorem dX12_pickedNow_101 : decode cX12_pickedNow 101 = .ok (.getfield 13, 3) := by decide +kernel
theorem dX12_pickedNow_104 : decode cX12_pickedNow 104 = .ok (.bipush 105, 2) := by decide +kernel
theorem dX12_pickedNow_106 : decode cX12_pickedNow 106 = .ok (.iaload, 1) := by decide +kernel
theorem dX12_pickedNow_107 : decode cX12_pickedNow 107 = .ok (.iconst 1, 1) := by decide +kernel
theorem dX12_pickedNow_108 : decode cX12_pickedNow 108 = .ok (.if_icmp .ne 18, 3) := by decide +kernel
theorem dX12_pickedNow_111 : decode cX12_pickedNow 111 = .ok (.aload_n 0, 1) := by decide +kernel
theorem dX12_pickedNow_112 : decode cX12_pickedNow 112 = .ok (.iconst 0, 1) := by decide +kernel
theorem dX12_pickedNow_113 : decode cX12_pickedNow 113 = .ok (.invokevirtual 287, 3) := by decide +kernel
theorem dX12_pickedNow_116 : decode cX12_pickedNow 116 = .ok (.aload_n 0, 1) := by decide +kernel
theorem dX12_pickedNow_117 : decode cX12_pickedNow 117 = .ok (.getfield 13, 3) := by decide +kernel
theorem dX12_pickedNow_120 : decode cX12_pickedNow 120 = .ok (.iconst 1, 1) := by decide +kernel
theorem dX12_pickedNow_121 : decode cX12_pickedNow 121 = .ok (.iaload, 1) := by decide +kernel
theorem dX12_pickedNow_122 : decode cX12_pickedNow 122 = .ok (.irem, 1) := by decide +kernel
theorem dX12_pickedNow_123 : decode cX12_pickedNow 123 = .ok (.goto 4, 3) := by decide +kernel
theorem dX12_pickedNow_126 : decode cX12_pickedNow 126 = .ok (.iconst 0, 1) := by decide +kernel
theorem dX12_pickedNow_127 : decode cX12_pickedNow 127 = .ok (.istore_n 3, 1) := by decide +kernel
theorem dX12_pickedNow_128 : decode cX12_pickedNow 128 = .ok (.iload_n 3, 1) := by decide +kernel
theorem dX12_pickedNow_129 : decode cX12_pickedNow 129 = .ok (.ifCond .ge 14, 3) := by decide +kernel
theorem dX12_pickedNow_132 : decode cX12_pickedNow 132 = .ok (.iload_n 3, 1) := by decide +kernel
theorem dX12_pickedNow_133 : decode cX12_pickedNow 133 = .ok (.aload_n 0, 1) := by decide +kernel
theorem dX12_pickedNow_134 : decode cX12_pickedNow 134 = .ok (.getfield 13, 3) := by decide +kernel
theorem dX12_pickedNow_137 : decode cX12_pickedNow 137 = .ok (.iconst 1, 1) := by decide +kernel
theorem dX12_pickedNow_138 : decode cX12_pickedNow 138 = .ok (.iaload, 1) := by decide +kernel
theorem dX12_pickedNow_139 : decode cX12_pickedNow 139 = .ok (.iadd, 1) := by decide +kernel
theorem dX12_pickedNow_140 : decode cX12_pickedNow 140 = .ok (.goto 4, 3) := by decide +kernel
theorem dX12_pickedNow_143 : decode cX12_pickedNow 143 = .ok (.iload_n 3, 1) := by decide +kernel
theorem dX12_pickedNow_144 : decode cX12_pickedNow 144 = .ok (.ireturn, 1) := by decide +kernel
theorem dX12_becomes_0 : decode cX12_becomes 0 = .ok (.aload_n 0, 1) := by decide +kernel
theorem dX12_becomes_1 : decode cX12_becomes 1 = .ok (.iconst 0, 1) := by decide +kernel
theorem dX12_becomes_2 : decode cX12_becomes 2 = .ok (.putfield 1, 3) := by decide +kernel
theorem dX12_becomes_5 : decode cX12_becomes 5 = .ok (.aload_n 0, 1) := by decide +kernel
theorem dX12_becomes_6 : decode cX12_becomes 6 = .ok (.iload_n 1, 1) := by decide +kernel
theorem dX12_becomes_7 : decode cX12_becomes 7 = .ok (.invokevirtual 290, 3) := by decide +kernel
theorem dX12_becomes_10 : decode cX12_becomes 10 = .ok (.ifCond .eq 11, 3) := by decide +kernel
theorem dX12_becomes_13 : decode cX12_becomes 13 = .ok (.iload_n 2, 1) := by decide +kernel
theorem dX12_becomes_14 : decode cX12_becomes 14 = .ok (.i2l, 1) := by decide +kernel
theorem dX12_becomes_15 : decode cX12_becomes 15 = .ok (.invokestatic 293, 3) := by decide +kernel
theorem dX12_becomes_18 : decode cX12_becomes 18 = .ok (.ifCond .ne 6, 3) := by decide +kernel
theorem dX12_becomes_21 : decode cX12_becomes 21 = .ok (.bipush (-2), 2) := by decide +kernel
theorem dX12_becomes_23 : decode cX12_becomes 23 = .ok (.ireturn, 1) := by decide +kernel
theorem dX12_becomes_24 : decode cX12_becomes 24 = .ok (.iload_n 3, 1) := by decide +kernel
theorem dX12_becomes_25 : decode cX12_becomes 25 = .ok (.iconst (-1), 1) := by decide +kernel
theorem dX12_becomes_26 : decode cX12_becomes 26 = .ok (.if_icmp .ge 6, 3) := by decide +kernel
theorem dX12_becomes_29 : decode cX12_becomes 29 = .ok (.bipush (-3), 2) := by decide +kernel
theorem dX12_becomes_31 : decode cX12_becomes 31 = .ok (.ireturn, 1) := by decide +kernel
theorem dX12_becomes_32 : decode cX12_becomes 32 = .ok (.iload_n 3, 1) := by decide +kernel
theorem dX12_becomes_33 : decode cX12_becomes 33 = .ok (.iconst (-1), 1) := by decide +kernel
theorem dX12_becomes_34 : decode cX12_becomes 34 = .ok (.if_icmp .ne 10, 3) := by decide +kernel
theorem dX12_becomes_37 : decode cX12_becomes 37 = .ok (.aload_n 0, 1) := by decide +kernel
theorem dX12_becomes_38 : decode cX12_becomes 38 = .ok (.iload_n 1, 1) := by decide +kernel
theorem dX12_becomes_39 : decode cX12_becomes 39 = .ok (.iload_n 2, 1) := by decide +kernel
theorem dX12_becomes_40 : decode cX12_becomes 40 = .ok (.invokevirtual 239, 3) := by decide +kernel
theorem dX12_becomes_43 : decode cX12_becomes 43 = .ok (.ireturn, 1) := by decide +kernel
theorem dX12_becomes_44 : decode cX12_becomes 44 = .ok (.iload_n 3, 1) := by decide +kernel
theorem dX12_becomes_45 : decode cX12_becomes 45 = .ok (.aload_n 0, 1) := by decide +kernel
theorem dX12_becomes_46 : decode cX12_becomes 46 = .ok (.iload_n 1, 1) := by decide +kernel
theorem dX12_becomes_47 : decode cX12_becomes 47 = .ok (.iload_n 2, 1) := by decide +kernel
theorem dX12_becomes_48 : decode cX12_becomes 48 = .ok (.invokevirtual 239, 3) := by decide +kernel
theorem dX12_becomes_51 : decode cX12_becomes 51 = .ok (.if_icmp .ge 13, 3) := by decide +kernel
theorem dX12_becomes_54 : decode cX12_becomes 54 = .ok (.aload_n 0, 1) := by decide +kernel
theorem dX12_becomes_55 : decode cX12_becomes 55 = .ok (.iload_n 1, 1) := by decide +kernel
theorem dX12_becomes_56 : decode cX12_becomes 56 = .ok (.iload_n 2, 1) := by decide +kernel
theorem dX12_becomes_57 : decode cX12_becomes 57 = .ok (.iload_n 3, 1) := by decide +kernel
theorem dX12_becomes_58 : decode cX12_becomes 58 = .ok (.invokevirtual 242, 3) := by decide +kernel
theorem dX12_becomes_61 : decode cX12_becomes 61 = .ok (.goto 4, 3) := by decide +kernel
theorem dX12_becomes_64 : decode cX12_becomes 64 = .ok (.iconst (-1), 1) := by decide +kernel
theorem dX12_becomes_65 : decode cX12_becomes 65 = .ok (.ireturn, 1) := by decide +kernel
theorem dX12_picks_0 : decode cX12_picks 0 = .ok (.aload_n 0, 1) := by decide +kernel
theorem dX12_picks_1 : decode cX12_picks 1 = .ok (.iconst 0, 1) := by decide +kernel
theorem dX12_picks_2 : decode cX12_picks 2 = .ok (.putfield 1, 3) := by decide +kernel
theorem dX12_picks_5 : decode cX12_picks 5 = .ok (.aload_n 0, 1) := by decide +kernel
theorem dX12_picks_6 : decode cX12_picks 6 = .ok (.invokevirtual 297, 3) := by decide +kernel
theorem dX12_picks_9 : decode cX12_picks 9 = .ok (.ireturn, 1) := by decide +kernel
theorem dX12_length_0 : decode cX12_length 0 = .ok (.aload_n 0, 1) := by decide +kernel
theorem dX12_length_1 : decode cX12_length 1 = .ok (.iconst 0, 1) := by decide +kernel
theorem dX12_length_2 : decode cX12_length 2 = .ok (.putfield 1, 3) := by decide +kernel
theorem dX12_length_5 : decode cX12_length 5 = .ok (.aload_n 0, 1) := by decide +kernel
theorem dX12_length_6 : decode cX12_length 6 = .ok (.invokevirtual 278, 3) := by decide +kernel
theorem dX12_length_9 : decode cX12_length 9 = .ok (.lreturn, 1) := by decide +kernel
theorem dX12_letter_0 : decode cX12_letter 0 = .ok (.aload_n 0, 1) := by decide +kernel
theorem dX12_letter_1 : decode cX12_letter 1 = .ok (.iconst 0, 1) := by decide +kernel
theorem dX12_letter_2 : decode cX12_letter 2 = .ok (.putfield 1, 3) := by decide +kernel
theorem dX12_letter_5 : decode cX12_letter 5 = .ok (.lload_n 1, 1) := by decide +kernel
theorem dX12_letter_6 : decode cX12_letter 6 = .ok (.lconst 0, 1) := by decide +kernel
theorem dX12_letter_7 : decode cX12_letter 7 = .ok (.lcmp, 1) := by decide +kernel
theorem dX12_letter_8 : decode cX12_letter 8 = .ok (.ifCond .ge 6, 3) := by decide +kernel
theorem dX12_letter_11 : decode cX12_letter 11 = .ok (.bipush (-3), 2) := by decide +kernel
theorem dX12_letter_13 : decode cX12_letter 13 = .ok (.ireturn, 1) := by decide +kernel
theorem dX12_letter_14 : decode cX12_letter 14 = .ok (.aload_n 0, 1) := by decide +kernel
theorem dX12_letter_15 : decode cX12_letter 15 = .ok (.invokevirtual 253, 3) := by decide +kernel
theorem dX12_letter_18 : decode cX12_letter 18 = .ok (.aload_n 0, 1) := by decide +kernel
theorem dX12_letter_19 : decode cX12_letter 19 = .ok (.lload_n 1, 1) := by decide +kernel
theorem dX12_letter_20 : decode cX12_letter 20 = .ok (.invokevirtual 267, 3) := by decide +kernel
theorem dX12_letter_23 : decode cX12_letter 23 = .ok (.ireturn, 1) := by decide +kernel
theorem dX12_count_0 : decode cX12_count 0 = .ok (.aload_n 0, 1) := by decide +kernel
theorem dX12_count_1 : decode cX12_count 1 = .ok (.iconst 0, 1) := by decide +kernel
theorem dX12_count_2 : decode cX12_count 2 = .ok (.putfield 1, 3) := by decide +kernel
theorem dX12_count_5 : decode cX12_count 5 = .ok (.iload_n 1, 1) := by decide +kernel
theorem dX12_count_6 : decode cX12_count 6 = .ok (.i2l, 1) := by decide +kernel
theorem dX12_count_7 : decode cX12_count 7 = .ok (.invokestatic 293, 3) := by decide +kernel
theorem dX12_count_10 : decode cX12_count 10 = .ok (.ifCond .ne 7, 3) := by decide +kernel
theorem dX12_count_13 : decode cX12_count 13 = .ok (.ldc2_w 300, 3) := by decide +kernel
theorem dX12_count_16 : decode cX12_count 16 = .ok (.lreturn, 1) := by decide +kernel
theorem dX12_count_17 : decode cX12_count 17 = .ok (.lload_n 2, 1) := by decide +kernel
theorem dX12_count_18 : decode cX12_count 18 = .ok (.lconst 0, 1) := by decide +kernel
theorem dX12_count_19 : decode cX12_count 19 = .ok (.aload_n 0, 1) := by decide +kernel
theorem dX12_count_20 : decode cX12_count 20 = .ok (.invokevirtual 278, 3) := by decide +kernel
theorem dX12_count_23 : decode cX12_count 23 = .ok (.invokestatic 169, 3) := by decide +kernel
theorem dX12_count_26 : decode cX12_count 26 = .ok (.ifCond .ne 7, 3) := by decide +kernel
theorem dX12_count_29 : decode cX12_count 29 = .ok (.ldc2_w 302, 3) := by decide +kernel
theorem dX12_count_32 : decode cX12_count 32 = .ok (.lreturn, 1) := by decide +kernel
theorem dX12_count_33 : decode cX12_count 33 = .ok (.aload_n 0, 1) := by decide +kernel
theorem dX12_count_34 : decode cX12_count 34 = .ok (.iload_n 1, 1) := by decide +kernel
theorem dX12_count_35 : decode cX12_count 35 = .ok (.invokevirtual 304, 3) := by decide +kernel
theorem dX12_count_38 : decode cX12_count 38 = .ok (.aload_n 0, 1) := by decide +kernel
theorem dX12_count_39 : decode cX12_count 39 = .ok (.lload_n 2, 1) := by decide +kernel
theorem dX12_count_40 : decode cX12_count 40 = .ok (.invokevirtual 267, 3) := by decide +kernel
theorem dX12_count_43 : decode cX12_count 43 = .ok (.pop, 1) := by decide +kernel
theorem dX12_count_44 : decode cX12_count 44 = .ok (.aload_n 0, 1) := by decide +kernel
theorem dX12_count_45 : decode cX12_count 45 = .ok (.getfield 260, 3) := by decide +kernel
theorem dX12_count_48 : decode cX12_count 48 = .ok (.lreturn, 1) := by decide +kernel
theorem dX12_place_0 : decode cX12_place 0 = .ok (.aload_n 0, 1) := by decide +kernel
theorem dX12_place_1 : decode cX12_place 1 = .ok (.iconst 0, 1) := by decide +kernel
theorem dX12_place_2 : decode cX12_place 2 = .ok (.putfield 1, 3) := by decide +kernel
theorem dX12_place_5 : decode cX12_place 5 = .ok (.iload_n 1, 1) := by decide +kernel
theorem dX12_place_6 : decode cX12_place 6 = .ok (.i2l, 1) := by decide +kernel
theorem dX12_place_7 : decode cX12_place 7 = .ok (.invokestatic 293, 3) := by decide +kernel
theorem dX12_place_10 : decode cX12_place 10 = .ok (.ifCond .ne 7, 3) := by decide +kernel
theorem dX12_place_13 : decode cX12_place 13 = .ok (.ldc2_w 300, 3) := by decide +kernel
theorem dX12_place_16 : decode cX12_place 16 = .ok (.lreturn, 1) := by decide +kernel
theorem dX12_place_17 : decode cX12_place 17 = .ok (.lload_n 2, 1) := by decide +kernel
theorem dX12_place_18 : decode cX12_place 18 = .ok (.lconst 1, 1) := by decide +kernel
theorem dX12_place_19 : decode cX12_place 19 = .ok (.lcmp, 1) := by decide +kernel
theorem dX12_place_20 : decode cX12_place 20 = .ok (.ifCond .ge 7, 3) := by decide +kernel
theorem dX12_place_23 : decode cX12_place 23 = .ok (.ldc2_w 302, 3) := by decide +kernel
theorem dX12_place_26 : decode cX12_place 26 = .ok (.lreturn, 1) := by decide +kernel
theorem dX12_place_27 : decode cX12_place 27 = .ok (.aload_n 0, 1) := by decide +kernel
theorem dX12_place_28 : decode cX12_place 28 = .ok (.invokevirtual 253, 3) := by decide +kernel
theorem dX12_place_31 : decode cX12_place 31 = .ok (.aload_n 0, 1) := by decide +kernel
theorem dX12_place_32 : decode cX12_place 32 = .ok (.iload_n 1, 1) := by decide +kernel
theorem dX12_place_33 : decode cX12_place 33 = .ok (.invokevirtual 304, 3) := by decide +kernel
theorem dX12_place_36 : decode cX12_place 36 = .ok (.aload_n 0, 1) := by decide +kernel
theorem dX12_place_37 : decode cX12_place 37 = .ok (.aload_n 0, 1) := by decide +kernel
theorem dX12_place_38 : decode cX12_place 38 = .ok (.getfield 37, 3) := by decide +kernel
theorem dX12_place_41 : decode cX12_place 41 = .ok (.invokevirtual 256, 3) := by decide +kernel
theorem dX12_place_44 : decode cX12_place 44 = .ok (.lload_n 2, 1) := by decide +kernel
theorem dX12_place_45 : decode cX12_place 45 = .ok (.lcmp, 1) := by decide +kernel
theorem dX12_place_46 : decode cX12_place 46 = .ok (.ifCond .ge 7, 3) := by decide +kernel
theorem dX12_place_49 : decode cX12_place 49 = .ok (.ldc2_w 307, 3) := by decide +kernel
theorem dX12_place_52 : decode cX12_place 52 = .ok (.lreturn, 1) := by decide +kernel
theorem dX12_place_53 : decode cX12_place 53 = .ok (.lload_n 2, 1) := by decide +kernel
theorem dX12_place_54 : decode cX12_place 54 = .ok (.lstore 4, 2) := by decide +kernel
theorem dX12_place_56 : decode cX12_place 56 = .ok (.lconst 0, 1) := by decide +kernel
theorem dX12_place_57 : decode cX12_place 57 = .ok (.lstore 6, 2) := by decide +kernel
theorem dX12_place_59 : decode cX12_place 59 = .ok (.iconst (-1), 1) := by decide +kernel
theorem dX12_place_60 : decode cX12_place 60 = .ok (.istore 8, 2) := by decide +kernel
theorem dX12_place_62 : decode cX12_place 62 = .ok (.iconst 0, 1) := by decide +kernel
theorem dX12_place_63 : decode cX12_place 63 = .ok (.istore 9, 2) := by decide +kernel
theorem dX12_place_65 : decode cX12_place 65 = .ok (.iload 9, 2) := by decide +kernel
theorem dX12_place_67 : decode cX12_place 67 = .ok (.aload_n 0, 1) := by decide +kernel
theorem dX12_place_68 : decode cX12_place 68 = .ok (.getfield 13, 3) := by decide +kernel
theorem dX12_place_71 : decode cX12_place 71 = .ok (.bipush 113, 2) := by decide +kernel
theorem dX12_place_73 : decode cX12_place 73 = .ok (.iaload, 1) := by decide +kernel
theorem dX12_place_74 : decode cX12_place 74 = .ok (.if_icmp .gt 104, 3) := by decide +kernel
theorem dX12_place_77 : decode cX12_place 77 = .ok (.iconst 0, 1) := by decide +kernel
theorem dX12_place_78 : decode cX12_place 78 = .ok (.istore 10, 2) := by decide +kernel
theorem dX12_place_80 : decode cX12_place 80 = .ok (.aload_n 0, 1) := by decide +kernel
theorem dX12_place_81 : decode cX12_place 81 = .ok (.iload 9, 2) := by decide +kernel
theorem dX12_place_83 : decode cX12_place 83 = .ok (.iconst 1, 1) := by decide +kernel
theorem dX12_place_84 : decode cX12_place 84 = .ok (.isub, 1) := by decide +kernel
theorem dX12_place_85 : decode cX12_place 85 = .ok (.iload 8, 2) := by decide +kernel
theorem dX12_place_87 : decode cX12_place 87 = .ok (.iconst 0, 1) := by decide +kernel
theorem dX12_place_88 : decode cX12_place 88 = .ok (.invokevirtual 264, 3) := by decide +kernel
theorem dX12_place_91 : decode cX12_place 91 = .ok (.istore 11, 2) := by decide +kernel
theorem dX12_place_93 : decode cX12_place 93 = .ok (.lload 4, 2) := by decide +kernel
theorem dX12_place_95 : decode cX12_place 95 = .ok (.aload_n 0, 1) := by decide +kernel
theorem dX12_place_96 : decode cX12_place 96 = .ok (.getfield 37, 3) := by decide +kernel
theorem dX12_place_99 : decode cX12_place 99 = .ok (.bipush 6, 2) := by decide +kernel
theorem dX12_place_101 : decode cX12_place 101 = .ok (.iload 9, 2) := by decide +kernel
theorem dX12_place_103 : decode cX12_place 103 = .ok (.imul, 1) := by decide +kernel
theorem dX12_place_104 : decode cX12_place 104 = .ok (.iload 11, 2) := by decide +kernel
theorem dX12_place_106 : decode cX12_place 106 = .ok (.iadd, 1) := by decide +kernel
theorem dX12_place_107 : decode cX12_place 107 = .ok (.laload, 1) := by decide +kernel
theorem dX12_place_108 : decode cX12_place 108 = .ok (.lcmp, 1) := by decide +kernel
theorem dX12_place_109 : decode cX12_place 109 = .ok (.ifCond .le 59, 3) := by decide +kernel
theorem dX12_place_112 : decode cX12_place 112 = .ok (.lload 4, 2) := by decide +kernel
theorem dX12_place_114 : decode cX12_place 114 = .ok (.aload_n 0, 1) := by decide +kernel
theorem dX12_place_115 : decode cX12_place 115 = .ok (.getfield 37, 3) := by decide +kernel
theorem dX12_place_118 : decode cX12_place 118 = .ok (.bipush 6, 2) := by decide +kernel
theorem dX12_place_120 : decode cX12_place 120 = .ok (.iload 9, 2) := by decide +kernel
theorem dX12_place_122 : decode cX12_place 122 = .ok (.imul, 1) := by decide +kernel
theorem dX12_place_123 : decode cX12_place 123 = .ok (.iload 11, 2) := by decide +kernel
theorem dX12_place_125 : decode cX12_place 125 = .ok (.iadd, 1) := by decide +kernel
theorem dX12_place_126 : decode cX12_place 126 = .ok (.laload, 1) := by decide +kernel
theorem dX12_place_127 : decode cX12_place 127 = .ok (.lsub, 1) := by decide +kernel
theorem dX12_place_128 : decode cX12_place 128 = .ok (.lstore 4, 2) := by decide +kernel
theorem dX12_place_130 : decode cX12_place 130 = .ok (.lload 6, 2) := by decide +kernel
theorem dX12_place_132 : decode cX12_place 132 = .ok (.aload_n 0, 1) := by decide +kernel
theorem dX12_place_133 : decode cX12_place 133 = .ok (.getfield 33, 3) := by decide +kernel
theorem dX12_place_136 : decode cX12_place 136 = .ok (.bipush 6, 2) := by decide +kernel
theorem dX12_place_138 : decode cX12_place 138 = .ok (.iload 9, 2) := by decide +kernel
theorem dX12_place_140 : decode cX12_place 140 = .ok (.imul, 1) := by decide +kernel
theorem dX12_place_141 : decode cX12_place 141 = .ok (.iload 11, 2) := by decide +kernel
theorem dX12_place_143 : decode cX12_place 143 = .ok (.iadd, 1) := by decide +kernel
theorem dX12_place_144 : decode cX12_place 144 = .ok (.laload, 1) := by decide +kernel
theorem dX12_place_145 : decode cX12_place 145 = .ok (.ladd, 1) := by decide +kernel
theorem dX12_place_146 : decode cX12_place 146 = .ok (.lstore 6, 2) := by decide +kernel
theorem dX12_place_148 : decode cX12_place 148 = .ok (.iinc 10 1, 3) := by decide +kernel
theorem dX12_place_151 : decode cX12_place 151 = .ok (.aload_n 0, 1) := by decide +kernel
theorem dX12_place_152 : decode cX12_place 152 = .ok (.iload 9, 2) := by decide +kernel
theorem dX12_place_154 : decode cX12_place 154 = .ok (.iconst 1, 1) := by decide +kernel
theorem dX12_place_155 : decode cX12_place 155 = .ok (.isub, 1) := by decide +kernel
theorem dX12_place_156 : decode cX12_place 156 = .ok (.iload 8, 2) := by decide +kernel
theorem dX12_place_158 : decode cX12_place 158 = .ok (.iload 10, 2) := by decide +kernel
theorem dX12_place_160 : decode cX12_place 160 = .ok (.invokevirtual 264, 3) := by decide +kernel
theorem dX12_place_163 : decode cX12_place 163 = .ok (.istore 11, 2) := by decide +kernel
theorem dX12_place_165 : decode cX12_place 165 = .ok (.goto (-72), 3) := by decide +kernel
theorem dX12_place_168 : decode cX12_place 168 = .ok (.iload 11, 2) := by decide +kernel
theorem dX12_place_170 : decode cX12_place 170 = .ok (.istore 8, 2) := by decide +kernel
theorem dX12_place_172 : decode cX12_place 172 = .ok (.iinc 9 1, 3) := by decide +kernel
theorem dX12_place_175 : decode cX12_place 175 = .ok (.goto (-110), 3) := by decide +kernel
theorem dX12_place_178 : decode cX12_place 178 = .ok (.lload 6, 2) := by decide +kernel
theorem dX12_place_180 : decode cX12_place 180 = .ok (.lreturn, 1) := by decide +kernel
theorem dX12_stores_0 : decode cX12_stores 0 = .ok (.iconst 0, 1) := by decide +kernel
theorem dX12_stores_1 : decode cX12_stores 1 = .ok (.istore_n 1, 1) := by decide +kernel
theorem dX12_stores_2 : decode cX12_stores 2 = .ok (.iload_n 1, 1) := by decide +kernel
theorem dX12_stores_3 : decode cX12_stores 3 = .ok (.iconst 3, 1) := by decide +kernel
theorem dX12_stores_4 : decode cX12_stores 4 = .ok (.if_icmp .ge 24, 3) := by decide +kernel
theorem dX12_stores_7 : decode cX12_stores 7 = .ok (.aload_n 0, 1) := by decide +kernel
theorem dX12_stores_8 : decode cX12_stores 8 = .ok (.getfield 46, 3) := by decide +kernel
theorem dX12_stores_11 : decode cX12_stores 11 = .ok (.iload_n 1, 1) := by decide +kernel
theorem dX12_stores_12 : decode cX12_stores 12 = .ok (.aload_n 0, 1) := by decide +kernel
theorem dX12_stores_13 : decode cX12_stores 13 = .ok (.getfield 13, 3) := by decide +kernel
theorem dX12_stores_16 : decode cX12_stores 16 = .ok (.bipush 111, 2) := by decide +kernel
theorem dX12_stores_18 : decode cX12_stores 18 = .ok (.iload_n 1, 1) := by decide +kernel
theorem dX12_stores_19 : decode cX12_stores 19 = .ok (.iadd, 1) := by decide +kernel
theorem dX12_stores_20 : decode cX12_stores 20 = .ok (.iaload, 1) := by decide +kernel
theorem dX12_stores_21 : decode cX12_stores 21 = .ok (.iastore, 1) := by decide +kernel
theorem dX12_stores_22 : decode cX12_stores 22 = .ok (.iinc 1 1, 3) := by decide +kernel
theorem dX12_stores_25 : decode cX12_stores 25 = .ok (.goto (-23), 3) := by decide +kernel
theorem dX12_stores_28 : decode cX12_stores 28 = .ok (.return_, 1) := by decide +kernel
theorem dX12_isAgain_0 : decode cX12_isAgain 0 = .ok (.iconst 0, 1) := by decide +kernel
theorem dX12_isAgain_1 : decode cX12_isAgain 1 = .ok (.istore_n 1, 1) := by decide +kernel
theorem dX12_isAgain_2 : decode cX12_isAgain 2 = .ok (.iload_n 1, 1) := by decide +kernel
theorem dX12_isAgain_3 : decode cX12_isAgain 3 = .ok (.iconst 3, 1) := by decide +kernel
theorem dX12_isAgain_4 : decode cX12_isAgain 4 = .ok (.if_icmp .ge 24, 3) := by decide +kernel
theorem dX12_isAgain_7 : decode cX12_isAgain 7 = .ok (.aload_n 0, 1) := by decide +kernel
theorem dX12_isAgain_8 : decode cX12_isAgain 8 = .ok (.getfield 13, 3) := by decide +kernel
theorem dX12_isAgain_11 : decode cX12_isAgain 11 = .ok (.bipush 111, 2) := by decide +kernel
theorem dX12_isAgain_13 : decode cX12_isAgain 13 = .ok (.iload_n 1, 1) := by decide +kernel
theorem dX12_isAgain_14 : decode cX12_isAgain 14 = .ok (.iadd, 1) := by decide +kernel
theorem dX12_isAgain_15 : decode cX12_isAgain 15 = .ok (.aload_n 0, 1) := by decide +kernel
theorem dX12_isAgain_16 : decode cX12_isAgain 16 = .ok (.getfield 46, 3) := by decide +kernel
theorem dX12_isAgain_19 : decode cX12_isAgain 19 = .ok (.iload_n 1, 1) := by decide +kernel
theorem dX12_isAgain_20 : decode cX12_isAgain 20 = .ok (.iaload, 1) := by decide +kernel
theorem dX12_isAgain_21 : decode cX12_isAgain 21 = .ok (.iastore, 1) := by decide +kernel
theorem dX12_isAgain_22 : decode cX12_isAgain 22 = .ok (.iinc 1 1, 3) := by decide +kernel
theorem dX12_isAgain_25 : decode cX12_isAgain 25 = .ok (.goto (-23), 3) := by decide +kernel
theorem dX12_isAgain_28 : decode cX12_isAgain 28 = .ok (.return_, 1) := by decide +kernel
theorem dX12_notes_0 : decode cX12_notes 0 = .ok (.aload_n 0, 1) := by decide +kernel
theorem dX12_notes_1 : decode cX12_notes 1 = .ok (.getfield 13, 3) := by decide +kernel
theorem dX12_notes_4 : decode cX12_notes 4 = .ok (.bipush 114, 2) := by decide +kernel
theorem dX12_notes_6 : decode cX12_notes 6 = .ok (.iaload, 1) := by decide +kernel
theorem dX12_notes_7 : decode cX12_notes 7 = .ok (.bipush 10, 2) := by decide +kernel
theorem dX12_notes_9 : decode cX12_notes 9 = .ok (.if_icmp .ne 46, 3) := by decide +kernel
theorem dX12_notes_12 : decode cX12_notes 12 = .ok (.iconst 0, 1) := by decide +kernel
theorem dX12_notes_13 : decode cX12_notes 13 = .ok (.istore_n 1, 1) := by decide +kernel
theorem dX12_notes_14 : decode cX12_notes 14 = .ok (.iload_n 1, 1) := by decide +kernel
theorem dX12_notes_15 : decode cX12_notes 15 = .ok (.bipush 27, 2) := by decide +kernel
theorem dX12_notes_17 : decode cX12_notes 17 = .ok (.if_icmp .ge 27, 3) := by decide +kernel
theorem dX12_notes_20 : decode cX12_notes 20 = .ok (.aload_n 0, 1) := by decide +kernel
theorem dX12_notes_21 : decode cX12_notes 21 = .ok (.getfield 13, 3) := by decide +kernel
theorem dX12_notes_24 : decode cX12_notes 24 = .ok (.bipush 115, 2) := by decide +kernel
theorem dX12_notes_26 : decode cX12_notes 26 = .ok (.iload_n 1, 1) := by decide +kernel
theorem dX12_notes_27 : decode cX12_notes 27 = .ok (.iadd, 1) := by decide +kernel
theorem dX12_notes_28 : decode cX12_notes 28 = .ok (.aload_n 0, 1) := by decide +kernel
theorem dX12_notes_29 : decode cX12_notes 29 = .ok (.getfield 13, 3) := by decide +kernel
theorem dX12_notes_32 : decode cX12_notes 32 = .ok (.bipush 118, 2) := by decide +kernel
theorem dX12_notes_34 : decode cX12_notes 34 = .ok (.iload_n 1, 1) := by decide +kernel
theorem dX12_notes_35 : decode cX12_notes 35 = .ok (.iadd, 1) := by decide +kernel
theorem dX12_notes_36 : decode cX12_notes 36 = .ok (.iaload, 1) := by decide +kernel
theorem dX12_notes_37 : decode cX12_notes 37 = .ok (.iastore, 1) := by decide +kernel
theorem dX12_notes_38 : decode cX12_notes 38 = .ok (.iinc 1 1, 3) := by decide +kernel
theorem dX12_notes_41 : decode cX12_notes 41 = .ok (.goto (-27), 3) := by decide +kernel
theorem dX12_notes_44 : decode cX12_notes 44 = .ok (.aload_n 0, 1) := by decide +kernel
theorem dX12_notes_45 : decode cX12_notes 45 = .ok (.getfield 13, 3) := by decide +kernel
theorem dX12_notes_48 : decode cX12_notes 48 = .ok (.bipush 114, 2) := by decide +kernel
theorem dX12_notes_50 : decode cX12_notes 50 = .ok (.dup2, 1) := by decide +kernel
theorem dX12_notes_51 : decode cX12_notes 51 = .ok (.iaload, 1) := by decide +kernel
theorem dX12_notes_52 : decode cX12_notes 52 = .ok (.iconst 1, 1) := by decide +kernel
theorem dX12_notes_53 : decode cX12_notes 53 = .ok (.isub, 1) := by decide +kernel
theorem dX12_notes_54 : decode cX12_notes 54 = .ok (.iastore, 1) := by decide +kernel
theorem dX12_notes_55 : decode cX12_notes 55 = .ok (.iconst 0, 1) := by decide +kernel
theorem dX12_notes_56 : decode cX12_notes 56 = .ok (.istore_n 1, 1) := by decide +kernel
theorem dX12_notes_57 : decode cX12_notes 57 = .ok (.iload_n 1, 1) := by decide +kernel
theorem dX12_notes_58 : decode cX12_notes 58 = .ok (.iconst 3, 1) := by decide +kernel
theorem dX12_notes_59 : decode cX12_notes 59 = .ok (.if_icmp .ge 34, 3) := by decide +kernel
theorem dX12_notes_62 : decode cX12_notes 62 = .ok (.aload_n 0, 1) := by decide +kernel
theorem dX12_notes_63 : decode cX12_notes 63 = .ok (.getfield 13, 3) := by decide +kernel
theorem dX12_notes_66 : decode cX12_notes 66 = .ok (.bipush 115, 2) := by decide +kernel
theorem dX12_notes_68 : decode cX12_notes 68 = .ok (.iconst 3, 1) := by decide +kernel
theorem dX12_notes_69 : decode cX12_notes 69 = .ok (.aload_n 0, 1) := by decide +kernel
theorem dX12_notes_70 : decode cX12_notes 70 = .ok (.getfield 13, 3) := by decide +kernel
theorem dX12_notes_73 : decode cX12_notes 73 = .ok (.bipush 114, 2) := by decide +kernel
theorem dX12_notes_75 : decode cX12_notes 75 = .ok (.iaload, 1) := by decide +kernel
theorem dX12_notes_76 : decode cX12_notes 76 = .ok (.imul, 1) := by decide +kernel
theorem dX12_notes_77 : decode cX12_notes 77 = .ok (.iadd, 1) := by decide +kernel
theorem dX12_notes_78 : decode cX12_notes 78 = .ok (.iload_n 1, 1) := by decide +kernel
theorem dX12_notes_79 : decode cX12_notes 79 = .ok (.iadd, 1) := by decide +kernel
theorem dX12_notes_80 : decode cX12_notes 80 = .ok (.aload_n 0, 1) := by decide +kernel
theorem dX12_notes_81 : decode cX12_notes 81 = .ok (.getfield 46, 3) := by decide +kernel
theorem dX12_notes_84 : decode cX12_notes 84 = .ok (.iload_n 1, 1) := by decide +kernel
theorem dX12_notes_85 : decode cX12_notes 85 = .ok (.iaload, 1) := by decide +kernel
theorem dX12_notes_86 : decode cX12_notes 86 = .ok (.iastore, 1) := by decide +kernel
theorem dX12_notes_87 : decode cX12_notes 87 = .ok (.iinc 1 1, 3) := by decide +kernel
theorem dX12_notes_90 : decode cX12_notes 90 = .ok (.goto (-33), 3) := by decide +kernel
theorem dX12_notes_93 : decode cX12_notes 93 = .ok (.aload_n 0, 1) := by decide +kernel
theorem dX12_notes_94 : decode cX12_notes 94 = .ok (.getfield 13, 3) := by decide +kernel
theorem dX12_notes_97 : decode cX12_notes 97 = .ok (.bipush 114, 2) := by decide +kernel
theorem dX12_notes_99 : decode cX12_notes 99 = .ok (.dup2, 1) := by decide +kernel
theorem dX12_notes_100 : decode cX12_notes 100 = .ok (.iaload, 1) := by decide +kernel
theorem dX12_notes_101 : decode cX12_notes 101 = .ok (.iconst 1, 1) := by decide +kernel
theorem dX12_notes_102 : decode cX12_notes 102 = .ok (.iadd, 1) := by decide +kernel
theorem dX12_notes_103 : decode cX12_notes 103 = .ok (.iastore, 1) := by decide +kernel
theorem dX12_notes_104 : decode cX12_notes 104 = .ok (.return_, 1) := by decide +kernel
theorem dX12_longBehind_0 : decode cX12_longBehind 0 = .ok (.iconst 0, 1) := by decide +kernel
theorem dX12_longBehind_1 : decode cX12_longBehind 1 = .ok (.istore_n 2, 1) := by decide +kernel
theorem dX12_longBehind_2 : decode cX12_longBehind 2 = .ok (.iload_n 2, 1) := by decide +kernel
theorem dX12_longBehind_3 : decode cX12_longBehind 3 = .ok (.bipush 6, 2) := by decide +kernel
theorem dX12_longBehind_5 : decode cX12_longBehind 5 = .ok (.if_icmp .ge 33, 3) := by decide +kernel
theorem dX12_longBehind_8 : decode cX12_longBehind 8 = .ok (.aload_n 0, 1) := by decide +kernel
theorem dX12_longBehind_9 : decode cX12_longBehind 9 = .ok (.getfield 33, 3) := by decide +kernel
theorem dX12_longBehind_12 : decode cX12_longBehind 12 = .ok (.bipush 6, 2) := by decide +kernel
theorem dX12_longBehind_14 : decode cX12_longBehind 14 = .ok (.aload_n 0, 1) := by decide +kernel
theorem dX12_longBehind_15 : decode cX12_longBehind 15 = .ok (.getfield 13, 3) := by decide +kernel
theorem dX12_longBehind_18 : decode cX12_longBehind 18 = .ok (.bipush 113, 2) := by decide +kernel
theorem dX12_longBehind_20 : decode cX12_longBehind 20 = .ok (.iaload, 1) := by decide +kernel
theorem dX12_longBehind_21 : decode cX12_longBehind 21 = .ok (.imul, 1) := by decide +kernel
theorem dX12_longBehind_22 : decode cX12_longBehind 22 = .ok (.iload_n 2, 1) := by decide +kernel
theorem dX12_longBehind_23 : decode cX12_longBehind 23 = .ok (.iadd, 1) := by decide +kernel
theorem dX12_longBehind_24 : decode cX12_longBehind 24 = .ok (.aload_n 0, 1) := by decide +kernel
theorem dX12_longBehind_25 : decode cX12_longBehind 25 = .ok (.iload_n 1, 1) := by decide +kernel
theorem dX12_longBehind_26 : decode cX12_longBehind 26 = .ok (.iload_n 2, 1) := by decide +kernel
theorem dX12_longBehind_27 : decode cX12_longBehind 27 = .ok (.invokevirtual 239, 3) := by decide +kernel
theorem dX12_longBehind_30 : decode cX12_longBehind 30 = .ok (.i2l, 1) := by decide +kernel
theorem dX12_longBehind_31 : decode cX12_longBehind 31 = .ok (.lastore, 1) := by decide +kernel
theorem dX12_longBehind_32 : decode cX12_longBehind 32 = .ok (.iinc 2 1, 3) := by decide +kernel
theorem dX12_longBehind_35 : decode cX12_longBehind 35 = .ok (.goto (-33), 3) := by decide +kernel
theorem dX12_longBehind_38 : decode cX12_longBehind 38 = .ok (.aload_n 0, 1) := by decide +kernel
theorem dX12_longBehind_39 : decode cX12_longBehind 39 = .ok (.aload_n 0, 1) := by decide +kernel
theorem dX12_longBehind_40 : decode cX12_longBehind 40 = .ok (.getfield 33, 3) := by decide +kernel
theorem dX12_longBehind_43 : decode cX12_longBehind 43 = .ok (.invokevirtual 249, 3) := by decide +kernel
theorem dX12_longBehind_46 : decode cX12_longBehind 46 = .ok (.aload_n 0, 1) := by decide +kernel
theorem dX12_longBehind_47 : decode cX12_longBehind 47 = .ok (.aload_n 0, 1) := by decide +kernel
theorem dX12_longBehind_48 : decode cX12_longBehind 48 = .ok (.getfield 33, 3) := by decide +kernel
theorem dX12_longBehind_51 : decode cX12_longBehind 51 = .ok (.invokevirtual 256, 3) := by decide +kernel
theorem dX12_longBehind_54 : decode cX12_longBehind 54 = .ok (.lreturn, 1) := by decide +kernel
theorem dX12_whyNight_0 : decode cX12_whyNight 0 = .ok (.lload_n 1, 1) := by decide +kernel
theorem dX12_whyNight_1 : decode cX12_whyNight 1 = .ok (.lconst 0, 1) := by decide +kernel
theorem dX12_whyNight_2 : decode cX12_whyNight 2 = .ok (.aload_n 0, 1) := by decide +kernel
theorem dX12_whyNight_3 : decode cX12_whyNight 3 = .ok (.getfield 13, 3) := by decide +kernel
theorem dX12_whyNight_6 : decode cX12_whyNight 6 = .ok (.iconst 1, 1) := by decide +kernel
theorem dX12_whyNight_7 : decode cX12_whyNight 7 = .ok (.iaload, 1) := by decide +kernel
theorem dX12_whyNight_8 : decode cX12_whyNight 8 = .ok (.i2l, 1) := by decide +kernel
theorem dX12_whyNight_9 : decode cX12_whyNight 9 = .ok (.invokestatic 169, 3) := by decide +kernel
theorem dX12_whyNight_12 : decode cX12_whyNight 12 = .ok (.ifCond .ne 5, 3) := by decide +kernel
theorem dX12_whyNight_15 : decode cX12_whyNight 15 = .ok (.iconst 1, 1) := by decide +kernel
theorem dX12_whyNight_16 : decode cX12_whyNight 16 = .ok (.ireturn, 1) := by decide +kernel
theorem dX12_whyNight_17 : decode cX12_whyNight 17 = .ok (.aload_n 0, 1) := by decide +kernel
theorem dX12_whyNight_18 : decode cX12_whyNight 18 = .ok (.lload_n 1, 1) := by decide +kernel
theorem dX12_whyNight_19 : decode cX12_whyNight 19 = .ok (.lconst 0, 1) := by decide +kernel
theorem dX12_whyNight_20 : decode cX12_whyNight 20 = .ok (.lcmp, 1) := by decide +kernel
theorem dX12_whyNight_21 : decode cX12_whyNight 21 = .ok (.ifCond .ne 10, 3) := by decide +kernel
theorem dX12_whyNight_24 : decode cX12_whyNight 24 = .ok (.aload_n 0, 1) := by decide +kernel
theorem dX12_whyNight_25 : decode cX12_whyNight 25 = .ok (.invokevirtual 297, 3) := by decide +kernel
theorem dX12_whyNight_28 : decode cX12_whyNight 28 = .ok (.goto 7, 3) := by decide +kernel
theorem dX12_whyNight_31 : decode cX12_whyNight 31 = .ok (.lload_n 1, 1) := by decide +kernel
theorem dX12_whyNight_32 : decode cX12_whyNight 32 = .ok (.l2i, 1) := by decide +kernel
theorem dX12_whyNight_33 : decode cX12_whyNight 33 = .ok (.iconst 1, 1) := by decide +kernel
theorem dX12_whyNight_34 : decode cX12_whyNight 34 = .ok (.isub, 1) := by decide +kernel
theorem dX12_whyNight_35 : decode cX12_whyNight 35 = .ok (.putfield 309, 3) := by decide +kernel
theorem dX12_whyNight_38 : decode cX12_whyNight 38 = .ok (.aload_n 0, 1) := by decide +kernel
theorem dX12_whyNight_39 : decode cX12_whyNight 39 = .ok (.getfield 309, 3) := by decide +kernel
theorem dX12_whyNight_42 : decode cX12_whyNight 42 = .ok (.iconst (-1), 1) := by decide +kernel
theorem dX12_whyNight_43 : decode cX12_whyNight 43 = .ok (.if_icmp .ne 5, 3) := by decide +kernel
theorem dX12_whyNight_46 : decode cX12_whyNight 46 = .ok (.iconst 0, 1) := by decide +kernel
theorem dX12_whyNight_47 : decode cX12_whyNight 47 = .ok (.ireturn, 1) := by decide +kernel
theorem dX12_whyNight_48 : decode cX12_whyNight 48 = .ok (.aload_n 0, 1) := by decide +kernel
theorem dX12_whyNight_49 : decode cX12_whyNight 49 = .ok (.getfield 13, 3) := by decide +kernel
theorem dX12_whyNight_52 : decode cX12_whyNight 52 = .ok (.bipush 113, 2) := by decide +kernel
theorem dX12_whyNight_54 : decode cX12_whyNight 54 = .ok (.iaload, 1) := by decide +kernel
theorem dX12_whyNight_55 : decode cX12_whyNight 55 = .ok (.bipush 60, 2) := by decide +kernel
theorem dX12_whyNight_57 : decode cX12_whyNight 57 = .ok (.if_icmp .ne 7, 3) := by decide +kernel
theorem dX12_whyNight_60 : decode cX12_whyNight 60 = .ok (.iconst 2, 1) := by decide +kernel
theorem dX12_whyNight_61 : decode cX12_whyNight 61 = .ok (.goto 23, 3) := by decide +kernel
theorem dX12_whyNight_64 : decode cX12_whyNight 64 = .ok (.aload_n 0, 1) := by decide +kernel
theorem dX12_whyNight_65 : decode cX12_whyNight 65 = .ok (.aload_n 0, 1) := by decide +kernel
theorem dX12_whyNight_66 : decode cX12_whyNight 66 = .ok (.getfield 309, 3) := by decide +kernel
theorem dX12_whyNight_69 : decode cX12_whyNight 69 = .ok (.invokevirtual 312, 3) := by decide +kernel
theorem dX12_whyNight_72 : decode cX12_whyNight 72 = .ok (.ldc2_w 316, 3) := by decide +kernel
theorem dX12_whyNight_75 : decode cX12_whyNight 75 = .ok (.lcmp, 1) := by decide +kernel
theorem dX12_whyNight_76 : decode cX12_whyNight 76 = .ok (.ifCond .le 7, 3) := by decide +kernel
theorem dX12_whyNight_79 : decode cX12_whyNight 79 = .ok (.iconst 3, 1) := by decide +kernel
theorem dX12_whyNight_80 : decode cX12_whyNight 80 = .ok (.goto 4, 3) := by decide +kernel
theorem dX12_whyNight_83 : decode cX12_whyNight 83 = .ok (.iconst 0, 1) := by decide +kernel
theorem dX12_whyNight_84 : decode cX12_whyNight 84 = .ok (.ireturn, 1) := by decide +kernel
theorem dX12_goesNight_0 : decode cX12_goesNight 0 = .ok (.aload_n 0, 1) := by decide +kernel
theorem dX12_goesNight_1 : decode cX12_goesNight 1 = .ok (.getfield 13, 3) := by decide +kernel
theorem dX12_goesNight_4 : decode cX12_goesNight 4 = .ok (.bipush 112, 2) := by decide +kernel
theorem dX12_goesNight_6 : decode cX12_goesNight 6 = .ok (.dup2, 1) := by decide +kernel
theorem dX12_goesNight_7 : decode cX12_goesNight 7 = .ok (.iaload, 1) := by decide +kernel
theorem dX12_goesNight_8 : decode cX12_goesNight 8 = .ok (.iconst 1, 1) := by decide +kernel
theorem dX12_goesNight_9 : decode cX12_goesNight 9 = .ok (.iadd, 1) := by decide +kernel
theorem dX12_goesNight_10 : decode cX12_goesNight 10 = .ok (.iastore, 1) := by decide +kernel
theorem dX12_goesNight_11 : decode cX12_goesNight 11 = .ok (.aload_n 0, 1) := by decide +kernel
theorem dX12_goesNight_12 : decode cX12_goesNight 12 = .ok (.getfield 309, 3) := by decide +kernel
theorem dX12_goesNight_15 : decode cX12_goesNight 15 = .ok (.iconst (-1), 1) := by decide +kernel
theorem dX12_goesNight_16 : decode cX12_goesNight 16 = .ok (.if_icmp .ne 4, 3) := by decide +kernel
theorem dX12_goesNight_19 : decode cX12_goesNight 19 = .ok (.return_, 1) := by decide +kernel
theorem dX12_goesNight_20 : decode cX12_goesNight 20 = .ok (.aload_n 0, 1) := by decide +kernel
theorem dX12_goesNight_21 : decode cX12_goesNight 21 = .ok (.getfield 13, 3) := by decide +kernel
theorem dX12_goesNight_24 : decode cX12_goesNight 24 = .ok (.sipush 145, 3) := by decide +kernel
theorem dX12_goesNight_27 : decode cX12_goesNight 27 = .ok (.aload_n 0, 1) := by decide +kernel
theorem dX12_goesNight_28 : decode cX12_goesNight 28 = .ok (.getfield 13, 3) := by decide +kernel
theorem dX12_goesNight_31 : decode cX12_goesNight 31 = .ok (.bipush 113, 2) := by decide +kernel
theorem dX12_goesNight_33 : decode cX12_goesNight 33 = .ok (.iaload, 1) := by decide +kernel
theorem dX12_goesNight_34 : decode cX12_goesNight 34 = .ok (.iadd, 1) := by decide +kernel
theorem dX12_goesNight_35 : decode cX12_goesNight 35 = .ok (.aload_n 0, 1) := by decide +kernel
theorem dX12_goesNight_36 : decode cX12_goesNight 36 = .ok (.getfield 309, 3) := by decide +kernel
theorem dX12_goesNight_39 : decode cX12_goesNight 39 = .ok (.iastore, 1) := by decide +kernel
theorem dX12_goesNight_40 : decode cX12_goesNight 40 = .ok (.aload_n 0, 1) := by decide +kernel
theorem dX12_goesNight_41 : decode cX12_goesNight 41 = .ok (.getfield 13, 3) := by decide +kernel
theorem dX12_goesNight_44 : decode cX12_goesNight 44 = .ok (.bipush 113, 2) := by decide +kernel
theorem dX12_goesNight_46 : decode cX12_goesNight 46 = .ok (.dup2, 1) := by decide +kernel
theorem dX12_goesNight_47 : decode cX12_goesNight 47 = .ok (.iaload, 1) := by decide +kernel
theorem dX12_goesNight_48 : decode cX12_goesNight 48 = .ok (.iconst 1, 1) := by decide +kernel
theorem dX12_goesNight_49 : decode cX12_goesNight 49 = .ok (.iadd, 1) := by decide +kernel
theorem dX12_goesNight_50 : decode cX12_goesNight 50 = .ok (.iastore, 1) := by decide +kernel
theorem dX12_goesNight_51 : decode cX12_goesNight 51 = .ok (.return_, 1) := by decide +kernel
theorem dX12_night_0 : decode cX12_night 0 = .ok (.aload_n 0, 1) := by decide +kernel
theorem dX12_night_1 : decode cX12_night 1 = .ok (.iconst 0, 1) := by decide +kernel
theorem dX12_night_2 : decode cX12_night 2 = .ok (.putfield 1, 3) := by decide +kernel
theorem dX12_night_5 : decode cX12_night 5 = .ok (.aload_n 0, 1) := by decide +kernel
theorem dX12_night_6 : decode cX12_night 6 = .ok (.iload_n 1, 1) := by decide +kernel
theorem dX12_night_7 : decode cX12_night 7 = .ok (.i2l, 1) := by decide +kernel
theorem dX12_night_8 : decode cX12_night 8 = .ok (.invokevirtual 318, 3) := by decide +kernel
theorem dX12_night_11 : decode cX12_night 11 = .ok (.istore_n 2, 1) := by decide +kernel
theorem dX12_night_12 : decode cX12_night 12 = .ok (.iload_n 2, 1) := by decide +kernel
theorem dX12_night_13 : decode cX12_night 13 = .ok (.ifCond .eq 9, 3) := by decide +kernel
theorem dX12_night_16 : decode cX12_night 16 = .ok (.bipush (-10), 2) := by decide +kernel
theorem dX12_night_18 : decode cX12_night 18 = .ok (.iload_n 2, 1) := by decide +kernel
theorem dX12_night_19 : decode cX12_night 19 = .ok (.isub, 1) := by decide +kernel
theorem dX12_night_20 : decode cX12_night 20 = .ok (.i2l, 1) := by decide +kernel
theorem dX12_night_21 : decode cX12_night 21 = .ok (.lreturn, 1) := by decide +kernel
theorem dX12_night_22 : decode cX12_night 22 = .ok (.aload_n 0, 1) := by decide +kernel
theorem dX12_night_23 : decode cX12_night 23 = .ok (.invokevirtual 321, 3) := by decide +kernel
theorem dX12_night_26 : decode cX12_night 26 = .ok (.aload_n 0, 1) := by decide +kernel
theorem dX12_night_27 : decode cX12_night 27 = .ok (.invokevirtual 324, 3) := by decide +kernel
theorem dX12_night_30 : decode cX12_night 30 = .ok (.aload_n 0, 1) := by decide +kernel
theorem dX12_night_31 : decode cX12_night 31 = .ok (.invokevirtual 327, 3) := by decide +kernel
theorem dX12_night_34 : decode cX12_night 34 = .ok (.aload_n 0, 1) := by decide +kernel
theorem dX12_night_35 : decode cX12_night 35 = .ok (.invokevirtual 278, 3) := by decide +kernel
theorem dX12_night_38 : decode cX12_night 38 = .ok (.lreturn, 1) := by decide +kernel
theorem dX12_nights_0 : decode cX12_nights 0 = .ok (.aload_n 0, 1) := by decide +kernel
theorem dX12_nights_1 : decode cX12_nights 1 = .ok (.iconst 0, 1) := by decide +kernel
theorem dX12_nights_2 : decode cX12_nights 2 = .ok (.putfield 1, 3) := by decide +kernel
theorem dX12_nights_5 : decode cX12_nights 5 = .ok (.iload_n 1, 1) := by decide +kernel
theorem dX12_nights_6 : decode cX12_nights 6 = .ok (.i2l, 1) := by decide +kernel
theorem dX12_nights_7 : decode cX12_nights 7 = .ok (.lconst 1, 1) := by decide +kernel
theorem dX12_nights_8 : decode cX12_nights 8 = .ok (.ldc2_w 330, 3) := by decide +kernel
theorem dX12_nights_11 : decode cX12_nights 11 = .ok (.invokestatic 169, 3) := by decide +kernel
theorem dX12_nights_14 : decode cX12_nights 14 = .ok (.ifCond .ne 6, 3) := by decide +kernel
theorem dX12_nights_17 : decode cX12_nights 17 = .ok (.bipush (-3), 2) := by decide +kernel
theorem dX12_nights_19 : decode cX12_nights 19 = .ok (.ireturn, 1) := by decide +kernel
theorem dX12_nights_20 : decode cX12_nights 20 = .ok (.aload_n 0, 1) := by decide +kernel
theorem dX12_nights_21 : decode cX12_nights 21 = .ok (.invokevirtual 321, 3) := by decide +kernel
theorem dX12_nights_24 : decode cX12_nights 24 = .ok (.iconst 0, 1) := by decide +kernel
theorem dX12_nights_25 : decode cX12_nights 25 = .ok (.istore_n 2, 1) := by decide +kernel
theorem dX12_nights_26 : decode cX12_nights 26 = .ok (.iload_n 2, 1) := by decide +kernel
theorem dX12_nights_27 : decode cX12_nights 27 = .ok (.iload_n 1, 1) := by decide +kernel
theorem dX12_nights_28 : decode cX12_nights 28 = .ok (.if_icmp .ge 21, 3) := by decide +kernel
theorem dX12_nights_31 : decode cX12_nights 31 = .ok (.aload_n 0, 1) := by decide +kernel
theorem dX12_nights_32 : decode cX12_nights 32 = .ok (.lconst 0, 1) := by decide +kernel
theorem dX12_nights_33 : decode cX12_nights 33 = .ok (.invokevirtual 318, 3) := by decide +kernel
theorem dX12_nights_36 : decode cX12_nights 36 = .ok (.ifCond .ne 13, 3) := by decide +kernel
theorem dX12_nights_39 : decode cX12_nights 39 = .ok (.aload_n 0, 1) := by decide +kernel
theorem dX12_nights_40 : decode cX12_nights 40 = .ok (.invokevirtual 324, 3) := by decide +kernel
theorem dX12_nights_43 : decode cX12_nights 43 = .ok (.iinc 2 1, 3) := by decide +kernel
theorem dX12_nights_46 : decode cX12_nights 46 = .ok (.goto (-20), 3) := by decide +kernel
theorem dX12_nights_49 : decode cX12_nights 49 = .ok (.iload_n 2, 1) := by decide +kernel
theorem dX12_nights_50 : decode cX12_nights 50 = .ok (.ifCond .le 7, 3) := by decide +kernel
theorem dX12_nights_53 : decode cX12_nights 53 = .ok (.aload_n 0, 1) := by decide +kernel
theorem dX12_nights_54 : decode cX12_nights 54 = .ok (.invokevirtual 327, 3) := by decide +kernel
theorem dX12_nights_57 : decode cX12_nights 57 = .ok (.iload_n 2, 1) := by decide +kernel
theorem dX12_nights_58 : decode cX12_nights 58 = .ok (.ireturn, 1) := by decide +kernel
theorem dX12_moon_0 : decode cX12_moon 0 = .ok (.aload_n 0, 1) := by decide +kernel
theorem dX12_moon_1 : decode cX12_moon 1 = .ok (.iconst 0, 1) := by decide +kernel
theorem dX12_moon_2 : decode cX12_moon 2 = .ok (.putfield 1, 3) := by decide +kernel
theorem dX12_moon_5 : decode cX12_moon 5 = .ok (.iload_n 1, 1) := by decide +kernel
theorem dX12_moon_6 : decode cX12_moon 6 = .ok (.i2l, 1) := by decide +kernel
theorem dX12_moon_7 : decode cX12_moon 7 = .ok (.lconst 0, 1) := by decide +kernel
theorem dX12_moon_8 : decode cX12_moon 8 = .ok (.ldc2_w 332, 3) := by decide +kernel
theorem dX12_moon_11 : decode cX12_moon 11 = .ok (.invokestatic 169, 3) := by decide +kernel
theorem dX12_moon_14 : decode cX12_moon 14 = .ok (.ifCond .ne 6, 3) := by decide +kernel
theorem dX12_moon_17 : decode cX12_moon 17 = .ok (.bipush (-11), 2) := by decide +kernel
theorem dX12_moon_19 : decode cX12_moon 19 = .ok (.ireturn, 1) := by decide +kernel
theorem dX12_moon_20 : decode cX12_moon 20 = .ok (.aload_n 0, 1) := by decide +kernel
theorem dX12_moon_21 : decode cX12_moon 21 = .ok (.invokevirtual 321, 3) := by decide +kernel
theorem dX12_moon_24 : decode cX12_moon 24 = .ok (.aload_n 0, 1) := by decide +kernel
theorem dX12_moon_25 : decode cX12_moon 25 = .ok (.getfield 13, 3) := by decide +kernel
theorem dX12_moon_28 : decode cX12_moon 28 = .ok (.bipush 111, 2) := by decide +kernel
theorem dX12_moon_30 : decode cX12_moon 30 = .ok (.iload_n 1, 1) := by decide +kernel
theorem dX12_moon_31 : decode cX12_moon 31 = .ok (.iastore, 1) := by decide +kernel
theorem dX12_moon_32 : decode cX12_moon 32 = .ok (.aload_n 0, 1) := by decide +kernel
theorem dX12_moon_33 : decode cX12_moon 33 = .ok (.invokevirtual 327, 3) := by decide +kernel
theorem dX12_moon_36 : decode cX12_moon 36 = .ok (.aload_n 0, 1) := by decide +kernel
theorem dX12_moon_37 : decode cX12_moon 37 = .ok (.getfield 46, 3) := by decide +kernel
theorem dX12_moon_40 : decode cX12_moon 40 = .ok (.iconst 0, 1) := by decide +kernel
theorem dX12_moon_41 : decode cX12_moon 41 = .ok (.iaload, 1) := by decide +kernel
theorem dX12_moon_42 : decode cX12_moon 42 = .ok (.ireturn, 1) := by decide +kernel
theorem dX12_undo_0 : decode cX12_undo 0 = .ok (.aload_n 0, 1) := by decide +kernel
theorem dX12_undo_1 : decode cX12_undo 1 = .ok (.iconst 0, 1) := by decide +kernel
theorem dX12_undo_2 : decode cX12_undo 2 = .ok (.putfield 1, 3) := by decide +kernel
theorem dX12_undo_5 : decode cX12_undo 5 = .ok (.iload_n 1, 1) := by decide +kernel
theorem dX12_undo_6 : decode cX12_undo 6 = .ok (.i2l, 1) := by decide +kernel
theorem dX12_undo_7 : decode cX12_undo 7 = .ok (.lconst 1, 1) := by decide +kernel
theorem dX12_undo_8 : decode cX12_undo 8 = .ok (.ldc2_w 285, 3) := by decide +kernel
theorem dX12_undo_11 : decode cX12_undo 11 = .ok (.invokestatic 169, 3) := by decide +kernel
theorem dX12_undo_14 : decode cX12_undo 14 = .ok (.ifCond .eq 14, 3) := by decide +kernel
theorem dX12_undo_17 : decode cX12_undo 17 = .ok (.iload_n 1, 1) := by decide +kernel
theorem dX12_undo_18 : decode cX12_undo 18 = .ok (.aload_n 0, 1) := by decide +kernel
theorem dX12_undo_19 : decode cX12_undo 19 = .ok (.getfield 13, 3) := by decide +kernel
theorem dX12_undo_22 : decode cX12_undo 22 = .ok (.bipush 114, 2) := by decide +kernel
theorem dX12_undo_24 : decode cX12_undo 24 = .ok (.iaload, 1) := by decide +kernel
theorem dX12_undo_25 : decode cX12_undo 25 = .ok (.if_icmp .le 6, 3) := by decide +kernel
theorem dX12_undo_28 : decode cX12_undo 28 = .ok (.bipush (-3), 2) := by decide +kernel
theorem dX12_undo_30 : decode cX12_undo 30 = .ok (.ireturn, 1) := by decide +kernel
theorem dX12_undo_31 : decode cX12_undo 31 = .ok (.aload_n 0, 1) := by decide +kernel
theorem dX12_undo_32 : decode cX12_undo 32 = .ok (.getfield 13, 3) := by decide +kernel
theorem dX12_undo_35 : decode cX12_undo 35 = .ok (.bipush 114, 2) := by decide +kernel
theorem dX12_undo_37 : decode cX12_undo 37 = .ok (.dup2, 1) := by decide +kernel
theorem dX12_undo_38 : decode cX12_undo 38 = .ok (.iaload, 1) := by decide +kernel
theorem dX12_undo_39 : decode cX12_undo 39 = .ok (.iload_n 1, 1) := by decide +kernel
theorem dX12_undo_40 : decode cX12_undo 40 = .ok (.isub, 1) := by decide +kernel
theorem dX12_undo_41 : decode cX12_undo 41 = .ok (.iastore, 1) := by decide +kernel
theorem dX12_undo_42 : decode cX12_undo 42 = .ok (.iconst 0, 1) := by decide +kernel
theorem dX12_undo_43 : decode cX12_undo 43 = .ok (.istore_n 2, 1) := by decide +kernel
theorem dX12_undo_44 : decode cX12_undo 44 = .ok (.iload_n 2, 1) := by decide +kernel
theorem dX12_undo_45 : decode cX12_undo 45 = .ok (.iconst 3, 1) := by decide +kernel
theorem dX12_undo_46 : decode cX12_undo 46 = .ok (.if_icmp .ge 37, 3) := by decide +kernel
theorem dX12_undo_49 : decode cX12_undo 49 = .ok (.aload_n 0, 1) := by decide +kernel
theorem dX12_undo_50 : decode cX12_undo 50 = .ok (.getfield 13, 3) := by decide +kernel
theorem dX12_undo_53 : decode cX12_undo 53 = .ok (.bipush 111, 2) := by decide +kernel
theorem dX12_undo_55 : decode cX12_undo 55 = .ok (.iload_n 2, 1) := by decide +kernel
theorem dX12_undo_56 : decode cX12_undo 56 = .ok (.iadd, 1) := by decide +kernel
theorem dX12_undo_57 : decode cX12_undo 57 = .ok (.aload_n 0, 1) := by decide +kernel
theorem dX12_undo_58 : decode cX12_undo 58 = .ok (.getfield 13, 3) := by decide +kernel
theorem dX12_undo_61 : decode cX12_undo 61 = .ok (.bipush 115, 2) := by decide +kernel
theorem dX12_undo_63 : decode cX12_undo 63 = .ok (.iconst 3, 1) := by decide +kernel
theorem dX12_undo_64 : decode cX12_undo 64 = .ok (.aload_n 0, 1) := by decide +kernel
theorem dX12_undo_65 : decode cX12_undo 65 = .ok (.getfield 13, 3) := by decide +kernel
theorem dX12_undo_68 : decode cX12_undo 68 = .ok (.bipush 114, 2) := by decide +kernel
theorem dX12_undo_70 : decode cX12_undo 70 = .ok (.iaload, 1) := by decide +kernel
theorem dX12_undo_71 : decode cX12_undo 71 = .ok (.imul, 1) := by decide +kernel
theorem dX12_undo_72 : decode cX12_undo 72 = .ok (.iadd, 1) := by decide +kernel
theorem dX12_undo_73 : decode cX12_undo 73 = .ok (.iload_n 2, 1) := by decide +kernel
theorem dX12_undo_74 : decode cX12_undo 74 = .ok (.iadd, 1) := by decide +kernel
theorem dX12_undo_75 : decode cX12_undo 75 = .ok (.iaload, 1) := by decide +kernel
theorem dX12_undo_76 : decode cX12_undo 76 = .ok (.iastore, 1) := by decide +kernel
theorem dX12_undo_77 : decode cX12_undo 77 = .ok (.iinc 2 1, 3) := by decide +kernel
theorem dX12_undo_80 : decode cX12_undo 80 = .ok (.goto (-36), 3) := by decide +kernel
theorem dX12_undo_83 : decode cX12_undo 83 = .ok (.aload_n 0, 1) := by decide +kernel
theorem dX12_undo_84 : decode cX12_undo 84 = .ok (.getfield 13, 3) := by decide +kernel
theorem dX12_undo_87 : decode cX12_undo 87 = .ok (.bipush 114, 2) := by decide +kernel
theorem dX12_undo_89 : decode cX12_undo 89 = .ok (.iaload, 1) := by decide +kernel
theorem dX12_undo_90 : decode cX12_undo 90 = .ok (.ireturn, 1) := by decide +kernel
theorem dX12_whyNot_0 : decode cX12_whyNot 0 = .ok (.lload_n 1, 1) := by decide +kernel
theorem dX12_whyNot_1 : decode cX12_whyNot 1 = .ok (.lconst 0, 1) := by decide +kernel
theorem dX12_whyNot_2 : decode cX12_whyNot 2 = .ok (.ldc2_w 334, 3) := by decide +kernel
theorem dX12_whyNot_5 : decode cX12_whyNot 5 = .ok (.invokestatic 169, 3) := by decide +kernel
theorem dX12_whyNot_8 : decode cX12_whyNot 8 = .ok (.ifCond .eq 9, 3) := by decide +kernel
theorem dX12_whyNot_11 : decode cX12_whyNot 11 = .ok (.aload_n 0, 1) := by decide +kernel
theorem dX12_whyNot_12 : decode cX12_whyNot 12 = .ok (.lload_n 1, 1) := by decide +kernel
theorem dX12_whyNot_13 : decode cX12_whyNot 13 = .ok (.invokevirtual 318, 3) := by decide +kernel
theorem dX12_whyNot_16 : decode cX12_whyNot 16 = .ok (.ireturn, 1) := by decide +kernel
theorem dX12_whyNot_17 : decode cX12_whyNot 17 = .ok (.lload_n 1, 1) := by decide +kernel
theorem dX12_whyNot_18 : decode cX12_whyNot 18 = .ok (.ldc2_w 285, 3) := by decide +kernel
theorem dX12_whyNot_21 : decode cX12_whyNot 21 = .ok (.ldc2_w 336, 3) := by decide +kernel
theorem dX12_whyNot_24 : decode cX12_whyNot 24 = .ok (.invokestatic 169, 3) := by decide +kernel
theorem dX12_whyNot_27 : decode cX12_whyNot 27 = .ok (.ifCond .eq 7, 3) := by decide +kernel
theorem dX12_whyNot_30 : decode cX12_whyNot 30 = .ok (.iconst 0, 1) := by decide +kernel
theorem dX12_whyNot_31 : decode cX12_whyNot 31 = .ok (.goto 4, 3) := by decide +kernel
theorem dX12_whyNot_34 : decode cX12_whyNot 34 = .ok (.iconst 1, 1) := by decide +kernel
theorem dX12_whyNot_35 : decode cX12_whyNot 35 = .ok (.ireturn, 1) := by decide +kernel
theorem dX12_does_0 : decode cX12_does 0 = .ok (.iload_n 1, 1) := by decide +kernel
theorem dX12_does_1 : decode cX12_does 1 = .ok (.bipush 10, 2) := by decide +kernel
theorem dX12_does_3 : decode cX12_does 3 = .ok (.if_icmp .ge 10, 3) := by decide +kernel
theorem dX12_does_6 : decode cX12_does 6 = .ok (.aload_n 0, 1) := by decide +kernel
theorem dX12_does_7 : decode cX12_does 7 = .ok (.invokevirtual 324, 3) := by decide +kernel
theorem dX12_does_10 : decode cX12_does 10 = .ok (.goto 14, 3) := by decide +kernel
theorem dX12_does_13 : decode cX12_does 13 = .ok (.aload_n 0, 1) := by decide +kernel
theorem dX12_does_14 : decode cX12_does 14 = .ok (.getfield 13, 3) := by decide +kernel
theorem dX12_does_17 : decode cX12_does 17 = .ok (.bipush 111, 2) := by decide +kernel
theorem dX12_does_19 : decode cX12_does 19 = .ok (.iload_n 1, 1) := by decide +kernel
theorem dX12_does_20 : decode cX12_does 20 = .ok (.bipush 10, 2) := by decide +kernel
theorem dX12_does_22 : decode cX12_does 22 = .ok (.isub, 1) := by decide +kernel
theorem dX12_does_23 : decode cX12_does 23 = .ok (.iastore, 1) := by decide +kernel
theorem dX12_does_24 : decode cX12_does 24 = .ok (.return_, 1) := by decide +kernel
theorem dX12_tells_0 : decode cX12_tells 0 = .ok (.aload_n 0, 1) := by decide +kernel
theorem dX12_tells_1 : decode cX12_tells 1 = .ok (.iconst 0, 1) := by decide +kernel
theorem dX12_tells_2 : decode cX12_tells 2 = .ok (.putfield 338, 3) := by decide +kernel
theorem dX12_tells_5 : decode cX12_tells 5 = .ok (.iconst 0, 1) := by decide +kernel
theorem dX12_tells_6 : decode cX12_tells 6 = .ok (.istore_n 2, 1) := by decide +kernel
theorem dX12_tells_7 : decode cX12_tells 7 = .ok (.iload_n 2, 1) := by decide +kernel
theorem dX12_tells_8 : decode cX12_tells 8 = .ok (.aload_n 0, 1) := by decide +kernel
theorem dX12_tells_9 : decode cX12_tells 9 = .ok (.getfield 97, 3) := by decide +kernel
theorem dX12_tells_12 : decode cX12_tells 12 = .ok (.iload_n 1, 1) := by decide +kernel
theorem dX12_tells_13 : decode cX12_tells 13 = .ok (.iaload, 1) := by decide +kernel
theorem dX12_tells_14 : decode cX12_tells 14 = .ok (.if_icmp .ge 53, 3) := by decide +kernel
theorem dX12_tells_17 : decode cX12_tells 17 = .ok (.aload_n 0, 1) := by decide +kernel
theorem dX12_tells_18 : decode cX12_tells 18 = .ok (.aload_n 0, 1) := by decide +kernel
theorem dX12_tells_19 : decode cX12_tells 19 = .ok (.aload_n 0, 1) := by decide +kernel
theorem dX12_tells_20 : decode cX12_tells 20 = .ok (.getfield 100, 3) := by decide +kernel
theorem dX12_tells_23 : decode cX12_tells 23 = .ok (.bipush 40, 2) := by decide +kernel
theorem dX12_tells_25 : decode cX12_tells 25 = .ok (.iload_n 1, 1) := by decide +kernel
theorem dX12_tells_26 : decode cX12_tells 26 = .ok (.imul, 1) := by decide +kernel
theorem dX12_tells_27 : decode cX12_tells 27 = .ok (.iload_n 2, 1) := by decide +kernel
theorem dX12_tells_28 : decode cX12_tells 28 = .ok (.iadd, 1) := by decide +kernel
theorem dX12_tells_29 : decode cX12_tells 29 = .ok (.laload, 1) := by decide +kernel
theorem dX12_tells_30 : decode cX12_tells 30 = .ok (.invokevirtual 341, 3) := by decide +kernel
theorem dX12_tells_33 : decode cX12_tells 33 = .ok (.putfield 338, 3) := by decide +kernel
theorem dX12_tells_36 : decode cX12_tells 36 = .ok (.aload_n 0, 1) := by decide +kernel
theorem dX12_tells_37 : decode cX12_tells 37 = .ok (.getfield 338, 3) := by decide +kernel
theorem dX12_tells_40 : decode cX12_tells 40 = .ok (.ifCond .eq 5, 3) := by decide +kernel
theorem dX12_tells_43 : decode cX12_tells 43 = .ok (.iload_n 2, 1) := by decide +kernel
theorem dX12_tells_44 : decode cX12_tells 44 = .ok (.ireturn, 1) := by decide +kernel
theorem dX12_tells_45 : decode cX12_tells 45 = .ok (.aload_n 0, 1) := by decide +kernel
theorem dX12_tells_46 : decode cX12_tells 46 = .ok (.aload_n 0, 1) := by decide +kernel
theorem dX12_tells_47 : decode cX12_tells 47 = .ok (.getfield 100, 3) := by decide +kernel
theorem dX12_tells_50 : decode cX12_tells 50 = .ok (.bipush 40, 2) := by decide +kernel
theorem dX12_tells_52 : decode cX12_tells 52 = .ok (.iload_n 1, 1) := by decide +kernel
theorem dX12_tells_53 : decode cX12_tells 53 = .ok (.imul, 1) := by decide +kernel
theorem dX12_tells_54 : decode cX12_tells 54 = .ok (.iload_n 2, 1) := by decide +kernel
theorem dX12_tells_55 : decode cX12_tells 55 = .ok (.iadd, 1) := by decide +kernel
theorem dX12_tells_56 : decode cX12_tells 56 = .ok (.laload, 1) := by decide +kernel
theorem dX12_tells_57 : decode cX12_tells 57 = .ok (.l2i, 1) := by decide +kernel
theorem dX12_tells_58 : decode cX12_tells 58 = .ok (.invokevirtual 344, 3) := by decide +kernel
theorem dX12_tells_61 : decode cX12_tells 61 = .ok (.iinc 2 1, 3) := by decide +kernel
theorem dX12_tells_64 : decode cX12_tells 64 = .ok (.goto (-57), 3) := by decide +kernel
theorem dX12_tells_67 : decode cX12_tells 67 = .ok (.aload_n 0, 1) := by decide +kernel
theorem dX12_tells_68 : decode cX12_tells 68 = .ok (.getfield 97, 3) := by decide +kernel
theorem dX12_tells_71 : decode cX12_tells 71 = .ok (.iload_n 1, 1) := by decide +kernel
theorem dX12_tells_72 : decode cX12_tells 72 = .ok (.iaload, 1) := by decide +kernel
theorem dX12_tells_73 : decode cX12_tells 73 = .ok (.ireturn, 1) := by decide +kernel
theorem dX12_noTray_0 : decode cX12_noTray 0 = .ok (.iload_n 1, 1) := by decide +kernel
theorem dX12_noTray_1 : decode cX12_noTray 1 = .ok (.i2l, 1) := by decide +kernel
theorem dX12_noTray_2 : decode cX12_noTray 2 = .ok (.lconst 0, 1) := by decide +kernel
theorem dX12_noTray_3 : decode cX12_noTray 3 = .ok (.ldc2_w 334, 3) := by decide +kernel
theorem dX12_noTray_6 : decode cX12_noTray 6 = .ok (.invokestatic 169, 3) := by decide +kernel
theorem dX12_noTray_9 : decode cX12_noTray 9 = .ok (.ifCond .ne 8, 3) := by decide +kernel
theorem dX12_noTray_12 : decode cX12_noTray 12 = .ok (.bipush (-2), 2) := by decide +kernel
theorem dX12_noTray_14 : decode cX12_noTray 14 = .ok (.goto 19, 3) := by decide +kernel
theorem dX12_noTray_17 : decode cX12_noTray 17 = .ok (.aload_n 0, 1) := by decide +kernel
theorem dX12_noTray_18 : decode cX12_noTray 18 = .ok (.getfield 94, 3) := by decide +kernel
theorem dX12_noTray_21 : decode cX12_noTray 21 = .ok (.iload_n 1, 1) := by decide +kernel
theorem dX12_noTray_22 : decode cX12_noTray 22 = .ok (.iaload, 1) := by decide +kernel
theorem dX12_noTray_23 : decode cX12_noTray 23 = .ok (.iconst (-1), 1) := by decide +kernel
theorem dX12_noTray_24 : decode cX12_noTray 24 = .ok (.if_icmp .ne 8, 3) := by decide +kernel
theorem dX12_noTray_27 : decode cX12_noTray 27 = .ok (.bipush (-6), 2) := by decide +kernel
theorem dX12_noTray_29 : decode cX12_noTray 29 = .ok (.goto 4, 3) := by decide +kernel
theorem dX12_noTray_32 : decode cX12_noTray 32 = .ok (.iconst 0, 1) := by decide +kernel
theorem dX12_noTray_33 : decode cX12_noTray 33 = .ok (.ireturn, 1) := by decide +kernel
theorem dX12_storesBy_0 : decode cX12_storesBy 0 = .ok (.iconst 0, 1) := by decide +kernel
theorem dX12_storesBy_1 : decode cX12_storesBy 1 = .ok (.istore_n 1, 1) := by decide +kernel
theorem dX12_storesBy_2 : decode cX12_storesBy 2 = .ok (.iload_n 1, 1) := by decide +kernel
theorem dX12_storesBy_3 : decode cX12_storesBy 3 = .ok (.bipush 60, 2) := by decide +kernel
theorem dX12_storesBy_5 : decode cX12_storesBy 5 = .ok (.if_icmp .ge 25, 3) := by decide +kernel
theorem dX12_storesBy_8 : decode cX12_storesBy 8 = .ok (.aload_n 0, 1) := by decide +kernel
theorem dX12_storesBy_9 : decode cX12_storesBy 9 = .ok (.getfield 49, 3) := by decide +kernel
theorem dX12_storesBy_12 : decode cX12_storesBy 12 = .ok (.iload_n 1, 1) := by decide +kernel
theorem dX12_storesBy_13 : decode cX12_storesBy 13 = .ok (.aload_n 0, 1) := by decide +kernel
theorem dX12_storesBy_14 : decode cX12_storesBy 14 = .ok (.getfield 13, 3) := by decide +kernel
theorem dX12_storesBy_17 : decode cX12_storesBy 17 = .ok (.sipush 145, 3) := by decide +kernel
theorem dX12_storesBy_20 : decode cX12_storesBy 20 = .ok (.iload_n 1, 1) := by decide +kernel
theorem dX12_storesBy_21 : decode cX12_storesBy 21 = .ok (.iadd, 1) := by decide +kernel
theorem dX12_storesBy_22 : decode cX12_storesBy 22 = .ok (.iaload, 1) := by decide +kernel
theorem dX12_storesBy_23 : decode cX12_storesBy 23 = .ok (.iastore, 1) := by decide +kernel
theorem dX12_storesBy_24 : decode cX12_storesBy 24 = .ok (.iinc 1 1, 3) := by decide +kernel
theorem dX12_storesBy_27 : decode cX12_storesBy 27 = .ok (.goto (-25), 3) := by decide +kernel
theorem dX12_storesBy_30 : decode cX12_storesBy 30 = .ok (.return_, 1) := by decide +kernel
theorem dX12_isAgainBy_0 : decode cX12_isAgainBy 0 = .ok (.iconst 0, 1) := by decide +kernel
theorem dX12_isAgainBy_1 : decode cX12_isAgainBy 1 = .ok (.istore_n 1, 1) := by decide +kernel
theorem dX12_isAgainBy_2 : decode cX12_isAgainBy 2 = .ok (.iload_n 1, 1) := by decide +kernel
theorem dX12_isAgainBy_3 : decode cX12_isAgainBy 3 = .ok (.bipush 60, 2) := by decide +kernel
theorem dX12_isAgainBy_5 : decode cX12_isAgainBy 5 = .ok (.if_icmp .ge 25, 3) := by decide +kernel
theorem dX12_isAgainBy_8 : decode cX12_isAgainBy 8 = .ok (.aload_n 0, 1) := by decide +kernel
theorem dX12_isAgainBy_9 : decode cX12_isAgainBy 9 = .ok (.getfield 13, 3) := by decide +kernel
theorem dX12_isAgainBy_12 : decode cX12_isAgainBy 12 = .ok (.sipush 145, 3) := by decide +kernel
theorem dX12_isAgainBy_15 : decode cX12_isAgainBy 15 = .ok (.iload_n 1, 1) := by decide +kernel
theorem dX12_isAgainBy_16 : decode cX12_isAgainBy 16 = .ok (.iadd, 1) := by decide +kernel
theorem dX12_isAgainBy_17 : decode cX12_isAgainBy 17 = .ok (.aload_n 0, 1) := by decide +kernel
theorem dX12_isAgainBy_18 : decode cX12_isAgainBy 18 = .ok (.getfield 49, 3) := by decide +kernel
theorem dX12_isAgainBy_21 : decode cX12_isAgainBy 21 = .ok (.iload_n 1, 1) := by decide +kernel
theorem dX12_isAgainBy_22 : decode cX12_isAgainBy 22 = .ok (.iaload, 1) := by decide +kernel
theorem dX12_isAgainBy_23 : decode cX12_isAgainBy 23 = .ok (.iastore, 1) := by decide +kernel
theorem dX12_isAgainBy_24 : decode cX12_isAgainBy 24 = .ok (.iinc 1 1, 3) := by decide +kernel
theorem dX12_isAgainBy_27 : decode cX12_isAgainBy 27 = .ok (.goto (-25), 3) := by decide +kernel
theorem dX12_isAgainBy_30 : decode cX12_isAgainBy 30 = .ok (.return_, 1) := by decide +kernel
theorem dX12_judge_0 : decode cX12_judge 0 = .ok (.aload_n 0, 1) := by decide +kernel
theorem dX12_judge_1 : decode cX12_judge 1 = .ok (.iconst 0, 1) := by decide +kernel
theorem dX12_judge_2 : decode cX12_judge 2 = .ok (.putfield 1, 3) := by decide +kernel
theorem dX12_judge_5 : decode cX12_judge 5 = .ok (.iload_n 2, 1) := by decide +kernel
theorem dX12_judge_6 : decode cX12_judge 6 = .ok (.i2l, 1) := by decide +kernel
theorem dX12_judge_7 : decode cX12_judge 7 = .ok (.lconst 0, 1) := by decide +kernel
theorem dX12_judge_8 : decode cX12_judge 8 = .ok (.ldc2_w 334, 3) := by decide +kernel
theorem dX12_judge_11 : decode cX12_judge 11 = .ok (.invokestatic 169, 3) := by decide +kernel
theorem dX12_judge_14 : decode cX12_judge 14 = .ok (.ifCond .ne 6, 3) := by decide +kernel
theorem dX12_judge_17 : decode cX12_judge 17 = .ok (.bipush (-2), 2) := by decide +kernel
theorem dX12_judge_19 : decode cX12_judge 19 = .ok (.ireturn, 1) := by decide +kernel
theorem dX12_judge_20 : decode cX12_judge 20 = .ok (.aload_n 0, 1) := by decide +kernel
theorem dX12_judge_21 : decode cX12_judge 21 = .ok (.iload_n 1, 1) := by decide +kernel
theorem dX12_judge_22 : decode cX12_judge 22 = .ok (.invokevirtual 347, 3) := by decide +kernel
theorem dX12_judge_25 : decode cX12_judge 25 = .ok (.istore_n 3, 1) := by decide +kernel
theorem dX12_judge_26 : decode cX12_judge 26 = .ok (.iload_n 3, 1) := by decide +kernel
theorem dX12_judge_27 : decode cX12_judge 27 = .ok (.ifCond .eq 5, 3) := by decide +kernel
theorem dX12_judge_30 : decode cX12_judge 30 = .ok (.iload_n 3, 1) := by decide +kernel
theorem dX12_judge_31 : decode cX12_judge 31 = .ok (.ireturn, 1) := by decide +kernel
theorem dX12_judge_32 : decode cX12_judge 32 = .ok (.aload_n 0, 1) := by decide +kernel
theorem dX12_judge_33 : decode cX12_judge 33 = .ok (.invokevirtual 321, 3) := by decide +kernel
theorem dX12_judge_36 : decode cX12_judge 36 = .ok (.aload_n 0, 1) := by decide +kernel
theorem dX12_judge_37 : decode cX12_judge 37 = .ok (.invokevirtual 350, 3) := by decide +kernel
theorem dX12_judge_40 : decode cX12_judge 40 = .ok (.aload_n 0, 1) := by decide +kernel
theorem dX12_judge_41 : decode cX12_judge 41 = .ok (.iload_n 1, 1) := by decide +kernel
theorem dX12_judge_42 : decode cX12_judge 42 = .ok (.invokevirtual 353, 3) := by decide +kernel
theorem dX12_judge_45 : decode cX12_judge 45 = .ok (.istore 4, 2) := by decide +kernel
theorem dX12_judge_47 : decode cX12_judge 47 = .ok (.aload_n 0, 1) := by decide +kernel
theorem dX12_judge_48 : decode cX12_judge 48 = .ok (.invokevirtual 278, 3) := by decide +kernel
theorem dX12_judge_51 : decode cX12_judge 51 = .ok (.ldc2_w 271, 3) := by decide +kernel
theorem dX12_judge_54 : decode cX12_judge 54 = .ok (.lrem, 1) := by decide +kernel
theorem dX12_judge_55 : decode cX12_judge 55 = .ok (.l2i, 1) := by decide +kernel
theorem dX12_judge_56 : decode cX12_judge 56 = .ok (.istore 5, 2) := by decide +kernel
theorem dX12_judge_58 : decode cX12_judge 58 = .ok (.aload_n 0, 1) := by decide +kernel
theorem dX12_judge_59 : decode cX12_judge 59 = .ok (.lconst 0, 1) := by decide +kernel
theorem dX12_judge_60 : decode cX12_judge 60 = .ok (.invokevirtual 282, 3) := by decide +kernel
theorem dX12_judge_63 : decode cX12_judge 63 = .ok (.istore 6, 2) := by decide +kernel
theorem dX12_judge_65 : decode cX12_judge 65 = .ok (.aload_n 0, 1) := by decide +kernel
theorem dX12_judge_66 : decode cX12_judge 66 = .ok (.invokevirtual 356, 3) := by decide +kernel
theorem dX12_judge_69 : decode cX12_judge 69 = .ok (.aload_n 0, 1) := by decide +kernel
theorem dX12_judge_70 : decode cX12_judge 70 = .ok (.invokevirtual 359, 3) := by decide +kernel
theorem dX12_judge_73 : decode cX12_judge 73 = .ok (.iload_n 2, 1) := by decide +kernel
theorem dX12_judge_74 : decode cX12_judge 74 = .ok (.ifCond .ne 19, 3) := by decide +kernel
theorem dX12_judge_77 : decode cX12_judge 77 = .ok (.aload_n 0, 1) := by decide +kernel
theorem dX12_judge_78 : decode cX12_judge 78 = .ok (.getfield 338, 3) := by decide +kernel
theorem dX12_judge_81 : decode cX12_judge 81 = .ok (.ifCond .ne 7, 3) := by decide +kernel
theorem dX12_judge_84 : decode cX12_judge 84 = .ok (.iconst (-1), 1) := by decide +kernel
theorem dX12_judge_85 : decode cX12_judge 85 = .ok (.goto 32, 3) := by decide +kernel
theorem dX12_judge_88 : decode cX12_judge 88 = .ok (.iload 4, 2) := by decide +kernel
theorem dX12_judge_90 : decode cX12_judge 90 = .ok (.goto 27, 3) := by decide +kernel
theorem dX12_judge_93 : decode cX12_judge 93 = .ok (.iload_n 2, 1) := by decide +kernel
theorem dX12_judge_94 : decode cX12_judge 94 = .ok (.iconst 1, 1) := by decide +kernel
theorem dX12_judge_95 : decode cX12_judge 95 = .ok (.if_icmp .ne 10, 3) := by decide +kernel
theorem dX12_judge_98 : decode cX12_judge 98 = .ok (.aload_n 0, 1) := by decide +kernel
theorem dX12_judge_99 : decode cX12_judge 99 = .ok (.getfield 338, 3) := by decide +kernel
theorem dX12_judge_102 : decode cX12_judge 102 = .ok (.goto 15, 3) := by decide +kernel
theorem dX12_judge_105 : decode cX12_judge 105 = .ok (.iload_n 2, 1) := by decide +kernel
theorem dX12_judge_106 : decode cX12_judge 106 = .ok (.iconst 2, 1) := by decide +kernel
theorem dX12_judge_107 : decode cX12_judge 107 = .ok (.if_icmp .ne 8, 3) := by decide +kernel
theorem dX12_judge_110 : decode cX12_judge 110 = .ok (.iload 5, 2) := by decide +kernel
theorem dX12_judge_112 : decode cX12_judge 112 = .ok (.goto 5, 3) := by decide +kernel
theorem dX12_judge_115 : decode cX12_judge 115 = .ok (.iload 6, 2) := by decide +kernel
theorem dX12_judge_117 : decode cX12_judge 117 = .ok (.ireturn, 1) := by decide +kernel
theorem dX12_perform_0 : decode cX12_perform 0 = .ok (.aload_n 0, 1) := by decide +kernel
theorem dX12_perform_1 : decode cX12_perform 1 = .ok (.iconst 0, 1) := by decide +kernel
theorem dX12_perform_2 : decode cX12_perform 2 = .ok (.putfield 1, 3) := by decide +kernel
theorem dX12_perform_5 : decode cX12_perform 5 = .ok (.aload_n 0, 1) := by decide +kernel
theorem dX12_perform_6 : decode cX12_perform 6 = .ok (.iload_n 1, 1) := by decide +kernel
theorem dX12_perform_7 : decode cX12_perform 7 = .ok (.invokevirtual 347, 3) := by decide +kernel
theorem dX12_perform_10 : decode cX12_perform 10 = .ok (.istore_n 2, 1) := by decide +kernel
theorem dX12_perform_11 : decode cX12_perform 11 = .ok (.iload_n 2, 1) := by decide +kernel
theorem dX12_perform_12 : decode cX12_perform 12 = .ok (.ifCond .eq 5, 3) := by decide +kernel
theorem dX12_perform_15 : decode cX12_perform 15 = .ok (.iload_n 2, 1) := by decide +kernel
theorem dX12_perform_16 : decode cX12_perform 16 = .ok (.ireturn, 1) := by decide +kernel
theorem dX12_perform_17 : decode cX12_perform 17 = .ok (.aload_n 0, 1) := by decide +kernel
theorem dX12_perform_18 : decode cX12_perform 18 = .ok (.invokevirtual 321, 3) := by decide +kernel
theorem dX12_perform_21 : decode cX12_perform 21 = .ok (.aload_n 0, 1) := by decide +kernel
theorem dX12_perform_22 : decode cX12_perform 22 = .ok (.iload_n 1, 1) := by decide +kernel
theorem dX12_perform_23 : decode cX12_perform 23 = .ok (.invokevirtual 353, 3) := by decide +kernel
theorem dX12_perform_26 : decode cX12_perform 26 = .ok (.istore_n 3, 1) := by decide +kernel
theorem dX12_perform_27 : decode cX12_perform 27 = .ok (.iload_n 3, 1) := by decide +kernel
theorem dX12_perform_28 : decode cX12_perform 28 = .ok (.ifCond .le 7, 3) := by decide +kernel
