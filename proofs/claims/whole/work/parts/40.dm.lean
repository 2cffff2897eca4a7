theorem dX7_init_0 : decode cX7_init 0 = .ok (.aload_n 0, 1) := by decide +kernel
theorem dX7_init_1 : decode cX7_init 1 = .ok (.invokespecial 1, 3) := by decide +kernel
theorem dX7_init_4 : decode cX7_init 4 = .ok (.aload_n 0, 1) := by decide +kernel
theorem dX7_init_5 : decode cX7_init 5 = .ok (.bipush 16, 2) := by decide +kernel
theorem dX7_init_7 : decode cX7_init 7 = .ok (.newarray .int, 2) := by decide +kernel
theorem dX7_init_9 : decode cX7_init 9 = .ok (.putfield 7, 3) := by decide +kernel
theorem dX7_init_12 : decode cX7_init 12 = .ok (.aload_n 0, 1) := by decide +kernel
theorem dX7_init_13 : decode cX7_init 13 = .ok (.sipush 256, 3) := by decide +kernel
theorem dX7_init_16 : decode cX7_init 16 = .ok (.newarray .long, 2) := by decide +kernel
theorem dX7_init_18 : decode cX7_init 18 = .ok (.putfield 13, 3) := by decide +kernel
theorem dX7_init_21 : decode cX7_init 21 = .ok (.aload_n 0, 1) := by decide +kernel
theorem dX7_init_22 : decode cX7_init 22 = .ok (.bipush 15, 2) := by decide +kernel
theorem dX7_init_24 : decode cX7_init 24 = .ok (.newarray .int, 2) := by decide +kernel
theorem dX7_init_26 : decode cX7_init 26 = .ok (.putfield 17, 3) := by decide +kernel
theorem dX7_init_29 : decode cX7_init 29 = .ok (.aload_n 0, 1) := by decide +kernel
theorem dX7_init_30 : decode cX7_init 30 = .ok (.bipush 15, 2) := by decide +kernel
theorem dX7_init_32 : decode cX7_init 32 = .ok (.newarray .int, 2) := by decide +kernel
theorem dX7_init_34 : decode cX7_init 34 = .ok (.putfield 20, 3) := by decide +kernel
theorem dX7_init_37 : decode cX7_init 37 = .ok (.aload_n 0, 1) := by decide +kernel
theorem dX7_init_38 : decode cX7_init 38 = .ok (.bipush 15, 2) := by decide +kernel
theorem dX7_init_40 : decode cX7_init 40 = .ok (.newarray .long, 2) := by decide +kernel
theorem dX7_init_42 : decode cX7_init 42 = .ok (.putfield 23, 3) := by decide +kernel
theorem dX7_init_45 : decode cX7_init 45 = .ok (.aload_n 0, 1) := by decide +kernel
theorem dX7_init_46 : decode cX7_init 46 = .ok (.bipush 24, 2) := by decide +kernel
theorem dX7_init_48 : decode cX7_init 48 = .ok (.newarray .int, 2) := by decide +kernel
theorem dX7_init_50 : decode cX7_init 50 = .ok (.putfield 26, 3) := by decide +kernel
theorem dX7_init_53 : decode cX7_init 53 = .ok (.aload_n 0, 1) := by decide +kernel
theorem dX7_init_54 : decode cX7_init 54 = .ok (.bipush 24, 2) := by decide +kernel
theorem dX7_init_56 : decode cX7_init 56 = .ok (.newarray .int, 2) := by decide +kernel
theorem dX7_init_58 : decode cX7_init 58 = .ok (.putfield 29, 3) := by decide +kernel
theorem dX7_init_61 : decode cX7_init 61 = .ok (.aload_n 0, 1) := by decide +kernel
theorem dX7_init_62 : decode cX7_init 62 = .ok (.bipush 24, 2) := by decide +kernel
theorem dX7_init_64 : decode cX7_init 64 = .ok (.newarray .long, 2) := by decide +kernel
theorem dX7_init_66 : decode cX7_init 66 = .ok (.putfield 32, 3) := by decide +kernel
theorem dX7_init_69 : decode cX7_init 69 = .ok (.aload_n 0, 1) := by decide +kernel
theorem dX7_init_70 : decode cX7_init 70 = .ok (.bipush 24, 2) := by decide +kernel
theorem dX7_init_72 : decode cX7_init 72 = .ok (.newarray .long, 2) := by decide +kernel
theorem dX7_init_74 : decode cX7_init 74 = .ok (.putfield 35, 3) := by decide +kernel
theorem dX7_init_77 : decode cX7_init 77 = .ok (.aload_n 0, 1) := by decide +kernel
theorem dX7_init_78 : decode cX7_init 78 = .ok (.sipush 256, 3) := by decide +kernel
theorem dX7_init_81 : decode cX7_init 81 = .ok (.newarray .int, 2) := by decide +kernel
theorem dX7_init_83 : decode cX7_init 83 = .ok (.putfield 38, 3) := by decide +kernel
theorem dX7_init_86 : decode cX7_init 86 = .ok (.aload_n 0, 1) := by decide +kernel
theorem dX7_init_87 : decode cX7_init 87 = .ok (.lconst 1, 1) := by decide +kernel
theorem dX7_init_88 : decode cX7_init 88 = .ok (.putfield 41, 3) := by decide +kernel
theorem dX7_init_91 : decode cX7_init 91 = .ok (.aload_n 0, 1) := by decide +kernel
theorem dX7_init_92 : decode cX7_init 92 = .ok (.bipush 10, 2) := by decide +kernel
theorem dX7_init_94 : decode cX7_init 94 = .ok (.newarray .boolean, 2) := by decide +kernel
theorem dX7_init_96 : decode cX7_init 96 = .ok (.putfield 45, 3) := by decide +kernel
theorem dX7_init_99 : decode cX7_init 99 = .ok (.aload_n 0, 1) := by decide +kernel
theorem dX7_init_100 : decode cX7_init 100 = .ok (.bipush 10, 2) := by decide +kernel
theorem dX7_init_102 : decode cX7_init 102 = .ok (.newarray .long, 2) := by decide +kernel
theorem dX7_init_104 : decode cX7_init 104 = .ok (.putfield 49, 3) := by decide +kernel
theorem dX7_init_107 : decode cX7_init 107 = .ok (.aload_n 0, 1) := by decide +kernel
theorem dX7_init_108 : decode cX7_init 108 = .ok (.bipush 10, 2) := by decide +kernel
theorem dX7_init_110 : decode cX7_init 110 = .ok (.newarray .long, 2) := by decide +kernel
theorem dX7_init_112 : decode cX7_init 112 = .ok (.putfield 52, 3) := by decide +kernel
theorem dX7_init_115 : decode cX7_init 115 = .ok (.aload_n 0, 1) := by decide +kernel
theorem dX7_init_116 : decode cX7_init 116 = .ok (.bipush 10, 2) := by decide +kernel
theorem dX7_init_118 : decode cX7_init 118 = .ok (.newarray .long, 2) := by decide +kernel
theorem dX7_init_120 : decode cX7_init 120 = .ok (.putfield 55, 3) := by decide +kernel
theorem dX7_init_123 : decode cX7_init 123 = .ok (.aload_n 0, 1) := by decide +kernel
theorem dX7_init_124 : decode cX7_init 124 = .ok (.bipush 24, 2) := by decide +kernel
theorem dX7_init_126 : decode cX7_init 126 = .ok (.newarray .int, 2) := by decide +kernel
theorem dX7_init_128 : decode cX7_init 128 = .ok (.putfield 58, 3) := by decide +kernel
theorem dX7_init_131 : decode cX7_init 131 = .ok (.aload_n 0, 1) := by decide +kernel
theorem dX7_init_132 : decode cX7_init 132 = .ok (.bipush 20, 2) := by decide +kernel
theorem dX7_init_134 : decode cX7_init 134 = .ok (.newarray .int, 2) := by decide +kernel
theorem dX7_init_136 : decode cX7_init 136 = .ok (.putfield 61, 3) := by decide +kernel
theorem dX7_init_139 : decode cX7_init 139 = .ok (.aload_n 0, 1) := by decide +kernel
theorem dX7_init_140 : decode cX7_init 140 = .ok (.bipush 20, 2) := by decide +kernel
theorem dX7_init_142 : decode cX7_init 142 = .ok (.newarray .int, 2) := by decide +kernel
theorem dX7_init_144 : decode cX7_init 144 = .ok (.putfield 64, 3) := by decide +kernel
theorem dX7_init_147 : decode cX7_init 147 = .ok (.aload_n 0, 1) := by decide +kernel
theorem dX7_init_148 : decode cX7_init 148 = .ok (.bipush 24, 2) := by decide +kernel
theorem dX7_init_150 : decode cX7_init 150 = .ok (.newarray .int, 2) := by decide +kernel
theorem dX7_init_152 : decode cX7_init 152 = .ok (.putfield 67, 3) := by decide +kernel
theorem dX7_init_155 : decode cX7_init 155 = .ok (.aload_n 0, 1) := by decide +kernel
theorem dX7_init_156 : decode cX7_init 156 = .ok (.sipush 144, 3) := by decide +kernel
theorem dX7_init_159 : decode cX7_init 159 = .ok (.newarray .int, 2) := by decide +kernel
theorem dX7_init_161 : decode cX7_init 161 = .ok (.putfield 70, 3) := by decide +kernel
theorem dX7_init_164 : decode cX7_init 164 = .ok (.aload_n 0, 1) := by decide +kernel
theorem dX7_init_165 : decode cX7_init 165 = .ok (.bipush 24, 2) := by decide +kernel
theorem dX7_init_167 : decode cX7_init 167 = .ok (.newarray .int, 2) := by decide +kernel
theorem dX7_init_169 : decode cX7_init 169 = .ok (.putfield 73, 3) := by decide +kernel
theorem dX7_init_172 : decode cX7_init 172 = .ok (.aload_n 0, 1) := by decide +kernel
theorem dX7_init_173 : decode cX7_init 173 = .ok (.bipush 24, 2) := by decide +kernel
theorem dX7_init_175 : decode cX7_init 175 = .ok (.newarray .int, 2) := by decide +kernel
theorem dX7_init_177 : decode cX7_init 177 = .ok (.putfield 76, 3) := by decide +kernel
theorem dX7_init_180 : decode cX7_init 180 = .ok (.aload_n 0, 1) := by decide +kernel
theorem dX7_init_181 : decode cX7_init 181 = .ok (.bipush 24, 2) := by decide +kernel
theorem dX7_init_183 : decode cX7_init 183 = .ok (.newarray .long, 2) := by decide +kernel
theorem dX7_init_185 : decode cX7_init 185 = .ok (.putfield 79, 3) := by decide +kernel
theorem dX7_init_188 : decode cX7_init 188 = .ok (.iconst 0, 1) := by decide +kernel
theorem dX7_init_189 : decode cX7_init 189 = .ok (.istore_n 1, 1) := by decide +kernel
theorem dX7_init_190 : decode cX7_init 190 = .ok (.iload_n 1, 1) := by decide +kernel
theorem dX7_init_191 : decode cX7_init 191 = .ok (.sipush 256, 3) := by decide +kernel
theorem dX7_init_194 : decode cX7_init 194 = .ok (.if_icmp .ge 40, 3) := by decide +kernel
theorem dX7_init_197 : decode cX7_init 197 = .ok (.aload_n 0, 1) := by decide +kernel
theorem dX7_init_198 : decode cX7_init 198 = .ok (.getfield 13, 3) := by decide +kernel
theorem dX7_init_201 : decode cX7_init 201 = .ok (.iload_n 1, 1) := by decide +kernel
theorem dX7_init_202 : decode cX7_init 202 = .ok (.iload_n 1, 1) := by decide +kernel
theorem dX7_init_203 : decode cX7_init 203 = .ok (.bipush 16, 2) := by decide +kernel
theorem dX7_init_205 : decode cX7_init 205 = .ok (.idiv, 1) := by decide +kernel
theorem dX7_init_206 : decode cX7_init 206 = .ok (.iload_n 1, 1) := by decide +kernel
theorem dX7_init_207 : decode cX7_init 207 = .ok (.bipush 16, 2) := by decide +kernel
theorem dX7_init_209 : decode cX7_init 209 = .ok (.irem, 1) := by decide +kernel
theorem dX7_init_210 : decode cX7_init 210 = .ok (.if_icmp .ne 7, 3) := by decide +kernel
theorem dX7_init_213 : decode cX7_init 213 = .ok (.lconst 0, 1) := by decide +kernel
theorem dX7_init_214 : decode cX7_init 214 = .ok (.goto 6, 3) := by decide +kernel
theorem dX7_init_217 : decode cX7_init 217 = .ok (.ldc2_w 82, 3) := by decide +kernel
theorem dX7_init_220 : decode cX7_init 220 = .ok (.lastore, 1) := by decide +kernel
theorem dX7_init_221 : decode cX7_init 221 = .ok (.aload_n 0, 1) := by decide +kernel
theorem dX7_init_222 : decode cX7_init 222 = .ok (.getfield 38, 3) := by decide +kernel
theorem dX7_init_225 : decode cX7_init 225 = .ok (.iload_n 1, 1) := by decide +kernel
theorem dX7_init_226 : decode cX7_init 226 = .ok (.iconst (-1), 1) := by decide +kernel
theorem dX7_init_227 : decode cX7_init 227 = .ok (.iastore, 1) := by decide +kernel
theorem dX7_init_228 : decode cX7_init 228 = .ok (.iinc 1 1, 3) := by decide +kernel
theorem dX7_init_231 : decode cX7_init 231 = .ok (.goto (-41), 3) := by decide +kernel
theorem dX7_init_234 : decode cX7_init 234 = .ok (.iconst 0, 1) := by decide +kernel
theorem dX7_init_235 : decode cX7_init 235 = .ok (.istore_n 1, 1) := by decide +kernel
theorem dX7_init_236 : decode cX7_init 236 = .ok (.iload_n 1, 1) := by decide +kernel
theorem dX7_init_237 : decode cX7_init 237 = .ok (.bipush 24, 2) := by decide +kernel
theorem dX7_init_239 : decode cX7_init 239 = .ok (.if_icmp .ge 16, 3) := by decide +kernel
theorem dX7_init_242 : decode cX7_init 242 = .ok (.aload_n 0, 1) := by decide +kernel
theorem dX7_init_243 : decode cX7_init 243 = .ok (.getfield 58, 3) := by decide +kernel
theorem dX7_init_246 : decode cX7_init 246 = .ok (.iload_n 1, 1) := by decide +kernel
theorem dX7_init_247 : decode cX7_init 247 = .ok (.iconst (-1), 1) := by decide +kernel
theorem dX7_init_248 : decode cX7_init 248 = .ok (.iastore, 1) := by decide +kernel
theorem dX7_init_249 : decode cX7_init 249 = .ok (.iinc 1 1, 3) := by decide +kernel
theorem dX7_init_252 : decode cX7_init 252 = .ok (.goto (-16), 3) := by decide +kernel
theorem dX7_init_255 : decode cX7_init 255 = .ok (.return_, 1) := by decide +kernel
theorem dX7_thrown_0 : decode cX7_thrown 0 = .ok (.aload_n 0, 1) := by decide +kernel
theorem dX7_thrown_1 : decode cX7_thrown 1 = .ok (.getfield 84, 3) := by decide +kernel
theorem dX7_thrown_4 : decode cX7_thrown 4 = .ok (.ireturn, 1) := by decide +kernel
theorem dX7_within_0 : decode cX7_within 0 = .ok (.lload_n 0, 1) := by decide +kernel
theorem dX7_within_1 : decode cX7_within 1 = .ok (.lload_n 2, 1) := by decide +kernel
theorem dX7_within_2 : decode cX7_within 2 = .ok (.lcmp, 1) := by decide +kernel
theorem dX7_within_3 : decode cX7_within 3 = .ok (.ifCond .lt 14, 3) := by decide +kernel
theorem dX7_within_6 : decode cX7_within 6 = .ok (.lload_n 0, 1) := by decide +kernel
theorem dX7_within_7 : decode cX7_within 7 = .ok (.lload 4, 2) := by decide +kernel
theorem dX7_within_9 : decode cX7_within 9 = .ok (.lcmp, 1) := by decide +kernel
theorem dX7_within_10 : decode cX7_within 10 = .ok (.ifCond .gt 7, 3) := by decide +kernel
theorem dX7_within_13 : decode cX7_within 13 = .ok (.iconst 1, 1) := by decide +kernel
theorem dX7_within_14 : decode cX7_within 14 = .ok (.goto 4, 3) := by decide +kernel
theorem dX7_within_17 : decode cX7_within 17 = .ok (.iconst 0, 1) := by decide +kernel
theorem dX7_within_18 : decode cX7_within 18 = .ok (.ireturn, 1) := by decide +kernel
theorem dX7_isNode_0 : decode cX7_isNode 0 = .ok (.iload_n 1, 1) := by decide +kernel
theorem dX7_isNode_1 : decode cX7_isNode 1 = .ok (.ifCond .lt 15, 3) := by decide +kernel
theorem dX7_isNode_4 : decode cX7_isNode 4 = .ok (.iload_n 1, 1) := by decide +kernel
theorem dX7_isNode_5 : decode cX7_isNode 5 = .ok (.aload_n 0, 1) := by decide +kernel
theorem dX7_isNode_6 : decode cX7_isNode 6 = .ok (.getfield 88, 3) := by decide +kernel
theorem dX7_isNode_9 : decode cX7_isNode 9 = .ok (.if_icmp .ge 7, 3) := by decide +kernel
theorem dX7_isNode_12 : decode cX7_isNode 12 = .ok (.iconst 1, 1) := by decide +kernel
theorem dX7_isNode_13 : decode cX7_isNode 13 = .ok (.goto 4, 3) := by decide +kernel
theorem dX7_isNode_16 : decode cX7_isNode 16 = .ok (.iconst 0, 1) := by decide +kernel
theorem dX7_isNode_17 : decode cX7_isNode 17 = .ok (.ireturn, 1) := by decide +kernel
set_option maxRecDepth 20000 in
theorem ggX7_isCavity_X7_isNode : GoodIn wsX7_isCavity wsX7_isNode := goodIn_r _ [6, 7, 8, 9, 10, 11, 12, 13, 14, 15, 16, 17, 18, 19, 20, 21, 22, 23, 24, 25, 26, 27, 28, 29, 30, 31, 32, 33, 34, 35, 36, 37, 38, 39, 40, 41] (by decide +kernel) (by decide +kernel)
set_option maxRecDepth 20000 in
theorem gX7_isCavity_X7_isNode : GoodIn wsX7_isCavity (wsV RX7 91 RX7 yX7_isNode wsX7_isNode) := goodIn_app (goodIn_of _ (by decide +kernel)) ggX7_isCavity_X7_isNode
theorem dX7_isCavity_0 : decode cX7_isCavity 0 = .ok (.aload_n 0, 1) := by decide +kernel
theorem dX7_isCavity_1 : decode cX7_isCavity 1 = .ok (.iload_n 1, 1) := by decide +kernel
theorem dX7_isCavity_2 : decode cX7_isCavity 2 = .ok (.invokevirtual 91, 3) := by decide +kernel
theorem dX7_isCavity_5 : decode cX7_isCavity 5 = .ok (.ifCond .eq 21, 3) := by decide +kernel
theorem dX7_isCavity_8 : decode cX7_isCavity 8 = .ok (.iload_n 2, 1) := by decide +kernel
theorem dX7_isCavity_9 : decode cX7_isCavity 9 = .ok (.ifCond .lt 17, 3) := by decide +kernel
theorem dX7_isCavity_12 : decode cX7_isCavity 12 = .ok (.iload_n 2, 1) := by decide +kernel
theorem dX7_isCavity_13 : decode cX7_isCavity 13 = .ok (.aload_n 0, 1) := by decide +kernel
theorem dX7_isCavity_14 : decode cX7_isCavity 14 = .ok (.getfield 7, 3) := by decide +kernel
theorem dX7_isCavity_17 : decode cX7_isCavity 17 = .ok (.iload_n 1, 1) := by decide +kernel
theorem dX7_isCavity_18 : decode cX7_isCavity 18 = .ok (.iaload, 1) := by decide +kernel
theorem dX7_isCavity_19 : decode cX7_isCavity 19 = .ok (.if_icmp .ge 7, 3) := by decide +kernel
theorem dX7_isCavity_22 : decode cX7_isCavity 22 = .ok (.iconst 1, 1) := by decide +kernel
theorem dX7_isCavity_23 : decode cX7_isCavity 23 = .ok (.goto 4, 3) := by decide +kernel
theorem dX7_isCavity_26 : decode cX7_isCavity 26 = .ok (.iconst 0, 1) := by decide +kernel
theorem dX7_isCavity_27 : decode cX7_isCavity 27 = .ok (.ireturn, 1) := by decide +kernel
theorem dX7_isWire_0 : decode cX7_isWire 0 = .ok (.iload_n 1, 1) := by decide +kernel
theorem dX7_isWire_1 : decode cX7_isWire 1 = .ok (.ifCond .lt 15, 3) := by decide +kernel
theorem dX7_isWire_4 : decode cX7_isWire 4 = .ok (.iload_n 1, 1) := by decide +kernel
theorem dX7_isWire_5 : decode cX7_isWire 5 = .ok (.aload_n 0, 1) := by decide +kernel
theorem dX7_isWire_6 : decode cX7_isWire 6 = .ok (.getfield 95, 3) := by decide +kernel
theorem dX7_isWire_9 : decode cX7_isWire 9 = .ok (.if_icmp .ge 7, 3) := by decide +kernel
theorem dX7_isWire_12 : decode cX7_isWire 12 = .ok (.iconst 1, 1) := by decide +kernel
theorem dX7_isWire_13 : decode cX7_isWire 13 = .ok (.goto 4, 3) := by decide +kernel
theorem dX7_isWire_16 : decode cX7_isWire 16 = .ok (.iconst 0, 1) := by decide +kernel
theorem dX7_isWire_17 : decode cX7_isWire 17 = .ok (.ireturn, 1) := by decide +kernel
theorem dX7_addNode_0 : decode cX7_addNode 0 = .ok (.aload_n 0, 1) := by decide +kernel
theorem dX7_addNode_1 : decode cX7_addNode 1 = .ok (.getfield 88, 3) := by decide +kernel
theorem dX7_addNode_4 : decode cX7_addNode 4 = .ok (.bipush 16, 2) := by decide +kernel
theorem dX7_addNode_6 : decode cX7_addNode 6 = .ok (.if_icmp .ne 5, 3) := by decide +kernel
theorem dX7_addNode_9 : decode cX7_addNode 9 = .ok (.iconst (-1), 1) := by decide +kernel
theorem dX7_addNode_10 : decode cX7_addNode 10 = .ok (.ireturn, 1) := by decide +kernel
theorem dX7_addNode_11 : decode cX7_addNode 11 = .ok (.aload_n 0, 1) := by decide +kernel
theorem dX7_addNode_12 : decode cX7_addNode 12 = .ok (.getfield 7, 3) := by decide +kernel
theorem dX7_addNode_15 : decode cX7_addNode 15 = .ok (.aload_n 0, 1) := by decide +kernel
theorem dX7_addNode_16 : decode cX7_addNode 16 = .ok (.getfield 88, 3) := by decide +kernel
theorem dX7_addNode_19 : decode cX7_addNode 19 = .ok (.iload_n 1, 1) := by decide +kernel
theorem dX7_addNode_20 : decode cX7_addNode 20 = .ok (.iastore, 1) := by decide +kernel
theorem dX7_addNode_21 : decode cX7_addNode 21 = .ok (.aload_n 0, 1) := by decide +kernel
theorem dX7_addNode_22 : decode cX7_addNode 22 = .ok (.dup, 1) := by decide +kernel
theorem dX7_addNode_23 : decode cX7_addNode 23 = .ok (.getfield 88, 3) := by decide +kernel
theorem dX7_addNode_26 : decode cX7_addNode 26 = .ok (.iconst 1, 1) := by decide +kernel
theorem dX7_addNode_27 : decode cX7_addNode 27 = .ok (.iadd, 1) := by decide +kernel
theorem dX7_addNode_28 : decode cX7_addNode 28 = .ok (.putfield 88, 3) := by decide +kernel
theorem dX7_addNode_31 : decode cX7_addNode 31 = .ok (.aload_n 0, 1) := by decide +kernel
theorem dX7_addNode_32 : decode cX7_addNode 32 = .ok (.getfield 88, 3) := by decide +kernel
theorem dX7_addNode_35 : decode cX7_addNode 35 = .ok (.iconst 1, 1) := by decide +kernel
theorem dX7_addNode_36 : decode cX7_addNode 36 = .ok (.isub, 1) := by decide +kernel
theorem dX7_addNode_37 : decode cX7_addNode 37 = .ok (.ireturn, 1) := by decide +kernel
set_option maxRecDepth 20000 in
theorem ggX7_connector_X7_within : GoodIn wsX7_connector wsX7_within := goodIn_r _ [6] (by decide +kernel) (by decide +kernel)
set_option maxRecDepth 20000 in
theorem gX7_connector_X7_within : GoodIn wsX7_connector (va_wsS RX7 100 yX7_within wsX7_within) := goodIn_app (goodIn_of _ (by decide +kernel)) ggX7_connector_X7_within
set_option maxRecDepth 20000 in
theorem ggX7_connector_X7_addNode : GoodIn wsX7_connector wsX7_addNode := goodIn_ca (goodIn_r _ [10, 11, 12, 13, 14, 15, 16, 17, 18, 19, 20, 21, 22, 23, 24, 25, 26, 27, 28, 29, 30, 31, 32, 33, 34, 35, 36, 37, 38, 39, 40, 41, 42, 43, 44, 45, 46] (by decide +kernel) (by decide +kernel)) (goodIn_sub (fun _ h => List.mem_cons_of_mem _ (List.mem_append_right _ h)) (by decide +kernel))
set_option maxRecDepth 20000 in
theorem gX7_connector_X7_addNode : GoodIn wsX7_connector (wsV RX7 104 RX7 yX7_addNode wsX7_addNode) := goodIn_app (goodIn_of _ (by decide +kernel)) ggX7_connector_X7_addNode
theorem dX7_connector_0 : decode cX7_connector 0 = .ok (.aload_n 0, 1) := by decide +kernel
theorem dX7_connector_1 : decode cX7_connector 1 = .ok (.iload_n 1, 1) := by decide +kernel
theorem dX7_connector_2 : decode cX7_connector 2 = .ok (.i2l, 1) := by decide +kernel
theorem dX7_connector_3 : decode cX7_connector 3 = .ok (.lconst 1, 1) := by decide +kernel
theorem dX7_connector_4 : decode cX7_connector 4 = .ok (.ldc2_w 98, 3) := by decide +kernel
theorem dX7_connector_7 : decode cX7_connector 7 = .ok (.invokestatic 100, 3) := by decide +kernel
theorem dX7_connector_10 : decode cX7_connector 10 = .ok (.ifCond .eq 7, 3) := by decide +kernel
theorem dX7_connector_13 : decode cX7_connector 13 = .ok (.iconst 0, 1) := by decide +kernel
theorem dX7_connector_14 : decode cX7_connector 14 = .ok (.goto 4, 3) := by decide +kernel
theorem dX7_connector_17 : decode cX7_connector 17 = .ok (.iconst 1, 1) := by decide +kernel
theorem dX7_connector_18 : decode cX7_connector 18 = .ok (.putfield 84, 3) := by decide +kernel
theorem dX7_connector_21 : decode cX7_connector 21 = .ok (.aload_n 0, 1) := by decide +kernel
theorem dX7_connector_22 : decode cX7_connector 22 = .ok (.getfield 84, 3) := by decide +kernel
theorem dX7_connector_25 : decode cX7_connector 25 = .ok (.ifCond .ne 11, 3) := by decide +kernel
theorem dX7_connector_28 : decode cX7_connector 28 = .ok (.aload_n 0, 1) := by decide +kernel
theorem dX7_connector_29 : decode cX7_connector 29 = .ok (.iload_n 1, 1) := by decide +kernel
theorem dX7_connector_30 : decode cX7_connector 30 = .ok (.invokevirtual 104, 3) := by decide +kernel
theorem dX7_connector_33 : decode cX7_connector 33 = .ok (.goto 4, 3) := by decide +kernel
theorem dX7_connector_36 : decode cX7_connector 36 = .ok (.iconst 0, 1) := by decide +kernel
theorem dX7_connector_37 : decode cX7_connector 37 = .ok (.ireturn, 1) := by decide +kernel
set_option maxRecDepth 20000 in
theorem ggX7_node_X7_addNode : GoodIn wsX7_node wsX7_addNode := goodIn_ca (goodIn_r _ [6, 7, 8, 9, 10, 11, 12, 13, 14, 15, 16, 17, 18, 19, 20, 21, 22, 23, 24, 25, 26, 27, 28, 29, 30, 31, 32, 33, 34, 35, 36, 37, 38, 39, 40, 41, 42] (by decide +kernel) (by decide +kernel)) (goodIn_sub (fun _ h => List.mem_cons_of_mem _ (List.mem_append_right _ h)) (by decide +kernel))
set_option maxRecDepth 20000 in
theorem gX7_node_X7_addNode : GoodIn wsX7_node (wsV RX7 104 RX7 yX7_addNode wsX7_addNode) := goodIn_app (goodIn_of _ (by decide +kernel)) ggX7_node_X7_addNode
theorem dX7_node_0 : decode cX7_node 0 = .ok (.aload_n 0, 1) := by decide +kernel
theorem dX7_node_1 : decode cX7_node 1 = .ok (.iconst 0, 1) := by decide +kernel
theorem dX7_node_2 : decode cX7_node 2 = .ok (.putfield 84, 3) := by decide +kernel
theorem dX7_node_5 : decode cX7_node 5 = .ok (.aload_n 0, 1) := by decide +kernel
theorem dX7_node_6 : decode cX7_node 6 = .ok (.iconst 0, 1) := by decide +kernel
theorem dX7_node_7 : decode cX7_node 7 = .ok (.invokevirtual 104, 3) := by decide +kernel
theorem dX7_node_10 : decode cX7_node 10 = .ok (.ireturn, 1) := by decide +kernel
set_option maxRecDepth 20000 in
theorem ggX7_bundle_X7_isNode : GoodIn wsX7_bundle wsX7_isNode := goodIn_r _ [13, 4, 17, 18, 19, 20, 21, 22, 23, 24, 25, 26, 27, 28, 29, 30, 31, 32, 33, 34, 35, 36, 37, 38, 39, 40, 41, 42, 43, 44, 45, 46, 47, 48, 49, 50] (by decide +kernel) (by decide +kernel)
set_option maxRecDepth 20000 in
theorem gX7_bundle_X7_isNode : GoodIn wsX7_bundle (wsV RX7 91 RX7 yX7_isNode wsX7_isNode) := goodIn_app (goodIn_of _ (by decide +kernel)) ggX7_bundle_X7_isNode
set_option maxRecDepth 20000 in
theorem ggX7_bundle_X7_within : GoodIn wsX7_bundle wsX7_within := goodIn_r _ [16] (by decide +kernel) (by decide +kernel)
set_option maxRecDepth 20000 in
theorem gX7_bundle_X7_within : GoodIn wsX7_bundle (va_wsS RX7 100 yX7_within wsX7_within) := goodIn_app (goodIn_of _ (by decide +kernel)) ggX7_bundle_X7_within
theorem dX7_bundle_0 : decode cX7_bundle 0 = .ok (.aload_n 0, 1) := by decide +kernel
theorem dX7_bundle_1 : decode cX7_bundle 1 = .ok (.aload_n 0, 1) := by decide +kernel
theorem dX7_bundle_2 : decode cX7_bundle 2 = .ok (.iload_n 1, 1) := by decide +kernel
theorem dX7_bundle_3 : decode cX7_bundle 3 = .ok (.invokevirtual 91, 3) := by decide +kernel
theorem dX7_bundle_6 : decode cX7_bundle 6 = .ok (.ifCond .eq 11, 3) := by decide +kernel
theorem dX7_bundle_9 : decode cX7_bundle 9 = .ok (.aload_n 0, 1) := by decide +kernel
theorem dX7_bundle_10 : decode cX7_bundle 10 = .ok (.iload_n 2, 1) := by decide +kernel
theorem dX7_bundle_11 : decode cX7_bundle 11 = .ok (.invokevirtual 91, 3) := by decide +kernel
theorem dX7_bundle_14 : decode cX7_bundle 14 = .ok (.ifCond .ne 7, 3) := by decide +kernel
theorem dX7_bundle_17 : decode cX7_bundle 17 = .ok (.iconst 1, 1) := by decide +kernel
theorem dX7_bundle_18 : decode cX7_bundle 18 = .ok (.goto 19, 3) := by decide +kernel
theorem dX7_bundle_21 : decode cX7_bundle 21 = .ok (.lload_n 3, 1) := by decide +kernel
theorem dX7_bundle_22 : decode cX7_bundle 22 = .ok (.lconst 1, 1) := by decide +kernel
theorem dX7_bundle_23 : decode cX7_bundle 23 = .ok (.ldc2_w 108, 3) := by decide +kernel
theorem dX7_bundle_26 : decode cX7_bundle 26 = .ok (.invokestatic 100, 3) := by decide +kernel
theorem dX7_bundle_29 : decode cX7_bundle 29 = .ok (.ifCond .eq 7, 3) := by decide +kernel
theorem dX7_bundle_32 : decode cX7_bundle 32 = .ok (.iconst 0, 1) := by decide +kernel
theorem dX7_bundle_33 : decode cX7_bundle 33 = .ok (.goto 4, 3) := by decide +kernel
theorem dX7_bundle_36 : decode cX7_bundle 36 = .ok (.iconst 2, 1) := by decide +kernel
theorem dX7_bundle_37 : decode cX7_bundle 37 = .ok (.putfield 84, 3) := by decide +kernel
theorem dX7_bundle_40 : decode cX7_bundle 40 = .ok (.aload_n 0, 1) := by decide +kernel
theorem dX7_bundle_41 : decode cX7_bundle 41 = .ok (.getfield 84, 3) := by decide +kernel
theorem dX7_bundle_44 : decode cX7_bundle 44 = .ok (.ifCond .eq 5, 3) := by decide +kernel
theorem dX7_bundle_47 : decode cX7_bundle 47 = .ok (.iconst 0, 1) := by decide +kernel
theorem dX7_bundle_48 : decode cX7_bundle 48 = .ok (.ireturn, 1) := by decide +kernel
theorem dX7_bundle_49 : decode cX7_bundle 49 = .ok (.aload_n 0, 1) := by decide +kernel
theorem dX7_bundle_50 : decode cX7_bundle 50 = .ok (.getfield 13, 3) := by decide +kernel
theorem dX7_bundle_53 : decode cX7_bundle 53 = .ok (.bipush 16, 2) := by decide +kernel
theorem dX7_bundle_55 : decode cX7_bundle 55 = .ok (.iload_n 1, 1) := by decide +kernel
theorem dX7_bundle_56 : decode cX7_bundle 56 = .ok (.imul, 1) := by decide +kernel
theorem dX7_bundle_57 : decode cX7_bundle 57 = .ok (.iload_n 2, 1) := by decide +kernel
theorem dX7_bundle_58 : decode cX7_bundle 58 = .ok (.iadd, 1) := by decide +kernel
theorem dX7_bundle_59 : decode cX7_bundle 59 = .ok (.laload, 1) := by decide +kernel
theorem dX7_bundle_60 : decode cX7_bundle 60 = .ok (.lconst 0, 1) := by decide +kernel
theorem dX7_bundle_61 : decode cX7_bundle 61 = .ok (.lcmp, 1) := by decide +kernel
theorem dX7_bundle_62 : decode cX7_bundle 62 = .ok (.ifCond .lt 5, 3) := by decide +kernel
theorem dX7_bundle_65 : decode cX7_bundle 65 = .ok (.iconst (-1), 1) := by decide +kernel
theorem dX7_bundle_66 : decode cX7_bundle 66 = .ok (.ireturn, 1) := by decide +kernel
theorem dX7_bundle_67 : decode cX7_bundle 67 = .ok (.iconst 0, 1) := by decide +kernel
theorem dX7_bundle_68 : decode cX7_bundle 68 = .ok (.istore 5, 2) := by decide +kernel
theorem dX7_bundle_70 : decode cX7_bundle 70 = .ok (.iconst 0, 1) := by decide +kernel
theorem dX7_bundle_71 : decode cX7_bundle 71 = .ok (.istore 6, 2) := by decide +kernel
theorem dX7_bundle_73 : decode cX7_bundle 73 = .ok (.iconst 0, 1) := by decide +kernel
theorem dX7_bundle_74 : decode cX7_bundle 74 = .ok (.istore 7, 2) := by decide +kernel
theorem dX7_bundle_76 : decode cX7_bundle 76 = .ok (.iload 7, 2) := by decide +kernel
theorem dX7_bundle_78 : decode cX7_bundle 78 = .ok (.aload_n 0, 1) := by decide +kernel
theorem dX7_bundle_79 : decode cX7_bundle 79 = .ok (.getfield 88, 3) := by decide +kernel
theorem dX7_bundle_82 : decode cX7_bundle 82 = .ok (.if_icmp .ge 71, 3) := by decide +kernel
theorem dX7_bundle_85 : decode cX7_bundle 85 = .ok (.aload_n 0, 1) := by decide +kernel
theorem dX7_bundle_86 : decode cX7_bundle 86 = .ok (.getfield 13, 3) := by decide +kernel
theorem dX7_bundle_89 : decode cX7_bundle 89 = .ok (.bipush 16, 2) := by decide +kernel
theorem dX7_bundle_91 : decode cX7_bundle 91 = .ok (.iload 7, 2) := by decide +kernel
theorem dX7_bundle_93 : decode cX7_bundle 93 = .ok (.imul, 1) := by decide +kernel
theorem dX7_bundle_94 : decode cX7_bundle 94 = .ok (.iload_n 1, 1) := by decide +kernel
theorem dX7_bundle_95 : decode cX7_bundle 95 = .ok (.iadd, 1) := by decide +kernel
theorem dX7_bundle_96 : decode cX7_bundle 96 = .ok (.laload, 1) := by decide +kernel
theorem dX7_bundle_97 : decode cX7_bundle 97 = .ok (.lconst 0, 1) := by decide +kernel
theorem dX7_bundle_98 : decode cX7_bundle 98 = .ok (.lcmp, 1) := by decide +kernel
theorem dX7_bundle_99 : decode cX7_bundle 99 = .ok (.ifCond .lt 13, 3) := by decide +kernel
theorem dX7_bundle_102 : decode cX7_bundle 102 = .ok (.iload 5, 2) := by decide +kernel
theorem dX7_bundle_104 : decode cX7_bundle 104 = .ok (.iconst 1, 1) := by decide +kernel
theorem dX7_bundle_105 : decode cX7_bundle 105 = .ok (.iload 7, 2) := by decide +kernel
theorem dX7_bundle_107 : decode cX7_bundle 107 = .ok (.ishl, 1) := by decide +kernel
theorem dX7_bundle_108 : decode cX7_bundle 108 = .ok (.ior, 1) := by decide +kernel
theorem dX7_bundle_109 : decode cX7_bundle 109 = .ok (.goto 5, 3) := by decide +kernel
theorem dX7_bundle_112 : decode cX7_bundle 112 = .ok (.iload 5, 2) := by decide +kernel
theorem dX7_bundle_114 : decode cX7_bundle 114 = .ok (.istore 5, 2) := by decide +kernel
theorem dX7_bundle_116 : decode cX7_bundle 116 = .ok (.aload_n 0, 1) := by decide +kernel
theorem dX7_bundle_117 : decode cX7_bundle 117 = .ok (.getfield 13, 3) := by decide +kernel
theorem dX7_bundle_120 : decode cX7_bundle 120 = .ok (.bipush 16, 2) := by decide +kernel
theorem dX7_bundle_122 : decode cX7_bundle 122 = .ok (.iload 7, 2) := by decide +kernel
theorem dX7_bundle_124 : decode cX7_bundle 124 = .ok (.imul, 1) := by decide +kernel
theorem dX7_bundle_125 : decode cX7_bundle 125 = .ok (.iload_n 2, 1) := by decide +kernel
theorem dX7_bundle_126 : decode cX7_bundle 126 = .ok (.iadd, 1) := by decide +kernel
theorem dX7_bundle_127 : decode cX7_bundle 127 = .ok (.laload, 1) := by decide +kernel
theorem dX7_bundle_128 : decode cX7_bundle 128 = .ok (.lconst 0, 1) := by decide +kernel
theorem dX7_bundle_129 : decode cX7_bundle 129 = .ok (.lcmp, 1) := by decide +kernel
theorem dX7_bundle_130 : decode cX7_bundle 130 = .ok (.ifCond .lt 13, 3) := by decide +kernel
theorem dX7_bundle_133 : decode cX7_bundle 133 = .ok (.iload 6, 2) := by decide +kernel
theorem dX7_bundle_135 : decode cX7_bundle 135 = .ok (.iconst 1, 1) := by decide +kernel
theorem dX7_bundle_136 : decode cX7_bundle 136 = .ok (.iload 7, 2) := by decide +kernel
theorem dX7_bundle_138 : decode cX7_bundle 138 = .ok (.ishl, 1) := by decide +kernel
theorem dX7_bundle_139 : decode cX7_bundle 139 = .ok (.ior, 1) := by decide +kernel
theorem dX7_bundle_140 : decode cX7_bundle 140 = .ok (.goto 5, 3) := by decide +kernel
theorem dX7_bundle_143 : decode cX7_bundle 143 = .ok (.iload 6, 2) := by decide +kernel
theorem dX7_bundle_145 : decode cX7_bundle 145 = .ok (.istore 6, 2) := by decide +kernel
theorem dX7_bundle_147 : decode cX7_bundle 147 = .ok (.iinc 7 1, 3) := by decide +kernel
theorem dX7_bundle_150 : decode cX7_bundle 150 = .ok (.goto (-74), 3) := by decide +kernel
theorem dX7_bundle_153 : decode cX7_bundle 153 = .ok (.iconst 0, 1) := by decide +kernel
theorem dX7_bundle_154 : decode cX7_bundle 154 = .ok (.istore 7, 2) := by decide +kernel
theorem dX7_bundle_156 : decode cX7_bundle 156 = .ok (.iload 7, 2) := by decide +kernel
theorem dX7_bundle_158 : decode cX7_bundle 158 = .ok (.aload_n 0, 1) := by decide +kernel
theorem dX7_bundle_159 : decode cX7_bundle 159 = .ok (.getfield 88, 3) := by decide +kernel
theorem dX7_bundle_162 : decode cX7_bundle 162 = .ok (.if_icmp .ge 109, 3) := by decide +kernel
theorem dX7_bundle_165 : decode cX7_bundle 165 = .ok (.iconst 0, 1) := by decide +kernel
theorem dX7_bundle_166 : decode cX7_bundle 166 = .ok (.istore 8, 2) := by decide +kernel
theorem dX7_bundle_168 : decode cX7_bundle 168 = .ok (.iload 8, 2) := by decide +kernel
theorem dX7_bundle_170 : decode cX7_bundle 170 = .ok (.aload_n 0, 1) := by decide +kernel
theorem dX7_bundle_171 : decode cX7_bundle 171 = .ok (.getfield 88, 3) := by decide +kernel
theorem dX7_bundle_174 : decode cX7_bundle 174 = .ok (.if_icmp .ge 91, 3) := by decide +kernel
theorem dX7_bundle_177 : decode cX7_bundle 177 = .ok (.iload 5, 2) := by decide +kernel
theorem dX7_bundle_179 : decode cX7_bundle 179 = .ok (.iload 7, 2) := by decide +kernel
theorem dX7_bundle_181 : decode cX7_bundle 181 = .ok (.ishr, 1) := by decide +kernel
theorem dX7_bundle_182 : decode cX7_bundle 182 = .ok (.iconst 1, 1) := by decide +kernel
theorem dX7_bundle_183 : decode cX7_bundle 183 = .ok (.iand, 1) := by decide +kernel
theorem dX7_bundle_184 : decode cX7_bundle 184 = .ok (.ifCond .eq 75, 3) := by decide +kernel
theorem dX7_bundle_187 : decode cX7_bundle 187 = .ok (.iload 6, 2) := by decide +kernel
theorem dX7_bundle_189 : decode cX7_bundle 189 = .ok (.iload 8, 2) := by decide +kernel
theorem dX7_bundle_191 : decode cX7_bundle 191 = .ok (.ishr, 1) := by decide +kernel
theorem dX7_bundle_192 : decode cX7_bundle 192 = .ok (.iconst 1, 1) := by decide +kernel
theorem dX7_bundle_193 : decode cX7_bundle 193 = .ok (.iand, 1) := by decide +kernel
theorem dX7_bundle_194 : decode cX7_bundle 194 = .ok (.ifCond .ne 6, 3) := by decide +kernel
theorem dX7_bundle_197 : decode cX7_bundle 197 = .ok (.goto 62, 3) := by decide +kernel
theorem dX7_bundle_200 : decode cX7_bundle 200 = .ok (.aload_n 0, 1) := by decide +kernel
theorem dX7_bundle_201 : decode cX7_bundle 201 = .ok (.getfield 13, 3) := by decide +kernel
theorem dX7_bundle_204 : decode cX7_bundle 204 = .ok (.bipush 16, 2) := by decide +kernel
theorem dX7_bundle_206 : decode cX7_bundle 206 = .ok (.iload 7, 2) := by decide +kernel
theorem dX7_bundle_208 : decode cX7_bundle 208 = .ok (.imul, 1) := by decide +kernel
theorem dX7_bundle_209 : decode cX7_bundle 209 = .ok (.iload_n 1, 1) := by decide +kernel
theorem dX7_bundle_210 : decode cX7_bundle 210 = .ok (.iadd, 1) := by decide +kernel
theorem dX7_bundle_211 : decode cX7_bundle 211 = .ok (.laload, 1) := by decide +kernel
theorem dX7_bundle_212 : decode cX7_bundle 212 = .ok (.lload_n 3, 1) := by decide +kernel
theorem dX7_bundle_213 : decode cX7_bundle 213 = .ok (.ladd, 1) := by decide +kernel
theorem dX7_bundle_214 : decode cX7_bundle 214 = .ok (.aload_n 0, 1) := by decide +kernel
theorem dX7_bundle_215 : decode cX7_bundle 215 = .ok (.getfield 13, 3) := by decide +kernel
theorem dX7_bundle_218 : decode cX7_bundle 218 = .ok (.bipush 16, 2) := by decide +kernel
theorem dX7_bundle_220 : decode cX7_bundle 220 = .ok (.iload_n 2, 1) := by decide +kernel
theorem dX7_bundle_221 : decode cX7_bundle 221 = .ok (.imul, 1) := by decide +kernel
theorem dX7_bundle_222 : decode cX7_bundle 222 = .ok (.iload 8, 2) := by decide +kernel
theorem dX7_bundle_224 : decode cX7_bundle 224 = .ok (.iadd, 1) := by decide +kernel
theorem dX7_bundle_225 : decode cX7_bundle 225 = .ok (.laload, 1) := by decide +kernel
theorem dX7_bundle_226 : decode cX7_bundle 226 = .ok (.ladd, 1) := by decide +kernel
theorem dX7_bundle_227 : decode cX7_bundle 227 = .ok (.lstore 9, 2) := by decide +kernel
theorem dX7_bundle_229 : decode cX7_bundle 229 = .ok (.aload_n 0, 1) := by decide +kernel
theorem dX7_bundle_230 : decode cX7_bundle 230 = .ok (.getfield 13, 3) := by decide +kernel
theorem dX7_bundle_233 : decode cX7_bundle 233 = .ok (.bipush 16, 2) := by decide +kernel
theorem dX7_bundle_235 : decode cX7_bundle 235 = .ok (.iload 7, 2) := by decide +kernel
theorem dX7_bundle_237 : decode cX7_bundle 237 = .ok (.imul, 1) := by decide +kernel
theorem dX7_bundle_238 : decode cX7_bundle 238 = .ok (.iload 8, 2) := by decide +kernel
theorem dX7_bundle_240 : decode cX7_bundle 240 = .ok (.iadd, 1) := by decide +kernel
theorem dX7_bundle_241 : decode cX7_bundle 241 = .ok (.lload 9, 2) := by decide +kernel
theorem dX7_bundle_243 : decode cX7_bundle 243 = .ok (.lastore, 1) := by decide +kernel
theorem dX7_bundle_244 : decode cX7_bundle 244 = .ok (.aload_n 0, 1) := by decide +kernel
theorem dX7_bundle_245 : decode cX7_bundle 245 = .ok (.getfield 13, 3) := by decide +kernel
theorem dX7_bundle_248 : decode cX7_bundle 248 = .ok (.bipush 16, 2) := by decide +kernel
theorem dX7_bundle_250 : decode cX7_bundle 250 = .ok (.iload 8, 2) := by decide +kernel
theorem dX7_bundle_252 : decode cX7_bundle 252 = .ok (.imul, 1) := by decide +kernel
theorem dX7_bundle_253 : decode cX7_bundle 253 = .ok (.iload 7, 2) := by decide +kernel
theorem dX7_bundle_255 : decode cX7_bundle 255 = .ok (.iadd, 1) := by decide +kernel
theorem dX7_bundle_256 : decode cX7_bundle 256 = .ok (.lload 9, 2) := by decide +kernel
theorem dX7_bundle_258 : decode cX7_bundle 258 = .ok (.lastore, 1) := by decide +kernel
theorem dX7_bundle_259 : decode cX7_bundle 259 = .ok (.iinc 8 1, 3) := by decide +kernel
theorem dX7_bundle_262 : decode cX7_bundle 262 = .ok (.goto (-94), 3) := by decide +kernel
theorem dX7_bundle_265 : decode cX7_bundle 265 = .ok (.iinc 7 1, 3) := by decide +kernel
theorem dX7_bundle_268 : decode cX7_bundle 268 = .ok (.goto (-112), 3) := by decide +kernel
theorem dX7_bundle_271 : decode cX7_bundle 271 = .ok (.aload_n 0, 1) := by decide +kernel
theorem dX7_bundle_272 : decode cX7_bundle 272 = .ok (.getfield 17, 3) := by decide +kernel
theorem dX7_bundle_275 : decode cX7_bundle 275 = .ok (.aload_n 0, 1) := by decide +kernel
theorem dX7_bundle_276 : decode cX7_bundle 276 = .ok (.getfield 110, 3) := by decide +kernel
theorem dX7_bundle_279 : decode cX7_bundle 279 = .ok (.iload_n 1, 1) := by decide +kernel
theorem dX7_bundle_280 : decode cX7_bundle 280 = .ok (.iastore, 1) := by decide +kernel
theorem dX7_bundle_281 : decode cX7_bundle 281 = .ok (.aload_n 0, 1) := by decide +kernel
theorem dX7_bundle_282 : decode cX7_bundle 282 = .ok (.getfield 20, 3) := by decide +kernel
theorem dX7_bundle_285 : decode cX7_bundle 285 = .ok (.aload_n 0, 1) := by decide +kernel
theorem dX7_bundle_286 : decode cX7_bundle 286 = .ok (.getfield 110, 3) := by decide +kernel
theorem dX7_bundle_289 : decode cX7_bundle 289 = .ok (.iload_n 2, 1) := by decide +kernel
theorem dX7_bundle_290 : decode cX7_bundle 290 = .ok (.iastore, 1) := by decide +kernel
theorem dX7_bundle_291 : decode cX7_bundle 291 = .ok (.aload_n 0, 1) := by decide +kernel
theorem dX7_bundle_292 : decode cX7_bundle 292 = .ok (.getfield 23, 3) := by decide +kernel
theorem dX7_bundle_295 : decode cX7_bundle 295 = .ok (.aload_n 0, 1) := by decide +kernel
theorem dX7_bundle_296 : decode cX7_bundle 296 = .ok (.getfield 110, 3) := by decide +kernel
theorem dX7_bundle_299 : decode cX7_bundle 299 = .ok (.lload_n 3, 1) := by decide +kernel
theorem dX7_bundle_300 : decode cX7_bundle 300 = .ok (.lastore, 1) := by decide +kernel
theorem dX7_bundle_301 : decode cX7_bundle 301 = .ok (.aload_n 0, 1) := by decide +kernel
theorem dX7_bundle_302 : decode cX7_bundle 302 = .ok (.dup, 1) := by decide +kernel
theorem dX7_bundle_303 : decode cX7_bundle 303 = .ok (.getfield 110, 3) := by decide +kernel
theorem dX7_bundle_306 : decode cX7_bundle 306 = .ok (.iconst 1, 1) := by decide +kernel
theorem dX7_bundle_307 : decode cX7_bundle 307 = .ok (.iadd, 1) := by decide +kernel
theorem dX7_bundle_308 : decode cX7_bundle 308 = .ok (.putfield 110, 3) := by decide +kernel
theorem dX7_bundle_311 : decode cX7_bundle 311 = .ok (.aload_n 0, 1) := by decide +kernel
theorem dX7_bundle_312 : decode cX7_bundle 312 = .ok (.getfield 110, 3) := by decide +kernel
theorem dX7_bundle_315 : decode cX7_bundle 315 = .ok (.iconst 1, 1) := by decide +kernel
theorem dX7_bundle_316 : decode cX7_bundle 316 = .ok (.isub, 1) := by decide +kernel
theorem dX7_bundle_317 : decode cX7_bundle 317 = .ok (.ireturn, 1) := by decide +kernel
set_option maxRecDepth 20000 in
theorem ggX7_wire_X7_isCavity : GoodIn wsX7_wire wsX7_isCavity := goodIn_ca (goodIn_r _ [12, 13, 14, 15, 16, 11, 17, 18, 19, 20, 21, 22, 23, 24, 25, 26, 27, 28, 29, 30, 31, 32, 33, 34, 35, 36, 37, 38, 39, 40, 41, 42, 43, 44, 45, 46, 47, 48, 49, 50, 51, 52] (by decide +kernel) (by decide +kernel)) (goodIn_sub (fun _ h => List.mem_cons_of_mem _ (List.mem_append_right _ h)) (by decide +kernel))
set_option maxRecDepth 20000 in
theorem gX7_wire_X7_isCavity : GoodIn wsX7_wire (wsV RX7 113 RX7 yX7_isCavity wsX7_isCavity) := goodIn_app (goodIn_of _ (by decide +kernel)) ggX7_wire_X7_isCavity
theorem dX7_wire_0 : decode cX7_wire 0 = .ok (.aload_n 0, 1) := by decide +kernel
theorem dX7_wire_1 : decode cX7_wire 1 = .ok (.aload_n 0, 1) := by decide +kernel
theorem dX7_wire_2 : decode cX7_wire 2 = .ok (.iload_n 1, 1) := by decide +kernel
theorem dX7_wire_3 : decode cX7_wire 3 = .ok (.iload_n 2, 1) := by decide +kernel
theorem dX7_wire_4 : decode cX7_wire 4 = .ok (.invokevirtual 113, 3) := by decide +kernel
theorem dX7_wire_7 : decode cX7_wire 7 = .ok (.ifCond .eq 17, 3) := by decide +kernel
theorem dX7_wire_10 : decode cX7_wire 10 = .ok (.aload_n 0, 1) := by decide +kernel
theorem dX7_wire_11 : decode cX7_wire 11 = .ok (.iload_n 3, 1) := by decide +kernel
theorem dX7_wire_12 : decode cX7_wire 12 = .ok (.iload 4, 2) := by decide +kernel
theorem dX7_wire_14 : decode cX7_wire 14 = .ok (.invokevirtual 113, 3) := by decide +kernel
theorem dX7_wire_17 : decode cX7_wire 17 = .ok (.ifCond .eq 7, 3) := by decide +kernel
theorem dX7_wire_20 : decode cX7_wire 20 = .ok (.iconst 0, 1) := by decide +kernel
theorem dX7_wire_21 : decode cX7_wire 21 = .ok (.goto 4, 3) := by decide +kernel
theorem dX7_wire_24 : decode cX7_wire 24 = .ok (.iconst 1, 1) := by decide +kernel
theorem dX7_wire_25 : decode cX7_wire 25 = .ok (.putfield 84, 3) := by decide +kernel
theorem dX7_wire_28 : decode cX7_wire 28 = .ok (.aload_n 0, 1) := by decide +kernel
theorem dX7_wire_29 : decode cX7_wire 29 = .ok (.getfield 84, 3) := by decide +kernel
theorem dX7_wire_32 : decode cX7_wire 32 = .ok (.ifCond .eq 5, 3) := by decide +kernel
theorem dX7_wire_35 : decode cX7_wire 35 = .ok (.iconst 0, 1) := by decide +kernel
theorem dX7_wire_36 : decode cX7_wire 36 = .ok (.ireturn, 1) := by decide +kernel
theorem dX7_wire_37 : decode cX7_wire 37 = .ok (.bipush 16, 2) := by decide +kernel
theorem dX7_wire_39 : decode cX7_wire 39 = .ok (.iload_n 1, 1) := by decide +kernel
theorem dX7_wire_40 : decode cX7_wire 40 = .ok (.imul, 1) := by decide +kernel
theorem dX7_wire_41 : decode cX7_wire 41 = .ok (.iload_n 2, 1) := by decide +kernel
theorem dX7_wire_42 : decode cX7_wire 42 = .ok (.iadd, 1) := by decide +kernel
theorem dX7_wire_43 : decode cX7_wire 43 = .ok (.istore 5, 2) := by decide +kernel
theorem dX7_wire_45 : decode cX7_wire 45 = .ok (.bipush 16, 2) := by decide +kernel
theorem dX7_wire_47 : decode cX7_wire 47 = .ok (.iload_n 3, 1) := by decide +kernel
theorem dX7_wire_48 : decode cX7_wire 48 = .ok (.imul, 1) := by decide +kernel
theorem dX7_wire_49 : decode cX7_wire 49 = .ok (.iload 4, 2) := by decide +kernel
theorem dX7_wire_51 : decode cX7_wire 51 = .ok (.iadd, 1) := by decide +kernel
theorem dX7_wire_52 : decode cX7_wire 52 = .ok (.istore 6, 2) := by decide +kernel
theorem dX7_wire_54 : decode cX7_wire 54 = .ok (.iload 5, 2) := by decide +kernel
theorem dX7_wire_56 : decode cX7_wire 56 = .ok (.iload 6, 2) := by decide +kernel
theorem dX7_wire_58 : decode cX7_wire 58 = .ok (.if_icmp .eq 34, 3) := by decide +kernel
theorem dX7_wire_61 : decode cX7_wire 61 = .ok (.aload_n 0, 1) := by decide +kernel
theorem dX7_wire_62 : decode cX7_wire 62 = .ok (.getfield 38, 3) := by decide +kernel
theorem dX7_wire_65 : decode cX7_wire 65 = .ok (.iload 5, 2) := by decide +kernel
theorem dX7_wire_67 : decode cX7_wire 67 = .ok (.iaload, 1) := by decide +kernel
theorem dX7_wire_68 : decode cX7_wire 68 = .ok (.iconst (-1), 1) := by decide +kernel
theorem dX7_wire_69 : decode cX7_wire 69 = .ok (.if_icmp .ne 23, 3) := by decide +kernel
theorem dX7_wire_72 : decode cX7_wire 72 = .ok (.aload_n 0, 1) := by decide +kernel
theorem dX7_wire_73 : decode cX7_wire 73 = .ok (.getfield 38, 3) := by decide +kernel
theorem dX7_wire_76 : decode cX7_wire 76 = .ok (.iload 6, 2) := by decide +kernel
theorem dX7_wire_78 : decode cX7_wire 78 = .ok (.iaload, 1) := by decide +kernel
theorem dX7_wire_79 : decode cX7_wire 79 = .ok (.iconst (-1), 1) := by decide +kernel
theorem dX7_wire_80 : decode cX7_wire 80 = .ok (.if_icmp .ne 12, 3) := by decide +kernel
theorem dX7_wire_83 : decode cX7_wire 83 = .ok (.aload_n 0, 1) := by decide +kernel
theorem dX7_wire_84 : decode cX7_wire 84 = .ok (.getfield 95, 3) := by decide +kernel
theorem dX7_wire_87 : decode cX7_wire 87 = .ok (.bipush 24, 2) := by decide +kernel
theorem dX7_wire_89 : decode cX7_wire 89 = .ok (.if_icmp .ne 5, 3) := by decide +kernel
theorem dX7_wire_92 : decode cX7_wire 92 = .ok (.iconst (-1), 1) := by decide +kernel
theorem dX7_wire_93 : decode cX7_wire 93 = .ok (.ireturn, 1) := by decide +kernel
theorem dX7_wire_94 : decode cX7_wire 94 = .ok (.aload_n 0, 1) := by decide +kernel
theorem dX7_wire_95 : decode cX7_wire 95 = .ok (.getfield 26, 3) := by decide +kernel
theorem dX7_wire_98 : decode cX7_wire 98 = .ok (.aload_n 0, 1) := by decide +kernel
theorem dX7_wire_99 : decode cX7_wire 99 = .ok (.getfield 95, 3) := by decide +kernel
theorem dX7_wire_102 : decode cX7_wire 102 = .ok (.iload 5, 2) := by decide +kernel
theorem dX7_wire_104 : decode cX7_wire 104 = .ok (.iastore, 1) := by decide +kernel
theorem dX7_wire_105 : decode cX7_wire 105 = .ok (.aload_n 0, 1) := by decide +kernel
theorem dX7_wire_106 : decode cX7_wire 106 = .ok (.getfield 29, 3) := by decide +kernel
theorem dX7_wire_109 : decode cX7_wire 109 = .ok (.aload_n 0, 1) := by decide +kernel
theorem dX7_wire_110 : decode cX7_wire 110 = .ok (.getfield 95, 3) := by decide +kernel
theorem dX7_wire_113 : decode cX7_wire 113 = .ok (.iload 6, 2) := by decide +kernel
theorem dX7_wire_115 : decode cX7_wire 115 = .ok (.iastore, 1) := by decide +kernel
theorem dX7_wire_116 : decode cX7_wire 116 = .ok (.aload_n 0, 1) := by decide +kernel
theorem dX7_wire_117 : decode cX7_wire 117 = .ok (.getfield 35, 3) := by decide +kernel
theorem dX7_wire_120 : decode cX7_wire 120 = .ok (.aload_n 0, 1) := by decide +kernel
theorem dX7_wire_121 : decode cX7_wire 121 = .ok (.getfield 95, 3) := by decide +kernel
theorem dX7_wire_124 : decode cX7_wire 124 = .ok (.ldc2_w 117, 3) := by decide +kernel
theorem dX7_wire_127 : decode cX7_wire 127 = .ok (.lastore, 1) := by decide +kernel
theorem dX7_wire_128 : decode cX7_wire 128 = .ok (.aload_n 0, 1) := by decide +kernel
theorem dX7_wire_129 : decode cX7_wire 129 = .ok (.getfield 38, 3) := by decide +kernel
theorem dX7_wire_132 : decode cX7_wire 132 = .ok (.iload 5, 2) := by decide +kernel
theorem dX7_wire_134 : decode cX7_wire 134 = .ok (.aload_n 0, 1) := by decide +kernel
theorem dX7_wire_135 : decode cX7_wire 135 = .ok (.getfield 95, 3) := by decide +kernel
theorem dX7_wire_138 : decode cX7_wire 138 = .ok (.iastore, 1) := by decide +kernel
theorem dX7_wire_139 : decode cX7_wire 139 = .ok (.aload_n 0, 1) := by decide +kernel
theorem dX7_wire_140 : decode cX7_wire 140 = .ok (.getfield 38, 3) := by decide +kernel
theorem dX7_wire_143 : decode cX7_wire 143 = .ok (.iload 6, 2) := by decide +kernel
theorem dX7_wire_145 : decode cX7_wire 145 = .ok (.aload_n 0, 1) := by decide +kernel
theorem dX7_wire_146 : decode cX7_wire 146 = .ok (.getfield 95, 3) := by decide +kernel
theorem dX7_wire_149 : decode cX7_wire 149 = .ok (.iastore, 1) := by decide +kernel
theorem dX7_wire_150 : decode cX7_wire 150 = .ok (.aload_n 0, 1) := by decide +kernel
theorem dX7_wire_151 : decode cX7_wire 151 = .ok (.dup, 1) := by decide +kernel
theorem dX7_wire_152 : decode cX7_wire 152 = .ok (.getfield 95, 3) := by decide +kernel
theorem dX7_wire_155 : decode cX7_wire 155 = .ok (.iconst 1, 1) := by decide +kernel
theorem dX7_wire_156 : decode cX7_wire 156 = .ok (.iadd, 1) := by decide +kernel
theorem dX7_wire_157 : decode cX7_wire 157 = .ok (.putfield 95, 3) := by decide +kernel
theorem dX7_wire_160 : decode cX7_wire 160 = .ok (.aload_n 0, 1) := by decide +kernel
theorem dX7_wire_161 : decode cX7_wire 161 = .ok (.getfield 95, 3) := by decide +kernel
theorem dX7_wire_164 : decode cX7_wire 164 = .ok (.iconst 1, 1) := by decide +kernel
theorem dX7_wire_165 : decode cX7_wire 165 = .ok (.isub, 1) := by decide +kernel
theorem dX7_wire_166 : decode cX7_wire 166 = .ok (.ireturn, 1) := by decide +kernel
set_option maxRecDepth 20000 in
theorem ggX7_load_X7_isWire : GoodIn wsX7_load wsX7_isWire := goodIn_r _ [9, 10, 14, 15, 16, 17, 18, 19, 20, 21, 22, 23, 24, 25, 26, 27, 28, 29, 30, 31, 32, 33, 34, 35, 36, 37, 38, 39, 40, 41, 42, 43, 44, 45, 46, 47] (by decide +kernel) (by decide +kernel)
set_option maxRecDepth 20000 in
theorem gX7_load_X7_isWire : GoodIn wsX7_load (wsV RX7 119 RX7 yX7_isWire wsX7_isWire) := goodIn_app (goodIn_of _ (by decide +kernel)) ggX7_load_X7_isWire
set_option maxRecDepth 20000 in
theorem ggX7_load_X7_within : GoodIn wsX7_load wsX7_within := goodIn_r _ [13] (by decide +kernel) (by decide +kernel)
set_option maxRecDepth 20000 in
theorem gX7_load_X7_within : GoodIn wsX7_load (va_wsS RX7 100 yX7_within wsX7_within) := goodIn_app (goodIn_of _ (by decide +kernel)) ggX7_load_X7_within
theorem dX7_load_0 : decode cX7_load 0 = .ok (.aload_n 0, 1) := by decide +kernel
theorem dX7_load_1 : decode cX7_load 1 = .ok (.aload_n 0, 1) := by decide +kernel
theorem dX7_load_2 : decode cX7_load 2 = .ok (.iload_n 1, 1) := by decide +kernel
theorem dX7_load_3 : decode cX7_load 3 = .ok (.invokevirtual 119, 3) := by decide +kernel
theorem dX7_load_6 : decode cX7_load 6 = .ok (.ifCond .ne 7, 3) := by decide +kernel
theorem dX7_load_9 : decode cX7_load 9 = .ok (.iconst 1, 1) := by decide +kernel
theorem dX7_load_10 : decode cX7_load 10 = .ok (.goto 31, 3) := by decide +kernel
theorem dX7_load_13 : decode cX7_load 13 = .ok (.lload_n 2, 1) := by decide +kernel
theorem dX7_load_14 : decode cX7_load 14 = .ok (.lconst 0, 1) := by decide +kernel
theorem dX7_load_15 : decode cX7_load 15 = .ok (.ldc2_w 117, 3) := by decide +kernel
theorem dX7_load_18 : decode cX7_load 18 = .ok (.invokestatic 100, 3) := by decide +kernel
theorem dX7_load_21 : decode cX7_load 21 = .ok (.ifCond .eq 19, 3) := by decide +kernel
theorem dX7_load_24 : decode cX7_load 24 = .ok (.lload 4, 2) := by decide +kernel
theorem dX7_load_26 : decode cX7_load 26 = .ok (.lconst 0, 1) := by decide +kernel
theorem dX7_load_27 : decode cX7_load 27 = .ok (.ldc2_w 117, 3) := by decide +kernel
theorem dX7_load_30 : decode cX7_load 30 = .ok (.invokestatic 100, 3) := by decide +kernel
theorem dX7_load_33 : decode cX7_load 33 = .ok (.ifCond .eq 7, 3) := by decide +kernel
theorem dX7_load_36 : decode cX7_load 36 = .ok (.iconst 0, 1) := by decide +kernel
theorem dX7_load_37 : decode cX7_load 37 = .ok (.goto 4, 3) := by decide +kernel
theorem dX7_load_40 : decode cX7_load 40 = .ok (.iconst 2, 1) := by decide +kernel
theorem dX7_load_41 : decode cX7_load 41 = .ok (.putfield 84, 3) := by decide +kernel
theorem dX7_load_44 : decode cX7_load 44 = .ok (.aload_n 0, 1) := by decide +kernel
theorem dX7_load_45 : decode cX7_load 45 = .ok (.getfield 84, 3) := by decide +kernel
theorem dX7_load_48 : decode cX7_load 48 = .ok (.ifCond .ne 26, 3) := by decide +kernel
theorem dX7_load_51 : decode cX7_load 51 = .ok (.aload_n 0, 1) := by decide +kernel
theorem dX7_load_52 : decode cX7_load 52 = .ok (.getfield 32, 3) := by decide +kernel
theorem dX7_load_55 : decode cX7_load 55 = .ok (.iload_n 1, 1) := by decide +kernel
theorem dX7_load_56 : decode cX7_load 56 = .ok (.laload, 1) := by decide +kernel
theorem dX7_load_57 : decode cX7_load 57 = .ok (.lload_n 2, 1) := by decide +kernel
theorem dX7_load_58 : decode cX7_load 58 = .ok (.lcmp, 1) := by decide +kernel
theorem dX7_load_59 : decode cX7_load 59 = .ok (.ifCond .ne 17, 3) := by decide +kernel
theorem dX7_load_62 : decode cX7_load 62 = .ok (.aload_n 0, 1) := by decide +kernel
theorem dX7_load_63 : decode cX7_load 63 = .ok (.getfield 35, 3) := by decide +kernel
theorem dX7_load_66 : decode cX7_load 66 = .ok (.iload_n 1, 1) := by decide +kernel
theorem dX7_load_67 : decode cX7_load 67 = .ok (.laload, 1) := by decide +kernel
theorem dX7_load_68 : decode cX7_load 68 = .ok (.lload 4, 2) := by decide +kernel
theorem dX7_load_70 : decode cX7_load 70 = .ok (.lcmp, 1) := by decide +kernel
theorem dX7_load_71 : decode cX7_load 71 = .ok (.ifCond .ne 5, 3) := by decide +kernel
theorem dX7_load_74 : decode cX7_load 74 = .ok (.iconst 0, 1) := by decide +kernel
theorem dX7_load_75 : decode cX7_load 75 = .ok (.ireturn, 1) := by decide +kernel
theorem dX7_load_76 : decode cX7_load 76 = .ok (.aload_n 0, 1) := by decide +kernel
theorem dX7_load_77 : decode cX7_load 77 = .ok (.getfield 32, 3) := by decide +kernel
theorem dX7_load_80 : decode cX7_load 80 = .ok (.iload_n 1, 1) := by decide +kernel
theorem dX7_load_81 : decode cX7_load 81 = .ok (.lload_n 2, 1) := by decide +kernel
theorem dX7_load_82 : decode cX7_load 82 = .ok (.lastore, 1) := by decide +kernel
theorem dX7_load_83 : decode cX7_load 83 = .ok (.aload_n 0, 1) := by decide +kernel
theorem dX7_load_84 : decode cX7_load 84 = .ok (.getfield 35, 3) := by decide +kernel
theorem dX7_load_87 : decode cX7_load 87 = .ok (.iload_n 1, 1) := by decide +kernel
theorem dX7_load_88 : decode cX7_load 88 = .ok (.lload 4, 2) := by decide +kernel
theorem dX7_load_90 : decode cX7_load 90 = .ok (.lastore, 1) := by decide +kernel
theorem dX7_load_91 : decode cX7_load 91 = .ok (.iconst 1, 1) := by decide +kernel
theorem dX7_load_92 : decode cX7_load 92 = .ok (.ireturn, 1) := by decide +kernel
set_option maxRecDepth 20000 in
theorem ggX7_slack_X7_within : GoodIn wsX7_slack wsX7_within := goodIn_r _ [8] (by decide +kernel) (by decide +kernel)
set_option maxRecDepth 20000 in
theorem gX7_slack_X7_within : GoodIn wsX7_slack (va_wsS RX7 100 yX7_within wsX7_within) := goodIn_app (goodIn_of _ (by decide +kernel)) ggX7_slack_X7_within
theorem dX7_slack_0 : decode cX7_slack 0 = .ok (.aload_n 0, 1) := by decide +kernel
theorem dX7_slack_1 : decode cX7_slack 1 = .ok (.lload_n 3, 1) := by decide +kernel
theorem dX7_slack_2 : decode cX7_slack 2 = .ok (.lconst 1, 1) := by decide +kernel
theorem dX7_slack_3 : decode cX7_slack 3 = .ok (.ldc2_w 122, 3) := by decide +kernel
theorem dX7_slack_6 : decode cX7_slack 6 = .ok (.invokestatic 100, 3) := by decide +kernel
theorem dX7_slack_9 : decode cX7_slack 9 = .ok (.ifCond .eq 16, 3) := by decide +kernel
theorem dX7_slack_12 : decode cX7_slack 12 = .ok (.lload_n 1, 1) := by decide +kernel
theorem dX7_slack_13 : decode cX7_slack 13 = .ok (.lconst 0, 1) := by decide +kernel
theorem dX7_slack_14 : decode cX7_slack 14 = .ok (.lload_n 3, 1) := by decide +kernel
theorem dX7_slack_15 : decode cX7_slack 15 = .ok (.invokestatic 100, 3) := by decide +kernel
theorem dX7_slack_18 : decode cX7_slack 18 = .ok (.ifCond .eq 7, 3) := by decide +kernel
theorem dX7_slack_21 : decode cX7_slack 21 = .ok (.iconst 0, 1) := by decide +kernel
theorem dX7_slack_22 : decode cX7_slack 22 = .ok (.goto 4, 3) := by decide +kernel
theorem dX7_slack_25 : decode cX7_slack 25 = .ok (.iconst 1, 1) := by decide +kernel
theorem dX7_slack_26 : decode cX7_slack 26 = .ok (.putfield 84, 3) := by decide +kernel
theorem dX7_slack_29 : decode cX7_slack 29 = .ok (.aload_n 0, 1) := by decide +kernel
theorem dX7_slack_30 : decode cX7_slack 30 = .ok (.getfield 84, 3) := by decide +kernel
theorem dX7_slack_33 : decode cX7_slack 33 = .ok (.ifCond .ne 21, 3) := by decide +kernel
theorem dX7_slack_36 : decode cX7_slack 36 = .ok (.aload_n 0, 1) := by decide +kernel
theorem dX7_slack_37 : decode cX7_slack 37 = .ok (.getfield 124, 3) := by decide +kernel
theorem dX7_slack_40 : decode cX7_slack 40 = .ok (.lload_n 1, 1) := by decide +kernel
theorem dX7_slack_41 : decode cX7_slack 41 = .ok (.lcmp, 1) := by decide +kernel
theorem dX7_slack_42 : decode cX7_slack 42 = .ok (.ifCond .ne 14, 3) := by decide +kernel
theorem dX7_slack_45 : decode cX7_slack 45 = .ok (.aload_n 0, 1) := by decide +kernel
theorem dX7_slack_46 : decode cX7_slack 46 = .ok (.getfield 41, 3) := by decide +kernel
theorem dX7_slack_49 : decode cX7_slack 49 = .ok (.lload_n 3, 1) := by decide +kernel
theorem dX7_slack_50 : decode cX7_slack 50 = .ok (.lcmp, 1) := by decide +kernel
theorem dX7_slack_51 : decode cX7_slack 51 = .ok (.ifCond .ne 5, 3) := by decide +kernel
theorem dX7_slack_54 : decode cX7_slack 54 = .ok (.iconst 0, 1) := by decide +kernel
theorem dX7_slack_55 : decode cX7_slack 55 = .ok (.ireturn, 1) := by decide +kernel
theorem dX7_slack_56 : decode cX7_slack 56 = .ok (.aload_n 0, 1) := by decide +kernel
theorem dX7_slack_57 : decode cX7_slack 57 = .ok (.lload_n 1, 1) := by decide +kernel
theorem dX7_slack_58 : decode cX7_slack 58 = .ok (.putfield 124, 3) := by decide +kernel
theorem dX7_slack_61 : decode cX7_slack 61 = .ok (.aload_n 0, 1) := by decide +kernel
theorem dX7_slack_62 : decode cX7_slack 62 = .ok (.lload_n 3, 1) := by decide +kernel
theorem dX7_slack_63 : decode cX7_slack 63 = .ok (.putfield 41, 3) := by decide +kernel
theorem dX7_slack_66 : decode cX7_slack 66 = .ok (.iconst 1, 1) := by decide +kernel
theorem dX7_slack_67 : decode cX7_slack 67 = .ok (.ireturn, 1) := by decide +kernel
theorem dX7_lengthOf_0 : decode cX7_lengthOf 0 = .ok (.aload_n 0, 1) := by decide +kernel
theorem dX7_lengthOf_1 : decode cX7_lengthOf 1 = .ok (.getfield 13, 3) := by decide +kernel
theorem dX7_lengthOf_4 : decode cX7_lengthOf 4 = .ok (.bipush 16, 2) := by decide +kernel
theorem dX7_lengthOf_6 : decode cX7_lengthOf 6 = .ok (.aload_n 0, 1) := by decide +kernel
theorem dX7_lengthOf_7 : decode cX7_lengthOf 7 = .ok (.getfield 26, 3) := by decide +kernel
theorem dX7_lengthOf_10 : decode cX7_lengthOf 10 = .ok (.iload_n 1, 1) := by decide +kernel
theorem dX7_lengthOf_11 : decode cX7_lengthOf 11 = .ok (.iaload, 1) := by decide +kernel
theorem dX7_lengthOf_12 : decode cX7_lengthOf 12 = .ok (.bipush 16, 2) := by decide +kernel
theorem dX7_lengthOf_14 : decode cX7_lengthOf 14 = .ok (.idiv, 1) := by decide +kernel
theorem dX7_lengthOf_15 : decode cX7_lengthOf 15 = .ok (.imul, 1) := by decide +kernel
theorem dX7_lengthOf_16 : decode cX7_lengthOf 16 = .ok (.aload_n 0, 1) := by decide +kernel
theorem dX7_lengthOf_17 : decode cX7_lengthOf 17 = .ok (.getfield 29, 3) := by decide +kernel
theorem dX7_lengthOf_20 : decode cX7_lengthOf 20 = .ok (.iload_n 1, 1) := by decide +kernel
theorem dX7_lengthOf_21 : decode cX7_lengthOf 21 = .ok (.iaload, 1) := by decide +kernel
theorem dX7_lengthOf_22 : decode cX7_lengthOf 22 = .ok (.bipush 16, 2) := by decide +kernel
theorem dX7_lengthOf_24 : decode cX7_lengthOf 24 = .ok (.idiv, 1) := by decide +kernel
theorem dX7_lengthOf_25 : decode cX7_lengthOf 25 = .ok (.iadd, 1) := by decide +kernel
theorem dX7_lengthOf_26 : decode cX7_lengthOf 26 = .ok (.laload, 1) := by decide +kernel
theorem dX7_lengthOf_27 : decode cX7_lengthOf 27 = .ok (.lstore_n 2, 1) := by decide +kernel
theorem dX7_lengthOf_28 : decode cX7_lengthOf 28 = .ok (.lload_n 2, 1) := by decide +kernel
theorem dX7_lengthOf_29 : decode cX7_lengthOf 29 = .ok (.lconst 0, 1) := by decide +kernel
theorem dX7_lengthOf_30 : decode cX7_lengthOf 30 = .ok (.lcmp, 1) := by decide +kernel
theorem dX7_lengthOf_31 : decode cX7_lengthOf 31 = .ok (.ifCond .ge 9, 3) := by decide +kernel
theorem dX7_lengthOf_34 : decode cX7_lengthOf 34 = .ok (.ldc2_w 82, 3) := by decide +kernel
theorem dX7_lengthOf_37 : decode cX7_lengthOf 37 = .ok (.goto 23, 3) := by decide +kernel
theorem dX7_lengthOf_40 : decode cX7_lengthOf 40 = .ok (.lload_n 2, 1) := by decide +kernel
theorem dX7_lengthOf_41 : decode cX7_lengthOf 41 = .ok (.lload_n 2, 1) := by decide +kernel
theorem dX7_lengthOf_42 : decode cX7_lengthOf 42 = .ok (.aload_n 0, 1) := by decide +kernel
theorem dX7_lengthOf_43 : decode cX7_lengthOf 43 = .ok (.getfield 124, 3) := by decide +kernel
theorem dX7_lengthOf_46 : decode cX7_lengthOf 46 = .ok (.lmul, 1) := by decide +kernel
theorem dX7_lengthOf_47 : decode cX7_lengthOf 47 = .ok (.aload_n 0, 1) := by decide +kernel
theorem dX7_lengthOf_48 : decode cX7_lengthOf 48 = .ok (.getfield 41, 3) := by decide +kernel
theorem dX7_lengthOf_51 : decode cX7_lengthOf 51 = .ok (.ladd, 1) := by decide +kernel
theorem dX7_lengthOf_52 : decode cX7_lengthOf 52 = .ok (.lconst 1, 1) := by decide +kernel
theorem dX7_lengthOf_53 : decode cX7_lengthOf 53 = .ok (.lsub, 1) := by decide +kernel
theorem dX7_lengthOf_54 : decode cX7_lengthOf 54 = .ok (.aload_n 0, 1) := by decide +kernel
theorem dX7_lengthOf_55 : decode cX7_lengthOf 55 = .ok (.getfield 41, 3) := by decide +kernel
theorem dX7_lengthOf_58 : decode cX7_lengthOf 58 = .ok (.ldiv, 1) := by decide +kernel
theorem dX7_lengthOf_59 : decode cX7_lengthOf 59 = .ok (.ladd, 1) := by decide +kernel
theorem dX7_lengthOf_60 : decode cX7_lengthOf 60 = .ok (.lreturn, 1) := by decide +kernel
set_option maxRecDepth 20000 in
theorem ggX7_length_X7_isWire : GoodIn wsX7_length wsX7_isWire := goodIn_r _ [6, 7, 18, 19, 20, 21, 22, 23, 24, 25, 26, 27, 28, 29, 30, 31, 32, 33, 34, 35, 36, 37, 38, 39, 40, 41, 42, 43, 44, 45, 46, 47, 48, 49, 50, 51] (by decide +kernel) (by decide +kernel)
set_option maxRecDepth 20000 in
theorem gX7_length_X7_isWire : GoodIn wsX7_length (wsV RX7 119 RX7 yX7_isWire wsX7_isWire) := goodIn_app (goodIn_of _ (by decide +kernel)) ggX7_length_X7_isWire
set_option maxRecDepth 20000 in
theorem ggX7_length_X7_lengthOf : GoodIn wsX7_length wsX7_lengthOf := goodIn_ca (goodIn_r _ [11, 12, 13, 14, 15, 16, 17, 18, 19, 20, 21, 22, 23, 24, 25, 26, 27, 28, 29, 30, 31, 32, 33, 34, 35, 36, 37, 38, 39, 40, 41, 42, 43, 44, 45, 46, 47, 48, 49, 50, 51] (by decide +kernel) (by decide +kernel)) (goodIn_sub (fun _ h => List.mem_cons_of_mem _ (List.mem_append_right _ h)) (by decide +kernel))
set_option maxRecDepth 20000 in
theorem gX7_length_X7_lengthOf : GoodIn wsX7_length (wsV RX7 127 RX7 yX7_lengthOf wsX7_lengthOf) := goodIn_app (goodIn_of _ (by decide +kernel)) ggX7_length_X7_lengthOf
theorem dX7_length_0 : decode cX7_length 0 = .ok (.aload_n 0, 1) := by decide +kernel
theorem dX7_length_1 : decode cX7_length 1 = .ok (.aload_n 0, 1) := by decide +kernel
theorem dX7_length_2 : decode cX7_length 2 = .ok (.iload_n 1, 1) := by decide +kernel
theorem dX7_length_3 : decode cX7_length 3 = .ok (.invokevirtual 119, 3) := by decide +kernel
theorem dX7_length_6 : decode cX7_length 6 = .ok (.ifCond .eq 7, 3) := by decide +kernel
theorem dX7_length_9 : decode cX7_length 9 = .ok (.iconst 0, 1) := by decide +kernel
theorem dX7_length_10 : decode cX7_length 10 = .ok (.goto 4, 3) := by decide +kernel
theorem dX7_length_13 : decode cX7_length 13 = .ok (.iconst 1, 1) := by decide +kernel
theorem dX7_length_14 : decode cX7_length 14 = .ok (.putfield 84, 3) := by decide +kernel
theorem dX7_length_17 : decode cX7_length 17 = .ok (.aload_n 0, 1) := by decide +kernel
theorem dX7_length_18 : decode cX7_length 18 = .ok (.getfield 84, 3) := by decide +kernel
theorem dX7_length_21 : decode cX7_length 21 = .ok (.ifCond .ne 11, 3) := by decide +kernel
theorem dX7_length_24 : decode cX7_length 24 = .ok (.aload_n 0, 1) := by decide +kernel
theorem dX7_length_25 : decode cX7_length 25 = .ok (.iload_n 1, 1) := by decide +kernel
theorem dX7_length_26 : decode cX7_length 26 = .ok (.invokevirtual 127, 3) := by decide +kernel
theorem dX7_length_29 : decode cX7_length 29 = .ok (.goto 4, 3) := by decide +kernel
theorem dX7_length_32 : decode cX7_length 32 = .ok (.lconst 0, 1) := by decide +kernel
theorem dX7_length_33 : decode cX7_length 33 = .ok (.lreturn, 1) := by decide +kernel
set_option maxRecDepth 20000 in
theorem ggX7_isNumber_X7_within : GoodIn wsX7_isNumber wsX7_within := goodIn_r _ [5] (by decide +kernel) (by decide +kernel)
set_option maxRecDepth 20000 in
theorem gX7_isNumber_X7_within : GoodIn wsX7_isNumber (va_wsS RX7 100 yX7_within wsX7_within) := goodIn_app (goodIn_of _ (by decide +kernel)) ggX7_isNumber_X7_within
theorem dX7_isNumber_0 : decode cX7_isNumber 0 = .ok (.lload_n 0, 1) := by decide +kernel
theorem dX7_isNumber_1 : decode cX7_isNumber 1 = .ok (.lconst 1, 1) := by decide +kernel
theorem dX7_isNumber_2 : decode cX7_isNumber 2 = .ok (.ldc2_w 117, 3) := by decide +kernel
theorem dX7_isNumber_5 : decode cX7_isNumber 5 = .ok (.invokestatic 100, 3) := by decide +kernel
theorem dX7_isNumber_8 : decode cX7_isNumber 8 = .ok (.ireturn, 1) := by decide +kernel
set_option maxRecDepth 20000 in
theorem ggX7_table_X7_isNumber : GoodIn wsX7_table wsX7_isNumber := goodIn_r _ [9, 10, 11, 12, 8, 13] (by decide +kernel) (by decide +kernel)
set_option maxRecDepth 20000 in
theorem gX7_table_X7_isNumber : GoodIn wsX7_table (va_wsS RX7 131 yX7_isNumber wsX7_isNumber) := goodIn_app (goodIn_of _ (by decide +kernel)) ggX7_table_X7_isNumber
theorem dX7_table_0 : decode cX7_table 0 = .ok (.lload_n 2, 1) := by decide +kernel
theorem dX7_table_1 : decode cX7_table 1 = .ok (.invokestatic 131, 3) := by decide +kernel
theorem dX7_table_4 : decode cX7_table 4 = .ok (.ifCond .eq 23, 3) := by decide +kernel
theorem dX7_table_7 : decode cX7_table 7 = .ok (.lload 4, 2) := by decide +kernel
theorem dX7_table_9 : decode cX7_table 9 = .ok (.invokestatic 131, 3) := by decide +kernel
theorem dX7_table_12 : decode cX7_table 12 = .ok (.ifCond .eq 15, 3) := by decide +kernel
theorem dX7_table_15 : decode cX7_table 15 = .ok (.lload 6, 2) := by decide +kernel
theorem dX7_table_17 : decode cX7_table 17 = .ok (.invokestatic 131, 3) := by decide +kernel
theorem dX7_table_20 : decode cX7_table 20 = .ok (.ifCond .eq 7, 3) := by decide +kernel
theorem dX7_table_23 : decode cX7_table 23 = .ok (.iconst 1, 1) := by decide +kernel
theorem dX7_table_24 : decode cX7_table 24 = .ok (.goto 4, 3) := by decide +kernel
theorem dX7_table_27 : decode cX7_table 27 = .ok (.iconst 0, 1) := by decide +kernel
theorem dX7_table_28 : decode cX7_table 28 = .ok (.istore 8, 2) := by decide +kernel
theorem dX7_table_30 : decode cX7_table 30 = .ok (.aload_n 0, 1) := by decide +kernel
theorem dX7_table_31 : decode cX7_table 31 = .ok (.iload_n 1, 1) := by decide +kernel
theorem dX7_table_32 : decode cX7_table 32 = .ok (.ifCond .lt 9, 3) := by decide +kernel
theorem dX7_table_35 : decode cX7_table 35 = .ok (.iload_n 1, 1) := by decide +kernel
theorem dX7_table_36 : decode cX7_table 36 = .ok (.bipush 10, 2) := by decide +kernel
theorem dX7_table_38 : decode cX7_table 38 = .ok (.if_icmp .lt 7, 3) := by decide +kernel
theorem dX7_table_41 : decode cX7_table 41 = .ok (.iconst 1, 1) := by decide +kernel
theorem dX7_table_42 : decode cX7_table 42 = .ok (.goto 13, 3) := by decide +kernel
theorem dX7_table_45 : decode cX7_table 45 = .ok (.iload 8, 2) := by decide +kernel
theorem dX7_table_47 : decode cX7_table 47 = .ok (.ifCond .eq 7, 3) := by decide +kernel
theorem dX7_table_50 : decode cX7_table 50 = .ok (.iconst 0, 1) := by decide +kernel
theorem dX7_table_51 : decode cX7_table 51 = .ok (.goto 4, 3) := by decide +kernel
theorem dX7_table_54 : decode cX7_table 54 = .ok (.iconst 2, 1) := by decide +kernel
theorem dX7_table_55 : decode cX7_table 55 = .ok (.putfield 84, 3) := by decide +kernel
theorem dX7_table_58 : decode cX7_table 58 = .ok (.aload_n 0, 1) := by decide +kernel
theorem dX7_table_59 : decode cX7_table 59 = .ok (.getfield 84, 3) := by decide +kernel
theorem dX7_table_62 : decode cX7_table 62 = .ok (.ifCond .eq 5, 3) := by decide +kernel
theorem dX7_table_65 : decode cX7_table 65 = .ok (.iconst 0, 1) := by decide +kernel
theorem dX7_table_66 : decode cX7_table 66 = .ok (.ireturn, 1) := by decide +kernel
theorem dX7_table_67 : decode cX7_table 67 = .ok (.aload_n 0, 1) := by decide +kernel
theorem dX7_table_68 : decode cX7_table 68 = .ok (.getfield 45, 3) := by decide +kernel
theorem dX7_table_71 : decode cX7_table 71 = .ok (.iload_n 1, 1) := by decide +kernel
theorem dX7_table_72 : decode cX7_table 72 = .ok (.baload, 1) := by decide +kernel
theorem dX7_table_73 : decode cX7_table 73 = .ok (.ifCond .eq 42, 3) := by decide +kernel
theorem dX7_table_76 : decode cX7_table 76 = .ok (.aload_n 0, 1) := by decide +kernel
theorem dX7_table_77 : decode cX7_table 77 = .ok (.getfield 49, 3) := by decide +kernel
theorem dX7_table_80 : decode cX7_table 80 = .ok (.iload_n 1, 1) := by decide +kernel
theorem dX7_table_81 : decode cX7_table 81 = .ok (.laload, 1) := by decide +kernel
theorem dX7_table_82 : decode cX7_table 82 = .ok (.lload_n 2, 1) := by decide +kernel
theorem dX7_table_83 : decode cX7_table 83 = .ok (.lcmp, 1) := by decide +kernel
theorem dX7_table_84 : decode cX7_table 84 = .ok (.ifCond .ne 31, 3) := by decide +kernel
theorem dX7_table_87 : decode cX7_table 87 = .ok (.aload_n 0, 1) := by decide +kernel
theorem dX7_table_88 : decode cX7_table 88 = .ok (.getfield 52, 3) := by decide +kernel
theorem dX7_table_91 : decode cX7_table 91 = .ok (.iload_n 1, 1) := by decide +kernel
theorem dX7_table_92 : decode cX7_table 92 = .ok (.laload, 1) := by decide +kernel
theorem dX7_table_93 : decode cX7_table 93 = .ok (.lload 4, 2) := by decide +kernel
theorem dX7_table_95 : decode cX7_table 95 = .ok (.lcmp, 1) := by decide +kernel
theorem dX7_table_96 : decode cX7_table 96 = .ok (.ifCond .ne 19, 3) := by decide +kernel
theorem dX7_table_99 : decode cX7_table 99 = .ok (.aload_n 0, 1) := by decide +kernel
theorem dX7_table_100 : decode cX7_table 100 = .ok (.getfield 55, 3) := by decide +kernel
theorem dX7_table_103 : decode cX7_table 103 = .ok (.iload_n 1, 1) := by decide +kernel
theorem dX7_table_104 : decode cX7_table 104 = .ok (.laload, 1) := by decide +kernel
theorem dX7_table_105 : decode cX7_table 105 = .ok (.lload 6, 2) := by decide +kernel
theorem dX7_table_107 : decode cX7_table 107 = .ok (.lcmp, 1) := by decide +kernel
theorem dX7_table_108 : decode cX7_table 108 = .ok (.ifCond .ne 7, 3) := by decide +kernel
theorem dX7_table_111 : decode cX7_table 111 = .ok (.iconst 1, 1) := by decide +kernel
theorem dX7_table_112 : decode cX7_table 112 = .ok (.goto 4, 3) := by decide +kernel
theorem dX7_table_115 : decode cX7_table 115 = .ok (.iconst 0, 1) := by decide +kernel
theorem dX7_table_116 : decode cX7_table 116 = .ok (.istore 9, 2) := by decide +kernel
theorem dX7_table_118 : decode cX7_table 118 = .ok (.aload_n 0, 1) := by decide +kernel
theorem dX7_table_119 : decode cX7_table 119 = .ok (.getfield 45, 3) := by decide +kernel
theorem dX7_table_122 : decode cX7_table 122 = .ok (.iload_n 1, 1) := by decide +kernel
theorem dX7_table_123 : decode cX7_table 123 = .ok (.iconst 1, 1) := by decide +kernel
theorem dX7_table_124 : decode cX7_table 124 = .ok (.bastore, 1) := by decide +kernel
theorem dX7_table_125 : decode cX7_table 125 = .ok (.aload_n 0, 1) := by decide +kernel
theorem dX7_table_126 : decode cX7_table 126 = .ok (.getfield 49, 3) := by decide +kernel
theorem dX7_table_129 : decode cX7_table 129 = .ok (.iload_n 1, 1) := by decide +kernel
theorem dX7_table_130 : decode cX7_table 130 = .ok (.lload_n 2, 1) := by decide +kernel
theorem dX7_table_131 : decode cX7_table 131 = .ok (.lastore, 1) := by decide +kernel
theorem dX7_table_132 : decode cX7_table 132 = .ok (.aload_n 0, 1) := by decide +kernel
theorem dX7_table_133 : decode cX7_table 133 = .ok (.getfield 52, 3) := by decide +kernel
theorem dX7_table_136 : decode cX7_table 136 = .ok (.iload_n 1, 1) := by decide +kernel
theorem dX7_table_137 : decode cX7_table 137 = .ok (.lload 4, 2) := by decide +kernel
theorem dX7_table_139 : decode cX7_table 139 = .ok (.lastore, 1) := by decide +kernel
theorem dX7_table_140 : decode cX7_table 140 = .ok (.aload_n 0, 1) := by decide +kernel
theorem dX7_table_141 : decode cX7_table 141 = .ok (.getfield 55, 3) := by decide +kernel
theorem dX7_table_144 : decode cX7_table 144 = .ok (.iload_n 1, 1) := by decide +kernel
theorem dX7_table_145 : decode cX7_table 145 = .ok (.lload 6, 2) := by decide +kernel
theorem dX7_table_147 : decode cX7_table 147 = .ok (.lastore, 1) := by decide +kernel
theorem dX7_table_148 : decode cX7_table 148 = .ok (.iload 9, 2) := by decide +kernel
theorem dX7_table_150 : decode cX7_table 150 = .ok (.ifCond .ne 7, 3) := by decide +kernel
theorem dX7_table_153 : decode cX7_table 153 = .ok (.iconst 1, 1) := by decide +kernel
theorem dX7_table_154 : decode cX7_table 154 = .ok (.goto 4, 3) := by decide +kernel
theorem dX7_table_157 : decode cX7_table 157 = .ok (.iconst 0, 1) := by decide +kernel
theorem dX7_table_158 : decode cX7_table 158 = .ok (.ireturn, 1) := by decide +kernel
set_option maxRecDepth 20000 in
theorem ggX7_gauge_X7_isWire : GoodIn wsX7_gauge wsX7_isWire := goodIn_r _ [13, 14, 25, 26, 27, 28, 29, 30, 31, 32, 33, 34, 35, 36, 37, 38, 39, 40, 41, 42, 43, 44, 45, 46, 47, 48, 49, 50, 51, 52, 53, 54, 55, 56, 57, 58] (by decide +kernel) (by decide +kernel)
set_option maxRecDepth 20000 in
theorem gX7_gauge_X7_isWire : GoodIn wsX7_gauge (wsV RX7 119 RX7 yX7_isWire wsX7_isWire) := goodIn_app (goodIn_of _ (by decide +kernel)) ggX7_gauge_X7_isWire
set_option maxRecDepth 20000 in
theorem ggX7_gauge_X7_lengthOf : GoodIn wsX7_gauge wsX7_lengthOf := goodIn_ca (goodIn_r _ [18, 19, 20, 21, 22, 23, 24, 25, 26, 27, 28, 29, 30, 31, 32, 33, 34, 35, 36, 37, 38, 39, 40, 41, 42, 43, 44, 45, 46, 47, 48, 49, 50, 51, 52, 53, 54, 55, 56, 57, 58] (by decide +kernel) (by decide +kernel)) (goodIn_sub (fun _ h => List.mem_cons_of_mem _ (List.mem_append_right _ h)) (by decide +kernel))
set_option maxRecDepth 20000 in
theorem gX7_gauge_X7_lengthOf : GoodIn wsX7_gauge (wsV RX7 127 RX7 yX7_lengthOf wsX7_lengthOf) := goodIn_app (goodIn_of _ (by decide +kernel)) ggX7_gauge_X7_lengthOf
theorem dX7_gauge_0 : decode cX7_gauge 0 = .ok (.aload_n 0, 1) := by decide +kernel
theorem dX7_gauge_1 : decode cX7_gauge 1 = .ok (.aload_n 0, 1) := by decide +kernel
theorem dX7_gauge_2 : decode cX7_gauge 2 = .ok (.iload_n 1, 1) := by decide +kernel
theorem dX7_gauge_3 : decode cX7_gauge 3 = .ok (.invokevirtual 119, 3) := by decide +kernel
theorem dX7_gauge_6 : decode cX7_gauge 6 = .ok (.ifCond .eq 7, 3) := by decide +kernel
theorem dX7_gauge_9 : decode cX7_gauge 9 = .ok (.iconst 0, 1) := by decide +kernel
theorem dX7_gauge_10 : decode cX7_gauge 10 = .ok (.goto 4, 3) := by decide +kernel
theorem dX7_gauge_13 : decode cX7_gauge 13 = .ok (.iconst 1, 1) := by decide +kernel
theorem dX7_gauge_14 : decode cX7_gauge 14 = .ok (.putfield 84, 3) := by decide +kernel
theorem dX7_gauge_17 : decode cX7_gauge 17 = .ok (.aload_n 0, 1) := by decide +kernel
theorem dX7_gauge_18 : decode cX7_gauge 18 = .ok (.getfield 84, 3) := by decide +kernel
theorem dX7_gauge_21 : decode cX7_gauge 21 = .ok (.ifCond .eq 5, 3) := by decide +kernel
theorem dX7_gauge_24 : decode cX7_gauge 24 = .ok (.iconst 0, 1) := by decide +kernel
theorem dX7_gauge_25 : decode cX7_gauge 25 = .ok (.ireturn, 1) := by decide +kernel
theorem dX7_gauge_26 : decode cX7_gauge 26 = .ok (.aload_n 0, 1) := by decide +kernel
theorem dX7_gauge_27 : decode cX7_gauge 27 = .ok (.iload_n 1, 1) := by decide +kernel
theorem dX7_gauge_28 : decode cX7_gauge 28 = .ok (.invokevirtual 127, 3) := by decide +kernel
theorem dX7_gauge_31 : decode cX7_gauge 31 = .ok (.lstore_n 2, 1) := by decide +kernel
theorem dX7_gauge_32 : decode cX7_gauge 32 = .ok (.iconst (-1), 1) := by decide +kernel
theorem dX7_gauge_33 : decode cX7_gauge 33 = .ok (.istore 4, 2) := by decide +kernel
theorem dX7_gauge_35 : decode cX7_gauge 35 = .ok (.iconst 0, 1) := by decide +kernel
theorem dX7_gauge_36 : decode cX7_gauge 36 = .ok (.istore 5, 2) := by decide +kernel
theorem dX7_gauge_38 : decode cX7_gauge 38 = .ok (.iload 5, 2) := by decide +kernel
theorem dX7_gauge_40 : decode cX7_gauge 40 = .ok (.bipush 10, 2) := by decide +kernel
theorem dX7_gauge_42 : decode cX7_gauge 42 = .ok (.if_icmp .ge 112, 3) := by decide +kernel
theorem dX7_gauge_45 : decode cX7_gauge 45 = .ok (.lload_n 2, 1) := by decide +kernel
theorem dX7_gauge_46 : decode cX7_gauge 46 = .ok (.lconst 0, 1) := by decide +kernel
theorem dX7_gauge_47 : decode cX7_gauge 47 = .ok (.lcmp, 1) := by decide +kernel
theorem dX7_gauge_48 : decode cX7_gauge 48 = .ok (.ifCond .lt 106, 3) := by decide +kernel
theorem dX7_gauge_51 : decode cX7_gauge 51 = .ok (.aload_n 0, 1) := by decide +kernel
theorem dX7_gauge_52 : decode cX7_gauge 52 = .ok (.getfield 45, 3) := by decide +kernel
theorem dX7_gauge_55 : decode cX7_gauge 55 = .ok (.iload 5, 2) := by decide +kernel
theorem dX7_gauge_57 : decode cX7_gauge 57 = .ok (.baload, 1) := by decide +kernel
theorem dX7_gauge_58 : decode cX7_gauge 58 = .ok (.ifCond .eq 54, 3) := by decide +kernel
theorem dX7_gauge_61 : decode cX7_gauge 61 = .ok (.aload_n 0, 1) := by decide +kernel
theorem dX7_gauge_62 : decode cX7_gauge 62 = .ok (.getfield 52, 3) := by decide +kernel
theorem dX7_gauge_65 : decode cX7_gauge 65 = .ok (.iload 5, 2) := by decide +kernel
theorem dX7_gauge_67 : decode cX7_gauge 67 = .ok (.laload, 1) := by decide +kernel
theorem dX7_gauge_68 : decode cX7_gauge 68 = .ok (.aload_n 0, 1) := by decide +kernel
theorem dX7_gauge_69 : decode cX7_gauge 69 = .ok (.getfield 32, 3) := by decide +kernel
theorem dX7_gauge_72 : decode cX7_gauge 72 = .ok (.iload_n 1, 1) := by decide +kernel
theorem dX7_gauge_73 : decode cX7_gauge 73 = .ok (.laload, 1) := by decide +kernel
theorem dX7_gauge_74 : decode cX7_gauge 74 = .ok (.lcmp, 1) := by decide +kernel
theorem dX7_gauge_75 : decode cX7_gauge 75 = .ok (.ifCond .lt 37, 3) := by decide +kernel
theorem dX7_gauge_78 : decode cX7_gauge 78 = .ok (.aload_n 0, 1) := by decide +kernel
theorem dX7_gauge_79 : decode cX7_gauge 79 = .ok (.getfield 32, 3) := by decide +kernel
theorem dX7_gauge_82 : decode cX7_gauge 82 = .ok (.iload_n 1, 1) := by decide +kernel
theorem dX7_gauge_83 : decode cX7_gauge 83 = .ok (.laload, 1) := by decide +kernel
theorem dX7_gauge_84 : decode cX7_gauge 84 = .ok (.aload_n 0, 1) := by decide +kernel
theorem dX7_gauge_85 : decode cX7_gauge 85 = .ok (.getfield 55, 3) := by decide +kernel
theorem dX7_gauge_88 : decode cX7_gauge 88 = .ok (.iload 5, 2) := by decide +kernel
theorem dX7_gauge_90 : decode cX7_gauge 90 = .ok (.laload, 1) := by decide +kernel
theorem dX7_gauge_91 : decode cX7_gauge 91 = .ok (.lmul, 1) := by decide +kernel
theorem dX7_gauge_92 : decode cX7_gauge 92 = .ok (.lload_n 2, 1) := by decide +kernel
theorem dX7_gauge_93 : decode cX7_gauge 93 = .ok (.lmul, 1) := by decide +kernel
theorem dX7_gauge_94 : decode cX7_gauge 94 = .ok (.aload_n 0, 1) := by decide +kernel
theorem dX7_gauge_95 : decode cX7_gauge 95 = .ok (.getfield 35, 3) := by decide +kernel
theorem dX7_gauge_98 : decode cX7_gauge 98 = .ok (.iload_n 1, 1) := by decide +kernel
theorem dX7_gauge_99 : decode cX7_gauge 99 = .ok (.laload, 1) := by decide +kernel
theorem dX7_gauge_100 : decode cX7_gauge 100 = .ok (.ldc2_w 135, 3) := by decide +kernel
theorem dX7_gauge_103 : decode cX7_gauge 103 = .ok (.lmul, 1) := by decide +kernel
theorem dX7_gauge_104 : decode cX7_gauge 104 = .ok (.lcmp, 1) := by decide +kernel
theorem dX7_gauge_105 : decode cX7_gauge 105 = .ok (.ifCond .gt 7, 3) := by decide +kernel
theorem dX7_gauge_108 : decode cX7_gauge 108 = .ok (.iconst 1, 1) := by decide +kernel
theorem dX7_gauge_109 : decode cX7_gauge 109 = .ok (.goto 4, 3) := by decide +kernel
theorem dX7_gauge_112 : decode cX7_gauge 112 = .ok (.iconst 0, 1) := by decide +kernel
theorem dX7_gauge_113 : decode cX7_gauge 113 = .ok (.istore 6, 2) := by decide +kernel
theorem dX7_gauge_115 : decode cX7_gauge 115 = .ok (.iload 6, 2) := by decide +kernel
theorem dX7_gauge_117 : decode cX7_gauge 117 = .ok (.ifCond .eq 31, 3) := by decide +kernel
theorem dX7_gauge_120 : decode cX7_gauge 120 = .ok (.iload 4, 2) := by decide +kernel
theorem dX7_gauge_122 : decode cX7_gauge 122 = .ok (.iconst (-1), 1) := by decide +kernel
theorem dX7_gauge_123 : decode cX7_gauge 123 = .ok (.if_icmp .eq 21, 3) := by decide +kernel
theorem dX7_gauge_126 : decode cX7_gauge 126 = .ok (.aload_n 0, 1) := by decide +kernel
theorem dX7_gauge_127 : decode cX7_gauge 127 = .ok (.getfield 49, 3) := by decide +kernel
theorem dX7_gauge_130 : decode cX7_gauge 130 = .ok (.iload 5, 2) := by decide +kernel
theorem dX7_gauge_132 : decode cX7_gauge 132 = .ok (.laload, 1) := by decide +kernel
theorem dX7_gauge_133 : decode cX7_gauge 133 = .ok (.aload_n 0, 1) := by decide +kernel
theorem dX7_gauge_134 : decode cX7_gauge 134 = .ok (.getfield 49, 3) := by decide +kernel
theorem dX7_gauge_137 : decode cX7_gauge 137 = .ok (.iload 4, 2) := by decide +kernel
theorem dX7_gauge_139 : decode cX7_gauge 139 = .ok (.laload, 1) := by decide +kernel
theorem dX7_gauge_140 : decode cX7_gauge 140 = .ok (.lcmp, 1) := by decide +kernel
theorem dX7_gauge_141 : decode cX7_gauge 141 = .ok (.ifCond .ge 7, 3) := by decide +kernel
theorem dX7_gauge_144 : decode cX7_gauge 144 = .ok (.iload 5, 2) := by decide +kernel
theorem dX7_gauge_146 : decode cX7_gauge 146 = .ok (.istore 4, 2) := by decide +kernel
theorem dX7_gauge_148 : decode cX7_gauge 148 = .ok (.iinc 5 1, 3) := by decide +kernel
theorem dX7_gauge_151 : decode cX7_gauge 151 = .ok (.goto (-113), 3) := by decide +kernel
theorem dX7_gauge_154 : decode cX7_gauge 154 = .ok (.iload 4, 2) := by decide +kernel
theorem dX7_gauge_156 : decode cX7_gauge 156 = .ok (.ireturn, 1) := by decide +kernel
set_option maxRecDepth 20000 in
theorem ggX7_collect_X7_lengthOf : GoodIn wsX7_collect wsX7_lengthOf := goodIn_ca (goodIn_r _ [9, 10, 11, 12, 13, 14, 15, 16, 17, 18, 19, 20, 21, 22, 23, 24, 25, 26, 27, 28, 29, 30, 31, 32, 33, 34, 35, 36, 37, 38, 39, 40, 41, 42, 43, 44, 45, 46, 47, 48, 49] (by decide +kernel) (by decide +kernel)) (goodIn_sub (fun _ h => List.mem_cons_of_mem _ (List.mem_append_right _ h)) (by decide +kernel))
set_option maxRecDepth 20000 in
theorem gX7_collect_X7_lengthOf : GoodIn wsX7_collect (wsV RX7 127 RX7 yX7_lengthOf wsX7_lengthOf) := goodIn_app (goodIn_of _ (by decide +kernel)) ggX7_collect_X7_lengthOf
theorem dX7_collect_0 : decode cX7_collect 0 = .ok (.aload_n 0, 1) := by decide +kernel
theorem dX7_collect_1 : decode cX7_collect 1 = .ok (.iconst 0, 1) := by decide +kernel
theorem dX7_collect_2 : decode cX7_collect 2 = .ok (.putfield 137, 3) := by decide +kernel
theorem dX7_collect_5 : decode cX7_collect 5 = .ok (.iconst 0, 1) := by decide +kernel
theorem dX7_collect_6 : decode cX7_collect 6 = .ok (.istore_n 1, 1) := by decide +kernel
theorem dX7_collect_7 : decode cX7_collect 7 = .ok (.iload_n 1, 1) := by decide +kernel
theorem dX7_collect_8 : decode cX7_collect 8 = .ok (.aload_n 0, 1) := by decide +kernel
theorem dX7_collect_9 : decode cX7_collect 9 = .ok (.getfield 95, 3) := by decide +kernel
theorem dX7_collect_12 : decode cX7_collect 12 = .ok (.if_icmp .ge 49, 3) := by decide +kernel
theorem dX7_collect_15 : decode cX7_collect 15 = .ok (.aload_n 0, 1) := by decide +kernel
theorem dX7_collect_16 : decode cX7_collect 16 = .ok (.getfield 58, 3) := by decide +kernel
theorem dX7_collect_19 : decode cX7_collect 19 = .ok (.iload_n 1, 1) := by decide +kernel
theorem dX7_collect_20 : decode cX7_collect 20 = .ok (.iconst (-1), 1) := by decide +kernel
theorem dX7_collect_21 : decode cX7_collect 21 = .ok (.iastore, 1) := by decide +kernel
theorem dX7_collect_22 : decode cX7_collect 22 = .ok (.aload_n 0, 1) := by decide +kernel
theorem dX7_collect_23 : decode cX7_collect 23 = .ok (.iload_n 1, 1) := by decide +kernel
theorem dX7_collect_24 : decode cX7_collect 24 = .ok (.invokevirtual 127, 3) := by decide +kernel
theorem dX7_collect_27 : decode cX7_collect 27 = .ok (.lconst 0, 1) := by decide +kernel
theorem dX7_collect_28 : decode cX7_collect 28 = .ok (.lcmp, 1) := by decide +kernel
theorem dX7_collect_29 : decode cX7_collect 29 = .ok (.ifCond .ge 6, 3) := by decide +kernel
theorem dX7_collect_32 : decode cX7_collect 32 = .ok (.goto 23, 3) := by decide +kernel
theorem dX7_collect_35 : decode cX7_collect 35 = .ok (.aload_n 0, 1) := by decide +kernel
theorem dX7_collect_36 : decode cX7_collect 36 = .ok (.getfield 73, 3) := by decide +kernel
theorem dX7_collect_39 : decode cX7_collect 39 = .ok (.aload_n 0, 1) := by decide +kernel
theorem dX7_collect_40 : decode cX7_collect 40 = .ok (.getfield 137, 3) := by decide +kernel
theorem dX7_collect_43 : decode cX7_collect 43 = .ok (.iload_n 1, 1) := by decide +kernel
theorem dX7_collect_44 : decode cX7_collect 44 = .ok (.iastore, 1) := by decide +kernel
theorem dX7_collect_45 : decode cX7_collect 45 = .ok (.aload_n 0, 1) := by decide +kernel
theorem dX7_collect_46 : decode cX7_collect 46 = .ok (.dup, 1) := by decide +kernel
theorem dX7_collect_47 : decode cX7_collect 47 = .ok (.getfield 137, 3) := by decide +kernel
theorem dX7_collect_50 : decode cX7_collect 50 = .ok (.iconst 1, 1) := by decide +kernel
theorem dX7_collect_51 : decode cX7_collect 51 = .ok (.iadd, 1) := by decide +kernel
theorem dX7_collect_52 : decode cX7_collect 52 = .ok (.putfield 137, 3) := by decide +kernel
theorem dX7_collect_55 : decode cX7_collect 55 = .ok (.iinc 1 1, 3) := by decide +kernel
theorem dX7_collect_58 : decode cX7_collect 58 = .ok (.goto (-51), 3) := by decide +kernel
theorem dX7_collect_61 : decode cX7_collect 61 = .ok (.return_, 1) := by decide +kernel
set_option maxRecDepth 20000 in
theorem ggX7_fits_X7_lengthOf : GoodIn wsX7_fits wsX7_lengthOf := goodIn_ca (goodIn_r _ [9, 10, 11, 12, 13, 14, 15, 20, 21, 22, 23, 24, 25, 26, 27, 28, 29, 30, 31, 32, 33, 34, 35, 36, 37, 38, 39, 40, 41, 42, 43, 44, 45, 46, 47, 48, 49, 50, 51, 52, 53] (by decide +kernel) (by decide +kernel)) (goodIn_sub (fun _ h => List.mem_cons_of_mem _ (List.mem_append_right _ h)) (by decide +kernel))
set_option maxRecDepth 20000 in
theorem gX7_fits_X7_lengthOf : GoodIn wsX7_fits (wsV RX7 127 RX7 yX7_lengthOf wsX7_lengthOf) := goodIn_app (goodIn_of _ (by decide +kernel)) ggX7_fits_X7_lengthOf
set_option maxRecDepth 20000 in
theorem ggX7_fits_X7_topOf : GoodIn wsX7_fits wsX7_topOf := goodIn_ca (goodIn_r _ [19, 2, 20, 21, 22, 23, 24, 25, 26, 27, 28, 29, 30, 31, 32, 33, 34, 35, 36, 37, 38, 39, 40, 41, 42, 43, 44, 45, 46, 47, 48, 49, 50, 51, 52, 53] (by decide +kernel) (by decide +kernel)) (goodIn_sub (fun _ h => List.mem_cons_of_mem _ (List.mem_append_right _ h)) (by decide +kernel))
set_option maxRecDepth 20000 in
theorem gX7_fits_X7_topOf : GoodIn wsX7_fits (wsV RX7 140 RX7 yX7_topOf wsX7_topOf) := goodIn_app (goodIn_of _ (by decide +kernel)) ggX7_fits_X7_topOf
theorem dX7_fits_0 : decode cX7_fits 0 = .ok (.iconst 0, 1) := by decide +kernel
theorem dX7_fits_1 : decode cX7_fits 1 = .ok (.istore 4, 2) := by decide +kernel
theorem dX7_fits_3 : decode cX7_fits 3 = .ok (.iload 4, 2) := by decide +kernel
theorem dX7_fits_5 : decode cX7_fits 5 = .ok (.bipush 24, 2) := by decide +kernel
theorem dX7_fits_7 : decode cX7_fits 7 = .ok (.if_icmp .ge 17, 3) := by decide +kernel
theorem dX7_fits_10 : decode cX7_fits 10 = .ok (.aload_n 0, 1) := by decide +kernel
theorem dX7_fits_11 : decode cX7_fits 11 = .ok (.getfield 79, 3) := by decide +kernel
theorem dX7_fits_14 : decode cX7_fits 14 = .ok (.iload 4, 2) := by decide +kernel
theorem dX7_fits_16 : decode cX7_fits 16 = .ok (.lconst 0, 1) := by decide +kernel
theorem dX7_fits_17 : decode cX7_fits 17 = .ok (.lastore, 1) := by decide +kernel
theorem dX7_fits_18 : decode cX7_fits 18 = .ok (.iinc 4 1, 3) := by decide +kernel
theorem dX7_fits_21 : decode cX7_fits 21 = .ok (.goto (-18), 3) := by decide +kernel
theorem dX7_fits_24 : decode cX7_fits 24 = .ok (.iconst 0, 1) := by decide +kernel
theorem dX7_fits_25 : decode cX7_fits 25 = .ok (.istore 4, 2) := by decide +kernel
theorem dX7_fits_27 : decode cX7_fits 27 = .ok (.aload_n 0, 1) := by decide +kernel
theorem dX7_fits_28 : decode cX7_fits 28 = .ok (.getfield 76, 3) := by decide +kernel
theorem dX7_fits_31 : decode cX7_fits 31 = .ok (.iconst 0, 1) := by decide +kernel
theorem dX7_fits_32 : decode cX7_fits 32 = .ok (.iconst (-1), 1) := by decide +kernel
theorem dX7_fits_33 : decode cX7_fits 33 = .ok (.iastore, 1) := by decide +kernel
theorem dX7_fits_34 : decode cX7_fits 34 = .ok (.iload 4, 2) := by decide +kernel
theorem dX7_fits_36 : decode cX7_fits 36 = .ok (.ifCond .lt 163, 3) := by decide +kernel
theorem dX7_fits_39 : decode cX7_fits 39 = .ok (.iload 4, 2) := by decide +kernel
theorem dX7_fits_41 : decode cX7_fits 41 = .ok (.aload_n 0, 1) := by decide +kernel
theorem dX7_fits_42 : decode cX7_fits 42 = .ok (.getfield 137, 3) := by decide +kernel
theorem dX7_fits_45 : decode cX7_fits 45 = .ok (.if_icmp .ge 154, 3) := by decide +kernel
theorem dX7_fits_48 : decode cX7_fits 48 = .ok (.aload_n 0, 1) := by decide +kernel
theorem dX7_fits_49 : decode cX7_fits 49 = .ok (.aload_n 0, 1) := by decide +kernel
theorem dX7_fits_50 : decode cX7_fits 50 = .ok (.getfield 73, 3) := by decide +kernel
theorem dX7_fits_53 : decode cX7_fits 53 = .ok (.iload 4, 2) := by decide +kernel
theorem dX7_fits_55 : decode cX7_fits 55 = .ok (.iaload, 1) := by decide +kernel
theorem dX7_fits_56 : decode cX7_fits 56 = .ok (.invokevirtual 127, 3) := by decide +kernel
theorem dX7_fits_59 : decode cX7_fits 59 = .ok (.lstore 5, 2) := by decide +kernel
theorem dX7_fits_61 : decode cX7_fits 61 = .ok (.aload_n 0, 1) := by decide +kernel
theorem dX7_fits_62 : decode cX7_fits 62 = .ok (.getfield 76, 3) := by decide +kernel
theorem dX7_fits_65 : decode cX7_fits 65 = .ok (.iload 4, 2) := by decide +kernel
theorem dX7_fits_67 : decode cX7_fits 67 = .ok (.iaload, 1) := by decide +kernel
theorem dX7_fits_68 : decode cX7_fits 68 = .ok (.iconst (-1), 1) := by decide +kernel
theorem dX7_fits_69 : decode cX7_fits 69 = .ok (.if_icmp .eq 20, 3) := by decide +kernel
theorem dX7_fits_72 : decode cX7_fits 72 = .ok (.aload_n 0, 1) := by decide +kernel
theorem dX7_fits_73 : decode cX7_fits 73 = .ok (.getfield 79, 3) := by decide +kernel
theorem dX7_fits_76 : decode cX7_fits 76 = .ok (.aload_n 0, 1) := by decide +kernel
theorem dX7_fits_77 : decode cX7_fits 77 = .ok (.getfield 76, 3) := by decide +kernel
theorem dX7_fits_80 : decode cX7_fits 80 = .ok (.iload 4, 2) := by decide +kernel
theorem dX7_fits_82 : decode cX7_fits 82 = .ok (.iaload, 1) := by decide +kernel
theorem dX7_fits_83 : decode cX7_fits 83 = .ok (.dup2, 1) := by decide +kernel
theorem dX7_fits_84 : decode cX7_fits 84 = .ok (.laload, 1) := by decide +kernel
theorem dX7_fits_85 : decode cX7_fits 85 = .ok (.lload 5, 2) := by decide +kernel
theorem dX7_fits_87 : decode cX7_fits 87 = .ok (.lsub, 1) := by decide +kernel
theorem dX7_fits_88 : decode cX7_fits 88 = .ok (.lastore, 1) := by decide +kernel
theorem dX7_fits_89 : decode cX7_fits 89 = .ok (.aload_n 0, 1) := by decide +kernel
theorem dX7_fits_90 : decode cX7_fits 90 = .ok (.iload 4, 2) := by decide +kernel
theorem dX7_fits_92 : decode cX7_fits 92 = .ok (.invokevirtual 140, 3) := by decide +kernel
theorem dX7_fits_95 : decode cX7_fits 95 = .ok (.istore 7, 2) := by decide +kernel
theorem dX7_fits_97 : decode cX7_fits 97 = .ok (.aload_n 0, 1) := by decide +kernel
theorem dX7_fits_98 : decode cX7_fits 98 = .ok (.getfield 76, 3) := by decide +kernel
theorem dX7_fits_101 : decode cX7_fits 101 = .ok (.iload 4, 2) := by decide +kernel
theorem dX7_fits_103 : decode cX7_fits 103 = .ok (.iaload, 1) := by decide +kernel
theorem dX7_fits_104 : decode cX7_fits 104 = .ok (.iconst 1, 1) := by decide +kernel
theorem dX7_fits_105 : decode cX7_fits 105 = .ok (.iadd, 1) := by decide +kernel
theorem dX7_fits_106 : decode cX7_fits 106 = .ok (.istore 8, 2) := by decide +kernel
theorem dX7_fits_108 : decode cX7_fits 108 = .ok (.iload 8, 2) := by decide +kernel
theorem dX7_fits_110 : decode cX7_fits 110 = .ok (.iload 7, 2) := by decide +kernel
theorem dX7_fits_112 : decode cX7_fits 112 = .ok (.if_icmp .gt 24, 3) := by decide +kernel
theorem dX7_fits_115 : decode cX7_fits 115 = .ok (.aload_n 0, 1) := by decide +kernel
theorem dX7_fits_116 : decode cX7_fits 116 = .ok (.getfield 79, 3) := by decide +kernel
theorem dX7_fits_119 : decode cX7_fits 119 = .ok (.iload 8, 2) := by decide +kernel
theorem dX7_fits_121 : decode cX7_fits 121 = .ok (.laload, 1) := by decide +kernel
theorem dX7_fits_122 : decode cX7_fits 122 = .ok (.lload 5, 2) := by decide +kernel
theorem dX7_fits_124 : decode cX7_fits 124 = .ok (.ladd, 1) := by decide +kernel
theorem dX7_fits_125 : decode cX7_fits 125 = .ok (.lload_n 2, 1) := by decide +kernel
theorem dX7_fits_126 : decode cX7_fits 126 = .ok (.lcmp, 1) := by decide +kernel
theorem dX7_fits_127 : decode cX7_fits 127 = .ok (.ifCond .le 9, 3) := by decide +kernel
theorem dX7_fits_130 : decode cX7_fits 130 = .ok (.iinc 8 1, 3) := by decide +kernel
theorem dX7_fits_133 : decode cX7_fits 133 = .ok (.goto (-25), 3) := by decide +kernel
theorem dX7_fits_136 : decode cX7_fits 136 = .ok (.iload 8, 2) := by decide +kernel
theorem dX7_fits_138 : decode cX7_fits 138 = .ok (.iload 7, 2) := by decide +kernel
theorem dX7_fits_140 : decode cX7_fits 140 = .ok (.if_icmp .gt 9, 3) := by decide +kernel
theorem dX7_fits_143 : decode cX7_fits 143 = .ok (.iload 8, 2) := by decide +kernel
theorem dX7_fits_145 : decode cX7_fits 145 = .ok (.iload_n 1, 1) := by decide +kernel
theorem dX7_fits_146 : decode cX7_fits 146 = .ok (.if_icmp .lt 9, 3) := by decide +kernel
theorem dX7_fits_149 : decode cX7_fits 149 = .ok (.iinc 4 (-1), 3) := by decide +kernel
theorem dX7_fits_152 : decode cX7_fits 152 = .ok (.goto (-118), 3) := by decide +kernel
theorem dX7_fits_155 : decode cX7_fits 155 = .ok (.aload_n 0, 1) := by decide +kernel
theorem dX7_fits_156 : decode cX7_fits 156 = .ok (.getfield 76, 3) := by decide +kernel
theorem dX7_fits_159 : decode cX7_fits 159 = .ok (.iload 4, 2) := by decide +kernel
theorem dX7_fits_161 : decode cX7_fits 161 = .ok (.iload 8, 2) := by decide +kernel
theorem dX7_fits_163 : decode cX7_fits 163 = .ok (.iastore, 1) := by decide +kernel
theorem dX7_fits_164 : decode cX7_fits 164 = .ok (.aload_n 0, 1) := by decide +kernel
theorem dX7_fits_165 : decode cX7_fits 165 = .ok (.getfield 79, 3) := by decide +kernel
theorem dX7_fits_168 : decode cX7_fits 168 = .ok (.iload 8, 2) := by decide +kernel
theorem dX7_fits_170 : decode cX7_fits 170 = .ok (.dup2, 1) := by decide +kernel
theorem dX7_fits_171 : decode cX7_fits 171 = .ok (.laload, 1) := by decide +kernel
theorem dX7_fits_172 : decode cX7_fits 172 = .ok (.lload 5, 2) := by decide +kernel
theorem dX7_fits_174 : decode cX7_fits 174 = .ok (.ladd, 1) := by decide +kernel
theorem dX7_fits_175 : decode cX7_fits 175 = .ok (.lastore, 1) := by decide +kernel
theorem dX7_fits_176 : decode cX7_fits 176 = .ok (.iinc 4 1, 3) := by decide +kernel
theorem dX7_fits_179 : decode cX7_fits 179 = .ok (.iload 4, 2) := by decide +kernel
theorem dX7_fits_181 : decode cX7_fits 181 = .ok (.aload_n 0, 1) := by decide +kernel
theorem dX7_fits_182 : decode cX7_fits 182 = .ok (.getfield 137, 3) := by decide +kernel
theorem dX7_fits_185 : decode cX7_fits 185 = .ok (.if_icmp .ge 11, 3) := by decide +kernel
theorem dX7_fits_188 : decode cX7_fits 188 = .ok (.aload_n 0, 1) := by decide +kernel
theorem dX7_fits_189 : decode cX7_fits 189 = .ok (.getfield 76, 3) := by decide +kernel
theorem dX7_fits_192 : decode cX7_fits 192 = .ok (.iload 4, 2) := by decide +kernel
theorem dX7_fits_194 : decode cX7_fits 194 = .ok (.iconst (-1), 1) := by decide +kernel
theorem dX7_fits_195 : decode cX7_fits 195 = .ok (.iastore, 1) := by decide +kernel
theorem dX7_fits_196 : decode cX7_fits 196 = .ok (.goto (-162), 3) := by decide +kernel
theorem dX7_fits_199 : decode cX7_fits 199 = .ok (.iload 4, 2) := by decide +kernel
theorem dX7_fits_201 : decode cX7_fits 201 = .ok (.aload_n 0, 1) := by decide +kernel
theorem dX7_fits_202 : decode cX7_fits 202 = .ok (.getfield 137, 3) := by decide +kernel
theorem dX7_fits_205 : decode cX7_fits 205 = .ok (.if_icmp .ne 7, 3) := by decide +kernel
theorem dX7_fits_208 : decode cX7_fits 208 = .ok (.iconst 1, 1) := by decide +kernel
theorem dX7_fits_209 : decode cX7_fits 209 = .ok (.goto 4, 3) := by decide +kernel
theorem dX7_fits_212 : decode cX7_fits 212 = .ok (.iconst 0, 1) := by decide +kernel
theorem dX7_fits_213 : decode cX7_fits 213 = .ok (.ireturn, 1) := by decide +kernel
theorem dX7_topOf_0 : decode cX7_topOf 0 = .ok (.iconst 0, 1) := by decide +kernel
theorem dX7_topOf_1 : decode cX7_topOf 1 = .ok (.istore_n 2, 1) := by decide +kernel
theorem dX7_topOf_2 : decode cX7_topOf 2 = .ok (.iconst 0, 1) := by decide +kernel
theorem dX7_topOf_3 : decode cX7_topOf 3 = .ok (.istore_n 3, 1) := by decide +kernel
theorem dX7_topOf_4 : decode cX7_topOf 4 = .ok (.iload_n 3, 1) := by decide +kernel
theorem dX7_topOf_5 : decode cX7_topOf 5 = .ok (.iload_n 1, 1) := by decide +kernel
theorem dX7_topOf_6 : decode cX7_topOf 6 = .ok (.if_icmp .ge 34, 3) := by decide +kernel
theorem dX7_topOf_9 : decode cX7_topOf 9 = .ok (.aload_n 0, 1) := by decide +kernel
theorem dX7_topOf_10 : decode cX7_topOf 10 = .ok (.getfield 76, 3) := by decide +kernel
theorem dX7_topOf_13 : decode cX7_topOf 13 = .ok (.iload_n 3, 1) := by decide +kernel
theorem dX7_topOf_14 : decode cX7_topOf 14 = .ok (.iaload, 1) := by decide +kernel
theorem dX7_topOf_15 : decode cX7_topOf 15 = .ok (.iconst 1, 1) := by decide +kernel
theorem dX7_topOf_16 : decode cX7_topOf 16 = .ok (.iadd, 1) := by decide +kernel
theorem dX7_topOf_17 : decode cX7_topOf 17 = .ok (.iload_n 2, 1) := by decide +kernel
theorem dX7_topOf_18 : decode cX7_topOf 18 = .ok (.if_icmp .le 14, 3) := by decide +kernel
theorem dX7_topOf_21 : decode cX7_topOf 21 = .ok (.aload_n 0, 1) := by decide +kernel
theorem dX7_topOf_22 : decode cX7_topOf 22 = .ok (.getfield 76, 3) := by decide +kernel
theorem dX7_topOf_25 : decode cX7_topOf 25 = .ok (.iload_n 3, 1) := by decide +kernel
theorem dX7_topOf_26 : decode cX7_topOf 26 = .ok (.iaload, 1) := by decide +kernel
theorem dX7_topOf_27 : decode cX7_topOf 27 = .ok (.iconst 1, 1) := by decide +kernel
theorem dX7_topOf_28 : decode cX7_topOf 28 = .ok (.iadd, 1) := by decide +kernel
theorem dX7_topOf_29 : decode cX7_topOf 29 = .ok (.goto 4, 3) := by decide +kernel
theorem dX7_topOf_32 : decode cX7_topOf 32 = .ok (.iload_n 2, 1) := by decide +kernel
theorem dX7_topOf_33 : decode cX7_topOf 33 = .ok (.istore_n 2, 1) := by decide +kernel
theorem dX7_topOf_34 : decode cX7_topOf 34 = .ok (.iinc 3 1, 3) := by decide +kernel
theorem dX7_topOf_37 : decode cX7_topOf 37 = .ok (.goto (-33), 3) := by decide +kernel
theorem dX7_topOf_40 : decode cX7_topOf 40 = .ok (.iload_n 2, 1) := by decide +kernel
theorem dX7_topOf_41 : decode cX7_topOf 41 = .ok (.ireturn, 1) := by decide +kernel
set_option maxRecDepth 20000 in
theorem ggX7_packExactly_X7_fits : GoodIn wsX7_packExactly wsX7_fits := goodIn_ca (goodIn_r _ [9, 10, 4, 1, 3, 11, 12, 13, 8, 14, 15, 16, 17, 18, 19, 20, 21, 22, 23, 24, 25, 26, 27, 28, 29, 30, 31, 32, 33, 34, 35, 36, 37, 38, 39, 40, 41, 42, 43, 44, 45, 46, 47, 48, 49, 50, 51, 52, 53, 54, 55, 56, 57, 58] (by decide +kernel) (by decide +kernel)) (goodIn_sub (fun _ h => List.mem_cons_of_mem _ (List.mem_append_right _ h)) (by decide +kernel))
set_option maxRecDepth 20000 in
theorem gX7_packExactly_X7_fits : GoodIn wsX7_packExactly (wsV RX7 143 RX7 yX7_fits wsX7_fits) := goodIn_app (goodIn_of _ (by decide +kernel)) ggX7_packExactly_X7_fits
theorem dX7_packExactly_0 : decode cX7_packExactly 0 = .ok (.iconst 0, 1) := by decide +kernel
theorem dX7_packExactly_1 : decode cX7_packExactly 1 = .ok (.istore_n 3, 1) := by decide +kernel
theorem dX7_packExactly_2 : decode cX7_packExactly 2 = .ok (.aload_n 0, 1) := by decide +kernel
theorem dX7_packExactly_3 : decode cX7_packExactly 3 = .ok (.getfield 137, 3) := by decide +kernel
theorem dX7_packExactly_6 : decode cX7_packExactly 6 = .ok (.ifCond .eq 22, 3) := by decide +kernel
theorem dX7_packExactly_9 : decode cX7_packExactly 9 = .ok (.iload_n 3, 1) := by decide +kernel
theorem dX7_packExactly_10 : decode cX7_packExactly 10 = .ok (.ifCond .le 12, 3) := by decide +kernel
theorem dX7_packExactly_13 : decode cX7_packExactly 13 = .ok (.aload_n 0, 1) := by decide +kernel
theorem dX7_packExactly_14 : decode cX7_packExactly 14 = .ok (.iload_n 3, 1) := by decide +kernel
theorem dX7_packExactly_15 : decode cX7_packExactly 15 = .ok (.lload_n 1, 1) := by decide +kernel
theorem dX7_packExactly_16 : decode cX7_packExactly 16 = .ok (.invokevirtual 143, 3) := by decide +kernel
theorem dX7_packExactly_19 : decode cX7_packExactly 19 = .ok (.ifCond .ne 9, 3) := by decide +kernel
theorem dX7_packExactly_22 : decode cX7_packExactly 22 = .ok (.iinc 3 1, 3) := by decide +kernel
theorem dX7_packExactly_25 : decode cX7_packExactly 25 = .ok (.goto (-23), 3) := by decide +kernel
theorem dX7_packExactly_28 : decode cX7_packExactly 28 = .ok (.iconst 0, 1) := by decide +kernel
theorem dX7_packExactly_29 : decode cX7_packExactly 29 = .ok (.istore 4, 2) := by decide +kernel
theorem dX7_packExactly_31 : decode cX7_packExactly 31 = .ok (.iload 4, 2) := by decide +kernel
theorem dX7_packExactly_33 : decode cX7_packExactly 33 = .ok (.aload_n 0, 1) := by decide +kernel
theorem dX7_packExactly_34 : decode cX7_packExactly 34 = .ok (.getfield 137, 3) := by decide +kernel
theorem dX7_packExactly_37 : decode cX7_packExactly 37 = .ok (.if_icmp .ge 28, 3) := by decide +kernel
theorem dX7_packExactly_40 : decode cX7_packExactly 40 = .ok (.aload_n 0, 1) := by decide +kernel
theorem dX7_packExactly_41 : decode cX7_packExactly 41 = .ok (.getfield 58, 3) := by decide +kernel
theorem dX7_packExactly_44 : decode cX7_packExactly 44 = .ok (.aload_n 0, 1) := by decide +kernel
theorem dX7_packExactly_45 : decode cX7_packExactly 45 = .ok (.getfield 73, 3) := by decide +kernel
theorem dX7_packExactly_48 : decode cX7_packExactly 48 = .ok (.iload 4, 2) := by decide +kernel
theorem dX7_packExactly_50 : decode cX7_packExactly 50 = .ok (.iaload, 1) := by decide +kernel
theorem dX7_packExactly_51 : decode cX7_packExactly 51 = .ok (.aload_n 0, 1) := by decide +kernel
theorem dX7_packExactly_52 : decode cX7_packExactly 52 = .ok (.getfield 76, 3) := by decide +kernel
theorem dX7_packExactly_55 : decode cX7_packExactly 55 = .ok (.iload 4, 2) := by decide +kernel
theorem dX7_packExactly_57 : decode cX7_packExactly 57 = .ok (.iaload, 1) := by decide +kernel
theorem dX7_packExactly_58 : decode cX7_packExactly 58 = .ok (.iastore, 1) := by decide +kernel
theorem dX7_packExactly_59 : decode cX7_packExactly 59 = .ok (.iinc 4 1, 3) := by decide +kernel
theorem dX7_packExactly_62 : decode cX7_packExactly 62 = .ok (.goto (-31), 3) := by decide +kernel
theorem dX7_packExactly_65 : decode cX7_packExactly 65 = .ok (.iload_n 3, 1) := by decide +kernel
theorem dX7_packExactly_66 : decode cX7_packExactly 66 = .ok (.ireturn, 1) := by decide +kernel
set_option maxRecDepth 20000 in
theorem ggX7_packLongest_X7_lengthOf : GoodIn wsX7_packLongest wsX7_lengthOf := goodIn_ca (goodIn_r _ [9, 10, 11, 12, 13, 14, 15, 16, 17, 18, 19, 20, 21, 22, 23, 24, 25, 26, 27, 28, 29, 30, 31, 32, 33, 34, 35, 36, 37, 38, 39, 40, 41, 42, 43, 44, 45, 46, 47, 48, 49] (by decide +kernel) (by decide +kernel)) (goodIn_sub (fun _ h => List.mem_cons_of_mem _ (List.mem_append_right _ h)) (by decide +kernel))
set_option maxRecDepth 20000 in
theorem gX7_packLongest_X7_lengthOf : GoodIn wsX7_packLongest (wsV RX7 127 RX7 yX7_lengthOf wsX7_lengthOf) := goodIn_app (goodIn_of _ (by decide +kernel)) ggX7_packLongest_X7_lengthOf
theorem dX7_packLongest_0 : decode cX7_packLongest 0 = .ok (.iconst 0, 1) := by decide +kernel
theorem dX7_packLongest_1 : decode cX7_packLongest 1 = .ok (.istore_n 3, 1) := by decide +kernel
theorem dX7_packLongest_2 : decode cX7_packLongest 2 = .ok (.iconst 0, 1) := by decide +kernel
theorem dX7_packLongest_3 : decode cX7_packLongest 3 = .ok (.istore 4, 2) := by decide +kernel
theorem dX7_packLongest_5 : decode cX7_packLongest 5 = .ok (.iload 4, 2) := by decide +kernel
theorem dX7_packLongest_7 : decode cX7_packLongest 7 = .ok (.aload_n 0, 1) := by decide +kernel
theorem dX7_packLongest_8 : decode cX7_packLongest 8 = .ok (.getfield 137, 3) := by decide +kernel
theorem dX7_packLongest_11 : decode cX7_packLongest 11 = .ok (.if_icmp .ge 158, 3) := by decide +kernel
theorem dX7_packLongest_14 : decode cX7_packLongest 14 = .ok (.iconst (-1), 1) := by decide +kernel
theorem dX7_packLongest_15 : decode cX7_packLongest 15 = .ok (.istore 5, 2) := by decide +kernel
theorem dX7_packLongest_17 : decode cX7_packLongest 17 = .ok (.iconst 0, 1) := by decide +kernel
theorem dX7_packLongest_18 : decode cX7_packLongest 18 = .ok (.istore 6, 2) := by decide +kernel
theorem dX7_packLongest_20 : decode cX7_packLongest 20 = .ok (.iload 6, 2) := by decide +kernel
theorem dX7_packLongest_22 : decode cX7_packLongest 22 = .ok (.aload_n 0, 1) := by decide +kernel
theorem dX7_packLongest_23 : decode cX7_packLongest 23 = .ok (.getfield 137, 3) := by decide +kernel
theorem dX7_packLongest_26 : decode cX7_packLongest 26 = .ok (.if_icmp .ge 61, 3) := by decide +kernel
theorem dX7_packLongest_29 : decode cX7_packLongest 29 = .ok (.aload_n 0, 1) := by decide +kernel
theorem dX7_packLongest_30 : decode cX7_packLongest 30 = .ok (.getfield 58, 3) := by decide +kernel
theorem dX7_packLongest_33 : decode cX7_packLongest 33 = .ok (.aload_n 0, 1) := by decide +kernel
theorem dX7_packLongest_34 : decode cX7_packLongest 34 = .ok (.getfield 73, 3) := by decide +kernel
theorem dX7_packLongest_37 : decode cX7_packLongest 37 = .ok (.iload 6, 2) := by decide +kernel
theorem dX7_packLongest_39 : decode cX7_packLongest 39 = .ok (.iaload, 1) := by decide +kernel
theorem dX7_packLongest_40 : decode cX7_packLongest 40 = .ok (.iaload, 1) := by decide +kernel
theorem dX7_packLongest_41 : decode cX7_packLongest 41 = .ok (.iconst (-1), 1) := by decide +kernel
theorem dX7_packLongest_42 : decode cX7_packLongest 42 = .ok (.if_icmp .ne 39, 3) := by decide +kernel
theorem dX7_packLongest_45 : decode cX7_packLongest 45 = .ok (.iload 5, 2) := by decide +kernel
theorem dX7_packLongest_47 : decode cX7_packLongest 47 = .ok (.iconst (-1), 1) := by decide +kernel
theorem dX7_packLongest_48 : decode cX7_packLongest 48 = .ok (.if_icmp .eq 24, 3) := by decide +kernel
theorem dX7_packLongest_51 : decode cX7_packLongest 51 = .ok (.aload_n 0, 1) := by decide +kernel
theorem dX7_packLongest_52 : decode cX7_packLongest 52 = .ok (.aload_n 0, 1) := by decide +kernel
theorem dX7_packLongest_53 : decode cX7_packLongest 53 = .ok (.getfield 73, 3) := by decide +kernel
theorem dX7_packLongest_56 : decode cX7_packLongest 56 = .ok (.iload 6, 2) := by decide +kernel
theorem dX7_packLongest_58 : decode cX7_packLongest 58 = .ok (.iaload, 1) := by decide +kernel
theorem dX7_packLongest_59 : decode cX7_packLongest 59 = .ok (.invokevirtual 127, 3) := by decide +kernel
theorem dX7_packLongest_62 : decode cX7_packLongest 62 = .ok (.aload_n 0, 1) := by decide +kernel
theorem dX7_packLongest_63 : decode cX7_packLongest 63 = .ok (.iload 5, 2) := by decide +kernel
theorem dX7_packLongest_65 : decode cX7_packLongest 65 = .ok (.invokevirtual 127, 3) := by decide +kernel
theorem dX7_packLongest_68 : decode cX7_packLongest 68 = .ok (.lcmp, 1) := by decide +kernel
theorem dX7_packLongest_69 : decode cX7_packLongest 69 = .ok (.ifCond .le 12, 3) := by decide +kernel
theorem dX7_packLongest_72 : decode cX7_packLongest 72 = .ok (.aload_n 0, 1) := by decide +kernel
theorem dX7_packLongest_73 : decode cX7_packLongest 73 = .ok (.getfield 73, 3) := by decide +kernel
theorem dX7_packLongest_76 : decode cX7_packLongest 76 = .ok (.iload 6, 2) := by decide +kernel
theorem dX7_packLongest_78 : decode cX7_packLongest 78 = .ok (.iaload, 1) := by decide +kernel
theorem dX7_packLongest_79 : decode cX7_packLongest 79 = .ok (.istore 5, 2) := by decide +kernel
theorem dX7_packLongest_81 : decode cX7_packLongest 81 = .ok (.iinc 6 1, 3) := by decide +kernel
theorem dX7_packLongest_84 : decode cX7_packLongest 84 = .ok (.goto (-64), 3) := by decide +kernel
theorem dX7_packLongest_87 : decode cX7_packLongest 87 = .ok (.iconst 0, 1) := by decide +kernel
theorem dX7_packLongest_88 : decode cX7_packLongest 88 = .ok (.istore 6, 2) := by decide +kernel
theorem dX7_packLongest_90 : decode cX7_packLongest 90 = .ok (.iload 6, 2) := by decide +kernel
theorem dX7_packLongest_92 : decode cX7_packLongest 92 = .ok (.iload_n 3, 1) := by decide +kernel
theorem dX7_packLongest_93 : decode cX7_packLongest 93 = .ok (.if_icmp .ge 28, 3) := by decide +kernel
theorem dX7_packLongest_96 : decode cX7_packLongest 96 = .ok (.aload_n 0, 1) := by decide +kernel
theorem dX7_packLongest_97 : decode cX7_packLongest 97 = .ok (.getfield 79, 3) := by decide +kernel
theorem dX7_packLongest_100 : decode cX7_packLongest 100 = .ok (.iload 6, 2) := by decide +kernel
theorem dX7_packLongest_102 : decode cX7_packLongest 102 = .ok (.laload, 1) := by decide +kernel
theorem dX7_packLongest_103 : decode cX7_packLongest 103 = .ok (.aload_n 0, 1) := by decide +kernel
theorem dX7_packLongest_104 : decode cX7_packLongest 104 = .ok (.iload 5, 2) := by decide +kernel
theorem dX7_packLongest_106 : decode cX7_packLongest 106 = .ok (.invokevirtual 127, 3) := by decide +kernel
theorem dX7_packLongest_109 : decode cX7_packLongest 109 = .ok (.ladd, 1) := by decide +kernel
theorem dX7_packLongest_110 : decode cX7_packLongest 110 = .ok (.lload_n 1, 1) := by decide +kernel
theorem dX7_packLongest_111 : decode cX7_packLongest 111 = .ok (.lcmp, 1) := by decide +kernel
theorem dX7_packLongest_112 : decode cX7_packLongest 112 = .ok (.ifCond .le 9, 3) := by decide +kernel
theorem dX7_packLongest_115 : decode cX7_packLongest 115 = .ok (.iinc 6 1, 3) := by decide +kernel
theorem dX7_packLongest_118 : decode cX7_packLongest 118 = .ok (.goto (-28), 3) := by decide +kernel
theorem dX7_packLongest_121 : decode cX7_packLongest 121 = .ok (.iload 6, 2) := by decide +kernel
theorem dX7_packLongest_123 : decode cX7_packLongest 123 = .ok (.iload_n 3, 1) := by decide +kernel
theorem dX7_packLongest_124 : decode cX7_packLongest 124 = .ok (.if_icmp .ne 14, 3) := by decide +kernel
theorem dX7_packLongest_127 : decode cX7_packLongest 127 = .ok (.aload_n 0, 1) := by decide +kernel
theorem dX7_packLongest_128 : decode cX7_packLongest 128 = .ok (.getfield 79, 3) := by decide +kernel
theorem dX7_packLongest_131 : decode cX7_packLongest 131 = .ok (.iload 6, 2) := by decide +kernel
theorem dX7_packLongest_133 : decode cX7_packLongest 133 = .ok (.lconst 0, 1) := by decide +kernel
theorem dX7_packLongest_134 : decode cX7_packLongest 134 = .ok (.lastore, 1) := by decide +kernel
theorem dX7_packLongest_135 : decode cX7_packLongest 135 = .ok (.iinc 3 1, 3) := by decide +kernel
theorem dX7_packLongest_138 : decode cX7_packLongest 138 = .ok (.aload_n 0, 1) := by decide +kernel
theorem dX7_packLongest_139 : decode cX7_packLongest 139 = .ok (.getfield 79, 3) := by decide +kernel
theorem dX7_packLongest_142 : decode cX7_packLongest 142 = .ok (.iload 6, 2) := by decide +kernel
theorem dX7_packLongest_144 : decode cX7_packLongest 144 = .ok (.dup2, 1) := by decide +kernel
theorem dX7_packLongest_145 : decode cX7_packLongest 145 = .ok (.laload, 1) := by decide +kernel
theorem dX7_packLongest_146 : decode cX7_packLongest 146 = .ok (.aload_n 0, 1) := by decide +kernel
theorem dX7_packLongest_147 : decode cX7_packLongest 147 = .ok (.iload 5, 2) := by decide +kernel
theorem dX7_packLongest_149 : decode cX7_packLongest 149 = .ok (.invokevirtual 127, 3) := by decide +kernel
theorem dX7_packLongest_152 : decode cX7_packLongest 152 = .ok (.ladd, 1) := by decide +kernel
theorem dX7_packLongest_153 : decode cX7_packLongest 153 = .ok (.lastore, 1) := by decide +kernel
theorem dX7_packLongest_154 : decode cX7_packLongest 154 = .ok (.aload_n 0, 1) := by decide +kernel
theorem dX7_packLongest_155 : decode cX7_packLongest 155 = .ok (.getfield 58, 3) := by decide +kernel
theorem dX7_packLongest_158 : decode cX7_packLongest 158 = .ok (.iload 5, 2) := by decide +kernel
theorem dX7_packLongest_160 : decode cX7_packLongest 160 = .ok (.iload 6, 2) := by decide +kernel
theorem dX7_packLongest_162 : decode cX7_packLongest 162 = .ok (.iastore, 1) := by decide +kernel
theorem dX7_packLongest_163 : decode cX7_packLongest 163 = .ok (.iinc 4 1, 3) := by decide +kernel
theorem dX7_packLongest_166 : decode cX7_packLongest 166 = .ok (.goto (-161), 3) := by decide +kernel
theorem dX7_packLongest_169 : decode cX7_packLongest 169 = .ok (.iload_n 3, 1) := by decide +kernel
theorem dX7_packLongest_170 : decode cX7_packLongest 170 = .ok (.ireturn, 1) := by decide +kernel
set_option maxRecDepth 20000 in
theorem ggX7_reel_X7_within : GoodIn wsX7_reel wsX7_within := goodIn_r _ [8] (by decide +kernel) (by decide +kernel)
set_option maxRecDepth 20000 in
theorem gX7_reel_X7_within : GoodIn wsX7_reel (va_wsS RX7 100 yX7_within wsX7_within) := goodIn_app (goodIn_of _ (by decide +kernel)) ggX7_reel_X7_within
set_option maxRecDepth 20000 in
theorem ggX7_reel_X7_collect : GoodIn wsX7_reel wsX7_collect := goodIn_ca (goodIn_r _ [12, 3, 13, 14, 4, 15, 16, 17, 7, 18, 19, 20, 21, 22, 23, 24, 43, 44, 45, 46, 47, 48, 49, 50, 51, 52, 53, 54, 55, 56, 57, 58, 59, 60, 61, 62, 63, 64, 65, 66, 67, 68, 69, 70, 71, 72, 73, 74, 75, 76] (by decide +kernel) (by decide +kernel)) (goodIn_sub (fun _ h => List.mem_cons_of_mem _ (List.mem_append_right _ h)) (by decide +kernel))
set_option maxRecDepth 20000 in
theorem gX7_reel_X7_collect : GoodIn wsX7_reel (wsV RX7 149 RX7 yX7_collect wsX7_collect) := goodIn_app (goodIn_of _ (by decide +kernel)) ggX7_reel_X7_collect
set_option maxRecDepth 20000 in
theorem ggX7_reel_X7_lengthOf : GoodIn wsX7_reel wsX7_lengthOf := goodIn_ca (goodIn_r _ [18, 19, 20, 21, 22, 23, 24, 43, 44, 45, 46, 47, 48, 49, 50, 51, 52, 53, 54, 55, 56, 57, 58, 59, 60, 61, 62, 63, 64, 65, 66, 67, 68, 69, 70, 71, 72, 73, 74, 75, 76] (by decide +kernel) (by decide +kernel)) (goodIn_sub (fun _ h => List.mem_cons_of_mem _ (List.mem_append_right _ h)) (by decide +kernel))
set_option maxRecDepth 20000 in
theorem gX7_reel_X7_lengthOf : GoodIn wsX7_reel (wsV RX7 127 RX7 yX7_lengthOf wsX7_lengthOf) := goodIn_app (goodIn_of _ (by decide +kernel)) ggX7_reel_X7_lengthOf
set_option maxRecDepth 20000 in
theorem ggX7_reel_X7_packLongest : GoodIn wsX7_reel wsX7_packLongest := goodIn_ca (goodIn_r _ [28, 3, 14, 4, 29, 15, 16, 17, 7, 18, 19, 20, 21, 22, 23, 24, 43, 44, 45, 46, 47, 48, 49, 50, 51, 52, 53, 54, 55, 56, 57, 58, 59, 60, 61, 62, 63, 64, 65, 66, 67, 68, 69, 70, 71, 72, 73, 74, 75, 76] (by decide +kernel) (by decide +kernel)) (goodIn_sub (fun _ h => List.mem_cons_of_mem _ (List.mem_append_right _ h)) (by decide +kernel))
set_option maxRecDepth 20000 in
theorem gX7_reel_X7_packLongest : GoodIn wsX7_reel (wsV RX7 152 RX7 yX7_packLongest wsX7_packLongest) := goodIn_app (goodIn_of _ (by decide +kernel)) ggX7_reel_X7_packLongest
set_option maxRecDepth 20000 in
theorem ggX7_reel_X7_packExactly : GoodIn wsX7_reel wsX7_packExactly := goodIn_ca (goodIn_r _ [33, 3, 14, 4, 34, 35, 36, 37, 7, 38, 29, 15, 16, 17, 18, 19, 20, 21, 22, 23, 24, 39, 40, 41, 42, 43, 44, 45, 46, 47, 48, 49, 50, 51, 52, 53, 54, 55, 56, 57, 58, 59, 60, 61, 62, 63, 64, 65, 66, 67, 68, 69, 70, 71, 72, 73, 74, 75, 76] (by decide +kernel) (by decide +kernel)) (goodIn_sub (fun _ h => List.mem_cons_of_mem _ (List.mem_append_right _ h)) (by decide +kernel))
set_option maxRecDepth 20000 in
theorem gX7_reel_X7_packExactly : GoodIn wsX7_reel (wsV RX7 156 RX7 yX7_packExactly wsX7_packExactly) := goodIn_app (goodIn_of _ (by decide +kernel)) ggX7_reel_X7_packExactly
theorem dX7_reel_0 : decode cX7_reel 0 = .ok (.aload_n 0, 1) := by decide +kernel
theorem dX7_reel_1 : decode cX7_reel 1 = .ok (.lload_n 1, 1) := by decide +kernel
theorem dX7_reel_2 : decode cX7_reel 2 = .ok (.lconst 1, 1) := by decide +kernel
theorem dX7_reel_3 : decode cX7_reel 3 = .ok (.ldc2_w 147, 3) := by decide +kernel
theorem dX7_reel_6 : decode cX7_reel 6 = .ok (.invokestatic 100, 3) := by decide +kernel
theorem dX7_reel_9 : decode cX7_reel 9 = .ok (.ifCond .eq 7, 3) := by decide +kernel
theorem dX7_reel_12 : decode cX7_reel 12 = .ok (.iconst 0, 1) := by decide +kernel
theorem dX7_reel_13 : decode cX7_reel 13 = .ok (.goto 4, 3) := by decide +kernel
theorem dX7_reel_16 : decode cX7_reel 16 = .ok (.iconst 1, 1) := by decide +kernel
theorem dX7_reel_17 : decode cX7_reel 17 = .ok (.putfield 84, 3) := by decide +kernel
theorem dX7_reel_20 : decode cX7_reel 20 = .ok (.aload_n 0, 1) := by decide +kernel
theorem dX7_reel_21 : decode cX7_reel 21 = .ok (.getfield 84, 3) := by decide +kernel
theorem dX7_reel_24 : decode cX7_reel 24 = .ok (.ifCond .eq 5, 3) := by decide +kernel
theorem dX7_reel_27 : decode cX7_reel 27 = .ok (.iconst 0, 1) := by decide +kernel
theorem dX7_reel_28 : decode cX7_reel 28 = .ok (.ireturn, 1) := by decide +kernel
theorem dX7_reel_29 : decode cX7_reel 29 = .ok (.aload_n 0, 1) := by decide +kernel
theorem dX7_reel_30 : decode cX7_reel 30 = .ok (.invokevirtual 149, 3) := by decide +kernel
theorem dX7_reel_33 : decode cX7_reel 33 = .ok (.iconst 0, 1) := by decide +kernel
theorem dX7_reel_34 : decode cX7_reel 34 = .ok (.istore_n 3, 1) := by decide +kernel
theorem dX7_reel_35 : decode cX7_reel 35 = .ok (.iload_n 3, 1) := by decide +kernel
theorem dX7_reel_36 : decode cX7_reel 36 = .ok (.aload_n 0, 1) := by decide +kernel
theorem dX7_reel_37 : decode cX7_reel 37 = .ok (.getfield 137, 3) := by decide +kernel
theorem dX7_reel_40 : decode cX7_reel 40 = .ok (.if_icmp .ge 26, 3) := by decide +kernel
theorem dX7_reel_43 : decode cX7_reel 43 = .ok (.aload_n 0, 1) := by decide +kernel
theorem dX7_reel_44 : decode cX7_reel 44 = .ok (.aload_n 0, 1) := by decide +kernel
theorem dX7_reel_45 : decode cX7_reel 45 = .ok (.getfield 73, 3) := by decide +kernel
theorem dX7_reel_48 : decode cX7_reel 48 = .ok (.iload_n 3, 1) := by decide +kernel
theorem dX7_reel_49 : decode cX7_reel 49 = .ok (.iaload, 1) := by decide +kernel
theorem dX7_reel_50 : decode cX7_reel 50 = .ok (.invokevirtual 127, 3) := by decide +kernel
theorem dX7_reel_53 : decode cX7_reel 53 = .ok (.lload_n 1, 1) := by decide +kernel
theorem dX7_reel_54 : decode cX7_reel 54 = .ok (.lcmp, 1) := by decide +kernel
theorem dX7_reel_55 : decode cX7_reel 55 = .ok (.ifCond .le 5, 3) := by decide +kernel
theorem dX7_reel_58 : decode cX7_reel 58 = .ok (.iconst (-1), 1) := by decide +kernel
theorem dX7_reel_59 : decode cX7_reel 59 = .ok (.ireturn, 1) := by decide +kernel
theorem dX7_reel_60 : decode cX7_reel 60 = .ok (.iinc 3 1, 3) := by decide +kernel
theorem dX7_reel_63 : decode cX7_reel 63 = .ok (.goto (-28), 3) := by decide +kernel
theorem dX7_reel_66 : decode cX7_reel 66 = .ok (.aload_n 0, 1) := by decide +kernel
theorem dX7_reel_67 : decode cX7_reel 67 = .ok (.getfield 137, 3) := by decide +kernel
theorem dX7_reel_70 : decode cX7_reel 70 = .ok (.bipush 8, 2) := by decide +kernel
theorem dX7_reel_72 : decode cX7_reel 72 = .ok (.if_icmp .le 11, 3) := by decide +kernel
theorem dX7_reel_75 : decode cX7_reel 75 = .ok (.aload_n 0, 1) := by decide +kernel
theorem dX7_reel_76 : decode cX7_reel 76 = .ok (.lload_n 1, 1) := by decide +kernel
theorem dX7_reel_77 : decode cX7_reel 77 = .ok (.invokevirtual 152, 3) := by decide +kernel
theorem dX7_reel_80 : decode cX7_reel 80 = .ok (.goto 8, 3) := by decide +kernel
theorem dX7_reel_83 : decode cX7_reel 83 = .ok (.aload_n 0, 1) := by decide +kernel
theorem dX7_reel_84 : decode cX7_reel 84 = .ok (.lload_n 1, 1) := by decide +kernel
theorem dX7_reel_85 : decode cX7_reel 85 = .ok (.invokevirtual 156, 3) := by decide +kernel
theorem dX7_reel_88 : decode cX7_reel 88 = .ok (.ireturn, 1) := by decide +kernel
set_option maxRecDepth 20000 in
theorem ggX7_reelOf_X7_isWire : GoodIn wsX7_reelOf wsX7_isWire := goodIn_r _ [7, 8, 9, 10, 11, 12, 13, 14, 15, 16, 17, 18, 19, 20, 21, 22, 23, 24, 25, 26, 27, 28, 29, 30, 31, 32, 33, 34, 35, 36, 37, 38, 39, 40, 41, 42] (by decide +kernel) (by decide +kernel)
set_option maxRecDepth 20000 in
theorem gX7_reelOf_X7_isWire : GoodIn wsX7_reelOf (wsV RX7 119 RX7 yX7_isWire wsX7_isWire) := goodIn_app (goodIn_of _ (by decide +kernel)) ggX7_reelOf_X7_isWire
theorem dX7_reelOf_0 : decode cX7_reelOf 0 = .ok (.aload_n 0, 1) := by decide +kernel
theorem dX7_reelOf_1 : decode cX7_reelOf 1 = .ok (.aload_n 0, 1) := by decide +kernel
theorem dX7_reelOf_2 : decode cX7_reelOf 2 = .ok (.iload_n 1, 1) := by decide +kernel
theorem dX7_reelOf_3 : decode cX7_reelOf 3 = .ok (.invokevirtual 119, 3) := by decide +kernel
theorem dX7_reelOf_6 : decode cX7_reelOf 6 = .ok (.ifCond .eq 7, 3) := by decide +kernel
theorem dX7_reelOf_9 : decode cX7_reelOf 9 = .ok (.iconst 0, 1) := by decide +kernel
theorem dX7_reelOf_10 : decode cX7_reelOf 10 = .ok (.goto 4, 3) := by decide +kernel
theorem dX7_reelOf_13 : decode cX7_reelOf 13 = .ok (.iconst 1, 1) := by decide +kernel
theorem dX7_reelOf_14 : decode cX7_reelOf 14 = .ok (.putfield 84, 3) := by decide +kernel
theorem dX7_reelOf_17 : decode cX7_reelOf 17 = .ok (.aload_n 0, 1) := by decide +kernel
theorem dX7_reelOf_18 : decode cX7_reelOf 18 = .ok (.getfield 84, 3) := by decide +kernel
theorem dX7_reelOf_21 : decode cX7_reelOf 21 = .ok (.ifCond .ne 12, 3) := by decide +kernel
theorem dX7_reelOf_24 : decode cX7_reelOf 24 = .ok (.aload_n 0, 1) := by decide +kernel
theorem dX7_reelOf_25 : decode cX7_reelOf 25 = .ok (.getfield 58, 3) := by decide +kernel
theorem dX7_reelOf_28 : decode cX7_reelOf 28 = .ok (.iload_n 1, 1) := by decide +kernel
theorem dX7_reelOf_29 : decode cX7_reelOf 29 = .ok (.iaload, 1) := by decide +kernel
theorem dX7_reelOf_30 : decode cX7_reelOf 30 = .ok (.goto 4, 3) := by decide +kernel
theorem dX7_reelOf_33 : decode cX7_reelOf 33 = .ok (.iconst 0, 1) := by decide +kernel
theorem dX7_reelOf_34 : decode cX7_reelOf 34 = .ok (.ireturn, 1) := by decide +kernel
set_option maxRecDepth 20000 in
theorem ggX7_splice_X7_isWire : GoodIn wsX7_splice wsX7_isWire := goodIn_r _ [9, 10, 11, 12, 13, 14, 15, 16, 17, 18, 19, 20, 21, 22, 23, 24, 25, 26, 27, 28, 29, 30, 31, 32, 33, 34, 35, 36, 37, 38, 39, 40, 41, 42, 43, 44] (by decide +kernel) (by decide +kernel)
set_option maxRecDepth 20000 in
theorem gX7_splice_X7_isWire : GoodIn wsX7_splice (wsV RX7 119 RX7 yX7_isWire wsX7_isWire) := goodIn_app (goodIn_of _ (by decide +kernel)) ggX7_splice_X7_isWire
theorem dX7_splice_0 : decode cX7_splice 0 = .ok (.aload_n 0, 1) := by decide +kernel
theorem dX7_splice_1 : decode cX7_splice 1 = .ok (.aload_n 0, 1) := by decide +kernel
theorem dX7_splice_2 : decode cX7_splice 2 = .ok (.iload_n 1, 1) := by decide +kernel
theorem dX7_splice_3 : decode cX7_splice 3 = .ok (.invokevirtual 119, 3) := by decide +kernel
theorem dX7_splice_6 : decode cX7_splice 6 = .ok (.ifCond .eq 15, 3) := by decide +kernel
theorem dX7_splice_9 : decode cX7_splice 9 = .ok (.aload_n 0, 1) := by decide +kernel
theorem dX7_splice_10 : decode cX7_splice 10 = .ok (.iload_n 2, 1) := by decide +kernel
theorem dX7_splice_11 : decode cX7_splice 11 = .ok (.invokevirtual 119, 3) := by decide +kernel
theorem dX7_splice_14 : decode cX7_splice 14 = .ok (.ifCond .eq 7, 3) := by decide +kernel
theorem dX7_splice_17 : decode cX7_splice 17 = .ok (.iconst 0, 1) := by decide +kernel
theorem dX7_splice_18 : decode cX7_splice 18 = .ok (.goto 4, 3) := by decide +kernel
theorem dX7_splice_21 : decode cX7_splice 21 = .ok (.iconst 1, 1) := by decide +kernel
theorem dX7_splice_22 : decode cX7_splice 22 = .ok (.putfield 84, 3) := by decide +kernel
theorem dX7_splice_25 : decode cX7_splice 25 = .ok (.aload_n 0, 1) := by decide +kernel
theorem dX7_splice_26 : decode cX7_splice 26 = .ok (.getfield 84, 3) := by decide +kernel
theorem dX7_splice_29 : decode cX7_splice 29 = .ok (.ifCond .eq 5, 3) := by decide +kernel
theorem dX7_splice_32 : decode cX7_splice 32 = .ok (.iconst 0, 1) := by decide +kernel
theorem dX7_splice_33 : decode cX7_splice 33 = .ok (.ireturn, 1) := by decide +kernel
theorem dX7_splice_34 : decode cX7_splice 34 = .ok (.iload_n 1, 1) := by decide +kernel
theorem dX7_splice_35 : decode cX7_splice 35 = .ok (.iload_n 2, 1) := by decide +kernel
theorem dX7_splice_36 : decode cX7_splice 36 = .ok (.if_icmp .eq 12, 3) := by decide +kernel
theorem dX7_splice_39 : decode cX7_splice 39 = .ok (.aload_n 0, 1) := by decide +kernel
theorem dX7_splice_40 : decode cX7_splice 40 = .ok (.getfield 159, 3) := by decide +kernel
theorem dX7_splice_43 : decode cX7_splice 43 = .ok (.bipush 20, 2) := by decide +kernel
theorem dX7_splice_45 : decode cX7_splice 45 = .ok (.if_icmp .ne 7, 3) := by decide +kernel
theorem dX7_splice_48 : decode cX7_splice 48 = .ok (.iconst 1, 1) := by decide +kernel
theorem dX7_splice_49 : decode cX7_splice 49 = .ok (.goto 4, 3) := by decide +kernel
theorem dX7_splice_52 : decode cX7_splice 52 = .ok (.iconst 0, 1) := by decide +kernel
theorem dX7_splice_53 : decode cX7_splice 53 = .ok (.istore_n 3, 1) := by decide +kernel
theorem dX7_splice_54 : decode cX7_splice 54 = .ok (.iconst 0, 1) := by decide +kernel
theorem dX7_splice_55 : decode cX7_splice 55 = .ok (.istore 4, 2) := by decide +kernel
theorem dX7_splice_57 : decode cX7_splice 57 = .ok (.iload 4, 2) := by decide +kernel
theorem dX7_splice_59 : decode cX7_splice 59 = .ok (.aload_n 0, 1) := by decide +kernel
theorem dX7_splice_60 : decode cX7_splice 60 = .ok (.getfield 159, 3) := by decide +kernel
theorem dX7_splice_63 : decode cX7_splice 63 = .ok (.if_icmp .ge 63, 3) := by decide +kernel
theorem dX7_splice_66 : decode cX7_splice 66 = .ok (.iload_n 3, 1) := by decide +kernel
theorem dX7_splice_67 : decode cX7_splice 67 = .ok (.ifCond .ne 47, 3) := by decide +kernel
theorem dX7_splice_70 : decode cX7_splice 70 = .ok (.aload_n 0, 1) := by decide +kernel
theorem dX7_splice_71 : decode cX7_splice 71 = .ok (.getfield 61, 3) := by decide +kernel
theorem dX7_splice_74 : decode cX7_splice 74 = .ok (.iload 4, 2) := by decide +kernel
theorem dX7_splice_76 : decode cX7_splice 76 = .ok (.iaload, 1) := by decide +kernel
theorem dX7_splice_77 : decode cX7_splice 77 = .ok (.iload_n 1, 1) := by decide +kernel
theorem dX7_splice_78 : decode cX7_splice 78 = .ok (.if_icmp .ne 14, 3) := by decide +kernel
theorem dX7_splice_81 : decode cX7_splice 81 = .ok (.aload_n 0, 1) := by decide +kernel
theorem dX7_splice_82 : decode cX7_splice 82 = .ok (.getfield 64, 3) := by decide +kernel
theorem dX7_splice_85 : decode cX7_splice 85 = .ok (.iload 4, 2) := by decide +kernel
theorem dX7_splice_87 : decode cX7_splice 87 = .ok (.iaload, 1) := by decide +kernel
theorem dX7_splice_88 : decode cX7_splice 88 = .ok (.iload_n 2, 1) := by decide +kernel
theorem dX7_splice_89 : decode cX7_splice 89 = .ok (.if_icmp .eq 25, 3) := by decide +kernel
theorem dX7_splice_92 : decode cX7_splice 92 = .ok (.aload_n 0, 1) := by decide +kernel
theorem dX7_splice_93 : decode cX7_splice 93 = .ok (.getfield 61, 3) := by decide +kernel
theorem dX7_splice_96 : decode cX7_splice 96 = .ok (.iload 4, 2) := by decide +kernel
theorem dX7_splice_98 : decode cX7_splice 98 = .ok (.iaload, 1) := by decide +kernel
theorem dX7_splice_99 : decode cX7_splice 99 = .ok (.iload_n 2, 1) := by decide +kernel
theorem dX7_splice_100 : decode cX7_splice 100 = .ok (.if_icmp .ne 18, 3) := by decide +kernel
theorem dX7_splice_103 : decode cX7_splice 103 = .ok (.aload_n 0, 1) := by decide +kernel
theorem dX7_splice_104 : decode cX7_splice 104 = .ok (.getfield 64, 3) := by decide +kernel
theorem dX7_splice_107 : decode cX7_splice 107 = .ok (.iload 4, 2) := by decide +kernel
theorem dX7_splice_109 : decode cX7_splice 109 = .ok (.iaload, 1) := by decide +kernel
theorem dX7_splice_110 : decode cX7_splice 110 = .ok (.iload_n 1, 1) := by decide +kernel
theorem dX7_splice_111 : decode cX7_splice 111 = .ok (.if_icmp .ne 7, 3) := by decide +kernel
theorem dX7_splice_114 : decode cX7_splice 114 = .ok (.iconst 1, 1) := by decide +kernel
theorem dX7_splice_115 : decode cX7_splice 115 = .ok (.goto 4, 3) := by decide +kernel
theorem dX7_splice_118 : decode cX7_splice 118 = .ok (.iconst 0, 1) := by decide +kernel
theorem dX7_splice_119 : decode cX7_splice 119 = .ok (.istore_n 3, 1) := by decide +kernel
theorem dX7_splice_120 : decode cX7_splice 120 = .ok (.iinc 4 1, 3) := by decide +kernel
theorem dX7_splice_123 : decode cX7_splice 123 = .ok (.goto (-66), 3) := by decide +kernel
theorem dX7_splice_126 : decode cX7_splice 126 = .ok (.iload_n 3, 1) := by decide +kernel
theorem dX7_splice_127 : decode cX7_splice 127 = .ok (.ifCond .eq 5, 3) := by decide +kernel
theorem dX7_splice_130 : decode cX7_splice 130 = .ok (.iconst (-1), 1) := by decide +kernel
theorem dX7_splice_131 : decode cX7_splice 131 = .ok (.ireturn, 1) := by decide +kernel
theorem dX7_splice_132 : decode cX7_splice 132 = .ok (.aload_n 0, 1) := by decide +kernel
theorem dX7_splice_133 : decode cX7_splice 133 = .ok (.getfield 61, 3) := by decide +kernel
theorem dX7_splice_136 : decode cX7_splice 136 = .ok (.aload_n 0, 1) := by decide +kernel
theorem dX7_splice_137 : decode cX7_splice 137 = .ok (.getfield 159, 3) := by decide +kernel
theorem dX7_splice_140 : decode cX7_splice 140 = .ok (.iload_n 1, 1) := by decide +kernel
theorem dX7_splice_141 : decode cX7_splice 141 = .ok (.iastore, 1) := by decide +kernel
theorem dX7_splice_142 : decode cX7_splice 142 = .ok (.aload_n 0, 1) := by decide +kernel
theorem dX7_splice_143 : decode cX7_splice 143 = .ok (.getfield 64, 3) := by decide +kernel
theorem dX7_splice_146 : decode cX7_splice 146 = .ok (.aload_n 0, 1) := by decide +kernel
theorem dX7_splice_147 : decode cX7_splice 147 = .ok (.getfield 159, 3) := by decide +kernel
theorem dX7_splice_150 : decode cX7_splice 150 = .ok (.iload_n 2, 1) := by decide +kernel
theorem dX7_splice_151 : decode cX7_splice 151 = .ok (.iastore, 1) := by decide +kernel
theorem dX7_splice_152 : decode cX7_splice 152 = .ok (.aload_n 0, 1) := by decide +kernel
theorem dX7_splice_153 : decode cX7_splice 153 = .ok (.dup, 1) := by decide +kernel
theorem dX7_splice_154 : decode cX7_splice 154 = .ok (.getfield 159, 3) := by decide +kernel
theorem dX7_splice_157 : decode cX7_splice 157 = .ok (.iconst 1, 1) := by decide +kernel
theorem dX7_splice_158 : decode cX7_splice 158 = .ok (.iadd, 1) := by decide +kernel
theorem dX7_splice_159 : decode cX7_splice 159 = .ok (.putfield 159, 3) := by decide +kernel
theorem dX7_splice_162 : decode cX7_splice 162 = .ok (.aload_n 0, 1) := by decide +kernel
theorem dX7_splice_163 : decode cX7_splice 163 = .ok (.getfield 159, 3) := by decide +kernel
theorem dX7_splice_166 : decode cX7_splice 166 = .ok (.ireturn, 1) := by decide +kernel
set_option maxRecDepth 20000 in
theorem ggX7_joined_X7_isCavity : GoodIn wsX7_joined wsX7_isCavity := goodIn_ca (goodIn_r _ [12, 13, 14, 15, 16, 11, 17, 18, 19, 20, 21, 22, 23, 24, 25, 26, 27, 28, 29, 30, 31, 32, 33, 34, 35, 36, 37, 38, 39, 40, 41, 42, 43, 44, 45, 46, 47, 48, 49, 50, 51, 52] (by decide +kernel) (by decide +kernel)) (goodIn_sub (fun _ h => List.mem_cons_of_mem _ (List.mem_append_right _ h)) (by decide +kernel))
set_option maxRecDepth 20000 in
theorem gX7_joined_X7_isCavity : GoodIn wsX7_joined (wsV RX7 113 RX7 yX7_isCavity wsX7_isCavity) := goodIn_app (goodIn_of _ (by decide +kernel)) ggX7_joined_X7_isCavity
theorem dX7_joined_0 : decode cX7_joined 0 = .ok (.aload_n 0, 1) := by decide +kernel
theorem dX7_joined_1 : decode cX7_joined 1 = .ok (.aload_n 0, 1) := by decide +kernel
theorem dX7_joined_2 : decode cX7_joined 2 = .ok (.iload_n 1, 1) := by decide +kernel
theorem dX7_joined_3 : decode cX7_joined 3 = .ok (.iload_n 2, 1) := by decide +kernel
theorem dX7_joined_4 : decode cX7_joined 4 = .ok (.invokevirtual 113, 3) := by decide +kernel
theorem dX7_joined_7 : decode cX7_joined 7 = .ok (.ifCond .eq 17, 3) := by decide +kernel
theorem dX7_joined_10 : decode cX7_joined 10 = .ok (.aload_n 0, 1) := by decide +kernel
theorem dX7_joined_11 : decode cX7_joined 11 = .ok (.iload_n 3, 1) := by decide +kernel
theorem dX7_joined_12 : decode cX7_joined 12 = .ok (.iload 4, 2) := by decide +kernel
theorem dX7_joined_14 : decode cX7_joined 14 = .ok (.invokevirtual 113, 3) := by decide +kernel
theorem dX7_joined_17 : decode cX7_joined 17 = .ok (.ifCond .eq 7, 3) := by decide +kernel
theorem dX7_joined_20 : decode cX7_joined 20 = .ok (.iconst 0, 1) := by decide +kernel
theorem dX7_joined_21 : decode cX7_joined 21 = .ok (.goto 4, 3) := by decide +kernel
theorem dX7_joined_24 : decode cX7_joined 24 = .ok (.iconst 1, 1) := by decide +kernel
theorem dX7_joined_25 : decode cX7_joined 25 = .ok (.putfield 84, 3) := by decide +kernel
theorem dX7_joined_28 : decode cX7_joined 28 = .ok (.aload_n 0, 1) := by decide +kernel
theorem dX7_joined_29 : decode cX7_joined 29 = .ok (.getfield 84, 3) := by decide +kernel
theorem dX7_joined_32 : decode cX7_joined 32 = .ok (.ifCond .eq 5, 3) := by decide +kernel
theorem dX7_joined_35 : decode cX7_joined 35 = .ok (.iconst 0, 1) := by decide +kernel
theorem dX7_joined_36 : decode cX7_joined 36 = .ok (.ireturn, 1) := by decide +kernel
theorem dX7_joined_37 : decode cX7_joined 37 = .ok (.aload_n 0, 1) := by decide +kernel
theorem dX7_joined_38 : decode cX7_joined 38 = .ok (.getfield 38, 3) := by decide +kernel
theorem dX7_joined_41 : decode cX7_joined 41 = .ok (.bipush 16, 2) := by decide +kernel
theorem dX7_joined_43 : decode cX7_joined 43 = .ok (.iload_n 1, 1) := by decide +kernel
theorem dX7_joined_44 : decode cX7_joined 44 = .ok (.imul, 1) := by decide +kernel
theorem dX7_joined_45 : decode cX7_joined 45 = .ok (.iload_n 2, 1) := by decide +kernel
theorem dX7_joined_46 : decode cX7_joined 46 = .ok (.iadd, 1) := by decide +kernel
theorem dX7_joined_47 : decode cX7_joined 47 = .ok (.iaload, 1) := by decide +kernel
theorem dX7_joined_48 : decode cX7_joined 48 = .ok (.istore 5, 2) := by decide +kernel
theorem dX7_joined_50 : decode cX7_joined 50 = .ok (.aload_n 0, 1) := by decide +kernel
theorem dX7_joined_51 : decode cX7_joined 51 = .ok (.getfield 38, 3) := by decide +kernel
theorem dX7_joined_54 : decode cX7_joined 54 = .ok (.bipush 16, 2) := by decide +kernel
theorem dX7_joined_56 : decode cX7_joined 56 = .ok (.iload_n 3, 1) := by decide +kernel
theorem dX7_joined_57 : decode cX7_joined 57 = .ok (.imul, 1) := by decide +kernel
theorem dX7_joined_58 : decode cX7_joined 58 = .ok (.iload 4, 2) := by decide +kernel
theorem dX7_joined_60 : decode cX7_joined 60 = .ok (.iadd, 1) := by decide +kernel
theorem dX7_joined_61 : decode cX7_joined 61 = .ok (.iaload, 1) := by decide +kernel
theorem dX7_joined_62 : decode cX7_joined 62 = .ok (.istore 6, 2) := by decide +kernel
theorem dX7_joined_64 : decode cX7_joined 64 = .ok (.iload 5, 2) := by decide +kernel
theorem dX7_joined_66 : decode cX7_joined 66 = .ok (.iconst (-1), 1) := by decide +kernel
theorem dX7_joined_67 : decode cX7_joined 67 = .ok (.if_icmp .eq 9, 3) := by decide +kernel
theorem dX7_joined_70 : decode cX7_joined 70 = .ok (.iload 6, 2) := by decide +kernel
theorem dX7_joined_72 : decode cX7_joined 72 = .ok (.iconst (-1), 1) := by decide +kernel
theorem dX7_joined_73 : decode cX7_joined 73 = .ok (.if_icmp .ne 20, 3) := by decide +kernel
theorem dX7_joined_76 : decode cX7_joined 76 = .ok (.iload_n 1, 1) := by decide +kernel
theorem dX7_joined_77 : decode cX7_joined 77 = .ok (.iload_n 3, 1) := by decide +kernel
theorem dX7_joined_78 : decode cX7_joined 78 = .ok (.if_icmp .ne 13, 3) := by decide +kernel
theorem dX7_joined_81 : decode cX7_joined 81 = .ok (.iload_n 2, 1) := by decide +kernel
theorem dX7_joined_82 : decode cX7_joined 82 = .ok (.iload 4, 2) := by decide +kernel
theorem dX7_joined_84 : decode cX7_joined 84 = .ok (.if_icmp .ne 7, 3) := by decide +kernel
theorem dX7_joined_87 : decode cX7_joined 87 = .ok (.iconst 1, 1) := by decide +kernel
theorem dX7_joined_88 : decode cX7_joined 88 = .ok (.goto 4, 3) := by decide +kernel
theorem dX7_joined_91 : decode cX7_joined 91 = .ok (.iconst 0, 1) := by decide +kernel
theorem dX7_joined_92 : decode cX7_joined 92 = .ok (.ireturn, 1) := by decide +kernel
theorem dX7_joined_93 : decode cX7_joined 93 = .ok (.iconst 0, 1) := by decide +kernel
theorem dX7_joined_94 : decode cX7_joined 94 = .ok (.istore 7, 2) := by decide +kernel
theorem dX7_joined_96 : decode cX7_joined 96 = .ok (.iload 7, 2) := by decide +kernel
theorem dX7_joined_98 : decode cX7_joined 98 = .ok (.aload_n 0, 1) := by decide +kernel
theorem dX7_joined_99 : decode cX7_joined 99 = .ok (.getfield 95, 3) := by decide +kernel
theorem dX7_joined_102 : decode cX7_joined 102 = .ok (.if_icmp .ge 18, 3) := by decide +kernel
theorem dX7_joined_105 : decode cX7_joined 105 = .ok (.aload_n 0, 1) := by decide +kernel
theorem dX7_joined_106 : decode cX7_joined 106 = .ok (.getfield 67, 3) := by decide +kernel
theorem dX7_joined_109 : decode cX7_joined 109 = .ok (.iload 7, 2) := by decide +kernel
theorem dX7_joined_111 : decode cX7_joined 111 = .ok (.iload 7, 2) := by decide +kernel
theorem dX7_joined_113 : decode cX7_joined 113 = .ok (.iastore, 1) := by decide +kernel
theorem dX7_joined_114 : decode cX7_joined 114 = .ok (.iinc 7 1, 3) := by decide +kernel
theorem dX7_joined_117 : decode cX7_joined 117 = .ok (.goto (-21), 3) := by decide +kernel
theorem dX7_joined_120 : decode cX7_joined 120 = .ok (.iconst 0, 1) := by decide +kernel
theorem dX7_joined_121 : decode cX7_joined 121 = .ok (.istore 7, 2) := by decide +kernel
theorem dX7_joined_123 : decode cX7_joined 123 = .ok (.iload 7, 2) := by decide +kernel
theorem dX7_joined_125 : decode cX7_joined 125 = .ok (.aload_n 0, 1) := by decide +kernel
theorem dX7_joined_126 : decode cX7_joined 126 = .ok (.getfield 159, 3) := by decide +kernel
theorem dX7_joined_129 : decode cX7_joined 129 = .ok (.if_icmp .ge 86, 3) := by decide +kernel
theorem dX7_joined_132 : decode cX7_joined 132 = .ok (.aload_n 0, 1) := by decide +kernel
theorem dX7_joined_133 : decode cX7_joined 133 = .ok (.getfield 67, 3) := by decide +kernel
theorem dX7_joined_136 : decode cX7_joined 136 = .ok (.aload_n 0, 1) := by decide +kernel
theorem dX7_joined_137 : decode cX7_joined 137 = .ok (.getfield 61, 3) := by decide +kernel
theorem dX7_joined_140 : decode cX7_joined 140 = .ok (.iload 7, 2) := by decide +kernel
theorem dX7_joined_142 : decode cX7_joined 142 = .ok (.iaload, 1) := by decide +kernel
theorem dX7_joined_143 : decode cX7_joined 143 = .ok (.iaload, 1) := by decide +kernel
theorem dX7_joined_144 : decode cX7_joined 144 = .ok (.istore 8, 2) := by decide +kernel
theorem dX7_joined_146 : decode cX7_joined 146 = .ok (.aload_n 0, 1) := by decide +kernel
theorem dX7_joined_147 : decode cX7_joined 147 = .ok (.getfield 67, 3) := by decide +kernel
theorem dX7_joined_150 : decode cX7_joined 150 = .ok (.aload_n 0, 1) := by decide +kernel
theorem dX7_joined_151 : decode cX7_joined 151 = .ok (.getfield 64, 3) := by decide +kernel
theorem dX7_joined_154 : decode cX7_joined 154 = .ok (.iload 7, 2) := by decide +kernel
theorem dX7_joined_156 : decode cX7_joined 156 = .ok (.iaload, 1) := by decide +kernel
theorem dX7_joined_157 : decode cX7_joined 157 = .ok (.iaload, 1) := by decide +kernel
theorem dX7_joined_158 : decode cX7_joined 158 = .ok (.istore 9, 2) := by decide +kernel
theorem dX7_joined_160 : decode cX7_joined 160 = .ok (.iconst 0, 1) := by decide +kernel
theorem dX7_joined_161 : decode cX7_joined 161 = .ok (.istore 10, 2) := by decide +kernel
theorem dX7_joined_163 : decode cX7_joined 163 = .ok (.iload 10, 2) := by decide +kernel
theorem dX7_joined_165 : decode cX7_joined 165 = .ok (.aload_n 0, 1) := by decide +kernel
theorem dX7_joined_166 : decode cX7_joined 166 = .ok (.getfield 95, 3) := by decide +kernel
theorem dX7_joined_169 : decode cX7_joined 169 = .ok (.if_icmp .ge 40, 3) := by decide +kernel
theorem dX7_joined_172 : decode cX7_joined 172 = .ok (.aload_n 0, 1) := by decide +kernel
theorem dX7_joined_173 : decode cX7_joined 173 = .ok (.getfield 67, 3) := by decide +kernel
theorem dX7_joined_176 : decode cX7_joined 176 = .ok (.iload 10, 2) := by decide +kernel
theorem dX7_joined_178 : decode cX7_joined 178 = .ok (.aload_n 0, 1) := by decide +kernel
theorem dX7_joined_179 : decode cX7_joined 179 = .ok (.getfield 67, 3) := by decide +kernel
theorem dX7_joined_182 : decode cX7_joined 182 = .ok (.iload 10, 2) := by decide +kernel
theorem dX7_joined_184 : decode cX7_joined 184 = .ok (.iaload, 1) := by decide +kernel
theorem dX7_joined_185 : decode cX7_joined 185 = .ok (.iload 8, 2) := by decide +kernel
theorem dX7_joined_187 : decode cX7_joined 187 = .ok (.if_icmp .ne 8, 3) := by decide +kernel
theorem dX7_joined_190 : decode cX7_joined 190 = .ok (.iload 9, 2) := by decide +kernel
theorem dX7_joined_192 : decode cX7_joined 192 = .ok (.goto 10, 3) := by decide +kernel
theorem dX7_joined_195 : decode cX7_joined 195 = .ok (.aload_n 0, 1) := by decide +kernel
theorem dX7_joined_196 : decode cX7_joined 196 = .ok (.getfield 67, 3) := by decide +kernel
theorem dX7_joined_199 : decode cX7_joined 199 = .ok (.iload 10, 2) := by decide +kernel
theorem dX7_joined_201 : decode cX7_joined 201 = .ok (.iaload, 1) := by decide +kernel
theorem dX7_joined_202 : decode cX7_joined 202 = .ok (.iastore, 1) := by decide +kernel
theorem dX7_joined_203 : decode cX7_joined 203 = .ok (.iinc 10 1, 3) := by decide +kernel
theorem dX7_joined_206 : decode cX7_joined 206 = .ok (.goto (-43), 3) := by decide +kernel
theorem dX7_joined_209 : decode cX7_joined 209 = .ok (.iinc 7 1, 3) := by decide +kernel
theorem dX7_joined_212 : decode cX7_joined 212 = .ok (.goto (-89), 3) := by decide +kernel
theorem dX7_joined_215 : decode cX7_joined 215 = .ok (.aload_n 0, 1) := by decide +kernel
theorem dX7_joined_216 : decode cX7_joined 216 = .ok (.getfield 67, 3) := by decide +kernel
theorem dX7_joined_219 : decode cX7_joined 219 = .ok (.iload 5, 2) := by decide +kernel
theorem dX7_joined_221 : decode cX7_joined 221 = .ok (.iaload, 1) := by decide +kernel
theorem dX7_joined_222 : decode cX7_joined 222 = .ok (.aload_n 0, 1) := by decide +kernel
theorem dX7_joined_223 : decode cX7_joined 223 = .ok (.getfield 67, 3) := by decide +kernel
theorem dX7_joined_226 : decode cX7_joined 226 = .ok (.iload 6, 2) := by decide +kernel
theorem dX7_joined_228 : decode cX7_joined 228 = .ok (.iaload, 1) := by decide +kernel
theorem dX7_joined_229 : decode cX7_joined 229 = .ok (.if_icmp .ne 7, 3) := by decide +kernel
theorem dX7_joined_232 : decode cX7_joined 232 = .ok (.iconst 1, 1) := by decide +kernel
theorem dX7_joined_233 : decode cX7_joined 233 = .ok (.goto 4, 3) := by decide +kernel
theorem dX7_joined_236 : decode cX7_joined 236 = .ok (.iconst 0, 1) := by decide +kernel
theorem dX7_joined_237 : decode cX7_joined 237 = .ok (.ireturn, 1) := by decide +kernel
theorem dX7_meet_0 : decode cX7_meet 0 = .ok (.aload_n 0, 1) := by decide +kernel
theorem dX7_meet_1 : decode cX7_meet 1 = .ok (.getfield 26, 3) := by decide +kernel
theorem dX7_meet_4 : decode cX7_meet 4 = .ok (.iload_n 1, 1) := by decide +kernel
theorem dX7_meet_5 : decode cX7_meet 5 = .ok (.iaload, 1) := by decide +kernel
theorem dX7_meet_6 : decode cX7_meet 6 = .ok (.bipush 16, 2) := by decide +kernel
theorem dX7_meet_8 : decode cX7_meet 8 = .ok (.idiv, 1) := by decide +kernel
theorem dX7_meet_9 : decode cX7_meet 9 = .ok (.istore_n 3, 1) := by decide +kernel
theorem dX7_meet_10 : decode cX7_meet 10 = .ok (.aload_n 0, 1) := by decide +kernel
theorem dX7_meet_11 : decode cX7_meet 11 = .ok (.getfield 29, 3) := by decide +kernel
theorem dX7_meet_14 : decode cX7_meet 14 = .ok (.iload_n 1, 1) := by decide +kernel
theorem dX7_meet_15 : decode cX7_meet 15 = .ok (.iaload, 1) := by decide +kernel
theorem dX7_meet_16 : decode cX7_meet 16 = .ok (.bipush 16, 2) := by decide +kernel
theorem dX7_meet_18 : decode cX7_meet 18 = .ok (.idiv, 1) := by decide +kernel
theorem dX7_meet_19 : decode cX7_meet 19 = .ok (.istore 4, 2) := by decide +kernel
theorem dX7_meet_21 : decode cX7_meet 21 = .ok (.aload_n 0, 1) := by decide +kernel
theorem dX7_meet_22 : decode cX7_meet 22 = .ok (.getfield 26, 3) := by decide +kernel
theorem dX7_meet_25 : decode cX7_meet 25 = .ok (.iload_n 2, 1) := by decide +kernel
theorem dX7_meet_26 : decode cX7_meet 26 = .ok (.iaload, 1) := by decide +kernel
theorem dX7_meet_27 : decode cX7_meet 27 = .ok (.bipush 16, 2) := by decide +kernel
theorem dX7_meet_29 : decode cX7_meet 29 = .ok (.idiv, 1) := by decide +kernel
theorem dX7_meet_30 : decode cX7_meet 30 = .ok (.istore 5, 2) := by decide +kernel
theorem dX7_meet_32 : decode cX7_meet 32 = .ok (.aload_n 0, 1) := by decide +kernel
theorem dX7_meet_33 : decode cX7_meet 33 = .ok (.getfield 29, 3) := by decide +kernel
theorem dX7_meet_36 : decode cX7_meet 36 = .ok (.iload_n 2, 1) := by decide +kernel
theorem dX7_meet_37 : decode cX7_meet 37 = .ok (.iaload, 1) := by decide +kernel
theorem dX7_meet_38 : decode cX7_meet 38 = .ok (.bipush 16, 2) := by decide +kernel
theorem dX7_meet_40 : decode cX7_meet 40 = .ok (.idiv, 1) := by decide +kernel
theorem dX7_meet_41 : decode cX7_meet 41 = .ok (.istore 6, 2) := by decide +kernel
theorem dX7_meet_43 : decode cX7_meet 43 = .ok (.iload_n 3, 1) := by decide +kernel
theorem dX7_meet_44 : decode cX7_meet 44 = .ok (.iload 5, 2) := by decide +kernel
theorem dX7_meet_46 : decode cX7_meet 46 = .ok (.if_icmp .eq 23, 3) := by decide +kernel
theorem dX7_meet_49 : decode cX7_meet 49 = .ok (.iload_n 3, 1) := by decide +kernel
theorem dX7_meet_50 : decode cX7_meet 50 = .ok (.iload 6, 2) := by decide +kernel
theorem dX7_meet_52 : decode cX7_meet 52 = .ok (.if_icmp .eq 17, 3) := by decide +kernel
theorem dX7_meet_55 : decode cX7_meet 55 = .ok (.iload 4, 2) := by decide +kernel
theorem dX7_meet_57 : decode cX7_meet 57 = .ok (.iload 5, 2) := by decide +kernel
theorem dX7_meet_59 : decode cX7_meet 59 = .ok (.if_icmp .eq 10, 3) := by decide +kernel
theorem dX7_meet_62 : decode cX7_meet 62 = .ok (.iload 4, 2) := by decide +kernel
theorem dX7_meet_64 : decode cX7_meet 64 = .ok (.iload 6, 2) := by decide +kernel
theorem dX7_meet_66 : decode cX7_meet 66 = .ok (.if_icmp .ne 7, 3) := by decide +kernel
theorem dX7_meet_69 : decode cX7_meet 69 = .ok (.iconst 1, 1) := by decide +kernel
theorem dX7_meet_70 : decode cX7_meet 70 = .ok (.goto 4, 3) := by decide +kernel
theorem dX7_meet_73 : decode cX7_meet 73 = .ok (.iconst 0, 1) := by decide +kernel
theorem dX7_meet_74 : decode cX7_meet 74 = .ok (.ireturn, 1) := by decide +kernel
set_option maxRecDepth 20000 in
theorem ggX7_colour_X7_isWire : GoodIn wsX7_colour wsX7_isWire := goodIn_r _ [7, 8, 15, 16, 17, 18, 19, 20, 21, 22, 23, 24, 25, 26, 27, 28, 29, 30, 31, 32, 33, 34, 35, 36, 37, 38, 39, 40, 41, 42, 43, 44, 45, 46, 47, 48] (by decide +kernel) (by decide +kernel)
set_option maxRecDepth 20000 in
theorem gX7_colour_X7_isWire : GoodIn wsX7_colour (wsV RX7 119 RX7 yX7_isWire wsX7_isWire) := goodIn_app (goodIn_of _ (by decide +kernel)) ggX7_colour_X7_isWire
set_option maxRecDepth 20000 in
theorem ggX7_colour_X7_meet : GoodIn wsX7_colour wsX7_meet := goodIn_ca (goodIn_r _ [12, 13, 14, 15, 16, 17, 18, 19, 20, 21, 22, 23, 24, 25, 26, 27, 28, 29, 30, 31, 32, 33, 34, 35, 36, 37, 38, 39, 40, 41, 42, 43, 44, 45, 46, 47, 48] (by decide +kernel) (by decide +kernel)) (goodIn_sub (fun _ h => List.mem_cons_of_mem _ (List.mem_append_right _ h)) (by decide +kernel))
set_option maxRecDepth 20000 in
theorem gX7_colour_X7_meet : GoodIn wsX7_colour (wsV RX7 162 RX7 yX7_meet wsX7_meet) := goodIn_app (goodIn_of _ (by decide +kernel)) ggX7_colour_X7_meet
theorem dX7_colour_0 : decode cX7_colour 0 = .ok (.aload_n 0, 1) := by decide +kernel
theorem dX7_colour_1 : decode cX7_colour 1 = .ok (.aload_n 0, 1) := by decide +kernel
theorem dX7_colour_2 : decode cX7_colour 2 = .ok (.iload_n 1, 1) := by decide +kernel
theorem dX7_colour_3 : decode cX7_colour 3 = .ok (.invokevirtual 119, 3) := by decide +kernel
theorem dX7_colour_6 : decode cX7_colour 6 = .ok (.ifCond .eq 7, 3) := by decide +kernel
theorem dX7_colour_9 : decode cX7_colour 9 = .ok (.iconst 0, 1) := by decide +kernel
theorem dX7_colour_10 : decode cX7_colour 10 = .ok (.goto 4, 3) := by decide +kernel
theorem dX7_colour_13 : decode cX7_colour 13 = .ok (.iconst 1, 1) := by decide +kernel
theorem dX7_colour_14 : decode cX7_colour 14 = .ok (.putfield 84, 3) := by decide +kernel
theorem dX7_colour_17 : decode cX7_colour 17 = .ok (.aload_n 0, 1) := by decide +kernel
theorem dX7_colour_18 : decode cX7_colour 18 = .ok (.getfield 84, 3) := by decide +kernel
theorem dX7_colour_21 : decode cX7_colour 21 = .ok (.ifCond .eq 5, 3) := by decide +kernel
theorem dX7_colour_24 : decode cX7_colour 24 = .ok (.iconst 0, 1) := by decide +kernel
theorem dX7_colour_25 : decode cX7_colour 25 = .ok (.ireturn, 1) := by decide +kernel
theorem dX7_colour_26 : decode cX7_colour 26 = .ok (.iconst 0, 1) := by decide +kernel
theorem dX7_colour_27 : decode cX7_colour 27 = .ok (.istore_n 2, 1) := by decide +kernel
theorem dX7_colour_28 : decode cX7_colour 28 = .ok (.iload_n 2, 1) := by decide +kernel
theorem dX7_colour_29 : decode cX7_colour 29 = .ok (.iload_n 1, 1) := by decide +kernel
theorem dX7_colour_30 : decode cX7_colour 30 = .ok (.if_icmp .gt 79, 3) := by decide +kernel
theorem dX7_colour_33 : decode cX7_colour 33 = .ok (.iconst 0, 1) := by decide +kernel
theorem dX7_colour_34 : decode cX7_colour 34 = .ok (.istore_n 3, 1) := by decide +kernel
theorem dX7_colour_35 : decode cX7_colour 35 = .ok (.iconst 0, 1) := by decide +kernel
theorem dX7_colour_36 : decode cX7_colour 36 = .ok (.istore 4, 2) := by decide +kernel
theorem dX7_colour_38 : decode cX7_colour 38 = .ok (.iload 4, 2) := by decide +kernel
theorem dX7_colour_40 : decode cX7_colour 40 = .ok (.iload_n 2, 1) := by decide +kernel
theorem dX7_colour_41 : decode cX7_colour 41 = .ok (.if_icmp .ge 35, 3) := by decide +kernel
theorem dX7_colour_44 : decode cX7_colour 44 = .ok (.aload_n 0, 1) := by decide +kernel
theorem dX7_colour_45 : decode cX7_colour 45 = .ok (.iload 4, 2) := by decide +kernel
theorem dX7_colour_47 : decode cX7_colour 47 = .ok (.iload_n 2, 1) := by decide +kernel
theorem dX7_colour_48 : decode cX7_colour 48 = .ok (.invokevirtual 162, 3) := by decide +kernel
theorem dX7_colour_51 : decode cX7_colour 51 = .ok (.ifCond .eq 17, 3) := by decide +kernel
theorem dX7_colour_54 : decode cX7_colour 54 = .ok (.iload_n 3, 1) := by decide +kernel
theorem dX7_colour_55 : decode cX7_colour 55 = .ok (.iconst 1, 1) := by decide +kernel
theorem dX7_colour_56 : decode cX7_colour 56 = .ok (.aload_n 0, 1) := by decide +kernel
theorem dX7_colour_57 : decode cX7_colour 57 = .ok (.getfield 67, 3) := by decide +kernel
theorem dX7_colour_60 : decode cX7_colour 60 = .ok (.iload 4, 2) := by decide +kernel
theorem dX7_colour_62 : decode cX7_colour 62 = .ok (.iaload, 1) := by decide +kernel
theorem dX7_colour_63 : decode cX7_colour 63 = .ok (.ishl, 1) := by decide +kernel
theorem dX7_colour_64 : decode cX7_colour 64 = .ok (.ior, 1) := by decide +kernel
theorem dX7_colour_65 : decode cX7_colour 65 = .ok (.goto 4, 3) := by decide +kernel
theorem dX7_colour_68 : decode cX7_colour 68 = .ok (.iload_n 3, 1) := by decide +kernel
theorem dX7_colour_69 : decode cX7_colour 69 = .ok (.istore_n 3, 1) := by decide +kernel
theorem dX7_colour_70 : decode cX7_colour 70 = .ok (.iinc 4 1, 3) := by decide +kernel
theorem dX7_colour_73 : decode cX7_colour 73 = .ok (.goto (-35), 3) := by decide +kernel
theorem dX7_colour_76 : decode cX7_colour 76 = .ok (.iconst 0, 1) := by decide +kernel
theorem dX7_colour_77 : decode cX7_colour 77 = .ok (.istore 4, 2) := by decide +kernel
theorem dX7_colour_79 : decode cX7_colour 79 = .ok (.iload_n 3, 1) := by decide +kernel
theorem dX7_colour_80 : decode cX7_colour 80 = .ok (.iload 4, 2) := by decide +kernel
theorem dX7_colour_82 : decode cX7_colour 82 = .ok (.ishr, 1) := by decide +kernel
theorem dX7_colour_83 : decode cX7_colour 83 = .ok (.iconst 1, 1) := by decide +kernel
theorem dX7_colour_84 : decode cX7_colour 84 = .ok (.iand, 1) := by decide +kernel
theorem dX7_colour_85 : decode cX7_colour 85 = .ok (.iconst 1, 1) := by decide +kernel
theorem dX7_colour_86 : decode cX7_colour 86 = .ok (.if_icmp .ne 9, 3) := by decide +kernel
theorem dX7_colour_89 : decode cX7_colour 89 = .ok (.iinc 4 1, 3) := by decide +kernel
theorem dX7_colour_92 : decode cX7_colour 92 = .ok (.goto (-13), 3) := by decide +kernel
theorem dX7_colour_95 : decode cX7_colour 95 = .ok (.aload_n 0, 1) := by decide +kernel
theorem dX7_colour_96 : decode cX7_colour 96 = .ok (.getfield 67, 3) := by decide +kernel
theorem dX7_colour_99 : decode cX7_colour 99 = .ok (.iload_n 2, 1) := by decide +kernel
theorem dX7_colour_100 : decode cX7_colour 100 = .ok (.iload 4, 2) := by decide +kernel
theorem dX7_colour_102 : decode cX7_colour 102 = .ok (.iastore, 1) := by decide +kernel
theorem dX7_colour_103 : decode cX7_colour 103 = .ok (.iinc 2 1, 3) := by decide +kernel
theorem dX7_colour_106 : decode cX7_colour 106 = .ok (.goto (-78), 3) := by decide +kernel
theorem dX7_colour_109 : decode cX7_colour 109 = .ok (.aload_n 0, 1) := by decide +kernel
theorem dX7_colour_110 : decode cX7_colour 110 = .ok (.getfield 67, 3) := by decide +kernel
theorem dX7_colour_113 : decode cX7_colour 113 = .ok (.iload_n 1, 1) := by decide +kernel
theorem dX7_colour_114 : decode cX7_colour 114 = .ok (.iaload, 1) := by decide +kernel
theorem dX7_colour_115 : decode cX7_colour 115 = .ok (.ireturn, 1) := by decide +kernel
theorem dX7_variant_0 : decode cX7_variant 0 = .ok (.aload_n 0, 1) := by decide +kernel
theorem dX7_variant_1 : decode cX7_variant 1 = .ok (.iconst 0, 1) := by decide +kernel
theorem dX7_variant_2 : decode cX7_variant 2 = .ok (.putfield 84, 3) := by decide +kernel
theorem dX7_variant_5 : decode cX7_variant 5 = .ok (.aload_n 0, 1) := by decide +kernel
theorem dX7_variant_6 : decode cX7_variant 6 = .ok (.getfield 165, 3) := by decide +kernel
theorem dX7_variant_9 : decode cX7_variant 9 = .ok (.bipush 6, 2) := by decide +kernel
theorem dX7_variant_11 : decode cX7_variant 11 = .ok (.if_icmp .ne 5, 3) := by decide +kernel
theorem dX7_variant_14 : decode cX7_variant 14 = .ok (.iconst (-1), 1) := by decide +kernel
theorem dX7_variant_15 : decode cX7_variant 15 = .ok (.ireturn, 1) := by decide +kernel
theorem dX7_variant_16 : decode cX7_variant 16 = .ok (.aload_n 0, 1) := by decide +kernel
theorem dX7_variant_17 : decode cX7_variant 17 = .ok (.dup, 1) := by decide +kernel
theorem dX7_variant_18 : decode cX7_variant 18 = .ok (.getfield 165, 3) := by decide +kernel
theorem dX7_variant_21 : decode cX7_variant 21 = .ok (.iconst 1, 1) := by decide +kernel
theorem dX7_variant_22 : decode cX7_variant 22 = .ok (.iadd, 1) := by decide +kernel
theorem dX7_variant_23 : decode cX7_variant 23 = .ok (.putfield 165, 3) := by decide +kernel
theorem dX7_variant_26 : decode cX7_variant 26 = .ok (.aload_n 0, 1) := by decide +kernel
theorem dX7_variant_27 : decode cX7_variant 27 = .ok (.getfield 165, 3) := by decide +kernel
theorem dX7_variant_30 : decode cX7_variant 30 = .ok (.iconst 1, 1) := by decide +kernel
theorem dX7_variant_31 : decode cX7_variant 31 = .ok (.isub, 1) := by decide +kernel
theorem dX7_variant_32 : decode cX7_variant 32 = .ok (.ireturn, 1) := by decide +kernel
theorem dX7_isOn_0 : decode cX7_isOn 0 = .ok (.iload_n 1, 1) := by decide +kernel
theorem dX7_isOn_1 : decode cX7_isOn 1 = .ok (.istore_n 3, 1) := by decide +kernel
theorem dX7_isOn_2 : decode cX7_isOn 2 = .ok (.iload_n 3, 1) := by decide +kernel
theorem dX7_isOn_3 : decode cX7_isOn 3 = .ok (.ifCond .lt 23, 3) := by decide +kernel
theorem dX7_isOn_6 : decode cX7_isOn 6 = .ok (.aload_n 0, 1) := by decide +kernel
theorem dX7_isOn_7 : decode cX7_isOn 7 = .ok (.getfield 70, 3) := by decide +kernel
theorem dX7_isOn_10 : decode cX7_isOn 10 = .ok (.bipush 24, 2) := by decide +kernel
theorem dX7_isOn_12 : decode cX7_isOn 12 = .ok (.iload_n 3, 1) := by decide +kernel
theorem dX7_isOn_13 : decode cX7_isOn 13 = .ok (.imul, 1) := by decide +kernel
theorem dX7_isOn_14 : decode cX7_isOn 14 = .ok (.iload_n 2, 1) := by decide +kernel
theorem dX7_isOn_15 : decode cX7_isOn 15 = .ok (.iadd, 1) := by decide +kernel
theorem dX7_isOn_16 : decode cX7_isOn 16 = .ok (.iaload, 1) := by decide +kernel
theorem dX7_isOn_17 : decode cX7_isOn 17 = .ok (.ifCond .ne 9, 3) := by decide +kernel
theorem dX7_isOn_20 : decode cX7_isOn 20 = .ok (.iinc 3 (-1), 3) := by decide +kernel
theorem dX7_isOn_23 : decode cX7_isOn 23 = .ok (.goto (-21), 3) := by decide +kernel
theorem dX7_isOn_26 : decode cX7_isOn 26 = .ok (.iload_n 3, 1) := by decide +kernel
theorem dX7_isOn_27 : decode cX7_isOn 27 = .ok (.ifCond .lt 18, 3) := by decide +kernel
theorem dX7_isOn_30 : decode cX7_isOn 30 = .ok (.aload_n 0, 1) := by decide +kernel
theorem dX7_isOn_31 : decode cX7_isOn 31 = .ok (.getfield 70, 3) := by decide +kernel
theorem dX7_isOn_34 : decode cX7_isOn 34 = .ok (.bipush 24, 2) := by decide +kernel
theorem dX7_isOn_36 : decode cX7_isOn 36 = .ok (.iload_n 3, 1) := by decide +kernel
theorem dX7_isOn_37 : decode cX7_isOn 37 = .ok (.imul, 1) := by decide +kernel
theorem dX7_isOn_38 : decode cX7_isOn 38 = .ok (.iload_n 2, 1) := by decide +kernel
theorem dX7_isOn_39 : decode cX7_isOn 39 = .ok (.iadd, 1) := by decide +kernel
theorem dX7_isOn_40 : decode cX7_isOn 40 = .ok (.iaload, 1) := by decide +kernel
theorem dX7_isOn_41 : decode cX7_isOn 41 = .ok (.iconst 1, 1) := by decide +kernel
theorem dX7_isOn_42 : decode cX7_isOn 42 = .ok (.if_icmp .ne 7, 3) := by decide +kernel
theorem dX7_isOn_45 : decode cX7_isOn 45 = .ok (.iconst 1, 1) := by decide +kernel
theorem dX7_isOn_46 : decode cX7_isOn 46 = .ok (.goto 4, 3) := by decide +kernel
theorem dX7_isOn_49 : decode cX7_isOn 49 = .ok (.iconst 0, 1) := by decide +kernel
theorem dX7_isOn_50 : decode cX7_isOn 50 = .ok (.ireturn, 1) := by decide +kernel
set_option maxRecDepth 20000 in
theorem ggX7_has_X7_isWire : GoodIn wsX7_has wsX7_isWire := goodIn_r _ [8, 9, 14, 15, 16, 17, 18, 19, 20, 21, 22, 23, 24, 25, 26, 27, 28, 29, 30, 31, 32, 33, 34, 35, 36, 37, 38, 39, 40, 41, 42, 43, 44, 45, 46, 47] (by decide +kernel) (by decide +kernel)
set_option maxRecDepth 20000 in
theorem gX7_has_X7_isWire : GoodIn wsX7_has (wsV RX7 119 RX7 yX7_isWire wsX7_isWire) := goodIn_app (goodIn_of _ (by decide +kernel)) ggX7_has_X7_isWire
set_option maxRecDepth 20000 in
theorem ggX7_has_X7_isOn : GoodIn wsX7_has wsX7_isOn := goodIn_ca (goodIn_r _ [13, 3, 14, 15, 16, 17, 18, 19, 20, 21, 22, 23, 24, 25, 26, 27, 28, 29, 30, 31, 32, 33, 34, 35, 36, 37, 38, 39, 40, 41, 42, 43, 44, 45, 46, 47] (by decide +kernel) (by decide +kernel)) (goodIn_sub (fun _ h => List.mem_cons_of_mem _ (List.mem_append_right _ h)) (by decide +kernel))
set_option maxRecDepth 20000 in
theorem gX7_has_X7_isOn : GoodIn wsX7_has (wsV RX7 168 RX7 yX7_isOn wsX7_isOn) := goodIn_app (goodIn_of _ (by decide +kernel)) ggX7_has_X7_isOn
theorem dX7_has_0 : decode cX7_has 0 = .ok (.aload_n 0, 1) := by decide +kernel
theorem dX7_has_1 : decode cX7_has 1 = .ok (.iload_n 1, 1) := by decide +kernel
theorem dX7_has_2 : decode cX7_has 2 = .ok (.ifCond .lt 23, 3) := by decide +kernel
theorem dX7_has_5 : decode cX7_has 5 = .ok (.iload_n 1, 1) := by decide +kernel
theorem dX7_has_6 : decode cX7_has 6 = .ok (.aload_n 0, 1) := by decide +kernel
theorem dX7_has_7 : decode cX7_has 7 = .ok (.getfield 165, 3) := by decide +kernel
theorem dX7_has_10 : decode cX7_has 10 = .ok (.if_icmp .ge 15, 3) := by decide +kernel
theorem dX7_has_13 : decode cX7_has 13 = .ok (.aload_n 0, 1) := by decide +kernel
theorem dX7_has_14 : decode cX7_has 14 = .ok (.iload_n 2, 1) := by decide +kernel
theorem dX7_has_15 : decode cX7_has 15 = .ok (.invokevirtual 119, 3) := by decide +kernel
theorem dX7_has_18 : decode cX7_has 18 = .ok (.ifCond .eq 7, 3) := by decide +kernel
theorem dX7_has_21 : decode cX7_has 21 = .ok (.iconst 0, 1) := by decide +kernel
theorem dX7_has_22 : decode cX7_has 22 = .ok (.goto 4, 3) := by decide +kernel
theorem dX7_has_25 : decode cX7_has 25 = .ok (.iconst 1, 1) := by decide +kernel
theorem dX7_has_26 : decode cX7_has 26 = .ok (.putfield 84, 3) := by decide +kernel
theorem dX7_has_29 : decode cX7_has 29 = .ok (.aload_n 0, 1) := by decide +kernel
theorem dX7_has_30 : decode cX7_has 30 = .ok (.getfield 84, 3) := by decide +kernel
theorem dX7_has_33 : decode cX7_has 33 = .ok (.ifCond .eq 5, 3) := by decide +kernel
theorem dX7_has_36 : decode cX7_has 36 = .ok (.iconst 0, 1) := by decide +kernel
theorem dX7_has_37 : decode cX7_has 37 = .ok (.ireturn, 1) := by decide +kernel
theorem dX7_has_38 : decode cX7_has 38 = .ok (.aload_n 0, 1) := by decide +kernel
theorem dX7_has_39 : decode cX7_has 39 = .ok (.iload_n 1, 1) := by decide +kernel
theorem dX7_has_40 : decode cX7_has 40 = .ok (.iload_n 2, 1) := by decide +kernel
theorem dX7_has_41 : decode cX7_has 41 = .ok (.invokevirtual 168, 3) := by decide +kernel
theorem dX7_has_44 : decode cX7_has 44 = .ok (.iload_n 3, 1) := by decide +kernel
theorem dX7_has_45 : decode cX7_has 45 = .ok (.if_icmp .eq 7, 3) := by decide +kernel
theorem dX7_has_48 : decode cX7_has 48 = .ok (.iconst 1, 1) := by decide +kernel
theorem dX7_has_49 : decode cX7_has 49 = .ok (.goto 4, 3) := by decide +kernel
theorem dX7_has_52 : decode cX7_has 52 = .ok (.iconst 0, 1) := by decide +kernel
theorem dX7_has_53 : decode cX7_has 53 = .ok (.istore 4, 2) := by decide +kernel
theorem dX7_has_55 : decode cX7_has 55 = .ok (.aload_n 0, 1) := by decide +kernel
theorem dX7_has_56 : decode cX7_has 56 = .ok (.getfield 70, 3) := by decide +kernel
theorem dX7_has_59 : decode cX7_has 59 = .ok (.bipush 24, 2) := by decide +kernel
theorem dX7_has_61 : decode cX7_has 61 = .ok (.iload_n 1, 1) := by decide +kernel
theorem dX7_has_62 : decode cX7_has 62 = .ok (.imul, 1) := by decide +kernel
theorem dX7_has_63 : decode cX7_has 63 = .ok (.iload_n 2, 1) := by decide +kernel
theorem dX7_has_64 : decode cX7_has 64 = .ok (.iadd, 1) := by decide +kernel
theorem dX7_has_65 : decode cX7_has 65 = .ok (.iload_n 3, 1) := by decide +kernel
theorem dX7_has_66 : decode cX7_has 66 = .ok (.ifCond .eq 7, 3) := by decide +kernel
theorem dX7_has_69 : decode cX7_has 69 = .ok (.iconst 1, 1) := by decide +kernel
theorem dX7_has_70 : decode cX7_has 70 = .ok (.goto 4, 3) := by decide +kernel
theorem dX7_has_73 : decode cX7_has 73 = .ok (.iconst 2, 1) := by decide +kernel
theorem dX7_has_74 : decode cX7_has 74 = .ok (.iastore, 1) := by decide +kernel
theorem dX7_has_75 : decode cX7_has 75 = .ok (.iload 4, 2) := by decide +kernel
theorem dX7_has_77 : decode cX7_has 77 = .ok (.ireturn, 1) := by decide +kernel
set_option maxRecDepth 20000 in
theorem ggX7_told_X7_isOn : GoodIn wsX7_told wsX7_isOn := goodIn_ca (goodIn_r _ [10, 11, 12, 13, 14, 15, 16, 17, 18, 19, 20, 21, 22, 23, 24, 25, 26, 27, 28, 29, 30, 31, 32, 33, 34, 35, 36, 37, 38, 39, 40, 41, 42, 43, 44, 45] (by decide +kernel) (by decide +kernel)) (goodIn_sub (fun _ h => List.mem_cons_of_mem _ (List.mem_append_right _ h)) (by decide +kernel))
set_option maxRecDepth 20000 in
theorem gX7_told_X7_isOn : GoodIn wsX7_told (wsV RX7 168 RX7 yX7_isOn wsX7_isOn) := goodIn_app (goodIn_of _ (by decide +kernel)) ggX7_told_X7_isOn
theorem dX7_told_0 : decode cX7_told 0 = .ok (.aload_n 0, 1) := by decide +kernel
theorem dX7_told_1 : decode cX7_told 1 = .ok (.iload_n 2, 1) := by decide +kernel
theorem dX7_told_2 : decode cX7_told 2 = .ok (.ifCond .eq 8, 3) := by decide +kernel
theorem dX7_told_5 : decode cX7_told 5 = .ok (.iload_n 2, 1) := by decide +kernel
theorem dX7_told_6 : decode cX7_told 6 = .ok (.iconst 1, 1) := by decide +kernel
theorem dX7_told_7 : decode cX7_told 7 = .ok (.if_icmp .ne 7, 3) := by decide +kernel
theorem dX7_told_10 : decode cX7_told 10 = .ok (.iconst 0, 1) := by decide +kernel
theorem dX7_told_11 : decode cX7_told 11 = .ok (.goto 4, 3) := by decide +kernel
theorem dX7_told_14 : decode cX7_told 14 = .ok (.iconst 1, 1) := by decide +kernel
theorem dX7_told_15 : decode cX7_told 15 = .ok (.putfield 84, 3) := by decide +kernel
theorem dX7_told_18 : decode cX7_told 18 = .ok (.aload_n 0, 1) := by decide +kernel
theorem dX7_told_19 : decode cX7_told 19 = .ok (.getfield 84, 3) := by decide +kernel
theorem dX7_told_22 : decode cX7_told 22 = .ok (.ifCond .eq 5, 3) := by decide +kernel
theorem dX7_told_25 : decode cX7_told 25 = .ok (.iconst 0, 1) := by decide +kernel
theorem dX7_told_26 : decode cX7_told 26 = .ok (.ireturn, 1) := by decide +kernel
theorem dX7_told_27 : decode cX7_told 27 = .ok (.iload_n 1, 1) := by decide +kernel
theorem dX7_told_28 : decode cX7_told 28 = .ok (.istore_n 3, 1) := by decide +kernel
theorem dX7_told_29 : decode cX7_told 29 = .ok (.iconst 0, 1) := by decide +kernel
theorem dX7_told_30 : decode cX7_told 30 = .ok (.istore 4, 2) := by decide +kernel
theorem dX7_told_32 : decode cX7_told 32 = .ok (.iload 4, 2) := by decide +kernel
theorem dX7_told_34 : decode cX7_told 34 = .ok (.aload_n 0, 1) := by decide +kernel
theorem dX7_told_35 : decode cX7_told 35 = .ok (.getfield 95, 3) := by decide +kernel
theorem dX7_told_38 : decode cX7_told 38 = .ok (.if_icmp .ge 67, 3) := by decide +kernel
theorem dX7_told_41 : decode cX7_told 41 = .ok (.iload_n 1, 1) := by decide +kernel
theorem dX7_told_42 : decode cX7_told 42 = .ok (.ifCond .lt 63, 3) := by decide +kernel
theorem dX7_told_45 : decode cX7_told 45 = .ok (.aload_n 0, 1) := by decide +kernel
theorem dX7_told_46 : decode cX7_told 46 = .ok (.getfield 165, 3) := by decide +kernel
theorem dX7_told_49 : decode cX7_told 49 = .ok (.ifCond .le 56, 3) := by decide +kernel
theorem dX7_told_52 : decode cX7_told 52 = .ok (.aload_n 0, 1) := by decide +kernel
theorem dX7_told_53 : decode cX7_told 53 = .ok (.aload_n 0, 1) := by decide +kernel
theorem dX7_told_54 : decode cX7_told 54 = .ok (.getfield 165, 3) := by decide +kernel
theorem dX7_told_57 : decode cX7_told 57 = .ok (.iconst 1, 1) := by decide +kernel
theorem dX7_told_58 : decode cX7_told 58 = .ok (.isub, 1) := by decide +kernel
theorem dX7_told_59 : decode cX7_told 59 = .ok (.iload 4, 2) := by decide +kernel
theorem dX7_told_61 : decode cX7_told 61 = .ok (.invokevirtual 168, 3) := by decide +kernel
theorem dX7_told_64 : decode cX7_told 64 = .ok (.ifCond .eq 6, 3) := by decide +kernel
theorem dX7_told_67 : decode cX7_told 67 = .ok (.goto 32, 3) := by decide +kernel
theorem dX7_told_70 : decode cX7_told 70 = .ok (.iload_n 3, 1) := by decide +kernel
theorem dX7_told_71 : decode cX7_told 71 = .ok (.ifCond .ne 25, 3) := by decide +kernel
theorem dX7_told_74 : decode cX7_told 74 = .ok (.iload_n 2, 1) := by decide +kernel
theorem dX7_told_75 : decode cX7_told 75 = .ok (.ifCond .ne 13, 3) := by decide +kernel
theorem dX7_told_78 : decode cX7_told 78 = .ok (.aload_n 0, 1) := by decide +kernel
theorem dX7_told_79 : decode cX7_told 79 = .ok (.getfield 26, 3) := by decide +kernel
theorem dX7_told_82 : decode cX7_told 82 = .ok (.iload 4, 2) := by decide +kernel
theorem dX7_told_84 : decode cX7_told 84 = .ok (.iaload, 1) := by decide +kernel
theorem dX7_told_85 : decode cX7_told 85 = .ok (.goto 10, 3) := by decide +kernel
theorem dX7_told_88 : decode cX7_told 88 = .ok (.aload_n 0, 1) := by decide +kernel
theorem dX7_told_89 : decode cX7_told 89 = .ok (.getfield 29, 3) := by decide +kernel
theorem dX7_told_92 : decode cX7_told 92 = .ok (.iload 4, 2) := by decide +kernel
theorem dX7_told_94 : decode cX7_told 94 = .ok (.iaload, 1) := by decide +kernel
theorem dX7_told_95 : decode cX7_told 95 = .ok (.ireturn, 1) := by decide +kernel
theorem dX7_told_96 : decode cX7_told 96 = .ok (.iinc 3 (-1), 3) := by decide +kernel
theorem dX7_told_99 : decode cX7_told 99 = .ok (.iinc 4 1, 3) := by decide +kernel
theorem dX7_told_102 : decode cX7_told 102 = .ok (.goto (-70), 3) := by decide +kernel
theorem dX7_told_105 : decode cX7_told 105 = .ok (.iconst (-1), 1) := by decide +kernel
theorem dX7_told_106 : decode cX7_told 106 = .ok (.ireturn, 1) := by decide +kernel
theorem dX7_say_0 : decode cX7_say 0 = .ok (.aload_n 0, 1) := by decide +kernel
theorem dX7_say_1 : decode cX7_say 1 = .ok (.getfield 171, 3) := by decide +kernel
theorem dX7_say_4 : decode cX7_say 4 = .ok (.aload_n 0, 1) := by decide +kernel
theorem dX7_say_5 : decode cX7_say 5 = .ok (.getfield 174, 3) := by decide +kernel
theorem dX7_say_8 : decode cX7_say 8 = .ok (.if_icmp .ne 8, 3) := by decide +kernel
theorem dX7_say_11 : decode cX7_say 11 = .ok (.aload_n 0, 1) := by decide +kernel
theorem dX7_say_12 : decode cX7_say 12 = .ok (.iload_n 1, 1) := by decide +kernel
theorem dX7_say_13 : decode cX7_say 13 = .ok (.putfield 177, 3) := by decide +kernel
theorem dX7_say_16 : decode cX7_say 16 = .ok (.aload_n 0, 1) := by decide +kernel
theorem dX7_say_17 : decode cX7_say 17 = .ok (.dup, 1) := by decide +kernel
theorem dX7_say_18 : decode cX7_say 18 = .ok (.getfield 171, 3) := by decide +kernel
theorem dX7_say_21 : decode cX7_say 21 = .ok (.iconst 1, 1) := by decide +kernel
theorem dX7_say_22 : decode cX7_say 22 = .ok (.iadd, 1) := by decide +kernel
theorem dX7_say_23 : decode cX7_say 23 = .ok (.putfield 171, 3) := by decide +kernel
theorem dX7_say_26 : decode cX7_say 26 = .ok (.return_, 1) := by decide +kernel
set_option maxRecDepth 20000 in
theorem ggX7_sayNumber_X7_say : GoodIn wsX7_sayNumber wsX7_say := goodIn_r _ [6, 7, 8, 9, 10, 11, 12, 13, 14, 15, 16, 17, 18, 19, 20, 21, 22, 23, 24, 25, 26, 27, 28, 29, 30, 31, 32, 33, 34, 35, 36, 37, 38, 39, 40, 41, 42, 43] (by decide +kernel) (by decide +kernel)
set_option maxRecDepth 20000 in
theorem gX7_sayNumber_X7_say : GoodIn wsX7_sayNumber (wsV RX7 182 RX7 yX7_say wsX7_say) := goodIn_app (goodIn_of _ (by decide +kernel)) ggX7_sayNumber_X7_say
theorem dX7_sayNumber_0 : decode cX7_sayNumber 0 = .ok (.lconst 1, 1) := by decide +kernel
theorem dX7_sayNumber_1 : decode cX7_sayNumber 1 = .ok (.lstore_n 3, 1) := by decide +kernel
theorem dX7_sayNumber_2 : decode cX7_sayNumber 2 = .ok (.lload_n 1, 1) := by decide +kernel
theorem dX7_sayNumber_3 : decode cX7_sayNumber 3 = .ok (.lload_n 3, 1) := by decide +kernel
theorem dX7_sayNumber_4 : decode cX7_sayNumber 4 = .ok (.ldiv, 1) := by decide +kernel
theorem dX7_sayNumber_5 : decode cX7_sayNumber 5 = .ok (.ldc2_w 180, 3) := by decide +kernel
theorem dX7_sayNumber_8 : decode cX7_sayNumber 8 = .ok (.lcmp, 1) := by decide +kernel
theorem dX7_sayNumber_9 : decode cX7_sayNumber 9 = .ok (.ifCond .lt 12, 3) := by decide +kernel
theorem dX7_sayNumber_12 : decode cX7_sayNumber 12 = .ok (.ldc2_w 180, 3) := by decide +kernel
theorem dX7_sayNumber_15 : decode cX7_sayNumber 15 = .ok (.lload_n 3, 1) := by decide +kernel
theorem dX7_sayNumber_16 : decode cX7_sayNumber 16 = .ok (.lmul, 1) := by decide +kernel
theorem dX7_sayNumber_17 : decode cX7_sayNumber 17 = .ok (.lstore_n 3, 1) := by decide +kernel
theorem dX7_sayNumber_18 : decode cX7_sayNumber 18 = .ok (.goto (-16), 3) := by decide +kernel
theorem dX7_sayNumber_21 : decode cX7_sayNumber 21 = .ok (.lload_n 3, 1) := by decide +kernel
theorem dX7_sayNumber_22 : decode cX7_sayNumber 22 = .ok (.lconst 0, 1) := by decide +kernel
theorem dX7_sayNumber_23 : decode cX7_sayNumber 23 = .ok (.lcmp, 1) := by decide +kernel
theorem dX7_sayNumber_24 : decode cX7_sayNumber 24 = .ok (.ifCond .le 27, 3) := by decide +kernel
theorem dX7_sayNumber_27 : decode cX7_sayNumber 27 = .ok (.aload_n 0, 1) := by decide +kernel
theorem dX7_sayNumber_28 : decode cX7_sayNumber 28 = .ok (.lload_n 1, 1) := by decide +kernel
theorem dX7_sayNumber_29 : decode cX7_sayNumber 29 = .ok (.lload_n 3, 1) := by decide +kernel
theorem dX7_sayNumber_30 : decode cX7_sayNumber 30 = .ok (.ldiv, 1) := by decide +kernel
theorem dX7_sayNumber_31 : decode cX7_sayNumber 31 = .ok (.ldc2_w 180, 3) := by decide +kernel
theorem dX7_sayNumber_34 : decode cX7_sayNumber 34 = .ok (.lrem, 1) := by decide +kernel
theorem dX7_sayNumber_35 : decode cX7_sayNumber 35 = .ok (.l2i, 1) := by decide +kernel
theorem dX7_sayNumber_36 : decode cX7_sayNumber 36 = .ok (.bipush 48, 2) := by decide +kernel
theorem dX7_sayNumber_38 : decode cX7_sayNumber 38 = .ok (.iadd, 1) := by decide +kernel
theorem dX7_sayNumber_39 : decode cX7_sayNumber 39 = .ok (.invokevirtual 182, 3) := by decide +kernel
theorem dX7_sayNumber_42 : decode cX7_sayNumber 42 = .ok (.lload_n 3, 1) := by decide +kernel
theorem dX7_sayNumber_43 : decode cX7_sayNumber 43 = .ok (.ldc2_w 180, 3) := by decide +kernel
theorem dX7_sayNumber_46 : decode cX7_sayNumber 46 = .ok (.ldiv, 1) := by decide +kernel
theorem dX7_sayNumber_47 : decode cX7_sayNumber 47 = .ok (.lstore_n 3, 1) := by decide +kernel
theorem dX7_sayNumber_48 : decode cX7_sayNumber 48 = .ok (.goto (-27), 3) := by decide +kernel
theorem dX7_sayNumber_51 : decode cX7_sayNumber 51 = .ok (.return_, 1) := by decide +kernel
set_option maxRecDepth 20000 in
theorem ggX7_sayNode_X7_say : GoodIn wsX7_sayNode wsX7_say := goodIn_r _ [6, 7, 8, 9, 15, 16, 17, 18, 19, 20, 21, 22, 23, 24, 25, 26, 27, 28, 29, 30, 31, 32, 33, 34, 35, 36, 37, 38, 39, 40, 41, 42, 43, 44, 45, 46, 47, 48] (by decide +kernel) (by decide +kernel)
set_option maxRecDepth 20000 in
theorem gX7_sayNode_X7_say : GoodIn wsX7_sayNode (wsV RX7 182 RX7 yX7_say wsX7_say) := goodIn_app (goodIn_of _ (by decide +kernel)) ggX7_sayNode_X7_say
set_option maxRecDepth 20000 in
theorem ggX7_sayNode_X7_sayNumber : GoodIn wsX7_sayNode wsX7_sayNumber := goodIn_r _ [13, 14, 2, 3, 4, 5, 6, 7, 8, 9, 15, 16, 17, 18, 19, 20, 21, 22, 23, 24, 25, 26, 27, 28, 29, 30, 31, 32, 33, 34, 35, 36, 37, 38, 39, 40, 41, 42, 43, 44, 45, 46, 47, 48] (by decide +kernel) (by decide +kernel)
set_option maxRecDepth 20000 in
theorem gX7_sayNode_X7_sayNumber : GoodIn wsX7_sayNode (wsV RX7 186 RX7 yX7_sayNumber wsX7_sayNumber) := goodIn_app (goodIn_of _ (by decide +kernel)) ggX7_sayNode_X7_sayNumber
theorem dX7_sayNode_0 : decode cX7_sayNode 0 = .ok (.aload_n 0, 1) := by decide +kernel
theorem dX7_sayNode_1 : decode cX7_sayNode 1 = .ok (.aload_n 0, 1) := by decide +kernel
theorem dX7_sayNode_2 : decode cX7_sayNode 2 = .ok (.getfield 7, 3) := by decide +kernel
theorem dX7_sayNode_5 : decode cX7_sayNode 5 = .ok (.iload_n 1, 1) := by decide +kernel
theorem dX7_sayNode_6 : decode cX7_sayNode 6 = .ok (.iaload, 1) := by decide +kernel
theorem dX7_sayNode_7 : decode cX7_sayNode 7 = .ok (.ifCond .le 8, 3) := by decide +kernel
theorem dX7_sayNode_10 : decode cX7_sayNode 10 = .ok (.bipush 67, 2) := by decide +kernel
theorem dX7_sayNode_12 : decode cX7_sayNode 12 = .ok (.goto 5, 3) := by decide +kernel
theorem dX7_sayNode_15 : decode cX7_sayNode 15 = .ok (.bipush 78, 2) := by decide +kernel
theorem dX7_sayNode_17 : decode cX7_sayNode 17 = .ok (.invokevirtual 182, 3) := by decide +kernel
theorem dX7_sayNode_20 : decode cX7_sayNode 20 = .ok (.aload_n 0, 1) := by decide +kernel
theorem dX7_sayNode_21 : decode cX7_sayNode 21 = .ok (.iload_n 1, 1) := by decide +kernel
theorem dX7_sayNode_22 : decode cX7_sayNode 22 = .ok (.i2l, 1) := by decide +kernel
theorem dX7_sayNode_23 : decode cX7_sayNode 23 = .ok (.invokevirtual 186, 3) := by decide +kernel
theorem dX7_sayNode_26 : decode cX7_sayNode 26 = .ok (.return_, 1) := by decide +kernel
set_option maxRecDepth 20000 in
theorem ggX7_command_X7_sayNode : GoodIn wsX7_command wsX7_sayNode := goodIn_ca (goodIn_r _ [13, 14, 15, 16, 17, 12, 18, 4, 3, 5, 19, 20, 21, 22, 23, 24, 25, 26, 27, 28, 29, 30, 31, 32, 33, 34, 35, 36, 37, 38, 39, 40, 41, 42, 43, 44, 45, 46, 47, 48, 49, 50, 51, 52, 53, 54, 55, 56, 57] (by decide +kernel) (by decide +kernel)) (goodIn_sub (fun _ h => List.mem_cons_of_mem _ (List.mem_append_right _ h)) (by decide +kernel))
set_option maxRecDepth 20000 in
theorem gX7_command_X7_sayNode : GoodIn wsX7_command (wsV RX7 190 RX7 yX7_sayNode wsX7_sayNode) := goodIn_app (goodIn_of _ (by decide +kernel)) ggX7_command_X7_sayNode
set_option maxRecDepth 20000 in
theorem ggX7_command_X7_say : GoodIn wsX7_command wsX7_say := goodIn_r _ [18, 4, 3, 5, 24, 25, 26, 27, 28, 29, 30, 31, 32, 33, 34, 35, 36, 37, 38, 39, 40, 41, 42, 43, 44, 45, 46, 47, 48, 49, 50, 51, 52, 53, 54, 55, 56, 57] (by decide +kernel) (by decide +kernel)
set_option maxRecDepth 20000 in
theorem gX7_command_X7_say : GoodIn wsX7_command (wsV RX7 182 RX7 yX7_say wsX7_say) := goodIn_app (goodIn_of _ (by decide +kernel)) ggX7_command_X7_say
set_option maxRecDepth 20000 in
theorem ggX7_command_X7_sayNumber : GoodIn wsX7_command wsX7_sayNumber := goodIn_r _ [22, 23, 15, 16, 17, 12, 18, 4, 3, 5, 24, 25, 26, 27, 28, 29, 30, 31, 32, 33, 34, 35, 36, 37, 38, 39, 40, 41, 42, 43, 44, 45, 46, 47, 48, 49, 50, 51, 52, 53, 54, 55, 56, 57] (by decide +kernel) (by decide +kernel)
set_option maxRecDepth 20000 in
theorem gX7_command_X7_sayNumber : GoodIn wsX7_command (wsV RX7 186 RX7 yX7_sayNumber wsX7_sayNumber) := goodIn_app (goodIn_of _ (by decide +kernel)) ggX7_command_X7_sayNumber
theorem dX7_command_0 : decode cX7_command 0 = .ok (.aload_n 0, 1) := by decide +kernel
theorem dX7_command_1 : decode cX7_command 1 = .ok (.iload_n 1, 1) := by decide +kernel
theorem dX7_command_2 : decode cX7_command 2 = .ok (.ifCond .lt 19, 3) := by decide +kernel
theorem dX7_command_5 : decode cX7_command 5 = .ok (.iload_n 1, 1) := by decide +kernel
theorem dX7_command_6 : decode cX7_command 6 = .ok (.aload_n 0, 1) := by decide +kernel
theorem dX7_command_7 : decode cX7_command 7 = .ok (.getfield 110, 3) := by decide +kernel
theorem dX7_command_10 : decode cX7_command 10 = .ok (.if_icmp .ge 11, 3) := by decide +kernel
theorem dX7_command_13 : decode cX7_command 13 = .ok (.iload_n 2, 1) := by decide +kernel
theorem dX7_command_14 : decode cX7_command 14 = .ok (.ifCond .lt 7, 3) := by decide +kernel
theorem dX7_command_17 : decode cX7_command 17 = .ok (.iconst 0, 1) := by decide +kernel
theorem dX7_command_18 : decode cX7_command 18 = .ok (.goto 4, 3) := by decide +kernel
theorem dX7_command_21 : decode cX7_command 21 = .ok (.iconst 1, 1) := by decide +kernel
theorem dX7_command_22 : decode cX7_command 22 = .ok (.putfield 84, 3) := by decide +kernel
theorem dX7_command_25 : decode cX7_command 25 = .ok (.aload_n 0, 1) := by decide +kernel
theorem dX7_command_26 : decode cX7_command 26 = .ok (.getfield 84, 3) := by decide +kernel
theorem dX7_command_29 : decode cX7_command 29 = .ok (.ifCond .eq 5, 3) := by decide +kernel
theorem dX7_command_32 : decode cX7_command 32 = .ok (.iconst 0, 1) := by decide +kernel
theorem dX7_command_33 : decode cX7_command 33 = .ok (.ireturn, 1) := by decide +kernel
theorem dX7_command_34 : decode cX7_command 34 = .ok (.aload_n 0, 1) := by decide +kernel
theorem dX7_command_35 : decode cX7_command 35 = .ok (.iload_n 2, 1) := by decide +kernel
theorem dX7_command_36 : decode cX7_command 36 = .ok (.putfield 174, 3) := by decide +kernel
theorem dX7_command_39 : decode cX7_command 39 = .ok (.aload_n 0, 1) := by decide +kernel
theorem dX7_command_40 : decode cX7_command 40 = .ok (.iconst 0, 1) := by decide +kernel
theorem dX7_command_41 : decode cX7_command 41 = .ok (.putfield 171, 3) := by decide +kernel
theorem dX7_command_44 : decode cX7_command 44 = .ok (.aload_n 0, 1) := by decide +kernel
theorem dX7_command_45 : decode cX7_command 45 = .ok (.iconst (-1), 1) := by decide +kernel
theorem dX7_command_46 : decode cX7_command 46 = .ok (.putfield 177, 3) := by decide +kernel
theorem dX7_command_49 : decode cX7_command 49 = .ok (.aload_n 0, 1) := by decide +kernel
theorem dX7_command_50 : decode cX7_command 50 = .ok (.aload_n 0, 1) := by decide +kernel
theorem dX7_command_51 : decode cX7_command 51 = .ok (.getfield 17, 3) := by decide +kernel
theorem dX7_command_54 : decode cX7_command 54 = .ok (.iload_n 1, 1) := by decide +kernel
theorem dX7_command_55 : decode cX7_command 55 = .ok (.iaload, 1) := by decide +kernel
theorem dX7_command_56 : decode cX7_command 56 = .ok (.invokevirtual 190, 3) := by decide +kernel
theorem dX7_command_59 : decode cX7_command 59 = .ok (.aload_n 0, 1) := by decide +kernel
theorem dX7_command_60 : decode cX7_command 60 = .ok (.bipush 45, 2) := by decide +kernel
theorem dX7_command_62 : decode cX7_command 62 = .ok (.invokevirtual 182, 3) := by decide +kernel
theorem dX7_command_65 : decode cX7_command 65 = .ok (.aload_n 0, 1) := by decide +kernel
theorem dX7_command_66 : decode cX7_command 66 = .ok (.aload_n 0, 1) := by decide +kernel
theorem dX7_command_67 : decode cX7_command 67 = .ok (.getfield 20, 3) := by decide +kernel
theorem dX7_command_70 : decode cX7_command 70 = .ok (.iload_n 1, 1) := by decide +kernel
theorem dX7_command_71 : decode cX7_command 71 = .ok (.iaload, 1) := by decide +kernel
theorem dX7_command_72 : decode cX7_command 72 = .ok (.invokevirtual 190, 3) := by decide +kernel
theorem dX7_command_75 : decode cX7_command 75 = .ok (.aload_n 0, 1) := by decide +kernel
theorem dX7_command_76 : decode cX7_command 76 = .ok (.bipush 32, 2) := by decide +kernel
theorem dX7_command_78 : decode cX7_command 78 = .ok (.invokevirtual 182, 3) := by decide +kernel
theorem dX7_command_81 : decode cX7_command 81 = .ok (.aload_n 0, 1) := by decide +kernel
theorem dX7_command_82 : decode cX7_command 82 = .ok (.aload_n 0, 1) := by decide +kernel
theorem dX7_command_83 : decode cX7_command 83 = .ok (.getfield 23, 3) := by decide +kernel
theorem dX7_command_86 : decode cX7_command 86 = .ok (.iload_n 1, 1) := by decide +kernel
theorem dX7_command_87 : decode cX7_command 87 = .ok (.laload, 1) := by decide +kernel
theorem dX7_command_88 : decode cX7_command 88 = .ok (.invokevirtual 186, 3) := by decide +kernel
theorem dX7_command_91 : decode cX7_command 91 = .ok (.aload_n 0, 1) := by decide +kernel
theorem dX7_command_92 : decode cX7_command 92 = .ok (.getfield 177, 3) := by decide +kernel
theorem dX7_command_95 : decode cX7_command 95 = .ok (.ireturn, 1) := by decide +kernel
