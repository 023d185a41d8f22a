theorem dX11_init_0 : decode cX11_init 0 = .ok (.aload_n 0, 1) := by decide +kernel
theorem dX11_init_1 : decode cX11_init 1 = .ok (.invokespecial 1, 3) := by decide +kernel
theorem dX11_init_4 : decode cX11_init 4 = .ok (.aload_n 0, 1) := by decide +kernel
theorem dX11_init_5 : decode cX11_init 5 = .ok (.bipush 12, 2) := by decide +kernel
theorem dX11_init_7 : decode cX11_init 7 = .ok (.newarray .int, 2) := by decide +kernel
theorem dX11_init_9 : decode cX11_init 9 = .ok (.putfield 7, 3) := by decide +kernel
theorem dX11_init_12 : decode cX11_init 12 = .ok (.aload_n 0, 1) := by decide +kernel
theorem dX11_init_13 : decode cX11_init 13 = .ok (.bipush 12, 2) := by decide +kernel
theorem dX11_init_15 : decode cX11_init 15 = .ok (.newarray .int, 2) := by decide +kernel
theorem dX11_init_17 : decode cX11_init 17 = .ok (.putfield 13, 3) := by decide +kernel
theorem dX11_init_20 : decode cX11_init 20 = .ok (.aload_n 0, 1) := by decide +kernel
theorem dX11_init_21 : decode cX11_init 21 = .ok (.bipush 12, 2) := by decide +kernel
theorem dX11_init_23 : decode cX11_init 23 = .ok (.newarray .int, 2) := by decide +kernel
theorem dX11_init_25 : decode cX11_init 25 = .ok (.putfield 16, 3) := by decide +kernel
theorem dX11_init_28 : decode cX11_init 28 = .ok (.aload_n 0, 1) := by decide +kernel
theorem dX11_init_29 : decode cX11_init 29 = .ok (.bipush 12, 2) := by decide +kernel
theorem dX11_init_31 : decode cX11_init 31 = .ok (.newarray .int, 2) := by decide +kernel
theorem dX11_init_33 : decode cX11_init 33 = .ok (.putfield 19, 3) := by decide +kernel
theorem dX11_init_36 : decode cX11_init 36 = .ok (.aload_n 0, 1) := by decide +kernel
theorem dX11_init_37 : decode cX11_init 37 = .ok (.bipush 12, 2) := by decide +kernel
theorem dX11_init_39 : decode cX11_init 39 = .ok (.newarray .int, 2) := by decide +kernel
theorem dX11_init_41 : decode cX11_init 41 = .ok (.putfield 22, 3) := by decide +kernel
theorem dX11_init_44 : decode cX11_init 44 = .ok (.aload_n 0, 1) := by decide +kernel
theorem dX11_init_45 : decode cX11_init 45 = .ok (.bipush 16, 2) := by decide +kernel
theorem dX11_init_47 : decode cX11_init 47 = .ok (.newarray .int, 2) := by decide +kernel
theorem dX11_init_49 : decode cX11_init 49 = .ok (.putfield 25, 3) := by decide +kernel
theorem dX11_init_52 : decode cX11_init 52 = .ok (.aload_n 0, 1) := by decide +kernel
theorem dX11_init_53 : decode cX11_init 53 = .ok (.bipush 16, 2) := by decide +kernel
theorem dX11_init_55 : decode cX11_init 55 = .ok (.newarray .int, 2) := by decide +kernel
theorem dX11_init_57 : decode cX11_init 57 = .ok (.putfield 28, 3) := by decide +kernel
theorem dX11_init_60 : decode cX11_init 60 = .ok (.aload_n 0, 1) := by decide +kernel
theorem dX11_init_61 : decode cX11_init 61 = .ok (.bipush 16, 2) := by decide +kernel
theorem dX11_init_63 : decode cX11_init 63 = .ok (.newarray .int, 2) := by decide +kernel
theorem dX11_init_65 : decode cX11_init 65 = .ok (.putfield 31, 3) := by decide +kernel
theorem dX11_init_68 : decode cX11_init 68 = .ok (.aload_n 0, 1) := by decide +kernel
theorem dX11_init_69 : decode cX11_init 69 = .ok (.bipush 16, 2) := by decide +kernel
theorem dX11_init_71 : decode cX11_init 71 = .ok (.newarray .int, 2) := by decide +kernel
theorem dX11_init_73 : decode cX11_init 73 = .ok (.putfield 34, 3) := by decide +kernel
theorem dX11_init_76 : decode cX11_init 76 = .ok (.aload_n 0, 1) := by decide +kernel
theorem dX11_init_77 : decode cX11_init 77 = .ok (.sipush 192, 3) := by decide +kernel
theorem dX11_init_80 : decode cX11_init 80 = .ok (.newarray .int, 2) := by decide +kernel
theorem dX11_init_82 : decode cX11_init 82 = .ok (.putfield 37, 3) := by decide +kernel
theorem dX11_init_85 : decode cX11_init 85 = .ok (.aload_n 0, 1) := by decide +kernel
theorem dX11_init_86 : decode cX11_init 86 = .ok (.iconst 4, 1) := by decide +kernel
theorem dX11_init_87 : decode cX11_init 87 = .ok (.newarray .int, 2) := by decide +kernel
theorem dX11_init_89 : decode cX11_init 89 = .ok (.putfield 40, 3) := by decide +kernel
theorem dX11_init_92 : decode cX11_init 92 = .ok (.aload_n 0, 1) := by decide +kernel
theorem dX11_init_93 : decode cX11_init 93 = .ok (.iconst 4, 1) := by decide +kernel
theorem dX11_init_94 : decode cX11_init 94 = .ok (.newarray .int, 2) := by decide +kernel
theorem dX11_init_96 : decode cX11_init 96 = .ok (.putfield 43, 3) := by decide +kernel
theorem dX11_init_99 : decode cX11_init 99 = .ok (.aload_n 0, 1) := by decide +kernel
theorem dX11_init_100 : decode cX11_init 100 = .ok (.iconst 4, 1) := by decide +kernel
theorem dX11_init_101 : decode cX11_init 101 = .ok (.newarray .int, 2) := by decide +kernel
theorem dX11_init_103 : decode cX11_init 103 = .ok (.putfield 46, 3) := by decide +kernel
theorem dX11_init_106 : decode cX11_init 106 = .ok (.aload_n 0, 1) := by decide +kernel
theorem dX11_init_107 : decode cX11_init 107 = .ok (.bipush 13, 2) := by decide +kernel
theorem dX11_init_109 : decode cX11_init 109 = .ok (.newarray .int, 2) := by decide +kernel
theorem dX11_init_111 : decode cX11_init 111 = .ok (.putfield 49, 3) := by decide +kernel
theorem dX11_init_114 : decode cX11_init 114 = .ok (.aload_n 0, 1) := by decide +kernel
theorem dX11_init_115 : decode cX11_init 115 = .ok (.iconst 4, 1) := by decide +kernel
theorem dX11_init_116 : decode cX11_init 116 = .ok (.newarray .boolean, 2) := by decide +kernel
theorem dX11_init_118 : decode cX11_init 118 = .ok (.putfield 52, 3) := by decide +kernel
theorem dX11_init_121 : decode cX11_init 121 = .ok (.aload_n 0, 1) := by decide +kernel
theorem dX11_init_122 : decode cX11_init 122 = .ok (.iconst 4, 1) := by decide +kernel
theorem dX11_init_123 : decode cX11_init 123 = .ok (.newarray .boolean, 2) := by decide +kernel
theorem dX11_init_125 : decode cX11_init 125 = .ok (.putfield 56, 3) := by decide +kernel
theorem dX11_init_128 : decode cX11_init 128 = .ok (.return_, 1) := by decide +kernel
theorem dX11_copy_0 : decode cX11_copy 0 = .ok (.new 8, 3) := by decide +kernel
theorem dX11_copy_3 : decode cX11_copy 3 = .ok (.dup, 1) := by decide +kernel
theorem dX11_copy_4 : decode cX11_copy 4 = .ok (.invokespecial 59, 3) := by decide +kernel
theorem dX11_copy_7 : decode cX11_copy 7 = .ok (.astore_n 1, 1) := by decide +kernel
theorem dX11_copy_8 : decode cX11_copy 8 = .ok (.aload_n 1, 1) := by decide +kernel
theorem dX11_copy_9 : decode cX11_copy 9 = .ok (.aload_n 0, 1) := by decide +kernel
theorem dX11_copy_10 : decode cX11_copy 10 = .ok (.getfield 60, 3) := by decide +kernel
theorem dX11_copy_13 : decode cX11_copy 13 = .ok (.putfield 60, 3) := by decide +kernel
theorem dX11_copy_16 : decode cX11_copy 16 = .ok (.aload_n 1, 1) := by decide +kernel
theorem dX11_copy_17 : decode cX11_copy 17 = .ok (.aload_n 0, 1) := by decide +kernel
theorem dX11_copy_18 : decode cX11_copy 18 = .ok (.getfield 64, 3) := by decide +kernel
theorem dX11_copy_21 : decode cX11_copy 21 = .ok (.putfield 64, 3) := by decide +kernel
theorem dX11_copy_24 : decode cX11_copy 24 = .ok (.aload_n 1, 1) := by decide +kernel
theorem dX11_copy_25 : decode cX11_copy 25 = .ok (.aload_n 0, 1) := by decide +kernel
theorem dX11_copy_26 : decode cX11_copy 26 = .ok (.getfield 67, 3) := by decide +kernel
theorem dX11_copy_29 : decode cX11_copy 29 = .ok (.putfield 67, 3) := by decide +kernel
theorem dX11_copy_32 : decode cX11_copy 32 = .ok (.aload_n 1, 1) := by decide +kernel
theorem dX11_copy_33 : decode cX11_copy 33 = .ok (.aload_n 0, 1) := by decide +kernel
theorem dX11_copy_34 : decode cX11_copy 34 = .ok (.getfield 70, 3) := by decide +kernel
theorem dX11_copy_37 : decode cX11_copy 37 = .ok (.putfield 70, 3) := by decide +kernel
theorem dX11_copy_40 : decode cX11_copy 40 = .ok (.aload_n 1, 1) := by decide +kernel
theorem dX11_copy_41 : decode cX11_copy 41 = .ok (.aload_n 0, 1) := by decide +kernel
theorem dX11_copy_42 : decode cX11_copy 42 = .ok (.getfield 73, 3) := by decide +kernel
theorem dX11_copy_45 : decode cX11_copy 45 = .ok (.putfield 73, 3) := by decide +kernel
theorem dX11_copy_48 : decode cX11_copy 48 = .ok (.aload_n 1, 1) := by decide +kernel
theorem dX11_copy_49 : decode cX11_copy 49 = .ok (.aload_n 0, 1) := by decide +kernel
theorem dX11_copy_50 : decode cX11_copy 50 = .ok (.getfield 76, 3) := by decide +kernel
theorem dX11_copy_53 : decode cX11_copy 53 = .ok (.putfield 76, 3) := by decide +kernel
theorem dX11_copy_56 : decode cX11_copy 56 = .ok (.aload_n 1, 1) := by decide +kernel
theorem dX11_copy_57 : decode cX11_copy 57 = .ok (.aload_n 0, 1) := by decide +kernel
theorem dX11_copy_58 : decode cX11_copy 58 = .ok (.getfield 79, 3) := by decide +kernel
theorem dX11_copy_61 : decode cX11_copy 61 = .ok (.putfield 79, 3) := by decide +kernel
theorem dX11_copy_64 : decode cX11_copy 64 = .ok (.aload_n 1, 1) := by decide +kernel
theorem dX11_copy_65 : decode cX11_copy 65 = .ok (.aload_n 0, 1) := by decide +kernel
theorem dX11_copy_66 : decode cX11_copy 66 = .ok (.getfield 82, 3) := by decide +kernel
theorem dX11_copy_69 : decode cX11_copy 69 = .ok (.putfield 82, 3) := by decide +kernel
theorem dX11_copy_72 : decode cX11_copy 72 = .ok (.aload_n 1, 1) := by decide +kernel
theorem dX11_copy_73 : decode cX11_copy 73 = .ok (.aload_n 0, 1) := by decide +kernel
theorem dX11_copy_74 : decode cX11_copy 74 = .ok (.getfield 85, 3) := by decide +kernel
theorem dX11_copy_77 : decode cX11_copy 77 = .ok (.putfield 85, 3) := by decide +kernel
theorem dX11_copy_80 : decode cX11_copy 80 = .ok (.aload_n 1, 1) := by decide +kernel
theorem dX11_copy_81 : decode cX11_copy 81 = .ok (.aload_n 0, 1) := by decide +kernel
theorem dX11_copy_82 : decode cX11_copy 82 = .ok (.getfield 88, 3) := by decide +kernel
theorem dX11_copy_85 : decode cX11_copy 85 = .ok (.putfield 88, 3) := by decide +kernel
theorem dX11_copy_88 : decode cX11_copy 88 = .ok (.aload_n 1, 1) := by decide +kernel
theorem dX11_copy_89 : decode cX11_copy 89 = .ok (.aload_n 0, 1) := by decide +kernel
theorem dX11_copy_90 : decode cX11_copy 90 = .ok (.getfield 91, 3) := by decide +kernel
theorem dX11_copy_93 : decode cX11_copy 93 = .ok (.putfield 91, 3) := by decide +kernel
theorem dX11_copy_96 : decode cX11_copy 96 = .ok (.aload_n 1, 1) := by decide +kernel
theorem dX11_copy_97 : decode cX11_copy 97 = .ok (.aload_n 0, 1) := by decide +kernel
theorem dX11_copy_98 : decode cX11_copy 98 = .ok (.getfield 94, 3) := by decide +kernel
theorem dX11_copy_101 : decode cX11_copy 101 = .ok (.putfield 94, 3) := by decide +kernel
theorem dX11_copy_104 : decode cX11_copy 104 = .ok (.aload_n 1, 1) := by decide +kernel
theorem dX11_copy_105 : decode cX11_copy 105 = .ok (.aload_n 0, 1) := by decide +kernel
theorem dX11_copy_106 : decode cX11_copy 106 = .ok (.getfield 97, 3) := by decide +kernel
theorem dX11_copy_109 : decode cX11_copy 109 = .ok (.putfield 97, 3) := by decide +kernel
theorem dX11_copy_112 : decode cX11_copy 112 = .ok (.aload_n 1, 1) := by decide +kernel
theorem dX11_copy_113 : decode cX11_copy 113 = .ok (.aload_n 0, 1) := by decide +kernel
theorem dX11_copy_114 : decode cX11_copy 114 = .ok (.getfield 100, 3) := by decide +kernel
theorem dX11_copy_117 : decode cX11_copy 117 = .ok (.putfield 100, 3) := by decide +kernel
theorem dX11_copy_120 : decode cX11_copy 120 = .ok (.aload_n 1, 1) := by decide +kernel
theorem dX11_copy_121 : decode cX11_copy 121 = .ok (.aload_n 0, 1) := by decide +kernel
theorem dX11_copy_122 : decode cX11_copy 122 = .ok (.getfield 103, 3) := by decide +kernel
theorem dX11_copy_125 : decode cX11_copy 125 = .ok (.putfield 103, 3) := by decide +kernel
theorem dX11_copy_128 : decode cX11_copy 128 = .ok (.aload_n 1, 1) := by decide +kernel
theorem dX11_copy_129 : decode cX11_copy 129 = .ok (.aload_n 0, 1) := by decide +kernel
theorem dX11_copy_130 : decode cX11_copy 130 = .ok (.getfield 106, 3) := by decide +kernel
theorem dX11_copy_133 : decode cX11_copy 133 = .ok (.putfield 106, 3) := by decide +kernel
theorem dX11_copy_136 : decode cX11_copy 136 = .ok (.aload_n 1, 1) := by decide +kernel
theorem dX11_copy_137 : decode cX11_copy 137 = .ok (.aload_n 0, 1) := by decide +kernel
theorem dX11_copy_138 : decode cX11_copy 138 = .ok (.getfield 109, 3) := by decide +kernel
theorem dX11_copy_141 : decode cX11_copy 141 = .ok (.putfield 109, 3) := by decide +kernel
theorem dX11_copy_144 : decode cX11_copy 144 = .ok (.iconst 0, 1) := by decide +kernel
theorem dX11_copy_145 : decode cX11_copy 145 = .ok (.istore_n 2, 1) := by decide +kernel
theorem dX11_copy_146 : decode cX11_copy 146 = .ok (.iload_n 2, 1) := by decide +kernel
theorem dX11_copy_147 : decode cX11_copy 147 = .ok (.bipush 12, 2) := by decide +kernel
theorem dX11_copy_149 : decode cX11_copy 149 = .ok (.if_icmp .ge 69, 3) := by decide +kernel
theorem dX11_copy_152 : decode cX11_copy 152 = .ok (.aload_n 1, 1) := by decide +kernel
theorem dX11_copy_153 : decode cX11_copy 153 = .ok (.getfield 7, 3) := by decide +kernel
theorem dX11_copy_156 : decode cX11_copy 156 = .ok (.iload_n 2, 1) := by decide +kernel
theorem dX11_copy_157 : decode cX11_copy 157 = .ok (.aload_n 0, 1) := by decide +kernel
theorem dX11_copy_158 : decode cX11_copy 158 = .ok (.getfield 7, 3) := by decide +kernel
theorem dX11_copy_161 : decode cX11_copy 161 = .ok (.iload_n 2, 1) := by decide +kernel
theorem dX11_copy_162 : decode cX11_copy 162 = .ok (.iaload, 1) := by decide +kernel
theorem dX11_copy_163 : decode cX11_copy 163 = .ok (.iastore, 1) := by decide +kernel
theorem dX11_copy_164 : decode cX11_copy 164 = .ok (.aload_n 1, 1) := by decide +kernel
theorem dX11_copy_165 : decode cX11_copy 165 = .ok (.getfield 13, 3) := by decide +kernel
theorem dX11_copy_168 : decode cX11_copy 168 = .ok (.iload_n 2, 1) := by decide +kernel
theorem dX11_copy_169 : decode cX11_copy 169 = .ok (.aload_n 0, 1) := by decide +kernel
theorem dX11_copy_170 : decode cX11_copy 170 = .ok (.getfield 13, 3) := by decide +kernel
theorem dX11_copy_173 : decode cX11_copy 173 = .ok (.iload_n 2, 1) := by decide +kernel
theorem dX11_copy_174 : decode cX11_copy 174 = .ok (.iaload, 1) := by decide +kernel
theorem dX11_copy_175 : decode cX11_copy 175 = .ok (.iastore, 1) := by decide +kernel
theorem dX11_copy_176 : decode cX11_copy 176 = .ok (.aload_n 1, 1) := by decide +kernel
theorem dX11_copy_177 : decode cX11_copy 177 = .ok (.getfield 16, 3) := by decide +kernel
theorem dX11_copy_180 : decode cX11_copy 180 = .ok (.iload_n 2, 1) := by decide +kernel
theorem dX11_copy_181 : decode cX11_copy 181 = .ok (.aload_n 0, 1) := by decide +kernel
theorem dX11_copy_182 : decode cX11_copy 182 = .ok (.getfield 16, 3) := by decide +kernel
theorem dX11_copy_185 : decode cX11_copy 185 = .ok (.iload_n 2, 1) := by decide +kernel
theorem dX11_copy_186 : decode cX11_copy 186 = .ok (.iaload, 1) := by decide +kernel
theorem dX11_copy_187 : decode cX11_copy 187 = .ok (.iastore, 1) := by decide +kernel
theorem dX11_copy_188 : decode cX11_copy 188 = .ok (.aload_n 1, 1) := by decide +kernel
theorem dX11_copy_189 : decode cX11_copy 189 = .ok (.getfield 19, 3) := by decide +kernel
theorem dX11_copy_192 : decode cX11_copy 192 = .ok (.iload_n 2, 1) := by decide +kernel
theorem dX11_copy_193 : decode cX11_copy 193 = .ok (.aload_n 0, 1) := by decide +kernel
theorem dX11_copy_194 : decode cX11_copy 194 = .ok (.getfield 19, 3) := by decide +kernel
theorem dX11_copy_197 : decode cX11_copy 197 = .ok (.iload_n 2, 1) := by decide +kernel
theorem dX11_copy_198 : decode cX11_copy 198 = .ok (.iaload, 1) := by decide +kernel
theorem dX11_copy_199 : decode cX11_copy 199 = .ok (.iastore, 1) := by decide +kernel
theorem dX11_copy_200 : decode cX11_copy 200 = .ok (.aload_n 1, 1) := by decide +kernel
theorem dX11_copy_201 : decode cX11_copy 201 = .ok (.getfield 22, 3) := by decide +kernel
theorem dX11_copy_204 : decode cX11_copy 204 = .ok (.iload_n 2, 1) := by decide +kernel
theorem dX11_copy_205 : decode cX11_copy 205 = .ok (.aload_n 0, 1) := by decide +kernel
theorem dX11_copy_206 : decode cX11_copy 206 = .ok (.getfield 22, 3) := by decide +kernel
theorem dX11_copy_209 : decode cX11_copy 209 = .ok (.iload_n 2, 1) := by decide +kernel
theorem dX11_copy_210 : decode cX11_copy 210 = .ok (.iaload, 1) := by decide +kernel
theorem dX11_copy_211 : decode cX11_copy 211 = .ok (.iastore, 1) := by decide +kernel
theorem dX11_copy_212 : decode cX11_copy 212 = .ok (.iinc 2 1, 3) := by decide +kernel
theorem dX11_copy_215 : decode cX11_copy 215 = .ok (.goto (-69), 3) := by decide +kernel
theorem dX11_copy_218 : decode cX11_copy 218 = .ok (.iconst 0, 1) := by decide +kernel
theorem dX11_copy_219 : decode cX11_copy 219 = .ok (.istore_n 2, 1) := by decide +kernel
theorem dX11_copy_220 : decode cX11_copy 220 = .ok (.iload_n 2, 1) := by decide +kernel
theorem dX11_copy_221 : decode cX11_copy 221 = .ok (.bipush 16, 2) := by decide +kernel
theorem dX11_copy_223 : decode cX11_copy 223 = .ok (.if_icmp .ge 57, 3) := by decide +kernel
theorem dX11_copy_226 : decode cX11_copy 226 = .ok (.aload_n 1, 1) := by decide +kernel
theorem dX11_copy_227 : decode cX11_copy 227 = .ok (.getfield 25, 3) := by decide +kernel
theorem dX11_copy_230 : decode cX11_copy 230 = .ok (.iload_n 2, 1) := by decide +kernel
theorem dX11_copy_231 : decode cX11_copy 231 = .ok (.aload_n 0, 1) := by decide +kernel
theorem dX11_copy_232 : decode cX11_copy 232 = .ok (.getfield 25, 3) := by decide +kernel
theorem dX11_copy_235 : decode cX11_copy 235 = .ok (.iload_n 2, 1) := by decide +kernel
theorem dX11_copy_236 : decode cX11_copy 236 = .ok (.iaload, 1) := by decide +kernel
theorem dX11_copy_237 : decode cX11_copy 237 = .ok (.iastore, 1) := by decide +kernel
theorem dX11_copy_238 : decode cX11_copy 238 = .ok (.aload_n 1, 1) := by decide +kernel
theorem dX11_copy_239 : decode cX11_copy 239 = .ok (.getfield 28, 3) := by decide +kernel
theorem dX11_copy_242 : decode cX11_copy 242 = .ok (.iload_n 2, 1) := by decide +kernel
theorem dX11_copy_243 : decode cX11_copy 243 = .ok (.aload_n 0, 1) := by decide +kernel
theorem dX11_copy_244 : decode cX11_copy 244 = .ok (.getfield 28, 3) := by decide +kernel
theorem dX11_copy_247 : decode cX11_copy 247 = .ok (.iload_n 2, 1) := by decide +kernel
theorem dX11_copy_248 : decode cX11_copy 248 = .ok (.iaload, 1) := by decide +kernel
theorem dX11_copy_249 : decode cX11_copy 249 = .ok (.iastore, 1) := by decide +kernel
theorem dX11_copy_250 : decode cX11_copy 250 = .ok (.aload_n 1, 1) := by decide +kernel
theorem dX11_copy_251 : decode cX11_copy 251 = .ok (.getfield 31, 3) := by decide +kernel
theorem dX11_copy_254 : decode cX11_copy 254 = .ok (.iload_n 2, 1) := by decide +kernel
theorem dX11_copy_255 : decode cX11_copy 255 = .ok (.aload_n 0, 1) := by decide +kernel
theorem dX11_copy_256 : decode cX11_copy 256 = .ok (.getfield 31, 3) := by decide +kernel
theorem dX11_copy_259 : decode cX11_copy 259 = .ok (.iload_n 2, 1) := by decide +kernel
theorem dX11_copy_260 : decode cX11_copy 260 = .ok (.iaload, 1) := by decide +kernel
theorem dX11_copy_261 : decode cX11_copy 261 = .ok (.iastore, 1) := by decide +kernel
theorem dX11_copy_262 : decode cX11_copy 262 = .ok (.aload_n 1, 1) := by decide +kernel
theorem dX11_copy_263 : decode cX11_copy 263 = .ok (.getfield 34, 3) := by decide +kernel
theorem dX11_copy_266 : decode cX11_copy 266 = .ok (.iload_n 2, 1) := by decide +kernel
theorem dX11_copy_267 : decode cX11_copy 267 = .ok (.aload_n 0, 1) := by decide +kernel
theorem dX11_copy_268 : decode cX11_copy 268 = .ok (.getfield 34, 3) := by decide +kernel
theorem dX11_copy_271 : decode cX11_copy 271 = .ok (.iload_n 2, 1) := by decide +kernel
theorem dX11_copy_272 : decode cX11_copy 272 = .ok (.iaload, 1) := by decide +kernel
theorem dX11_copy_273 : decode cX11_copy 273 = .ok (.iastore, 1) := by decide +kernel
theorem dX11_copy_274 : decode cX11_copy 274 = .ok (.iinc 2 1, 3) := by decide +kernel
theorem dX11_copy_277 : decode cX11_copy 277 = .ok (.goto (-57), 3) := by decide +kernel
theorem dX11_copy_280 : decode cX11_copy 280 = .ok (.iconst 0, 1) := by decide +kernel
theorem dX11_copy_281 : decode cX11_copy 281 = .ok (.istore_n 2, 1) := by decide +kernel
theorem dX11_copy_282 : decode cX11_copy 282 = .ok (.iload_n 2, 1) := by decide +kernel
theorem dX11_copy_283 : decode cX11_copy 283 = .ok (.sipush 192, 3) := by decide +kernel
theorem dX11_copy_286 : decode cX11_copy 286 = .ok (.if_icmp .ge 21, 3) := by decide +kernel
theorem dX11_copy_289 : decode cX11_copy 289 = .ok (.aload_n 1, 1) := by decide +kernel
theorem dX11_copy_290 : decode cX11_copy 290 = .ok (.getfield 37, 3) := by decide +kernel
theorem dX11_copy_293 : decode cX11_copy 293 = .ok (.iload_n 2, 1) := by decide +kernel
theorem dX11_copy_294 : decode cX11_copy 294 = .ok (.aload_n 0, 1) := by decide +kernel
theorem dX11_copy_295 : decode cX11_copy 295 = .ok (.getfield 37, 3) := by decide +kernel
theorem dX11_copy_298 : decode cX11_copy 298 = .ok (.iload_n 2, 1) := by decide +kernel
theorem dX11_copy_299 : decode cX11_copy 299 = .ok (.iaload, 1) := by decide +kernel
theorem dX11_copy_300 : decode cX11_copy 300 = .ok (.iastore, 1) := by decide +kernel
theorem dX11_copy_301 : decode cX11_copy 301 = .ok (.iinc 2 1, 3) := by decide +kernel
theorem dX11_copy_304 : decode cX11_copy 304 = .ok (.goto (-22), 3) := by decide +kernel
theorem dX11_copy_307 : decode cX11_copy 307 = .ok (.iconst 0, 1) := by decide +kernel
theorem dX11_copy_308 : decode cX11_copy 308 = .ok (.istore_n 2, 1) := by decide +kernel
theorem dX11_copy_309 : decode cX11_copy 309 = .ok (.iload_n 2, 1) := by decide +kernel
theorem dX11_copy_310 : decode cX11_copy 310 = .ok (.iconst 4, 1) := by decide +kernel
theorem dX11_copy_311 : decode cX11_copy 311 = .ok (.if_icmp .ge 69, 3) := by decide +kernel
theorem dX11_copy_314 : decode cX11_copy 314 = .ok (.aload_n 1, 1) := by decide +kernel
theorem dX11_copy_315 : decode cX11_copy 315 = .ok (.getfield 40, 3) := by decide +kernel
theorem dX11_copy_318 : decode cX11_copy 318 = .ok (.iload_n 2, 1) := by decide +kernel
theorem dX11_copy_319 : decode cX11_copy 319 = .ok (.aload_n 0, 1) := by decide +kernel
theorem dX11_copy_320 : decode cX11_copy 320 = .ok (.getfield 40, 3) := by decide +kernel
theorem dX11_copy_323 : decode cX11_copy 323 = .ok (.iload_n 2, 1) := by decide +kernel
theorem dX11_copy_324 : decode cX11_copy 324 = .ok (.iaload, 1) := by decide +kernel
theorem dX11_copy_325 : decode cX11_copy 325 = .ok (.iastore, 1) := by decide +kernel
theorem dX11_copy_326 : decode cX11_copy 326 = .ok (.aload_n 1, 1) := by decide +kernel
theorem dX11_copy_327 : decode cX11_copy 327 = .ok (.getfield 43, 3) := by decide +kernel
theorem dX11_copy_330 : decode cX11_copy 330 = .ok (.iload_n 2, 1) := by decide +kernel
theorem dX11_copy_331 : decode cX11_copy 331 = .ok (.aload_n 0, 1) := by decide +kernel
theorem dX11_copy_332 : decode cX11_copy 332 = .ok (.getfield 43, 3) := by decide +kernel
theorem dX11_copy_335 : decode cX11_copy 335 = .ok (.iload_n 2, 1) := by decide +kernel
theorem dX11_copy_336 : decode cX11_copy 336 = .ok (.iaload, 1) := by decide +kernel
theorem dX11_copy_337 : decode cX11_copy 337 = .ok (.iastore, 1) := by decide +kernel
theorem dX11_copy_338 : decode cX11_copy 338 = .ok (.aload_n 1, 1) := by decide +kernel
theorem dX11_copy_339 : decode cX11_copy 339 = .ok (.getfield 46, 3) := by decide +kernel
theorem dX11_copy_342 : decode cX11_copy 342 = .ok (.iload_n 2, 1) := by decide +kernel
theorem dX11_copy_343 : decode cX11_copy 343 = .ok (.aload_n 0, 1) := by decide +kernel
theorem dX11_copy_344 : decode cX11_copy 344 = .ok (.getfield 46, 3) := by decide +kernel
theorem dX11_copy_347 : decode cX11_copy 347 = .ok (.iload_n 2, 1) := by decide +kernel
theorem dX11_copy_348 : decode cX11_copy 348 = .ok (.iaload, 1) := by decide +kernel
theorem dX11_copy_349 : decode cX11_copy 349 = .ok (.iastore, 1) := by decide +kernel
theorem dX11_copy_350 : decode cX11_copy 350 = .ok (.aload_n 1, 1) := by decide +kernel
theorem dX11_copy_351 : decode cX11_copy 351 = .ok (.getfield 52, 3) := by decide +kernel
theorem dX11_copy_354 : decode cX11_copy 354 = .ok (.iload_n 2, 1) := by decide +kernel
theorem dX11_copy_355 : decode cX11_copy 355 = .ok (.aload_n 0, 1) := by decide +kernel
theorem dX11_copy_356 : decode cX11_copy 356 = .ok (.getfield 52, 3) := by decide +kernel
theorem dX11_copy_359 : decode cX11_copy 359 = .ok (.iload_n 2, 1) := by decide +kernel
theorem dX11_copy_360 : decode cX11_copy 360 = .ok (.baload, 1) := by decide +kernel
theorem dX11_copy_361 : decode cX11_copy 361 = .ok (.bastore, 1) := by decide +kernel
theorem dX11_copy_362 : decode cX11_copy 362 = .ok (.aload_n 1, 1) := by decide +kernel
theorem dX11_copy_363 : decode cX11_copy 363 = .ok (.getfield 56, 3) := by decide +kernel
theorem dX11_copy_366 : decode cX11_copy 366 = .ok (.iload_n 2, 1) := by decide +kernel
theorem dX11_copy_367 : decode cX11_copy 367 = .ok (.aload_n 0, 1) := by decide +kernel
theorem dX11_copy_368 : decode cX11_copy 368 = .ok (.getfield 56, 3) := by decide +kernel
theorem dX11_copy_371 : decode cX11_copy 371 = .ok (.iload_n 2, 1) := by decide +kernel
theorem dX11_copy_372 : decode cX11_copy 372 = .ok (.baload, 1) := by decide +kernel
theorem dX11_copy_373 : decode cX11_copy 373 = .ok (.bastore, 1) := by decide +kernel
theorem dX11_copy_374 : decode cX11_copy 374 = .ok (.iinc 2 1, 3) := by decide +kernel
theorem dX11_copy_377 : decode cX11_copy 377 = .ok (.goto (-68), 3) := by decide +kernel
theorem dX11_copy_380 : decode cX11_copy 380 = .ok (.iconst 0, 1) := by decide +kernel
theorem dX11_copy_381 : decode cX11_copy 381 = .ok (.istore_n 2, 1) := by decide +kernel
theorem dX11_copy_382 : decode cX11_copy 382 = .ok (.iload_n 2, 1) := by decide +kernel
theorem dX11_copy_383 : decode cX11_copy 383 = .ok (.bipush 13, 2) := by decide +kernel
theorem dX11_copy_385 : decode cX11_copy 385 = .ok (.if_icmp .ge 21, 3) := by decide +kernel
theorem dX11_copy_388 : decode cX11_copy 388 = .ok (.aload_n 1, 1) := by decide +kernel
theorem dX11_copy_389 : decode cX11_copy 389 = .ok (.getfield 49, 3) := by decide +kernel
theorem dX11_copy_392 : decode cX11_copy 392 = .ok (.iload_n 2, 1) := by decide +kernel
theorem dX11_copy_393 : decode cX11_copy 393 = .ok (.aload_n 0, 1) := by decide +kernel
theorem dX11_copy_394 : decode cX11_copy 394 = .ok (.getfield 49, 3) := by decide +kernel
theorem dX11_copy_397 : decode cX11_copy 397 = .ok (.iload_n 2, 1) := by decide +kernel
theorem dX11_copy_398 : decode cX11_copy 398 = .ok (.iaload, 1) := by decide +kernel
theorem dX11_copy_399 : decode cX11_copy 399 = .ok (.iastore, 1) := by decide +kernel
theorem dX11_copy_400 : decode cX11_copy 400 = .ok (.iinc 2 1, 3) := by decide +kernel
theorem dX11_copy_403 : decode cX11_copy 403 = .ok (.goto (-21), 3) := by decide +kernel
theorem dX11_copy_406 : decode cX11_copy 406 = .ok (.aload_n 1, 1) := by decide +kernel
theorem dX11_copy_407 : decode cX11_copy 407 = .ok (.areturn, 1) := by decide +kernel
theorem dX11_requests_0 : decode cX11_requests 0 = .ok (.iconst 0, 1) := by decide +kernel
theorem dX11_requests_1 : decode cX11_requests 1 = .ok (.istore_n 1, 1) := by decide +kernel
theorem dX11_requests_2 : decode cX11_requests 2 = .ok (.aload_n 0, 1) := by decide +kernel
theorem dX11_requests_3 : decode cX11_requests 3 = .ok (.getfield 49, 3) := by decide +kernel
theorem dX11_requests_6 : decode cX11_requests 6 = .ok (.iload_n 1, 1) := by decide +kernel
theorem dX11_requests_7 : decode cX11_requests 7 = .ok (.iaload, 1) := by decide +kernel
theorem dX11_requests_8 : decode cX11_requests 8 = .ok (.ifCond .le 9, 3) := by decide +kernel
theorem dX11_requests_11 : decode cX11_requests 11 = .ok (.iinc 1 1, 3) := by decide +kernel
theorem dX11_requests_14 : decode cX11_requests 14 = .ok (.goto (-12), 3) := by decide +kernel
theorem dX11_requests_17 : decode cX11_requests 17 = .ok (.iload_n 1, 1) := by decide +kernel
theorem dX11_requests_18 : decode cX11_requests 18 = .ok (.ireturn, 1) := by decide +kernel
theorem dX11_who_0 : decode cX11_who 0 = .ok (.aload_n 0, 1) := by decide +kernel
theorem dX11_who_1 : decode cX11_who 1 = .ok (.getfield 49, 3) := by decide +kernel
theorem dX11_who_4 : decode cX11_who 4 = .ok (.iload_n 1, 1) := by decide +kernel
theorem dX11_who_5 : decode cX11_who 5 = .ok (.iaload, 1) := by decide +kernel
theorem dX11_who_6 : decode cX11_who 6 = .ok (.iconst 1, 1) := by decide +kernel
theorem dX11_who_7 : decode cX11_who 7 = .ok (.isub, 1) := by decide +kernel
theorem dX11_who_8 : decode cX11_who 8 = .ok (.bipush 16, 2) := by decide +kernel
theorem dX11_who_10 : decode cX11_who 10 = .ok (.irem, 1) := by decide +kernel
theorem dX11_who_11 : decode cX11_who 11 = .ok (.ireturn, 1) := by decide +kernel
theorem dX11_what_0 : decode cX11_what 0 = .ok (.aload_n 0, 1) := by decide +kernel
theorem dX11_what_1 : decode cX11_what 1 = .ok (.getfield 49, 3) := by decide +kernel
theorem dX11_what_4 : decode cX11_what 4 = .ok (.iload_n 1, 1) := by decide +kernel
theorem dX11_what_5 : decode cX11_what 5 = .ok (.iaload, 1) := by decide +kernel
theorem dX11_what_6 : decode cX11_what 6 = .ok (.iconst 1, 1) := by decide +kernel
theorem dX11_what_7 : decode cX11_what 7 = .ok (.isub, 1) := by decide +kernel
theorem dX11_what_8 : decode cX11_what 8 = .ok (.bipush 16, 2) := by decide +kernel
theorem dX11_what_10 : decode cX11_what 10 = .ok (.idiv, 1) := by decide +kernel
theorem dX11_what_11 : decode cX11_what 11 = .ok (.bipush 16, 2) := by decide +kernel
theorem dX11_what_13 : decode cX11_what 13 = .ok (.irem, 1) := by decide +kernel
theorem dX11_what_14 : decode cX11_what 14 = .ok (.ireturn, 1) := by decide +kernel
theorem dX11_isForAt_0 : decode cX11_isForAt 0 = .ok (.aload_n 0, 1) := by decide +kernel
theorem dX11_isForAt_1 : decode cX11_isForAt 1 = .ok (.getfield 49, 3) := by decide +kernel
theorem dX11_isForAt_4 : decode cX11_isForAt 4 = .ok (.iload_n 1, 1) := by decide +kernel
theorem dX11_isForAt_5 : decode cX11_isForAt 5 = .ok (.iaload, 1) := by decide +kernel
theorem dX11_isForAt_6 : decode cX11_isForAt 6 = .ok (.sipush 256, 3) := by decide +kernel
theorem dX11_isForAt_9 : decode cX11_isForAt 9 = .ok (.if_icmp .le 7, 3) := by decide +kernel
theorem dX11_isForAt_12 : decode cX11_isForAt 12 = .ok (.iconst 1, 1) := by decide +kernel
theorem dX11_isForAt_13 : decode cX11_isForAt 13 = .ok (.goto 4, 3) := by decide +kernel
theorem dX11_isForAt_16 : decode cX11_isForAt 16 = .ok (.iconst 0, 1) := by decide +kernel
theorem dX11_isForAt_17 : decode cX11_isForAt 17 = .ok (.ireturn, 1) := by decide +kernel
theorem dX11_listed_0 : decode cX11_listed 0 = .ok (.iconst 0, 1) := by decide +kernel
theorem dX11_listed_1 : decode cX11_listed 1 = .ok (.istore_n 2, 1) := by decide +kernel
theorem dX11_listed_2 : decode cX11_listed 2 = .ok (.aload_n 0, 1) := by decide +kernel
theorem dX11_listed_3 : decode cX11_listed 3 = .ok (.getfield 49, 3) := by decide +kernel
theorem dX11_listed_6 : decode cX11_listed 6 = .ok (.iload_n 2, 1) := by decide +kernel
theorem dX11_listed_7 : decode cX11_listed 7 = .ok (.iaload, 1) := by decide +kernel
theorem dX11_listed_8 : decode cX11_listed 8 = .ok (.ifCond .le 20, 3) := by decide +kernel
theorem dX11_listed_11 : decode cX11_listed 11 = .ok (.aload_n 0, 1) := by decide +kernel
theorem dX11_listed_12 : decode cX11_listed 12 = .ok (.iload_n 2, 1) := by decide +kernel
theorem dX11_listed_13 : decode cX11_listed 13 = .ok (.invokevirtual 112, 3) := by decide +kernel
theorem dX11_listed_16 : decode cX11_listed 16 = .ok (.iload_n 1, 1) := by decide +kernel
theorem dX11_listed_17 : decode cX11_listed 17 = .ok (.if_icmp .ne 5, 3) := by decide +kernel
theorem dX11_listed_20 : decode cX11_listed 20 = .ok (.iload_n 2, 1) := by decide +kernel
theorem dX11_listed_21 : decode cX11_listed 21 = .ok (.ireturn, 1) := by decide +kernel
theorem dX11_listed_22 : decode cX11_listed 22 = .ok (.iinc 2 1, 3) := by decide +kernel
theorem dX11_listed_25 : decode cX11_listed 25 = .ok (.goto (-23), 3) := by decide +kernel
theorem dX11_listed_28 : decode cX11_listed 28 = .ok (.iconst (-1), 1) := by decide +kernel
theorem dX11_listed_29 : decode cX11_listed 29 = .ok (.ireturn, 1) := by decide +kernel
theorem dX11_chair_0 : decode cX11_chair 0 = .ok (.iconst 0, 1) := by decide +kernel
theorem dX11_chair_1 : decode cX11_chair 1 = .ok (.istore_n 2, 1) := by decide +kernel
theorem dX11_chair_2 : decode cX11_chair 2 = .ok (.iload_n 2, 1) := by decide +kernel
theorem dX11_chair_3 : decode cX11_chair 3 = .ok (.aload_n 0, 1) := by decide +kernel
theorem dX11_chair_4 : decode cX11_chair 4 = .ok (.getfield 60, 3) := by decide +kernel
theorem dX11_chair_7 : decode cX11_chair 7 = .ok (.if_icmp .ge 21, 3) := by decide +kernel
theorem dX11_chair_10 : decode cX11_chair 10 = .ok (.aload_n 0, 1) := by decide +kernel
theorem dX11_chair_11 : decode cX11_chair 11 = .ok (.getfield 40, 3) := by decide +kernel
theorem dX11_chair_14 : decode cX11_chair 14 = .ok (.iload_n 2, 1) := by decide +kernel
theorem dX11_chair_15 : decode cX11_chair 15 = .ok (.iaload, 1) := by decide +kernel
theorem dX11_chair_16 : decode cX11_chair 16 = .ok (.iload_n 1, 1) := by decide +kernel
theorem dX11_chair_17 : decode cX11_chair 17 = .ok (.if_icmp .ne 5, 3) := by decide +kernel
theorem dX11_chair_20 : decode cX11_chair 20 = .ok (.iload_n 2, 1) := by decide +kernel
theorem dX11_chair_21 : decode cX11_chair 21 = .ok (.ireturn, 1) := by decide +kernel
theorem dX11_chair_22 : decode cX11_chair 22 = .ok (.iinc 2 1, 3) := by decide +kernel
theorem dX11_chair_25 : decode cX11_chair 25 = .ok (.goto (-23), 3) := by decide +kernel
theorem dX11_chair_28 : decode cX11_chair 28 = .ok (.iconst (-1), 1) := by decide +kernel
theorem dX11_chair_29 : decode cX11_chair 29 = .ok (.ireturn, 1) := by decide +kernel
theorem dX11_free_0 : decode cX11_free 0 = .ok (.aload_n 0, 1) := by decide +kernel
theorem dX11_free_1 : decode cX11_free 1 = .ok (.getfield 64, 3) := by decide +kernel
theorem dX11_free_4 : decode cX11_free 4 = .ok (.istore_n 1, 1) := by decide +kernel
theorem dX11_free_5 : decode cX11_free 5 = .ok (.iconst 0, 1) := by decide +kernel
theorem dX11_free_6 : decode cX11_free 6 = .ok (.istore_n 2, 1) := by decide +kernel
theorem dX11_free_7 : decode cX11_free 7 = .ok (.iload_n 2, 1) := by decide +kernel
theorem dX11_free_8 : decode cX11_free 8 = .ok (.aload_n 0, 1) := by decide +kernel
theorem dX11_free_9 : decode cX11_free 9 = .ok (.getfield 60, 3) := by decide +kernel
theorem dX11_free_12 : decode cX11_free 12 = .ok (.if_icmp .ge 35, 3) := by decide +kernel
theorem dX11_free_15 : decode cX11_free 15 = .ok (.iload_n 1, 1) := by decide +kernel
theorem dX11_free_16 : decode cX11_free 16 = .ok (.aload_n 0, 1) := by decide +kernel
theorem dX11_free_17 : decode cX11_free 17 = .ok (.getfield 40, 3) := by decide +kernel
theorem dX11_free_20 : decode cX11_free 20 = .ok (.iload_n 2, 1) := by decide +kernel
theorem dX11_free_21 : decode cX11_free 21 = .ok (.iaload, 1) := by decide +kernel
theorem dX11_free_22 : decode cX11_free 22 = .ok (.ifCond .lt 16, 3) := by decide +kernel
theorem dX11_free_25 : decode cX11_free 25 = .ok (.aload_n 0, 1) := by decide +kernel
theorem dX11_free_26 : decode cX11_free 26 = .ok (.getfield 56, 3) := by decide +kernel
theorem dX11_free_29 : decode cX11_free 29 = .ok (.iload_n 2, 1) := by decide +kernel
theorem dX11_free_30 : decode cX11_free 30 = .ok (.baload, 1) := by decide +kernel
theorem dX11_free_31 : decode cX11_free 31 = .ok (.ifCond .eq 7, 3) := by decide +kernel
theorem dX11_free_34 : decode cX11_free 34 = .ok (.iconst 1, 1) := by decide +kernel
theorem dX11_free_35 : decode cX11_free 35 = .ok (.goto 4, 3) := by decide +kernel
theorem dX11_free_38 : decode cX11_free 38 = .ok (.iconst 0, 1) := by decide +kernel
theorem dX11_free_39 : decode cX11_free 39 = .ok (.isub, 1) := by decide +kernel
theorem dX11_free_40 : decode cX11_free 40 = .ok (.istore_n 1, 1) := by decide +kernel
theorem dX11_free_41 : decode cX11_free 41 = .ok (.iinc 2 1, 3) := by decide +kernel
theorem dX11_free_44 : decode cX11_free 44 = .ok (.goto (-37), 3) := by decide +kernel
theorem dX11_free_47 : decode cX11_free 47 = .ok (.iload_n 1, 1) := by decide +kernel
theorem dX11_free_48 : decode cX11_free 48 = .ok (.ireturn, 1) := by decide +kernel
theorem dX11_isSpoken_0 : decode cX11_isSpoken 0 = .ok (.iconst 0, 1) := by decide +kernel
theorem dX11_isSpoken_1 : decode cX11_isSpoken 1 = .ok (.istore_n 2, 1) := by decide +kernel
theorem dX11_isSpoken_2 : decode cX11_isSpoken 2 = .ok (.iconst 0, 1) := by decide +kernel
theorem dX11_isSpoken_3 : decode cX11_isSpoken 3 = .ok (.istore_n 3, 1) := by decide +kernel
theorem dX11_isSpoken_4 : decode cX11_isSpoken 4 = .ok (.iload_n 3, 1) := by decide +kernel
theorem dX11_isSpoken_5 : decode cX11_isSpoken 5 = .ok (.aload_n 0, 1) := by decide +kernel
theorem dX11_isSpoken_6 : decode cX11_isSpoken 6 = .ok (.getfield 60, 3) := by decide +kernel
theorem dX11_isSpoken_9 : decode cX11_isSpoken 9 = .ok (.if_icmp .ge 38, 3) := by decide +kernel
theorem dX11_isSpoken_12 : decode cX11_isSpoken 12 = .ok (.iload_n 2, 1) := by decide +kernel
theorem dX11_isSpoken_13 : decode cX11_isSpoken 13 = .ok (.ifCond .ne 22, 3) := by decide +kernel
theorem dX11_isSpoken_16 : decode cX11_isSpoken 16 = .ok (.aload_n 0, 1) := by decide +kernel
theorem dX11_isSpoken_17 : decode cX11_isSpoken 17 = .ok (.getfield 40, 3) := by decide +kernel
theorem dX11_isSpoken_20 : decode cX11_isSpoken 20 = .ok (.iload_n 3, 1) := by decide +kernel
theorem dX11_isSpoken_21 : decode cX11_isSpoken 21 = .ok (.iaload, 1) := by decide +kernel
theorem dX11_isSpoken_22 : decode cX11_isSpoken 22 = .ok (.ifCond .lt 17, 3) := by decide +kernel
theorem dX11_isSpoken_25 : decode cX11_isSpoken 25 = .ok (.aload_n 0, 1) := by decide +kernel
theorem dX11_isSpoken_26 : decode cX11_isSpoken 26 = .ok (.getfield 43, 3) := by decide +kernel
theorem dX11_isSpoken_29 : decode cX11_isSpoken 29 = .ok (.iload_n 3, 1) := by decide +kernel
theorem dX11_isSpoken_30 : decode cX11_isSpoken 30 = .ok (.iaload, 1) := by decide +kernel
theorem dX11_isSpoken_31 : decode cX11_isSpoken 31 = .ok (.iload_n 1, 1) := by decide +kernel
theorem dX11_isSpoken_32 : decode cX11_isSpoken 32 = .ok (.if_icmp .ne 7, 3) := by decide +kernel
theorem dX11_isSpoken_35 : decode cX11_isSpoken 35 = .ok (.iconst 1, 1) := by decide +kernel
theorem dX11_isSpoken_36 : decode cX11_isSpoken 36 = .ok (.goto 4, 3) := by decide +kernel
theorem dX11_isSpoken_39 : decode cX11_isSpoken 39 = .ok (.iconst 0, 1) := by decide +kernel
theorem dX11_isSpoken_40 : decode cX11_isSpoken 40 = .ok (.istore_n 2, 1) := by decide +kernel
theorem dX11_isSpoken_41 : decode cX11_isSpoken 41 = .ok (.iinc 3 1, 3) := by decide +kernel
theorem dX11_isSpoken_44 : decode cX11_isSpoken 44 = .ok (.goto (-40), 3) := by decide +kernel
theorem dX11_isSpoken_47 : decode cX11_isSpoken 47 = .ok (.iload_n 2, 1) := by decide +kernel
theorem dX11_isSpoken_48 : decode cX11_isSpoken 48 = .ok (.ireturn, 1) := by decide +kernel
theorem dX11_score_0 : decode cX11_score 0 = .ok (.iload_n 2, 1) := by decide +kernel
theorem dX11_score_1 : decode cX11_score 1 = .ok (.iconst 1, 1) := by decide +kernel
theorem dX11_score_2 : decode cX11_score 2 = .ok (.if_icmp .ne 14, 3) := by decide +kernel
theorem dX11_score_5 : decode cX11_score 5 = .ok (.aload_n 0, 1) := by decide +kernel
theorem dX11_score_6 : decode cX11_score 6 = .ok (.getfield 7, 3) := by decide +kernel
theorem dX11_score_9 : decode cX11_score 9 = .ok (.aload_n 0, 1) := by decide +kernel
theorem dX11_score_10 : decode cX11_score 10 = .ok (.iload_n 1, 1) := by decide +kernel
theorem dX11_score_11 : decode cX11_score 11 = .ok (.invokevirtual 112, 3) := by decide +kernel
theorem dX11_score_14 : decode cX11_score 14 = .ok (.iaload, 1) := by decide +kernel
theorem dX11_score_15 : decode cX11_score 15 = .ok (.ireturn, 1) := by decide +kernel
theorem dX11_score_16 : decode cX11_score 16 = .ok (.iload_n 2, 1) := by decide +kernel
theorem dX11_score_17 : decode cX11_score 17 = .ok (.iconst 2, 1) := by decide +kernel
theorem dX11_score_18 : decode cX11_score 18 = .ok (.if_icmp .ne 15, 3) := by decide +kernel
theorem dX11_score_21 : decode cX11_score 21 = .ok (.aload_n 0, 1) := by decide +kernel
theorem dX11_score_22 : decode cX11_score 22 = .ok (.getfield 22, 3) := by decide +kernel
theorem dX11_score_25 : decode cX11_score 25 = .ok (.aload_n 0, 1) := by decide +kernel
theorem dX11_score_26 : decode cX11_score 26 = .ok (.iload_n 1, 1) := by decide +kernel
theorem dX11_score_27 : decode cX11_score 27 = .ok (.invokevirtual 112, 3) := by decide +kernel
theorem dX11_score_30 : decode cX11_score 30 = .ok (.iaload, 1) := by decide +kernel
theorem dX11_score_31 : decode cX11_score 31 = .ok (.ineg, 1) := by decide +kernel
theorem dX11_score_32 : decode cX11_score 32 = .ok (.ireturn, 1) := by decide +kernel
theorem dX11_score_33 : decode cX11_score 33 = .ok (.aload_n 0, 1) := by decide +kernel
theorem dX11_score_34 : decode cX11_score 34 = .ok (.getfield 34, 3) := by decide +kernel
theorem dX11_score_37 : decode cX11_score 37 = .ok (.aload_n 0, 1) := by decide +kernel
theorem dX11_score_38 : decode cX11_score 38 = .ok (.iload_n 1, 1) := by decide +kernel
theorem dX11_score_39 : decode cX11_score 39 = .ok (.invokevirtual 116, 3) := by decide +kernel
theorem dX11_score_42 : decode cX11_score 42 = .ok (.iaload, 1) := by decide +kernel
theorem dX11_score_43 : decode cX11_score 43 = .ok (.istore_n 3, 1) := by decide +kernel
theorem dX11_score_44 : decode cX11_score 44 = .ok (.iload_n 2, 1) := by decide +kernel
theorem dX11_score_45 : decode cX11_score 45 = .ok (.iconst 3, 1) := by decide +kernel
theorem dX11_score_46 : decode cX11_score 46 = .ok (.if_icmp .ne 28, 3) := by decide +kernel
theorem dX11_score_49 : decode cX11_score 49 = .ok (.iload_n 3, 1) := by decide +kernel
theorem dX11_score_50 : decode cX11_score 50 = .ok (.ifCond .eq 24, 3) := by decide +kernel
theorem dX11_score_53 : decode cX11_score 53 = .ok (.iload_n 3, 1) := by decide +kernel
theorem dX11_score_54 : decode cX11_score 54 = .ok (.ifCond .le 7, 3) := by decide +kernel
theorem dX11_score_57 : decode cX11_score 57 = .ok (.iconst 1, 1) := by decide +kernel
theorem dX11_score_58 : decode cX11_score 58 = .ok (.goto 4, 3) := by decide +kernel
theorem dX11_score_61 : decode cX11_score 61 = .ok (.iconst 0, 1) := by decide +kernel
theorem dX11_score_62 : decode cX11_score 62 = .ok (.aload_n 0, 1) := by decide +kernel
theorem dX11_score_63 : decode cX11_score 63 = .ok (.iload_n 1, 1) := by decide +kernel
theorem dX11_score_64 : decode cX11_score 64 = .ok (.invokevirtual 119, 3) := by decide +kernel
theorem dX11_score_67 : decode cX11_score 67 = .ok (.if_icmp .eq 7, 3) := by decide +kernel
theorem dX11_score_70 : decode cX11_score 70 = .ok (.iconst 1, 1) := by decide +kernel
theorem dX11_score_71 : decode cX11_score 71 = .ok (.goto 4, 3) := by decide +kernel
theorem dX11_score_74 : decode cX11_score 74 = .ok (.iconst 0, 1) := by decide +kernel
theorem dX11_score_75 : decode cX11_score 75 = .ok (.ireturn, 1) := by decide +kernel
theorem dX11_firstBy_0 : decode cX11_firstBy 0 = .ok (.iconst (-1), 1) := by decide +kernel
theorem dX11_firstBy_1 : decode cX11_firstBy 1 = .ok (.istore_n 2, 1) := by decide +kernel
theorem dX11_firstBy_2 : decode cX11_firstBy 2 = .ok (.aload_n 0, 1) := by decide +kernel
theorem dX11_firstBy_3 : decode cX11_firstBy 3 = .ok (.invokevirtual 123, 3) := by decide +kernel
theorem dX11_firstBy_6 : decode cX11_firstBy 6 = .ok (.iconst 1, 1) := by decide +kernel
theorem dX11_firstBy_7 : decode cX11_firstBy 7 = .ok (.isub, 1) := by decide +kernel
theorem dX11_firstBy_8 : decode cX11_firstBy 8 = .ok (.istore_n 3, 1) := by decide +kernel
theorem dX11_firstBy_9 : decode cX11_firstBy 9 = .ok (.iload_n 3, 1) := by decide +kernel
theorem dX11_firstBy_10 : decode cX11_firstBy 10 = .ok (.ifCond .lt 34, 3) := by decide +kernel
theorem dX11_firstBy_13 : decode cX11_firstBy 13 = .ok (.iload_n 2, 1) := by decide +kernel
theorem dX11_firstBy_14 : decode cX11_firstBy 14 = .ok (.ifCond .lt 18, 3) := by decide +kernel
theorem dX11_firstBy_17 : decode cX11_firstBy 17 = .ok (.aload_n 0, 1) := by decide +kernel
theorem dX11_firstBy_18 : decode cX11_firstBy 18 = .ok (.iload_n 3, 1) := by decide +kernel
theorem dX11_firstBy_19 : decode cX11_firstBy 19 = .ok (.iload_n 1, 1) := by decide +kernel
theorem dX11_firstBy_20 : decode cX11_firstBy 20 = .ok (.invokevirtual 127, 3) := by decide +kernel
theorem dX11_firstBy_23 : decode cX11_firstBy 23 = .ok (.aload_n 0, 1) := by decide +kernel
theorem dX11_firstBy_24 : decode cX11_firstBy 24 = .ok (.iload_n 2, 1) := by decide +kernel
theorem dX11_firstBy_25 : decode cX11_firstBy 25 = .ok (.iload_n 1, 1) := by decide +kernel
theorem dX11_firstBy_26 : decode cX11_firstBy 26 = .ok (.invokevirtual 127, 3) := by decide +kernel
theorem dX11_firstBy_29 : decode cX11_firstBy 29 = .ok (.if_icmp .lt 7, 3) := by decide +kernel
theorem dX11_firstBy_32 : decode cX11_firstBy 32 = .ok (.iload_n 3, 1) := by decide +kernel
theorem dX11_firstBy_33 : decode cX11_firstBy 33 = .ok (.goto 4, 3) := by decide +kernel
theorem dX11_firstBy_36 : decode cX11_firstBy 36 = .ok (.iload_n 2, 1) := by decide +kernel
theorem dX11_firstBy_37 : decode cX11_firstBy 37 = .ok (.istore_n 2, 1) := by decide +kernel
theorem dX11_firstBy_38 : decode cX11_firstBy 38 = .ok (.iinc 3 (-1), 3) := by decide +kernel
theorem dX11_firstBy_41 : decode cX11_firstBy 41 = .ok (.goto (-32), 3) := by decide +kernel
theorem dX11_firstBy_44 : decode cX11_firstBy 44 = .ok (.iload_n 2, 1) := by decide +kernel
theorem dX11_firstBy_45 : decode cX11_firstBy 45 = .ok (.ireturn, 1) := by decide +kernel
theorem dX11_removes_0 : decode cX11_removes 0 = .ok (.iload_n 1, 1) := by decide +kernel
theorem dX11_removes_1 : decode cX11_removes 1 = .ok (.istore_n 2, 1) := by decide +kernel
theorem dX11_removes_2 : decode cX11_removes 2 = .ok (.iload_n 2, 1) := by decide +kernel
theorem dX11_removes_3 : decode cX11_removes 3 = .ok (.bipush 12, 2) := by decide +kernel
theorem dX11_removes_5 : decode cX11_removes 5 = .ok (.if_icmp .ge 23, 3) := by decide +kernel
theorem dX11_removes_8 : decode cX11_removes 8 = .ok (.aload_n 0, 1) := by decide +kernel
theorem dX11_removes_9 : decode cX11_removes 9 = .ok (.getfield 49, 3) := by decide +kernel
theorem dX11_removes_12 : decode cX11_removes 12 = .ok (.iload_n 2, 1) := by decide +kernel
theorem dX11_removes_13 : decode cX11_removes 13 = .ok (.aload_n 0, 1) := by decide +kernel
theorem dX11_removes_14 : decode cX11_removes 14 = .ok (.getfield 49, 3) := by decide +kernel
theorem dX11_removes_17 : decode cX11_removes 17 = .ok (.iload_n 2, 1) := by decide +kernel
theorem dX11_removes_18 : decode cX11_removes 18 = .ok (.iconst 1, 1) := by decide +kernel
theorem dX11_removes_19 : decode cX11_removes 19 = .ok (.iadd, 1) := by decide +kernel
theorem dX11_removes_20 : decode cX11_removes 20 = .ok (.iaload, 1) := by decide +kernel
theorem dX11_removes_21 : decode cX11_removes 21 = .ok (.iastore, 1) := by decide +kernel
theorem dX11_removes_22 : decode cX11_removes 22 = .ok (.iinc 2 1, 3) := by decide +kernel
theorem dX11_removes_25 : decode cX11_removes 25 = .ok (.goto (-23), 3) := by decide +kernel
theorem dX11_removes_28 : decode cX11_removes 28 = .ok (.aload_n 0, 1) := by decide +kernel
theorem dX11_removes_29 : decode cX11_removes 29 = .ok (.getfield 49, 3) := by decide +kernel
theorem dX11_removes_32 : decode cX11_removes 32 = .ok (.bipush 12, 2) := by decide +kernel
theorem dX11_removes_34 : decode cX11_removes 34 = .ok (.iconst 0, 1) := by decide +kernel
theorem dX11_removes_35 : decode cX11_removes 35 = .ok (.iastore, 1) := by decide +kernel
theorem dX11_removes_36 : decode cX11_removes 36 = .ok (.return_, 1) := by decide +kernel
theorem dX11_removesAll_0 : decode cX11_removesAll 0 = .ok (.iconst 0, 1) := by decide +kernel
theorem dX11_removesAll_1 : decode cX11_removesAll 1 = .ok (.istore_n 2, 1) := by decide +kernel
theorem dX11_removesAll_2 : decode cX11_removesAll 2 = .ok (.iconst 0, 1) := by decide +kernel
theorem dX11_removesAll_3 : decode cX11_removesAll 3 = .ok (.istore_n 3, 1) := by decide +kernel
theorem dX11_removesAll_4 : decode cX11_removesAll 4 = .ok (.aload_n 0, 1) := by decide +kernel
theorem dX11_removesAll_5 : decode cX11_removesAll 5 = .ok (.getfield 49, 3) := by decide +kernel
theorem dX11_removesAll_8 : decode cX11_removesAll 8 = .ok (.iload_n 3, 1) := by decide +kernel
theorem dX11_removesAll_9 : decode cX11_removesAll 9 = .ok (.iaload, 1) := by decide +kernel
theorem dX11_removesAll_10 : decode cX11_removesAll 10 = .ok (.ifCond .le 32, 3) := by decide +kernel
theorem dX11_removesAll_13 : decode cX11_removesAll 13 = .ok (.aload_n 0, 1) := by decide +kernel
theorem dX11_removesAll_14 : decode cX11_removesAll 14 = .ok (.iload_n 3, 1) := by decide +kernel
theorem dX11_removesAll_15 : decode cX11_removesAll 15 = .ok (.invokevirtual 116, 3) := by decide +kernel
theorem dX11_removesAll_18 : decode cX11_removesAll 18 = .ok (.iload_n 1, 1) := by decide +kernel
theorem dX11_removesAll_19 : decode cX11_removesAll 19 = .ok (.if_icmp .eq 6, 3) := by decide +kernel
theorem dX11_removesAll_22 : decode cX11_removesAll 22 = .ok (.goto 14, 3) := by decide +kernel
theorem dX11_removesAll_25 : decode cX11_removesAll 25 = .ok (.aload_n 0, 1) := by decide +kernel
theorem dX11_removesAll_26 : decode cX11_removesAll 26 = .ok (.iload_n 3, 1) := by decide +kernel
theorem dX11_removesAll_27 : decode cX11_removesAll 27 = .ok (.invokevirtual 131, 3) := by decide +kernel
theorem dX11_removesAll_30 : decode cX11_removesAll 30 = .ok (.iinc 3 (-1), 3) := by decide +kernel
theorem dX11_removesAll_33 : decode cX11_removesAll 33 = .ok (.iinc 2 1, 3) := by decide +kernel
theorem dX11_removesAll_36 : decode cX11_removesAll 36 = .ok (.iinc 3 1, 3) := by decide +kernel
theorem dX11_removesAll_39 : decode cX11_removesAll 39 = .ok (.goto (-35), 3) := by decide +kernel
theorem dX11_removesAll_42 : decode cX11_removesAll 42 = .ok (.iload_n 2, 1) := by decide +kernel
theorem dX11_removesAll_43 : decode cX11_removesAll 43 = .ok (.ireturn, 1) := by decide +kernel
theorem dX11_minutes_0 : decode cX11_minutes 0 = .ok (.aload_n 0, 1) := by decide +kernel
theorem dX11_minutes_1 : decode cX11_minutes 1 = .ok (.dup, 1) := by decide +kernel
theorem dX11_minutes_2 : decode cX11_minutes 2 = .ok (.getfield 82, 3) := by decide +kernel
theorem dX11_minutes_5 : decode cX11_minutes 5 = .ok (.iconst 1, 1) := by decide +kernel
theorem dX11_minutes_6 : decode cX11_minutes 6 = .ok (.iadd, 1) := by decide +kernel
theorem dX11_minutes_7 : decode cX11_minutes 7 = .ok (.putfield 82, 3) := by decide +kernel
theorem dX11_minutes_10 : decode cX11_minutes 10 = .ok (.iconst 0, 1) := by decide +kernel
theorem dX11_minutes_11 : decode cX11_minutes 11 = .ok (.istore_n 1, 1) := by decide +kernel
theorem dX11_minutes_12 : decode cX11_minutes 12 = .ok (.iload_n 1, 1) := by decide +kernel
theorem dX11_minutes_13 : decode cX11_minutes 13 = .ok (.aload_n 0, 1) := by decide +kernel
theorem dX11_minutes_14 : decode cX11_minutes 14 = .ok (.getfield 88, 3) := by decide +kernel
theorem dX11_minutes_17 : decode cX11_minutes 17 = .ok (.if_icmp .ge 53, 3) := by decide +kernel
theorem dX11_minutes_20 : decode cX11_minutes 20 = .ok (.aload_n 0, 1) := by decide +kernel
theorem dX11_minutes_21 : decode cX11_minutes 21 = .ok (.getfield 28, 3) := by decide +kernel
theorem dX11_minutes_24 : decode cX11_minutes 24 = .ok (.iload_n 1, 1) := by decide +kernel
theorem dX11_minutes_25 : decode cX11_minutes 25 = .ok (.dup2, 1) := by decide +kernel
theorem dX11_minutes_26 : decode cX11_minutes 26 = .ok (.iaload, 1) := by decide +kernel
theorem dX11_minutes_27 : decode cX11_minutes 27 = .ok (.aload_n 0, 1) := by decide +kernel
theorem dX11_minutes_28 : decode cX11_minutes 28 = .ok (.getfield 31, 3) := by decide +kernel
theorem dX11_minutes_31 : decode cX11_minutes 31 = .ok (.iload_n 1, 1) := by decide +kernel
theorem dX11_minutes_32 : decode cX11_minutes 32 = .ok (.iaload, 1) := by decide +kernel
theorem dX11_minutes_33 : decode cX11_minutes 33 = .ok (.ifCond .ne 28, 3) := by decide +kernel
theorem dX11_minutes_36 : decode cX11_minutes 36 = .ok (.aload_n 0, 1) := by decide +kernel
theorem dX11_minutes_37 : decode cX11_minutes 37 = .ok (.getfield 82, 3) := by decide +kernel
theorem dX11_minutes_40 : decode cX11_minutes 40 = .ok (.aload_n 0, 1) := by decide +kernel
theorem dX11_minutes_41 : decode cX11_minutes 41 = .ok (.getfield 73, 3) := by decide +kernel
theorem dX11_minutes_44 : decode cX11_minutes 44 = .ok (.irem, 1) := by decide +kernel
theorem dX11_minutes_45 : decode cX11_minutes 45 = .ok (.ifCond .ne 16, 3) := by decide +kernel
theorem dX11_minutes_48 : decode cX11_minutes 48 = .ok (.aload_n 0, 1) := by decide +kernel
theorem dX11_minutes_49 : decode cX11_minutes 49 = .ok (.getfield 28, 3) := by decide +kernel
theorem dX11_minutes_52 : decode cX11_minutes 52 = .ok (.iload_n 1, 1) := by decide +kernel
theorem dX11_minutes_53 : decode cX11_minutes 53 = .ok (.iaload, 1) := by decide +kernel
theorem dX11_minutes_54 : decode cX11_minutes 54 = .ok (.ifCond .le 7, 3) := by decide +kernel
theorem dX11_minutes_57 : decode cX11_minutes 57 = .ok (.iconst 1, 1) := by decide +kernel
theorem dX11_minutes_58 : decode cX11_minutes 58 = .ok (.goto 4, 3) := by decide +kernel
theorem dX11_minutes_61 : decode cX11_minutes 61 = .ok (.iconst 0, 1) := by decide +kernel
theorem dX11_minutes_62 : decode cX11_minutes 62 = .ok (.isub, 1) := by decide +kernel
theorem dX11_minutes_63 : decode cX11_minutes 63 = .ok (.iastore, 1) := by decide +kernel
theorem dX11_minutes_64 : decode cX11_minutes 64 = .ok (.iinc 1 1, 3) := by decide +kernel
theorem dX11_minutes_67 : decode cX11_minutes 67 = .ok (.goto (-55), 3) := by decide +kernel
theorem dX11_minutes_70 : decode cX11_minutes 70 = .ok (.iconst 0, 1) := by decide +kernel
theorem dX11_minutes_71 : decode cX11_minutes 71 = .ok (.istore_n 1, 1) := by decide +kernel
theorem dX11_minutes_72 : decode cX11_minutes 72 = .ok (.iload_n 1, 1) := by decide +kernel
theorem dX11_minutes_73 : decode cX11_minutes 73 = .ok (.aload_n 0, 1) := by decide +kernel
theorem dX11_minutes_74 : decode cX11_minutes 74 = .ok (.getfield 60, 3) := by decide +kernel
theorem dX11_minutes_77 : decode cX11_minutes 77 = .ok (.if_icmp .ge 248, 3) := by decide +kernel
theorem dX11_minutes_80 : decode cX11_minutes 80 = .ok (.aload_n 0, 1) := by decide +kernel
theorem dX11_minutes_81 : decode cX11_minutes 81 = .ok (.getfield 40, 3) := by decide +kernel
theorem dX11_minutes_84 : decode cX11_minutes 84 = .ok (.iload_n 1, 1) := by decide +kernel
theorem dX11_minutes_85 : decode cX11_minutes 85 = .ok (.iaload, 1) := by decide +kernel
theorem dX11_minutes_86 : decode cX11_minutes 86 = .ok (.ifCond .ge 6, 3) := by decide +kernel
theorem dX11_minutes_89 : decode cX11_minutes 89 = .ok (.goto 230, 3) := by decide +kernel
theorem dX11_minutes_92 : decode cX11_minutes 92 = .ok (.aload_n 0, 1) := by decide +kernel
theorem dX11_minutes_93 : decode cX11_minutes 93 = .ok (.getfield 46, 3) := by decide +kernel
theorem dX11_minutes_96 : decode cX11_minutes 96 = .ok (.iload_n 1, 1) := by decide +kernel
theorem dX11_minutes_97 : decode cX11_minutes 97 = .ok (.dup2, 1) := by decide +kernel
theorem dX11_minutes_98 : decode cX11_minutes 98 = .ok (.iaload, 1) := by decide +kernel
theorem dX11_minutes_99 : decode cX11_minutes 99 = .ok (.iconst 1, 1) := by decide +kernel
theorem dX11_minutes_100 : decode cX11_minutes 100 = .ok (.isub, 1) := by decide +kernel
theorem dX11_minutes_101 : decode cX11_minutes 101 = .ok (.iastore, 1) := by decide +kernel
theorem dX11_minutes_102 : decode cX11_minutes 102 = .ok (.aload_n 0, 1) := by decide +kernel
theorem dX11_minutes_103 : decode cX11_minutes 103 = .ok (.getfield 46, 3) := by decide +kernel
theorem dX11_minutes_106 : decode cX11_minutes 106 = .ok (.iload_n 1, 1) := by decide +kernel
theorem dX11_minutes_107 : decode cX11_minutes 107 = .ok (.iaload, 1) := by decide +kernel
theorem dX11_minutes_108 : decode cX11_minutes 108 = .ok (.ifCond .le 6, 3) := by decide +kernel
theorem dX11_minutes_111 : decode cX11_minutes 111 = .ok (.goto 208, 3) := by decide +kernel
theorem dX11_minutes_114 : decode cX11_minutes 114 = .ok (.aload_n 0, 1) := by decide +kernel
theorem dX11_minutes_115 : decode cX11_minutes 115 = .ok (.getfield 43, 3) := by decide +kernel
theorem dX11_minutes_118 : decode cX11_minutes 118 = .ok (.iload_n 1, 1) := by decide +kernel
theorem dX11_minutes_119 : decode cX11_minutes 119 = .ok (.iaload, 1) := by decide +kernel
theorem dX11_minutes_120 : decode cX11_minutes 120 = .ok (.istore_n 2, 1) := by decide +kernel
theorem dX11_minutes_121 : decode cX11_minutes 121 = .ok (.aload_n 0, 1) := by decide +kernel
theorem dX11_minutes_122 : decode cX11_minutes 122 = .ok (.getfield 56, 3) := by decide +kernel
theorem dX11_minutes_125 : decode cX11_minutes 125 = .ok (.iload_n 1, 1) := by decide +kernel
theorem dX11_minutes_126 : decode cX11_minutes 126 = .ok (.baload, 1) := by decide +kernel
theorem dX11_minutes_127 : decode cX11_minutes 127 = .ok (.ifCond .eq 7, 3) := by decide +kernel
theorem dX11_minutes_130 : decode cX11_minutes 130 = .ok (.iconst 1, 1) := by decide +kernel
theorem dX11_minutes_131 : decode cX11_minutes 131 = .ok (.goto 4, 3) := by decide +kernel
theorem dX11_minutes_134 : decode cX11_minutes 134 = .ok (.iconst 2, 1) := by decide +kernel
theorem dX11_minutes_135 : decode cX11_minutes 135 = .ok (.aload_n 0, 1) := by decide +kernel
theorem dX11_minutes_136 : decode cX11_minutes 136 = .ok (.getfield 52, 3) := by decide +kernel
theorem dX11_minutes_139 : decode cX11_minutes 139 = .ok (.iload_n 1, 1) := by decide +kernel
theorem dX11_minutes_140 : decode cX11_minutes 140 = .ok (.baload, 1) := by decide +kernel
theorem dX11_minutes_141 : decode cX11_minutes 141 = .ok (.ifCond .eq 7, 3) := by decide +kernel
theorem dX11_minutes_144 : decode cX11_minutes 144 = .ok (.iconst 1, 1) := by decide +kernel
theorem dX11_minutes_145 : decode cX11_minutes 145 = .ok (.goto 4, 3) := by decide +kernel
theorem dX11_minutes_148 : decode cX11_minutes 148 = .ok (.iconst (-1), 1) := by decide +kernel
theorem dX11_minutes_149 : decode cX11_minutes 149 = .ok (.imul, 1) := by decide +kernel
theorem dX11_minutes_150 : decode cX11_minutes 150 = .ok (.istore_n 3, 1) := by decide +kernel
theorem dX11_minutes_151 : decode cX11_minutes 151 = .ok (.iconst 0, 1) := by decide +kernel
theorem dX11_minutes_152 : decode cX11_minutes 152 = .ok (.istore 4, 2) := by decide +kernel
theorem dX11_minutes_154 : decode cX11_minutes 154 = .ok (.iload 4, 2) := by decide +kernel
theorem dX11_minutes_156 : decode cX11_minutes 156 = .ok (.aload_n 0, 1) := by decide +kernel
theorem dX11_minutes_157 : decode cX11_minutes 157 = .ok (.getfield 85, 3) := by decide +kernel
theorem dX11_minutes_160 : decode cX11_minutes 160 = .ok (.if_icmp .ge 117, 3) := by decide +kernel
theorem dX11_minutes_163 : decode cX11_minutes 163 = .ok (.aload_n 0, 1) := by decide +kernel
theorem dX11_minutes_164 : decode cX11_minutes 164 = .ok (.getfield 13, 3) := by decide +kernel
theorem dX11_minutes_167 : decode cX11_minutes 167 = .ok (.iload 4, 2) := by decide +kernel
theorem dX11_minutes_169 : decode cX11_minutes 169 = .ok (.iaload, 1) := by decide +kernel
theorem dX11_minutes_170 : decode cX11_minutes 170 = .ok (.aload_n 0, 1) := by decide +kernel
theorem dX11_minutes_171 : decode cX11_minutes 171 = .ok (.getfield 13, 3) := by decide +kernel
theorem dX11_minutes_174 : decode cX11_minutes 174 = .ok (.aload_n 0, 1) := by decide +kernel
theorem dX11_minutes_175 : decode cX11_minutes 175 = .ok (.getfield 40, 3) := by decide +kernel
theorem dX11_minutes_178 : decode cX11_minutes 178 = .ok (.iload_n 1, 1) := by decide +kernel
theorem dX11_minutes_179 : decode cX11_minutes 179 = .ok (.iaload, 1) := by decide +kernel
theorem dX11_minutes_180 : decode cX11_minutes 180 = .ok (.iaload, 1) := by decide +kernel
theorem dX11_minutes_181 : decode cX11_minutes 181 = .ok (.isub, 1) := by decide +kernel
theorem dX11_minutes_182 : decode cX11_minutes 182 = .ok (.istore 5, 2) := by decide +kernel
theorem dX11_minutes_184 : decode cX11_minutes 184 = .ok (.iload 4, 2) := by decide +kernel
theorem dX11_minutes_186 : decode cX11_minutes 186 = .ok (.aload_n 0, 1) := by decide +kernel
theorem dX11_minutes_187 : decode cX11_minutes 187 = .ok (.getfield 40, 3) := by decide +kernel
theorem dX11_minutes_190 : decode cX11_minutes 190 = .ok (.iload_n 1, 1) := by decide +kernel
theorem dX11_minutes_191 : decode cX11_minutes 191 = .ok (.iaload, 1) := by decide +kernel
theorem dX11_minutes_192 : decode cX11_minutes 192 = .ok (.if_icmp .eq 79, 3) := by decide +kernel
theorem dX11_minutes_195 : decode cX11_minutes 195 = .ok (.iload 5, 2) := by decide +kernel
theorem dX11_minutes_197 : decode cX11_minutes 197 = .ok (.aload_n 0, 1) := by decide +kernel
theorem dX11_minutes_198 : decode cX11_minutes 198 = .ok (.getfield 70, 3) := by decide +kernel
theorem dX11_minutes_201 : decode cX11_minutes 201 = .ok (.if_icmp .gt 70, 3) := by decide +kernel
theorem dX11_minutes_204 : decode cX11_minutes 204 = .ok (.iload 5, 2) := by decide +kernel
theorem dX11_minutes_206 : decode cX11_minutes 206 = .ok (.ineg, 1) := by decide +kernel
theorem dX11_minutes_207 : decode cX11_minutes 207 = .ok (.aload_n 0, 1) := by decide +kernel
theorem dX11_minutes_208 : decode cX11_minutes 208 = .ok (.getfield 70, 3) := by decide +kernel
theorem dX11_minutes_211 : decode cX11_minutes 211 = .ok (.if_icmp .le 6, 3) := by decide +kernel
theorem dX11_minutes_214 : decode cX11_minutes 214 = .ok (.goto 57, 3) := by decide +kernel
theorem dX11_minutes_217 : decode cX11_minutes 217 = .ok (.aload_n 0, 1) := by decide +kernel
theorem dX11_minutes_218 : decode cX11_minutes 218 = .ok (.getfield 37, 3) := by decide +kernel
theorem dX11_minutes_221 : decode cX11_minutes 221 = .ok (.bipush 16, 2) := by decide +kernel
theorem dX11_minutes_223 : decode cX11_minutes 223 = .ok (.iload 4, 2) := by decide +kernel
theorem dX11_minutes_225 : decode cX11_minutes 225 = .ok (.imul, 1) := by decide +kernel
theorem dX11_minutes_226 : decode cX11_minutes 226 = .ok (.iload_n 2, 1) := by decide +kernel
theorem dX11_minutes_227 : decode cX11_minutes 227 = .ok (.iadd, 1) := by decide +kernel
theorem dX11_minutes_228 : decode cX11_minutes 228 = .ok (.iaload, 1) := by decide +kernel
theorem dX11_minutes_229 : decode cX11_minutes 229 = .ok (.iload_n 3, 1) := by decide +kernel
theorem dX11_minutes_230 : decode cX11_minutes 230 = .ok (.iadd, 1) := by decide +kernel
theorem dX11_minutes_231 : decode cX11_minutes 231 = .ok (.istore 6, 2) := by decide +kernel
theorem dX11_minutes_233 : decode cX11_minutes 233 = .ok (.aload_n 0, 1) := by decide +kernel
theorem dX11_minutes_234 : decode cX11_minutes 234 = .ok (.getfield 37, 3) := by decide +kernel
theorem dX11_minutes_237 : decode cX11_minutes 237 = .ok (.bipush 16, 2) := by decide +kernel
theorem dX11_minutes_239 : decode cX11_minutes 239 = .ok (.iload 4, 2) := by decide +kernel
theorem dX11_minutes_241 : decode cX11_minutes 241 = .ok (.imul, 1) := by decide +kernel
theorem dX11_minutes_242 : decode cX11_minutes 242 = .ok (.iload_n 2, 1) := by decide +kernel
theorem dX11_minutes_243 : decode cX11_minutes 243 = .ok (.iadd, 1) := by decide +kernel
theorem dX11_minutes_244 : decode cX11_minutes 244 = .ok (.iload 6, 2) := by decide +kernel
theorem dX11_minutes_246 : decode cX11_minutes 246 = .ok (.bipush 20, 2) := by decide +kernel
theorem dX11_minutes_248 : decode cX11_minutes 248 = .ok (.if_icmp .le 8, 3) := by decide +kernel
theorem dX11_minutes_251 : decode cX11_minutes 251 = .ok (.bipush 20, 2) := by decide +kernel
theorem dX11_minutes_253 : decode cX11_minutes 253 = .ok (.goto 17, 3) := by decide +kernel
theorem dX11_minutes_256 : decode cX11_minutes 256 = .ok (.iload 6, 2) := by decide +kernel
theorem dX11_minutes_258 : decode cX11_minutes 258 = .ok (.bipush (-20), 2) := by decide +kernel
theorem dX11_minutes_260 : decode cX11_minutes 260 = .ok (.if_icmp .ge 8, 3) := by decide +kernel
theorem dX11_minutes_263 : decode cX11_minutes 263 = .ok (.bipush (-20), 2) := by decide +kernel
theorem dX11_minutes_265 : decode cX11_minutes 265 = .ok (.goto 5, 3) := by decide +kernel
theorem dX11_minutes_268 : decode cX11_minutes 268 = .ok (.iload 6, 2) := by decide +kernel
theorem dX11_minutes_270 : decode cX11_minutes 270 = .ok (.iastore, 1) := by decide +kernel
theorem dX11_minutes_271 : decode cX11_minutes 271 = .ok (.iinc 4 1, 3) := by decide +kernel
theorem dX11_minutes_274 : decode cX11_minutes 274 = .ok (.goto (-120), 3) := by decide +kernel
theorem dX11_minutes_277 : decode cX11_minutes 277 = .ok (.aload_n 0, 1) := by decide +kernel
theorem dX11_minutes_278 : decode cX11_minutes 278 = .ok (.getfield 28, 3) := by decide +kernel
theorem dX11_minutes_281 : decode cX11_minutes 281 = .ok (.iload_n 2, 1) := by decide +kernel
theorem dX11_minutes_282 : decode cX11_minutes 282 = .ok (.dup2, 1) := by decide +kernel
theorem dX11_minutes_283 : decode cX11_minutes 283 = .ok (.iaload, 1) := by decide +kernel
theorem dX11_minutes_284 : decode cX11_minutes 284 = .ok (.aload_n 0, 1) := by decide +kernel
theorem dX11_minutes_285 : decode cX11_minutes 285 = .ok (.getfield 28, 3) := by decide +kernel
theorem dX11_minutes_288 : decode cX11_minutes 288 = .ok (.iload_n 2, 1) := by decide +kernel
theorem dX11_minutes_289 : decode cX11_minutes 289 = .ok (.iaload, 1) := by decide +kernel
theorem dX11_minutes_290 : decode cX11_minutes 290 = .ok (.bipush 9, 2) := by decide +kernel
theorem dX11_minutes_292 : decode cX11_minutes 292 = .ok (.if_icmp .ge 7, 3) := by decide +kernel
theorem dX11_minutes_295 : decode cX11_minutes 295 = .ok (.iconst 1, 1) := by decide +kernel
theorem dX11_minutes_296 : decode cX11_minutes 296 = .ok (.goto 4, 3) := by decide +kernel
theorem dX11_minutes_299 : decode cX11_minutes 299 = .ok (.iconst 0, 1) := by decide +kernel
theorem dX11_minutes_300 : decode cX11_minutes 300 = .ok (.iadd, 1) := by decide +kernel
theorem dX11_minutes_301 : decode cX11_minutes 301 = .ok (.iastore, 1) := by decide +kernel
theorem dX11_minutes_302 : decode cX11_minutes 302 = .ok (.aload_n 0, 1) := by decide +kernel
theorem dX11_minutes_303 : decode cX11_minutes 303 = .ok (.getfield 40, 3) := by decide +kernel
theorem dX11_minutes_306 : decode cX11_minutes 306 = .ok (.iload_n 1, 1) := by decide +kernel
theorem dX11_minutes_307 : decode cX11_minutes 307 = .ok (.iconst (-1), 1) := by decide +kernel
theorem dX11_minutes_308 : decode cX11_minutes 308 = .ok (.iastore, 1) := by decide +kernel
theorem dX11_minutes_309 : decode cX11_minutes 309 = .ok (.aload_n 0, 1) := by decide +kernel
theorem dX11_minutes_310 : decode cX11_minutes 310 = .ok (.dup, 1) := by decide +kernel
theorem dX11_minutes_311 : decode cX11_minutes 311 = .ok (.getfield 109, 3) := by decide +kernel
theorem dX11_minutes_314 : decode cX11_minutes 314 = .ok (.iconst 1, 1) := by decide +kernel
theorem dX11_minutes_315 : decode cX11_minutes 315 = .ok (.iadd, 1) := by decide +kernel
theorem dX11_minutes_316 : decode cX11_minutes 316 = .ok (.putfield 109, 3) := by decide +kernel
theorem dX11_minutes_319 : decode cX11_minutes 319 = .ok (.iinc 1 1, 3) := by decide +kernel
theorem dX11_minutes_322 : decode cX11_minutes 322 = .ok (.goto (-250), 3) := by decide +kernel
theorem dX11_minutes_325 : decode cX11_minutes 325 = .ok (.iconst 0, 1) := by decide +kernel
theorem dX11_minutes_326 : decode cX11_minutes 326 = .ok (.istore_n 1, 1) := by decide +kernel
theorem dX11_minutes_327 : decode cX11_minutes 327 = .ok (.iload_n 1, 1) := by decide +kernel
theorem dX11_minutes_328 : decode cX11_minutes 328 = .ok (.aload_n 0, 1) := by decide +kernel
theorem dX11_minutes_329 : decode cX11_minutes 329 = .ok (.getfield 60, 3) := by decide +kernel
theorem dX11_minutes_332 : decode cX11_minutes 332 = .ok (.if_icmp .ge 130, 3) := by decide +kernel
theorem dX11_minutes_335 : decode cX11_minutes 335 = .ok (.aload_n 0, 1) := by decide +kernel
theorem dX11_minutes_336 : decode cX11_minutes 336 = .ok (.getfield 40, 3) := by decide +kernel
theorem dX11_minutes_339 : decode cX11_minutes 339 = .ok (.iload_n 1, 1) := by decide +kernel
theorem dX11_minutes_340 : decode cX11_minutes 340 = .ok (.iaload, 1) := by decide +kernel
theorem dX11_minutes_341 : decode cX11_minutes 341 = .ok (.ifCond .lt 7, 3) := by decide +kernel
theorem dX11_minutes_344 : decode cX11_minutes 344 = .ok (.iconst (-1), 1) := by decide +kernel
theorem dX11_minutes_345 : decode cX11_minutes 345 = .ok (.goto 11, 3) := by decide +kernel
theorem dX11_minutes_348 : decode cX11_minutes 348 = .ok (.aload_n 0, 1) := by decide +kernel
theorem dX11_minutes_349 : decode cX11_minutes 349 = .ok (.aload_n 0, 1) := by decide +kernel
theorem dX11_minutes_350 : decode cX11_minutes 350 = .ok (.getfield 91, 3) := by decide +kernel
theorem dX11_minutes_353 : decode cX11_minutes 353 = .ok (.invokevirtual 135, 3) := by decide +kernel
theorem dX11_minutes_356 : decode cX11_minutes 356 = .ok (.istore_n 2, 1) := by decide +kernel
theorem dX11_minutes_357 : decode cX11_minutes 357 = .ok (.iload_n 2, 1) := by decide +kernel
theorem dX11_minutes_358 : decode cX11_minutes 358 = .ok (.ifCond .ge 6, 3) := by decide +kernel
theorem dX11_minutes_361 : decode cX11_minutes 361 = .ok (.goto 95, 3) := by decide +kernel
theorem dX11_minutes_364 : decode cX11_minutes 364 = .ok (.aload_n 0, 1) := by decide +kernel
theorem dX11_minutes_365 : decode cX11_minutes 365 = .ok (.getfield 40, 3) := by decide +kernel
theorem dX11_minutes_368 : decode cX11_minutes 368 = .ok (.iload_n 1, 1) := by decide +kernel
theorem dX11_minutes_369 : decode cX11_minutes 369 = .ok (.aload_n 0, 1) := by decide +kernel
theorem dX11_minutes_370 : decode cX11_minutes 370 = .ok (.iload_n 2, 1) := by decide +kernel
theorem dX11_minutes_371 : decode cX11_minutes 371 = .ok (.invokevirtual 112, 3) := by decide +kernel
theorem dX11_minutes_374 : decode cX11_minutes 374 = .ok (.iastore, 1) := by decide +kernel
theorem dX11_minutes_375 : decode cX11_minutes 375 = .ok (.aload_n 0, 1) := by decide +kernel
theorem dX11_minutes_376 : decode cX11_minutes 376 = .ok (.getfield 43, 3) := by decide +kernel
theorem dX11_minutes_379 : decode cX11_minutes 379 = .ok (.iload_n 1, 1) := by decide +kernel
theorem dX11_minutes_380 : decode cX11_minutes 380 = .ok (.aload_n 0, 1) := by decide +kernel
theorem dX11_minutes_381 : decode cX11_minutes 381 = .ok (.iload_n 2, 1) := by decide +kernel
theorem dX11_minutes_382 : decode cX11_minutes 382 = .ok (.invokevirtual 116, 3) := by decide +kernel
theorem dX11_minutes_385 : decode cX11_minutes 385 = .ok (.iastore, 1) := by decide +kernel
theorem dX11_minutes_386 : decode cX11_minutes 386 = .ok (.aload_n 0, 1) := by decide +kernel
theorem dX11_minutes_387 : decode cX11_minutes 387 = .ok (.getfield 52, 3) := by decide +kernel
theorem dX11_minutes_390 : decode cX11_minutes 390 = .ok (.iload_n 1, 1) := by decide +kernel
theorem dX11_minutes_391 : decode cX11_minutes 391 = .ok (.aload_n 0, 1) := by decide +kernel
theorem dX11_minutes_392 : decode cX11_minutes 392 = .ok (.iload_n 2, 1) := by decide +kernel
theorem dX11_minutes_393 : decode cX11_minutes 393 = .ok (.invokevirtual 119, 3) := by decide +kernel
theorem dX11_minutes_396 : decode cX11_minutes 396 = .ok (.bastore, 1) := by decide +kernel
theorem dX11_minutes_397 : decode cX11_minutes 397 = .ok (.aload_n 0, 1) := by decide +kernel
theorem dX11_minutes_398 : decode cX11_minutes 398 = .ok (.getfield 56, 3) := by decide +kernel
theorem dX11_minutes_401 : decode cX11_minutes 401 = .ok (.iload_n 1, 1) := by decide +kernel
theorem dX11_minutes_402 : decode cX11_minutes 402 = .ok (.iconst 0, 1) := by decide +kernel
theorem dX11_minutes_403 : decode cX11_minutes 403 = .ok (.bastore, 1) := by decide +kernel
theorem dX11_minutes_404 : decode cX11_minutes 404 = .ok (.aload_n 0, 1) := by decide +kernel
theorem dX11_minutes_405 : decode cX11_minutes 405 = .ok (.getfield 46, 3) := by decide +kernel
theorem dX11_minutes_408 : decode cX11_minutes 408 = .ok (.iload_n 1, 1) := by decide +kernel
theorem dX11_minutes_409 : decode cX11_minutes 409 = .ok (.aload_n 0, 1) := by decide +kernel
theorem dX11_minutes_410 : decode cX11_minutes 410 = .ok (.getfield 67, 3) := by decide +kernel
theorem dX11_minutes_413 : decode cX11_minutes 413 = .ok (.iastore, 1) := by decide +kernel
theorem dX11_minutes_414 : decode cX11_minutes 414 = .ok (.aload_n 0, 1) := by decide +kernel
theorem dX11_minutes_415 : decode cX11_minutes 415 = .ok (.getfield 22, 3) := by decide +kernel
theorem dX11_minutes_418 : decode cX11_minutes 418 = .ok (.aload_n 0, 1) := by decide +kernel
theorem dX11_minutes_419 : decode cX11_minutes 419 = .ok (.iload_n 2, 1) := by decide +kernel
theorem dX11_minutes_420 : decode cX11_minutes 420 = .ok (.invokevirtual 112, 3) := by decide +kernel
theorem dX11_minutes_423 : decode cX11_minutes 423 = .ok (.dup2, 1) := by decide +kernel
theorem dX11_minutes_424 : decode cX11_minutes 424 = .ok (.iaload, 1) := by decide +kernel
theorem dX11_minutes_425 : decode cX11_minutes 425 = .ok (.iconst 1, 1) := by decide +kernel
theorem dX11_minutes_426 : decode cX11_minutes 426 = .ok (.iadd, 1) := by decide +kernel
theorem dX11_minutes_427 : decode cX11_minutes 427 = .ok (.iastore, 1) := by decide +kernel
theorem dX11_minutes_428 : decode cX11_minutes 428 = .ok (.aload_n 0, 1) := by decide +kernel
theorem dX11_minutes_429 : decode cX11_minutes 429 = .ok (.getfield 34, 3) := by decide +kernel
theorem dX11_minutes_432 : decode cX11_minutes 432 = .ok (.aload_n 0, 1) := by decide +kernel
theorem dX11_minutes_433 : decode cX11_minutes 433 = .ok (.iload_n 2, 1) := by decide +kernel
theorem dX11_minutes_434 : decode cX11_minutes 434 = .ok (.invokevirtual 116, 3) := by decide +kernel
theorem dX11_minutes_437 : decode cX11_minutes 437 = .ok (.aload_n 0, 1) := by decide +kernel
theorem dX11_minutes_438 : decode cX11_minutes 438 = .ok (.iload_n 2, 1) := by decide +kernel
theorem dX11_minutes_439 : decode cX11_minutes 439 = .ok (.invokevirtual 119, 3) := by decide +kernel
theorem dX11_minutes_442 : decode cX11_minutes 442 = .ok (.ifCond .eq 7, 3) := by decide +kernel
theorem dX11_minutes_445 : decode cX11_minutes 445 = .ok (.iconst 1, 1) := by decide +kernel
theorem dX11_minutes_446 : decode cX11_minutes 446 = .ok (.goto 4, 3) := by decide +kernel
theorem dX11_minutes_449 : decode cX11_minutes 449 = .ok (.iconst (-1), 1) := by decide +kernel
theorem dX11_minutes_450 : decode cX11_minutes 450 = .ok (.iastore, 1) := by decide +kernel
theorem dX11_minutes_451 : decode cX11_minutes 451 = .ok (.aload_n 0, 1) := by decide +kernel
theorem dX11_minutes_452 : decode cX11_minutes 452 = .ok (.iload_n 2, 1) := by decide +kernel
theorem dX11_minutes_453 : decode cX11_minutes 453 = .ok (.invokevirtual 131, 3) := by decide +kernel
theorem dX11_minutes_456 : decode cX11_minutes 456 = .ok (.iinc 1 1, 3) := by decide +kernel
theorem dX11_minutes_459 : decode cX11_minutes 459 = .ok (.goto (-132), 3) := by decide +kernel
theorem dX11_minutes_462 : decode cX11_minutes 462 = .ok (.return_, 1) := by decide +kernel
theorem dX11_voice_0 : decode cX11_voice 0 = .ok (.aload_n 0, 1) := by decide +kernel
theorem dX11_voice_1 : decode cX11_voice 1 = .ok (.getfield 19, 3) := by decide +kernel
theorem dX11_voice_4 : decode cX11_voice 4 = .ok (.iload_n 1, 1) := by decide +kernel
theorem dX11_voice_5 : decode cX11_voice 5 = .ok (.iaload, 1) := by decide +kernel
theorem dX11_voice_6 : decode cX11_voice 6 = .ok (.ifCond .ne 7, 3) := by decide +kernel
theorem dX11_voice_9 : decode cX11_voice 9 = .ok (.iconst 0, 1) := by decide +kernel
theorem dX11_voice_10 : decode cX11_voice 10 = .ok (.goto 17, 3) := by decide +kernel
theorem dX11_voice_13 : decode cX11_voice 13 = .ok (.aload_n 0, 1) := by decide +kernel
theorem dX11_voice_14 : decode cX11_voice 14 = .ok (.getfield 37, 3) := by decide +kernel
theorem dX11_voice_17 : decode cX11_voice 17 = .ok (.bipush 16, 2) := by decide +kernel
theorem dX11_voice_19 : decode cX11_voice 19 = .ok (.iload_n 1, 1) := by decide +kernel
theorem dX11_voice_20 : decode cX11_voice 20 = .ok (.imul, 1) := by decide +kernel
theorem dX11_voice_21 : decode cX11_voice 21 = .ok (.iload_n 2, 1) := by decide +kernel
theorem dX11_voice_22 : decode cX11_voice 22 = .ok (.iadd, 1) := by decide +kernel
theorem dX11_voice_23 : decode cX11_voice 23 = .ok (.iaload, 1) := by decide +kernel
theorem dX11_voice_24 : decode cX11_voice 24 = .ok (.invokestatic 138, 3) := by decide +kernel
theorem dX11_voice_27 : decode cX11_voice 27 = .ok (.ireturn, 1) := by decide +kernel
theorem dX11_side_0 : decode cX11_side 0 = .ok (.iconst 0, 1) := by decide +kernel
theorem dX11_side_1 : decode cX11_side 1 = .ok (.istore_n 3, 1) := by decide +kernel
theorem dX11_side_2 : decode cX11_side 2 = .ok (.iconst 0, 1) := by decide +kernel
theorem dX11_side_3 : decode cX11_side 3 = .ok (.istore 4, 2) := by decide +kernel
theorem dX11_side_5 : decode cX11_side 5 = .ok (.iload 4, 2) := by decide +kernel
theorem dX11_side_7 : decode cX11_side 7 = .ok (.aload_n 0, 1) := by decide +kernel
theorem dX11_side_8 : decode cX11_side 8 = .ok (.getfield 85, 3) := by decide +kernel
theorem dX11_side_11 : decode cX11_side 11 = .ok (.if_icmp .ge 34, 3) := by decide +kernel
theorem dX11_side_14 : decode cX11_side 14 = .ok (.iload_n 3, 1) := by decide +kernel
theorem dX11_side_15 : decode cX11_side 15 = .ok (.aload_n 0, 1) := by decide +kernel
theorem dX11_side_16 : decode cX11_side 16 = .ok (.iload 4, 2) := by decide +kernel
theorem dX11_side_18 : decode cX11_side 18 = .ok (.iload_n 1, 1) := by decide +kernel
theorem dX11_side_19 : decode cX11_side 19 = .ok (.invokevirtual 143, 3) := by decide +kernel
theorem dX11_side_22 : decode cX11_side 22 = .ok (.iload_n 2, 1) := by decide +kernel
theorem dX11_side_23 : decode cX11_side 23 = .ok (.if_icmp .ne 13, 3) := by decide +kernel
theorem dX11_side_26 : decode cX11_side 26 = .ok (.aload_n 0, 1) := by decide +kernel
theorem dX11_side_27 : decode cX11_side 27 = .ok (.getfield 7, 3) := by decide +kernel
theorem dX11_side_30 : decode cX11_side 30 = .ok (.iload 4, 2) := by decide +kernel
theorem dX11_side_32 : decode cX11_side 32 = .ok (.iaload, 1) := by decide +kernel
theorem dX11_side_33 : decode cX11_side 33 = .ok (.goto 4, 3) := by decide +kernel
theorem dX11_side_36 : decode cX11_side 36 = .ok (.iconst 0, 1) := by decide +kernel
theorem dX11_side_37 : decode cX11_side 37 = .ok (.iadd, 1) := by decide +kernel
theorem dX11_side_38 : decode cX11_side 38 = .ok (.istore_n 3, 1) := by decide +kernel
theorem dX11_side_39 : decode cX11_side 39 = .ok (.iinc 4 1, 3) := by decide +kernel
theorem dX11_side_42 : decode cX11_side 42 = .ok (.goto (-37), 3) := by decide +kernel
theorem dX11_side_45 : decode cX11_side 45 = .ok (.iload_n 3, 1) := by decide +kernel
theorem dX11_side_46 : decode cX11_side 46 = .ok (.ireturn, 1) := by decide +kernel
theorem dX11_voters_0 : decode cX11_voters 0 = .ok (.iconst 0, 1) := by decide +kernel
theorem dX11_voters_1 : decode cX11_voters 1 = .ok (.istore_n 2, 1) := by decide +kernel
theorem dX11_voters_2 : decode cX11_voters 2 = .ok (.iconst 0, 1) := by decide +kernel
theorem dX11_voters_3 : decode cX11_voters 3 = .ok (.istore_n 3, 1) := by decide +kernel
theorem dX11_voters_4 : decode cX11_voters 4 = .ok (.iload_n 3, 1) := by decide +kernel
theorem dX11_voters_5 : decode cX11_voters 5 = .ok (.aload_n 0, 1) := by decide +kernel
theorem dX11_voters_6 : decode cX11_voters 6 = .ok (.getfield 85, 3) := by decide +kernel
theorem dX11_voters_9 : decode cX11_voters 9 = .ok (.if_icmp .ge 26, 3) := by decide +kernel
theorem dX11_voters_12 : decode cX11_voters 12 = .ok (.iload_n 2, 1) := by decide +kernel
theorem dX11_voters_13 : decode cX11_voters 13 = .ok (.aload_n 0, 1) := by decide +kernel
theorem dX11_voters_14 : decode cX11_voters 14 = .ok (.iload_n 3, 1) := by decide +kernel
theorem dX11_voters_15 : decode cX11_voters 15 = .ok (.iload_n 1, 1) := by decide +kernel
theorem dX11_voters_16 : decode cX11_voters 16 = .ok (.invokevirtual 143, 3) := by decide +kernel
theorem dX11_voters_19 : decode cX11_voters 19 = .ok (.ifCond .eq 7, 3) := by decide +kernel
theorem dX11_voters_22 : decode cX11_voters 22 = .ok (.iconst 1, 1) := by decide +kernel
theorem dX11_voters_23 : decode cX11_voters 23 = .ok (.goto 4, 3) := by decide +kernel
theorem dX11_voters_26 : decode cX11_voters 26 = .ok (.iconst 0, 1) := by decide +kernel
theorem dX11_voters_27 : decode cX11_voters 27 = .ok (.iadd, 1) := by decide +kernel
theorem dX11_voters_28 : decode cX11_voters 28 = .ok (.istore_n 2, 1) := by decide +kernel
theorem dX11_voters_29 : decode cX11_voters 29 = .ok (.iinc 3 1, 3) := by decide +kernel
theorem dX11_voters_32 : decode cX11_voters 32 = .ok (.goto (-28), 3) := by decide +kernel
theorem dX11_voters_35 : decode cX11_voters 35 = .ok (.iload_n 2, 1) := by decide +kernel
theorem dX11_voters_36 : decode cX11_voters 36 = .ok (.ireturn, 1) := by decide +kernel
theorem dX11_obstacle_0 : decode cX11_obstacle 0 = .ok (.aload_n 0, 1) := by decide +kernel
theorem dX11_obstacle_1 : decode cX11_obstacle 1 = .ok (.getfield 31, 3) := by decide +kernel
theorem dX11_obstacle_4 : decode cX11_obstacle 4 = .ok (.iload_n 1, 1) := by decide +kernel
theorem dX11_obstacle_5 : decode cX11_obstacle 5 = .ok (.iaload, 1) := by decide +kernel
theorem dX11_obstacle_6 : decode cX11_obstacle 6 = .ok (.ifCond .le 7, 3) := by decide +kernel
theorem dX11_obstacle_9 : decode cX11_obstacle 9 = .ok (.iconst 1, 1) := by decide +kernel
theorem dX11_obstacle_10 : decode cX11_obstacle 10 = .ok (.goto 49, 3) := by decide +kernel
theorem dX11_obstacle_13 : decode cX11_obstacle 13 = .ok (.aload_n 0, 1) := by decide +kernel
theorem dX11_obstacle_14 : decode cX11_obstacle 14 = .ok (.getfield 28, 3) := by decide +kernel
theorem dX11_obstacle_17 : decode cX11_obstacle 17 = .ok (.iload_n 1, 1) := by decide +kernel
theorem dX11_obstacle_18 : decode cX11_obstacle 18 = .ok (.iaload, 1) := by decide +kernel
theorem dX11_obstacle_19 : decode cX11_obstacle 19 = .ok (.aload_n 0, 1) := by decide +kernel
theorem dX11_obstacle_20 : decode cX11_obstacle 20 = .ok (.getfield 76, 3) := by decide +kernel
theorem dX11_obstacle_23 : decode cX11_obstacle 23 = .ok (.if_icmp .ge 7, 3) := by decide +kernel
theorem dX11_obstacle_26 : decode cX11_obstacle 26 = .ok (.iconst 2, 1) := by decide +kernel
theorem dX11_obstacle_27 : decode cX11_obstacle 27 = .ok (.goto 32, 3) := by decide +kernel
theorem dX11_obstacle_30 : decode cX11_obstacle 30 = .ok (.aload_n 0, 1) := by decide +kernel
theorem dX11_obstacle_31 : decode cX11_obstacle 31 = .ok (.iload_n 1, 1) := by decide +kernel
theorem dX11_obstacle_32 : decode cX11_obstacle 32 = .ok (.invokevirtual 146, 3) := by decide +kernel
theorem dX11_obstacle_35 : decode cX11_obstacle 35 = .ok (.ifCond .eq 7, 3) := by decide +kernel
theorem dX11_obstacle_38 : decode cX11_obstacle 38 = .ok (.iconst 3, 1) := by decide +kernel
theorem dX11_obstacle_39 : decode cX11_obstacle 39 = .ok (.goto 20, 3) := by decide +kernel
theorem dX11_obstacle_42 : decode cX11_obstacle 42 = .ok (.aload_n 0, 1) := by decide +kernel
theorem dX11_obstacle_43 : decode cX11_obstacle 43 = .ok (.iload_n 1, 1) := by decide +kernel
theorem dX11_obstacle_44 : decode cX11_obstacle 44 = .ok (.invokevirtual 149, 3) := by decide +kernel
theorem dX11_obstacle_47 : decode cX11_obstacle 47 = .ok (.aload_n 0, 1) := by decide +kernel
theorem dX11_obstacle_48 : decode cX11_obstacle 48 = .ok (.getfield 79, 3) := by decide +kernel
theorem dX11_obstacle_51 : decode cX11_obstacle 51 = .ok (.if_icmp .ge 7, 3) := by decide +kernel
theorem dX11_obstacle_54 : decode cX11_obstacle 54 = .ok (.iconst 4, 1) := by decide +kernel
theorem dX11_obstacle_55 : decode cX11_obstacle 55 = .ok (.goto 4, 3) := by decide +kernel
theorem dX11_obstacle_58 : decode cX11_obstacle 58 = .ok (.iconst 0, 1) := by decide +kernel
theorem dX11_obstacle_59 : decode cX11_obstacle 59 = .ok (.ireturn, 1) := by decide +kernel
theorem dX11_decisive_0 : decode cX11_decisive 0 = .ok (.iconst (-1), 1) := by decide +kernel
theorem dX11_decisive_1 : decode cX11_decisive 1 = .ok (.istore_n 2, 1) := by decide +kernel
theorem dX11_decisive_2 : decode cX11_decisive 2 = .ok (.aload_n 0, 1) := by decide +kernel
theorem dX11_decisive_3 : decode cX11_decisive 3 = .ok (.getfield 85, 3) := by decide +kernel
theorem dX11_decisive_6 : decode cX11_decisive 6 = .ok (.iconst 1, 1) := by decide +kernel
theorem dX11_decisive_7 : decode cX11_decisive 7 = .ok (.isub, 1) := by decide +kernel
theorem dX11_decisive_8 : decode cX11_decisive 8 = .ok (.istore_n 3, 1) := by decide +kernel
theorem dX11_decisive_9 : decode cX11_decisive 9 = .ok (.iload_n 3, 1) := by decide +kernel
theorem dX11_decisive_10 : decode cX11_decisive 10 = .ok (.ifCond .lt 161, 3) := by decide +kernel
theorem dX11_decisive_13 : decode cX11_decisive 13 = .ok (.aload_n 0, 1) := by decide +kernel
theorem dX11_decisive_14 : decode cX11_decisive 14 = .ok (.iload_n 3, 1) := by decide +kernel
theorem dX11_decisive_15 : decode cX11_decisive 15 = .ok (.iload_n 1, 1) := by decide +kernel
theorem dX11_decisive_16 : decode cX11_decisive 16 = .ok (.invokevirtual 143, 3) := by decide +kernel
theorem dX11_decisive_19 : decode cX11_decisive 19 = .ok (.ifCond .ne 6, 3) := by decide +kernel
theorem dX11_decisive_22 : decode cX11_decisive 22 = .ok (.goto 143, 3) := by decide +kernel
theorem dX11_decisive_25 : decode cX11_decisive 25 = .ok (.aload_n 0, 1) := by decide +kernel
theorem dX11_decisive_26 : decode cX11_decisive 26 = .ok (.iload_n 1, 1) := by decide +kernel
theorem dX11_decisive_27 : decode cX11_decisive 27 = .ok (.iconst 1, 1) := by decide +kernel
theorem dX11_decisive_28 : decode cX11_decisive 28 = .ok (.invokevirtual 152, 3) := by decide +kernel
theorem dX11_decisive_31 : decode cX11_decisive 31 = .ok (.aload_n 0, 1) := by decide +kernel
theorem dX11_decisive_32 : decode cX11_decisive 32 = .ok (.iload_n 3, 1) := by decide +kernel
theorem dX11_decisive_33 : decode cX11_decisive 33 = .ok (.iload_n 1, 1) := by decide +kernel
theorem dX11_decisive_34 : decode cX11_decisive 34 = .ok (.invokevirtual 143, 3) := by decide +kernel
theorem dX11_decisive_37 : decode cX11_decisive 37 = .ok (.ifCond .le 12, 3) := by decide +kernel
theorem dX11_decisive_40 : decode cX11_decisive 40 = .ok (.aload_n 0, 1) := by decide +kernel
theorem dX11_decisive_41 : decode cX11_decisive 41 = .ok (.getfield 7, 3) := by decide +kernel
theorem dX11_decisive_44 : decode cX11_decisive 44 = .ok (.iload_n 3, 1) := by decide +kernel
theorem dX11_decisive_45 : decode cX11_decisive 45 = .ok (.iaload, 1) := by decide +kernel
theorem dX11_decisive_46 : decode cX11_decisive 46 = .ok (.goto 10, 3) := by decide +kernel
theorem dX11_decisive_49 : decode cX11_decisive 49 = .ok (.aload_n 0, 1) := by decide +kernel
theorem dX11_decisive_50 : decode cX11_decisive 50 = .ok (.getfield 7, 3) := by decide +kernel
theorem dX11_decisive_53 : decode cX11_decisive 53 = .ok (.iload_n 3, 1) := by decide +kernel
theorem dX11_decisive_54 : decode cX11_decisive 54 = .ok (.iaload, 1) := by decide +kernel
theorem dX11_decisive_55 : decode cX11_decisive 55 = .ok (.ineg, 1) := by decide +kernel
theorem dX11_decisive_56 : decode cX11_decisive 56 = .ok (.isub, 1) := by decide +kernel
theorem dX11_decisive_57 : decode cX11_decisive 57 = .ok (.istore 4, 2) := by decide +kernel
theorem dX11_decisive_59 : decode cX11_decisive 59 = .ok (.aload_n 0, 1) := by decide +kernel
theorem dX11_decisive_60 : decode cX11_decisive 60 = .ok (.iload_n 1, 1) := by decide +kernel
theorem dX11_decisive_61 : decode cX11_decisive 61 = .ok (.iconst (-1), 1) := by decide +kernel
theorem dX11_decisive_62 : decode cX11_decisive 62 = .ok (.invokevirtual 152, 3) := by decide +kernel
theorem dX11_decisive_65 : decode cX11_decisive 65 = .ok (.aload_n 0, 1) := by decide +kernel
theorem dX11_decisive_66 : decode cX11_decisive 66 = .ok (.iload_n 3, 1) := by decide +kernel
theorem dX11_decisive_67 : decode cX11_decisive 67 = .ok (.iload_n 1, 1) := by decide +kernel
theorem dX11_decisive_68 : decode cX11_decisive 68 = .ok (.invokevirtual 143, 3) := by decide +kernel
theorem dX11_decisive_71 : decode cX11_decisive 71 = .ok (.ifCond .le 12, 3) := by decide +kernel
theorem dX11_decisive_74 : decode cX11_decisive 74 = .ok (.aload_n 0, 1) := by decide +kernel
theorem dX11_decisive_75 : decode cX11_decisive 75 = .ok (.getfield 7, 3) := by decide +kernel
theorem dX11_decisive_78 : decode cX11_decisive 78 = .ok (.iload_n 3, 1) := by decide +kernel
theorem dX11_decisive_79 : decode cX11_decisive 79 = .ok (.iaload, 1) := by decide +kernel
theorem dX11_decisive_80 : decode cX11_decisive 80 = .ok (.goto 10, 3) := by decide +kernel
theorem dX11_decisive_83 : decode cX11_decisive 83 = .ok (.aload_n 0, 1) := by decide +kernel
theorem dX11_decisive_84 : decode cX11_decisive 84 = .ok (.getfield 7, 3) := by decide +kernel
theorem dX11_decisive_87 : decode cX11_decisive 87 = .ok (.iload_n 3, 1) := by decide +kernel
theorem dX11_decisive_88 : decode cX11_decisive 88 = .ok (.iaload, 1) := by decide +kernel
theorem dX11_decisive_89 : decode cX11_decisive 89 = .ok (.ineg, 1) := by decide +kernel
theorem dX11_decisive_90 : decode cX11_decisive 90 = .ok (.iadd, 1) := by decide +kernel
theorem dX11_decisive_91 : decode cX11_decisive 91 = .ok (.istore 5, 2) := by decide +kernel
theorem dX11_decisive_93 : decode cX11_decisive 93 = .ok (.iload 4, 2) := by decide +kernel
theorem dX11_decisive_95 : decode cX11_decisive 95 = .ok (.iload 5, 2) := by decide +kernel
theorem dX11_decisive_97 : decode cX11_decisive 97 = .ok (.if_icmp .le 7, 3) := by decide +kernel
theorem dX11_decisive_100 : decode cX11_decisive 100 = .ok (.iconst 1, 1) := by decide +kernel
theorem dX11_decisive_101 : decode cX11_decisive 101 = .ok (.goto 4, 3) := by decide +kernel
theorem dX11_decisive_104 : decode cX11_decisive 104 = .ok (.iconst 0, 1) := by decide +kernel
theorem dX11_decisive_105 : decode cX11_decisive 105 = .ok (.aload_n 0, 1) := by decide +kernel
theorem dX11_decisive_106 : decode cX11_decisive 106 = .ok (.iload_n 1, 1) := by decide +kernel
theorem dX11_decisive_107 : decode cX11_decisive 107 = .ok (.iconst 1, 1) := by decide +kernel
theorem dX11_decisive_108 : decode cX11_decisive 108 = .ok (.invokevirtual 152, 3) := by decide +kernel
theorem dX11_decisive_111 : decode cX11_decisive 111 = .ok (.aload_n 0, 1) := by decide +kernel
theorem dX11_decisive_112 : decode cX11_decisive 112 = .ok (.iload_n 1, 1) := by decide +kernel
theorem dX11_decisive_113 : decode cX11_decisive 113 = .ok (.iconst (-1), 1) := by decide +kernel
theorem dX11_decisive_114 : decode cX11_decisive 114 = .ok (.invokevirtual 152, 3) := by decide +kernel
theorem dX11_decisive_117 : decode cX11_decisive 117 = .ok (.if_icmp .le 7, 3) := by decide +kernel
theorem dX11_decisive_120 : decode cX11_decisive 120 = .ok (.iconst 1, 1) := by decide +kernel
theorem dX11_decisive_121 : decode cX11_decisive 121 = .ok (.goto 4, 3) := by decide +kernel
theorem dX11_decisive_124 : decode cX11_decisive 124 = .ok (.iconst 0, 1) := by decide +kernel
theorem dX11_decisive_125 : decode cX11_decisive 125 = .ok (.if_icmp .eq 7, 3) := by decide +kernel
theorem dX11_decisive_128 : decode cX11_decisive 128 = .ok (.iconst 1, 1) := by decide +kernel
theorem dX11_decisive_129 : decode cX11_decisive 129 = .ok (.goto 4, 3) := by decide +kernel
theorem dX11_decisive_132 : decode cX11_decisive 132 = .ok (.iconst 0, 1) := by decide +kernel
theorem dX11_decisive_133 : decode cX11_decisive 133 = .ok (.istore 6, 2) := by decide +kernel
theorem dX11_decisive_135 : decode cX11_decisive 135 = .ok (.iload 6, 2) := by decide +kernel
theorem dX11_decisive_137 : decode cX11_decisive 137 = .ok (.ifCond .eq 26, 3) := by decide +kernel
theorem dX11_decisive_140 : decode cX11_decisive 140 = .ok (.iload_n 2, 1) := by decide +kernel
theorem dX11_decisive_141 : decode cX11_decisive 141 = .ok (.ifCond .lt 18, 3) := by decide +kernel
theorem dX11_decisive_144 : decode cX11_decisive 144 = .ok (.aload_n 0, 1) := by decide +kernel
theorem dX11_decisive_145 : decode cX11_decisive 145 = .ok (.getfield 7, 3) := by decide +kernel
theorem dX11_decisive_148 : decode cX11_decisive 148 = .ok (.iload_n 3, 1) := by decide +kernel
theorem dX11_decisive_149 : decode cX11_decisive 149 = .ok (.iaload, 1) := by decide +kernel
theorem dX11_decisive_150 : decode cX11_decisive 150 = .ok (.aload_n 0, 1) := by decide +kernel
theorem dX11_decisive_151 : decode cX11_decisive 151 = .ok (.getfield 7, 3) := by decide +kernel
theorem dX11_decisive_154 : decode cX11_decisive 154 = .ok (.iload_n 2, 1) := by decide +kernel
theorem dX11_decisive_155 : decode cX11_decisive 155 = .ok (.iaload, 1) := by decide +kernel
theorem dX11_decisive_156 : decode cX11_decisive 156 = .ok (.if_icmp .gt 7, 3) := by decide +kernel
theorem dX11_decisive_159 : decode cX11_decisive 159 = .ok (.iload_n 3, 1) := by decide +kernel
theorem dX11_decisive_160 : decode cX11_decisive 160 = .ok (.goto 4, 3) := by decide +kernel
theorem dX11_decisive_163 : decode cX11_decisive 163 = .ok (.iload_n 2, 1) := by decide +kernel
theorem dX11_decisive_164 : decode cX11_decisive 164 = .ok (.istore_n 2, 1) := by decide +kernel
theorem dX11_decisive_165 : decode cX11_decisive 165 = .ok (.iinc 3 (-1), 3) := by decide +kernel
theorem dX11_decisive_168 : decode cX11_decisive 168 = .ok (.goto (-159), 3) := by decide +kernel
theorem dX11_decisive_171 : decode cX11_decisive 171 = .ok (.iload_n 2, 1) := by decide +kernel
theorem dX11_decisive_172 : decode cX11_decisive 172 = .ok (.ireturn, 1) := by decide +kernel
theorem dX11_votes_0 : decode cX11_votes 0 = .ok (.aload_n 0, 1) := by decide +kernel
theorem dX11_votes_1 : decode cX11_votes 1 = .ok (.iload_n 1, 1) := by decide +kernel
theorem dX11_votes_2 : decode cX11_votes 2 = .ok (.iconst 1, 1) := by decide +kernel
theorem dX11_votes_3 : decode cX11_votes 3 = .ok (.invokevirtual 152, 3) := by decide +kernel
theorem dX11_votes_6 : decode cX11_votes 6 = .ok (.aload_n 0, 1) := by decide +kernel
theorem dX11_votes_7 : decode cX11_votes 7 = .ok (.iload_n 1, 1) := by decide +kernel
theorem dX11_votes_8 : decode cX11_votes 8 = .ok (.iconst (-1), 1) := by decide +kernel
theorem dX11_votes_9 : decode cX11_votes 9 = .ok (.invokevirtual 152, 3) := by decide +kernel
theorem dX11_votes_12 : decode cX11_votes 12 = .ok (.if_icmp .le 7, 3) := by decide +kernel
theorem dX11_votes_15 : decode cX11_votes 15 = .ok (.iconst 1, 1) := by decide +kernel
theorem dX11_votes_16 : decode cX11_votes 16 = .ok (.goto 4, 3) := by decide +kernel
theorem dX11_votes_19 : decode cX11_votes 19 = .ok (.iconst 0, 1) := by decide +kernel
theorem dX11_votes_20 : decode cX11_votes 20 = .ok (.istore_n 2, 1) := by decide +kernel
theorem dX11_votes_21 : decode cX11_votes 21 = .ok (.iconst 0, 1) := by decide +kernel
theorem dX11_votes_22 : decode cX11_votes 22 = .ok (.istore_n 3, 1) := by decide +kernel
theorem dX11_votes_23 : decode cX11_votes 23 = .ok (.iload_n 3, 1) := by decide +kernel
theorem dX11_votes_24 : decode cX11_votes 24 = .ok (.aload_n 0, 1) := by decide +kernel
theorem dX11_votes_25 : decode cX11_votes 25 = .ok (.getfield 85, 3) := by decide +kernel
theorem dX11_votes_28 : decode cX11_votes 28 = .ok (.if_icmp .ge 103, 3) := by decide +kernel
theorem dX11_votes_31 : decode cX11_votes 31 = .ok (.aload_n 0, 1) := by decide +kernel
theorem dX11_votes_32 : decode cX11_votes 32 = .ok (.iload_n 3, 1) := by decide +kernel
theorem dX11_votes_33 : decode cX11_votes 33 = .ok (.iload_n 1, 1) := by decide +kernel
theorem dX11_votes_34 : decode cX11_votes 34 = .ok (.invokevirtual 143, 3) := by decide +kernel
theorem dX11_votes_37 : decode cX11_votes 37 = .ok (.istore 4, 2) := by decide +kernel
theorem dX11_votes_39 : decode cX11_votes 39 = .ok (.iload 4, 2) := by decide +kernel
theorem dX11_votes_41 : decode cX11_votes 41 = .ok (.ifCond .ne 6, 3) := by decide +kernel
theorem dX11_votes_44 : decode cX11_votes 44 = .ok (.goto 81, 3) := by decide +kernel
theorem dX11_votes_47 : decode cX11_votes 47 = .ok (.aload_n 0, 1) := by decide +kernel
theorem dX11_votes_48 : decode cX11_votes 48 = .ok (.getfield 19, 3) := by decide +kernel
theorem dX11_votes_51 : decode cX11_votes 51 = .ok (.iload_n 3, 1) := by decide +kernel
theorem dX11_votes_52 : decode cX11_votes 52 = .ok (.dup2, 1) := by decide +kernel
theorem dX11_votes_53 : decode cX11_votes 53 = .ok (.iaload, 1) := by decide +kernel
theorem dX11_votes_54 : decode cX11_votes 54 = .ok (.iconst 1, 1) := by decide +kernel
theorem dX11_votes_55 : decode cX11_votes 55 = .ok (.isub, 1) := by decide +kernel
theorem dX11_votes_56 : decode cX11_votes 56 = .ok (.iastore, 1) := by decide +kernel
theorem dX11_votes_57 : decode cX11_votes 57 = .ok (.iload 4, 2) := by decide +kernel
theorem dX11_votes_59 : decode cX11_votes 59 = .ok (.ifCond .le 7, 3) := by decide +kernel
theorem dX11_votes_62 : decode cX11_votes 62 = .ok (.iconst 1, 1) := by decide +kernel
theorem dX11_votes_63 : decode cX11_votes 63 = .ok (.goto 4, 3) := by decide +kernel
theorem dX11_votes_66 : decode cX11_votes 66 = .ok (.iconst 0, 1) := by decide +kernel
theorem dX11_votes_67 : decode cX11_votes 67 = .ok (.iload_n 2, 1) := by decide +kernel
theorem dX11_votes_68 : decode cX11_votes 68 = .ok (.if_icmp .ne 16, 3) := by decide +kernel
theorem dX11_votes_71 : decode cX11_votes 71 = .ok (.aload_n 0, 1) := by decide +kernel
theorem dX11_votes_72 : decode cX11_votes 72 = .ok (.getfield 16, 3) := by decide +kernel
theorem dX11_votes_75 : decode cX11_votes 75 = .ok (.iload_n 3, 1) := by decide +kernel
theorem dX11_votes_76 : decode cX11_votes 76 = .ok (.iaload, 1) := by decide +kernel
theorem dX11_votes_77 : decode cX11_votes 77 = .ok (.ifCond .le 7, 3) := by decide +kernel
theorem dX11_votes_80 : decode cX11_votes 80 = .ok (.iconst 1, 1) := by decide +kernel
theorem dX11_votes_81 : decode cX11_votes 81 = .ok (.goto 4, 3) := by decide +kernel
theorem dX11_votes_84 : decode cX11_votes 84 = .ok (.iconst 0, 1) := by decide +kernel
theorem dX11_votes_85 : decode cX11_votes 85 = .ok (.istore 5, 2) := by decide +kernel
theorem dX11_votes_87 : decode cX11_votes 87 = .ok (.aload_n 0, 1) := by decide +kernel
theorem dX11_votes_88 : decode cX11_votes 88 = .ok (.getfield 16, 3) := by decide +kernel
theorem dX11_votes_91 : decode cX11_votes 91 = .ok (.iload_n 3, 1) := by decide +kernel
theorem dX11_votes_92 : decode cX11_votes 92 = .ok (.dup2, 1) := by decide +kernel
theorem dX11_votes_93 : decode cX11_votes 93 = .ok (.iaload, 1) := by decide +kernel
theorem dX11_votes_94 : decode cX11_votes 94 = .ok (.iload 5, 2) := by decide +kernel
theorem dX11_votes_96 : decode cX11_votes 96 = .ok (.ifCond .eq 7, 3) := by decide +kernel
theorem dX11_votes_99 : decode cX11_votes 99 = .ok (.iconst 1, 1) := by decide +kernel
theorem dX11_votes_100 : decode cX11_votes 100 = .ok (.goto 4, 3) := by decide +kernel
theorem dX11_votes_103 : decode cX11_votes 103 = .ok (.iconst 0, 1) := by decide +kernel
theorem dX11_votes_104 : decode cX11_votes 104 = .ok (.isub, 1) := by decide +kernel
theorem dX11_votes_105 : decode cX11_votes 105 = .ok (.iastore, 1) := by decide +kernel
theorem dX11_votes_106 : decode cX11_votes 106 = .ok (.aload_n 0, 1) := by decide +kernel
theorem dX11_votes_107 : decode cX11_votes 107 = .ok (.dup, 1) := by decide +kernel
theorem dX11_votes_108 : decode cX11_votes 108 = .ok (.getfield 94, 3) := by decide +kernel
theorem dX11_votes_111 : decode cX11_votes 111 = .ok (.iload 5, 2) := by decide +kernel
theorem dX11_votes_113 : decode cX11_votes 113 = .ok (.ifCond .eq 7, 3) := by decide +kernel
theorem dX11_votes_116 : decode cX11_votes 116 = .ok (.iconst 1, 1) := by decide +kernel
theorem dX11_votes_117 : decode cX11_votes 117 = .ok (.goto 4, 3) := by decide +kernel
theorem dX11_votes_120 : decode cX11_votes 120 = .ok (.iconst 0, 1) := by decide +kernel
theorem dX11_votes_121 : decode cX11_votes 121 = .ok (.iadd, 1) := by decide +kernel
theorem dX11_votes_122 : decode cX11_votes 122 = .ok (.putfield 94, 3) := by decide +kernel
theorem dX11_votes_125 : decode cX11_votes 125 = .ok (.iinc 3 1, 3) := by decide +kernel
theorem dX11_votes_128 : decode cX11_votes 128 = .ok (.goto (-105), 3) := by decide +kernel
theorem dX11_votes_131 : decode cX11_votes 131 = .ok (.aload_n 0, 1) := by decide +kernel
theorem dX11_votes_132 : decode cX11_votes 132 = .ok (.getfield 31, 3) := by decide +kernel
theorem dX11_votes_135 : decode cX11_votes 135 = .ok (.iload_n 1, 1) := by decide +kernel
theorem dX11_votes_136 : decode cX11_votes 136 = .ok (.iload_n 2, 1) := by decide +kernel
theorem dX11_votes_137 : decode cX11_votes 137 = .ok (.ifCond .eq 7, 3) := by decide +kernel
theorem dX11_votes_140 : decode cX11_votes 140 = .ok (.iconst 1, 1) := by decide +kernel
theorem dX11_votes_141 : decode cX11_votes 141 = .ok (.goto 4, 3) := by decide +kernel
theorem dX11_votes_144 : decode cX11_votes 144 = .ok (.iconst 2, 1) := by decide +kernel
theorem dX11_votes_145 : decode cX11_votes 145 = .ok (.iastore, 1) := by decide +kernel
theorem dX11_votes_146 : decode cX11_votes 146 = .ok (.aload_n 0, 1) := by decide +kernel
theorem dX11_votes_147 : decode cX11_votes 147 = .ok (.dup, 1) := by decide +kernel
theorem dX11_votes_148 : decode cX11_votes 148 = .ok (.getfield 97, 3) := by decide +kernel
theorem dX11_votes_151 : decode cX11_votes 151 = .ok (.iconst 1, 1) := by decide +kernel
theorem dX11_votes_152 : decode cX11_votes 152 = .ok (.iadd, 1) := by decide +kernel
theorem dX11_votes_153 : decode cX11_votes 153 = .ok (.putfield 97, 3) := by decide +kernel
theorem dX11_votes_156 : decode cX11_votes 156 = .ok (.aload_n 0, 1) := by decide +kernel
theorem dX11_votes_157 : decode cX11_votes 157 = .ok (.iload_n 1, 1) := by decide +kernel
theorem dX11_votes_158 : decode cX11_votes 158 = .ok (.invokevirtual 155, 3) := by decide +kernel
theorem dX11_votes_161 : decode cX11_votes 161 = .ok (.istore_n 3, 1) := by decide +kernel
theorem dX11_votes_162 : decode cX11_votes 162 = .ok (.iload_n 2, 1) := by decide +kernel
theorem dX11_votes_163 : decode cX11_votes 163 = .ok (.ireturn, 1) := by decide +kernel
