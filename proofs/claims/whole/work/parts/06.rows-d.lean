abbrev b_Mod_init : ByteArray := prog_8_method_1_code
def y_Mod_init : MethodName := ⟨R_Mod, "<init>", "()V"⟩
theorem d_Mod_init_0 : decode b_Mod_init 0 = .ok (.aload_n 0, 1) := by decide +kernel
theorem d_Mod_init_1 : decode b_Mod_init 1 = .ok (.invokespecial 1, 3) := by decide +kernel
theorem d_Mod_init_4 : decode b_Mod_init 4 = .ok (.aload_n 0, 1) := by decide +kernel
theorem d_Mod_init_5 : decode b_Mod_init 5 = .ok (.sipush 2000, 3) := by decide +kernel
theorem d_Mod_init_8 : decode b_Mod_init 8 = .ok (.newarray .int, 2) := by decide +kernel
theorem d_Mod_init_10 : decode b_Mod_init 10 = .ok (.putfield 7, 3) := by decide +kernel
theorem d_Mod_init_13 : decode b_Mod_init 13 = .ok (.aload_n 0, 1) := by decide +kernel
theorem d_Mod_init_14 : decode b_Mod_init 14 = .ok (.sipush 2000, 3) := by decide +kernel
theorem d_Mod_init_17 : decode b_Mod_init 17 = .ok (.newarray .int, 2) := by decide +kernel
theorem d_Mod_init_19 : decode b_Mod_init 19 = .ok (.putfield 13, 3) := by decide +kernel
theorem d_Mod_init_22 : decode b_Mod_init 22 = .ok (.aload_n 0, 1) := by decide +kernel
theorem d_Mod_init_23 : decode b_Mod_init 23 = .ok (.iconst (-1), 1) := by decide +kernel
theorem d_Mod_init_24 : decode b_Mod_init 24 = .ok (.putfield 16, 3) := by decide +kernel
theorem d_Mod_init_27 : decode b_Mod_init 27 = .ok (.aload_n 0, 1) := by decide +kernel
theorem d_Mod_init_28 : decode b_Mod_init 28 = .ok (.bipush 12, 2) := by decide +kernel
theorem d_Mod_init_30 : decode b_Mod_init 30 = .ok (.newarray .int, 2) := by decide +kernel
theorem d_Mod_init_32 : decode b_Mod_init 32 = .ok (.putfield 20, 3) := by decide +kernel
theorem d_Mod_init_35 : decode b_Mod_init 35 = .ok (.aload_n 0, 1) := by decide +kernel
theorem d_Mod_init_36 : decode b_Mod_init 36 = .ok (.bipush 12, 2) := by decide +kernel
theorem d_Mod_init_38 : decode b_Mod_init 38 = .ok (.newarray .int, 2) := by decide +kernel
theorem d_Mod_init_40 : decode b_Mod_init 40 = .ok (.putfield 23, 3) := by decide +kernel
theorem d_Mod_init_43 : decode b_Mod_init 43 = .ok (.aload_n 0, 1) := by decide +kernel
theorem d_Mod_init_44 : decode b_Mod_init 44 = .ok (.bipush 12, 2) := by decide +kernel
theorem d_Mod_init_46 : decode b_Mod_init 46 = .ok (.newarray .int, 2) := by decide +kernel
theorem d_Mod_init_48 : decode b_Mod_init 48 = .ok (.putfield 26, 3) := by decide +kernel
theorem d_Mod_init_51 : decode b_Mod_init 51 = .ok (.aload_n 0, 1) := by decide +kernel
theorem d_Mod_init_52 : decode b_Mod_init 52 = .ok (.bipush 12, 2) := by decide +kernel
theorem d_Mod_init_54 : decode b_Mod_init 54 = .ok (.newarray .int, 2) := by decide +kernel
theorem d_Mod_init_56 : decode b_Mod_init 56 = .ok (.putfield 29, 3) := by decide +kernel
theorem d_Mod_init_59 : decode b_Mod_init 59 = .ok (.aload_n 0, 1) := by decide +kernel
theorem d_Mod_init_60 : decode b_Mod_init 60 = .ok (.bipush 96, 2) := by decide +kernel
theorem d_Mod_init_62 : decode b_Mod_init 62 = .ok (.newarray .int, 2) := by decide +kernel
theorem d_Mod_init_64 : decode b_Mod_init 64 = .ok (.putfield 32, 3) := by decide +kernel
theorem d_Mod_init_67 : decode b_Mod_init 67 = .ok (.aload_n 0, 1) := by decide +kernel
theorem d_Mod_init_68 : decode b_Mod_init 68 = .ok (.bipush 96, 2) := by decide +kernel
theorem d_Mod_init_70 : decode b_Mod_init 70 = .ok (.newarray .int, 2) := by decide +kernel
theorem d_Mod_init_72 : decode b_Mod_init 72 = .ok (.putfield 35, 3) := by decide +kernel
theorem d_Mod_init_75 : decode b_Mod_init 75 = .ok (.aload_n 0, 1) := by decide +kernel
theorem d_Mod_init_76 : decode b_Mod_init 76 = .ok (.bipush 96, 2) := by decide +kernel
theorem d_Mod_init_78 : decode b_Mod_init 78 = .ok (.newarray .int, 2) := by decide +kernel
theorem d_Mod_init_80 : decode b_Mod_init 80 = .ok (.putfield 38, 3) := by decide +kernel
theorem d_Mod_init_83 : decode b_Mod_init 83 = .ok (.aload_n 0, 1) := by decide +kernel
theorem d_Mod_init_84 : decode b_Mod_init 84 = .ok (.bipush 96, 2) := by decide +kernel
theorem d_Mod_init_86 : decode b_Mod_init 86 = .ok (.newarray .int, 2) := by decide +kernel
theorem d_Mod_init_88 : decode b_Mod_init 88 = .ok (.putfield 41, 3) := by decide +kernel
theorem d_Mod_init_91 : decode b_Mod_init 91 = .ok (.aload_n 0, 1) := by decide +kernel
theorem d_Mod_init_92 : decode b_Mod_init 92 = .ok (.bipush 96, 2) := by decide +kernel
theorem d_Mod_init_94 : decode b_Mod_init 94 = .ok (.newarray .int, 2) := by decide +kernel
theorem d_Mod_init_96 : decode b_Mod_init 96 = .ok (.putfield 44, 3) := by decide +kernel
theorem d_Mod_init_99 : decode b_Mod_init 99 = .ok (.aload_n 0, 1) := by decide +kernel
theorem d_Mod_init_100 : decode b_Mod_init 100 = .ok (.bipush 96, 2) := by decide +kernel
theorem d_Mod_init_102 : decode b_Mod_init 102 = .ok (.newarray .int, 2) := by decide +kernel
theorem d_Mod_init_104 : decode b_Mod_init 104 = .ok (.putfield 47, 3) := by decide +kernel
theorem d_Mod_init_107 : decode b_Mod_init 107 = .ok (.aload_n 0, 1) := by decide +kernel
theorem d_Mod_init_108 : decode b_Mod_init 108 = .ok (.sipush 416, 3) := by decide +kernel
theorem d_Mod_init_111 : decode b_Mod_init 111 = .ok (.newarray .int, 2) := by decide +kernel
theorem d_Mod_init_113 : decode b_Mod_init 113 = .ok (.putfield 50, 3) := by decide +kernel
theorem d_Mod_init_116 : decode b_Mod_init 116 = .ok (.aload_n 0, 1) := by decide +kernel
theorem d_Mod_init_117 : decode b_Mod_init 117 = .ok (.sipush 384, 3) := by decide +kernel
theorem d_Mod_init_120 : decode b_Mod_init 120 = .ok (.newarray .int, 2) := by decide +kernel
theorem d_Mod_init_122 : decode b_Mod_init 122 = .ok (.putfield 53, 3) := by decide +kernel
theorem d_Mod_init_125 : decode b_Mod_init 125 = .ok (.aload_n 0, 1) := by decide +kernel
theorem d_Mod_init_126 : decode b_Mod_init 126 = .ok (.bipush 32, 2) := by decide +kernel
theorem d_Mod_init_128 : decode b_Mod_init 128 = .ok (.newarray .int, 2) := by decide +kernel
theorem d_Mod_init_130 : decode b_Mod_init 130 = .ok (.putfield 56, 3) := by decide +kernel
theorem d_Mod_init_133 : decode b_Mod_init 133 = .ok (.aload_n 0, 1) := by decide +kernel
theorem d_Mod_init_134 : decode b_Mod_init 134 = .ok (.sipush 2112, 3) := by decide +kernel
theorem d_Mod_init_137 : decode b_Mod_init 137 = .ok (.newarray .int, 2) := by decide +kernel
theorem d_Mod_init_139 : decode b_Mod_init 139 = .ok (.putfield 59, 3) := by decide +kernel
theorem d_Mod_init_142 : decode b_Mod_init 142 = .ok (.aload_n 0, 1) := by decide +kernel
theorem d_Mod_init_143 : decode b_Mod_init 143 = .ok (.bipush 32, 2) := by decide +kernel
theorem d_Mod_init_145 : decode b_Mod_init 145 = .ok (.newarray .int, 2) := by decide +kernel
theorem d_Mod_init_147 : decode b_Mod_init 147 = .ok (.putfield 62, 3) := by decide +kernel
theorem d_Mod_init_150 : decode b_Mod_init 150 = .ok (.aload_n 0, 1) := by decide +kernel
theorem d_Mod_init_151 : decode b_Mod_init 151 = .ok (.bipush 64, 2) := by decide +kernel
theorem d_Mod_init_153 : decode b_Mod_init 153 = .ok (.newarray .long, 2) := by decide +kernel
theorem d_Mod_init_155 : decode b_Mod_init 155 = .ok (.putfield 65, 3) := by decide +kernel
theorem d_Mod_init_158 : decode b_Mod_init 158 = .ok (.aload_n 0, 1) := by decide +kernel
theorem d_Mod_init_159 : decode b_Mod_init 159 = .ok (.bipush 8, 2) := by decide +kernel
theorem d_Mod_init_161 : decode b_Mod_init 161 = .ok (.newarray .long, 2) := by decide +kernel
theorem d_Mod_init_163 : decode b_Mod_init 163 = .ok (.putfield 69, 3) := by decide +kernel
theorem d_Mod_init_166 : decode b_Mod_init 166 = .ok (.aload_n 0, 1) := by decide +kernel
theorem d_Mod_init_167 : decode b_Mod_init 167 = .ok (.bipush 64, 2) := by decide +kernel
theorem d_Mod_init_169 : decode b_Mod_init 169 = .ok (.newarray .long, 2) := by decide +kernel
theorem d_Mod_init_171 : decode b_Mod_init 171 = .ok (.putfield 72, 3) := by decide +kernel
theorem d_Mod_init_174 : decode b_Mod_init 174 = .ok (.aload_n 0, 1) := by decide +kernel
theorem d_Mod_init_175 : decode b_Mod_init 175 = .ok (.bipush 8, 2) := by decide +kernel
theorem d_Mod_init_177 : decode b_Mod_init 177 = .ok (.newarray .long, 2) := by decide +kernel
theorem d_Mod_init_179 : decode b_Mod_init 179 = .ok (.putfield 75, 3) := by decide +kernel
theorem d_Mod_init_182 : decode b_Mod_init 182 = .ok (.aload_n 0, 1) := by decide +kernel
theorem d_Mod_init_183 : decode b_Mod_init 183 = .ok (.bipush 10, 2) := by decide +kernel
theorem d_Mod_init_185 : decode b_Mod_init 185 = .ok (.newarray .long, 2) := by decide +kernel
theorem d_Mod_init_187 : decode b_Mod_init 187 = .ok (.putfield 78, 3) := by decide +kernel
theorem d_Mod_init_190 : decode b_Mod_init 190 = .ok (.aload_n 0, 1) := by decide +kernel
theorem d_Mod_init_191 : decode b_Mod_init 191 = .ok (.bipush 10, 2) := by decide +kernel
theorem d_Mod_init_193 : decode b_Mod_init 193 = .ok (.newarray .long, 2) := by decide +kernel
theorem d_Mod_init_195 : decode b_Mod_init 195 = .ok (.putfield 81, 3) := by decide +kernel
theorem d_Mod_init_198 : decode b_Mod_init 198 = .ok (.iconst 1, 1) := by decide +kernel
theorem d_Mod_init_199 : decode b_Mod_init 199 = .ok (.istore_n 1, 1) := by decide +kernel
theorem d_Mod_init_200 : decode b_Mod_init 200 = .ok (.iconst 0, 1) := by decide +kernel
theorem d_Mod_init_201 : decode b_Mod_init 201 = .ok (.istore_n 2, 1) := by decide +kernel
theorem d_Mod_init_202 : decode b_Mod_init 202 = .ok (.iload_n 2, 1) := by decide +kernel
theorem d_Mod_init_203 : decode b_Mod_init 203 = .ok (.bipush 64, 2) := by decide +kernel
theorem d_Mod_init_205 : decode b_Mod_init 205 = .ok (.if_icmp .ge 65, 3) := by decide +kernel
theorem d_Mod_init_208 : decode b_Mod_init 208 = .ok (.iload_n 1, 1) := by decide +kernel
theorem d_Mod_init_209 : decode b_Mod_init 209 = .ok (.iconst 1, 1) := by decide +kernel
theorem d_Mod_init_210 : decode b_Mod_init 210 = .ok (.iadd, 1) := by decide +kernel
theorem d_Mod_init_211 : decode b_Mod_init 211 = .ok (.istore_n 1, 1) := by decide +kernel
theorem d_Mod_init_212 : decode b_Mod_init 212 = .ok (.iload_n 1, 1) := by decide +kernel
theorem d_Mod_init_213 : decode b_Mod_init 213 = .ok (.invokestatic 84, 3) := by decide +kernel
theorem d_Mod_init_216 : decode b_Mod_init 216 = .ok (.ifCond .ne 10, 3) := by decide +kernel
theorem d_Mod_init_219 : decode b_Mod_init 219 = .ok (.iload_n 1, 1) := by decide +kernel
theorem d_Mod_init_220 : decode b_Mod_init 220 = .ok (.iconst 1, 1) := by decide +kernel
theorem d_Mod_init_221 : decode b_Mod_init 221 = .ok (.iadd, 1) := by decide +kernel
theorem d_Mod_init_222 : decode b_Mod_init 222 = .ok (.istore_n 1, 1) := by decide +kernel
theorem d_Mod_init_223 : decode b_Mod_init 223 = .ok (.goto (-11), 3) := by decide +kernel
theorem d_Mod_init_226 : decode b_Mod_init 226 = .ok (.aload_n 0, 1) := by decide +kernel
theorem d_Mod_init_227 : decode b_Mod_init 227 = .ok (.getfield 65, 3) := by decide +kernel
theorem d_Mod_init_230 : decode b_Mod_init 230 = .ok (.iload_n 2, 1) := by decide +kernel
theorem d_Mod_init_231 : decode b_Mod_init 231 = .ok (.aload_n 0, 1) := by decide +kernel
theorem d_Mod_init_232 : decode b_Mod_init 232 = .ok (.iload_n 1, 1) := by decide +kernel
theorem d_Mod_init_233 : decode b_Mod_init 233 = .ok (.iconst 3, 1) := by decide +kernel
theorem d_Mod_init_234 : decode b_Mod_init 234 = .ok (.invokevirtual 88, 3) := by decide +kernel
theorem d_Mod_init_237 : decode b_Mod_init 237 = .ok (.ldc2_w 92, 3) := by decide +kernel
theorem d_Mod_init_240 : decode b_Mod_init 240 = .ok (.lrem, 1) := by decide +kernel
theorem d_Mod_init_241 : decode b_Mod_init 241 = .ok (.lastore, 1) := by decide +kernel
theorem d_Mod_init_242 : decode b_Mod_init 242 = .ok (.iload_n 2, 1) := by decide +kernel
theorem d_Mod_init_243 : decode b_Mod_init 243 = .ok (.bipush 8, 2) := by decide +kernel
theorem d_Mod_init_245 : decode b_Mod_init 245 = .ok (.if_icmp .ge 19, 3) := by decide +kernel
theorem d_Mod_init_248 : decode b_Mod_init 248 = .ok (.aload_n 0, 1) := by decide +kernel
theorem d_Mod_init_249 : decode b_Mod_init 249 = .ok (.getfield 69, 3) := by decide +kernel
theorem d_Mod_init_252 : decode b_Mod_init 252 = .ok (.iload_n 2, 1) := by decide +kernel
theorem d_Mod_init_253 : decode b_Mod_init 253 = .ok (.aload_n 0, 1) := by decide +kernel
theorem d_Mod_init_254 : decode b_Mod_init 254 = .ok (.iload_n 1, 1) := by decide +kernel
theorem d_Mod_init_255 : decode b_Mod_init 255 = .ok (.iconst 2, 1) := by decide +kernel
theorem d_Mod_init_256 : decode b_Mod_init 256 = .ok (.invokevirtual 88, 3) := by decide +kernel
theorem d_Mod_init_259 : decode b_Mod_init 259 = .ok (.ldc2_w 92, 3) := by decide +kernel
theorem d_Mod_init_262 : decode b_Mod_init 262 = .ok (.lrem, 1) := by decide +kernel
theorem d_Mod_init_263 : decode b_Mod_init 263 = .ok (.lastore, 1) := by decide +kernel
theorem d_Mod_init_264 : decode b_Mod_init 264 = .ok (.iinc 2 1, 3) := by decide +kernel
theorem d_Mod_init_267 : decode b_Mod_init 267 = .ok (.goto (-65), 3) := by decide +kernel
theorem d_Mod_init_270 : decode b_Mod_init 270 = .ok (.return_, 1) := by decide +kernel
abbrev b_Mod_isPrime : ByteArray := prog_8_method_2_code
def y_Mod_isPrime : MethodName := ⟨R_Mod, "isPrime", "(I)Z"⟩
theorem d_Mod_isPrime_0 : decode b_Mod_isPrime 0 = .ok (.iconst 2, 1) := by decide +kernel
theorem d_Mod_isPrime_1 : decode b_Mod_isPrime 1 = .ok (.istore_n 1, 1) := by decide +kernel
theorem d_Mod_isPrime_2 : decode b_Mod_isPrime 2 = .ok (.iload_n 1, 1) := by decide +kernel
theorem d_Mod_isPrime_3 : decode b_Mod_isPrime 3 = .ok (.iload_n 1, 1) := by decide +kernel
theorem d_Mod_isPrime_4 : decode b_Mod_isPrime 4 = .ok (.imul, 1) := by decide +kernel
theorem d_Mod_isPrime_5 : decode b_Mod_isPrime 5 = .ok (.iload_n 0, 1) := by decide +kernel
theorem d_Mod_isPrime_6 : decode b_Mod_isPrime 6 = .ok (.if_icmp .gt 17, 3) := by decide +kernel
theorem d_Mod_isPrime_9 : decode b_Mod_isPrime 9 = .ok (.iload_n 0, 1) := by decide +kernel
theorem d_Mod_isPrime_10 : decode b_Mod_isPrime 10 = .ok (.iload_n 1, 1) := by decide +kernel
theorem d_Mod_isPrime_11 : decode b_Mod_isPrime 11 = .ok (.irem, 1) := by decide +kernel
theorem d_Mod_isPrime_12 : decode b_Mod_isPrime 12 = .ok (.ifCond .ne 5, 3) := by decide +kernel
theorem d_Mod_isPrime_15 : decode b_Mod_isPrime 15 = .ok (.iconst 0, 1) := by decide +kernel
theorem d_Mod_isPrime_16 : decode b_Mod_isPrime 16 = .ok (.ireturn, 1) := by decide +kernel
theorem d_Mod_isPrime_17 : decode b_Mod_isPrime 17 = .ok (.iinc 1 1, 3) := by decide +kernel
theorem d_Mod_isPrime_20 : decode b_Mod_isPrime 20 = .ok (.goto (-18), 3) := by decide +kernel
theorem d_Mod_isPrime_23 : decode b_Mod_isPrime 23 = .ok (.iconst 1, 1) := by decide +kernel
theorem d_Mod_isPrime_24 : decode b_Mod_isPrime 24 = .ok (.ireturn, 1) := by decide +kernel
abbrev b_Mod_rootOf : ByteArray := prog_8_method_3_code
def y_Mod_rootOf : MethodName := ⟨R_Mod, "rootOf", "(II)J"⟩
theorem d_Mod_rootOf_0 : decode b_Mod_rootOf 0 = .ok (.lconst 0, 1) := by decide +kernel
theorem d_Mod_rootOf_1 : decode b_Mod_rootOf 1 = .ok (.lstore_n 3, 1) := by decide +kernel
theorem d_Mod_rootOf_2 : decode b_Mod_rootOf 2 = .ok (.bipush 36, 2) := by decide +kernel
theorem d_Mod_rootOf_4 : decode b_Mod_rootOf 4 = .ok (.istore 5, 2) := by decide +kernel
theorem d_Mod_rootOf_6 : decode b_Mod_rootOf 6 = .ok (.iload 5, 2) := by decide +kernel
theorem d_Mod_rootOf_8 : decode b_Mod_rootOf 8 = .ok (.ifCond .lt 31, 3) := by decide +kernel
theorem d_Mod_rootOf_11 : decode b_Mod_rootOf 11 = .ok (.aload_n 0, 1) := by decide +kernel
theorem d_Mod_rootOf_12 : decode b_Mod_rootOf 12 = .ok (.lload_n 3, 1) := by decide +kernel
theorem d_Mod_rootOf_13 : decode b_Mod_rootOf 13 = .ok (.lconst 1, 1) := by decide +kernel
theorem d_Mod_rootOf_14 : decode b_Mod_rootOf 14 = .ok (.iload 5, 2) := by decide +kernel
theorem d_Mod_rootOf_16 : decode b_Mod_rootOf 16 = .ok (.lshl, 1) := by decide +kernel
theorem d_Mod_rootOf_17 : decode b_Mod_rootOf 17 = .ok (.ladd, 1) := by decide +kernel
theorem d_Mod_rootOf_18 : decode b_Mod_rootOf 18 = .ok (.iload_n 1, 1) := by decide +kernel
theorem d_Mod_rootOf_19 : decode b_Mod_rootOf 19 = .ok (.iload_n 2, 1) := by decide +kernel
theorem d_Mod_rootOf_20 : decode b_Mod_rootOf 20 = .ok (.invokevirtual 94, 3) := by decide +kernel
theorem d_Mod_rootOf_23 : decode b_Mod_rootOf 23 = .ok (.ifCond .eq 10, 3) := by decide +kernel
theorem d_Mod_rootOf_26 : decode b_Mod_rootOf 26 = .ok (.lload_n 3, 1) := by decide +kernel
theorem d_Mod_rootOf_27 : decode b_Mod_rootOf 27 = .ok (.lconst 1, 1) := by decide +kernel
theorem d_Mod_rootOf_28 : decode b_Mod_rootOf 28 = .ok (.iload 5, 2) := by decide +kernel
theorem d_Mod_rootOf_30 : decode b_Mod_rootOf 30 = .ok (.lshl, 1) := by decide +kernel
theorem d_Mod_rootOf_31 : decode b_Mod_rootOf 31 = .ok (.ladd, 1) := by decide +kernel
theorem d_Mod_rootOf_32 : decode b_Mod_rootOf 32 = .ok (.lstore_n 3, 1) := by decide +kernel
theorem d_Mod_rootOf_33 : decode b_Mod_rootOf 33 = .ok (.iinc 5 (-1), 3) := by decide +kernel
theorem d_Mod_rootOf_36 : decode b_Mod_rootOf 36 = .ok (.goto (-30), 3) := by decide +kernel
theorem d_Mod_rootOf_39 : decode b_Mod_rootOf 39 = .ok (.lload_n 3, 1) := by decide +kernel
theorem d_Mod_rootOf_40 : decode b_Mod_rootOf 40 = .ok (.lreturn, 1) := by decide +kernel
abbrev b_Mod_fits : ByteArray := prog_8_method_4_code
def y_Mod_fits : MethodName := ⟨R_Mod, "fits", "(JII)Z"⟩
theorem d_Mod_fits_0 : decode b_Mod_fits 0 = .ok (.iconst 0, 1) := by decide +kernel
theorem d_Mod_fits_1 : decode b_Mod_fits 1 = .ok (.istore 5, 2) := by decide +kernel
theorem d_Mod_fits_3 : decode b_Mod_fits 3 = .ok (.iload 5, 2) := by decide +kernel
theorem d_Mod_fits_5 : decode b_Mod_fits 5 = .ok (.bipush 10, 2) := by decide +kernel
theorem d_Mod_fits_7 : decode b_Mod_fits 7 = .ok (.if_icmp .ge 17, 3) := by decide +kernel
theorem d_Mod_fits_10 : decode b_Mod_fits 10 = .ok (.aload_n 0, 1) := by decide +kernel
theorem d_Mod_fits_11 : decode b_Mod_fits 11 = .ok (.getfield 78, 3) := by decide +kernel
theorem d_Mod_fits_14 : decode b_Mod_fits 14 = .ok (.iload 5, 2) := by decide +kernel
theorem d_Mod_fits_16 : decode b_Mod_fits 16 = .ok (.lconst 0, 1) := by decide +kernel
theorem d_Mod_fits_17 : decode b_Mod_fits 17 = .ok (.lastore, 1) := by decide +kernel
theorem d_Mod_fits_18 : decode b_Mod_fits 18 = .ok (.iinc 5 1, 3) := by decide +kernel
theorem d_Mod_fits_21 : decode b_Mod_fits 21 = .ok (.goto (-18), 3) := by decide +kernel
theorem d_Mod_fits_24 : decode b_Mod_fits 24 = .ok (.aload_n 0, 1) := by decide +kernel
theorem d_Mod_fits_25 : decode b_Mod_fits 25 = .ok (.getfield 78, 3) := by decide +kernel
theorem d_Mod_fits_28 : decode b_Mod_fits 28 = .ok (.iconst 0, 1) := by decide +kernel
theorem d_Mod_fits_29 : decode b_Mod_fits 29 = .ok (.lconst 1, 1) := by decide +kernel
theorem d_Mod_fits_30 : decode b_Mod_fits 30 = .ok (.lastore, 1) := by decide +kernel
theorem d_Mod_fits_31 : decode b_Mod_fits 31 = .ok (.iconst 0, 1) := by decide +kernel
theorem d_Mod_fits_32 : decode b_Mod_fits 32 = .ok (.istore 5, 2) := by decide +kernel
theorem d_Mod_fits_34 : decode b_Mod_fits 34 = .ok (.iload 5, 2) := by decide +kernel
theorem d_Mod_fits_36 : decode b_Mod_fits 36 = .ok (.iload 4, 2) := by decide +kernel
theorem d_Mod_fits_38 : decode b_Mod_fits 38 = .ok (.if_icmp .ge 166, 3) := by decide +kernel
theorem d_Mod_fits_41 : decode b_Mod_fits 41 = .ok (.iconst 0, 1) := by decide +kernel
theorem d_Mod_fits_42 : decode b_Mod_fits 42 = .ok (.istore 6, 2) := by decide +kernel
theorem d_Mod_fits_44 : decode b_Mod_fits 44 = .ok (.iload 6, 2) := by decide +kernel
theorem d_Mod_fits_46 : decode b_Mod_fits 46 = .ok (.bipush 10, 2) := by decide +kernel
theorem d_Mod_fits_48 : decode b_Mod_fits 48 = .ok (.if_icmp .ge 17, 3) := by decide +kernel
theorem d_Mod_fits_51 : decode b_Mod_fits 51 = .ok (.aload_n 0, 1) := by decide +kernel
theorem d_Mod_fits_52 : decode b_Mod_fits 52 = .ok (.getfield 81, 3) := by decide +kernel
theorem d_Mod_fits_55 : decode b_Mod_fits 55 = .ok (.iload 6, 2) := by decide +kernel
theorem d_Mod_fits_57 : decode b_Mod_fits 57 = .ok (.lconst 0, 1) := by decide +kernel
theorem d_Mod_fits_58 : decode b_Mod_fits 58 = .ok (.lastore, 1) := by decide +kernel
theorem d_Mod_fits_59 : decode b_Mod_fits 59 = .ok (.iinc 6 1, 3) := by decide +kernel
theorem d_Mod_fits_62 : decode b_Mod_fits 62 = .ok (.goto (-18), 3) := by decide +kernel
theorem d_Mod_fits_65 : decode b_Mod_fits 65 = .ok (.iconst 0, 1) := by decide +kernel
theorem d_Mod_fits_66 : decode b_Mod_fits 66 = .ok (.istore 6, 2) := by decide +kernel
theorem d_Mod_fits_68 : decode b_Mod_fits 68 = .ok (.iload 6, 2) := by decide +kernel
theorem d_Mod_fits_70 : decode b_Mod_fits 70 = .ok (.bipush 10, 2) := by decide +kernel
theorem d_Mod_fits_72 : decode b_Mod_fits 72 = .ok (.if_icmp .ge 74, 3) := by decide +kernel
theorem d_Mod_fits_75 : decode b_Mod_fits 75 = .ok (.iconst 0, 1) := by decide +kernel
theorem d_Mod_fits_76 : decode b_Mod_fits 76 = .ok (.istore 7, 2) := by decide +kernel
theorem d_Mod_fits_78 : decode b_Mod_fits 78 = .ok (.iload 7, 2) := by decide +kernel
theorem d_Mod_fits_80 : decode b_Mod_fits 80 = .ok (.iconst 3, 1) := by decide +kernel
theorem d_Mod_fits_81 : decode b_Mod_fits 81 = .ok (.if_icmp .ge 59, 3) := by decide +kernel
theorem d_Mod_fits_84 : decode b_Mod_fits 84 = .ok (.iload 6, 2) := by decide +kernel
theorem d_Mod_fits_86 : decode b_Mod_fits 86 = .ok (.iload 7, 2) := by decide +kernel
theorem d_Mod_fits_88 : decode b_Mod_fits 88 = .ok (.iadd, 1) := by decide +kernel
theorem d_Mod_fits_89 : decode b_Mod_fits 89 = .ok (.bipush 10, 2) := by decide +kernel
theorem d_Mod_fits_91 : decode b_Mod_fits 91 = .ok (.if_icmp .ge 49, 3) := by decide +kernel
theorem d_Mod_fits_94 : decode b_Mod_fits 94 = .ok (.aload_n 0, 1) := by decide +kernel
theorem d_Mod_fits_95 : decode b_Mod_fits 95 = .ok (.getfield 81, 3) := by decide +kernel
theorem d_Mod_fits_98 : decode b_Mod_fits 98 = .ok (.iload 6, 2) := by decide +kernel
theorem d_Mod_fits_100 : decode b_Mod_fits 100 = .ok (.iload 7, 2) := by decide +kernel
theorem d_Mod_fits_102 : decode b_Mod_fits 102 = .ok (.iadd, 1) := by decide +kernel
theorem d_Mod_fits_103 : decode b_Mod_fits 103 = .ok (.aload_n 0, 1) := by decide +kernel
theorem d_Mod_fits_104 : decode b_Mod_fits 104 = .ok (.getfield 81, 3) := by decide +kernel
theorem d_Mod_fits_107 : decode b_Mod_fits 107 = .ok (.iload 6, 2) := by decide +kernel
theorem d_Mod_fits_109 : decode b_Mod_fits 109 = .ok (.iload 7, 2) := by decide +kernel
theorem d_Mod_fits_111 : decode b_Mod_fits 111 = .ok (.iadd, 1) := by decide +kernel
theorem d_Mod_fits_112 : decode b_Mod_fits 112 = .ok (.laload, 1) := by decide +kernel
theorem d_Mod_fits_113 : decode b_Mod_fits 113 = .ok (.aload_n 0, 1) := by decide +kernel
theorem d_Mod_fits_114 : decode b_Mod_fits 114 = .ok (.getfield 78, 3) := by decide +kernel
theorem d_Mod_fits_117 : decode b_Mod_fits 117 = .ok (.iload 6, 2) := by decide +kernel
theorem d_Mod_fits_119 : decode b_Mod_fits 119 = .ok (.laload, 1) := by decide +kernel
theorem d_Mod_fits_120 : decode b_Mod_fits 120 = .ok (.lload_n 1, 1) := by decide +kernel
theorem d_Mod_fits_121 : decode b_Mod_fits 121 = .ok (.bipush 16, 2) := by decide +kernel
theorem d_Mod_fits_123 : decode b_Mod_fits 123 = .ok (.iload 7, 2) := by decide +kernel
theorem d_Mod_fits_125 : decode b_Mod_fits 125 = .ok (.imul, 1) := by decide +kernel
theorem d_Mod_fits_126 : decode b_Mod_fits 126 = .ok (.lshr, 1) := by decide +kernel
theorem d_Mod_fits_127 : decode b_Mod_fits 127 = .ok (.ldc2_w 98, 3) := by decide +kernel
theorem d_Mod_fits_130 : decode b_Mod_fits 130 = .ok (.land, 1) := by decide +kernel
theorem d_Mod_fits_131 : decode b_Mod_fits 131 = .ok (.lmul, 1) := by decide +kernel
theorem d_Mod_fits_132 : decode b_Mod_fits 132 = .ok (.ladd, 1) := by decide +kernel
theorem d_Mod_fits_133 : decode b_Mod_fits 133 = .ok (.lastore, 1) := by decide +kernel
theorem d_Mod_fits_134 : decode b_Mod_fits 134 = .ok (.iinc 7 1, 3) := by decide +kernel
theorem d_Mod_fits_137 : decode b_Mod_fits 137 = .ok (.goto (-59), 3) := by decide +kernel
theorem d_Mod_fits_140 : decode b_Mod_fits 140 = .ok (.iinc 6 1, 3) := by decide +kernel
theorem d_Mod_fits_143 : decode b_Mod_fits 143 = .ok (.goto (-75), 3) := by decide +kernel
theorem d_Mod_fits_146 : decode b_Mod_fits 146 = .ok (.lconst 0, 1) := by decide +kernel
theorem d_Mod_fits_147 : decode b_Mod_fits 147 = .ok (.lstore 6, 2) := by decide +kernel
theorem d_Mod_fits_149 : decode b_Mod_fits 149 = .ok (.iconst 0, 1) := by decide +kernel
theorem d_Mod_fits_150 : decode b_Mod_fits 150 = .ok (.istore 8, 2) := by decide +kernel
theorem d_Mod_fits_152 : decode b_Mod_fits 152 = .ok (.iload 8, 2) := by decide +kernel
theorem d_Mod_fits_154 : decode b_Mod_fits 154 = .ok (.bipush 10, 2) := by decide +kernel
theorem d_Mod_fits_156 : decode b_Mod_fits 156 = .ok (.if_icmp .ge 42, 3) := by decide +kernel
theorem d_Mod_fits_159 : decode b_Mod_fits 159 = .ok (.lload 6, 2) := by decide +kernel
theorem d_Mod_fits_161 : decode b_Mod_fits 161 = .ok (.aload_n 0, 1) := by decide +kernel
theorem d_Mod_fits_162 : decode b_Mod_fits 162 = .ok (.getfield 81, 3) := by decide +kernel
theorem d_Mod_fits_165 : decode b_Mod_fits 165 = .ok (.iload 8, 2) := by decide +kernel
theorem d_Mod_fits_167 : decode b_Mod_fits 167 = .ok (.laload, 1) := by decide +kernel
theorem d_Mod_fits_168 : decode b_Mod_fits 168 = .ok (.ladd, 1) := by decide +kernel
theorem d_Mod_fits_169 : decode b_Mod_fits 169 = .ok (.lstore 6, 2) := by decide +kernel
theorem d_Mod_fits_171 : decode b_Mod_fits 171 = .ok (.aload_n 0, 1) := by decide +kernel
theorem d_Mod_fits_172 : decode b_Mod_fits 172 = .ok (.getfield 78, 3) := by decide +kernel
theorem d_Mod_fits_175 : decode b_Mod_fits 175 = .ok (.iload 8, 2) := by decide +kernel
theorem d_Mod_fits_177 : decode b_Mod_fits 177 = .ok (.lload 6, 2) := by decide +kernel
theorem d_Mod_fits_179 : decode b_Mod_fits 179 = .ok (.ldc2_w 100, 3) := by decide +kernel
theorem d_Mod_fits_182 : decode b_Mod_fits 182 = .ok (.lrem, 1) := by decide +kernel
theorem d_Mod_fits_183 : decode b_Mod_fits 183 = .ok (.lastore, 1) := by decide +kernel
theorem d_Mod_fits_184 : decode b_Mod_fits 184 = .ok (.lload 6, 2) := by decide +kernel
theorem d_Mod_fits_186 : decode b_Mod_fits 186 = .ok (.ldc2_w 100, 3) := by decide +kernel
theorem d_Mod_fits_189 : decode b_Mod_fits 189 = .ok (.ldiv, 1) := by decide +kernel
theorem d_Mod_fits_190 : decode b_Mod_fits 190 = .ok (.lstore 6, 2) := by decide +kernel
theorem d_Mod_fits_192 : decode b_Mod_fits 192 = .ok (.iinc 8 1, 3) := by decide +kernel
theorem d_Mod_fits_195 : decode b_Mod_fits 195 = .ok (.goto (-43), 3) := by decide +kernel
theorem d_Mod_fits_198 : decode b_Mod_fits 198 = .ok (.iinc 5 1, 3) := by decide +kernel
theorem d_Mod_fits_201 : decode b_Mod_fits 201 = .ok (.goto (-167), 3) := by decide +kernel
theorem d_Mod_fits_204 : decode b_Mod_fits 204 = .ok (.iconst 2, 1) := by decide +kernel
theorem d_Mod_fits_205 : decode b_Mod_fits 205 = .ok (.iload 4, 2) := by decide +kernel
theorem d_Mod_fits_207 : decode b_Mod_fits 207 = .ok (.imul, 1) := by decide +kernel
theorem d_Mod_fits_208 : decode b_Mod_fits 208 = .ok (.istore 5, 2) := by decide +kernel
theorem d_Mod_fits_210 : decode b_Mod_fits 210 = .ok (.bipush 9, 2) := by decide +kernel
theorem d_Mod_fits_212 : decode b_Mod_fits 212 = .ok (.istore 6, 2) := by decide +kernel
theorem d_Mod_fits_214 : decode b_Mod_fits 214 = .ok (.iload 6, 2) := by decide +kernel
theorem d_Mod_fits_216 : decode b_Mod_fits 216 = .ok (.ifCond .lt 56, 3) := by decide +kernel
theorem d_Mod_fits_219 : decode b_Mod_fits 219 = .ok (.iload 6, 2) := by decide +kernel
theorem d_Mod_fits_221 : decode b_Mod_fits 221 = .ok (.iload 5, 2) := by decide +kernel
theorem d_Mod_fits_223 : decode b_Mod_fits 223 = .ok (.if_icmp .ne 8, 3) := by decide +kernel
theorem d_Mod_fits_226 : decode b_Mod_fits 226 = .ok (.iload_n 3, 1) := by decide +kernel
theorem d_Mod_fits_227 : decode b_Mod_fits 227 = .ok (.i2l, 1) := by decide +kernel
theorem d_Mod_fits_228 : decode b_Mod_fits 228 = .ok (.goto 4, 3) := by decide +kernel
theorem d_Mod_fits_231 : decode b_Mod_fits 231 = .ok (.lconst 0, 1) := by decide +kernel
theorem d_Mod_fits_232 : decode b_Mod_fits 232 = .ok (.lstore 7, 2) := by decide +kernel
theorem d_Mod_fits_234 : decode b_Mod_fits 234 = .ok (.aload_n 0, 1) := by decide +kernel
theorem d_Mod_fits_235 : decode b_Mod_fits 235 = .ok (.getfield 78, 3) := by decide +kernel
theorem d_Mod_fits_238 : decode b_Mod_fits 238 = .ok (.iload 6, 2) := by decide +kernel
theorem d_Mod_fits_240 : decode b_Mod_fits 240 = .ok (.laload, 1) := by decide +kernel
theorem d_Mod_fits_241 : decode b_Mod_fits 241 = .ok (.lload 7, 2) := by decide +kernel
theorem d_Mod_fits_243 : decode b_Mod_fits 243 = .ok (.lcmp, 1) := by decide +kernel
theorem d_Mod_fits_244 : decode b_Mod_fits 244 = .ok (.ifCond .eq 22, 3) := by decide +kernel
theorem d_Mod_fits_247 : decode b_Mod_fits 247 = .ok (.aload_n 0, 1) := by decide +kernel
theorem d_Mod_fits_248 : decode b_Mod_fits 248 = .ok (.getfield 78, 3) := by decide +kernel
theorem d_Mod_fits_251 : decode b_Mod_fits 251 = .ok (.iload 6, 2) := by decide +kernel
theorem d_Mod_fits_253 : decode b_Mod_fits 253 = .ok (.laload, 1) := by decide +kernel
theorem d_Mod_fits_254 : decode b_Mod_fits 254 = .ok (.lload 7, 2) := by decide +kernel
theorem d_Mod_fits_256 : decode b_Mod_fits 256 = .ok (.lcmp, 1) := by decide +kernel
theorem d_Mod_fits_257 : decode b_Mod_fits 257 = .ok (.ifCond .ge 7, 3) := by decide +kernel
theorem d_Mod_fits_260 : decode b_Mod_fits 260 = .ok (.iconst 1, 1) := by decide +kernel
theorem d_Mod_fits_261 : decode b_Mod_fits 261 = .ok (.goto 4, 3) := by decide +kernel
theorem d_Mod_fits_264 : decode b_Mod_fits 264 = .ok (.iconst 0, 1) := by decide +kernel
theorem d_Mod_fits_265 : decode b_Mod_fits 265 = .ok (.ireturn, 1) := by decide +kernel
theorem d_Mod_fits_266 : decode b_Mod_fits 266 = .ok (.iinc 6 (-1), 3) := by decide +kernel
theorem d_Mod_fits_269 : decode b_Mod_fits 269 = .ok (.goto (-55), 3) := by decide +kernel
theorem d_Mod_fits_272 : decode b_Mod_fits 272 = .ok (.iconst 1, 1) := by decide +kernel
theorem d_Mod_fits_273 : decode b_Mod_fits 273 = .ok (.ireturn, 1) := by decide +kernel
abbrev b_Mod_turn : ByteArray := prog_8_method_5_code
def y_Mod_turn : MethodName := ⟨R_Mod, "turn", "(JI)J"⟩
theorem d_Mod_turn_0 : decode b_Mod_turn 0 = .ok (.lload_n 0, 1) := by decide +kernel
theorem d_Mod_turn_1 : decode b_Mod_turn 1 = .ok (.lconst 1, 1) := by decide +kernel
theorem d_Mod_turn_2 : decode b_Mod_turn 2 = .ok (.iload_n 2, 1) := by decide +kernel
theorem d_Mod_turn_3 : decode b_Mod_turn 3 = .ok (.lshl, 1) := by decide +kernel
theorem d_Mod_turn_4 : decode b_Mod_turn 4 = .ok (.lmul, 1) := by decide +kernel
theorem d_Mod_turn_5 : decode b_Mod_turn 5 = .ok (.ldc2_w 92, 3) := by decide +kernel
theorem d_Mod_turn_8 : decode b_Mod_turn 8 = .ok (.lrem, 1) := by decide +kernel
theorem d_Mod_turn_9 : decode b_Mod_turn 9 = .ok (.lload_n 0, 1) := by decide +kernel
theorem d_Mod_turn_10 : decode b_Mod_turn 10 = .ok (.lconst 1, 1) := by decide +kernel
theorem d_Mod_turn_11 : decode b_Mod_turn 11 = .ok (.bipush 32, 2) := by decide +kernel
theorem d_Mod_turn_13 : decode b_Mod_turn 13 = .ok (.iload_n 2, 1) := by decide +kernel
theorem d_Mod_turn_14 : decode b_Mod_turn 14 = .ok (.isub, 1) := by decide +kernel
theorem d_Mod_turn_15 : decode b_Mod_turn 15 = .ok (.lshl, 1) := by decide +kernel
theorem d_Mod_turn_16 : decode b_Mod_turn 16 = .ok (.ldiv, 1) := by decide +kernel
theorem d_Mod_turn_17 : decode b_Mod_turn 17 = .ok (.ladd, 1) := by decide +kernel
theorem d_Mod_turn_18 : decode b_Mod_turn 18 = .ok (.lreturn, 1) := by decide +kernel
abbrev b_Mod_not : ByteArray := prog_8_method_6_code
def y_Mod_not : MethodName := ⟨R_Mod, "not", "(J)J"⟩
theorem d_Mod_not_0 : decode b_Mod_not 0 = .ok (.ldc2_w 102, 3) := by decide +kernel
theorem d_Mod_not_3 : decode b_Mod_not 3 = .ok (.lload_n 0, 1) := by decide +kernel
theorem d_Mod_not_4 : decode b_Mod_not 4 = .ok (.lsub, 1) := by decide +kernel
theorem d_Mod_not_5 : decode b_Mod_not 5 = .ok (.lreturn, 1) := by decide +kernel
abbrev b_Mod_digestOf : ByteArray := prog_8_method_7_code
def y_Mod_digestOf : MethodName := ⟨R_Mod, "digestOf", "(I)V"⟩
theorem d_Mod_digestOf_0 : decode b_Mod_digestOf 0 = .ok (.iload_n 1, 1) := by decide +kernel
theorem d_Mod_digestOf_1 : decode b_Mod_digestOf 1 = .ok (.istore_n 2, 1) := by decide +kernel
theorem d_Mod_digestOf_2 : decode b_Mod_digestOf 2 = .ok (.aload_n 0, 1) := by decide +kernel
theorem d_Mod_digestOf_3 : decode b_Mod_digestOf 3 = .ok (.getfield 59, 3) := by decide +kernel
theorem d_Mod_digestOf_6 : decode b_Mod_digestOf 6 = .ok (.iload_n 2, 1) := by decide +kernel
theorem d_Mod_digestOf_7 : decode b_Mod_digestOf 7 = .ok (.sipush 128, 3) := by decide +kernel
theorem d_Mod_digestOf_10 : decode b_Mod_digestOf 10 = .ok (.iastore, 1) := by decide +kernel
theorem d_Mod_digestOf_11 : decode b_Mod_digestOf 11 = .ok (.iload_n 2, 1) := by decide +kernel
theorem d_Mod_digestOf_12 : decode b_Mod_digestOf 12 = .ok (.iconst 1, 1) := by decide +kernel
theorem d_Mod_digestOf_13 : decode b_Mod_digestOf 13 = .ok (.iadd, 1) := by decide +kernel
theorem d_Mod_digestOf_14 : decode b_Mod_digestOf 14 = .ok (.istore_n 2, 1) := by decide +kernel
theorem d_Mod_digestOf_15 : decode b_Mod_digestOf 15 = .ok (.iload_n 2, 1) := by decide +kernel
theorem d_Mod_digestOf_16 : decode b_Mod_digestOf 16 = .ok (.bipush 64, 2) := by decide +kernel
theorem d_Mod_digestOf_18 : decode b_Mod_digestOf 18 = .ok (.irem, 1) := by decide +kernel
theorem d_Mod_digestOf_19 : decode b_Mod_digestOf 19 = .ok (.bipush 56, 2) := by decide +kernel
theorem d_Mod_digestOf_21 : decode b_Mod_digestOf 21 = .ok (.if_icmp .eq 17, 3) := by decide +kernel
theorem d_Mod_digestOf_24 : decode b_Mod_digestOf 24 = .ok (.aload_n 0, 1) := by decide +kernel
theorem d_Mod_digestOf_25 : decode b_Mod_digestOf 25 = .ok (.getfield 59, 3) := by decide +kernel
theorem d_Mod_digestOf_28 : decode b_Mod_digestOf 28 = .ok (.iload_n 2, 1) := by decide +kernel
theorem d_Mod_digestOf_29 : decode b_Mod_digestOf 29 = .ok (.iconst 0, 1) := by decide +kernel
theorem d_Mod_digestOf_30 : decode b_Mod_digestOf 30 = .ok (.iastore, 1) := by decide +kernel
theorem d_Mod_digestOf_31 : decode b_Mod_digestOf 31 = .ok (.iload_n 2, 1) := by decide +kernel
theorem d_Mod_digestOf_32 : decode b_Mod_digestOf 32 = .ok (.iconst 1, 1) := by decide +kernel
theorem d_Mod_digestOf_33 : decode b_Mod_digestOf 33 = .ok (.iadd, 1) := by decide +kernel
theorem d_Mod_digestOf_34 : decode b_Mod_digestOf 34 = .ok (.istore_n 2, 1) := by decide +kernel
theorem d_Mod_digestOf_35 : decode b_Mod_digestOf 35 = .ok (.goto (-20), 3) := by decide +kernel
theorem d_Mod_digestOf_38 : decode b_Mod_digestOf 38 = .ok (.iconst 0, 1) := by decide +kernel
theorem d_Mod_digestOf_39 : decode b_Mod_digestOf 39 = .ok (.istore_n 3, 1) := by decide +kernel
theorem d_Mod_digestOf_40 : decode b_Mod_digestOf 40 = .ok (.iload_n 3, 1) := by decide +kernel
theorem d_Mod_digestOf_41 : decode b_Mod_digestOf 41 = .ok (.bipush 8, 2) := by decide +kernel
theorem d_Mod_digestOf_43 : decode b_Mod_digestOf 43 = .ok (.if_icmp .ge 36, 3) := by decide +kernel
theorem d_Mod_digestOf_46 : decode b_Mod_digestOf 46 = .ok (.aload_n 0, 1) := by decide +kernel
theorem d_Mod_digestOf_47 : decode b_Mod_digestOf 47 = .ok (.getfield 59, 3) := by decide +kernel
theorem d_Mod_digestOf_50 : decode b_Mod_digestOf 50 = .ok (.iload_n 2, 1) := by decide +kernel
theorem d_Mod_digestOf_51 : decode b_Mod_digestOf 51 = .ok (.iload_n 3, 1) := by decide +kernel
theorem d_Mod_digestOf_52 : decode b_Mod_digestOf 52 = .ok (.iadd, 1) := by decide +kernel
theorem d_Mod_digestOf_53 : decode b_Mod_digestOf 53 = .ok (.ldc2_w 104, 3) := by decide +kernel
theorem d_Mod_digestOf_56 : decode b_Mod_digestOf 56 = .ok (.iload_n 1, 1) := by decide +kernel
theorem d_Mod_digestOf_57 : decode b_Mod_digestOf 57 = .ok (.i2l, 1) := by decide +kernel
theorem d_Mod_digestOf_58 : decode b_Mod_digestOf 58 = .ok (.lmul, 1) := by decide +kernel
theorem d_Mod_digestOf_59 : decode b_Mod_digestOf 59 = .ok (.bipush 56, 2) := by decide +kernel
theorem d_Mod_digestOf_61 : decode b_Mod_digestOf 61 = .ok (.bipush 8, 2) := by decide +kernel
theorem d_Mod_digestOf_63 : decode b_Mod_digestOf 63 = .ok (.iload_n 3, 1) := by decide +kernel
theorem d_Mod_digestOf_64 : decode b_Mod_digestOf 64 = .ok (.imul, 1) := by decide +kernel
theorem d_Mod_digestOf_65 : decode b_Mod_digestOf 65 = .ok (.isub, 1) := by decide +kernel
theorem d_Mod_digestOf_66 : decode b_Mod_digestOf 66 = .ok (.lshr, 1) := by decide +kernel
theorem d_Mod_digestOf_67 : decode b_Mod_digestOf 67 = .ok (.ldc2_w 106, 3) := by decide +kernel
theorem d_Mod_digestOf_70 : decode b_Mod_digestOf 70 = .ok (.land, 1) := by decide +kernel
theorem d_Mod_digestOf_71 : decode b_Mod_digestOf 71 = .ok (.l2i, 1) := by decide +kernel
theorem d_Mod_digestOf_72 : decode b_Mod_digestOf 72 = .ok (.iastore, 1) := by decide +kernel
theorem d_Mod_digestOf_73 : decode b_Mod_digestOf 73 = .ok (.iinc 3 1, 3) := by decide +kernel
theorem d_Mod_digestOf_76 : decode b_Mod_digestOf 76 = .ok (.goto (-36), 3) := by decide +kernel
theorem d_Mod_digestOf_79 : decode b_Mod_digestOf 79 = .ok (.iload_n 2, 1) := by decide +kernel
theorem d_Mod_digestOf_80 : decode b_Mod_digestOf 80 = .ok (.bipush 8, 2) := by decide +kernel
theorem d_Mod_digestOf_82 : decode b_Mod_digestOf 82 = .ok (.iadd, 1) := by decide +kernel
theorem d_Mod_digestOf_83 : decode b_Mod_digestOf 83 = .ok (.istore_n 2, 1) := by decide +kernel
theorem d_Mod_digestOf_84 : decode b_Mod_digestOf 84 = .ok (.iconst 0, 1) := by decide +kernel
theorem d_Mod_digestOf_85 : decode b_Mod_digestOf 85 = .ok (.istore_n 3, 1) := by decide +kernel
theorem d_Mod_digestOf_86 : decode b_Mod_digestOf 86 = .ok (.iload_n 3, 1) := by decide +kernel
theorem d_Mod_digestOf_87 : decode b_Mod_digestOf 87 = .ok (.bipush 8, 2) := by decide +kernel
theorem d_Mod_digestOf_89 : decode b_Mod_digestOf 89 = .ok (.if_icmp .ge 21, 3) := by decide +kernel
theorem d_Mod_digestOf_92 : decode b_Mod_digestOf 92 = .ok (.aload_n 0, 1) := by decide +kernel
theorem d_Mod_digestOf_93 : decode b_Mod_digestOf 93 = .ok (.getfield 75, 3) := by decide +kernel
theorem d_Mod_digestOf_96 : decode b_Mod_digestOf 96 = .ok (.iload_n 3, 1) := by decide +kernel
theorem d_Mod_digestOf_97 : decode b_Mod_digestOf 97 = .ok (.aload_n 0, 1) := by decide +kernel
theorem d_Mod_digestOf_98 : decode b_Mod_digestOf 98 = .ok (.getfield 69, 3) := by decide +kernel
theorem d_Mod_digestOf_101 : decode b_Mod_digestOf 101 = .ok (.iload_n 3, 1) := by decide +kernel
theorem d_Mod_digestOf_102 : decode b_Mod_digestOf 102 = .ok (.laload, 1) := by decide +kernel
theorem d_Mod_digestOf_103 : decode b_Mod_digestOf 103 = .ok (.lastore, 1) := by decide +kernel
theorem d_Mod_digestOf_104 : decode b_Mod_digestOf 104 = .ok (.iinc 3 1, 3) := by decide +kernel
theorem d_Mod_digestOf_107 : decode b_Mod_digestOf 107 = .ok (.goto (-21), 3) := by decide +kernel
theorem d_Mod_digestOf_110 : decode b_Mod_digestOf 110 = .ok (.iconst 0, 1) := by decide +kernel
theorem d_Mod_digestOf_111 : decode b_Mod_digestOf 111 = .ok (.istore_n 3, 1) := by decide +kernel
theorem d_Mod_digestOf_112 : decode b_Mod_digestOf 112 = .ok (.iload_n 3, 1) := by decide +kernel
theorem d_Mod_digestOf_113 : decode b_Mod_digestOf 113 = .ok (.iload_n 2, 1) := by decide +kernel
theorem d_Mod_digestOf_114 : decode b_Mod_digestOf 114 = .ok (.if_icmp .ge 16, 3) := by decide +kernel
theorem d_Mod_digestOf_117 : decode b_Mod_digestOf 117 = .ok (.aload_n 0, 1) := by decide +kernel
theorem d_Mod_digestOf_118 : decode b_Mod_digestOf 118 = .ok (.iload_n 3, 1) := by decide +kernel
theorem d_Mod_digestOf_119 : decode b_Mod_digestOf 119 = .ok (.invokevirtual 108, 3) := by decide +kernel
theorem d_Mod_digestOf_122 : decode b_Mod_digestOf 122 = .ok (.iload_n 3, 1) := by decide +kernel
theorem d_Mod_digestOf_123 : decode b_Mod_digestOf 123 = .ok (.bipush 64, 2) := by decide +kernel
theorem d_Mod_digestOf_125 : decode b_Mod_digestOf 125 = .ok (.iadd, 1) := by decide +kernel
theorem d_Mod_digestOf_126 : decode b_Mod_digestOf 126 = .ok (.istore_n 3, 1) := by decide +kernel
theorem d_Mod_digestOf_127 : decode b_Mod_digestOf 127 = .ok (.goto (-15), 3) := by decide +kernel
theorem d_Mod_digestOf_130 : decode b_Mod_digestOf 130 = .ok (.iconst 0, 1) := by decide +kernel
theorem d_Mod_digestOf_131 : decode b_Mod_digestOf 131 = .ok (.istore_n 3, 1) := by decide +kernel
theorem d_Mod_digestOf_132 : decode b_Mod_digestOf 132 = .ok (.iload_n 3, 1) := by decide +kernel
theorem d_Mod_digestOf_133 : decode b_Mod_digestOf 133 = .ok (.bipush 32, 2) := by decide +kernel
theorem d_Mod_digestOf_135 : decode b_Mod_digestOf 135 = .ok (.if_icmp .ge 38, 3) := by decide +kernel
theorem d_Mod_digestOf_138 : decode b_Mod_digestOf 138 = .ok (.aload_n 0, 1) := by decide +kernel
theorem d_Mod_digestOf_139 : decode b_Mod_digestOf 139 = .ok (.getfield 62, 3) := by decide +kernel
theorem d_Mod_digestOf_142 : decode b_Mod_digestOf 142 = .ok (.iload_n 3, 1) := by decide +kernel
theorem d_Mod_digestOf_143 : decode b_Mod_digestOf 143 = .ok (.aload_n 0, 1) := by decide +kernel
theorem d_Mod_digestOf_144 : decode b_Mod_digestOf 144 = .ok (.getfield 75, 3) := by decide +kernel
theorem d_Mod_digestOf_147 : decode b_Mod_digestOf 147 = .ok (.iload_n 3, 1) := by decide +kernel
theorem d_Mod_digestOf_148 : decode b_Mod_digestOf 148 = .ok (.iconst 4, 1) := by decide +kernel
theorem d_Mod_digestOf_149 : decode b_Mod_digestOf 149 = .ok (.idiv, 1) := by decide +kernel
theorem d_Mod_digestOf_150 : decode b_Mod_digestOf 150 = .ok (.laload, 1) := by decide +kernel
theorem d_Mod_digestOf_151 : decode b_Mod_digestOf 151 = .ok (.bipush 24, 2) := by decide +kernel
theorem d_Mod_digestOf_153 : decode b_Mod_digestOf 153 = .ok (.bipush 8, 2) := by decide +kernel
theorem d_Mod_digestOf_155 : decode b_Mod_digestOf 155 = .ok (.iload_n 3, 1) := by decide +kernel
theorem d_Mod_digestOf_156 : decode b_Mod_digestOf 156 = .ok (.iconst 4, 1) := by decide +kernel
theorem d_Mod_digestOf_157 : decode b_Mod_digestOf 157 = .ok (.irem, 1) := by decide +kernel
theorem d_Mod_digestOf_158 : decode b_Mod_digestOf 158 = .ok (.imul, 1) := by decide +kernel
theorem d_Mod_digestOf_159 : decode b_Mod_digestOf 159 = .ok (.isub, 1) := by decide +kernel
theorem d_Mod_digestOf_160 : decode b_Mod_digestOf 160 = .ok (.lshr, 1) := by decide +kernel
theorem d_Mod_digestOf_161 : decode b_Mod_digestOf 161 = .ok (.ldc2_w 106, 3) := by decide +kernel
theorem d_Mod_digestOf_164 : decode b_Mod_digestOf 164 = .ok (.land, 1) := by decide +kernel
theorem d_Mod_digestOf_165 : decode b_Mod_digestOf 165 = .ok (.l2i, 1) := by decide +kernel
theorem d_Mod_digestOf_166 : decode b_Mod_digestOf 166 = .ok (.iastore, 1) := by decide +kernel
theorem d_Mod_digestOf_167 : decode b_Mod_digestOf 167 = .ok (.iinc 3 1, 3) := by decide +kernel
theorem d_Mod_digestOf_170 : decode b_Mod_digestOf 170 = .ok (.goto (-38), 3) := by decide +kernel
theorem d_Mod_digestOf_173 : decode b_Mod_digestOf 173 = .ok (.return_, 1) := by decide +kernel
abbrev b_Mod_block : ByteArray := prog_8_method_8_code
def y_Mod_block : MethodName := ⟨R_Mod, "block", "(I)V"⟩
theorem d_Mod_block_0 : decode b_Mod_block 0 = .ok (.iconst 0, 1) := by decide +kernel
theorem d_Mod_block_1 : decode b_Mod_block 1 = .ok (.istore_n 2, 1) := by decide +kernel
theorem d_Mod_block_2 : decode b_Mod_block 2 = .ok (.iload_n 2, 1) := by decide +kernel
theorem d_Mod_block_3 : decode b_Mod_block 3 = .ok (.bipush 64, 2) := by decide +kernel
theorem d_Mod_block_5 : decode b_Mod_block 5 = .ok (.if_icmp .ge 160, 3) := by decide +kernel
theorem d_Mod_block_8 : decode b_Mod_block 8 = .ok (.iload_n 2, 1) := by decide +kernel
theorem d_Mod_block_9 : decode b_Mod_block 9 = .ok (.bipush 16, 2) := by decide +kernel
theorem d_Mod_block_11 : decode b_Mod_block 11 = .ok (.if_icmp .ge 56, 3) := by decide +kernel
theorem d_Mod_block_14 : decode b_Mod_block 14 = .ok (.aload_n 0, 1) := by decide +kernel
theorem d_Mod_block_15 : decode b_Mod_block 15 = .ok (.getfield 72, 3) := by decide +kernel
theorem d_Mod_block_18 : decode b_Mod_block 18 = .ok (.iload_n 2, 1) := by decide +kernel
theorem d_Mod_block_19 : decode b_Mod_block 19 = .ok (.lconst 0, 1) := by decide +kernel
theorem d_Mod_block_20 : decode b_Mod_block 20 = .ok (.lastore, 1) := by decide +kernel
theorem d_Mod_block_21 : decode b_Mod_block 21 = .ok (.iconst 0, 1) := by decide +kernel
theorem d_Mod_block_22 : decode b_Mod_block 22 = .ok (.istore_n 3, 1) := by decide +kernel
theorem d_Mod_block_23 : decode b_Mod_block 23 = .ok (.iload_n 3, 1) := by decide +kernel
theorem d_Mod_block_24 : decode b_Mod_block 24 = .ok (.iconst 4, 1) := by decide +kernel
theorem d_Mod_block_25 : decode b_Mod_block 25 = .ok (.if_icmp .ge 39, 3) := by decide +kernel
theorem d_Mod_block_28 : decode b_Mod_block 28 = .ok (.aload_n 0, 1) := by decide +kernel
theorem d_Mod_block_29 : decode b_Mod_block 29 = .ok (.getfield 72, 3) := by decide +kernel
theorem d_Mod_block_32 : decode b_Mod_block 32 = .ok (.iload_n 2, 1) := by decide +kernel
theorem d_Mod_block_33 : decode b_Mod_block 33 = .ok (.aload_n 0, 1) := by decide +kernel
theorem d_Mod_block_34 : decode b_Mod_block 34 = .ok (.getfield 72, 3) := by decide +kernel
theorem d_Mod_block_37 : decode b_Mod_block 37 = .ok (.iload_n 2, 1) := by decide +kernel
theorem d_Mod_block_38 : decode b_Mod_block 38 = .ok (.laload, 1) := by decide +kernel
theorem d_Mod_block_39 : decode b_Mod_block 39 = .ok (.ldc2_w 112, 3) := by decide +kernel
theorem d_Mod_block_42 : decode b_Mod_block 42 = .ok (.lmul, 1) := by decide +kernel
theorem d_Mod_block_43 : decode b_Mod_block 43 = .ok (.aload_n 0, 1) := by decide +kernel
theorem d_Mod_block_44 : decode b_Mod_block 44 = .ok (.getfield 59, 3) := by decide +kernel
theorem d_Mod_block_47 : decode b_Mod_block 47 = .ok (.iload_n 1, 1) := by decide +kernel
theorem d_Mod_block_48 : decode b_Mod_block 48 = .ok (.iconst 4, 1) := by decide +kernel
theorem d_Mod_block_49 : decode b_Mod_block 49 = .ok (.iload_n 2, 1) := by decide +kernel
theorem d_Mod_block_50 : decode b_Mod_block 50 = .ok (.imul, 1) := by decide +kernel
theorem d_Mod_block_51 : decode b_Mod_block 51 = .ok (.iadd, 1) := by decide +kernel
theorem d_Mod_block_52 : decode b_Mod_block 52 = .ok (.iload_n 3, 1) := by decide +kernel
theorem d_Mod_block_53 : decode b_Mod_block 53 = .ok (.iadd, 1) := by decide +kernel
theorem d_Mod_block_54 : decode b_Mod_block 54 = .ok (.iaload, 1) := by decide +kernel
theorem d_Mod_block_55 : decode b_Mod_block 55 = .ok (.i2l, 1) := by decide +kernel
theorem d_Mod_block_56 : decode b_Mod_block 56 = .ok (.ladd, 1) := by decide +kernel
theorem d_Mod_block_57 : decode b_Mod_block 57 = .ok (.lastore, 1) := by decide +kernel
theorem d_Mod_block_58 : decode b_Mod_block 58 = .ok (.iinc 3 1, 3) := by decide +kernel
theorem d_Mod_block_61 : decode b_Mod_block 61 = .ok (.goto (-38), 3) := by decide +kernel
theorem d_Mod_block_64 : decode b_Mod_block 64 = .ok (.goto 95, 3) := by decide +kernel
theorem d_Mod_block_67 : decode b_Mod_block 67 = .ok (.aload_n 0, 1) := by decide +kernel
theorem d_Mod_block_68 : decode b_Mod_block 68 = .ok (.getfield 72, 3) := by decide +kernel
theorem d_Mod_block_71 : decode b_Mod_block 71 = .ok (.iload_n 2, 1) := by decide +kernel
theorem d_Mod_block_72 : decode b_Mod_block 72 = .ok (.bipush 15, 2) := by decide +kernel
theorem d_Mod_block_74 : decode b_Mod_block 74 = .ok (.isub, 1) := by decide +kernel
theorem d_Mod_block_75 : decode b_Mod_block 75 = .ok (.laload, 1) := by decide +kernel
theorem d_Mod_block_76 : decode b_Mod_block 76 = .ok (.lstore_n 3, 1) := by decide +kernel
theorem d_Mod_block_77 : decode b_Mod_block 77 = .ok (.aload_n 0, 1) := by decide +kernel
theorem d_Mod_block_78 : decode b_Mod_block 78 = .ok (.getfield 72, 3) := by decide +kernel
theorem d_Mod_block_81 : decode b_Mod_block 81 = .ok (.iload_n 2, 1) := by decide +kernel
theorem d_Mod_block_82 : decode b_Mod_block 82 = .ok (.iconst 2, 1) := by decide +kernel
theorem d_Mod_block_83 : decode b_Mod_block 83 = .ok (.isub, 1) := by decide +kernel
theorem d_Mod_block_84 : decode b_Mod_block 84 = .ok (.laload, 1) := by decide +kernel
theorem d_Mod_block_85 : decode b_Mod_block 85 = .ok (.lstore 5, 2) := by decide +kernel
theorem d_Mod_block_87 : decode b_Mod_block 87 = .ok (.aload_n 0, 1) := by decide +kernel
theorem d_Mod_block_88 : decode b_Mod_block 88 = .ok (.getfield 72, 3) := by decide +kernel
theorem d_Mod_block_91 : decode b_Mod_block 91 = .ok (.iload_n 2, 1) := by decide +kernel
theorem d_Mod_block_92 : decode b_Mod_block 92 = .ok (.aload_n 0, 1) := by decide +kernel
theorem d_Mod_block_93 : decode b_Mod_block 93 = .ok (.getfield 72, 3) := by decide +kernel
theorem d_Mod_block_96 : decode b_Mod_block 96 = .ok (.iload_n 2, 1) := by decide +kernel
theorem d_Mod_block_97 : decode b_Mod_block 97 = .ok (.bipush 16, 2) := by decide +kernel
theorem d_Mod_block_99 : decode b_Mod_block 99 = .ok (.isub, 1) := by decide +kernel
theorem d_Mod_block_100 : decode b_Mod_block 100 = .ok (.laload, 1) := by decide +kernel
theorem d_Mod_block_101 : decode b_Mod_block 101 = .ok (.lload_n 3, 1) := by decide +kernel
theorem d_Mod_block_102 : decode b_Mod_block 102 = .ok (.bipush 25, 2) := by decide +kernel
theorem d_Mod_block_104 : decode b_Mod_block 104 = .ok (.invokestatic 114, 3) := by decide +kernel
theorem d_Mod_block_107 : decode b_Mod_block 107 = .ok (.lload_n 3, 1) := by decide +kernel
theorem d_Mod_block_108 : decode b_Mod_block 108 = .ok (.bipush 14, 2) := by decide +kernel
theorem d_Mod_block_110 : decode b_Mod_block 110 = .ok (.invokestatic 114, 3) := by decide +kernel
theorem d_Mod_block_113 : decode b_Mod_block 113 = .ok (.lxor, 1) := by decide +kernel
theorem d_Mod_block_114 : decode b_Mod_block 114 = .ok (.lload_n 3, 1) := by decide +kernel
theorem d_Mod_block_115 : decode b_Mod_block 115 = .ok (.ldc2_w 104, 3) := by decide +kernel
theorem d_Mod_block_118 : decode b_Mod_block 118 = .ok (.ldiv, 1) := by decide +kernel
theorem d_Mod_block_119 : decode b_Mod_block 119 = .ok (.lxor, 1) := by decide +kernel
theorem d_Mod_block_120 : decode b_Mod_block 120 = .ok (.ladd, 1) := by decide +kernel
theorem d_Mod_block_121 : decode b_Mod_block 121 = .ok (.aload_n 0, 1) := by decide +kernel
theorem d_Mod_block_122 : decode b_Mod_block 122 = .ok (.getfield 72, 3) := by decide +kernel
theorem d_Mod_block_125 : decode b_Mod_block 125 = .ok (.iload_n 2, 1) := by decide +kernel
theorem d_Mod_block_126 : decode b_Mod_block 126 = .ok (.bipush 7, 2) := by decide +kernel
theorem d_Mod_block_128 : decode b_Mod_block 128 = .ok (.isub, 1) := by decide +kernel
theorem d_Mod_block_129 : decode b_Mod_block 129 = .ok (.laload, 1) := by decide +kernel
theorem d_Mod_block_130 : decode b_Mod_block 130 = .ok (.ladd, 1) := by decide +kernel
theorem d_Mod_block_131 : decode b_Mod_block 131 = .ok (.lload 5, 2) := by decide +kernel
theorem d_Mod_block_133 : decode b_Mod_block 133 = .ok (.bipush 15, 2) := by decide +kernel
theorem d_Mod_block_135 : decode b_Mod_block 135 = .ok (.invokestatic 114, 3) := by decide +kernel
theorem d_Mod_block_138 : decode b_Mod_block 138 = .ok (.lload 5, 2) := by decide +kernel
theorem d_Mod_block_140 : decode b_Mod_block 140 = .ok (.bipush 13, 2) := by decide +kernel
theorem d_Mod_block_142 : decode b_Mod_block 142 = .ok (.invokestatic 114, 3) := by decide +kernel
theorem d_Mod_block_145 : decode b_Mod_block 145 = .ok (.lxor, 1) := by decide +kernel
theorem d_Mod_block_146 : decode b_Mod_block 146 = .ok (.lload 5, 2) := by decide +kernel
theorem d_Mod_block_148 : decode b_Mod_block 148 = .ok (.ldc2_w 118, 3) := by decide +kernel
theorem d_Mod_block_151 : decode b_Mod_block 151 = .ok (.ldiv, 1) := by decide +kernel
theorem d_Mod_block_152 : decode b_Mod_block 152 = .ok (.lxor, 1) := by decide +kernel
theorem d_Mod_block_153 : decode b_Mod_block 153 = .ok (.ladd, 1) := by decide +kernel
theorem d_Mod_block_154 : decode b_Mod_block 154 = .ok (.ldc2_w 92, 3) := by decide +kernel
theorem d_Mod_block_157 : decode b_Mod_block 157 = .ok (.lrem, 1) := by decide +kernel
theorem d_Mod_block_158 : decode b_Mod_block 158 = .ok (.lastore, 1) := by decide +kernel
theorem d_Mod_block_159 : decode b_Mod_block 159 = .ok (.iinc 2 1, 3) := by decide +kernel
theorem d_Mod_block_162 : decode b_Mod_block 162 = .ok (.goto (-160), 3) := by decide +kernel
theorem d_Mod_block_165 : decode b_Mod_block 165 = .ok (.iconst 0, 1) := by decide +kernel
theorem d_Mod_block_166 : decode b_Mod_block 166 = .ok (.istore_n 2, 1) := by decide +kernel
theorem d_Mod_block_167 : decode b_Mod_block 167 = .ok (.iload_n 2, 1) := by decide +kernel
theorem d_Mod_block_168 : decode b_Mod_block 168 = .ok (.bipush 8, 2) := by decide +kernel
theorem d_Mod_block_170 : decode b_Mod_block 170 = .ok (.if_icmp .ge 21, 3) := by decide +kernel
theorem d_Mod_block_173 : decode b_Mod_block 173 = .ok (.aload_n 0, 1) := by decide +kernel
theorem d_Mod_block_174 : decode b_Mod_block 174 = .ok (.getfield 81, 3) := by decide +kernel
theorem d_Mod_block_177 : decode b_Mod_block 177 = .ok (.iload_n 2, 1) := by decide +kernel
theorem d_Mod_block_178 : decode b_Mod_block 178 = .ok (.aload_n 0, 1) := by decide +kernel
theorem d_Mod_block_179 : decode b_Mod_block 179 = .ok (.getfield 75, 3) := by decide +kernel
theorem d_Mod_block_182 : decode b_Mod_block 182 = .ok (.iload_n 2, 1) := by decide +kernel
theorem d_Mod_block_183 : decode b_Mod_block 183 = .ok (.laload, 1) := by decide +kernel
theorem d_Mod_block_184 : decode b_Mod_block 184 = .ok (.lastore, 1) := by decide +kernel
theorem d_Mod_block_185 : decode b_Mod_block 185 = .ok (.iinc 2 1, 3) := by decide +kernel
theorem d_Mod_block_188 : decode b_Mod_block 188 = .ok (.goto (-21), 3) := by decide +kernel
theorem d_Mod_block_191 : decode b_Mod_block 191 = .ok (.iconst 0, 1) := by decide +kernel
theorem d_Mod_block_192 : decode b_Mod_block 192 = .ok (.istore_n 2, 1) := by decide +kernel
theorem d_Mod_block_193 : decode b_Mod_block 193 = .ok (.iload_n 2, 1) := by decide +kernel
theorem d_Mod_block_194 : decode b_Mod_block 194 = .ok (.bipush 64, 2) := by decide +kernel
theorem d_Mod_block_196 : decode b_Mod_block 196 = .ok (.if_icmp .ge 214, 3) := by decide +kernel
theorem d_Mod_block_199 : decode b_Mod_block 199 = .ok (.aload_n 0, 1) := by decide +kernel
theorem d_Mod_block_200 : decode b_Mod_block 200 = .ok (.getfield 81, 3) := by decide +kernel
theorem d_Mod_block_203 : decode b_Mod_block 203 = .ok (.iconst 4, 1) := by decide +kernel
theorem d_Mod_block_204 : decode b_Mod_block 204 = .ok (.laload, 1) := by decide +kernel
theorem d_Mod_block_205 : decode b_Mod_block 205 = .ok (.lstore_n 3, 1) := by decide +kernel
theorem d_Mod_block_206 : decode b_Mod_block 206 = .ok (.aload_n 0, 1) := by decide +kernel
theorem d_Mod_block_207 : decode b_Mod_block 207 = .ok (.getfield 81, 3) := by decide +kernel
theorem d_Mod_block_210 : decode b_Mod_block 210 = .ok (.iconst 0, 1) := by decide +kernel
theorem d_Mod_block_211 : decode b_Mod_block 211 = .ok (.laload, 1) := by decide +kernel
theorem d_Mod_block_212 : decode b_Mod_block 212 = .ok (.lstore 5, 2) := by decide +kernel
theorem d_Mod_block_214 : decode b_Mod_block 214 = .ok (.aload_n 0, 1) := by decide +kernel
theorem d_Mod_block_215 : decode b_Mod_block 215 = .ok (.getfield 81, 3) := by decide +kernel
theorem d_Mod_block_218 : decode b_Mod_block 218 = .ok (.bipush 7, 2) := by decide +kernel
theorem d_Mod_block_220 : decode b_Mod_block 220 = .ok (.laload, 1) := by decide +kernel
theorem d_Mod_block_221 : decode b_Mod_block 221 = .ok (.lload_n 3, 1) := by decide +kernel
theorem d_Mod_block_222 : decode b_Mod_block 222 = .ok (.bipush 26, 2) := by decide +kernel
theorem d_Mod_block_224 : decode b_Mod_block 224 = .ok (.invokestatic 114, 3) := by decide +kernel
theorem d_Mod_block_227 : decode b_Mod_block 227 = .ok (.lload_n 3, 1) := by decide +kernel
theorem d_Mod_block_228 : decode b_Mod_block 228 = .ok (.bipush 21, 2) := by decide +kernel
theorem d_Mod_block_230 : decode b_Mod_block 230 = .ok (.invokestatic 114, 3) := by decide +kernel
theorem d_Mod_block_233 : decode b_Mod_block 233 = .ok (.lxor, 1) := by decide +kernel
theorem d_Mod_block_234 : decode b_Mod_block 234 = .ok (.lload_n 3, 1) := by decide +kernel
theorem d_Mod_block_235 : decode b_Mod_block 235 = .ok (.bipush 7, 2) := by decide +kernel
theorem d_Mod_block_237 : decode b_Mod_block 237 = .ok (.invokestatic 114, 3) := by decide +kernel
theorem d_Mod_block_240 : decode b_Mod_block 240 = .ok (.lxor, 1) := by decide +kernel
theorem d_Mod_block_241 : decode b_Mod_block 241 = .ok (.ladd, 1) := by decide +kernel
theorem d_Mod_block_242 : decode b_Mod_block 242 = .ok (.lload_n 3, 1) := by decide +kernel
theorem d_Mod_block_243 : decode b_Mod_block 243 = .ok (.aload_n 0, 1) := by decide +kernel
theorem d_Mod_block_244 : decode b_Mod_block 244 = .ok (.getfield 81, 3) := by decide +kernel
theorem d_Mod_block_247 : decode b_Mod_block 247 = .ok (.iconst 5, 1) := by decide +kernel
theorem d_Mod_block_248 : decode b_Mod_block 248 = .ok (.laload, 1) := by decide +kernel
theorem d_Mod_block_249 : decode b_Mod_block 249 = .ok (.land, 1) := by decide +kernel
theorem d_Mod_block_250 : decode b_Mod_block 250 = .ok (.lload_n 3, 1) := by decide +kernel
theorem d_Mod_block_251 : decode b_Mod_block 251 = .ok (.invokestatic 120, 3) := by decide +kernel
theorem d_Mod_block_254 : decode b_Mod_block 254 = .ok (.aload_n 0, 1) := by decide +kernel
theorem d_Mod_block_255 : decode b_Mod_block 255 = .ok (.getfield 81, 3) := by decide +kernel
theorem d_Mod_block_258 : decode b_Mod_block 258 = .ok (.bipush 6, 2) := by decide +kernel
theorem d_Mod_block_260 : decode b_Mod_block 260 = .ok (.laload, 1) := by decide +kernel
theorem d_Mod_block_261 : decode b_Mod_block 261 = .ok (.land, 1) := by decide +kernel
theorem d_Mod_block_262 : decode b_Mod_block 262 = .ok (.lxor, 1) := by decide +kernel
theorem d_Mod_block_263 : decode b_Mod_block 263 = .ok (.ladd, 1) := by decide +kernel
theorem d_Mod_block_264 : decode b_Mod_block 264 = .ok (.aload_n 0, 1) := by decide +kernel
theorem d_Mod_block_265 : decode b_Mod_block 265 = .ok (.getfield 65, 3) := by decide +kernel
theorem d_Mod_block_268 : decode b_Mod_block 268 = .ok (.iload_n 2, 1) := by decide +kernel
theorem d_Mod_block_269 : decode b_Mod_block 269 = .ok (.laload, 1) := by decide +kernel
theorem d_Mod_block_270 : decode b_Mod_block 270 = .ok (.ladd, 1) := by decide +kernel
theorem d_Mod_block_271 : decode b_Mod_block 271 = .ok (.aload_n 0, 1) := by decide +kernel
theorem d_Mod_block_272 : decode b_Mod_block 272 = .ok (.getfield 72, 3) := by decide +kernel
theorem d_Mod_block_275 : decode b_Mod_block 275 = .ok (.iload_n 2, 1) := by decide +kernel
theorem d_Mod_block_276 : decode b_Mod_block 276 = .ok (.laload, 1) := by decide +kernel
theorem d_Mod_block_277 : decode b_Mod_block 277 = .ok (.ladd, 1) := by decide +kernel
theorem d_Mod_block_278 : decode b_Mod_block 278 = .ok (.lstore 7, 2) := by decide +kernel
theorem d_Mod_block_280 : decode b_Mod_block 280 = .ok (.lload 5, 2) := by decide +kernel
theorem d_Mod_block_282 : decode b_Mod_block 282 = .ok (.bipush 30, 2) := by decide +kernel
theorem d_Mod_block_284 : decode b_Mod_block 284 = .ok (.invokestatic 114, 3) := by decide +kernel
theorem d_Mod_block_287 : decode b_Mod_block 287 = .ok (.lload 5, 2) := by decide +kernel
theorem d_Mod_block_289 : decode b_Mod_block 289 = .ok (.bipush 19, 2) := by decide +kernel
theorem d_Mod_block_291 : decode b_Mod_block 291 = .ok (.invokestatic 114, 3) := by decide +kernel
theorem d_Mod_block_294 : decode b_Mod_block 294 = .ok (.lxor, 1) := by decide +kernel
theorem d_Mod_block_295 : decode b_Mod_block 295 = .ok (.lload 5, 2) := by decide +kernel
theorem d_Mod_block_297 : decode b_Mod_block 297 = .ok (.bipush 10, 2) := by decide +kernel
theorem d_Mod_block_299 : decode b_Mod_block 299 = .ok (.invokestatic 114, 3) := by decide +kernel
theorem d_Mod_block_302 : decode b_Mod_block 302 = .ok (.lxor, 1) := by decide +kernel
theorem d_Mod_block_303 : decode b_Mod_block 303 = .ok (.lload 5, 2) := by decide +kernel
theorem d_Mod_block_305 : decode b_Mod_block 305 = .ok (.aload_n 0, 1) := by decide +kernel
theorem d_Mod_block_306 : decode b_Mod_block 306 = .ok (.getfield 81, 3) := by decide +kernel
theorem d_Mod_block_309 : decode b_Mod_block 309 = .ok (.iconst 1, 1) := by decide +kernel
theorem d_Mod_block_310 : decode b_Mod_block 310 = .ok (.laload, 1) := by decide +kernel
theorem d_Mod_block_311 : decode b_Mod_block 311 = .ok (.land, 1) := by decide +kernel
theorem d_Mod_block_312 : decode b_Mod_block 312 = .ok (.lload 5, 2) := by decide +kernel
theorem d_Mod_block_314 : decode b_Mod_block 314 = .ok (.aload_n 0, 1) := by decide +kernel
theorem d_Mod_block_315 : decode b_Mod_block 315 = .ok (.getfield 81, 3) := by decide +kernel
theorem d_Mod_block_318 : decode b_Mod_block 318 = .ok (.iconst 2, 1) := by decide +kernel
theorem d_Mod_block_319 : decode b_Mod_block 319 = .ok (.laload, 1) := by decide +kernel
theorem d_Mod_block_320 : decode b_Mod_block 320 = .ok (.land, 1) := by decide +kernel
theorem d_Mod_block_321 : decode b_Mod_block 321 = .ok (.lxor, 1) := by decide +kernel
theorem d_Mod_block_322 : decode b_Mod_block 322 = .ok (.aload_n 0, 1) := by decide +kernel
theorem d_Mod_block_323 : decode b_Mod_block 323 = .ok (.getfield 81, 3) := by decide +kernel
theorem d_Mod_block_326 : decode b_Mod_block 326 = .ok (.iconst 1, 1) := by decide +kernel
theorem d_Mod_block_327 : decode b_Mod_block 327 = .ok (.laload, 1) := by decide +kernel
theorem d_Mod_block_328 : decode b_Mod_block 328 = .ok (.aload_n 0, 1) := by decide +kernel
theorem d_Mod_block_329 : decode b_Mod_block 329 = .ok (.getfield 81, 3) := by decide +kernel
theorem d_Mod_block_332 : decode b_Mod_block 332 = .ok (.iconst 2, 1) := by decide +kernel
theorem d_Mod_block_333 : decode b_Mod_block 333 = .ok (.laload, 1) := by decide +kernel
theorem d_Mod_block_334 : decode b_Mod_block 334 = .ok (.land, 1) := by decide +kernel
theorem d_Mod_block_335 : decode b_Mod_block 335 = .ok (.lxor, 1) := by decide +kernel
theorem d_Mod_block_336 : decode b_Mod_block 336 = .ok (.ladd, 1) := by decide +kernel
theorem d_Mod_block_337 : decode b_Mod_block 337 = .ok (.lstore 9, 2) := by decide +kernel
theorem d_Mod_block_339 : decode b_Mod_block 339 = .ok (.bipush 7, 2) := by decide +kernel
theorem d_Mod_block_341 : decode b_Mod_block 341 = .ok (.istore 11, 2) := by decide +kernel
theorem d_Mod_block_343 : decode b_Mod_block 343 = .ok (.iload 11, 2) := by decide +kernel
theorem d_Mod_block_345 : decode b_Mod_block 345 = .ok (.ifCond .le 25, 3) := by decide +kernel
theorem d_Mod_block_348 : decode b_Mod_block 348 = .ok (.aload_n 0, 1) := by decide +kernel
theorem d_Mod_block_349 : decode b_Mod_block 349 = .ok (.getfield 81, 3) := by decide +kernel
theorem d_Mod_block_352 : decode b_Mod_block 352 = .ok (.iload 11, 2) := by decide +kernel
theorem d_Mod_block_354 : decode b_Mod_block 354 = .ok (.aload_n 0, 1) := by decide +kernel
theorem d_Mod_block_355 : decode b_Mod_block 355 = .ok (.getfield 81, 3) := by decide +kernel
theorem d_Mod_block_358 : decode b_Mod_block 358 = .ok (.iload 11, 2) := by decide +kernel
theorem d_Mod_block_360 : decode b_Mod_block 360 = .ok (.iconst 1, 1) := by decide +kernel
theorem d_Mod_block_361 : decode b_Mod_block 361 = .ok (.isub, 1) := by decide +kernel
theorem d_Mod_block_362 : decode b_Mod_block 362 = .ok (.laload, 1) := by decide +kernel
theorem d_Mod_block_363 : decode b_Mod_block 363 = .ok (.lastore, 1) := by decide +kernel
theorem d_Mod_block_364 : decode b_Mod_block 364 = .ok (.iinc 11 (-1), 3) := by decide +kernel
theorem d_Mod_block_367 : decode b_Mod_block 367 = .ok (.goto (-24), 3) := by decide +kernel
theorem d_Mod_block_370 : decode b_Mod_block 370 = .ok (.aload_n 0, 1) := by decide +kernel
theorem d_Mod_block_371 : decode b_Mod_block 371 = .ok (.getfield 81, 3) := by decide +kernel
theorem d_Mod_block_374 : decode b_Mod_block 374 = .ok (.iconst 4, 1) := by decide +kernel
theorem d_Mod_block_375 : decode b_Mod_block 375 = .ok (.aload_n 0, 1) := by decide +kernel
theorem d_Mod_block_376 : decode b_Mod_block 376 = .ok (.getfield 81, 3) := by decide +kernel
theorem d_Mod_block_379 : decode b_Mod_block 379 = .ok (.iconst 4, 1) := by decide +kernel
theorem d_Mod_block_380 : decode b_Mod_block 380 = .ok (.laload, 1) := by decide +kernel
theorem d_Mod_block_381 : decode b_Mod_block 381 = .ok (.lload 7, 2) := by decide +kernel
theorem d_Mod_block_383 : decode b_Mod_block 383 = .ok (.ladd, 1) := by decide +kernel
theorem d_Mod_block_384 : decode b_Mod_block 384 = .ok (.ldc2_w 92, 3) := by decide +kernel
theorem d_Mod_block_387 : decode b_Mod_block 387 = .ok (.lrem, 1) := by decide +kernel
theorem d_Mod_block_388 : decode b_Mod_block 388 = .ok (.lastore, 1) := by decide +kernel
theorem d_Mod_block_389 : decode b_Mod_block 389 = .ok (.aload_n 0, 1) := by decide +kernel
theorem d_Mod_block_390 : decode b_Mod_block 390 = .ok (.getfield 81, 3) := by decide +kernel
theorem d_Mod_block_393 : decode b_Mod_block 393 = .ok (.iconst 0, 1) := by decide +kernel
theorem d_Mod_block_394 : decode b_Mod_block 394 = .ok (.lload 7, 2) := by decide +kernel
theorem d_Mod_block_396 : decode b_Mod_block 396 = .ok (.lload 9, 2) := by decide +kernel
theorem d_Mod_block_398 : decode b_Mod_block 398 = .ok (.ladd, 1) := by decide +kernel
theorem d_Mod_block_399 : decode b_Mod_block 399 = .ok (.ldc2_w 92, 3) := by decide +kernel
theorem d_Mod_block_402 : decode b_Mod_block 402 = .ok (.lrem, 1) := by decide +kernel
theorem d_Mod_block_403 : decode b_Mod_block 403 = .ok (.lastore, 1) := by decide +kernel
theorem d_Mod_block_404 : decode b_Mod_block 404 = .ok (.iinc 2 1, 3) := by decide +kernel
theorem d_Mod_block_407 : decode b_Mod_block 407 = .ok (.goto (-214), 3) := by decide +kernel
theorem d_Mod_block_410 : decode b_Mod_block 410 = .ok (.iconst 0, 1) := by decide +kernel
theorem d_Mod_block_411 : decode b_Mod_block 411 = .ok (.istore_n 2, 1) := by decide +kernel
theorem d_Mod_block_412 : decode b_Mod_block 412 = .ok (.iload_n 2, 1) := by decide +kernel
theorem d_Mod_block_413 : decode b_Mod_block 413 = .ok (.bipush 8, 2) := by decide +kernel
theorem d_Mod_block_415 : decode b_Mod_block 415 = .ok (.if_icmp .ge 32, 3) := by decide +kernel
theorem d_Mod_block_418 : decode b_Mod_block 418 = .ok (.aload_n 0, 1) := by decide +kernel
theorem d_Mod_block_419 : decode b_Mod_block 419 = .ok (.getfield 75, 3) := by decide +kernel
theorem d_Mod_block_422 : decode b_Mod_block 422 = .ok (.iload_n 2, 1) := by decide +kernel
theorem d_Mod_block_423 : decode b_Mod_block 423 = .ok (.aload_n 0, 1) := by decide +kernel
theorem d_Mod_block_424 : decode b_Mod_block 424 = .ok (.getfield 75, 3) := by decide +kernel
theorem d_Mod_block_427 : decode b_Mod_block 427 = .ok (.iload_n 2, 1) := by decide +kernel
theorem d_Mod_block_428 : decode b_Mod_block 428 = .ok (.laload, 1) := by decide +kernel
theorem d_Mod_block_429 : decode b_Mod_block 429 = .ok (.aload_n 0, 1) := by decide +kernel
theorem d_Mod_block_430 : decode b_Mod_block 430 = .ok (.getfield 81, 3) := by decide +kernel
theorem d_Mod_block_433 : decode b_Mod_block 433 = .ok (.iload_n 2, 1) := by decide +kernel
theorem d_Mod_block_434 : decode b_Mod_block 434 = .ok (.laload, 1) := by decide +kernel
theorem d_Mod_block_435 : decode b_Mod_block 435 = .ok (.ladd, 1) := by decide +kernel
theorem d_Mod_block_436 : decode b_Mod_block 436 = .ok (.ldc2_w 92, 3) := by decide +kernel
theorem d_Mod_block_439 : decode b_Mod_block 439 = .ok (.lrem, 1) := by decide +kernel
theorem d_Mod_block_440 : decode b_Mod_block 440 = .ok (.lastore, 1) := by decide +kernel
theorem d_Mod_block_441 : decode b_Mod_block 441 = .ok (.iinc 2 1, 3) := by decide +kernel
theorem d_Mod_block_444 : decode b_Mod_block 444 = .ok (.goto (-32), 3) := by decide +kernel
theorem d_Mod_block_447 : decode b_Mod_block 447 = .ok (.return_, 1) := by decide +kernel
abbrev b_Mod_nameOf : ByteArray := prog_8_method_9_code
def y_Mod_nameOf : MethodName := ⟨R_Mod, "nameOf", "(III)V"⟩
theorem d_Mod_nameOf_0 : decode b_Mod_nameOf 0 = .ok (.iload_n 1, 1) := by decide +kernel
theorem d_Mod_nameOf_1 : decode b_Mod_nameOf 1 = .ok (.istore 4, 2) := by decide +kernel
theorem d_Mod_nameOf_3 : decode b_Mod_nameOf 3 = .ok (.iload 4, 2) := by decide +kernel
theorem d_Mod_nameOf_5 : decode b_Mod_nameOf 5 = .ok (.iload_n 2, 1) := by decide +kernel
theorem d_Mod_nameOf_6 : decode b_Mod_nameOf 6 = .ok (.if_icmp .ge 25, 3) := by decide +kernel
theorem d_Mod_nameOf_9 : decode b_Mod_nameOf 9 = .ok (.aload_n 0, 1) := by decide +kernel
theorem d_Mod_nameOf_10 : decode b_Mod_nameOf 10 = .ok (.getfield 59, 3) := by decide +kernel
theorem d_Mod_nameOf_13 : decode b_Mod_nameOf 13 = .ok (.iload 4, 2) := by decide +kernel
theorem d_Mod_nameOf_15 : decode b_Mod_nameOf 15 = .ok (.iload_n 1, 1) := by decide +kernel
theorem d_Mod_nameOf_16 : decode b_Mod_nameOf 16 = .ok (.isub, 1) := by decide +kernel
theorem d_Mod_nameOf_17 : decode b_Mod_nameOf 17 = .ok (.aload_n 0, 1) := by decide +kernel
theorem d_Mod_nameOf_18 : decode b_Mod_nameOf 18 = .ok (.getfield 13, 3) := by decide +kernel
theorem d_Mod_nameOf_21 : decode b_Mod_nameOf 21 = .ok (.iload 4, 2) := by decide +kernel
theorem d_Mod_nameOf_23 : decode b_Mod_nameOf 23 = .ok (.iaload, 1) := by decide +kernel
theorem d_Mod_nameOf_24 : decode b_Mod_nameOf 24 = .ok (.iastore, 1) := by decide +kernel
theorem d_Mod_nameOf_25 : decode b_Mod_nameOf 25 = .ok (.iinc 4 1, 3) := by decide +kernel
theorem d_Mod_nameOf_28 : decode b_Mod_nameOf 28 = .ok (.goto (-25), 3) := by decide +kernel
theorem d_Mod_nameOf_31 : decode b_Mod_nameOf 31 = .ok (.aload_n 0, 1) := by decide +kernel
theorem d_Mod_nameOf_32 : decode b_Mod_nameOf 32 = .ok (.iload_n 2, 1) := by decide +kernel
theorem d_Mod_nameOf_33 : decode b_Mod_nameOf 33 = .ok (.iload_n 1, 1) := by decide +kernel
theorem d_Mod_nameOf_34 : decode b_Mod_nameOf 34 = .ok (.isub, 1) := by decide +kernel
theorem d_Mod_nameOf_35 : decode b_Mod_nameOf 35 = .ok (.invokevirtual 124, 3) := by decide +kernel
theorem d_Mod_nameOf_38 : decode b_Mod_nameOf 38 = .ok (.iconst 0, 1) := by decide +kernel
theorem d_Mod_nameOf_39 : decode b_Mod_nameOf 39 = .ok (.istore 4, 2) := by decide +kernel
theorem d_Mod_nameOf_41 : decode b_Mod_nameOf 41 = .ok (.iload 4, 2) := by decide +kernel
theorem d_Mod_nameOf_43 : decode b_Mod_nameOf 43 = .ok (.bipush 32, 2) := by decide +kernel
theorem d_Mod_nameOf_45 : decode b_Mod_nameOf 45 = .ok (.if_icmp .ge 28, 3) := by decide +kernel
theorem d_Mod_nameOf_48 : decode b_Mod_nameOf 48 = .ok (.aload_n 0, 1) := by decide +kernel
theorem d_Mod_nameOf_49 : decode b_Mod_nameOf 49 = .ok (.getfield 50, 3) := by decide +kernel
theorem d_Mod_nameOf_52 : decode b_Mod_nameOf 52 = .ok (.bipush 32, 2) := by decide +kernel
theorem d_Mod_nameOf_54 : decode b_Mod_nameOf 54 = .ok (.iload_n 3, 1) := by decide +kernel
theorem d_Mod_nameOf_55 : decode b_Mod_nameOf 55 = .ok (.imul, 1) := by decide +kernel
theorem d_Mod_nameOf_56 : decode b_Mod_nameOf 56 = .ok (.iload 4, 2) := by decide +kernel
theorem d_Mod_nameOf_58 : decode b_Mod_nameOf 58 = .ok (.iadd, 1) := by decide +kernel
theorem d_Mod_nameOf_59 : decode b_Mod_nameOf 59 = .ok (.aload_n 0, 1) := by decide +kernel
theorem d_Mod_nameOf_60 : decode b_Mod_nameOf 60 = .ok (.getfield 62, 3) := by decide +kernel
theorem d_Mod_nameOf_63 : decode b_Mod_nameOf 63 = .ok (.iload 4, 2) := by decide +kernel
theorem d_Mod_nameOf_65 : decode b_Mod_nameOf 65 = .ok (.iaload, 1) := by decide +kernel
theorem d_Mod_nameOf_66 : decode b_Mod_nameOf 66 = .ok (.iastore, 1) := by decide +kernel
theorem d_Mod_nameOf_67 : decode b_Mod_nameOf 67 = .ok (.iinc 4 1, 3) := by decide +kernel
theorem d_Mod_nameOf_70 : decode b_Mod_nameOf 70 = .ok (.goto (-29), 3) := by decide +kernel
theorem d_Mod_nameOf_73 : decode b_Mod_nameOf 73 = .ok (.return_, 1) := by decide +kernel
abbrev b_Mod_twice : ByteArray := prog_8_method_10_code
def y_Mod_twice : MethodName := ⟨R_Mod, "twice", "(I)V"⟩
theorem d_Mod_twice_0 : decode b_Mod_twice 0 = .ok (.aload_n 0, 1) := by decide +kernel
theorem d_Mod_twice_1 : decode b_Mod_twice 1 = .ok (.iload_n 1, 1) := by decide +kernel
theorem d_Mod_twice_2 : decode b_Mod_twice 2 = .ok (.invokevirtual 127, 3) := by decide +kernel
theorem d_Mod_twice_5 : decode b_Mod_twice 5 = .ok (.iconst 0, 1) := by decide +kernel
theorem d_Mod_twice_6 : decode b_Mod_twice 6 = .ok (.istore_n 2, 1) := by decide +kernel
theorem d_Mod_twice_7 : decode b_Mod_twice 7 = .ok (.iload_n 2, 1) := by decide +kernel
theorem d_Mod_twice_8 : decode b_Mod_twice 8 = .ok (.bipush 32, 2) := by decide +kernel
theorem d_Mod_twice_10 : decode b_Mod_twice 10 = .ok (.if_icmp .ge 21, 3) := by decide +kernel
theorem d_Mod_twice_13 : decode b_Mod_twice 13 = .ok (.aload_n 0, 1) := by decide +kernel
theorem d_Mod_twice_14 : decode b_Mod_twice 14 = .ok (.getfield 59, 3) := by decide +kernel
theorem d_Mod_twice_17 : decode b_Mod_twice 17 = .ok (.iload_n 2, 1) := by decide +kernel
theorem d_Mod_twice_18 : decode b_Mod_twice 18 = .ok (.aload_n 0, 1) := by decide +kernel
theorem d_Mod_twice_19 : decode b_Mod_twice 19 = .ok (.getfield 62, 3) := by decide +kernel
theorem d_Mod_twice_22 : decode b_Mod_twice 22 = .ok (.iload_n 2, 1) := by decide +kernel
theorem d_Mod_twice_23 : decode b_Mod_twice 23 = .ok (.iaload, 1) := by decide +kernel
theorem d_Mod_twice_24 : decode b_Mod_twice 24 = .ok (.iastore, 1) := by decide +kernel
theorem d_Mod_twice_25 : decode b_Mod_twice 25 = .ok (.iinc 2 1, 3) := by decide +kernel
theorem d_Mod_twice_28 : decode b_Mod_twice 28 = .ok (.goto (-21), 3) := by decide +kernel
theorem d_Mod_twice_31 : decode b_Mod_twice 31 = .ok (.aload_n 0, 1) := by decide +kernel
theorem d_Mod_twice_32 : decode b_Mod_twice 32 = .ok (.bipush 32, 2) := by decide +kernel
theorem d_Mod_twice_34 : decode b_Mod_twice 34 = .ok (.invokevirtual 127, 3) := by decide +kernel
theorem d_Mod_twice_37 : decode b_Mod_twice 37 = .ok (.return_, 1) := by decide +kernel
abbrev b_Mod_join : ByteArray := prog_8_method_11_code
def y_Mod_join : MethodName := ⟨R_Mod, "join", "()V"⟩
theorem d_Mod_join_0 : decode b_Mod_join 0 = .ok (.aload_n 0, 1) := by decide +kernel
theorem d_Mod_join_1 : decode b_Mod_join 1 = .ok (.getfield 130, 3) := by decide +kernel
theorem d_Mod_join_4 : decode b_Mod_join 4 = .ok (.istore_n 1, 1) := by decide +kernel
theorem d_Mod_join_5 : decode b_Mod_join 5 = .ok (.aload_n 0, 1) := by decide +kernel
theorem d_Mod_join_6 : decode b_Mod_join 6 = .ok (.iconst 0, 1) := by decide +kernel
theorem d_Mod_join_7 : decode b_Mod_join 7 = .ok (.putfield 133, 3) := by decide +kernel
theorem d_Mod_join_10 : decode b_Mod_join 10 = .ok (.iconst 0, 1) := by decide +kernel
theorem d_Mod_join_11 : decode b_Mod_join 11 = .ok (.istore_n 2, 1) := by decide +kernel
theorem d_Mod_join_12 : decode b_Mod_join 12 = .ok (.iload_n 2, 1) := by decide +kernel
theorem d_Mod_join_13 : decode b_Mod_join 13 = .ok (.bipush 32, 2) := by decide +kernel
theorem d_Mod_join_15 : decode b_Mod_join 15 = .ok (.iload_n 1, 1) := by decide +kernel
theorem d_Mod_join_16 : decode b_Mod_join 16 = .ok (.imul, 1) := by decide +kernel
theorem d_Mod_join_17 : decode b_Mod_join 17 = .ok (.if_icmp .ge 21, 3) := by decide +kernel
theorem d_Mod_join_20 : decode b_Mod_join 20 = .ok (.aload_n 0, 1) := by decide +kernel
theorem d_Mod_join_21 : decode b_Mod_join 21 = .ok (.getfield 53, 3) := by decide +kernel
theorem d_Mod_join_24 : decode b_Mod_join 24 = .ok (.iload_n 2, 1) := by decide +kernel
theorem d_Mod_join_25 : decode b_Mod_join 25 = .ok (.aload_n 0, 1) := by decide +kernel
theorem d_Mod_join_26 : decode b_Mod_join 26 = .ok (.getfield 50, 3) := by decide +kernel
theorem d_Mod_join_29 : decode b_Mod_join 29 = .ok (.iload_n 2, 1) := by decide +kernel
theorem d_Mod_join_30 : decode b_Mod_join 30 = .ok (.iaload, 1) := by decide +kernel
theorem d_Mod_join_31 : decode b_Mod_join 31 = .ok (.iastore, 1) := by decide +kernel
theorem d_Mod_join_32 : decode b_Mod_join 32 = .ok (.iinc 2 1, 3) := by decide +kernel
theorem d_Mod_join_35 : decode b_Mod_join 35 = .ok (.goto (-23), 3) := by decide +kernel
theorem d_Mod_join_38 : decode b_Mod_join 38 = .ok (.iload_n 1, 1) := by decide +kernel
theorem d_Mod_join_39 : decode b_Mod_join 39 = .ok (.iconst 1, 1) := by decide +kernel
theorem d_Mod_join_40 : decode b_Mod_join 40 = .ok (.if_icmp .le 211, 3) := by decide +kernel
theorem d_Mod_join_43 : decode b_Mod_join 43 = .ok (.iconst 0, 1) := by decide +kernel
theorem d_Mod_join_44 : decode b_Mod_join 44 = .ok (.istore_n 2, 1) := by decide +kernel
theorem d_Mod_join_45 : decode b_Mod_join 45 = .ok (.iload_n 2, 1) := by decide +kernel
theorem d_Mod_join_46 : decode b_Mod_join 46 = .ok (.iload_n 1, 1) := by decide +kernel
theorem d_Mod_join_47 : decode b_Mod_join 47 = .ok (.if_icmp .ge 195, 3) := by decide +kernel
theorem d_Mod_join_50 : decode b_Mod_join 50 = .ok (.iload_n 2, 1) := by decide +kernel
theorem d_Mod_join_51 : decode b_Mod_join 51 = .ok (.iconst 1, 1) := by decide +kernel
theorem d_Mod_join_52 : decode b_Mod_join 52 = .ok (.iadd, 1) := by decide +kernel
theorem d_Mod_join_53 : decode b_Mod_join 53 = .ok (.iload_n 1, 1) := by decide +kernel
theorem d_Mod_join_54 : decode b_Mod_join 54 = .ok (.if_icmp .ge 9, 3) := by decide +kernel
theorem d_Mod_join_57 : decode b_Mod_join 57 = .ok (.iload_n 2, 1) := by decide +kernel
theorem d_Mod_join_58 : decode b_Mod_join 58 = .ok (.iconst 1, 1) := by decide +kernel
theorem d_Mod_join_59 : decode b_Mod_join 59 = .ok (.iadd, 1) := by decide +kernel
theorem d_Mod_join_60 : decode b_Mod_join 60 = .ok (.goto 4, 3) := by decide +kernel
theorem d_Mod_join_63 : decode b_Mod_join 63 = .ok (.iload_n 2, 1) := by decide +kernel
theorem d_Mod_join_64 : decode b_Mod_join 64 = .ok (.istore_n 3, 1) := by decide +kernel
theorem d_Mod_join_65 : decode b_Mod_join 65 = .ok (.iload_n 3, 1) := by decide +kernel
theorem d_Mod_join_66 : decode b_Mod_join 66 = .ok (.iload_n 2, 1) := by decide +kernel
theorem d_Mod_join_67 : decode b_Mod_join 67 = .ok (.if_icmp .le 7, 3) := by decide +kernel
theorem d_Mod_join_70 : decode b_Mod_join 70 = .ok (.iconst 1, 1) := by decide +kernel
theorem d_Mod_join_71 : decode b_Mod_join 71 = .ok (.goto 4, 3) := by decide +kernel
theorem d_Mod_join_74 : decode b_Mod_join 74 = .ok (.iconst 0, 1) := by decide +kernel
theorem d_Mod_join_75 : decode b_Mod_join 75 = .ok (.istore 4, 2) := by decide +kernel
theorem d_Mod_join_77 : decode b_Mod_join 77 = .ok (.iconst 0, 1) := by decide +kernel
theorem d_Mod_join_78 : decode b_Mod_join 78 = .ok (.istore 5, 2) := by decide +kernel
theorem d_Mod_join_80 : decode b_Mod_join 80 = .ok (.iload 5, 2) := by decide +kernel
theorem d_Mod_join_82 : decode b_Mod_join 82 = .ok (.bipush 32, 2) := by decide +kernel
theorem d_Mod_join_84 : decode b_Mod_join 84 = .ok (.if_icmp .ge 89, 3) := by decide +kernel
theorem d_Mod_join_87 : decode b_Mod_join 87 = .ok (.iload 4, 2) := by decide +kernel
theorem d_Mod_join_89 : decode b_Mod_join 89 = .ok (.ifCond .eq 34, 3) := by decide +kernel
theorem d_Mod_join_92 : decode b_Mod_join 92 = .ok (.aload_n 0, 1) := by decide +kernel
theorem d_Mod_join_93 : decode b_Mod_join 93 = .ok (.getfield 53, 3) := by decide +kernel
theorem d_Mod_join_96 : decode b_Mod_join 96 = .ok (.bipush 32, 2) := by decide +kernel
theorem d_Mod_join_98 : decode b_Mod_join 98 = .ok (.iload_n 2, 1) := by decide +kernel
theorem d_Mod_join_99 : decode b_Mod_join 99 = .ok (.imul, 1) := by decide +kernel
theorem d_Mod_join_100 : decode b_Mod_join 100 = .ok (.iload 5, 2) := by decide +kernel
theorem d_Mod_join_102 : decode b_Mod_join 102 = .ok (.iadd, 1) := by decide +kernel
theorem d_Mod_join_103 : decode b_Mod_join 103 = .ok (.iaload, 1) := by decide +kernel
theorem d_Mod_join_104 : decode b_Mod_join 104 = .ok (.aload_n 0, 1) := by decide +kernel
theorem d_Mod_join_105 : decode b_Mod_join 105 = .ok (.getfield 53, 3) := by decide +kernel
theorem d_Mod_join_108 : decode b_Mod_join 108 = .ok (.bipush 32, 2) := by decide +kernel
theorem d_Mod_join_110 : decode b_Mod_join 110 = .ok (.iload_n 3, 1) := by decide +kernel
theorem d_Mod_join_111 : decode b_Mod_join 111 = .ok (.imul, 1) := by decide +kernel
theorem d_Mod_join_112 : decode b_Mod_join 112 = .ok (.iload 5, 2) := by decide +kernel
theorem d_Mod_join_114 : decode b_Mod_join 114 = .ok (.iadd, 1) := by decide +kernel
theorem d_Mod_join_115 : decode b_Mod_join 115 = .ok (.iaload, 1) := by decide +kernel
theorem d_Mod_join_116 : decode b_Mod_join 116 = .ok (.if_icmp .ne 7, 3) := by decide +kernel
theorem d_Mod_join_119 : decode b_Mod_join 119 = .ok (.iconst 1, 1) := by decide +kernel
theorem d_Mod_join_120 : decode b_Mod_join 120 = .ok (.goto 4, 3) := by decide +kernel
theorem d_Mod_join_123 : decode b_Mod_join 123 = .ok (.iconst 0, 1) := by decide +kernel
theorem d_Mod_join_124 : decode b_Mod_join 124 = .ok (.istore 4, 2) := by decide +kernel
theorem d_Mod_join_126 : decode b_Mod_join 126 = .ok (.aload_n 0, 1) := by decide +kernel
theorem d_Mod_join_127 : decode b_Mod_join 127 = .ok (.getfield 59, 3) := by decide +kernel
theorem d_Mod_join_130 : decode b_Mod_join 130 = .ok (.iload 5, 2) := by decide +kernel
theorem d_Mod_join_132 : decode b_Mod_join 132 = .ok (.aload_n 0, 1) := by decide +kernel
theorem d_Mod_join_133 : decode b_Mod_join 133 = .ok (.getfield 53, 3) := by decide +kernel
theorem d_Mod_join_136 : decode b_Mod_join 136 = .ok (.bipush 32, 2) := by decide +kernel
theorem d_Mod_join_138 : decode b_Mod_join 138 = .ok (.iload_n 2, 1) := by decide +kernel
theorem d_Mod_join_139 : decode b_Mod_join 139 = .ok (.imul, 1) := by decide +kernel
theorem d_Mod_join_140 : decode b_Mod_join 140 = .ok (.iload 5, 2) := by decide +kernel
theorem d_Mod_join_142 : decode b_Mod_join 142 = .ok (.iadd, 1) := by decide +kernel
theorem d_Mod_join_143 : decode b_Mod_join 143 = .ok (.iaload, 1) := by decide +kernel
theorem d_Mod_join_144 : decode b_Mod_join 144 = .ok (.iastore, 1) := by decide +kernel
theorem d_Mod_join_145 : decode b_Mod_join 145 = .ok (.aload_n 0, 1) := by decide +kernel
theorem d_Mod_join_146 : decode b_Mod_join 146 = .ok (.getfield 59, 3) := by decide +kernel
theorem d_Mod_join_149 : decode b_Mod_join 149 = .ok (.bipush 32, 2) := by decide +kernel
theorem d_Mod_join_151 : decode b_Mod_join 151 = .ok (.iload 5, 2) := by decide +kernel
theorem d_Mod_join_153 : decode b_Mod_join 153 = .ok (.iadd, 1) := by decide +kernel
theorem d_Mod_join_154 : decode b_Mod_join 154 = .ok (.aload_n 0, 1) := by decide +kernel
theorem d_Mod_join_155 : decode b_Mod_join 155 = .ok (.getfield 53, 3) := by decide +kernel
theorem d_Mod_join_158 : decode b_Mod_join 158 = .ok (.bipush 32, 2) := by decide +kernel
theorem d_Mod_join_160 : decode b_Mod_join 160 = .ok (.iload_n 3, 1) := by decide +kernel
theorem d_Mod_join_161 : decode b_Mod_join 161 = .ok (.imul, 1) := by decide +kernel
theorem d_Mod_join_162 : decode b_Mod_join 162 = .ok (.iload 5, 2) := by decide +kernel
theorem d_Mod_join_164 : decode b_Mod_join 164 = .ok (.iadd, 1) := by decide +kernel
theorem d_Mod_join_165 : decode b_Mod_join 165 = .ok (.iaload, 1) := by decide +kernel
theorem d_Mod_join_166 : decode b_Mod_join 166 = .ok (.iastore, 1) := by decide +kernel
theorem d_Mod_join_167 : decode b_Mod_join 167 = .ok (.iinc 5 1, 3) := by decide +kernel
theorem d_Mod_join_170 : decode b_Mod_join 170 = .ok (.goto (-90), 3) := by decide +kernel
theorem d_Mod_join_173 : decode b_Mod_join 173 = .ok (.aload_n 0, 1) := by decide +kernel
theorem d_Mod_join_174 : decode b_Mod_join 174 = .ok (.aload_n 0, 1) := by decide +kernel
theorem d_Mod_join_175 : decode b_Mod_join 175 = .ok (.getfield 133, 3) := by decide +kernel
theorem d_Mod_join_178 : decode b_Mod_join 178 = .ok (.ifCond .ne 8, 3) := by decide +kernel
theorem d_Mod_join_181 : decode b_Mod_join 181 = .ok (.iload 4, 2) := by decide +kernel
theorem d_Mod_join_183 : decode b_Mod_join 183 = .ok (.ifCond .eq 7, 3) := by decide +kernel
theorem d_Mod_join_186 : decode b_Mod_join 186 = .ok (.iconst 1, 1) := by decide +kernel
theorem d_Mod_join_187 : decode b_Mod_join 187 = .ok (.goto 4, 3) := by decide +kernel
theorem d_Mod_join_190 : decode b_Mod_join 190 = .ok (.iconst 0, 1) := by decide +kernel
theorem d_Mod_join_191 : decode b_Mod_join 191 = .ok (.putfield 133, 3) := by decide +kernel
theorem d_Mod_join_194 : decode b_Mod_join 194 = .ok (.aload_n 0, 1) := by decide +kernel
theorem d_Mod_join_195 : decode b_Mod_join 195 = .ok (.bipush 64, 2) := by decide +kernel
theorem d_Mod_join_197 : decode b_Mod_join 197 = .ok (.invokevirtual 124, 3) := by decide +kernel
theorem d_Mod_join_200 : decode b_Mod_join 200 = .ok (.iconst 0, 1) := by decide +kernel
theorem d_Mod_join_201 : decode b_Mod_join 201 = .ok (.istore 5, 2) := by decide +kernel
theorem d_Mod_join_203 : decode b_Mod_join 203 = .ok (.iload 5, 2) := by decide +kernel
theorem d_Mod_join_205 : decode b_Mod_join 205 = .ok (.bipush 32, 2) := by decide +kernel
theorem d_Mod_join_207 : decode b_Mod_join 207 = .ok (.if_icmp .ge 28, 3) := by decide +kernel
theorem d_Mod_join_210 : decode b_Mod_join 210 = .ok (.aload_n 0, 1) := by decide +kernel
theorem d_Mod_join_211 : decode b_Mod_join 211 = .ok (.getfield 53, 3) := by decide +kernel
theorem d_Mod_join_214 : decode b_Mod_join 214 = .ok (.bipush 16, 2) := by decide +kernel
theorem d_Mod_join_216 : decode b_Mod_join 216 = .ok (.iload_n 2, 1) := by decide +kernel
theorem d_Mod_join_217 : decode b_Mod_join 217 = .ok (.imul, 1) := by decide +kernel
theorem d_Mod_join_218 : decode b_Mod_join 218 = .ok (.iload 5, 2) := by decide +kernel
theorem d_Mod_join_220 : decode b_Mod_join 220 = .ok (.iadd, 1) := by decide +kernel
theorem d_Mod_join_221 : decode b_Mod_join 221 = .ok (.aload_n 0, 1) := by decide +kernel
theorem d_Mod_join_222 : decode b_Mod_join 222 = .ok (.getfield 62, 3) := by decide +kernel
theorem d_Mod_join_225 : decode b_Mod_join 225 = .ok (.iload 5, 2) := by decide +kernel
theorem d_Mod_join_227 : decode b_Mod_join 227 = .ok (.iaload, 1) := by decide +kernel
theorem d_Mod_join_228 : decode b_Mod_join 228 = .ok (.iastore, 1) := by decide +kernel
theorem d_Mod_join_229 : decode b_Mod_join 229 = .ok (.iinc 5 1, 3) := by decide +kernel
theorem d_Mod_join_232 : decode b_Mod_join 232 = .ok (.goto (-29), 3) := by decide +kernel
theorem d_Mod_join_235 : decode b_Mod_join 235 = .ok (.iload_n 2, 1) := by decide +kernel
theorem d_Mod_join_236 : decode b_Mod_join 236 = .ok (.iconst 2, 1) := by decide +kernel
theorem d_Mod_join_237 : decode b_Mod_join 237 = .ok (.iadd, 1) := by decide +kernel
theorem d_Mod_join_238 : decode b_Mod_join 238 = .ok (.istore_n 2, 1) := by decide +kernel
theorem d_Mod_join_239 : decode b_Mod_join 239 = .ok (.goto (-194), 3) := by decide +kernel
theorem d_Mod_join_242 : decode b_Mod_join 242 = .ok (.iload_n 1, 1) := by decide +kernel
theorem d_Mod_join_243 : decode b_Mod_join 243 = .ok (.iconst 1, 1) := by decide +kernel
theorem d_Mod_join_244 : decode b_Mod_join 244 = .ok (.iadd, 1) := by decide +kernel
theorem d_Mod_join_245 : decode b_Mod_join 245 = .ok (.iconst 2, 1) := by decide +kernel
theorem d_Mod_join_246 : decode b_Mod_join 246 = .ok (.idiv, 1) := by decide +kernel
theorem d_Mod_join_247 : decode b_Mod_join 247 = .ok (.istore_n 1, 1) := by decide +kernel
theorem d_Mod_join_248 : decode b_Mod_join 248 = .ok (.goto (-210), 3) := by decide +kernel
theorem d_Mod_join_251 : decode b_Mod_join 251 = .ok (.iconst 0, 1) := by decide +kernel
theorem d_Mod_join_252 : decode b_Mod_join 252 = .ok (.istore_n 2, 1) := by decide +kernel
theorem d_Mod_join_253 : decode b_Mod_join 253 = .ok (.iload_n 2, 1) := by decide +kernel
theorem d_Mod_join_254 : decode b_Mod_join 254 = .ok (.bipush 32, 2) := by decide +kernel
theorem d_Mod_join_256 : decode b_Mod_join 256 = .ok (.if_icmp .ge 29, 3) := by decide +kernel
theorem d_Mod_join_259 : decode b_Mod_join 259 = .ok (.aload_n 0, 1) := by decide +kernel
theorem d_Mod_join_260 : decode b_Mod_join 260 = .ok (.getfield 56, 3) := by decide +kernel
theorem d_Mod_join_263 : decode b_Mod_join 263 = .ok (.iload_n 2, 1) := by decide +kernel
theorem d_Mod_join_264 : decode b_Mod_join 264 = .ok (.iload_n 1, 1) := by decide +kernel
theorem d_Mod_join_265 : decode b_Mod_join 265 = .ok (.ifCond .ne 7, 3) := by decide +kernel
theorem d_Mod_join_268 : decode b_Mod_join 268 = .ok (.iconst 0, 1) := by decide +kernel
theorem d_Mod_join_269 : decode b_Mod_join 269 = .ok (.goto 9, 3) := by decide +kernel
theorem d_Mod_join_272 : decode b_Mod_join 272 = .ok (.aload_n 0, 1) := by decide +kernel
theorem d_Mod_join_273 : decode b_Mod_join 273 = .ok (.getfield 53, 3) := by decide +kernel
theorem d_Mod_join_276 : decode b_Mod_join 276 = .ok (.iload_n 2, 1) := by decide +kernel
theorem d_Mod_join_277 : decode b_Mod_join 277 = .ok (.iaload, 1) := by decide +kernel
theorem d_Mod_join_278 : decode b_Mod_join 278 = .ok (.iastore, 1) := by decide +kernel
theorem d_Mod_join_279 : decode b_Mod_join 279 = .ok (.iinc 2 1, 3) := by decide +kernel
theorem d_Mod_join_282 : decode b_Mod_join 282 = .ok (.goto (-29), 3) := by decide +kernel
theorem d_Mod_join_285 : decode b_Mod_join 285 = .ok (.return_, 1) := by decide +kernel
abbrev b_Mod_fails : ByteArray := prog_8_method_12_code
def y_Mod_fails : MethodName := ⟨R_Mod, "fails", "(II)V"⟩
theorem d_Mod_fails_0 : decode b_Mod_fails 0 = .ok (.aload_n 0, 1) := by decide +kernel
theorem d_Mod_fails_1 : decode b_Mod_fails 1 = .ok (.getfield 137, 3) := by decide +kernel
theorem d_Mod_fails_4 : decode b_Mod_fails 4 = .ok (.ifCond .le 4, 3) := by decide +kernel
theorem d_Mod_fails_7 : decode b_Mod_fails 7 = .ok (.return_, 1) := by decide +kernel
theorem d_Mod_fails_8 : decode b_Mod_fails 8 = .ok (.aload_n 0, 1) := by decide +kernel
theorem d_Mod_fails_9 : decode b_Mod_fails 9 = .ok (.iload_n 1, 1) := by decide +kernel
theorem d_Mod_fails_10 : decode b_Mod_fails 10 = .ok (.putfield 137, 3) := by decide +kernel
theorem d_Mod_fails_13 : decode b_Mod_fails 13 = .ok (.aload_n 0, 1) := by decide +kernel
theorem d_Mod_fails_14 : decode b_Mod_fails 14 = .ok (.iload_n 2, 1) := by decide +kernel
theorem d_Mod_fails_15 : decode b_Mod_fails 15 = .ok (.putfield 140, 3) := by decide +kernel
theorem d_Mod_fails_18 : decode b_Mod_fails 18 = .ok (.return_, 1) := by decide +kernel
abbrev b_Mod_pass : ByteArray := prog_8_method_13_code
def y_Mod_pass : MethodName := ⟨R_Mod, "pass", "(I)V"⟩
theorem d_Mod_pass_0 : decode b_Mod_pass 0 = .ok (.aload_n 0, 1) := by decide +kernel
theorem d_Mod_pass_1 : decode b_Mod_pass 1 = .ok (.getfield 137, 3) := by decide +kernel
theorem d_Mod_pass_4 : decode b_Mod_pass 4 = .ok (.ifCond .ne 25, 3) := by decide +kernel
theorem d_Mod_pass_7 : decode b_Mod_pass 7 = .ok (.aload_n 0, 1) := by decide +kernel
theorem d_Mod_pass_8 : decode b_Mod_pass 8 = .ok (.getfield 143, 3) := by decide +kernel
theorem d_Mod_pass_11 : decode b_Mod_pass 11 = .ok (.iload_n 1, 1) := by decide +kernel
theorem d_Mod_pass_12 : decode b_Mod_pass 12 = .ok (.iadd, 1) := by decide +kernel
theorem d_Mod_pass_13 : decode b_Mod_pass 13 = .ok (.aload_n 0, 1) := by decide +kernel
theorem d_Mod_pass_14 : decode b_Mod_pass 14 = .ok (.getfield 146, 3) := by decide +kernel
theorem d_Mod_pass_17 : decode b_Mod_pass 17 = .ok (.if_icmp .le 12, 3) := by decide +kernel
theorem d_Mod_pass_20 : decode b_Mod_pass 20 = .ok (.aload_n 0, 1) := by decide +kernel
theorem d_Mod_pass_21 : decode b_Mod_pass 21 = .ok (.iconst 1, 1) := by decide +kernel
theorem d_Mod_pass_22 : decode b_Mod_pass 22 = .ok (.aload_n 0, 1) := by decide +kernel
theorem d_Mod_pass_23 : decode b_Mod_pass 23 = .ok (.getfield 146, 3) := by decide +kernel
theorem d_Mod_pass_26 : decode b_Mod_pass 26 = .ok (.invokevirtual 149, 3) := by decide +kernel
theorem d_Mod_pass_29 : decode b_Mod_pass 29 = .ok (.aload_n 0, 1) := by decide +kernel
theorem d_Mod_pass_30 : decode b_Mod_pass 30 = .ok (.aload_n 0, 1) := by decide +kernel
theorem d_Mod_pass_31 : decode b_Mod_pass 31 = .ok (.getfield 143, 3) := by decide +kernel
theorem d_Mod_pass_34 : decode b_Mod_pass 34 = .ok (.iload_n 1, 1) := by decide +kernel
theorem d_Mod_pass_35 : decode b_Mod_pass 35 = .ok (.iadd, 1) := by decide +kernel
theorem d_Mod_pass_36 : decode b_Mod_pass 36 = .ok (.putfield 143, 3) := by decide +kernel
theorem d_Mod_pass_39 : decode b_Mod_pass 39 = .ok (.return_, 1) := by decide +kernel
abbrev b_Mod_lowAt : ByteArray := prog_8_method_14_code
def y_Mod_lowAt : MethodName := ⟨R_Mod, "lowAt", "(II)J"⟩
theorem d_Mod_lowAt_0 : decode b_Mod_lowAt 0 = .ok (.lconst 0, 1) := by decide +kernel
theorem d_Mod_lowAt_1 : decode b_Mod_lowAt 1 = .ok (.lstore_n 3, 1) := by decide +kernel
theorem d_Mod_lowAt_2 : decode b_Mod_lowAt 2 = .ok (.iload_n 2, 1) := by decide +kernel
theorem d_Mod_lowAt_3 : decode b_Mod_lowAt 3 = .ok (.iconst 1, 1) := by decide +kernel
theorem d_Mod_lowAt_4 : decode b_Mod_lowAt 4 = .ok (.isub, 1) := by decide +kernel
theorem d_Mod_lowAt_5 : decode b_Mod_lowAt 5 = .ok (.istore 5, 2) := by decide +kernel
theorem d_Mod_lowAt_7 : decode b_Mod_lowAt 7 = .ok (.iload 5, 2) := by decide +kernel
theorem d_Mod_lowAt_9 : decode b_Mod_lowAt 9 = .ok (.ifCond .lt 25, 3) := by decide +kernel
theorem d_Mod_lowAt_12 : decode b_Mod_lowAt 12 = .ok (.lload_n 3, 1) := by decide +kernel
theorem d_Mod_lowAt_13 : decode b_Mod_lowAt 13 = .ok (.bipush 8, 2) := by decide +kernel
theorem d_Mod_lowAt_15 : decode b_Mod_lowAt 15 = .ok (.lshl, 1) := by decide +kernel
theorem d_Mod_lowAt_16 : decode b_Mod_lowAt 16 = .ok (.aload_n 0, 1) := by decide +kernel
theorem d_Mod_lowAt_17 : decode b_Mod_lowAt 17 = .ok (.getfield 13, 3) := by decide +kernel
theorem d_Mod_lowAt_20 : decode b_Mod_lowAt 20 = .ok (.iload_n 1, 1) := by decide +kernel
theorem d_Mod_lowAt_21 : decode b_Mod_lowAt 21 = .ok (.iload 5, 2) := by decide +kernel
theorem d_Mod_lowAt_23 : decode b_Mod_lowAt 23 = .ok (.iadd, 1) := by decide +kernel
theorem d_Mod_lowAt_24 : decode b_Mod_lowAt 24 = .ok (.iaload, 1) := by decide +kernel
theorem d_Mod_lowAt_25 : decode b_Mod_lowAt 25 = .ok (.i2l, 1) := by decide +kernel
theorem d_Mod_lowAt_26 : decode b_Mod_lowAt 26 = .ok (.lor, 1) := by decide +kernel
theorem d_Mod_lowAt_27 : decode b_Mod_lowAt 27 = .ok (.lstore_n 3, 1) := by decide +kernel
theorem d_Mod_lowAt_28 : decode b_Mod_lowAt 28 = .ok (.iinc 5 (-1), 3) := by decide +kernel
theorem d_Mod_lowAt_31 : decode b_Mod_lowAt 31 = .ok (.goto (-24), 3) := by decide +kernel
theorem d_Mod_lowAt_34 : decode b_Mod_lowAt 34 = .ok (.lload_n 3, 1) := by decide +kernel
theorem d_Mod_lowAt_35 : decode b_Mod_lowAt 35 = .ok (.lreturn, 1) := by decide +kernel
abbrev b_Mod_sizeOf : ByteArray := prog_8_method_15_code
def y_Mod_sizeOf : MethodName := ⟨R_Mod, "sizeOf", "(I)I"⟩
theorem d_Mod_sizeOf_0 : decode b_Mod_sizeOf 0 = .ok (.aload_n 0, 1) := by decide +kernel
theorem d_Mod_sizeOf_1 : decode b_Mod_sizeOf 1 = .ok (.getfield 143, 3) := by decide +kernel
theorem d_Mod_sizeOf_4 : decode b_Mod_sizeOf 4 = .ok (.istore_n 2, 1) := by decide +kernel
theorem d_Mod_sizeOf_5 : decode b_Mod_sizeOf 5 = .ok (.aload_n 0, 1) := by decide +kernel
theorem d_Mod_sizeOf_6 : decode b_Mod_sizeOf 6 = .ok (.iconst 1, 1) := by decide +kernel
theorem d_Mod_sizeOf_7 : decode b_Mod_sizeOf 7 = .ok (.invokevirtual 153, 3) := by decide +kernel
theorem d_Mod_sizeOf_10 : decode b_Mod_sizeOf 10 = .ok (.aload_n 0, 1) := by decide +kernel
theorem d_Mod_sizeOf_11 : decode b_Mod_sizeOf 11 = .ok (.getfield 137, 3) := by decide +kernel
theorem d_Mod_sizeOf_14 : decode b_Mod_sizeOf 14 = .ok (.ifCond .le 5, 3) := by decide +kernel
theorem d_Mod_sizeOf_17 : decode b_Mod_sizeOf 17 = .ok (.iconst 0, 1) := by decide +kernel
theorem d_Mod_sizeOf_18 : decode b_Mod_sizeOf 18 = .ok (.ireturn, 1) := by decide +kernel
theorem d_Mod_sizeOf_19 : decode b_Mod_sizeOf 19 = .ok (.aload_n 0, 1) := by decide +kernel
theorem d_Mod_sizeOf_20 : decode b_Mod_sizeOf 20 = .ok (.getfield 13, 3) := by decide +kernel
theorem d_Mod_sizeOf_23 : decode b_Mod_sizeOf 23 = .ok (.iload_n 2, 1) := by decide +kernel
theorem d_Mod_sizeOf_24 : decode b_Mod_sizeOf 24 = .ok (.iaload, 1) := by decide +kernel
theorem d_Mod_sizeOf_25 : decode b_Mod_sizeOf 25 = .ok (.istore_n 3, 1) := by decide +kernel
theorem d_Mod_sizeOf_26 : decode b_Mod_sizeOf 26 = .ok (.iload_n 3, 1) := by decide +kernel
theorem d_Mod_sizeOf_27 : decode b_Mod_sizeOf 27 = .ok (.sipush 253, 3) := by decide +kernel
theorem d_Mod_sizeOf_30 : decode b_Mod_sizeOf 30 = .ok (.if_icmp .ge 27, 3) := by decide +kernel
theorem d_Mod_sizeOf_33 : decode b_Mod_sizeOf 33 = .ok (.iload_n 3, 1) := by decide +kernel
theorem d_Mod_sizeOf_34 : decode b_Mod_sizeOf 34 = .ok (.iload_n 1, 1) := by decide +kernel
theorem d_Mod_sizeOf_35 : decode b_Mod_sizeOf 35 = .ok (.if_icmp .le 9, 3) := by decide +kernel
theorem d_Mod_sizeOf_38 : decode b_Mod_sizeOf 38 = .ok (.aload_n 0, 1) := by decide +kernel
theorem d_Mod_sizeOf_39 : decode b_Mod_sizeOf 39 = .ok (.iconst 3, 1) := by decide +kernel
theorem d_Mod_sizeOf_40 : decode b_Mod_sizeOf 40 = .ok (.iload_n 2, 1) := by decide +kernel
theorem d_Mod_sizeOf_41 : decode b_Mod_sizeOf 41 = .ok (.invokevirtual 149, 3) := by decide +kernel
theorem d_Mod_sizeOf_44 : decode b_Mod_sizeOf 44 = .ok (.aload_n 0, 1) := by decide +kernel
theorem d_Mod_sizeOf_45 : decode b_Mod_sizeOf 45 = .ok (.getfield 137, 3) := by decide +kernel
theorem d_Mod_sizeOf_48 : decode b_Mod_sizeOf 48 = .ok (.ifCond .le 7, 3) := by decide +kernel
theorem d_Mod_sizeOf_51 : decode b_Mod_sizeOf 51 = .ok (.iconst 0, 1) := by decide +kernel
theorem d_Mod_sizeOf_52 : decode b_Mod_sizeOf 52 = .ok (.goto 4, 3) := by decide +kernel
theorem d_Mod_sizeOf_55 : decode b_Mod_sizeOf 55 = .ok (.iload_n 3, 1) := by decide +kernel
theorem d_Mod_sizeOf_56 : decode b_Mod_sizeOf 56 = .ok (.ireturn, 1) := by decide +kernel
theorem d_Mod_sizeOf_57 : decode b_Mod_sizeOf 57 = .ok (.iload_n 3, 1) := by decide +kernel
theorem d_Mod_sizeOf_58 : decode b_Mod_sizeOf 58 = .ok (.sipush 253, 3) := by decide +kernel
theorem d_Mod_sizeOf_61 : decode b_Mod_sizeOf 61 = .ok (.if_icmp .ne 7, 3) := by decide +kernel
theorem d_Mod_sizeOf_64 : decode b_Mod_sizeOf 64 = .ok (.iconst 2, 1) := by decide +kernel
theorem d_Mod_sizeOf_65 : decode b_Mod_sizeOf 65 = .ok (.goto 16, 3) := by decide +kernel
theorem d_Mod_sizeOf_68 : decode b_Mod_sizeOf 68 = .ok (.iload_n 3, 1) := by decide +kernel
theorem d_Mod_sizeOf_69 : decode b_Mod_sizeOf 69 = .ok (.sipush 254, 3) := by decide +kernel
theorem d_Mod_sizeOf_72 : decode b_Mod_sizeOf 72 = .ok (.if_icmp .ne 7, 3) := by decide +kernel
theorem d_Mod_sizeOf_75 : decode b_Mod_sizeOf 75 = .ok (.iconst 4, 1) := by decide +kernel
theorem d_Mod_sizeOf_76 : decode b_Mod_sizeOf 76 = .ok (.goto 5, 3) := by decide +kernel
theorem d_Mod_sizeOf_79 : decode b_Mod_sizeOf 79 = .ok (.bipush 8, 2) := by decide +kernel
theorem d_Mod_sizeOf_81 : decode b_Mod_sizeOf 81 = .ok (.istore 4, 2) := by decide +kernel
theorem d_Mod_sizeOf_83 : decode b_Mod_sizeOf 83 = .ok (.aload_n 0, 1) := by decide +kernel
theorem d_Mod_sizeOf_84 : decode b_Mod_sizeOf 84 = .ok (.iload 4, 2) := by decide +kernel
theorem d_Mod_sizeOf_86 : decode b_Mod_sizeOf 86 = .ok (.invokevirtual 153, 3) := by decide +kernel
theorem d_Mod_sizeOf_89 : decode b_Mod_sizeOf 89 = .ok (.aload_n 0, 1) := by decide +kernel
theorem d_Mod_sizeOf_90 : decode b_Mod_sizeOf 90 = .ok (.getfield 137, 3) := by decide +kernel
theorem d_Mod_sizeOf_93 : decode b_Mod_sizeOf 93 = .ok (.ifCond .le 5, 3) := by decide +kernel
theorem d_Mod_sizeOf_96 : decode b_Mod_sizeOf 96 = .ok (.iconst 0, 1) := by decide +kernel
theorem d_Mod_sizeOf_97 : decode b_Mod_sizeOf 97 = .ok (.ireturn, 1) := by decide +kernel
theorem d_Mod_sizeOf_98 : decode b_Mod_sizeOf 98 = .ok (.aload_n 0, 1) := by decide +kernel
theorem d_Mod_sizeOf_99 : decode b_Mod_sizeOf 99 = .ok (.iload_n 2, 1) := by decide +kernel
theorem d_Mod_sizeOf_100 : decode b_Mod_sizeOf 100 = .ok (.iconst 1, 1) := by decide +kernel
theorem d_Mod_sizeOf_101 : decode b_Mod_sizeOf 101 = .ok (.iadd, 1) := by decide +kernel
theorem d_Mod_sizeOf_102 : decode b_Mod_sizeOf 102 = .ok (.iload 4, 2) := by decide +kernel
theorem d_Mod_sizeOf_104 : decode b_Mod_sizeOf 104 = .ok (.invokevirtual 156, 3) := by decide +kernel
theorem d_Mod_sizeOf_107 : decode b_Mod_sizeOf 107 = .ok (.lstore 5, 2) := by decide +kernel
theorem d_Mod_sizeOf_109 : decode b_Mod_sizeOf 109 = .ok (.iload 4, 2) := by decide +kernel
theorem d_Mod_sizeOf_111 : decode b_Mod_sizeOf 111 = .ok (.iconst 2, 1) := by decide +kernel
theorem d_Mod_sizeOf_112 : decode b_Mod_sizeOf 112 = .ok (.if_icmp .ne 20, 3) := by decide +kernel
theorem d_Mod_sizeOf_115 : decode b_Mod_sizeOf 115 = .ok (.lload 5, 2) := by decide +kernel
theorem d_Mod_sizeOf_117 : decode b_Mod_sizeOf 117 = .ok (.ldc2_w 159, 3) := by decide +kernel
theorem d_Mod_sizeOf_120 : decode b_Mod_sizeOf 120 = .ok (.lcmp, 1) := by decide +kernel
theorem d_Mod_sizeOf_121 : decode b_Mod_sizeOf 121 = .ok (.ifCond .ge 7, 3) := by decide +kernel
theorem d_Mod_sizeOf_124 : decode b_Mod_sizeOf 124 = .ok (.iconst 1, 1) := by decide +kernel
theorem d_Mod_sizeOf_125 : decode b_Mod_sizeOf 125 = .ok (.goto 51, 3) := by decide +kernel
theorem d_Mod_sizeOf_128 : decode b_Mod_sizeOf 128 = .ok (.iconst 0, 1) := by decide +kernel
theorem d_Mod_sizeOf_129 : decode b_Mod_sizeOf 129 = .ok (.goto 47, 3) := by decide +kernel
theorem d_Mod_sizeOf_132 : decode b_Mod_sizeOf 132 = .ok (.iload 4, 2) := by decide +kernel
theorem d_Mod_sizeOf_134 : decode b_Mod_sizeOf 134 = .ok (.iconst 4, 1) := by decide +kernel
theorem d_Mod_sizeOf_135 : decode b_Mod_sizeOf 135 = .ok (.if_icmp .ne 20, 3) := by decide +kernel
theorem d_Mod_sizeOf_138 : decode b_Mod_sizeOf 138 = .ok (.lload 5, 2) := by decide +kernel
theorem d_Mod_sizeOf_140 : decode b_Mod_sizeOf 140 = .ok (.ldc2_w 100, 3) := by decide +kernel
theorem d_Mod_sizeOf_143 : decode b_Mod_sizeOf 143 = .ok (.lcmp, 1) := by decide +kernel
theorem d_Mod_sizeOf_144 : decode b_Mod_sizeOf 144 = .ok (.ifCond .ge 7, 3) := by decide +kernel
theorem d_Mod_sizeOf_147 : decode b_Mod_sizeOf 147 = .ok (.iconst 1, 1) := by decide +kernel
theorem d_Mod_sizeOf_148 : decode b_Mod_sizeOf 148 = .ok (.goto 28, 3) := by decide +kernel
theorem d_Mod_sizeOf_151 : decode b_Mod_sizeOf 151 = .ok (.iconst 0, 1) := by decide +kernel
theorem d_Mod_sizeOf_152 : decode b_Mod_sizeOf 152 = .ok (.goto 24, 3) := by decide +kernel
theorem d_Mod_sizeOf_155 : decode b_Mod_sizeOf 155 = .ok (.lload 5, 2) := by decide +kernel
theorem d_Mod_sizeOf_157 : decode b_Mod_sizeOf 157 = .ok (.lconst 0, 1) := by decide +kernel
theorem d_Mod_sizeOf_158 : decode b_Mod_sizeOf 158 = .ok (.lcmp, 1) := by decide +kernel
theorem d_Mod_sizeOf_159 : decode b_Mod_sizeOf 159 = .ok (.ifCond .lt 16, 3) := by decide +kernel
theorem d_Mod_sizeOf_162 : decode b_Mod_sizeOf 162 = .ok (.lload 5, 2) := by decide +kernel
theorem d_Mod_sizeOf_164 : decode b_Mod_sizeOf 164 = .ok (.ldc2_w 92, 3) := by decide +kernel
theorem d_Mod_sizeOf_167 : decode b_Mod_sizeOf 167 = .ok (.lcmp, 1) := by decide +kernel
theorem d_Mod_sizeOf_168 : decode b_Mod_sizeOf 168 = .ok (.ifCond .ge 7, 3) := by decide +kernel
theorem d_Mod_sizeOf_171 : decode b_Mod_sizeOf 171 = .ok (.iconst 1, 1) := by decide +kernel
theorem d_Mod_sizeOf_172 : decode b_Mod_sizeOf 172 = .ok (.goto 4, 3) := by decide +kernel
theorem d_Mod_sizeOf_175 : decode b_Mod_sizeOf 175 = .ok (.iconst 0, 1) := by decide +kernel
theorem d_Mod_sizeOf_176 : decode b_Mod_sizeOf 176 = .ok (.istore 7, 2) := by decide +kernel
theorem d_Mod_sizeOf_178 : decode b_Mod_sizeOf 178 = .ok (.iload 7, 2) := by decide +kernel
theorem d_Mod_sizeOf_180 : decode b_Mod_sizeOf 180 = .ok (.ifCond .eq 9, 3) := by decide +kernel
theorem d_Mod_sizeOf_183 : decode b_Mod_sizeOf 183 = .ok (.aload_n 0, 1) := by decide +kernel
theorem d_Mod_sizeOf_184 : decode b_Mod_sizeOf 184 = .ok (.iconst 2, 1) := by decide +kernel
theorem d_Mod_sizeOf_185 : decode b_Mod_sizeOf 185 = .ok (.iload_n 2, 1) := by decide +kernel
theorem d_Mod_sizeOf_186 : decode b_Mod_sizeOf 186 = .ok (.invokevirtual 149, 3) := by decide +kernel
theorem d_Mod_sizeOf_189 : decode b_Mod_sizeOf 189 = .ok (.lload 5, 2) := by decide +kernel
theorem d_Mod_sizeOf_191 : decode b_Mod_sizeOf 191 = .ok (.lconst 0, 1) := by decide +kernel
theorem d_Mod_sizeOf_192 : decode b_Mod_sizeOf 192 = .ok (.lcmp, 1) := by decide +kernel
theorem d_Mod_sizeOf_193 : decode b_Mod_sizeOf 193 = .ok (.ifCond .lt 11, 3) := by decide +kernel
theorem d_Mod_sizeOf_196 : decode b_Mod_sizeOf 196 = .ok (.lload 5, 2) := by decide +kernel
theorem d_Mod_sizeOf_198 : decode b_Mod_sizeOf 198 = .ok (.iload_n 1, 1) := by decide +kernel
theorem d_Mod_sizeOf_199 : decode b_Mod_sizeOf 199 = .ok (.i2l, 1) := by decide +kernel
theorem d_Mod_sizeOf_200 : decode b_Mod_sizeOf 200 = .ok (.lcmp, 1) := by decide +kernel
theorem d_Mod_sizeOf_201 : decode b_Mod_sizeOf 201 = .ok (.ifCond .le 9, 3) := by decide +kernel
theorem d_Mod_sizeOf_204 : decode b_Mod_sizeOf 204 = .ok (.aload_n 0, 1) := by decide +kernel
theorem d_Mod_sizeOf_205 : decode b_Mod_sizeOf 205 = .ok (.iconst 3, 1) := by decide +kernel
theorem d_Mod_sizeOf_206 : decode b_Mod_sizeOf 206 = .ok (.iload_n 2, 1) := by decide +kernel
theorem d_Mod_sizeOf_207 : decode b_Mod_sizeOf 207 = .ok (.invokevirtual 149, 3) := by decide +kernel
theorem d_Mod_sizeOf_210 : decode b_Mod_sizeOf 210 = .ok (.aload_n 0, 1) := by decide +kernel
theorem d_Mod_sizeOf_211 : decode b_Mod_sizeOf 211 = .ok (.getfield 137, 3) := by decide +kernel
theorem d_Mod_sizeOf_214 : decode b_Mod_sizeOf 214 = .ok (.ifCond .le 7, 3) := by decide +kernel
theorem d_Mod_sizeOf_217 : decode b_Mod_sizeOf 217 = .ok (.iconst 0, 1) := by decide +kernel
theorem d_Mod_sizeOf_218 : decode b_Mod_sizeOf 218 = .ok (.goto 6, 3) := by decide +kernel
theorem d_Mod_sizeOf_221 : decode b_Mod_sizeOf 221 = .ok (.lload 5, 2) := by decide +kernel
theorem d_Mod_sizeOf_223 : decode b_Mod_sizeOf 223 = .ok (.l2i, 1) := by decide +kernel
theorem d_Mod_sizeOf_224 : decode b_Mod_sizeOf 224 = .ok (.ireturn, 1) := by decide +kernel
