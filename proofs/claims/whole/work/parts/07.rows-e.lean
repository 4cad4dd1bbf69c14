abbrev b_Mod_transaction : ByteArray := prog_8_method_16_code
def y_Mod_transaction : MethodName := ⟨R_Mod, "transaction", "(I)V"⟩
theorem d_Mod_transaction_0 : decode b_Mod_transaction 0 = .ok (.aload_n 0, 1) := by decide +kernel
theorem d_Mod_transaction_1 : decode b_Mod_transaction 1 = .ok (.getfield 20, 3) := by decide +kernel
theorem d_Mod_transaction_4 : decode b_Mod_transaction 4 = .ok (.iload_n 1, 1) := by decide +kernel
theorem d_Mod_transaction_5 : decode b_Mod_transaction 5 = .ok (.aload_n 0, 1) := by decide +kernel
theorem d_Mod_transaction_6 : decode b_Mod_transaction 6 = .ok (.getfield 143, 3) := by decide +kernel
theorem d_Mod_transaction_9 : decode b_Mod_transaction 9 = .ok (.iastore, 1) := by decide +kernel
theorem d_Mod_transaction_10 : decode b_Mod_transaction 10 = .ok (.aload_n 0, 1) := by decide +kernel
theorem d_Mod_transaction_11 : decode b_Mod_transaction 11 = .ok (.iconst 4, 1) := by decide +kernel
theorem d_Mod_transaction_12 : decode b_Mod_transaction 12 = .ok (.invokevirtual 153, 3) := by decide +kernel
theorem d_Mod_transaction_15 : decode b_Mod_transaction 15 = .ok (.aload_n 0, 1) := by decide +kernel
theorem d_Mod_transaction_16 : decode b_Mod_transaction 16 = .ok (.getfield 26, 3) := by decide +kernel
theorem d_Mod_transaction_19 : decode b_Mod_transaction 19 = .ok (.iload_n 1, 1) := by decide +kernel
theorem d_Mod_transaction_20 : decode b_Mod_transaction 20 = .ok (.aload_n 0, 1) := by decide +kernel
theorem d_Mod_transaction_21 : decode b_Mod_transaction 21 = .ok (.bipush 8, 2) := by decide +kernel
theorem d_Mod_transaction_23 : decode b_Mod_transaction 23 = .ok (.invokevirtual 161, 3) := by decide +kernel
theorem d_Mod_transaction_26 : decode b_Mod_transaction 26 = .ok (.iastore, 1) := by decide +kernel
theorem d_Mod_transaction_27 : decode b_Mod_transaction 27 = .ok (.bipush 8, 2) := by decide +kernel
theorem d_Mod_transaction_29 : decode b_Mod_transaction 29 = .ok (.iload_n 1, 1) := by decide +kernel
theorem d_Mod_transaction_30 : decode b_Mod_transaction 30 = .ok (.imul, 1) := by decide +kernel
theorem d_Mod_transaction_31 : decode b_Mod_transaction 31 = .ok (.istore_n 2, 1) := by decide +kernel
theorem d_Mod_transaction_32 : decode b_Mod_transaction 32 = .ok (.iload_n 2, 1) := by decide +kernel
theorem d_Mod_transaction_33 : decode b_Mod_transaction 33 = .ok (.bipush 8, 2) := by decide +kernel
theorem d_Mod_transaction_35 : decode b_Mod_transaction 35 = .ok (.iload_n 1, 1) := by decide +kernel
theorem d_Mod_transaction_36 : decode b_Mod_transaction 36 = .ok (.imul, 1) := by decide +kernel
theorem d_Mod_transaction_37 : decode b_Mod_transaction 37 = .ok (.aload_n 0, 1) := by decide +kernel
theorem d_Mod_transaction_38 : decode b_Mod_transaction 38 = .ok (.getfield 26, 3) := by decide +kernel
theorem d_Mod_transaction_41 : decode b_Mod_transaction 41 = .ok (.iload_n 1, 1) := by decide +kernel
theorem d_Mod_transaction_42 : decode b_Mod_transaction 42 = .ok (.iaload, 1) := by decide +kernel
theorem d_Mod_transaction_43 : decode b_Mod_transaction 43 = .ok (.iadd, 1) := by decide +kernel
theorem d_Mod_transaction_44 : decode b_Mod_transaction 44 = .ok (.if_icmp .ge 67, 3) := by decide +kernel
theorem d_Mod_transaction_47 : decode b_Mod_transaction 47 = .ok (.aload_n 0, 1) := by decide +kernel
theorem d_Mod_transaction_48 : decode b_Mod_transaction 48 = .ok (.getfield 137, 3) := by decide +kernel
theorem d_Mod_transaction_51 : decode b_Mod_transaction 51 = .ok (.ifCond .ne 60, 3) := by decide +kernel
theorem d_Mod_transaction_54 : decode b_Mod_transaction 54 = .ok (.aload_n 0, 1) := by decide +kernel
theorem d_Mod_transaction_55 : decode b_Mod_transaction 55 = .ok (.getfield 32, 3) := by decide +kernel
theorem d_Mod_transaction_58 : decode b_Mod_transaction 58 = .ok (.iload_n 2, 1) := by decide +kernel
theorem d_Mod_transaction_59 : decode b_Mod_transaction 59 = .ok (.aload_n 0, 1) := by decide +kernel
theorem d_Mod_transaction_60 : decode b_Mod_transaction 60 = .ok (.getfield 143, 3) := by decide +kernel
theorem d_Mod_transaction_63 : decode b_Mod_transaction 63 = .ok (.iastore, 1) := by decide +kernel
theorem d_Mod_transaction_64 : decode b_Mod_transaction 64 = .ok (.aload_n 0, 1) := by decide +kernel
theorem d_Mod_transaction_65 : decode b_Mod_transaction 65 = .ok (.bipush 36, 2) := by decide +kernel
theorem d_Mod_transaction_67 : decode b_Mod_transaction 67 = .ok (.invokevirtual 153, 3) := by decide +kernel
theorem d_Mod_transaction_70 : decode b_Mod_transaction 70 = .ok (.aload_n 0, 1) := by decide +kernel
theorem d_Mod_transaction_71 : decode b_Mod_transaction 71 = .ok (.getfield 38, 3) := by decide +kernel
theorem d_Mod_transaction_74 : decode b_Mod_transaction 74 = .ok (.iload_n 2, 1) := by decide +kernel
theorem d_Mod_transaction_75 : decode b_Mod_transaction 75 = .ok (.aload_n 0, 1) := by decide +kernel
theorem d_Mod_transaction_76 : decode b_Mod_transaction 76 = .ok (.sipush 200, 3) := by decide +kernel
theorem d_Mod_transaction_79 : decode b_Mod_transaction 79 = .ok (.invokevirtual 161, 3) := by decide +kernel
theorem d_Mod_transaction_82 : decode b_Mod_transaction 82 = .ok (.iastore, 1) := by decide +kernel
theorem d_Mod_transaction_83 : decode b_Mod_transaction 83 = .ok (.aload_n 0, 1) := by decide +kernel
theorem d_Mod_transaction_84 : decode b_Mod_transaction 84 = .ok (.getfield 35, 3) := by decide +kernel
theorem d_Mod_transaction_87 : decode b_Mod_transaction 87 = .ok (.iload_n 2, 1) := by decide +kernel
theorem d_Mod_transaction_88 : decode b_Mod_transaction 88 = .ok (.aload_n 0, 1) := by decide +kernel
theorem d_Mod_transaction_89 : decode b_Mod_transaction 89 = .ok (.getfield 143, 3) := by decide +kernel
theorem d_Mod_transaction_92 : decode b_Mod_transaction 92 = .ok (.iastore, 1) := by decide +kernel
theorem d_Mod_transaction_93 : decode b_Mod_transaction 93 = .ok (.aload_n 0, 1) := by decide +kernel
theorem d_Mod_transaction_94 : decode b_Mod_transaction 94 = .ok (.aload_n 0, 1) := by decide +kernel
theorem d_Mod_transaction_95 : decode b_Mod_transaction 95 = .ok (.getfield 38, 3) := by decide +kernel
theorem d_Mod_transaction_98 : decode b_Mod_transaction 98 = .ok (.iload_n 2, 1) := by decide +kernel
theorem d_Mod_transaction_99 : decode b_Mod_transaction 99 = .ok (.iaload, 1) := by decide +kernel
theorem d_Mod_transaction_100 : decode b_Mod_transaction 100 = .ok (.iconst 4, 1) := by decide +kernel
theorem d_Mod_transaction_101 : decode b_Mod_transaction 101 = .ok (.iadd, 1) := by decide +kernel
theorem d_Mod_transaction_102 : decode b_Mod_transaction 102 = .ok (.invokevirtual 153, 3) := by decide +kernel
theorem d_Mod_transaction_105 : decode b_Mod_transaction 105 = .ok (.iinc 2 1, 3) := by decide +kernel
theorem d_Mod_transaction_108 : decode b_Mod_transaction 108 = .ok (.goto (-76), 3) := by decide +kernel
theorem d_Mod_transaction_111 : decode b_Mod_transaction 111 = .ok (.aload_n 0, 1) := by decide +kernel
theorem d_Mod_transaction_112 : decode b_Mod_transaction 112 = .ok (.getfield 29, 3) := by decide +kernel
theorem d_Mod_transaction_115 : decode b_Mod_transaction 115 = .ok (.iload_n 1, 1) := by decide +kernel
theorem d_Mod_transaction_116 : decode b_Mod_transaction 116 = .ok (.aload_n 0, 1) := by decide +kernel
theorem d_Mod_transaction_117 : decode b_Mod_transaction 117 = .ok (.getfield 137, 3) := by decide +kernel
theorem d_Mod_transaction_120 : decode b_Mod_transaction 120 = .ok (.ifCond .le 7, 3) := by decide +kernel
theorem d_Mod_transaction_123 : decode b_Mod_transaction 123 = .ok (.iconst 0, 1) := by decide +kernel
theorem d_Mod_transaction_124 : decode b_Mod_transaction 124 = .ok (.goto 9, 3) := by decide +kernel
theorem d_Mod_transaction_127 : decode b_Mod_transaction 127 = .ok (.aload_n 0, 1) := by decide +kernel
theorem d_Mod_transaction_128 : decode b_Mod_transaction 128 = .ok (.bipush 8, 2) := by decide +kernel
theorem d_Mod_transaction_130 : decode b_Mod_transaction 130 = .ok (.invokevirtual 161, 3) := by decide +kernel
theorem d_Mod_transaction_133 : decode b_Mod_transaction 133 = .ok (.iastore, 1) := by decide +kernel
theorem d_Mod_transaction_134 : decode b_Mod_transaction 134 = .ok (.bipush 8, 2) := by decide +kernel
theorem d_Mod_transaction_136 : decode b_Mod_transaction 136 = .ok (.iload_n 1, 1) := by decide +kernel
theorem d_Mod_transaction_137 : decode b_Mod_transaction 137 = .ok (.imul, 1) := by decide +kernel
theorem d_Mod_transaction_138 : decode b_Mod_transaction 138 = .ok (.istore_n 2, 1) := by decide +kernel
theorem d_Mod_transaction_139 : decode b_Mod_transaction 139 = .ok (.iload_n 2, 1) := by decide +kernel
theorem d_Mod_transaction_140 : decode b_Mod_transaction 140 = .ok (.bipush 8, 2) := by decide +kernel
theorem d_Mod_transaction_142 : decode b_Mod_transaction 142 = .ok (.iload_n 1, 1) := by decide +kernel
theorem d_Mod_transaction_143 : decode b_Mod_transaction 143 = .ok (.imul, 1) := by decide +kernel
theorem d_Mod_transaction_144 : decode b_Mod_transaction 144 = .ok (.aload_n 0, 1) := by decide +kernel
theorem d_Mod_transaction_145 : decode b_Mod_transaction 145 = .ok (.getfield 29, 3) := by decide +kernel
theorem d_Mod_transaction_148 : decode b_Mod_transaction 148 = .ok (.iload_n 1, 1) := by decide +kernel
theorem d_Mod_transaction_149 : decode b_Mod_transaction 149 = .ok (.iaload, 1) := by decide +kernel
theorem d_Mod_transaction_150 : decode b_Mod_transaction 150 = .ok (.iadd, 1) := by decide +kernel
theorem d_Mod_transaction_151 : decode b_Mod_transaction 151 = .ok (.if_icmp .ge 65, 3) := by decide +kernel
theorem d_Mod_transaction_154 : decode b_Mod_transaction 154 = .ok (.aload_n 0, 1) := by decide +kernel
theorem d_Mod_transaction_155 : decode b_Mod_transaction 155 = .ok (.getfield 137, 3) := by decide +kernel
theorem d_Mod_transaction_158 : decode b_Mod_transaction 158 = .ok (.ifCond .ne 58, 3) := by decide +kernel
theorem d_Mod_transaction_161 : decode b_Mod_transaction 161 = .ok (.aload_n 0, 1) := by decide +kernel
theorem d_Mod_transaction_162 : decode b_Mod_transaction 162 = .ok (.getfield 41, 3) := by decide +kernel
theorem d_Mod_transaction_165 : decode b_Mod_transaction 165 = .ok (.iload_n 2, 1) := by decide +kernel
theorem d_Mod_transaction_166 : decode b_Mod_transaction 166 = .ok (.aload_n 0, 1) := by decide +kernel
theorem d_Mod_transaction_167 : decode b_Mod_transaction 167 = .ok (.getfield 143, 3) := by decide +kernel
theorem d_Mod_transaction_170 : decode b_Mod_transaction 170 = .ok (.iastore, 1) := by decide +kernel
theorem d_Mod_transaction_171 : decode b_Mod_transaction 171 = .ok (.aload_n 0, 1) := by decide +kernel
theorem d_Mod_transaction_172 : decode b_Mod_transaction 172 = .ok (.bipush 8, 2) := by decide +kernel
theorem d_Mod_transaction_174 : decode b_Mod_transaction 174 = .ok (.invokevirtual 153, 3) := by decide +kernel
theorem d_Mod_transaction_177 : decode b_Mod_transaction 177 = .ok (.aload_n 0, 1) := by decide +kernel
theorem d_Mod_transaction_178 : decode b_Mod_transaction 178 = .ok (.getfield 47, 3) := by decide +kernel
theorem d_Mod_transaction_181 : decode b_Mod_transaction 181 = .ok (.iload_n 2, 1) := by decide +kernel
theorem d_Mod_transaction_182 : decode b_Mod_transaction 182 = .ok (.aload_n 0, 1) := by decide +kernel
theorem d_Mod_transaction_183 : decode b_Mod_transaction 183 = .ok (.sipush 200, 3) := by decide +kernel
theorem d_Mod_transaction_186 : decode b_Mod_transaction 186 = .ok (.invokevirtual 161, 3) := by decide +kernel
theorem d_Mod_transaction_189 : decode b_Mod_transaction 189 = .ok (.iastore, 1) := by decide +kernel
theorem d_Mod_transaction_190 : decode b_Mod_transaction 190 = .ok (.aload_n 0, 1) := by decide +kernel
theorem d_Mod_transaction_191 : decode b_Mod_transaction 191 = .ok (.getfield 44, 3) := by decide +kernel
theorem d_Mod_transaction_194 : decode b_Mod_transaction 194 = .ok (.iload_n 2, 1) := by decide +kernel
theorem d_Mod_transaction_195 : decode b_Mod_transaction 195 = .ok (.aload_n 0, 1) := by decide +kernel
theorem d_Mod_transaction_196 : decode b_Mod_transaction 196 = .ok (.getfield 143, 3) := by decide +kernel
theorem d_Mod_transaction_199 : decode b_Mod_transaction 199 = .ok (.iastore, 1) := by decide +kernel
theorem d_Mod_transaction_200 : decode b_Mod_transaction 200 = .ok (.aload_n 0, 1) := by decide +kernel
theorem d_Mod_transaction_201 : decode b_Mod_transaction 201 = .ok (.aload_n 0, 1) := by decide +kernel
theorem d_Mod_transaction_202 : decode b_Mod_transaction 202 = .ok (.getfield 47, 3) := by decide +kernel
theorem d_Mod_transaction_205 : decode b_Mod_transaction 205 = .ok (.iload_n 2, 1) := by decide +kernel
theorem d_Mod_transaction_206 : decode b_Mod_transaction 206 = .ok (.iaload, 1) := by decide +kernel
theorem d_Mod_transaction_207 : decode b_Mod_transaction 207 = .ok (.invokevirtual 153, 3) := by decide +kernel
theorem d_Mod_transaction_210 : decode b_Mod_transaction 210 = .ok (.iinc 2 1, 3) := by decide +kernel
theorem d_Mod_transaction_213 : decode b_Mod_transaction 213 = .ok (.goto (-74), 3) := by decide +kernel
theorem d_Mod_transaction_216 : decode b_Mod_transaction 216 = .ok (.aload_n 0, 1) := by decide +kernel
theorem d_Mod_transaction_217 : decode b_Mod_transaction 217 = .ok (.iconst 4, 1) := by decide +kernel
theorem d_Mod_transaction_218 : decode b_Mod_transaction 218 = .ok (.invokevirtual 153, 3) := by decide +kernel
theorem d_Mod_transaction_221 : decode b_Mod_transaction 221 = .ok (.aload_n 0, 1) := by decide +kernel
theorem d_Mod_transaction_222 : decode b_Mod_transaction 222 = .ok (.getfield 23, 3) := by decide +kernel
theorem d_Mod_transaction_225 : decode b_Mod_transaction 225 = .ok (.iload_n 1, 1) := by decide +kernel
theorem d_Mod_transaction_226 : decode b_Mod_transaction 226 = .ok (.aload_n 0, 1) := by decide +kernel
theorem d_Mod_transaction_227 : decode b_Mod_transaction 227 = .ok (.getfield 143, 3) := by decide +kernel
theorem d_Mod_transaction_230 : decode b_Mod_transaction 230 = .ok (.iastore, 1) := by decide +kernel
theorem d_Mod_transaction_231 : decode b_Mod_transaction 231 = .ok (.return_, 1) := by decide +kernel
abbrev b_Mod_put : ByteArray := prog_8_method_17_code
def y_Mod_put : MethodName := ⟨R_Mod, "put", "(JI)Z"⟩
theorem d_Mod_put_0 : decode b_Mod_put 0 = .ok (.aload_n 0, 1) := by decide +kernel
theorem d_Mod_put_1 : decode b_Mod_put 1 = .ok (.lload_n 1, 1) := by decide +kernel
theorem d_Mod_put_2 : decode b_Mod_put 2 = .ok (.iload_n 3, 1) := by decide +kernel
theorem d_Mod_put_3 : decode b_Mod_put 3 = .ok (.iconst 0, 1) := by decide +kernel
theorem d_Mod_put_4 : decode b_Mod_put 4 = .ok (.invokevirtual 165, 3) := by decide +kernel
theorem d_Mod_put_7 : decode b_Mod_put 7 = .ok (.ireturn, 1) := by decide +kernel
abbrev b_Mod_low : ByteArray := prog_8_method_18_code
def y_Mod_low : MethodName := ⟨R_Mod, "low", "(JI)Z"⟩
theorem d_Mod_low_0 : decode b_Mod_low 0 = .ok (.aload_n 0, 1) := by decide +kernel
theorem d_Mod_low_1 : decode b_Mod_low 1 = .ok (.lload_n 1, 1) := by decide +kernel
theorem d_Mod_low_2 : decode b_Mod_low 2 = .ok (.iload_n 3, 1) := by decide +kernel
theorem d_Mod_low_3 : decode b_Mod_low 3 = .ok (.iconst 1, 1) := by decide +kernel
theorem d_Mod_low_4 : decode b_Mod_low 4 = .ok (.invokevirtual 165, 3) := by decide +kernel
theorem d_Mod_low_7 : decode b_Mod_low 7 = .ok (.ireturn, 1) := by decide +kernel
abbrev b_Mod_lay : ByteArray := prog_8_method_19_code
def y_Mod_lay : MethodName := ⟨R_Mod, "lay", "(JIZ)Z"⟩
theorem d_Mod_lay_0 : decode b_Mod_lay 0 = .ok (.iload_n 3, 1) := by decide +kernel
theorem d_Mod_lay_1 : decode b_Mod_lay 1 = .ok (.iconst 1, 1) := by decide +kernel
theorem d_Mod_lay_2 : decode b_Mod_lay 2 = .ok (.if_icmp .lt 21, 3) := by decide +kernel
theorem d_Mod_lay_5 : decode b_Mod_lay 5 = .ok (.iload_n 3, 1) := by decide +kernel
theorem d_Mod_lay_6 : decode b_Mod_lay 6 = .ok (.bipush 8, 2) := by decide +kernel
theorem d_Mod_lay_8 : decode b_Mod_lay 8 = .ok (.if_icmp .gt 15, 3) := by decide +kernel
theorem d_Mod_lay_11 : decode b_Mod_lay 11 = .ok (.aload_n 0, 1) := by decide +kernel
theorem d_Mod_lay_12 : decode b_Mod_lay 12 = .ok (.getfield 169, 3) := by decide +kernel
theorem d_Mod_lay_15 : decode b_Mod_lay 15 = .ok (.iload_n 3, 1) := by decide +kernel
theorem d_Mod_lay_16 : decode b_Mod_lay 16 = .ok (.iadd, 1) := by decide +kernel
theorem d_Mod_lay_17 : decode b_Mod_lay 17 = .ok (.sipush 2000, 3) := by decide +kernel
theorem d_Mod_lay_20 : decode b_Mod_lay 20 = .ok (.if_icmp .le 5, 3) := by decide +kernel
theorem d_Mod_lay_23 : decode b_Mod_lay 23 = .ok (.iconst 0, 1) := by decide +kernel
theorem d_Mod_lay_24 : decode b_Mod_lay 24 = .ok (.ireturn, 1) := by decide +kernel
theorem d_Mod_lay_25 : decode b_Mod_lay 25 = .ok (.iconst 0, 1) := by decide +kernel
theorem d_Mod_lay_26 : decode b_Mod_lay 26 = .ok (.istore 5, 2) := by decide +kernel
theorem d_Mod_lay_28 : decode b_Mod_lay 28 = .ok (.iload 5, 2) := by decide +kernel
theorem d_Mod_lay_30 : decode b_Mod_lay 30 = .ok (.iload_n 3, 1) := by decide +kernel
theorem d_Mod_lay_31 : decode b_Mod_lay 31 = .ok (.if_icmp .ge 47, 3) := by decide +kernel
theorem d_Mod_lay_34 : decode b_Mod_lay 34 = .ok (.aload_n 0, 1) := by decide +kernel
theorem d_Mod_lay_35 : decode b_Mod_lay 35 = .ok (.getfield 7, 3) := by decide +kernel
theorem d_Mod_lay_38 : decode b_Mod_lay 38 = .ok (.aload_n 0, 1) := by decide +kernel
theorem d_Mod_lay_39 : decode b_Mod_lay 39 = .ok (.getfield 169, 3) := by decide +kernel
theorem d_Mod_lay_42 : decode b_Mod_lay 42 = .ok (.iload 5, 2) := by decide +kernel
theorem d_Mod_lay_44 : decode b_Mod_lay 44 = .ok (.iadd, 1) := by decide +kernel
theorem d_Mod_lay_45 : decode b_Mod_lay 45 = .ok (.lload_n 1, 1) := by decide +kernel
theorem d_Mod_lay_46 : decode b_Mod_lay 46 = .ok (.bipush 8, 2) := by decide +kernel
theorem d_Mod_lay_48 : decode b_Mod_lay 48 = .ok (.iload 4, 2) := by decide +kernel
theorem d_Mod_lay_50 : decode b_Mod_lay 50 = .ok (.ifCond .eq 8, 3) := by decide +kernel
theorem d_Mod_lay_53 : decode b_Mod_lay 53 = .ok (.iload 5, 2) := by decide +kernel
theorem d_Mod_lay_55 : decode b_Mod_lay 55 = .ok (.goto 9, 3) := by decide +kernel
theorem d_Mod_lay_58 : decode b_Mod_lay 58 = .ok (.iload_n 3, 1) := by decide +kernel
theorem d_Mod_lay_59 : decode b_Mod_lay 59 = .ok (.iconst 1, 1) := by decide +kernel
theorem d_Mod_lay_60 : decode b_Mod_lay 60 = .ok (.isub, 1) := by decide +kernel
theorem d_Mod_lay_61 : decode b_Mod_lay 61 = .ok (.iload 5, 2) := by decide +kernel
theorem d_Mod_lay_63 : decode b_Mod_lay 63 = .ok (.isub, 1) := by decide +kernel
theorem d_Mod_lay_64 : decode b_Mod_lay 64 = .ok (.imul, 1) := by decide +kernel
theorem d_Mod_lay_65 : decode b_Mod_lay 65 = .ok (.lshr, 1) := by decide +kernel
theorem d_Mod_lay_66 : decode b_Mod_lay 66 = .ok (.ldc2_w 106, 3) := by decide +kernel
theorem d_Mod_lay_69 : decode b_Mod_lay 69 = .ok (.land, 1) := by decide +kernel
theorem d_Mod_lay_70 : decode b_Mod_lay 70 = .ok (.l2i, 1) := by decide +kernel
theorem d_Mod_lay_71 : decode b_Mod_lay 71 = .ok (.iastore, 1) := by decide +kernel
theorem d_Mod_lay_72 : decode b_Mod_lay 72 = .ok (.iinc 5 1, 3) := by decide +kernel
theorem d_Mod_lay_75 : decode b_Mod_lay 75 = .ok (.goto (-47), 3) := by decide +kernel
theorem d_Mod_lay_78 : decode b_Mod_lay 78 = .ok (.aload_n 0, 1) := by decide +kernel
theorem d_Mod_lay_79 : decode b_Mod_lay 79 = .ok (.aload_n 0, 1) := by decide +kernel
theorem d_Mod_lay_80 : decode b_Mod_lay 80 = .ok (.getfield 169, 3) := by decide +kernel
theorem d_Mod_lay_83 : decode b_Mod_lay 83 = .ok (.iload_n 3, 1) := by decide +kernel
theorem d_Mod_lay_84 : decode b_Mod_lay 84 = .ok (.iadd, 1) := by decide +kernel
theorem d_Mod_lay_85 : decode b_Mod_lay 85 = .ok (.putfield 169, 3) := by decide +kernel
theorem d_Mod_lay_88 : decode b_Mod_lay 88 = .ok (.iconst 1, 1) := by decide +kernel
theorem d_Mod_lay_89 : decode b_Mod_lay 89 = .ok (.ireturn, 1) := by decide +kernel
abbrev b_Mod_compact : ByteArray := prog_8_method_20_code
def y_Mod_compact : MethodName := ⟨R_Mod, "compact", "(J)Z"⟩
theorem d_Mod_compact_0 : decode b_Mod_compact 0 = .ok (.lload_n 1, 1) := by decide +kernel
theorem d_Mod_compact_1 : decode b_Mod_compact 1 = .ok (.lconst 0, 1) := by decide +kernel
theorem d_Mod_compact_2 : decode b_Mod_compact 2 = .ok (.lcmp, 1) := by decide +kernel
theorem d_Mod_compact_3 : decode b_Mod_compact 3 = .ok (.ifCond .lt 11, 3) := by decide +kernel
theorem d_Mod_compact_6 : decode b_Mod_compact 6 = .ok (.lload_n 1, 1) := by decide +kernel
theorem d_Mod_compact_7 : decode b_Mod_compact 7 = .ok (.ldc2_w 92, 3) := by decide +kernel
theorem d_Mod_compact_10 : decode b_Mod_compact 10 = .ok (.lcmp, 1) := by decide +kernel
theorem d_Mod_compact_11 : decode b_Mod_compact 11 = .ok (.ifCond .lt 8, 3) := by decide +kernel
theorem d_Mod_compact_14 : decode b_Mod_compact 14 = .ok (.bipush 8, 2) := by decide +kernel
theorem d_Mod_compact_16 : decode b_Mod_compact 16 = .ok (.goto 28, 3) := by decide +kernel
theorem d_Mod_compact_19 : decode b_Mod_compact 19 = .ok (.lload_n 1, 1) := by decide +kernel
theorem d_Mod_compact_20 : decode b_Mod_compact 20 = .ok (.ldc2_w 100, 3) := by decide +kernel
theorem d_Mod_compact_23 : decode b_Mod_compact 23 = .ok (.lcmp, 1) := by decide +kernel
theorem d_Mod_compact_24 : decode b_Mod_compact 24 = .ok (.ifCond .lt 7, 3) := by decide +kernel
theorem d_Mod_compact_27 : decode b_Mod_compact 27 = .ok (.iconst 4, 1) := by decide +kernel
theorem d_Mod_compact_28 : decode b_Mod_compact 28 = .ok (.goto 16, 3) := by decide +kernel
theorem d_Mod_compact_31 : decode b_Mod_compact 31 = .ok (.lload_n 1, 1) := by decide +kernel
theorem d_Mod_compact_32 : decode b_Mod_compact 32 = .ok (.ldc2_w 159, 3) := by decide +kernel
theorem d_Mod_compact_35 : decode b_Mod_compact 35 = .ok (.lcmp, 1) := by decide +kernel
theorem d_Mod_compact_36 : decode b_Mod_compact 36 = .ok (.ifCond .lt 7, 3) := by decide +kernel
theorem d_Mod_compact_39 : decode b_Mod_compact 39 = .ok (.iconst 2, 1) := by decide +kernel
theorem d_Mod_compact_40 : decode b_Mod_compact 40 = .ok (.goto 4, 3) := by decide +kernel
theorem d_Mod_compact_43 : decode b_Mod_compact 43 = .ok (.iconst 0, 1) := by decide +kernel
theorem d_Mod_compact_44 : decode b_Mod_compact 44 = .ok (.istore_n 3, 1) := by decide +kernel
theorem d_Mod_compact_45 : decode b_Mod_compact 45 = .ok (.aload_n 0, 1) := by decide +kernel
theorem d_Mod_compact_46 : decode b_Mod_compact 46 = .ok (.getfield 169, 3) := by decide +kernel
theorem d_Mod_compact_49 : decode b_Mod_compact 49 = .ok (.iconst 1, 1) := by decide +kernel
theorem d_Mod_compact_50 : decode b_Mod_compact 50 = .ok (.iadd, 1) := by decide +kernel
theorem d_Mod_compact_51 : decode b_Mod_compact 51 = .ok (.iload_n 3, 1) := by decide +kernel
theorem d_Mod_compact_52 : decode b_Mod_compact 52 = .ok (.iadd, 1) := by decide +kernel
theorem d_Mod_compact_53 : decode b_Mod_compact 53 = .ok (.sipush 2000, 3) := by decide +kernel
theorem d_Mod_compact_56 : decode b_Mod_compact 56 = .ok (.if_icmp .le 5, 3) := by decide +kernel
theorem d_Mod_compact_59 : decode b_Mod_compact 59 = .ok (.iconst 0, 1) := by decide +kernel
theorem d_Mod_compact_60 : decode b_Mod_compact 60 = .ok (.ireturn, 1) := by decide +kernel
theorem d_Mod_compact_61 : decode b_Mod_compact 61 = .ok (.aload_n 0, 1) := by decide +kernel
theorem d_Mod_compact_62 : decode b_Mod_compact 62 = .ok (.getfield 7, 3) := by decide +kernel
theorem d_Mod_compact_65 : decode b_Mod_compact 65 = .ok (.aload_n 0, 1) := by decide +kernel
theorem d_Mod_compact_66 : decode b_Mod_compact 66 = .ok (.getfield 169, 3) := by decide +kernel
theorem d_Mod_compact_69 : decode b_Mod_compact 69 = .ok (.iload_n 3, 1) := by decide +kernel
theorem d_Mod_compact_70 : decode b_Mod_compact 70 = .ok (.ifCond .ne 8, 3) := by decide +kernel
theorem d_Mod_compact_73 : decode b_Mod_compact 73 = .ok (.lload_n 1, 1) := by decide +kernel
theorem d_Mod_compact_74 : decode b_Mod_compact 74 = .ok (.l2i, 1) := by decide +kernel
theorem d_Mod_compact_75 : decode b_Mod_compact 75 = .ok (.goto 28, 3) := by decide +kernel
theorem d_Mod_compact_78 : decode b_Mod_compact 78 = .ok (.iload_n 3, 1) := by decide +kernel
theorem d_Mod_compact_79 : decode b_Mod_compact 79 = .ok (.iconst 2, 1) := by decide +kernel
theorem d_Mod_compact_80 : decode b_Mod_compact 80 = .ok (.if_icmp .ne 9, 3) := by decide +kernel
theorem d_Mod_compact_83 : decode b_Mod_compact 83 = .ok (.sipush 253, 3) := by decide +kernel
theorem d_Mod_compact_86 : decode b_Mod_compact 86 = .ok (.goto 17, 3) := by decide +kernel
theorem d_Mod_compact_89 : decode b_Mod_compact 89 = .ok (.iload_n 3, 1) := by decide +kernel
theorem d_Mod_compact_90 : decode b_Mod_compact 90 = .ok (.iconst 4, 1) := by decide +kernel
theorem d_Mod_compact_91 : decode b_Mod_compact 91 = .ok (.if_icmp .ne 9, 3) := by decide +kernel
theorem d_Mod_compact_94 : decode b_Mod_compact 94 = .ok (.sipush 254, 3) := by decide +kernel
theorem d_Mod_compact_97 : decode b_Mod_compact 97 = .ok (.goto 6, 3) := by decide +kernel
theorem d_Mod_compact_100 : decode b_Mod_compact 100 = .ok (.sipush 255, 3) := by decide +kernel
theorem d_Mod_compact_103 : decode b_Mod_compact 103 = .ok (.iastore, 1) := by decide +kernel
theorem d_Mod_compact_104 : decode b_Mod_compact 104 = .ok (.aload_n 0, 1) := by decide +kernel
theorem d_Mod_compact_105 : decode b_Mod_compact 105 = .ok (.aload_n 0, 1) := by decide +kernel
theorem d_Mod_compact_106 : decode b_Mod_compact 106 = .ok (.getfield 169, 3) := by decide +kernel
theorem d_Mod_compact_109 : decode b_Mod_compact 109 = .ok (.iconst 1, 1) := by decide +kernel
theorem d_Mod_compact_110 : decode b_Mod_compact 110 = .ok (.iadd, 1) := by decide +kernel
theorem d_Mod_compact_111 : decode b_Mod_compact 111 = .ok (.putfield 169, 3) := by decide +kernel
theorem d_Mod_compact_114 : decode b_Mod_compact 114 = .ok (.iload_n 3, 1) := by decide +kernel
theorem d_Mod_compact_115 : decode b_Mod_compact 115 = .ok (.ifCond .le 11, 3) := by decide +kernel
theorem d_Mod_compact_118 : decode b_Mod_compact 118 = .ok (.aload_n 0, 1) := by decide +kernel
theorem d_Mod_compact_119 : decode b_Mod_compact 119 = .ok (.lload_n 1, 1) := by decide +kernel
theorem d_Mod_compact_120 : decode b_Mod_compact 120 = .ok (.iload_n 3, 1) := by decide +kernel
theorem d_Mod_compact_121 : decode b_Mod_compact 121 = .ok (.iconst 1, 1) := by decide +kernel
theorem d_Mod_compact_122 : decode b_Mod_compact 122 = .ok (.invokevirtual 165, 3) := by decide +kernel
theorem d_Mod_compact_125 : decode b_Mod_compact 125 = .ok (.pop, 1) := by decide +kernel
theorem d_Mod_compact_126 : decode b_Mod_compact 126 = .ok (.iconst 1, 1) := by decide +kernel
theorem d_Mod_compact_127 : decode b_Mod_compact 127 = .ok (.ireturn, 1) := by decide +kernel
abbrev b_Mod_read : ByteArray := prog_8_method_21_code
def y_Mod_read : MethodName := ⟨R_Mod, "read", "(Z)I"⟩
theorem d_Mod_read_0 : decode b_Mod_read 0 = .ok (.iconst 0, 1) := by decide +kernel
theorem d_Mod_read_1 : decode b_Mod_read 1 = .ok (.istore_n 2, 1) := by decide +kernel
theorem d_Mod_read_2 : decode b_Mod_read 2 = .ok (.iload_n 2, 1) := by decide +kernel
theorem d_Mod_read_3 : decode b_Mod_read 3 = .ok (.aload_n 0, 1) := by decide +kernel
theorem d_Mod_read_4 : decode b_Mod_read 4 = .ok (.getfield 169, 3) := by decide +kernel
theorem d_Mod_read_7 : decode b_Mod_read 7 = .ok (.if_icmp .ge 21, 3) := by decide +kernel
theorem d_Mod_read_10 : decode b_Mod_read 10 = .ok (.aload_n 0, 1) := by decide +kernel
theorem d_Mod_read_11 : decode b_Mod_read 11 = .ok (.getfield 13, 3) := by decide +kernel
theorem d_Mod_read_14 : decode b_Mod_read 14 = .ok (.iload_n 2, 1) := by decide +kernel
theorem d_Mod_read_15 : decode b_Mod_read 15 = .ok (.aload_n 0, 1) := by decide +kernel
theorem d_Mod_read_16 : decode b_Mod_read 16 = .ok (.getfield 7, 3) := by decide +kernel
theorem d_Mod_read_19 : decode b_Mod_read 19 = .ok (.iload_n 2, 1) := by decide +kernel
theorem d_Mod_read_20 : decode b_Mod_read 20 = .ok (.iaload, 1) := by decide +kernel
theorem d_Mod_read_21 : decode b_Mod_read 21 = .ok (.iastore, 1) := by decide +kernel
theorem d_Mod_read_22 : decode b_Mod_read 22 = .ok (.iinc 2 1, 3) := by decide +kernel
theorem d_Mod_read_25 : decode b_Mod_read 25 = .ok (.goto (-23), 3) := by decide +kernel
theorem d_Mod_read_28 : decode b_Mod_read 28 = .ok (.aload_n 0, 1) := by decide +kernel
theorem d_Mod_read_29 : decode b_Mod_read 29 = .ok (.aload_n 0, 1) := by decide +kernel
theorem d_Mod_read_30 : decode b_Mod_read 30 = .ok (.getfield 169, 3) := by decide +kernel
theorem d_Mod_read_33 : decode b_Mod_read 33 = .ok (.putfield 146, 3) := by decide +kernel
theorem d_Mod_read_36 : decode b_Mod_read 36 = .ok (.aload_n 0, 1) := by decide +kernel
theorem d_Mod_read_37 : decode b_Mod_read 37 = .ok (.iconst 0, 1) := by decide +kernel
theorem d_Mod_read_38 : decode b_Mod_read 38 = .ok (.putfield 169, 3) := by decide +kernel
theorem d_Mod_read_41 : decode b_Mod_read 41 = .ok (.aload_n 0, 1) := by decide +kernel
theorem d_Mod_read_42 : decode b_Mod_read 42 = .ok (.iconst 0, 1) := by decide +kernel
theorem d_Mod_read_43 : decode b_Mod_read 43 = .ok (.putfield 143, 3) := by decide +kernel
theorem d_Mod_read_46 : decode b_Mod_read 46 = .ok (.aload_n 0, 1) := by decide +kernel
theorem d_Mod_read_47 : decode b_Mod_read 47 = .ok (.iconst 0, 1) := by decide +kernel
theorem d_Mod_read_48 : decode b_Mod_read 48 = .ok (.putfield 137, 3) := by decide +kernel
theorem d_Mod_read_51 : decode b_Mod_read 51 = .ok (.aload_n 0, 1) := by decide +kernel
theorem d_Mod_read_52 : decode b_Mod_read 52 = .ok (.iconst (-1), 1) := by decide +kernel
theorem d_Mod_read_53 : decode b_Mod_read 53 = .ok (.putfield 16, 3) := by decide +kernel
theorem d_Mod_read_56 : decode b_Mod_read 56 = .ok (.aload_n 0, 1) := by decide +kernel
theorem d_Mod_read_57 : decode b_Mod_read 57 = .ok (.iload_n 1, 1) := by decide +kernel
theorem d_Mod_read_58 : decode b_Mod_read 58 = .ok (.putfield 172, 3) := by decide +kernel
theorem d_Mod_read_61 : decode b_Mod_read 61 = .ok (.iconst 1, 1) := by decide +kernel
theorem d_Mod_read_62 : decode b_Mod_read 62 = .ok (.istore_n 2, 1) := by decide +kernel
theorem d_Mod_read_63 : decode b_Mod_read 63 = .ok (.iload_n 1, 1) := by decide +kernel
theorem d_Mod_read_64 : decode b_Mod_read 64 = .ok (.ifCond .eq 27, 3) := by decide +kernel
theorem d_Mod_read_67 : decode b_Mod_read 67 = .ok (.aload_n 0, 1) := by decide +kernel
theorem d_Mod_read_68 : decode b_Mod_read 68 = .ok (.bipush 80, 2) := by decide +kernel
theorem d_Mod_read_70 : decode b_Mod_read 70 = .ok (.invokevirtual 153, 3) := by decide +kernel
theorem d_Mod_read_73 : decode b_Mod_read 73 = .ok (.aload_n 0, 1) := by decide +kernel
theorem d_Mod_read_74 : decode b_Mod_read 74 = .ok (.getfield 137, 3) := by decide +kernel
theorem d_Mod_read_77 : decode b_Mod_read 77 = .ok (.ifCond .le 7, 3) := by decide +kernel
theorem d_Mod_read_80 : decode b_Mod_read 80 = .ok (.iconst 0, 1) := by decide +kernel
theorem d_Mod_read_81 : decode b_Mod_read 81 = .ok (.goto 9, 3) := by decide +kernel
theorem d_Mod_read_84 : decode b_Mod_read 84 = .ok (.aload_n 0, 1) := by decide +kernel
theorem d_Mod_read_85 : decode b_Mod_read 85 = .ok (.bipush 12, 2) := by decide +kernel
theorem d_Mod_read_87 : decode b_Mod_read 87 = .ok (.invokevirtual 161, 3) := by decide +kernel
theorem d_Mod_read_90 : decode b_Mod_read 90 = .ok (.istore_n 2, 1) := by decide +kernel
theorem d_Mod_read_91 : decode b_Mod_read 91 = .ok (.iconst 0, 1) := by decide +kernel
theorem d_Mod_read_92 : decode b_Mod_read 92 = .ok (.istore_n 3, 1) := by decide +kernel
theorem d_Mod_read_93 : decode b_Mod_read 93 = .ok (.iload_n 3, 1) := by decide +kernel
theorem d_Mod_read_94 : decode b_Mod_read 94 = .ok (.iload_n 2, 1) := by decide +kernel
theorem d_Mod_read_95 : decode b_Mod_read 95 = .ok (.if_icmp .ge 21, 3) := by decide +kernel
theorem d_Mod_read_98 : decode b_Mod_read 98 = .ok (.aload_n 0, 1) := by decide +kernel
theorem d_Mod_read_99 : decode b_Mod_read 99 = .ok (.getfield 137, 3) := by decide +kernel
theorem d_Mod_read_102 : decode b_Mod_read 102 = .ok (.ifCond .ne 14, 3) := by decide +kernel
theorem d_Mod_read_105 : decode b_Mod_read 105 = .ok (.aload_n 0, 1) := by decide +kernel
theorem d_Mod_read_106 : decode b_Mod_read 106 = .ok (.iload_n 3, 1) := by decide +kernel
theorem d_Mod_read_107 : decode b_Mod_read 107 = .ok (.invokevirtual 175, 3) := by decide +kernel
theorem d_Mod_read_110 : decode b_Mod_read 110 = .ok (.iinc 3 1, 3) := by decide +kernel
theorem d_Mod_read_113 : decode b_Mod_read 113 = .ok (.goto (-20), 3) := by decide +kernel
theorem d_Mod_read_116 : decode b_Mod_read 116 = .ok (.aload_n 0, 1) := by decide +kernel
theorem d_Mod_read_117 : decode b_Mod_read 117 = .ok (.getfield 137, 3) := by decide +kernel
theorem d_Mod_read_120 : decode b_Mod_read 120 = .ok (.ifCond .ne 23, 3) := by decide +kernel
theorem d_Mod_read_123 : decode b_Mod_read 123 = .ok (.aload_n 0, 1) := by decide +kernel
theorem d_Mod_read_124 : decode b_Mod_read 124 = .ok (.getfield 143, 3) := by decide +kernel
theorem d_Mod_read_127 : decode b_Mod_read 127 = .ok (.aload_n 0, 1) := by decide +kernel
theorem d_Mod_read_128 : decode b_Mod_read 128 = .ok (.getfield 146, 3) := by decide +kernel
theorem d_Mod_read_131 : decode b_Mod_read 131 = .ok (.if_icmp .ge 12, 3) := by decide +kernel
theorem d_Mod_read_134 : decode b_Mod_read 134 = .ok (.aload_n 0, 1) := by decide +kernel
theorem d_Mod_read_135 : decode b_Mod_read 135 = .ok (.iconst 4, 1) := by decide +kernel
theorem d_Mod_read_136 : decode b_Mod_read 136 = .ok (.aload_n 0, 1) := by decide +kernel
theorem d_Mod_read_137 : decode b_Mod_read 137 = .ok (.getfield 143, 3) := by decide +kernel
theorem d_Mod_read_140 : decode b_Mod_read 140 = .ok (.invokevirtual 149, 3) := by decide +kernel
theorem d_Mod_read_143 : decode b_Mod_read 143 = .ok (.aload_n 0, 1) := by decide +kernel
theorem d_Mod_read_144 : decode b_Mod_read 144 = .ok (.getfield 137, 3) := by decide +kernel
theorem d_Mod_read_147 : decode b_Mod_read 147 = .ok (.ifCond .le 33, 3) := by decide +kernel
theorem d_Mod_read_150 : decode b_Mod_read 150 = .ok (.aload_n 0, 1) := by decide +kernel
theorem d_Mod_read_151 : decode b_Mod_read 151 = .ok (.aload_n 0, 1) := by decide +kernel
theorem d_Mod_read_152 : decode b_Mod_read 152 = .ok (.getfield 140, 3) := by decide +kernel
theorem d_Mod_read_155 : decode b_Mod_read 155 = .ok (.putfield 16, 3) := by decide +kernel
theorem d_Mod_read_158 : decode b_Mod_read 158 = .ok (.aload_n 0, 1) := by decide +kernel
theorem d_Mod_read_159 : decode b_Mod_read 159 = .ok (.iconst 0, 1) := by decide +kernel
theorem d_Mod_read_160 : decode b_Mod_read 160 = .ok (.putfield 130, 3) := by decide +kernel
theorem d_Mod_read_163 : decode b_Mod_read 163 = .ok (.aload_n 0, 1) := by decide +kernel
theorem d_Mod_read_164 : decode b_Mod_read 164 = .ok (.iconst 0, 1) := by decide +kernel
theorem d_Mod_read_165 : decode b_Mod_read 165 = .ok (.putfield 146, 3) := by decide +kernel
theorem d_Mod_read_168 : decode b_Mod_read 168 = .ok (.aload_n 0, 1) := by decide +kernel
theorem d_Mod_read_169 : decode b_Mod_read 169 = .ok (.iconst 0, 1) := by decide +kernel
theorem d_Mod_read_170 : decode b_Mod_read 170 = .ok (.putfield 172, 3) := by decide +kernel
theorem d_Mod_read_173 : decode b_Mod_read 173 = .ok (.iconst (-1), 1) := by decide +kernel
theorem d_Mod_read_174 : decode b_Mod_read 174 = .ok (.aload_n 0, 1) := by decide +kernel
theorem d_Mod_read_175 : decode b_Mod_read 175 = .ok (.getfield 137, 3) := by decide +kernel
theorem d_Mod_read_178 : decode b_Mod_read 178 = .ok (.isub, 1) := by decide +kernel
theorem d_Mod_read_179 : decode b_Mod_read 179 = .ok (.ireturn, 1) := by decide +kernel
theorem d_Mod_read_180 : decode b_Mod_read 180 = .ok (.aload_n 0, 1) := by decide +kernel
theorem d_Mod_read_181 : decode b_Mod_read 181 = .ok (.iload_n 2, 1) := by decide +kernel
theorem d_Mod_read_182 : decode b_Mod_read 182 = .ok (.putfield 130, 3) := by decide +kernel
theorem d_Mod_read_185 : decode b_Mod_read 185 = .ok (.iconst 0, 1) := by decide +kernel
theorem d_Mod_read_186 : decode b_Mod_read 186 = .ok (.istore_n 3, 1) := by decide +kernel
theorem d_Mod_read_187 : decode b_Mod_read 187 = .ok (.iload_n 3, 1) := by decide +kernel
theorem d_Mod_read_188 : decode b_Mod_read 188 = .ok (.aload_n 0, 1) := by decide +kernel
theorem d_Mod_read_189 : decode b_Mod_read 189 = .ok (.getfield 130, 3) := by decide +kernel
theorem d_Mod_read_192 : decode b_Mod_read 192 = .ok (.if_icmp .ge 26, 3) := by decide +kernel
theorem d_Mod_read_195 : decode b_Mod_read 195 = .ok (.aload_n 0, 1) := by decide +kernel
theorem d_Mod_read_196 : decode b_Mod_read 196 = .ok (.aload_n 0, 1) := by decide +kernel
theorem d_Mod_read_197 : decode b_Mod_read 197 = .ok (.getfield 20, 3) := by decide +kernel
theorem d_Mod_read_200 : decode b_Mod_read 200 = .ok (.iload_n 3, 1) := by decide +kernel
theorem d_Mod_read_201 : decode b_Mod_read 201 = .ok (.iaload, 1) := by decide +kernel
theorem d_Mod_read_202 : decode b_Mod_read 202 = .ok (.aload_n 0, 1) := by decide +kernel
theorem d_Mod_read_203 : decode b_Mod_read 203 = .ok (.getfield 23, 3) := by decide +kernel
theorem d_Mod_read_206 : decode b_Mod_read 206 = .ok (.iload_n 3, 1) := by decide +kernel
theorem d_Mod_read_207 : decode b_Mod_read 207 = .ok (.iaload, 1) := by decide +kernel
theorem d_Mod_read_208 : decode b_Mod_read 208 = .ok (.iload_n 3, 1) := by decide +kernel
theorem d_Mod_read_209 : decode b_Mod_read 209 = .ok (.invokevirtual 178, 3) := by decide +kernel
theorem d_Mod_read_212 : decode b_Mod_read 212 = .ok (.iinc 3 1, 3) := by decide +kernel
theorem d_Mod_read_215 : decode b_Mod_read 215 = .ok (.goto (-28), 3) := by decide +kernel
theorem d_Mod_read_218 : decode b_Mod_read 218 = .ok (.iload_n 1, 1) := by decide +kernel
theorem d_Mod_read_219 : decode b_Mod_read 219 = .ok (.ifCond .eq 16, 3) := by decide +kernel
theorem d_Mod_read_222 : decode b_Mod_read 222 = .ok (.aload_n 0, 1) := by decide +kernel
theorem d_Mod_read_223 : decode b_Mod_read 223 = .ok (.iconst 0, 1) := by decide +kernel
theorem d_Mod_read_224 : decode b_Mod_read 224 = .ok (.bipush 80, 2) := by decide +kernel
theorem d_Mod_read_226 : decode b_Mod_read 226 = .ok (.bipush 12, 2) := by decide +kernel
theorem d_Mod_read_228 : decode b_Mod_read 228 = .ok (.invokevirtual 178, 3) := by decide +kernel
theorem d_Mod_read_231 : decode b_Mod_read 231 = .ok (.aload_n 0, 1) := by decide +kernel
theorem d_Mod_read_232 : decode b_Mod_read 232 = .ok (.invokevirtual 182, 3) := by decide +kernel
theorem d_Mod_read_235 : decode b_Mod_read 235 = .ok (.aload_n 0, 1) := by decide +kernel
theorem d_Mod_read_236 : decode b_Mod_read 236 = .ok (.getfield 130, 3) := by decide +kernel
theorem d_Mod_read_239 : decode b_Mod_read 239 = .ok (.ireturn, 1) := by decide +kernel
abbrev b_Mod_place : ByteArray := prog_8_method_22_code
def y_Mod_place : MethodName := ⟨R_Mod, "place", "()I"⟩
theorem d_Mod_place_0 : decode b_Mod_place 0 = .ok (.aload_n 0, 1) := by decide +kernel
theorem d_Mod_place_1 : decode b_Mod_place 1 = .ok (.getfield 16, 3) := by decide +kernel
theorem d_Mod_place_4 : decode b_Mod_place 4 = .ok (.ireturn, 1) := by decide +kernel
abbrev b_Mod_byteOf : ByteArray := prog_8_method_23_code
def y_Mod_byteOf : MethodName := ⟨R_Mod, "byteOf", "(I)I"⟩
theorem d_Mod_byteOf_0 : decode b_Mod_byteOf 0 = .ok (.iload_n 1, 1) := by decide +kernel
theorem d_Mod_byteOf_1 : decode b_Mod_byteOf 1 = .ok (.ifCond .lt 20, 3) := by decide +kernel
theorem d_Mod_byteOf_4 : decode b_Mod_byteOf 4 = .ok (.iload_n 1, 1) := by decide +kernel
theorem d_Mod_byteOf_5 : decode b_Mod_byteOf 5 = .ok (.aload_n 0, 1) := by decide +kernel
theorem d_Mod_byteOf_6 : decode b_Mod_byteOf 6 = .ok (.getfield 146, 3) := by decide +kernel
theorem d_Mod_byteOf_9 : decode b_Mod_byteOf 9 = .ok (.if_icmp .ge 12, 3) := by decide +kernel
theorem d_Mod_byteOf_12 : decode b_Mod_byteOf 12 = .ok (.aload_n 0, 1) := by decide +kernel
theorem d_Mod_byteOf_13 : decode b_Mod_byteOf 13 = .ok (.getfield 13, 3) := by decide +kernel
theorem d_Mod_byteOf_16 : decode b_Mod_byteOf 16 = .ok (.iload_n 1, 1) := by decide +kernel
theorem d_Mod_byteOf_17 : decode b_Mod_byteOf 17 = .ok (.iaload, 1) := by decide +kernel
theorem d_Mod_byteOf_18 : decode b_Mod_byteOf 18 = .ok (.goto 4, 3) := by decide +kernel
theorem d_Mod_byteOf_21 : decode b_Mod_byteOf 21 = .ok (.iconst (-1), 1) := by decide +kernel
theorem d_Mod_byteOf_22 : decode b_Mod_byteOf 22 = .ok (.ireturn, 1) := by decide +kernel
abbrev b_Mod_head : ByteArray := prog_8_method_24_code
def y_Mod_head : MethodName := ⟨R_Mod, "head", "(I)J"⟩
theorem d_Mod_head_0 : decode b_Mod_head 0 = .ok (.aload_n 0, 1) := by decide +kernel
theorem d_Mod_head_1 : decode b_Mod_head 1 = .ok (.getfield 172, 3) := by decide +kernel
theorem d_Mod_head_4 : decode b_Mod_head 4 = .ok (.ifCond .eq 12, 3) := by decide +kernel
theorem d_Mod_head_7 : decode b_Mod_head 7 = .ok (.iload_n 1, 1) := by decide +kernel
theorem d_Mod_head_8 : decode b_Mod_head 8 = .ok (.ifCond .lt 8, 3) := by decide +kernel
theorem d_Mod_head_11 : decode b_Mod_head 11 = .ok (.iload_n 1, 1) := by decide +kernel
theorem d_Mod_head_12 : decode b_Mod_head 12 = .ok (.iconst 3, 1) := by decide +kernel
theorem d_Mod_head_13 : decode b_Mod_head 13 = .ok (.if_icmp .le 7, 3) := by decide +kernel
theorem d_Mod_head_16 : decode b_Mod_head 16 = .ok (.ldc2_w 185, 3) := by decide +kernel
theorem d_Mod_head_19 : decode b_Mod_head 19 = .ok (.lreturn, 1) := by decide +kernel
theorem d_Mod_head_20 : decode b_Mod_head 20 = .ok (.aload_n 0, 1) := by decide +kernel
theorem d_Mod_head_21 : decode b_Mod_head 21 = .ok (.iload_n 1, 1) := by decide +kernel
theorem d_Mod_head_22 : decode b_Mod_head 22 = .ok (.ifCond .ne 7, 3) := by decide +kernel
theorem d_Mod_head_25 : decode b_Mod_head 25 = .ok (.iconst 0, 1) := by decide +kernel
theorem d_Mod_head_26 : decode b_Mod_head 26 = .ok (.goto 9, 3) := by decide +kernel
theorem d_Mod_head_29 : decode b_Mod_head 29 = .ok (.bipush 64, 2) := by decide +kernel
theorem d_Mod_head_31 : decode b_Mod_head 31 = .ok (.iconst 4, 1) := by decide +kernel
theorem d_Mod_head_32 : decode b_Mod_head 32 = .ok (.iload_n 1, 1) := by decide +kernel
theorem d_Mod_head_33 : decode b_Mod_head 33 = .ok (.imul, 1) := by decide +kernel
theorem d_Mod_head_34 : decode b_Mod_head 34 = .ok (.iadd, 1) := by decide +kernel
theorem d_Mod_head_35 : decode b_Mod_head 35 = .ok (.iconst 4, 1) := by decide +kernel
theorem d_Mod_head_36 : decode b_Mod_head 36 = .ok (.invokevirtual 156, 3) := by decide +kernel
theorem d_Mod_head_39 : decode b_Mod_head 39 = .ok (.lreturn, 1) := by decide +kernel
abbrev b_Mod_isTransaction : ByteArray := prog_8_method_25_code
def y_Mod_isTransaction : MethodName := ⟨R_Mod, "isTransaction", "(I)Z"⟩
theorem d_Mod_isTransaction_0 : decode b_Mod_isTransaction 0 = .ok (.iload_n 1, 1) := by decide +kernel
theorem d_Mod_isTransaction_1 : decode b_Mod_isTransaction 1 = .ok (.ifCond .lt 15, 3) := by decide +kernel
theorem d_Mod_isTransaction_4 : decode b_Mod_isTransaction 4 = .ok (.iload_n 1, 1) := by decide +kernel
theorem d_Mod_isTransaction_5 : decode b_Mod_isTransaction 5 = .ok (.aload_n 0, 1) := by decide +kernel
theorem d_Mod_isTransaction_6 : decode b_Mod_isTransaction 6 = .ok (.getfield 130, 3) := by decide +kernel
theorem d_Mod_isTransaction_9 : decode b_Mod_isTransaction 9 = .ok (.if_icmp .ge 7, 3) := by decide +kernel
theorem d_Mod_isTransaction_12 : decode b_Mod_isTransaction 12 = .ok (.iconst 1, 1) := by decide +kernel
theorem d_Mod_isTransaction_13 : decode b_Mod_isTransaction 13 = .ok (.goto 4, 3) := by decide +kernel
theorem d_Mod_isTransaction_16 : decode b_Mod_isTransaction 16 = .ok (.iconst 0, 1) := by decide +kernel
theorem d_Mod_isTransaction_17 : decode b_Mod_isTransaction 17 = .ok (.ireturn, 1) := by decide +kernel
abbrev b_Mod_look : ByteArray := prog_8_method_26_code
def y_Mod_look : MethodName := ⟨R_Mod, "look", "(II)J"⟩
theorem d_Mod_look_0 : decode b_Mod_look 0 = .ok (.aload_n 0, 1) := by decide +kernel
theorem d_Mod_look_1 : decode b_Mod_look 1 = .ok (.iload_n 1, 1) := by decide +kernel
theorem d_Mod_look_2 : decode b_Mod_look 2 = .ok (.invokevirtual 187, 3) := by decide +kernel
theorem d_Mod_look_5 : decode b_Mod_look 5 = .ok (.ifCond .ne 7, 3) := by decide +kernel
theorem d_Mod_look_8 : decode b_Mod_look 8 = .ok (.ldc2_w 185, 3) := by decide +kernel
theorem d_Mod_look_11 : decode b_Mod_look 11 = .ok (.lreturn, 1) := by decide +kernel
theorem d_Mod_look_12 : decode b_Mod_look 12 = .ok (.iload_n 2, 1) := by decide +kernel
theorem d_Mod_look_13 : decode b_Mod_look 13 = .ok (.tableswitch 104 0 5 #[39, 51, 59, 67, 81, 89], 39) := by decide +kernel
theorem d_Mod_look_52 : decode b_Mod_look 52 = .ok (.aload_n 0, 1) := by decide +kernel
theorem d_Mod_look_53 : decode b_Mod_look 53 = .ok (.aload_n 0, 1) := by decide +kernel
theorem d_Mod_look_54 : decode b_Mod_look 54 = .ok (.getfield 20, 3) := by decide +kernel
theorem d_Mod_look_57 : decode b_Mod_look 57 = .ok (.iload_n 1, 1) := by decide +kernel
theorem d_Mod_look_58 : decode b_Mod_look 58 = .ok (.iaload, 1) := by decide +kernel
theorem d_Mod_look_59 : decode b_Mod_look 59 = .ok (.iconst 4, 1) := by decide +kernel
theorem d_Mod_look_60 : decode b_Mod_look 60 = .ok (.invokevirtual 156, 3) := by decide +kernel
theorem d_Mod_look_63 : decode b_Mod_look 63 = .ok (.lreturn, 1) := by decide +kernel
theorem d_Mod_look_64 : decode b_Mod_look 64 = .ok (.aload_n 0, 1) := by decide +kernel
theorem d_Mod_look_65 : decode b_Mod_look 65 = .ok (.getfield 26, 3) := by decide +kernel
theorem d_Mod_look_68 : decode b_Mod_look 68 = .ok (.iload_n 1, 1) := by decide +kernel
theorem d_Mod_look_69 : decode b_Mod_look 69 = .ok (.iaload, 1) := by decide +kernel
theorem d_Mod_look_70 : decode b_Mod_look 70 = .ok (.i2l, 1) := by decide +kernel
theorem d_Mod_look_71 : decode b_Mod_look 71 = .ok (.lreturn, 1) := by decide +kernel
theorem d_Mod_look_72 : decode b_Mod_look 72 = .ok (.aload_n 0, 1) := by decide +kernel
theorem d_Mod_look_73 : decode b_Mod_look 73 = .ok (.getfield 29, 3) := by decide +kernel
theorem d_Mod_look_76 : decode b_Mod_look 76 = .ok (.iload_n 1, 1) := by decide +kernel
theorem d_Mod_look_77 : decode b_Mod_look 77 = .ok (.iaload, 1) := by decide +kernel
theorem d_Mod_look_78 : decode b_Mod_look 78 = .ok (.i2l, 1) := by decide +kernel
theorem d_Mod_look_79 : decode b_Mod_look 79 = .ok (.lreturn, 1) := by decide +kernel
theorem d_Mod_look_80 : decode b_Mod_look 80 = .ok (.aload_n 0, 1) := by decide +kernel
theorem d_Mod_look_81 : decode b_Mod_look 81 = .ok (.aload_n 0, 1) := by decide +kernel
theorem d_Mod_look_82 : decode b_Mod_look 82 = .ok (.getfield 23, 3) := by decide +kernel
theorem d_Mod_look_85 : decode b_Mod_look 85 = .ok (.iload_n 1, 1) := by decide +kernel
theorem d_Mod_look_86 : decode b_Mod_look 86 = .ok (.iaload, 1) := by decide +kernel
theorem d_Mod_look_87 : decode b_Mod_look 87 = .ok (.iconst 4, 1) := by decide +kernel
theorem d_Mod_look_88 : decode b_Mod_look 88 = .ok (.isub, 1) := by decide +kernel
theorem d_Mod_look_89 : decode b_Mod_look 89 = .ok (.iconst 4, 1) := by decide +kernel
theorem d_Mod_look_90 : decode b_Mod_look 90 = .ok (.invokevirtual 156, 3) := by decide +kernel
theorem d_Mod_look_93 : decode b_Mod_look 93 = .ok (.lreturn, 1) := by decide +kernel
theorem d_Mod_look_94 : decode b_Mod_look 94 = .ok (.aload_n 0, 1) := by decide +kernel
theorem d_Mod_look_95 : decode b_Mod_look 95 = .ok (.getfield 20, 3) := by decide +kernel
theorem d_Mod_look_98 : decode b_Mod_look 98 = .ok (.iload_n 1, 1) := by decide +kernel
theorem d_Mod_look_99 : decode b_Mod_look 99 = .ok (.iaload, 1) := by decide +kernel
theorem d_Mod_look_100 : decode b_Mod_look 100 = .ok (.i2l, 1) := by decide +kernel
theorem d_Mod_look_101 : decode b_Mod_look 101 = .ok (.lreturn, 1) := by decide +kernel
theorem d_Mod_look_102 : decode b_Mod_look 102 = .ok (.aload_n 0, 1) := by decide +kernel
theorem d_Mod_look_103 : decode b_Mod_look 103 = .ok (.getfield 23, 3) := by decide +kernel
theorem d_Mod_look_106 : decode b_Mod_look 106 = .ok (.iload_n 1, 1) := by decide +kernel
theorem d_Mod_look_107 : decode b_Mod_look 107 = .ok (.iaload, 1) := by decide +kernel
theorem d_Mod_look_108 : decode b_Mod_look 108 = .ok (.aload_n 0, 1) := by decide +kernel
theorem d_Mod_look_109 : decode b_Mod_look 109 = .ok (.getfield 20, 3) := by decide +kernel
theorem d_Mod_look_112 : decode b_Mod_look 112 = .ok (.iload_n 1, 1) := by decide +kernel
theorem d_Mod_look_113 : decode b_Mod_look 113 = .ok (.iaload, 1) := by decide +kernel
theorem d_Mod_look_114 : decode b_Mod_look 114 = .ok (.isub, 1) := by decide +kernel
theorem d_Mod_look_115 : decode b_Mod_look 115 = .ok (.i2l, 1) := by decide +kernel
theorem d_Mod_look_116 : decode b_Mod_look 116 = .ok (.lreturn, 1) := by decide +kernel
theorem d_Mod_look_117 : decode b_Mod_look 117 = .ok (.ldc2_w 185, 3) := by decide +kernel
theorem d_Mod_look_120 : decode b_Mod_look 120 = .ok (.lreturn, 1) := by decide +kernel
abbrev b_Mod_input : ByteArray := prog_8_method_27_code
def y_Mod_input : MethodName := ⟨R_Mod, "input", "(III)J"⟩
theorem d_Mod_input_0 : decode b_Mod_input 0 = .ok (.aload_n 0, 1) := by decide +kernel
theorem d_Mod_input_1 : decode b_Mod_input 1 = .ok (.iload_n 1, 1) := by decide +kernel
theorem d_Mod_input_2 : decode b_Mod_input 2 = .ok (.invokevirtual 187, 3) := by decide +kernel
theorem d_Mod_input_5 : decode b_Mod_input 5 = .ok (.ifCond .eq 17, 3) := by decide +kernel
theorem d_Mod_input_8 : decode b_Mod_input 8 = .ok (.iload_n 2, 1) := by decide +kernel
theorem d_Mod_input_9 : decode b_Mod_input 9 = .ok (.ifCond .lt 13, 3) := by decide +kernel
theorem d_Mod_input_12 : decode b_Mod_input 12 = .ok (.iload_n 2, 1) := by decide +kernel
theorem d_Mod_input_13 : decode b_Mod_input 13 = .ok (.aload_n 0, 1) := by decide +kernel
theorem d_Mod_input_14 : decode b_Mod_input 14 = .ok (.getfield 26, 3) := by decide +kernel
theorem d_Mod_input_17 : decode b_Mod_input 17 = .ok (.iload_n 1, 1) := by decide +kernel
theorem d_Mod_input_18 : decode b_Mod_input 18 = .ok (.iaload, 1) := by decide +kernel
theorem d_Mod_input_19 : decode b_Mod_input 19 = .ok (.if_icmp .lt 7, 3) := by decide +kernel
theorem d_Mod_input_22 : decode b_Mod_input 22 = .ok (.ldc2_w 185, 3) := by decide +kernel
theorem d_Mod_input_25 : decode b_Mod_input 25 = .ok (.lreturn, 1) := by decide +kernel
theorem d_Mod_input_26 : decode b_Mod_input 26 = .ok (.bipush 8, 2) := by decide +kernel
theorem d_Mod_input_28 : decode b_Mod_input 28 = .ok (.iload_n 1, 1) := by decide +kernel
theorem d_Mod_input_29 : decode b_Mod_input 29 = .ok (.imul, 1) := by decide +kernel
theorem d_Mod_input_30 : decode b_Mod_input 30 = .ok (.iload_n 2, 1) := by decide +kernel
theorem d_Mod_input_31 : decode b_Mod_input 31 = .ok (.iadd, 1) := by decide +kernel
theorem d_Mod_input_32 : decode b_Mod_input 32 = .ok (.istore 4, 2) := by decide +kernel
theorem d_Mod_input_34 : decode b_Mod_input 34 = .ok (.iload_n 3, 1) := by decide +kernel
theorem d_Mod_input_35 : decode b_Mod_input 35 = .ok (.tableswitch 97 0 4 #[33, 42, 58, 67, 76], 33) := by decide +kernel
theorem d_Mod_input_68 : decode b_Mod_input 68 = .ok (.aload_n 0, 1) := by decide +kernel
theorem d_Mod_input_69 : decode b_Mod_input 69 = .ok (.getfield 32, 3) := by decide +kernel
theorem d_Mod_input_72 : decode b_Mod_input 72 = .ok (.iload 4, 2) := by decide +kernel
theorem d_Mod_input_74 : decode b_Mod_input 74 = .ok (.iaload, 1) := by decide +kernel
theorem d_Mod_input_75 : decode b_Mod_input 75 = .ok (.i2l, 1) := by decide +kernel
theorem d_Mod_input_76 : decode b_Mod_input 76 = .ok (.lreturn, 1) := by decide +kernel
theorem d_Mod_input_77 : decode b_Mod_input 77 = .ok (.aload_n 0, 1) := by decide +kernel
theorem d_Mod_input_78 : decode b_Mod_input 78 = .ok (.aload_n 0, 1) := by decide +kernel
theorem d_Mod_input_79 : decode b_Mod_input 79 = .ok (.getfield 32, 3) := by decide +kernel
theorem d_Mod_input_82 : decode b_Mod_input 82 = .ok (.iload 4, 2) := by decide +kernel
theorem d_Mod_input_84 : decode b_Mod_input 84 = .ok (.iaload, 1) := by decide +kernel
theorem d_Mod_input_85 : decode b_Mod_input 85 = .ok (.bipush 32, 2) := by decide +kernel
theorem d_Mod_input_87 : decode b_Mod_input 87 = .ok (.iadd, 1) := by decide +kernel
theorem d_Mod_input_88 : decode b_Mod_input 88 = .ok (.iconst 4, 1) := by decide +kernel
theorem d_Mod_input_89 : decode b_Mod_input 89 = .ok (.invokevirtual 156, 3) := by decide +kernel
theorem d_Mod_input_92 : decode b_Mod_input 92 = .ok (.lreturn, 1) := by decide +kernel
theorem d_Mod_input_93 : decode b_Mod_input 93 = .ok (.aload_n 0, 1) := by decide +kernel
theorem d_Mod_input_94 : decode b_Mod_input 94 = .ok (.getfield 35, 3) := by decide +kernel
theorem d_Mod_input_97 : decode b_Mod_input 97 = .ok (.iload 4, 2) := by decide +kernel
theorem d_Mod_input_99 : decode b_Mod_input 99 = .ok (.iaload, 1) := by decide +kernel
theorem d_Mod_input_100 : decode b_Mod_input 100 = .ok (.i2l, 1) := by decide +kernel
theorem d_Mod_input_101 : decode b_Mod_input 101 = .ok (.lreturn, 1) := by decide +kernel
theorem d_Mod_input_102 : decode b_Mod_input 102 = .ok (.aload_n 0, 1) := by decide +kernel
theorem d_Mod_input_103 : decode b_Mod_input 103 = .ok (.getfield 38, 3) := by decide +kernel
theorem d_Mod_input_106 : decode b_Mod_input 106 = .ok (.iload 4, 2) := by decide +kernel
theorem d_Mod_input_108 : decode b_Mod_input 108 = .ok (.iaload, 1) := by decide +kernel
theorem d_Mod_input_109 : decode b_Mod_input 109 = .ok (.i2l, 1) := by decide +kernel
theorem d_Mod_input_110 : decode b_Mod_input 110 = .ok (.lreturn, 1) := by decide +kernel
theorem d_Mod_input_111 : decode b_Mod_input 111 = .ok (.aload_n 0, 1) := by decide +kernel
theorem d_Mod_input_112 : decode b_Mod_input 112 = .ok (.aload_n 0, 1) := by decide +kernel
theorem d_Mod_input_113 : decode b_Mod_input 113 = .ok (.getfield 35, 3) := by decide +kernel
theorem d_Mod_input_116 : decode b_Mod_input 116 = .ok (.iload 4, 2) := by decide +kernel
theorem d_Mod_input_118 : decode b_Mod_input 118 = .ok (.iaload, 1) := by decide +kernel
theorem d_Mod_input_119 : decode b_Mod_input 119 = .ok (.aload_n 0, 1) := by decide +kernel
theorem d_Mod_input_120 : decode b_Mod_input 120 = .ok (.getfield 38, 3) := by decide +kernel
theorem d_Mod_input_123 : decode b_Mod_input 123 = .ok (.iload 4, 2) := by decide +kernel
theorem d_Mod_input_125 : decode b_Mod_input 125 = .ok (.iaload, 1) := by decide +kernel
theorem d_Mod_input_126 : decode b_Mod_input 126 = .ok (.iadd, 1) := by decide +kernel
theorem d_Mod_input_127 : decode b_Mod_input 127 = .ok (.iconst 4, 1) := by decide +kernel
theorem d_Mod_input_128 : decode b_Mod_input 128 = .ok (.invokevirtual 156, 3) := by decide +kernel
theorem d_Mod_input_131 : decode b_Mod_input 131 = .ok (.lreturn, 1) := by decide +kernel
theorem d_Mod_input_132 : decode b_Mod_input 132 = .ok (.ldc2_w 185, 3) := by decide +kernel
theorem d_Mod_input_135 : decode b_Mod_input 135 = .ok (.lreturn, 1) := by decide +kernel
abbrev b_Mod_output : ByteArray := prog_8_method_28_code
def y_Mod_output : MethodName := ⟨R_Mod, "output", "(III)J"⟩
theorem d_Mod_output_0 : decode b_Mod_output 0 = .ok (.aload_n 0, 1) := by decide +kernel
theorem d_Mod_output_1 : decode b_Mod_output 1 = .ok (.iload_n 1, 1) := by decide +kernel
theorem d_Mod_output_2 : decode b_Mod_output 2 = .ok (.invokevirtual 187, 3) := by decide +kernel
theorem d_Mod_output_5 : decode b_Mod_output 5 = .ok (.ifCond .eq 17, 3) := by decide +kernel
theorem d_Mod_output_8 : decode b_Mod_output 8 = .ok (.iload_n 2, 1) := by decide +kernel
theorem d_Mod_output_9 : decode b_Mod_output 9 = .ok (.ifCond .lt 13, 3) := by decide +kernel
theorem d_Mod_output_12 : decode b_Mod_output 12 = .ok (.iload_n 2, 1) := by decide +kernel
theorem d_Mod_output_13 : decode b_Mod_output 13 = .ok (.aload_n 0, 1) := by decide +kernel
theorem d_Mod_output_14 : decode b_Mod_output 14 = .ok (.getfield 29, 3) := by decide +kernel
theorem d_Mod_output_17 : decode b_Mod_output 17 = .ok (.iload_n 1, 1) := by decide +kernel
theorem d_Mod_output_18 : decode b_Mod_output 18 = .ok (.iaload, 1) := by decide +kernel
theorem d_Mod_output_19 : decode b_Mod_output 19 = .ok (.if_icmp .lt 7, 3) := by decide +kernel
theorem d_Mod_output_22 : decode b_Mod_output 22 = .ok (.ldc2_w 185, 3) := by decide +kernel
theorem d_Mod_output_25 : decode b_Mod_output 25 = .ok (.lreturn, 1) := by decide +kernel
theorem d_Mod_output_26 : decode b_Mod_output 26 = .ok (.bipush 8, 2) := by decide +kernel
theorem d_Mod_output_28 : decode b_Mod_output 28 = .ok (.iload_n 1, 1) := by decide +kernel
theorem d_Mod_output_29 : decode b_Mod_output 29 = .ok (.imul, 1) := by decide +kernel
theorem d_Mod_output_30 : decode b_Mod_output 30 = .ok (.iload_n 2, 1) := by decide +kernel
theorem d_Mod_output_31 : decode b_Mod_output 31 = .ok (.iadd, 1) := by decide +kernel
theorem d_Mod_output_32 : decode b_Mod_output 32 = .ok (.istore 4, 2) := by decide +kernel
theorem d_Mod_output_34 : decode b_Mod_output 34 = .ok (.iload_n 3, 1) := by decide +kernel
theorem d_Mod_output_35 : decode b_Mod_output 35 = .ok (.tableswitch 57 0 2 #[25, 39, 48], 25) := by decide +kernel
theorem d_Mod_output_60 : decode b_Mod_output 60 = .ok (.aload_n 0, 1) := by decide +kernel
theorem d_Mod_output_61 : decode b_Mod_output 61 = .ok (.aload_n 0, 1) := by decide +kernel
theorem d_Mod_output_62 : decode b_Mod_output 62 = .ok (.getfield 41, 3) := by decide +kernel
theorem d_Mod_output_65 : decode b_Mod_output 65 = .ok (.iload 4, 2) := by decide +kernel
theorem d_Mod_output_67 : decode b_Mod_output 67 = .ok (.iaload, 1) := by decide +kernel
theorem d_Mod_output_68 : decode b_Mod_output 68 = .ok (.bipush 8, 2) := by decide +kernel
theorem d_Mod_output_70 : decode b_Mod_output 70 = .ok (.invokevirtual 156, 3) := by decide +kernel
theorem d_Mod_output_73 : decode b_Mod_output 73 = .ok (.lreturn, 1) := by decide +kernel
theorem d_Mod_output_74 : decode b_Mod_output 74 = .ok (.aload_n 0, 1) := by decide +kernel
theorem d_Mod_output_75 : decode b_Mod_output 75 = .ok (.getfield 44, 3) := by decide +kernel
theorem d_Mod_output_78 : decode b_Mod_output 78 = .ok (.iload 4, 2) := by decide +kernel
theorem d_Mod_output_80 : decode b_Mod_output 80 = .ok (.iaload, 1) := by decide +kernel
theorem d_Mod_output_81 : decode b_Mod_output 81 = .ok (.i2l, 1) := by decide +kernel
theorem d_Mod_output_82 : decode b_Mod_output 82 = .ok (.lreturn, 1) := by decide +kernel
theorem d_Mod_output_83 : decode b_Mod_output 83 = .ok (.aload_n 0, 1) := by decide +kernel
theorem d_Mod_output_84 : decode b_Mod_output 84 = .ok (.getfield 47, 3) := by decide +kernel
theorem d_Mod_output_87 : decode b_Mod_output 87 = .ok (.iload 4, 2) := by decide +kernel
theorem d_Mod_output_89 : decode b_Mod_output 89 = .ok (.iaload, 1) := by decide +kernel
theorem d_Mod_output_90 : decode b_Mod_output 90 = .ok (.i2l, 1) := by decide +kernel
theorem d_Mod_output_91 : decode b_Mod_output 91 = .ok (.lreturn, 1) := by decide +kernel
theorem d_Mod_output_92 : decode b_Mod_output 92 = .ok (.ldc2_w 185, 3) := by decide +kernel
theorem d_Mod_output_95 : decode b_Mod_output 95 = .ok (.lreturn, 1) := by decide +kernel
abbrev b_Mod_name : ByteArray := prog_8_method_29_code
def y_Mod_name : MethodName := ⟨R_Mod, "name", "(II)J"⟩
theorem d_Mod_name_0 : decode b_Mod_name 0 = .ok (.iload_n 2, 1) := by decide +kernel
theorem d_Mod_name_1 : decode b_Mod_name 1 = .ok (.ifCond .lt 36, 3) := by decide +kernel
theorem d_Mod_name_4 : decode b_Mod_name 4 = .ok (.iload_n 2, 1) := by decide +kernel
theorem d_Mod_name_5 : decode b_Mod_name 5 = .ok (.iconst 3, 1) := by decide +kernel
theorem d_Mod_name_6 : decode b_Mod_name 6 = .ok (.if_icmp .gt 31, 3) := by decide +kernel
theorem d_Mod_name_9 : decode b_Mod_name 9 = .ok (.iload_n 1, 1) := by decide +kernel
theorem d_Mod_name_10 : decode b_Mod_name 10 = .ok (.bipush (-3), 2) := by decide +kernel
theorem d_Mod_name_12 : decode b_Mod_name 12 = .ok (.if_icmp .lt 25, 3) := by decide +kernel
theorem d_Mod_name_15 : decode b_Mod_name 15 = .ok (.iload_n 1, 1) := by decide +kernel
theorem d_Mod_name_16 : decode b_Mod_name 16 = .ok (.ifCond .ge 13, 3) := by decide +kernel
theorem d_Mod_name_19 : decode b_Mod_name 19 = .ok (.aload_n 0, 1) := by decide +kernel
theorem d_Mod_name_20 : decode b_Mod_name 20 = .ok (.getfield 172, 3) := by decide +kernel
theorem d_Mod_name_23 : decode b_Mod_name 23 = .ok (.ifCond .ne 16, 3) := by decide +kernel
theorem d_Mod_name_26 : decode b_Mod_name 26 = .ok (.goto 11, 3) := by decide +kernel
theorem d_Mod_name_29 : decode b_Mod_name 29 = .ok (.iload_n 1, 1) := by decide +kernel
theorem d_Mod_name_30 : decode b_Mod_name 30 = .ok (.aload_n 0, 1) := by decide +kernel
theorem d_Mod_name_31 : decode b_Mod_name 31 = .ok (.getfield 130, 3) := by decide +kernel
theorem d_Mod_name_34 : decode b_Mod_name 34 = .ok (.if_icmp .lt 5, 3) := by decide +kernel
theorem d_Mod_name_37 : decode b_Mod_name 37 = .ok (.lconst 0, 1) := by decide +kernel
theorem d_Mod_name_38 : decode b_Mod_name 38 = .ok (.lreturn, 1) := by decide +kernel
theorem d_Mod_name_39 : decode b_Mod_name 39 = .ok (.lconst 0, 1) := by decide +kernel
theorem d_Mod_name_40 : decode b_Mod_name 40 = .ok (.lstore_n 3, 1) := by decide +kernel
theorem d_Mod_name_41 : decode b_Mod_name 41 = .ok (.bipush 8, 2) := by decide +kernel
theorem d_Mod_name_43 : decode b_Mod_name 43 = .ok (.iload_n 2, 1) := by decide +kernel
theorem d_Mod_name_44 : decode b_Mod_name 44 = .ok (.imul, 1) := by decide +kernel
theorem d_Mod_name_45 : decode b_Mod_name 45 = .ok (.istore 5, 2) := by decide +kernel
theorem d_Mod_name_47 : decode b_Mod_name 47 = .ok (.iload 5, 2) := by decide +kernel
theorem d_Mod_name_49 : decode b_Mod_name 49 = .ok (.bipush 8, 2) := by decide +kernel
theorem d_Mod_name_51 : decode b_Mod_name 51 = .ok (.iload_n 2, 1) := by decide +kernel
theorem d_Mod_name_52 : decode b_Mod_name 52 = .ok (.imul, 1) := by decide +kernel
theorem d_Mod_name_53 : decode b_Mod_name 53 = .ok (.bipush 8, 2) := by decide +kernel
theorem d_Mod_name_55 : decode b_Mod_name 55 = .ok (.iadd, 1) := by decide +kernel
theorem d_Mod_name_56 : decode b_Mod_name 56 = .ok (.if_icmp .ge 73, 3) := by decide +kernel
theorem d_Mod_name_59 : decode b_Mod_name 59 = .ok (.lload_n 3, 1) := by decide +kernel
theorem d_Mod_name_60 : decode b_Mod_name 60 = .ok (.bipush 8, 2) := by decide +kernel
theorem d_Mod_name_62 : decode b_Mod_name 62 = .ok (.lshl, 1) := by decide +kernel
theorem d_Mod_name_63 : decode b_Mod_name 63 = .ok (.iload_n 1, 1) := by decide +kernel
theorem d_Mod_name_64 : decode b_Mod_name 64 = .ok (.bipush (-2), 2) := by decide +kernel
theorem d_Mod_name_66 : decode b_Mod_name 66 = .ok (.if_icmp .ne 16, 3) := by decide +kernel
theorem d_Mod_name_69 : decode b_Mod_name 69 = .ok (.aload_n 0, 1) := by decide +kernel
theorem d_Mod_name_70 : decode b_Mod_name 70 = .ok (.getfield 13, 3) := by decide +kernel
theorem d_Mod_name_73 : decode b_Mod_name 73 = .ok (.bipush 36, 2) := by decide +kernel
theorem d_Mod_name_75 : decode b_Mod_name 75 = .ok (.iload 5, 2) := by decide +kernel
theorem d_Mod_name_77 : decode b_Mod_name 77 = .ok (.iadd, 1) := by decide +kernel
theorem d_Mod_name_78 : decode b_Mod_name 78 = .ok (.iaload, 1) := by decide +kernel
theorem d_Mod_name_79 : decode b_Mod_name 79 = .ok (.goto 41, 3) := by decide +kernel
theorem d_Mod_name_82 : decode b_Mod_name 82 = .ok (.iload_n 1, 1) := by decide +kernel
theorem d_Mod_name_83 : decode b_Mod_name 83 = .ok (.bipush (-3), 2) := by decide +kernel
theorem d_Mod_name_85 : decode b_Mod_name 85 = .ok (.if_icmp .ne 13, 3) := by decide +kernel
theorem d_Mod_name_88 : decode b_Mod_name 88 = .ok (.aload_n 0, 1) := by decide +kernel
theorem d_Mod_name_89 : decode b_Mod_name 89 = .ok (.getfield 56, 3) := by decide +kernel
theorem d_Mod_name_92 : decode b_Mod_name 92 = .ok (.iload 5, 2) := by decide +kernel
theorem d_Mod_name_94 : decode b_Mod_name 94 = .ok (.iaload, 1) := by decide +kernel
theorem d_Mod_name_95 : decode b_Mod_name 95 = .ok (.goto 25, 3) := by decide +kernel
theorem d_Mod_name_98 : decode b_Mod_name 98 = .ok (.aload_n 0, 1) := by decide +kernel
theorem d_Mod_name_99 : decode b_Mod_name 99 = .ok (.getfield 50, 3) := by decide +kernel
theorem d_Mod_name_102 : decode b_Mod_name 102 = .ok (.bipush 32, 2) := by decide +kernel
theorem d_Mod_name_104 : decode b_Mod_name 104 = .ok (.iload_n 1, 1) := by decide +kernel
theorem d_Mod_name_105 : decode b_Mod_name 105 = .ok (.iconst (-1), 1) := by decide +kernel
theorem d_Mod_name_106 : decode b_Mod_name 106 = .ok (.if_icmp .ne 8, 3) := by decide +kernel
theorem d_Mod_name_109 : decode b_Mod_name 109 = .ok (.bipush 12, 2) := by decide +kernel
theorem d_Mod_name_111 : decode b_Mod_name 111 = .ok (.goto 4, 3) := by decide +kernel
theorem d_Mod_name_114 : decode b_Mod_name 114 = .ok (.iload_n 1, 1) := by decide +kernel
theorem d_Mod_name_115 : decode b_Mod_name 115 = .ok (.imul, 1) := by decide +kernel
theorem d_Mod_name_116 : decode b_Mod_name 116 = .ok (.iload 5, 2) := by decide +kernel
theorem d_Mod_name_118 : decode b_Mod_name 118 = .ok (.iadd, 1) := by decide +kernel
theorem d_Mod_name_119 : decode b_Mod_name 119 = .ok (.iaload, 1) := by decide +kernel
theorem d_Mod_name_120 : decode b_Mod_name 120 = .ok (.i2l, 1) := by decide +kernel
theorem d_Mod_name_121 : decode b_Mod_name 121 = .ok (.lor, 1) := by decide +kernel
theorem d_Mod_name_122 : decode b_Mod_name 122 = .ok (.lstore_n 3, 1) := by decide +kernel
theorem d_Mod_name_123 : decode b_Mod_name 123 = .ok (.iinc 5 1, 3) := by decide +kernel
theorem d_Mod_name_126 : decode b_Mod_name 126 = .ok (.goto (-79), 3) := by decide +kernel
theorem d_Mod_name_129 : decode b_Mod_name 129 = .ok (.lload_n 3, 1) := by decide +kernel
theorem d_Mod_name_130 : decode b_Mod_name 130 = .ok (.lreturn, 1) := by decide +kernel
abbrev b_Mod_isDoubtful : ByteArray := prog_8_method_30_code
def y_Mod_isDoubtful : MethodName := ⟨R_Mod, "isDoubtful", "()Z"⟩
theorem d_Mod_isDoubtful_0 : decode b_Mod_isDoubtful 0 = .ok (.aload_n 0, 1) := by decide +kernel
theorem d_Mod_isDoubtful_1 : decode b_Mod_isDoubtful 1 = .ok (.getfield 172, 3) := by decide +kernel
theorem d_Mod_isDoubtful_4 : decode b_Mod_isDoubtful 4 = .ok (.ifCond .eq 14, 3) := by decide +kernel
theorem d_Mod_isDoubtful_7 : decode b_Mod_isDoubtful 7 = .ok (.aload_n 0, 1) := by decide +kernel
theorem d_Mod_isDoubtful_8 : decode b_Mod_isDoubtful 8 = .ok (.getfield 133, 3) := by decide +kernel
theorem d_Mod_isDoubtful_11 : decode b_Mod_isDoubtful 11 = .ok (.ifCond .eq 7, 3) := by decide +kernel
theorem d_Mod_isDoubtful_14 : decode b_Mod_isDoubtful 14 = .ok (.iconst 1, 1) := by decide +kernel
theorem d_Mod_isDoubtful_15 : decode b_Mod_isDoubtful 15 = .ok (.goto 4, 3) := by decide +kernel
theorem d_Mod_isDoubtful_18 : decode b_Mod_isDoubtful 18 = .ok (.iconst 0, 1) := by decide +kernel
theorem d_Mod_isDoubtful_19 : decode b_Mod_isDoubtful 19 = .ok (.ireturn, 1) := by decide +kernel
