/-! what stands at each place of the bytecode (out of claim/NAMES.whole.lean.txt) -/
theorem dX8_init_0 : decode cX8_init 0 = .ok (.aload_n 0, 1) := by decide +kernel
theorem dX8_init_1 : decode cX8_init 1 = .ok (.invokespecial 1, 3) := by decide +kernel
theorem dX8_init_4 : decode cX8_init 4 = .ok (.aload_n 0, 1) := by decide +kernel
theorem dX8_init_5 : decode cX8_init 5 = .ok (.bipush 10, 2) := by decide +kernel
theorem dX8_init_7 : decode cX8_init 7 = .ok (.newarray .int, 2) := by decide +kernel
theorem dX8_init_9 : decode cX8_init 9 = .ok (.putfield 7, 3) := by decide +kernel
theorem dX8_init_12 : decode cX8_init 12 = .ok (.aload_n 0, 1) := by decide +kernel
theorem dX8_init_13 : decode cX8_init 13 = .ok (.bipush 10, 2) := by decide +kernel
theorem dX8_init_15 : decode cX8_init 15 = .ok (.newarray .int, 2) := by decide +kernel
theorem dX8_init_17 : decode cX8_init 17 = .ok (.putfield 13, 3) := by decide +kernel
theorem dX8_init_20 : decode cX8_init 20 = .ok (.aload_n 0, 1) := by decide +kernel
theorem dX8_init_21 : decode cX8_init 21 = .ok (.bipush 12, 2) := by decide +kernel
theorem dX8_init_23 : decode cX8_init 23 = .ok (.newarray .int, 2) := by decide +kernel
theorem dX8_init_25 : decode cX8_init 25 = .ok (.putfield 16, 3) := by decide +kernel
theorem dX8_init_28 : decode cX8_init 28 = .ok (.aload_n 0, 1) := by decide +kernel
theorem dX8_init_29 : decode cX8_init 29 = .ok (.bipush 12, 2) := by decide +kernel
theorem dX8_init_31 : decode cX8_init 31 = .ok (.newarray .int, 2) := by decide +kernel
theorem dX8_init_33 : decode cX8_init 33 = .ok (.putfield 19, 3) := by decide +kernel
theorem dX8_init_36 : decode cX8_init 36 = .ok (.aload_n 0, 1) := by decide +kernel
theorem dX8_init_37 : decode cX8_init 37 = .ok (.bipush 120, 2) := by decide +kernel
theorem dX8_init_39 : decode cX8_init 39 = .ok (.newarray .int, 2) := by decide +kernel
theorem dX8_init_41 : decode cX8_init 41 = .ok (.putfield 22, 3) := by decide +kernel
theorem dX8_init_44 : decode cX8_init 44 = .ok (.aload_n 0, 1) := by decide +kernel
theorem dX8_init_45 : decode cX8_init 45 = .ok (.bipush 16, 2) := by decide +kernel
theorem dX8_init_47 : decode cX8_init 47 = .ok (.newarray .int, 2) := by decide +kernel
theorem dX8_init_49 : decode cX8_init 49 = .ok (.putfield 25, 3) := by decide +kernel
theorem dX8_init_52 : decode cX8_init 52 = .ok (.aload_n 0, 1) := by decide +kernel
theorem dX8_init_53 : decode cX8_init 53 = .ok (.bipush 16, 2) := by decide +kernel
theorem dX8_init_55 : decode cX8_init 55 = .ok (.newarray .int, 2) := by decide +kernel
theorem dX8_init_57 : decode cX8_init 57 = .ok (.putfield 28, 3) := by decide +kernel
theorem dX8_init_60 : decode cX8_init 60 = .ok (.aload_n 0, 1) := by decide +kernel
theorem dX8_init_61 : decode cX8_init 61 = .ok (.bipush 16, 2) := by decide +kernel
theorem dX8_init_63 : decode cX8_init 63 = .ok (.newarray .int, 2) := by decide +kernel
theorem dX8_init_65 : decode cX8_init 65 = .ok (.putfield 31, 3) := by decide +kernel
theorem dX8_init_68 : decode cX8_init 68 = .ok (.aload_n 0, 1) := by decide +kernel
theorem dX8_init_69 : decode cX8_init 69 = .ok (.bipush 16, 2) := by decide +kernel
theorem dX8_init_71 : decode cX8_init 71 = .ok (.newarray .boolean, 2) := by decide +kernel
theorem dX8_init_73 : decode cX8_init 73 = .ok (.putfield 34, 3) := by decide +kernel
theorem dX8_init_76 : decode cX8_init 76 = .ok (.aload_n 0, 1) := by decide +kernel
theorem dX8_init_77 : decode cX8_init 77 = .ok (.bipush 16, 2) := by decide +kernel
theorem dX8_init_79 : decode cX8_init 79 = .ok (.newarray .int, 2) := by decide +kernel
theorem dX8_init_81 : decode cX8_init 81 = .ok (.putfield 38, 3) := by decide +kernel
theorem dX8_init_84 : decode cX8_init 84 = .ok (.aload_n 0, 1) := by decide +kernel
theorem dX8_init_85 : decode cX8_init 85 = .ok (.bipush 96, 2) := by decide +kernel
theorem dX8_init_87 : decode cX8_init 87 = .ok (.newarray .int, 2) := by decide +kernel
theorem dX8_init_89 : decode cX8_init 89 = .ok (.putfield 41, 3) := by decide +kernel
theorem dX8_init_92 : decode cX8_init 92 = .ok (.aload_n 0, 1) := by decide +kernel
theorem dX8_init_93 : decode cX8_init 93 = .ok (.bipush 96, 2) := by decide +kernel
theorem dX8_init_95 : decode cX8_init 95 = .ok (.newarray .int, 2) := by decide +kernel
theorem dX8_init_97 : decode cX8_init 97 = .ok (.putfield 44, 3) := by decide +kernel
theorem dX8_init_100 : decode cX8_init 100 = .ok (.aload_n 0, 1) := by decide +kernel
theorem dX8_init_101 : decode cX8_init 101 = .ok (.bipush 96, 2) := by decide +kernel
theorem dX8_init_103 : decode cX8_init 103 = .ok (.newarray .int, 2) := by decide +kernel
theorem dX8_init_105 : decode cX8_init 105 = .ok (.putfield 47, 3) := by decide +kernel
theorem dX8_init_108 : decode cX8_init 108 = .ok (.aload_n 0, 1) := by decide +kernel
theorem dX8_init_109 : decode cX8_init 109 = .ok (.bipush 6, 2) := by decide +kernel
theorem dX8_init_111 : decode cX8_init 111 = .ok (.newarray .int, 2) := by decide +kernel
theorem dX8_init_113 : decode cX8_init 113 = .ok (.dup, 1) := by decide +kernel
theorem dX8_init_114 : decode cX8_init 114 = .ok (.iconst 0, 1) := by decide +kernel
theorem dX8_init_115 : decode cX8_init 115 = .ok (.iconst (-1), 1) := by decide +kernel
theorem dX8_init_116 : decode cX8_init 116 = .ok (.iastore, 1) := by decide +kernel
theorem dX8_init_117 : decode cX8_init 117 = .ok (.dup, 1) := by decide +kernel
theorem dX8_init_118 : decode cX8_init 118 = .ok (.iconst 1, 1) := by decide +kernel
theorem dX8_init_119 : decode cX8_init 119 = .ok (.iconst (-1), 1) := by decide +kernel
theorem dX8_init_120 : decode cX8_init 120 = .ok (.iastore, 1) := by decide +kernel
theorem dX8_init_121 : decode cX8_init 121 = .ok (.dup, 1) := by decide +kernel
theorem dX8_init_122 : decode cX8_init 122 = .ok (.iconst 2, 1) := by decide +kernel
theorem dX8_init_123 : decode cX8_init 123 = .ok (.iconst (-1), 1) := by decide +kernel
theorem dX8_init_124 : decode cX8_init 124 = .ok (.iastore, 1) := by decide +kernel
theorem dX8_init_125 : decode cX8_init 125 = .ok (.dup, 1) := by decide +kernel
theorem dX8_init_126 : decode cX8_init 126 = .ok (.iconst 3, 1) := by decide +kernel
theorem dX8_init_127 : decode cX8_init 127 = .ok (.iconst (-1), 1) := by decide +kernel
theorem dX8_init_128 : decode cX8_init 128 = .ok (.iastore, 1) := by decide +kernel
theorem dX8_init_129 : decode cX8_init 129 = .ok (.dup, 1) := by decide +kernel
theorem dX8_init_130 : decode cX8_init 130 = .ok (.iconst 4, 1) := by decide +kernel
theorem dX8_init_131 : decode cX8_init 131 = .ok (.iconst (-1), 1) := by decide +kernel
theorem dX8_init_132 : decode cX8_init 132 = .ok (.iastore, 1) := by decide +kernel
theorem dX8_init_133 : decode cX8_init 133 = .ok (.dup, 1) := by decide +kernel
theorem dX8_init_134 : decode cX8_init 134 = .ok (.iconst 5, 1) := by decide +kernel
theorem dX8_init_135 : decode cX8_init 135 = .ok (.iconst (-1), 1) := by decide +kernel
theorem dX8_init_136 : decode cX8_init 136 = .ok (.iastore, 1) := by decide +kernel
theorem dX8_init_137 : decode cX8_init 137 = .ok (.putfield 50, 3) := by decide +kernel
theorem dX8_init_140 : decode cX8_init 140 = .ok (.aload_n 0, 1) := by decide +kernel
theorem dX8_init_141 : decode cX8_init 141 = .ok (.sipush 288, 3) := by decide +kernel
theorem dX8_init_144 : decode cX8_init 144 = .ok (.newarray .int, 2) := by decide +kernel
theorem dX8_init_146 : decode cX8_init 146 = .ok (.putfield 53, 3) := by decide +kernel
theorem dX8_init_149 : decode cX8_init 149 = .ok (.aload_n 0, 1) := by decide +kernel
theorem dX8_init_150 : decode cX8_init 150 = .ok (.bipush 40, 2) := by decide +kernel
theorem dX8_init_152 : decode cX8_init 152 = .ok (.newarray .int, 2) := by decide +kernel
theorem dX8_init_154 : decode cX8_init 154 = .ok (.putfield 56, 3) := by decide +kernel
theorem dX8_init_157 : decode cX8_init 157 = .ok (.aload_n 0, 1) := by decide +kernel
theorem dX8_init_158 : decode cX8_init 158 = .ok (.bipush 40, 2) := by decide +kernel
theorem dX8_init_160 : decode cX8_init 160 = .ok (.newarray .int, 2) := by decide +kernel
theorem dX8_init_162 : decode cX8_init 162 = .ok (.putfield 59, 3) := by decide +kernel
theorem dX8_init_165 : decode cX8_init 165 = .ok (.aload_n 0, 1) := by decide +kernel
theorem dX8_init_166 : decode cX8_init 166 = .ok (.sipush 240, 3) := by decide +kernel
theorem dX8_init_169 : decode cX8_init 169 = .ok (.newarray .int, 2) := by decide +kernel
theorem dX8_init_171 : decode cX8_init 171 = .ok (.putfield 62, 3) := by decide +kernel
theorem dX8_init_174 : decode cX8_init 174 = .ok (.aload_n 0, 1) := by decide +kernel
theorem dX8_init_175 : decode cX8_init 175 = .ok (.sipush 240, 3) := by decide +kernel
theorem dX8_init_178 : decode cX8_init 178 = .ok (.newarray .int, 2) := by decide +kernel
theorem dX8_init_180 : decode cX8_init 180 = .ok (.putfield 65, 3) := by decide +kernel
theorem dX8_init_183 : decode cX8_init 183 = .ok (.aload_n 0, 1) := by decide +kernel
theorem dX8_init_184 : decode cX8_init 184 = .ok (.bipush 12, 2) := by decide +kernel
theorem dX8_init_186 : decode cX8_init 186 = .ok (.newarray .int, 2) := by decide +kernel
theorem dX8_init_188 : decode cX8_init 188 = .ok (.putfield 68, 3) := by decide +kernel
theorem dX8_init_191 : decode cX8_init 191 = .ok (.aload_n 0, 1) := by decide +kernel
theorem dX8_init_192 : decode cX8_init 192 = .ok (.bipush (-9), 2) := by decide +kernel
theorem dX8_init_194 : decode cX8_init 194 = .ok (.putfield 71, 3) := by decide +kernel
theorem dX8_init_197 : decode cX8_init 197 = .ok (.aload_n 0, 1) := by decide +kernel
theorem dX8_init_198 : decode cX8_init 198 = .ok (.bipush 10, 2) := by decide +kernel
theorem dX8_init_200 : decode cX8_init 200 = .ok (.newarray .int, 2) := by decide +kernel
theorem dX8_init_202 : decode cX8_init 202 = .ok (.putfield 75, 3) := by decide +kernel
theorem dX8_init_205 : decode cX8_init 205 = .ok (.aload_n 0, 1) := by decide +kernel
theorem dX8_init_206 : decode cX8_init 206 = .ok (.bipush 10, 2) := by decide +kernel
theorem dX8_init_208 : decode cX8_init 208 = .ok (.newarray .int, 2) := by decide +kernel
theorem dX8_init_210 : decode cX8_init 210 = .ok (.putfield 78, 3) := by decide +kernel
theorem dX8_init_213 : decode cX8_init 213 = .ok (.aload_n 0, 1) := by decide +kernel
theorem dX8_init_214 : decode cX8_init 214 = .ok (.bipush 10, 2) := by decide +kernel
theorem dX8_init_216 : decode cX8_init 216 = .ok (.newarray .int, 2) := by decide +kernel
theorem dX8_init_218 : decode cX8_init 218 = .ok (.putfield 81, 3) := by decide +kernel
theorem dX8_init_221 : decode cX8_init 221 = .ok (.aload_n 0, 1) := by decide +kernel
theorem dX8_init_222 : decode cX8_init 222 = .ok (.bipush 48, 2) := by decide +kernel
theorem dX8_init_224 : decode cX8_init 224 = .ok (.newarray .int, 2) := by decide +kernel
theorem dX8_init_226 : decode cX8_init 226 = .ok (.putfield 84, 3) := by decide +kernel
theorem dX8_init_229 : decode cX8_init 229 = .ok (.aload_n 0, 1) := by decide +kernel
theorem dX8_init_230 : decode cX8_init 230 = .ok (.bipush 10, 2) := by decide +kernel
theorem dX8_init_232 : decode cX8_init 232 = .ok (.newarray .int, 2) := by decide +kernel
theorem dX8_init_234 : decode cX8_init 234 = .ok (.putfield 87, 3) := by decide +kernel
theorem dX8_init_237 : decode cX8_init 237 = .ok (.return_, 1) := by decide +kernel
theorem dX8_in_0 : decode cX8_in 0 = .ok (.lload_n 0, 1) := by decide +kernel
theorem dX8_in_1 : decode cX8_in 1 = .ok (.lload_n 2, 1) := by decide +kernel
theorem dX8_in_2 : decode cX8_in 2 = .ok (.lcmp, 1) := by decide +kernel
theorem dX8_in_3 : decode cX8_in 3 = .ok (.ifCond .lt 14, 3) := by decide +kernel
theorem dX8_in_6 : decode cX8_in 6 = .ok (.lload_n 0, 1) := by decide +kernel
theorem dX8_in_7 : decode cX8_in 7 = .ok (.lload 4, 2) := by decide +kernel
theorem dX8_in_9 : decode cX8_in 9 = .ok (.lcmp, 1) := by decide +kernel
theorem dX8_in_10 : decode cX8_in 10 = .ok (.ifCond .gt 7, 3) := by decide +kernel
theorem dX8_in_13 : decode cX8_in 13 = .ok (.iconst 1, 1) := by decide +kernel
theorem dX8_in_14 : decode cX8_in 14 = .ok (.goto 4, 3) := by decide +kernel
theorem dX8_in_17 : decode cX8_in 17 = .ok (.iconst 0, 1) := by decide +kernel
theorem dX8_in_18 : decode cX8_in 18 = .ok (.ireturn, 1) := by decide +kernel
theorem dX8_noUnknown_0 : decode cX8_noUnknown 0 = .ok (.iload_n 1, 1) := by decide +kernel
theorem dX8_noUnknown_1 : decode cX8_noUnknown 1 = .ok (.i2l, 1) := by decide +kernel
theorem dX8_noUnknown_2 : decode cX8_noUnknown 2 = .ok (.lconst 0, 1) := by decide +kernel
theorem dX8_noUnknown_3 : decode cX8_noUnknown 3 = .ok (.aload_n 0, 1) := by decide +kernel
theorem dX8_noUnknown_4 : decode cX8_noUnknown 4 = .ok (.getfield 93, 3) := by decide +kernel
theorem dX8_noUnknown_7 : decode cX8_noUnknown 7 = .ok (.iconst 1, 1) := by decide +kernel
theorem dX8_noUnknown_8 : decode cX8_noUnknown 8 = .ok (.isub, 1) := by decide +kernel
theorem dX8_noUnknown_9 : decode cX8_noUnknown 9 = .ok (.i2l, 1) := by decide +kernel
theorem dX8_noUnknown_10 : decode cX8_noUnknown 10 = .ok (.invokestatic 96, 3) := by decide +kernel
theorem dX8_noUnknown_13 : decode cX8_noUnknown 13 = .ok (.ifCond .ne 7, 3) := by decide +kernel
theorem dX8_noUnknown_16 : decode cX8_noUnknown 16 = .ok (.iconst 1, 1) := by decide +kernel
theorem dX8_noUnknown_17 : decode cX8_noUnknown 17 = .ok (.goto 4, 3) := by decide +kernel
theorem dX8_noUnknown_20 : decode cX8_noUnknown 20 = .ok (.iconst 0, 1) := by decide +kernel
theorem dX8_noUnknown_21 : decode cX8_noUnknown 21 = .ok (.ireturn, 1) := by decide +kernel
theorem dX8_noRule_0 : decode cX8_noRule 0 = .ok (.iload_n 1, 1) := by decide +kernel
theorem dX8_noRule_1 : decode cX8_noRule 1 = .ok (.i2l, 1) := by decide +kernel
theorem dX8_noRule_2 : decode cX8_noRule 2 = .ok (.lconst 0, 1) := by decide +kernel
theorem dX8_noRule_3 : decode cX8_noRule 3 = .ok (.aload_n 0, 1) := by decide +kernel
theorem dX8_noRule_4 : decode cX8_noRule 4 = .ok (.getfield 100, 3) := by decide +kernel
theorem dX8_noRule_7 : decode cX8_noRule 7 = .ok (.iconst 1, 1) := by decide +kernel
theorem dX8_noRule_8 : decode cX8_noRule 8 = .ok (.isub, 1) := by decide +kernel
theorem dX8_noRule_9 : decode cX8_noRule 9 = .ok (.i2l, 1) := by decide +kernel
theorem dX8_noRule_10 : decode cX8_noRule 10 = .ok (.invokestatic 96, 3) := by decide +kernel
theorem dX8_noRule_13 : decode cX8_noRule 13 = .ok (.ifCond .ne 7, 3) := by decide +kernel
theorem dX8_noRule_16 : decode cX8_noRule 16 = .ok (.iconst 1, 1) := by decide +kernel
theorem dX8_noRule_17 : decode cX8_noRule 17 = .ok (.goto 4, 3) := by decide +kernel
theorem dX8_noRule_20 : decode cX8_noRule 20 = .ok (.iconst 0, 1) := by decide +kernel
theorem dX8_noRule_21 : decode cX8_noRule 21 = .ok (.ireturn, 1) := by decide +kernel
theorem dX8_finds_0 : decode cX8_finds 0 = .ok (.aload_n 0, 1) := by decide +kernel
theorem dX8_finds_1 : decode cX8_finds 1 = .ok (.dup, 1) := by decide +kernel
theorem dX8_finds_2 : decode cX8_finds 2 = .ok (.getfield 103, 3) := by decide +kernel
theorem dX8_finds_5 : decode cX8_finds 5 = .ok (.iconst 1, 1) := by decide +kernel
theorem dX8_finds_6 : decode cX8_finds 6 = .ok (.iadd, 1) := by decide +kernel
theorem dX8_finds_7 : decode cX8_finds 7 = .ok (.putfield 103, 3) := by decide +kernel
theorem dX8_finds_10 : decode cX8_finds 10 = .ok (.iload_n 1, 1) := by decide +kernel
theorem dX8_finds_11 : decode cX8_finds 11 = .ok (.ireturn, 1) := by decide +kernel
theorem dX8_bits_0 : decode cX8_bits 0 = .ok (.iload_n 0, 1) := by decide +kernel
theorem dX8_bits_1 : decode cX8_bits 1 = .ok (.tableswitch 51 0 2 #[27, 35, 44], 27) := by decide +kernel
theorem dX8_bits_28 : decode cX8_bits 28 = .ok (.iconst 1, 1) := by decide +kernel
theorem dX8_bits_29 : decode cX8_bits 29 = .ok (.iload_n 1, 1) := by decide +kernel
theorem dX8_bits_30 : decode cX8_bits 30 = .ok (.iconst 1, 1) := by decide +kernel
theorem dX8_bits_31 : decode cX8_bits 31 = .ok (.iadd, 1) := by decide +kernel
theorem dX8_bits_32 : decode cX8_bits 32 = .ok (.ishl, 1) := by decide +kernel
theorem dX8_bits_33 : decode cX8_bits 33 = .ok (.iconst 1, 1) := by decide +kernel
theorem dX8_bits_34 : decode cX8_bits 34 = .ok (.isub, 1) := by decide +kernel
theorem dX8_bits_35 : decode cX8_bits 35 = .ok (.ireturn, 1) := by decide +kernel
theorem dX8_bits_36 : decode cX8_bits 36 = .ok (.ldc 106, 2) := by decide +kernel
theorem dX8_bits_38 : decode cX8_bits 38 = .ok (.iconst 1, 1) := by decide +kernel
theorem dX8_bits_39 : decode cX8_bits 39 = .ok (.iload_n 1, 1) := by decide +kernel
theorem dX8_bits_40 : decode cX8_bits 40 = .ok (.ishl, 1) := by decide +kernel
theorem dX8_bits_41 : decode cX8_bits 41 = .ok (.isub, 1) := by decide +kernel
theorem dX8_bits_42 : decode cX8_bits 42 = .ok (.iconst 1, 1) := by decide +kernel
theorem dX8_bits_43 : decode cX8_bits 43 = .ok (.iadd, 1) := by decide +kernel
theorem dX8_bits_44 : decode cX8_bits 44 = .ok (.ireturn, 1) := by decide +kernel
theorem dX8_bits_45 : decode cX8_bits 45 = .ok (.ldc 106, 2) := by decide +kernel
theorem dX8_bits_47 : decode cX8_bits 47 = .ok (.iconst 1, 1) := by decide +kernel
theorem dX8_bits_48 : decode cX8_bits 48 = .ok (.iload_n 1, 1) := by decide +kernel
theorem dX8_bits_49 : decode cX8_bits 49 = .ok (.ishl, 1) := by decide +kernel
theorem dX8_bits_50 : decode cX8_bits 50 = .ok (.isub, 1) := by decide +kernel
theorem dX8_bits_51 : decode cX8_bits 51 = .ok (.ireturn, 1) := by decide +kernel
theorem dX8_bits_52 : decode cX8_bits 52 = .ok (.iconst 1, 1) := by decide +kernel
theorem dX8_bits_53 : decode cX8_bits 53 = .ok (.iload_n 1, 1) := by decide +kernel
theorem dX8_bits_54 : decode cX8_bits 54 = .ok (.ishl, 1) := by decide +kernel
theorem dX8_bits_55 : decode cX8_bits 55 = .ok (.ireturn, 1) := by decide +kernel
theorem dX8_many_0 : decode cX8_many 0 = .ok (.iconst 0, 1) := by decide +kernel
theorem dX8_many_1 : decode cX8_many 1 = .ok (.istore_n 1, 1) := by decide +kernel
theorem dX8_many_2 : decode cX8_many 2 = .ok (.iconst 0, 1) := by decide +kernel
theorem dX8_many_3 : decode cX8_many 3 = .ok (.istore_n 2, 1) := by decide +kernel
theorem dX8_many_4 : decode cX8_many 4 = .ok (.iload_n 2, 1) := by decide +kernel
theorem dX8_many_5 : decode cX8_many 5 = .ok (.bipush 16, 2) := by decide +kernel
theorem dX8_many_7 : decode cX8_many 7 = .ok (.if_icmp .ge 17, 3) := by decide +kernel
theorem dX8_many_10 : decode cX8_many 10 = .ok (.iload_n 1, 1) := by decide +kernel
theorem dX8_many_11 : decode cX8_many 11 = .ok (.iload_n 0, 1) := by decide +kernel
theorem dX8_many_12 : decode cX8_many 12 = .ok (.iload_n 2, 1) := by decide +kernel
theorem dX8_many_13 : decode cX8_many 13 = .ok (.ishr, 1) := by decide +kernel
theorem dX8_many_14 : decode cX8_many 14 = .ok (.iconst 1, 1) := by decide +kernel
theorem dX8_many_15 : decode cX8_many 15 = .ok (.iand, 1) := by decide +kernel
theorem dX8_many_16 : decode cX8_many 16 = .ok (.iadd, 1) := by decide +kernel
theorem dX8_many_17 : decode cX8_many 17 = .ok (.istore_n 1, 1) := by decide +kernel
theorem dX8_many_18 : decode cX8_many 18 = .ok (.iinc 2 1, 3) := by decide +kernel
theorem dX8_many_21 : decode cX8_many 21 = .ok (.goto (-17), 3) := by decide +kernel
theorem dX8_many_24 : decode cX8_many 24 = .ok (.iload_n 1, 1) := by decide +kernel
theorem dX8_many_25 : decode cX8_many 25 = .ok (.ireturn, 1) := by decide +kernel
theorem dX8_least_0 : decode cX8_least 0 = .ok (.iconst 0, 1) := by decide +kernel
theorem dX8_least_1 : decode cX8_least 1 = .ok (.istore_n 1, 1) := by decide +kernel
theorem dX8_least_2 : decode cX8_least 2 = .ok (.iload_n 1, 1) := by decide +kernel
theorem dX8_least_3 : decode cX8_least 3 = .ok (.bipush 16, 2) := by decide +kernel
theorem dX8_least_5 : decode cX8_least 5 = .ok (.if_icmp .ge 17, 3) := by decide +kernel
theorem dX8_least_8 : decode cX8_least 8 = .ok (.iload_n 0, 1) := by decide +kernel
theorem dX8_least_9 : decode cX8_least 9 = .ok (.iload_n 1, 1) := by decide +kernel
theorem dX8_least_10 : decode cX8_least 10 = .ok (.ishr, 1) := by decide +kernel
theorem dX8_least_11 : decode cX8_least 11 = .ok (.iconst 1, 1) := by decide +kernel
theorem dX8_least_12 : decode cX8_least 12 = .ok (.iand, 1) := by decide +kernel
theorem dX8_least_13 : decode cX8_least 13 = .ok (.ifCond .ne 9, 3) := by decide +kernel
theorem dX8_least_16 : decode cX8_least 16 = .ok (.iinc 1 1, 3) := by decide +kernel
theorem dX8_least_19 : decode cX8_least 19 = .ok (.goto (-17), 3) := by decide +kernel
theorem dX8_least_22 : decode cX8_least 22 = .ok (.iload_n 1, 1) := by decide +kernel
theorem dX8_least_23 : decode cX8_least 23 = .ok (.ireturn, 1) := by decide +kernel
theorem dX8_greatest_0 : decode cX8_greatest 0 = .ok (.bipush 15, 2) := by decide +kernel
theorem dX8_greatest_2 : decode cX8_greatest 2 = .ok (.istore_n 1, 1) := by decide +kernel
theorem dX8_greatest_3 : decode cX8_greatest 3 = .ok (.iload_n 1, 1) := by decide +kernel
theorem dX8_greatest_4 : decode cX8_greatest 4 = .ok (.ifCond .lt 17, 3) := by decide +kernel
theorem dX8_greatest_7 : decode cX8_greatest 7 = .ok (.iload_n 0, 1) := by decide +kernel
theorem dX8_greatest_8 : decode cX8_greatest 8 = .ok (.iload_n 1, 1) := by decide +kernel
theorem dX8_greatest_9 : decode cX8_greatest 9 = .ok (.ishr, 1) := by decide +kernel
theorem dX8_greatest_10 : decode cX8_greatest 10 = .ok (.iconst 1, 1) := by decide +kernel
theorem dX8_greatest_11 : decode cX8_greatest 11 = .ok (.iand, 1) := by decide +kernel
theorem dX8_greatest_12 : decode cX8_greatest 12 = .ok (.ifCond .ne 9, 3) := by decide +kernel
theorem dX8_greatest_15 : decode cX8_greatest 15 = .ok (.iinc 1 (-1), 3) := by decide +kernel
theorem dX8_greatest_18 : decode cX8_greatest 18 = .ok (.goto (-15), 3) := by decide +kernel
theorem dX8_greatest_21 : decode cX8_greatest 21 = .ok (.iload_n 1, 1) := by decide +kernel
theorem dX8_greatest_22 : decode cX8_greatest 22 = .ok (.ireturn, 1) := by decide +kernel
theorem dX8_asTold_0 : decode cX8_asTold 0 = .ok (.iconst 0, 1) := by decide +kernel
theorem dX8_asTold_1 : decode cX8_asTold 1 = .ok (.istore_n 1, 1) := by decide +kernel
theorem dX8_asTold_2 : decode cX8_asTold 2 = .ok (.iload_n 1, 1) := by decide +kernel
theorem dX8_asTold_3 : decode cX8_asTold 3 = .ok (.aload_n 0, 1) := by decide +kernel
theorem dX8_asTold_4 : decode cX8_asTold 4 = .ok (.getfield 93, 3) := by decide +kernel
theorem dX8_asTold_7 : decode cX8_asTold 7 = .ok (.if_icmp .ge 21, 3) := by decide +kernel
theorem dX8_asTold_10 : decode cX8_asTold 10 = .ok (.aload_n 0, 1) := by decide +kernel
theorem dX8_asTold_11 : decode cX8_asTold 11 = .ok (.getfield 13, 3) := by decide +kernel
theorem dX8_asTold_14 : decode cX8_asTold 14 = .ok (.iload_n 1, 1) := by decide +kernel
theorem dX8_asTold_15 : decode cX8_asTold 15 = .ok (.aload_n 0, 1) := by decide +kernel
theorem dX8_asTold_16 : decode cX8_asTold 16 = .ok (.getfield 7, 3) := by decide +kernel
theorem dX8_asTold_19 : decode cX8_asTold 19 = .ok (.iload_n 1, 1) := by decide +kernel
theorem dX8_asTold_20 : decode cX8_asTold 20 = .ok (.iaload, 1) := by decide +kernel
theorem dX8_asTold_21 : decode cX8_asTold 21 = .ok (.iastore, 1) := by decide +kernel
theorem dX8_asTold_22 : decode cX8_asTold 22 = .ok (.iinc 1 1, 3) := by decide +kernel
theorem dX8_asTold_25 : decode cX8_asTold 25 = .ok (.goto (-23), 3) := by decide +kernel
theorem dX8_asTold_28 : decode cX8_asTold 28 = .ok (.return_, 1) := by decide +kernel
theorem dX8_unknown_0 : decode cX8_unknown 0 = .ok (.aload_n 0, 1) := by decide +kernel
theorem dX8_unknown_1 : decode cX8_unknown 1 = .ok (.iconst 0, 1) := by decide +kernel
theorem dX8_unknown_2 : decode cX8_unknown 2 = .ok (.putfield 90, 3) := by decide +kernel
theorem dX8_unknown_5 : decode cX8_unknown 5 = .ok (.iload_n 1, 1) := by decide +kernel
theorem dX8_unknown_6 : decode cX8_unknown 6 = .ok (.i2l, 1) := by decide +kernel
theorem dX8_unknown_7 : decode cX8_unknown 7 = .ok (.lconst 0, 1) := by decide +kernel
theorem dX8_unknown_8 : decode cX8_unknown 8 = .ok (.ldc2_w 107, 3) := by decide +kernel
theorem dX8_unknown_11 : decode cX8_unknown 11 = .ok (.invokestatic 96, 3) := by decide +kernel
theorem dX8_unknown_14 : decode cX8_unknown 14 = .ok (.ifCond .eq 20, 3) := by decide +kernel
theorem dX8_unknown_17 : decode cX8_unknown 17 = .ok (.iload_n 2, 1) := by decide +kernel
theorem dX8_unknown_18 : decode cX8_unknown 18 = .ok (.i2l, 1) := by decide +kernel
theorem dX8_unknown_19 : decode cX8_unknown 19 = .ok (.lconst 0, 1) := by decide +kernel
theorem dX8_unknown_20 : decode cX8_unknown 20 = .ok (.ldc2_w 107, 3) := by decide +kernel
theorem dX8_unknown_23 : decode cX8_unknown 23 = .ok (.invokestatic 96, 3) := by decide +kernel
theorem dX8_unknown_26 : decode cX8_unknown 26 = .ok (.ifCond .eq 8, 3) := by decide +kernel
theorem dX8_unknown_29 : decode cX8_unknown 29 = .ok (.iload_n 1, 1) := by decide +kernel
theorem dX8_unknown_30 : decode cX8_unknown 30 = .ok (.iload_n 2, 1) := by decide +kernel
theorem dX8_unknown_31 : decode cX8_unknown 31 = .ok (.if_icmp .le 6, 3) := by decide +kernel
theorem dX8_unknown_34 : decode cX8_unknown 34 = .ok (.bipush (-2), 2) := by decide +kernel
theorem dX8_unknown_36 : decode cX8_unknown 36 = .ok (.ireturn, 1) := by decide +kernel
theorem dX8_unknown_37 : decode cX8_unknown 37 = .ok (.aload_n 0, 1) := by decide +kernel
theorem dX8_unknown_38 : decode cX8_unknown 38 = .ok (.getfield 109, 3) := by decide +kernel
theorem dX8_unknown_41 : decode cX8_unknown 41 = .ok (.ifCond .le 6, 3) := by decide +kernel
theorem dX8_unknown_44 : decode cX8_unknown 44 = .ok (.bipush (-3), 2) := by decide +kernel
theorem dX8_unknown_46 : decode cX8_unknown 46 = .ok (.ireturn, 1) := by decide +kernel
theorem dX8_unknown_47 : decode cX8_unknown 47 = .ok (.aload_n 0, 1) := by decide +kernel
theorem dX8_unknown_48 : decode cX8_unknown 48 = .ok (.getfield 93, 3) := by decide +kernel
theorem dX8_unknown_51 : decode cX8_unknown 51 = .ok (.bipush 10, 2) := by decide +kernel
theorem dX8_unknown_53 : decode cX8_unknown 53 = .ok (.if_icmp .ne 6, 3) := by decide +kernel
theorem dX8_unknown_56 : decode cX8_unknown 56 = .ok (.bipush (-4), 2) := by decide +kernel
theorem dX8_unknown_58 : decode cX8_unknown 58 = .ok (.ireturn, 1) := by decide +kernel
theorem dX8_unknown_59 : decode cX8_unknown 59 = .ok (.aload_n 0, 1) := by decide +kernel
theorem dX8_unknown_60 : decode cX8_unknown 60 = .ok (.getfield 7, 3) := by decide +kernel
theorem dX8_unknown_63 : decode cX8_unknown 63 = .ok (.aload_n 0, 1) := by decide +kernel
theorem dX8_unknown_64 : decode cX8_unknown 64 = .ok (.getfield 93, 3) := by decide +kernel
theorem dX8_unknown_67 : decode cX8_unknown 67 = .ok (.iconst 0, 1) := by decide +kernel
theorem dX8_unknown_68 : decode cX8_unknown 68 = .ok (.iload_n 2, 1) := by decide +kernel
theorem dX8_unknown_69 : decode cX8_unknown 69 = .ok (.invokestatic 112, 3) := by decide +kernel
theorem dX8_unknown_72 : decode cX8_unknown 72 = .ok (.iconst 1, 1) := by decide +kernel
theorem dX8_unknown_73 : decode cX8_unknown 73 = .ok (.iload_n 1, 1) := by decide +kernel
theorem dX8_unknown_74 : decode cX8_unknown 74 = .ok (.invokestatic 112, 3) := by decide +kernel
theorem dX8_unknown_77 : decode cX8_unknown 77 = .ok (.iand, 1) := by decide +kernel
theorem dX8_unknown_78 : decode cX8_unknown 78 = .ok (.iastore, 1) := by decide +kernel
theorem dX8_unknown_79 : decode cX8_unknown 79 = .ok (.aload_n 0, 1) := by decide +kernel
theorem dX8_unknown_80 : decode cX8_unknown 80 = .ok (.dup, 1) := by decide +kernel
theorem dX8_unknown_81 : decode cX8_unknown 81 = .ok (.getfield 93, 3) := by decide +kernel
theorem dX8_unknown_84 : decode cX8_unknown 84 = .ok (.iconst 1, 1) := by decide +kernel
theorem dX8_unknown_85 : decode cX8_unknown 85 = .ok (.iadd, 1) := by decide +kernel
theorem dX8_unknown_86 : decode cX8_unknown 86 = .ok (.putfield 93, 3) := by decide +kernel
theorem dX8_unknown_89 : decode cX8_unknown 89 = .ok (.aload_n 0, 1) := by decide +kernel
theorem dX8_unknown_90 : decode cX8_unknown 90 = .ok (.invokevirtual 116, 3) := by decide +kernel
theorem dX8_unknown_93 : decode cX8_unknown 93 = .ok (.aload_n 0, 1) := by decide +kernel
theorem dX8_unknown_94 : decode cX8_unknown 94 = .ok (.getfield 93, 3) := by decide +kernel
theorem dX8_unknown_97 : decode cX8_unknown 97 = .ok (.iconst 1, 1) := by decide +kernel
theorem dX8_unknown_98 : decode cX8_unknown 98 = .ok (.isub, 1) := by decide +kernel
theorem dX8_unknown_99 : decode cX8_unknown 99 = .ok (.ireturn, 1) := by decide +kernel
theorem dX8_hole_0 : decode cX8_hole 0 = .ok (.aload_n 0, 1) := by decide +kernel
theorem dX8_hole_1 : decode cX8_hole 1 = .ok (.iconst 0, 1) := by decide +kernel
theorem dX8_hole_2 : decode cX8_hole 2 = .ok (.putfield 90, 3) := by decide +kernel
theorem dX8_hole_5 : decode cX8_hole 5 = .ok (.aload_n 0, 1) := by decide +kernel
theorem dX8_hole_6 : decode cX8_hole 6 = .ok (.iload_n 1, 1) := by decide +kernel
theorem dX8_hole_7 : decode cX8_hole 7 = .ok (.invokevirtual 119, 3) := by decide +kernel
theorem dX8_hole_10 : decode cX8_hole 10 = .ok (.ifCond .eq 5, 3) := by decide +kernel
theorem dX8_hole_13 : decode cX8_hole 13 = .ok (.iconst (-1), 1) := by decide +kernel
theorem dX8_hole_14 : decode cX8_hole 14 = .ok (.ireturn, 1) := by decide +kernel
theorem dX8_hole_15 : decode cX8_hole 15 = .ok (.iload_n 2, 1) := by decide +kernel
theorem dX8_hole_16 : decode cX8_hole 16 = .ok (.i2l, 1) := by decide +kernel
theorem dX8_hole_17 : decode cX8_hole 17 = .ok (.lconst 0, 1) := by decide +kernel
theorem dX8_hole_18 : decode cX8_hole 18 = .ok (.ldc2_w 107, 3) := by decide +kernel
theorem dX8_hole_21 : decode cX8_hole 21 = .ok (.invokestatic 96, 3) := by decide +kernel
theorem dX8_hole_24 : decode cX8_hole 24 = .ok (.ifCond .ne 6, 3) := by decide +kernel
theorem dX8_hole_27 : decode cX8_hole 27 = .ok (.bipush (-2), 2) := by decide +kernel
theorem dX8_hole_29 : decode cX8_hole 29 = .ok (.ireturn, 1) := by decide +kernel
theorem dX8_hole_30 : decode cX8_hole 30 = .ok (.aload_n 0, 1) := by decide +kernel
theorem dX8_hole_31 : decode cX8_hole 31 = .ok (.getfield 109, 3) := by decide +kernel
theorem dX8_hole_34 : decode cX8_hole 34 = .ok (.ifCond .gt 28, 3) := by decide +kernel
theorem dX8_hole_37 : decode cX8_hole 37 = .ok (.aload_n 0, 1) := by decide +kernel
theorem dX8_hole_38 : decode cX8_hole 38 = .ok (.getfield 7, 3) := by decide +kernel
theorem dX8_hole_41 : decode cX8_hole 41 = .ok (.iload_n 1, 1) := by decide +kernel
theorem dX8_hole_42 : decode cX8_hole 42 = .ok (.iaload, 1) := by decide +kernel
theorem dX8_hole_43 : decode cX8_hole 43 = .ok (.iload_n 2, 1) := by decide +kernel
theorem dX8_hole_44 : decode cX8_hole 44 = .ok (.ishr, 1) := by decide +kernel
theorem dX8_hole_45 : decode cX8_hole 45 = .ok (.iconst 1, 1) := by decide +kernel
theorem dX8_hole_46 : decode cX8_hole 46 = .ok (.iand, 1) := by decide +kernel
theorem dX8_hole_47 : decode cX8_hole 47 = .ok (.ifCond .eq 15, 3) := by decide +kernel
theorem dX8_hole_50 : decode cX8_hole 50 = .ok (.aload_n 0, 1) := by decide +kernel
theorem dX8_hole_51 : decode cX8_hole 51 = .ok (.getfield 7, 3) := by decide +kernel
theorem dX8_hole_54 : decode cX8_hole 54 = .ok (.iload_n 1, 1) := by decide +kernel
theorem dX8_hole_55 : decode cX8_hole 55 = .ok (.iaload, 1) := by decide +kernel
theorem dX8_hole_56 : decode cX8_hole 56 = .ok (.iconst 1, 1) := by decide +kernel
theorem dX8_hole_57 : decode cX8_hole 57 = .ok (.iload_n 2, 1) := by decide +kernel
theorem dX8_hole_58 : decode cX8_hole 58 = .ok (.ishl, 1) := by decide +kernel
theorem dX8_hole_59 : decode cX8_hole 59 = .ok (.if_icmp .ne 6, 3) := by decide +kernel
theorem dX8_hole_62 : decode cX8_hole 62 = .ok (.bipush (-3), 2) := by decide +kernel
theorem dX8_hole_64 : decode cX8_hole 64 = .ok (.ireturn, 1) := by decide +kernel
theorem dX8_hole_65 : decode cX8_hole 65 = .ok (.aload_n 0, 1) := by decide +kernel
theorem dX8_hole_66 : decode cX8_hole 66 = .ok (.getfield 7, 3) := by decide +kernel
theorem dX8_hole_69 : decode cX8_hole 69 = .ok (.iload_n 1, 1) := by decide +kernel
theorem dX8_hole_70 : decode cX8_hole 70 = .ok (.dup2, 1) := by decide +kernel
theorem dX8_hole_71 : decode cX8_hole 71 = .ok (.iaload, 1) := by decide +kernel
theorem dX8_hole_72 : decode cX8_hole 72 = .ok (.iconst 1, 1) := by decide +kernel
theorem dX8_hole_73 : decode cX8_hole 73 = .ok (.iload_n 2, 1) := by decide +kernel
theorem dX8_hole_74 : decode cX8_hole 74 = .ok (.ishl, 1) := by decide +kernel
theorem dX8_hole_75 : decode cX8_hole 75 = .ok (.isub, 1) := by decide +kernel
theorem dX8_hole_76 : decode cX8_hole 76 = .ok (.iastore, 1) := by decide +kernel
theorem dX8_hole_77 : decode cX8_hole 77 = .ok (.aload_n 0, 1) := by decide +kernel
theorem dX8_hole_78 : decode cX8_hole 78 = .ok (.invokevirtual 116, 3) := by decide +kernel
theorem dX8_hole_81 : decode cX8_hole 81 = .ok (.aload_n 0, 1) := by decide +kernel
theorem dX8_hole_82 : decode cX8_hole 82 = .ok (.getfield 7, 3) := by decide +kernel
theorem dX8_hole_85 : decode cX8_hole 85 = .ok (.iload_n 1, 1) := by decide +kernel
theorem dX8_hole_86 : decode cX8_hole 86 = .ok (.iaload, 1) := by decide +kernel
theorem dX8_hole_87 : decode cX8_hole 87 = .ok (.invokestatic 123, 3) := by decide +kernel
theorem dX8_hole_90 : decode cX8_hole 90 = .ok (.ireturn, 1) := by decide +kernel
theorem dX8_rule_0 : decode cX8_rule 0 = .ok (.aload_n 0, 1) := by decide +kernel
theorem dX8_rule_1 : decode cX8_rule 1 = .ok (.iconst 0, 1) := by decide +kernel
theorem dX8_rule_2 : decode cX8_rule 2 = .ok (.putfield 90, 3) := by decide +kernel
theorem dX8_rule_5 : decode cX8_rule 5 = .ok (.iload_n 1, 1) := by decide +kernel
theorem dX8_rule_6 : decode cX8_rule 6 = .ok (.i2l, 1) := by decide +kernel
theorem dX8_rule_7 : decode cX8_rule 7 = .ok (.lconst 0, 1) := by decide +kernel
theorem dX8_rule_8 : decode cX8_rule 8 = .ok (.ldc2_w 127, 3) := by decide +kernel
theorem dX8_rule_11 : decode cX8_rule 11 = .ok (.invokestatic 96, 3) := by decide +kernel
theorem dX8_rule_14 : decode cX8_rule 14 = .ok (.ifCond .eq 67, 3) := by decide +kernel
theorem dX8_rule_17 : decode cX8_rule 17 = .ok (.iload_n 1, 1) := by decide +kernel
theorem dX8_rule_18 : decode cX8_rule 18 = .ok (.ifCond .ne 29, 3) := by decide +kernel
theorem dX8_rule_21 : decode cX8_rule 21 = .ok (.iload_n 2, 1) := by decide +kernel
theorem dX8_rule_22 : decode cX8_rule 22 = .ok (.i2l, 1) := by decide +kernel
theorem dX8_rule_23 : decode cX8_rule 23 = .ok (.lconst 0, 1) := by decide +kernel
theorem dX8_rule_24 : decode cX8_rule 24 = .ok (.ldc2_w 129, 3) := by decide +kernel
theorem dX8_rule_27 : decode cX8_rule 27 = .ok (.invokestatic 96, 3) := by decide +kernel
theorem dX8_rule_30 : decode cX8_rule 30 = .ok (.ifCond .eq 51, 3) := by decide +kernel
theorem dX8_rule_33 : decode cX8_rule 33 = .ok (.iload_n 3, 1) := by decide +kernel
theorem dX8_rule_34 : decode cX8_rule 34 = .ok (.i2l, 1) := by decide +kernel
theorem dX8_rule_35 : decode cX8_rule 35 = .ok (.ldc2_w 131, 3) := by decide +kernel
theorem dX8_rule_38 : decode cX8_rule 38 = .ok (.ldc2_w 133, 3) := by decide +kernel
theorem dX8_rule_41 : decode cX8_rule 41 = .ok (.invokestatic 96, 3) := by decide +kernel
theorem dX8_rule_44 : decode cX8_rule 44 = .ok (.ifCond .eq 37, 3) := by decide +kernel
theorem dX8_rule_47 : decode cX8_rule 47 = .ok (.iload_n 1, 1) := by decide +kernel
theorem dX8_rule_48 : decode cX8_rule 48 = .ok (.iconst 2, 1) := by decide +kernel
theorem dX8_rule_49 : decode cX8_rule 49 = .ok (.if_icmp .ne 15, 3) := by decide +kernel
theorem dX8_rule_52 : decode cX8_rule 52 = .ok (.iload_n 2, 1) := by decide +kernel
theorem dX8_rule_53 : decode cX8_rule 53 = .ok (.i2l, 1) := by decide +kernel
theorem dX8_rule_54 : decode cX8_rule 54 = .ok (.lconst 0, 1) := by decide +kernel
theorem dX8_rule_55 : decode cX8_rule 55 = .ok (.ldc2_w 127, 3) := by decide +kernel
theorem dX8_rule_58 : decode cX8_rule 58 = .ok (.invokestatic 96, 3) := by decide +kernel
theorem dX8_rule_61 : decode cX8_rule 61 = .ok (.ifCond .eq 20, 3) := by decide +kernel
theorem dX8_rule_64 : decode cX8_rule 64 = .ok (.iload_n 1, 1) := by decide +kernel
theorem dX8_rule_65 : decode cX8_rule 65 = .ok (.iconst 3, 1) := by decide +kernel
theorem dX8_rule_66 : decode cX8_rule 66 = .ok (.if_icmp .ne 18, 3) := by decide +kernel
theorem dX8_rule_69 : decode cX8_rule 69 = .ok (.iload_n 2, 1) := by decide +kernel
theorem dX8_rule_70 : decode cX8_rule 70 = .ok (.i2l, 1) := by decide +kernel
theorem dX8_rule_71 : decode cX8_rule 71 = .ok (.lconst 0, 1) := by decide +kernel
theorem dX8_rule_72 : decode cX8_rule 72 = .ok (.ldc2_w 135, 3) := by decide +kernel
theorem dX8_rule_75 : decode cX8_rule 75 = .ok (.invokestatic 96, 3) := by decide +kernel
theorem dX8_rule_78 : decode cX8_rule 78 = .ok (.ifCond .ne 6, 3) := by decide +kernel
theorem dX8_rule_81 : decode cX8_rule 81 = .ok (.bipush (-2), 2) := by decide +kernel
theorem dX8_rule_83 : decode cX8_rule 83 = .ok (.ireturn, 1) := by decide +kernel
theorem dX8_rule_84 : decode cX8_rule 84 = .ok (.aload_n 0, 1) := by decide +kernel
theorem dX8_rule_85 : decode cX8_rule 85 = .ok (.getfield 109, 3) := by decide +kernel
theorem dX8_rule_88 : decode cX8_rule 88 = .ok (.ifCond .le 6, 3) := by decide +kernel
theorem dX8_rule_91 : decode cX8_rule 91 = .ok (.bipush (-3), 2) := by decide +kernel
theorem dX8_rule_93 : decode cX8_rule 93 = .ok (.ireturn, 1) := by decide +kernel
theorem dX8_rule_94 : decode cX8_rule 94 = .ok (.aload_n 0, 1) := by decide +kernel
theorem dX8_rule_95 : decode cX8_rule 95 = .ok (.getfield 100, 3) := by decide +kernel
theorem dX8_rule_98 : decode cX8_rule 98 = .ok (.bipush 16, 2) := by decide +kernel
theorem dX8_rule_100 : decode cX8_rule 100 = .ok (.if_icmp .ne 6, 3) := by decide +kernel
theorem dX8_rule_103 : decode cX8_rule 103 = .ok (.bipush (-4), 2) := by decide +kernel
theorem dX8_rule_105 : decode cX8_rule 105 = .ok (.ireturn, 1) := by decide +kernel
theorem dX8_rule_106 : decode cX8_rule 106 = .ok (.aload_n 0, 1) := by decide +kernel
theorem dX8_rule_107 : decode cX8_rule 107 = .ok (.getfield 25, 3) := by decide +kernel
theorem dX8_rule_110 : decode cX8_rule 110 = .ok (.aload_n 0, 1) := by decide +kernel
theorem dX8_rule_111 : decode cX8_rule 111 = .ok (.getfield 100, 3) := by decide +kernel
theorem dX8_rule_114 : decode cX8_rule 114 = .ok (.iload_n 1, 1) := by decide +kernel
theorem dX8_rule_115 : decode cX8_rule 115 = .ok (.iastore, 1) := by decide +kernel
theorem dX8_rule_116 : decode cX8_rule 116 = .ok (.aload_n 0, 1) := by decide +kernel
theorem dX8_rule_117 : decode cX8_rule 117 = .ok (.getfield 28, 3) := by decide +kernel
theorem dX8_rule_120 : decode cX8_rule 120 = .ok (.aload_n 0, 1) := by decide +kernel
theorem dX8_rule_121 : decode cX8_rule 121 = .ok (.getfield 100, 3) := by decide +kernel
theorem dX8_rule_124 : decode cX8_rule 124 = .ok (.iload_n 2, 1) := by decide +kernel
theorem dX8_rule_125 : decode cX8_rule 125 = .ok (.iastore, 1) := by decide +kernel
theorem dX8_rule_126 : decode cX8_rule 126 = .ok (.aload_n 0, 1) := by decide +kernel
theorem dX8_rule_127 : decode cX8_rule 127 = .ok (.getfield 31, 3) := by decide +kernel
theorem dX8_rule_130 : decode cX8_rule 130 = .ok (.aload_n 0, 1) := by decide +kernel
theorem dX8_rule_131 : decode cX8_rule 131 = .ok (.getfield 100, 3) := by decide +kernel
theorem dX8_rule_134 : decode cX8_rule 134 = .ok (.iload_n 3, 1) := by decide +kernel
theorem dX8_rule_135 : decode cX8_rule 135 = .ok (.iastore, 1) := by decide +kernel
theorem dX8_rule_136 : decode cX8_rule 136 = .ok (.aload_n 0, 1) := by decide +kernel
theorem dX8_rule_137 : decode cX8_rule 137 = .ok (.getfield 34, 3) := by decide +kernel
theorem dX8_rule_140 : decode cX8_rule 140 = .ok (.aload_n 0, 1) := by decide +kernel
theorem dX8_rule_141 : decode cX8_rule 141 = .ok (.getfield 100, 3) := by decide +kernel
theorem dX8_rule_144 : decode cX8_rule 144 = .ok (.iconst 1, 1) := by decide +kernel
theorem dX8_rule_145 : decode cX8_rule 145 = .ok (.bastore, 1) := by decide +kernel
theorem dX8_rule_146 : decode cX8_rule 146 = .ok (.aload_n 0, 1) := by decide +kernel
theorem dX8_rule_147 : decode cX8_rule 147 = .ok (.getfield 38, 3) := by decide +kernel
theorem dX8_rule_150 : decode cX8_rule 150 = .ok (.aload_n 0, 1) := by decide +kernel
theorem dX8_rule_151 : decode cX8_rule 151 = .ok (.getfield 100, 3) := by decide +kernel
theorem dX8_rule_154 : decode cX8_rule 154 = .ok (.iconst 0, 1) := by decide +kernel
theorem dX8_rule_155 : decode cX8_rule 155 = .ok (.iastore, 1) := by decide +kernel
theorem dX8_rule_156 : decode cX8_rule 156 = .ok (.aload_n 0, 1) := by decide +kernel
theorem dX8_rule_157 : decode cX8_rule 157 = .ok (.dup, 1) := by decide +kernel
theorem dX8_rule_158 : decode cX8_rule 158 = .ok (.getfield 100, 3) := by decide +kernel
theorem dX8_rule_161 : decode cX8_rule 161 = .ok (.iconst 1, 1) := by decide +kernel
theorem dX8_rule_162 : decode cX8_rule 162 = .ok (.iadd, 1) := by decide +kernel
theorem dX8_rule_163 : decode cX8_rule 163 = .ok (.putfield 100, 3) := by decide +kernel
theorem dX8_rule_166 : decode cX8_rule 166 = .ok (.aload_n 0, 1) := by decide +kernel
theorem dX8_rule_167 : decode cX8_rule 167 = .ok (.invokevirtual 116, 3) := by decide +kernel
theorem dX8_rule_170 : decode cX8_rule 170 = .ok (.aload_n 0, 1) := by decide +kernel
theorem dX8_rule_171 : decode cX8_rule 171 = .ok (.getfield 100, 3) := by decide +kernel
theorem dX8_rule_174 : decode cX8_rule 174 = .ok (.iconst 1, 1) := by decide +kernel
theorem dX8_rule_175 : decode cX8_rule 175 = .ok (.isub, 1) := by decide +kernel
theorem dX8_rule_176 : decode cX8_rule 176 = .ok (.ireturn, 1) := by decide +kernel
theorem dX8_part_0 : decode cX8_part 0 = .ok (.aload_n 0, 1) := by decide +kernel
theorem dX8_part_1 : decode cX8_part 1 = .ok (.iconst 0, 1) := by decide +kernel
theorem dX8_part_2 : decode cX8_part 2 = .ok (.putfield 90, 3) := by decide +kernel
theorem dX8_part_5 : decode cX8_part 5 = .ok (.aload_n 0, 1) := by decide +kernel
theorem dX8_part_6 : decode cX8_part 6 = .ok (.iload_n 1, 1) := by decide +kernel
theorem dX8_part_7 : decode cX8_part 7 = .ok (.invokevirtual 137, 3) := by decide +kernel
theorem dX8_part_10 : decode cX8_part 10 = .ok (.ifCond .ne 11, 3) := by decide +kernel
theorem dX8_part_13 : decode cX8_part 13 = .ok (.aload_n 0, 1) := by decide +kernel
theorem dX8_part_14 : decode cX8_part 14 = .ok (.iload_n 2, 1) := by decide +kernel
theorem dX8_part_15 : decode cX8_part 15 = .ok (.invokevirtual 119, 3) := by decide +kernel
theorem dX8_part_18 : decode cX8_part 18 = .ok (.ifCond .eq 5, 3) := by decide +kernel
theorem dX8_part_21 : decode cX8_part 21 = .ok (.iconst (-1), 1) := by decide +kernel
theorem dX8_part_22 : decode cX8_part 22 = .ok (.ireturn, 1) := by decide +kernel
theorem dX8_part_23 : decode cX8_part 23 = .ok (.aload_n 0, 1) := by decide +kernel
theorem dX8_part_24 : decode cX8_part 24 = .ok (.getfield 25, 3) := by decide +kernel
theorem dX8_part_27 : decode cX8_part 27 = .ok (.iload_n 1, 1) := by decide +kernel
theorem dX8_part_28 : decode cX8_part 28 = .ok (.iaload, 1) := by decide +kernel
theorem dX8_part_29 : decode cX8_part 29 = .ok (.iconst 5, 1) := by decide +kernel
theorem dX8_part_30 : decode cX8_part 30 = .ok (.if_icmp .ne 10, 3) := by decide +kernel
theorem dX8_part_33 : decode cX8_part 33 = .ok (.aload_n 0, 1) := by decide +kernel
theorem dX8_part_34 : decode cX8_part 34 = .ok (.bipush (-13), 2) := by decide +kernel
theorem dX8_part_36 : decode cX8_part 36 = .ok (.invokevirtual 140, 3) := by decide +kernel
theorem dX8_part_39 : decode cX8_part 39 = .ok (.ireturn, 1) := by decide +kernel
theorem dX8_part_40 : decode cX8_part 40 = .ok (.aload_n 0, 1) := by decide +kernel
theorem dX8_part_41 : decode cX8_part 41 = .ok (.getfield 25, 3) := by decide +kernel
theorem dX8_part_44 : decode cX8_part 44 = .ok (.iload_n 1, 1) := by decide +kernel
theorem dX8_part_45 : decode cX8_part 45 = .ok (.iaload, 1) := by decide +kernel
theorem dX8_part_46 : decode cX8_part 46 = .ok (.ifCond .ne 21, 3) := by decide +kernel
theorem dX8_part_49 : decode cX8_part 49 = .ok (.iload_n 3, 1) := by decide +kernel
theorem dX8_part_50 : decode cX8_part 50 = .ok (.i2l, 1) := by decide +kernel
theorem dX8_part_51 : decode cX8_part 51 = .ok (.ldc2_w 143, 3) := by decide +kernel
theorem dX8_part_54 : decode cX8_part 54 = .ok (.ldc2_w 145, 3) := by decide +kernel
theorem dX8_part_57 : decode cX8_part 57 = .ok (.invokestatic 96, 3) := by decide +kernel
theorem dX8_part_60 : decode cX8_part 60 = .ok (.ifCond .eq 42, 3) := by decide +kernel
theorem dX8_part_63 : decode cX8_part 63 = .ok (.iload_n 3, 1) := by decide +kernel
theorem dX8_part_64 : decode cX8_part 64 = .ok (.ifCond .eq 38, 3) := by decide +kernel
theorem dX8_part_67 : decode cX8_part 67 = .ok (.aload_n 0, 1) := by decide +kernel
theorem dX8_part_68 : decode cX8_part 68 = .ok (.getfield 25, 3) := by decide +kernel
theorem dX8_part_71 : decode cX8_part 71 = .ok (.iload_n 1, 1) := by decide +kernel
theorem dX8_part_72 : decode cX8_part 72 = .ok (.iaload, 1) := by decide +kernel
theorem dX8_part_73 : decode cX8_part 73 = .ok (.iconst 3, 1) := by decide +kernel
theorem dX8_part_74 : decode cX8_part 74 = .ok (.if_icmp .ne 31, 3) := by decide +kernel
theorem dX8_part_77 : decode cX8_part 77 = .ok (.iload_n 3, 1) := by decide +kernel
theorem dX8_part_78 : decode cX8_part 78 = .ok (.i2l, 1) := by decide +kernel
theorem dX8_part_79 : decode cX8_part 79 = .ok (.lconst 0, 1) := by decide +kernel
theorem dX8_part_80 : decode cX8_part 80 = .ok (.ldc2_w 107, 3) := by decide +kernel
theorem dX8_part_83 : decode cX8_part 83 = .ok (.invokestatic 96, 3) := by decide +kernel
theorem dX8_part_86 : decode cX8_part 86 = .ok (.ifCond .eq 16, 3) := by decide +kernel
theorem dX8_part_89 : decode cX8_part 89 = .ok (.iload 4, 2) := by decide +kernel
theorem dX8_part_91 : decode cX8_part 91 = .ok (.i2l, 1) := by decide +kernel
theorem dX8_part_92 : decode cX8_part 92 = .ok (.lconst 0, 1) := by decide +kernel
theorem dX8_part_93 : decode cX8_part 93 = .ok (.ldc2_w 147, 3) := by decide +kernel
theorem dX8_part_96 : decode cX8_part 96 = .ok (.invokestatic 96, 3) := by decide +kernel
theorem dX8_part_99 : decode cX8_part 99 = .ok (.ifCond .ne 6, 3) := by decide +kernel
theorem dX8_part_102 : decode cX8_part 102 = .ok (.bipush (-2), 2) := by decide +kernel
theorem dX8_part_104 : decode cX8_part 104 = .ok (.ireturn, 1) := by decide +kernel
theorem dX8_part_105 : decode cX8_part 105 = .ok (.aload_n 0, 1) := by decide +kernel
theorem dX8_part_106 : decode cX8_part 106 = .ok (.getfield 109, 3) := by decide +kernel
theorem dX8_part_109 : decode cX8_part 109 = .ok (.ifCond .le 7, 3) := by decide +kernel
theorem dX8_part_112 : decode cX8_part 112 = .ok (.iconst 1, 1) := by decide +kernel
theorem dX8_part_113 : decode cX8_part 113 = .ok (.goto 4, 3) := by decide +kernel
theorem dX8_part_116 : decode cX8_part 116 = .ok (.iconst 0, 1) := by decide +kernel
theorem dX8_part_117 : decode cX8_part 117 = .ok (.istore 5, 2) := by decide +kernel
theorem dX8_part_119 : decode cX8_part 119 = .ok (.iconst 0, 1) := by decide +kernel
theorem dX8_part_120 : decode cX8_part 120 = .ok (.istore 6, 2) := by decide +kernel
theorem dX8_part_122 : decode cX8_part 122 = .ok (.iload 6, 2) := by decide +kernel
theorem dX8_part_124 : decode cX8_part 124 = .ok (.aload_n 0, 1) := by decide +kernel
theorem dX8_part_125 : decode cX8_part 125 = .ok (.getfield 38, 3) := by decide +kernel
theorem dX8_part_128 : decode cX8_part 128 = .ok (.iload_n 1, 1) := by decide +kernel
theorem dX8_part_129 : decode cX8_part 129 = .ok (.iaload, 1) := by decide +kernel
theorem dX8_part_130 : decode cX8_part 130 = .ok (.if_icmp .ge 37, 3) := by decide +kernel
theorem dX8_part_133 : decode cX8_part 133 = .ok (.iload 5, 2) := by decide +kernel
theorem dX8_part_135 : decode cX8_part 135 = .ok (.ifCond .ne 19, 3) := by decide +kernel
theorem dX8_part_138 : decode cX8_part 138 = .ok (.aload_n 0, 1) := by decide +kernel
theorem dX8_part_139 : decode cX8_part 139 = .ok (.getfield 41, 3) := by decide +kernel
theorem dX8_part_142 : decode cX8_part 142 = .ok (.bipush 6, 2) := by decide +kernel
theorem dX8_part_144 : decode cX8_part 144 = .ok (.iload_n 1, 1) := by decide +kernel
theorem dX8_part_145 : decode cX8_part 145 = .ok (.imul, 1) := by decide +kernel
theorem dX8_part_146 : decode cX8_part 146 = .ok (.iload 6, 2) := by decide +kernel
theorem dX8_part_148 : decode cX8_part 148 = .ok (.iadd, 1) := by decide +kernel
theorem dX8_part_149 : decode cX8_part 149 = .ok (.iaload, 1) := by decide +kernel
theorem dX8_part_150 : decode cX8_part 150 = .ok (.iload_n 2, 1) := by decide +kernel
theorem dX8_part_151 : decode cX8_part 151 = .ok (.if_icmp .ne 7, 3) := by decide +kernel
theorem dX8_part_154 : decode cX8_part 154 = .ok (.iconst 1, 1) := by decide +kernel
theorem dX8_part_155 : decode cX8_part 155 = .ok (.goto 4, 3) := by decide +kernel
theorem dX8_part_158 : decode cX8_part 158 = .ok (.iconst 0, 1) := by decide +kernel
theorem dX8_part_159 : decode cX8_part 159 = .ok (.istore 5, 2) := by decide +kernel
theorem dX8_part_161 : decode cX8_part 161 = .ok (.iinc 6 1, 3) := by decide +kernel
theorem dX8_part_164 : decode cX8_part 164 = .ok (.goto (-42), 3) := by decide +kernel
theorem dX8_part_167 : decode cX8_part 167 = .ok (.iload 5, 2) := by decide +kernel
theorem dX8_part_169 : decode cX8_part 169 = .ok (.ifCond .eq 8, 3) := by decide +kernel
theorem dX8_part_172 : decode cX8_part 172 = .ok (.bipush (-3), 2) := by decide +kernel
theorem dX8_part_174 : decode cX8_part 174 = .ok (.goto 12, 3) := by decide +kernel
theorem dX8_part_177 : decode cX8_part 177 = .ok (.aload_n 0, 1) := by decide +kernel
theorem dX8_part_178 : decode cX8_part 178 = .ok (.iload_n 1, 1) := by decide +kernel
theorem dX8_part_179 : decode cX8_part 179 = .ok (.iload_n 2, 1) := by decide +kernel
theorem dX8_part_180 : decode cX8_part 180 = .ok (.iload_n 3, 1) := by decide +kernel
theorem dX8_part_181 : decode cX8_part 181 = .ok (.iload 4, 2) := by decide +kernel
theorem dX8_part_183 : decode cX8_part 183 = .ok (.invokevirtual 149, 3) := by decide +kernel
theorem dX8_part_186 : decode cX8_part 186 = .ok (.ireturn, 1) := by decide +kernel
theorem dX8_added_0 : decode cX8_added 0 = .ok (.aload_n 0, 1) := by decide +kernel
theorem dX8_added_1 : decode cX8_added 1 = .ok (.getfield 38, 3) := by decide +kernel
theorem dX8_added_4 : decode cX8_added 4 = .ok (.iload_n 1, 1) := by decide +kernel
theorem dX8_added_5 : decode cX8_added 5 = .ok (.iaload, 1) := by decide +kernel
theorem dX8_added_6 : decode cX8_added 6 = .ok (.bipush 6, 2) := by decide +kernel
theorem dX8_added_8 : decode cX8_added 8 = .ok (.if_icmp .ne 6, 3) := by decide +kernel
theorem dX8_added_11 : decode cX8_added 11 = .ok (.bipush (-4), 2) := by decide +kernel
theorem dX8_added_13 : decode cX8_added 13 = .ok (.ireturn, 1) := by decide +kernel
theorem dX8_added_14 : decode cX8_added 14 = .ok (.bipush 6, 2) := by decide +kernel
theorem dX8_added_16 : decode cX8_added 16 = .ok (.iload_n 1, 1) := by decide +kernel
theorem dX8_added_17 : decode cX8_added 17 = .ok (.imul, 1) := by decide +kernel
theorem dX8_added_18 : decode cX8_added 18 = .ok (.aload_n 0, 1) := by decide +kernel
theorem dX8_added_19 : decode cX8_added 19 = .ok (.getfield 38, 3) := by decide +kernel
theorem dX8_added_22 : decode cX8_added 22 = .ok (.iload_n 1, 1) := by decide +kernel
theorem dX8_added_23 : decode cX8_added 23 = .ok (.iaload, 1) := by decide +kernel
theorem dX8_added_24 : decode cX8_added 24 = .ok (.iadd, 1) := by decide +kernel
theorem dX8_added_25 : decode cX8_added 25 = .ok (.istore 5, 2) := by decide +kernel
theorem dX8_added_27 : decode cX8_added 27 = .ok (.aload_n 0, 1) := by decide +kernel
theorem dX8_added_28 : decode cX8_added 28 = .ok (.getfield 41, 3) := by decide +kernel
theorem dX8_added_31 : decode cX8_added 31 = .ok (.iload 5, 2) := by decide +kernel
theorem dX8_added_33 : decode cX8_added 33 = .ok (.iload_n 2, 1) := by decide +kernel
theorem dX8_added_34 : decode cX8_added 34 = .ok (.iastore, 1) := by decide +kernel
theorem dX8_added_35 : decode cX8_added 35 = .ok (.aload_n 0, 1) := by decide +kernel
theorem dX8_added_36 : decode cX8_added 36 = .ok (.getfield 44, 3) := by decide +kernel
theorem dX8_added_39 : decode cX8_added 39 = .ok (.iload 5, 2) := by decide +kernel
theorem dX8_added_41 : decode cX8_added 41 = .ok (.iload_n 3, 1) := by decide +kernel
theorem dX8_added_42 : decode cX8_added 42 = .ok (.iastore, 1) := by decide +kernel
theorem dX8_added_43 : decode cX8_added 43 = .ok (.aload_n 0, 1) := by decide +kernel
theorem dX8_added_44 : decode cX8_added 44 = .ok (.getfield 47, 3) := by decide +kernel
theorem dX8_added_47 : decode cX8_added 47 = .ok (.iload 5, 2) := by decide +kernel
theorem dX8_added_49 : decode cX8_added 49 = .ok (.iload 4, 2) := by decide +kernel
theorem dX8_added_51 : decode cX8_added 51 = .ok (.iastore, 1) := by decide +kernel
theorem dX8_added_52 : decode cX8_added 52 = .ok (.aload_n 0, 1) := by decide +kernel
theorem dX8_added_53 : decode cX8_added 53 = .ok (.getfield 38, 3) := by decide +kernel
theorem dX8_added_56 : decode cX8_added 56 = .ok (.iload_n 1, 1) := by decide +kernel
theorem dX8_added_57 : decode cX8_added 57 = .ok (.dup2, 1) := by decide +kernel
theorem dX8_added_58 : decode cX8_added 58 = .ok (.iaload, 1) := by decide +kernel
theorem dX8_added_59 : decode cX8_added 59 = .ok (.iconst 1, 1) := by decide +kernel
theorem dX8_added_60 : decode cX8_added 60 = .ok (.iadd, 1) := by decide +kernel
theorem dX8_added_61 : decode cX8_added 61 = .ok (.iastore, 1) := by decide +kernel
theorem dX8_added_62 : decode cX8_added 62 = .ok (.aload_n 0, 1) := by decide +kernel
theorem dX8_added_63 : decode cX8_added 63 = .ok (.invokevirtual 116, 3) := by decide +kernel
theorem dX8_added_66 : decode cX8_added 66 = .ok (.aload_n 0, 1) := by decide +kernel
theorem dX8_added_67 : decode cX8_added 67 = .ok (.getfield 38, 3) := by decide +kernel
theorem dX8_added_70 : decode cX8_added 70 = .ok (.iload_n 1, 1) := by decide +kernel
theorem dX8_added_71 : decode cX8_added 71 = .ok (.iaload, 1) := by decide +kernel
theorem dX8_added_72 : decode cX8_added 72 = .ok (.ireturn, 1) := by decide +kernel
theorem dX8_literal_0 : decode cX8_literal 0 = .ok (.aload_n 0, 1) := by decide +kernel
theorem dX8_literal_1 : decode cX8_literal 1 = .ok (.iconst 0, 1) := by decide +kernel
theorem dX8_literal_2 : decode cX8_literal 2 = .ok (.putfield 90, 3) := by decide +kernel
theorem dX8_literal_5 : decode cX8_literal 5 = .ok (.aload_n 0, 1) := by decide +kernel
theorem dX8_literal_6 : decode cX8_literal 6 = .ok (.iload_n 1, 1) := by decide +kernel
theorem dX8_literal_7 : decode cX8_literal 7 = .ok (.invokevirtual 137, 3) := by decide +kernel
theorem dX8_literal_10 : decode cX8_literal 10 = .ok (.ifCond .ne 11, 3) := by decide +kernel
theorem dX8_literal_13 : decode cX8_literal 13 = .ok (.aload_n 0, 1) := by decide +kernel
theorem dX8_literal_14 : decode cX8_literal 14 = .ok (.iload_n 2, 1) := by decide +kernel
theorem dX8_literal_15 : decode cX8_literal 15 = .ok (.invokevirtual 119, 3) := by decide +kernel
theorem dX8_literal_18 : decode cX8_literal 18 = .ok (.ifCond .eq 5, 3) := by decide +kernel
theorem dX8_literal_21 : decode cX8_literal 21 = .ok (.iconst (-1), 1) := by decide +kernel
theorem dX8_literal_22 : decode cX8_literal 22 = .ok (.ireturn, 1) := by decide +kernel
theorem dX8_literal_23 : decode cX8_literal 23 = .ok (.aload_n 0, 1) := by decide +kernel
theorem dX8_literal_24 : decode cX8_literal 24 = .ok (.getfield 25, 3) := by decide +kernel
theorem dX8_literal_27 : decode cX8_literal 27 = .ok (.iload_n 1, 1) := by decide +kernel
theorem dX8_literal_28 : decode cX8_literal 28 = .ok (.iaload, 1) := by decide +kernel
theorem dX8_literal_29 : decode cX8_literal 29 = .ok (.iconst 5, 1) := by decide +kernel
theorem dX8_literal_30 : decode cX8_literal 30 = .ok (.if_icmp .eq 10, 3) := by decide +kernel
theorem dX8_literal_33 : decode cX8_literal 33 = .ok (.aload_n 0, 1) := by decide +kernel
theorem dX8_literal_34 : decode cX8_literal 34 = .ok (.bipush (-13), 2) := by decide +kernel
theorem dX8_literal_36 : decode cX8_literal 36 = .ok (.invokevirtual 140, 3) := by decide +kernel
theorem dX8_literal_39 : decode cX8_literal 39 = .ok (.ireturn, 1) := by decide +kernel
theorem dX8_literal_40 : decode cX8_literal 40 = .ok (.iload_n 3, 1) := by decide +kernel
theorem dX8_literal_41 : decode cX8_literal 41 = .ok (.i2l, 1) := by decide +kernel
theorem dX8_literal_42 : decode cX8_literal 42 = .ok (.lconst 0, 1) := by decide +kernel
theorem dX8_literal_43 : decode cX8_literal 43 = .ok (.ldc2_w 153, 3) := by decide +kernel
theorem dX8_literal_46 : decode cX8_literal 46 = .ok (.invokestatic 96, 3) := by decide +kernel
theorem dX8_literal_49 : decode cX8_literal 49 = .ok (.ifCond .eq 16, 3) := by decide +kernel
theorem dX8_literal_52 : decode cX8_literal 52 = .ok (.iload 4, 2) := by decide +kernel
theorem dX8_literal_54 : decode cX8_literal 54 = .ok (.i2l, 1) := by decide +kernel
theorem dX8_literal_55 : decode cX8_literal 55 = .ok (.lconst 0, 1) := by decide +kernel
theorem dX8_literal_56 : decode cX8_literal 56 = .ok (.ldc2_w 107, 3) := by decide +kernel
theorem dX8_literal_59 : decode cX8_literal 59 = .ok (.invokestatic 96, 3) := by decide +kernel
theorem dX8_literal_62 : decode cX8_literal 62 = .ok (.ifCond .ne 6, 3) := by decide +kernel
theorem dX8_literal_65 : decode cX8_literal 65 = .ok (.bipush (-2), 2) := by decide +kernel
theorem dX8_literal_67 : decode cX8_literal 67 = .ok (.ireturn, 1) := by decide +kernel
theorem dX8_literal_68 : decode cX8_literal 68 = .ok (.aload_n 0, 1) := by decide +kernel
theorem dX8_literal_69 : decode cX8_literal 69 = .ok (.getfield 109, 3) := by decide +kernel
theorem dX8_literal_72 : decode cX8_literal 72 = .ok (.ifCond .le 8, 3) := by decide +kernel
theorem dX8_literal_75 : decode cX8_literal 75 = .ok (.bipush (-3), 2) := by decide +kernel
theorem dX8_literal_77 : decode cX8_literal 77 = .ok (.goto 16, 3) := by decide +kernel
theorem dX8_literal_80 : decode cX8_literal 80 = .ok (.aload_n 0, 1) := by decide +kernel
theorem dX8_literal_81 : decode cX8_literal 81 = .ok (.iload_n 1, 1) := by decide +kernel
theorem dX8_literal_82 : decode cX8_literal 82 = .ok (.iload_n 2, 1) := by decide +kernel
theorem dX8_literal_83 : decode cX8_literal 83 = .ok (.iload_n 3, 1) := by decide +kernel
theorem dX8_literal_84 : decode cX8_literal 84 = .ok (.iload 4, 2) := by decide +kernel
theorem dX8_literal_86 : decode cX8_literal 86 = .ok (.invokestatic 112, 3) := by decide +kernel
theorem dX8_literal_89 : decode cX8_literal 89 = .ok (.iconst 0, 1) := by decide +kernel
theorem dX8_literal_90 : decode cX8_literal 90 = .ok (.invokevirtual 149, 3) := by decide +kernel
theorem dX8_literal_93 : decode cX8_literal 93 = .ok (.ireturn, 1) := by decide +kernel
theorem dX8_stand_0 : decode cX8_stand 0 = .ok (.aload_n 0, 1) := by decide +kernel
theorem dX8_stand_1 : decode cX8_stand 1 = .ok (.iconst 0, 1) := by decide +kernel
theorem dX8_stand_2 : decode cX8_stand 2 = .ok (.putfield 90, 3) := by decide +kernel
theorem dX8_stand_5 : decode cX8_stand 5 = .ok (.aload_n 0, 1) := by decide +kernel
theorem dX8_stand_6 : decode cX8_stand 6 = .ok (.iload_n 1, 1) := by decide +kernel
theorem dX8_stand_7 : decode cX8_stand 7 = .ok (.invokevirtual 137, 3) := by decide +kernel
theorem dX8_stand_10 : decode cX8_stand 10 = .ok (.ifCond .eq 5, 3) := by decide +kernel
theorem dX8_stand_13 : decode cX8_stand 13 = .ok (.iconst (-1), 1) := by decide +kernel
theorem dX8_stand_14 : decode cX8_stand 14 = .ok (.ireturn, 1) := by decide +kernel
theorem dX8_stand_15 : decode cX8_stand 15 = .ok (.aload_n 0, 1) := by decide +kernel
theorem dX8_stand_16 : decode cX8_stand 16 = .ok (.getfield 109, 3) := by decide +kernel
theorem dX8_stand_19 : decode cX8_stand 19 = .ok (.ifCond .le 6, 3) := by decide +kernel
theorem dX8_stand_22 : decode cX8_stand 22 = .ok (.bipush (-3), 2) := by decide +kernel
theorem dX8_stand_24 : decode cX8_stand 24 = .ok (.ireturn, 1) := by decide +kernel
theorem dX8_stand_25 : decode cX8_stand 25 = .ok (.aload_n 0, 1) := by decide +kernel
theorem dX8_stand_26 : decode cX8_stand 26 = .ok (.getfield 34, 3) := by decide +kernel
theorem dX8_stand_29 : decode cX8_stand 29 = .ok (.iload_n 1, 1) := by decide +kernel
theorem dX8_stand_30 : decode cX8_stand 30 = .ok (.baload, 1) := by decide +kernel
theorem dX8_stand_31 : decode cX8_stand 31 = .ok (.ifCond .eq 7, 3) := by decide +kernel
theorem dX8_stand_34 : decode cX8_stand 34 = .ok (.iconst 1, 1) := by decide +kernel
theorem dX8_stand_35 : decode cX8_stand 35 = .ok (.goto 4, 3) := by decide +kernel
theorem dX8_stand_38 : decode cX8_stand 38 = .ok (.iconst 0, 1) := by decide +kernel
theorem dX8_stand_39 : decode cX8_stand 39 = .ok (.istore_n 3, 1) := by decide +kernel
theorem dX8_stand_40 : decode cX8_stand 40 = .ok (.aload_n 0, 1) := by decide +kernel
theorem dX8_stand_41 : decode cX8_stand 41 = .ok (.getfield 34, 3) := by decide +kernel
theorem dX8_stand_44 : decode cX8_stand 44 = .ok (.iload_n 1, 1) := by decide +kernel
theorem dX8_stand_45 : decode cX8_stand 45 = .ok (.iload_n 2, 1) := by decide +kernel
theorem dX8_stand_46 : decode cX8_stand 46 = .ok (.bastore, 1) := by decide +kernel
theorem dX8_stand_47 : decode cX8_stand 47 = .ok (.aload_n 0, 1) := by decide +kernel
theorem dX8_stand_48 : decode cX8_stand 48 = .ok (.invokevirtual 116, 3) := by decide +kernel
theorem dX8_stand_51 : decode cX8_stand 51 = .ok (.iload_n 3, 1) := by decide +kernel
theorem dX8_stand_52 : decode cX8_stand 52 = .ok (.ireturn, 1) := by decide +kernel
theorem dX8_table_0 : decode cX8_table 0 = .ok (.aload_n 0, 1) := by decide +kernel
theorem dX8_table_1 : decode cX8_table 1 = .ok (.iconst 0, 1) := by decide +kernel
theorem dX8_table_2 : decode cX8_table 2 = .ok (.putfield 90, 3) := by decide +kernel
theorem dX8_table_5 : decode cX8_table 5 = .ok (.iload_n 1, 1) := by decide +kernel
theorem dX8_table_6 : decode cX8_table 6 = .ok (.i2l, 1) := by decide +kernel
theorem dX8_table_7 : decode cX8_table 7 = .ok (.lconst 0, 1) := by decide +kernel
theorem dX8_table_8 : decode cX8_table 8 = .ok (.ldc2_w 127, 3) := by decide +kernel
theorem dX8_table_11 : decode cX8_table 11 = .ok (.invokestatic 96, 3) := by decide +kernel
theorem dX8_table_14 : decode cX8_table 14 = .ok (.ifCond .eq 21, 3) := by decide +kernel
theorem dX8_table_17 : decode cX8_table 17 = .ok (.iload_n 2, 1) := by decide +kernel
theorem dX8_table_18 : decode cX8_table 18 = .ok (.i2l, 1) := by decide +kernel
theorem dX8_table_19 : decode cX8_table 19 = .ok (.lconst 0, 1) := by decide +kernel
theorem dX8_table_20 : decode cX8_table 20 = .ok (.ldc2_w 129, 3) := by decide +kernel
theorem dX8_table_23 : decode cX8_table 23 = .ok (.invokestatic 96, 3) := by decide +kernel
theorem dX8_table_26 : decode cX8_table 26 = .ok (.ifCond .eq 9, 3) := by decide +kernel
theorem dX8_table_29 : decode cX8_table 29 = .ok (.iload_n 3, 1) := by decide +kernel
theorem dX8_table_30 : decode cX8_table 30 = .ok (.bipush 48, 2) := by decide +kernel
theorem dX8_table_32 : decode cX8_table 32 = .ok (.if_icmp .le 6, 3) := by decide +kernel
theorem dX8_table_35 : decode cX8_table 35 = .ok (.bipush (-2), 2) := by decide +kernel
theorem dX8_table_37 : decode cX8_table 37 = .ok (.ireturn, 1) := by decide +kernel
theorem dX8_table_38 : decode cX8_table 38 = .ok (.aload_n 0, 1) := by decide +kernel
theorem dX8_table_39 : decode cX8_table 39 = .ok (.getfield 109, 3) := by decide +kernel
theorem dX8_table_42 : decode cX8_table 42 = .ok (.ifCond .le 6, 3) := by decide +kernel
theorem dX8_table_45 : decode cX8_table 45 = .ok (.bipush (-3), 2) := by decide +kernel
theorem dX8_table_47 : decode cX8_table 47 = .ok (.ireturn, 1) := by decide +kernel
theorem dX8_table_48 : decode cX8_table 48 = .ok (.iload_n 3, 1) := by decide +kernel
theorem dX8_table_49 : decode cX8_table 49 = .ok (.ifCond .ge 10, 3) := by decide +kernel
theorem dX8_table_52 : decode cX8_table 52 = .ok (.aload_n 0, 1) := by decide +kernel
theorem dX8_table_53 : decode cX8_table 53 = .ok (.bipush (-14), 2) := by decide +kernel
theorem dX8_table_55 : decode cX8_table 55 = .ok (.invokevirtual 140, 3) := by decide +kernel
theorem dX8_table_58 : decode cX8_table 58 = .ok (.ireturn, 1) := by decide +kernel
theorem dX8_table_59 : decode cX8_table 59 = .ok (.aload_n 0, 1) := by decide +kernel
theorem dX8_table_60 : decode cX8_table 60 = .ok (.getfield 50, 3) := by decide +kernel
theorem dX8_table_63 : decode cX8_table 63 = .ok (.iload_n 1, 1) := by decide +kernel
theorem dX8_table_64 : decode cX8_table 64 = .ok (.iload_n 3, 1) := by decide +kernel
theorem dX8_table_65 : decode cX8_table 65 = .ok (.iastore, 1) := by decide +kernel
theorem dX8_table_66 : decode cX8_table 66 = .ok (.bipush 48, 2) := by decide +kernel
theorem dX8_table_68 : decode cX8_table 68 = .ok (.iload_n 1, 1) := by decide +kernel
theorem dX8_table_69 : decode cX8_table 69 = .ok (.imul, 1) := by decide +kernel
theorem dX8_table_70 : decode cX8_table 70 = .ok (.istore 4, 2) := by decide +kernel
theorem dX8_table_72 : decode cX8_table 72 = .ok (.iload 4, 2) := by decide +kernel
theorem dX8_table_74 : decode cX8_table 74 = .ok (.bipush 48, 2) := by decide +kernel
theorem dX8_table_76 : decode cX8_table 76 = .ok (.iload_n 1, 1) := by decide +kernel
theorem dX8_table_77 : decode cX8_table 77 = .ok (.imul, 1) := by decide +kernel
theorem dX8_table_78 : decode cX8_table 78 = .ok (.bipush 48, 2) := by decide +kernel
theorem dX8_table_80 : decode cX8_table 80 = .ok (.iadd, 1) := by decide +kernel
theorem dX8_table_81 : decode cX8_table 81 = .ok (.if_icmp .ge 17, 3) := by decide +kernel
theorem dX8_table_84 : decode cX8_table 84 = .ok (.aload_n 0, 1) := by decide +kernel
theorem dX8_table_85 : decode cX8_table 85 = .ok (.getfield 53, 3) := by decide +kernel
theorem dX8_table_88 : decode cX8_table 88 = .ok (.iload 4, 2) := by decide +kernel
theorem dX8_table_90 : decode cX8_table 90 = .ok (.iconst 0, 1) := by decide +kernel
theorem dX8_table_91 : decode cX8_table 91 = .ok (.iastore, 1) := by decide +kernel
theorem dX8_table_92 : decode cX8_table 92 = .ok (.iinc 4 1, 3) := by decide +kernel
theorem dX8_table_95 : decode cX8_table 95 = .ok (.goto (-23), 3) := by decide +kernel
theorem dX8_table_98 : decode cX8_table 98 = .ok (.aload_n 0, 1) := by decide +kernel
theorem dX8_table_99 : decode cX8_table 99 = .ok (.invokevirtual 116, 3) := by decide +kernel
theorem dX8_table_102 : decode cX8_table 102 = .ok (.iload_n 3, 1) := by decide +kernel
theorem dX8_table_103 : decode cX8_table 103 = .ok (.ireturn, 1) := by decide +kernel
theorem dX8_tear_0 : decode cX8_tear 0 = .ok (.aload_n 0, 1) := by decide +kernel
theorem dX8_tear_1 : decode cX8_tear 1 = .ok (.iconst 0, 1) := by decide +kernel
theorem dX8_tear_2 : decode cX8_tear 2 = .ok (.putfield 90, 3) := by decide +kernel
theorem dX8_tear_5 : decode cX8_tear 5 = .ok (.iload_n 1, 1) := by decide +kernel
theorem dX8_tear_6 : decode cX8_tear 6 = .ok (.i2l, 1) := by decide +kernel
theorem dX8_tear_7 : decode cX8_tear 7 = .ok (.lconst 0, 1) := by decide +kernel
theorem dX8_tear_8 : decode cX8_tear 8 = .ok (.ldc2_w 127, 3) := by decide +kernel
theorem dX8_tear_11 : decode cX8_tear 11 = .ok (.invokestatic 96, 3) := by decide +kernel
theorem dX8_tear_14 : decode cX8_tear 14 = .ok (.ifCond .ne 6, 3) := by decide +kernel
theorem dX8_tear_17 : decode cX8_tear 17 = .ok (.bipush (-2), 2) := by decide +kernel
theorem dX8_tear_19 : decode cX8_tear 19 = .ok (.ireturn, 1) := by decide +kernel
theorem dX8_tear_20 : decode cX8_tear 20 = .ok (.aload_n 0, 1) := by decide +kernel
theorem dX8_tear_21 : decode cX8_tear 21 = .ok (.getfield 109, 3) := by decide +kernel
theorem dX8_tear_24 : decode cX8_tear 24 = .ok (.ifCond .le 6, 3) := by decide +kernel
theorem dX8_tear_27 : decode cX8_tear 27 = .ok (.bipush (-3), 2) := by decide +kernel
theorem dX8_tear_29 : decode cX8_tear 29 = .ok (.ireturn, 1) := by decide +kernel
theorem dX8_tear_30 : decode cX8_tear 30 = .ok (.aload_n 0, 1) := by decide +kernel
theorem dX8_tear_31 : decode cX8_tear 31 = .ok (.getfield 50, 3) := by decide +kernel
theorem dX8_tear_34 : decode cX8_tear 34 = .ok (.iload_n 1, 1) := by decide +kernel
theorem dX8_tear_35 : decode cX8_tear 35 = .ok (.iaload, 1) := by decide +kernel
theorem dX8_tear_36 : decode cX8_tear 36 = .ok (.ifCond .ge 7, 3) := by decide +kernel
theorem dX8_tear_39 : decode cX8_tear 39 = .ok (.iconst 1, 1) := by decide +kernel
theorem dX8_tear_40 : decode cX8_tear 40 = .ok (.goto 4, 3) := by decide +kernel
theorem dX8_tear_43 : decode cX8_tear 43 = .ok (.iconst 0, 1) := by decide +kernel
theorem dX8_tear_44 : decode cX8_tear 44 = .ok (.istore_n 2, 1) := by decide +kernel
theorem dX8_tear_45 : decode cX8_tear 45 = .ok (.aload_n 0, 1) := by decide +kernel
theorem dX8_tear_46 : decode cX8_tear 46 = .ok (.getfield 50, 3) := by decide +kernel
theorem dX8_tear_49 : decode cX8_tear 49 = .ok (.iload_n 1, 1) := by decide +kernel
theorem dX8_tear_50 : decode cX8_tear 50 = .ok (.iconst (-1), 1) := by decide +kernel
theorem dX8_tear_51 : decode cX8_tear 51 = .ok (.iastore, 1) := by decide +kernel
theorem dX8_tear_52 : decode cX8_tear 52 = .ok (.aload_n 0, 1) := by decide +kernel
theorem dX8_tear_53 : decode cX8_tear 53 = .ok (.invokevirtual 116, 3) := by decide +kernel
theorem dX8_tear_56 : decode cX8_tear 56 = .ok (.iload_n 2, 1) := by decide +kernel
theorem dX8_tear_57 : decode cX8_tear 57 = .ok (.ireturn, 1) := by decide +kernel
theorem dX8_cell_0 : decode cX8_cell 0 = .ok (.aload_n 0, 1) := by decide +kernel
theorem dX8_cell_1 : decode cX8_cell 1 = .ok (.iconst 0, 1) := by decide +kernel
theorem dX8_cell_2 : decode cX8_cell 2 = .ok (.putfield 90, 3) := by decide +kernel
theorem dX8_cell_5 : decode cX8_cell 5 = .ok (.iload_n 1, 1) := by decide +kernel
theorem dX8_cell_6 : decode cX8_cell 6 = .ok (.i2l, 1) := by decide +kernel
theorem dX8_cell_7 : decode cX8_cell 7 = .ok (.lconst 0, 1) := by decide +kernel
theorem dX8_cell_8 : decode cX8_cell 8 = .ok (.ldc2_w 127, 3) := by decide +kernel
theorem dX8_cell_11 : decode cX8_cell 11 = .ok (.invokestatic 96, 3) := by decide +kernel
theorem dX8_cell_14 : decode cX8_cell 14 = .ok (.ifCond .eq 15, 3) := by decide +kernel
theorem dX8_cell_17 : decode cX8_cell 17 = .ok (.iload_n 3, 1) := by decide +kernel
theorem dX8_cell_18 : decode cX8_cell 18 = .ok (.i2l, 1) := by decide +kernel
theorem dX8_cell_19 : decode cX8_cell 19 = .ok (.lconst 0, 1) := by decide +kernel
theorem dX8_cell_20 : decode cX8_cell 20 = .ok (.ldc2_w 107, 3) := by decide +kernel
theorem dX8_cell_23 : decode cX8_cell 23 = .ok (.invokestatic 96, 3) := by decide +kernel
theorem dX8_cell_26 : decode cX8_cell 26 = .ok (.ifCond .ne 6, 3) := by decide +kernel
theorem dX8_cell_29 : decode cX8_cell 29 = .ok (.bipush (-2), 2) := by decide +kernel
theorem dX8_cell_31 : decode cX8_cell 31 = .ok (.ireturn, 1) := by decide +kernel
theorem dX8_cell_32 : decode cX8_cell 32 = .ok (.aload_n 0, 1) := by decide +kernel
theorem dX8_cell_33 : decode cX8_cell 33 = .ok (.getfield 109, 3) := by decide +kernel
theorem dX8_cell_36 : decode cX8_cell 36 = .ok (.ifCond .le 6, 3) := by decide +kernel
theorem dX8_cell_39 : decode cX8_cell 39 = .ok (.bipush (-3), 2) := by decide +kernel
theorem dX8_cell_41 : decode cX8_cell 41 = .ok (.ireturn, 1) := by decide +kernel
theorem dX8_cell_42 : decode cX8_cell 42 = .ok (.aload_n 0, 1) := by decide +kernel
theorem dX8_cell_43 : decode cX8_cell 43 = .ok (.getfield 50, 3) := by decide +kernel
theorem dX8_cell_46 : decode cX8_cell 46 = .ok (.iload_n 1, 1) := by decide +kernel
theorem dX8_cell_47 : decode cX8_cell 47 = .ok (.iaload, 1) := by decide +kernel
theorem dX8_cell_48 : decode cX8_cell 48 = .ok (.ifCond .ge 10, 3) := by decide +kernel
theorem dX8_cell_51 : decode cX8_cell 51 = .ok (.aload_n 0, 1) := by decide +kernel
theorem dX8_cell_52 : decode cX8_cell 52 = .ok (.bipush (-11), 2) := by decide +kernel
theorem dX8_cell_54 : decode cX8_cell 54 = .ok (.invokevirtual 140, 3) := by decide +kernel
theorem dX8_cell_57 : decode cX8_cell 57 = .ok (.ireturn, 1) := by decide +kernel
theorem dX8_cell_58 : decode cX8_cell 58 = .ok (.iload_n 2, 1) := by decide +kernel
theorem dX8_cell_59 : decode cX8_cell 59 = .ok (.i2l, 1) := by decide +kernel
theorem dX8_cell_60 : decode cX8_cell 60 = .ok (.lconst 0, 1) := by decide +kernel
theorem dX8_cell_61 : decode cX8_cell 61 = .ok (.aload_n 0, 1) := by decide +kernel
theorem dX8_cell_62 : decode cX8_cell 62 = .ok (.getfield 50, 3) := by decide +kernel
theorem dX8_cell_65 : decode cX8_cell 65 = .ok (.iload_n 1, 1) := by decide +kernel
theorem dX8_cell_66 : decode cX8_cell 66 = .ok (.iaload, 1) := by decide +kernel
theorem dX8_cell_67 : decode cX8_cell 67 = .ok (.iconst 1, 1) := by decide +kernel
theorem dX8_cell_68 : decode cX8_cell 68 = .ok (.isub, 1) := by decide +kernel
theorem dX8_cell_69 : decode cX8_cell 69 = .ok (.i2l, 1) := by decide +kernel
theorem dX8_cell_70 : decode cX8_cell 70 = .ok (.invokestatic 96, 3) := by decide +kernel
theorem dX8_cell_73 : decode cX8_cell 73 = .ok (.ifCond .ne 10, 3) := by decide +kernel
theorem dX8_cell_76 : decode cX8_cell 76 = .ok (.aload_n 0, 1) := by decide +kernel
theorem dX8_cell_77 : decode cX8_cell 77 = .ok (.bipush (-12), 2) := by decide +kernel
theorem dX8_cell_79 : decode cX8_cell 79 = .ok (.invokevirtual 140, 3) := by decide +kernel
theorem dX8_cell_82 : decode cX8_cell 82 = .ok (.ireturn, 1) := by decide +kernel
theorem dX8_cell_83 : decode cX8_cell 83 = .ok (.aload_n 0, 1) := by decide +kernel
theorem dX8_cell_84 : decode cX8_cell 84 = .ok (.getfield 53, 3) := by decide +kernel
theorem dX8_cell_87 : decode cX8_cell 87 = .ok (.bipush 48, 2) := by decide +kernel
theorem dX8_cell_89 : decode cX8_cell 89 = .ok (.iload_n 1, 1) := by decide +kernel
theorem dX8_cell_90 : decode cX8_cell 90 = .ok (.imul, 1) := by decide +kernel
theorem dX8_cell_91 : decode cX8_cell 91 = .ok (.iload_n 2, 1) := by decide +kernel
theorem dX8_cell_92 : decode cX8_cell 92 = .ok (.iadd, 1) := by decide +kernel
theorem dX8_cell_93 : decode cX8_cell 93 = .ok (.iload_n 3, 1) := by decide +kernel
theorem dX8_cell_94 : decode cX8_cell 94 = .ok (.iastore, 1) := by decide +kernel
theorem dX8_cell_95 : decode cX8_cell 95 = .ok (.aload_n 0, 1) := by decide +kernel
theorem dX8_cell_96 : decode cX8_cell 96 = .ok (.invokevirtual 116, 3) := by decide +kernel
theorem dX8_cell_99 : decode cX8_cell 99 = .ok (.iconst 1, 1) := by decide +kernel
theorem dX8_cell_100 : decode cX8_cell 100 = .ok (.ireturn, 1) := by decide +kernel
theorem dX8_copy_0 : decode cX8_copy 0 = .ok (.aload_n 0, 1) := by decide +kernel
theorem dX8_copy_1 : decode cX8_copy 1 = .ok (.iconst 0, 1) := by decide +kernel
theorem dX8_copy_2 : decode cX8_copy 2 = .ok (.putfield 90, 3) := by decide +kernel
theorem dX8_copy_5 : decode cX8_copy 5 = .ok (.iload_n 1, 1) := by decide +kernel
theorem dX8_copy_6 : decode cX8_copy 6 = .ok (.i2l, 1) := by decide +kernel
theorem dX8_copy_7 : decode cX8_copy 7 = .ok (.lconst 0, 1) := by decide +kernel
theorem dX8_copy_8 : decode cX8_copy 8 = .ok (.ldc2_w 127, 3) := by decide +kernel
theorem dX8_copy_11 : decode cX8_copy 11 = .ok (.invokestatic 96, 3) := by decide +kernel
theorem dX8_copy_14 : decode cX8_copy 14 = .ok (.ifCond .eq 20, 3) := by decide +kernel
theorem dX8_copy_17 : decode cX8_copy 17 = .ok (.iload_n 3, 1) := by decide +kernel
theorem dX8_copy_18 : decode cX8_copy 18 = .ok (.i2l, 1) := by decide +kernel
theorem dX8_copy_19 : decode cX8_copy 19 = .ok (.lconst 0, 1) := by decide +kernel
theorem dX8_copy_20 : decode cX8_copy 20 = .ok (.ldc2_w 127, 3) := by decide +kernel
theorem dX8_copy_23 : decode cX8_copy 23 = .ok (.invokestatic 96, 3) := by decide +kernel
theorem dX8_copy_26 : decode cX8_copy 26 = .ok (.ifCond .eq 8, 3) := by decide +kernel
theorem dX8_copy_29 : decode cX8_copy 29 = .ok (.iload 5, 2) := by decide +kernel
theorem dX8_copy_31 : decode cX8_copy 31 = .ok (.ifCond .ge 6, 3) := by decide +kernel
theorem dX8_copy_34 : decode cX8_copy 34 = .ok (.bipush (-2), 2) := by decide +kernel
theorem dX8_copy_36 : decode cX8_copy 36 = .ok (.ireturn, 1) := by decide +kernel
theorem dX8_copy_37 : decode cX8_copy 37 = .ok (.aload_n 0, 1) := by decide +kernel
theorem dX8_copy_38 : decode cX8_copy 38 = .ok (.getfield 109, 3) := by decide +kernel
theorem dX8_copy_41 : decode cX8_copy 41 = .ok (.ifCond .le 6, 3) := by decide +kernel
theorem dX8_copy_44 : decode cX8_copy 44 = .ok (.bipush (-3), 2) := by decide +kernel
theorem dX8_copy_46 : decode cX8_copy 46 = .ok (.ireturn, 1) := by decide +kernel
theorem dX8_copy_47 : decode cX8_copy 47 = .ok (.aload_n 0, 1) := by decide +kernel
theorem dX8_copy_48 : decode cX8_copy 48 = .ok (.getfield 50, 3) := by decide +kernel
theorem dX8_copy_51 : decode cX8_copy 51 = .ok (.iload_n 1, 1) := by decide +kernel
theorem dX8_copy_52 : decode cX8_copy 52 = .ok (.iaload, 1) := by decide +kernel
theorem dX8_copy_53 : decode cX8_copy 53 = .ok (.ifCond .lt 12, 3) := by decide +kernel
theorem dX8_copy_56 : decode cX8_copy 56 = .ok (.aload_n 0, 1) := by decide +kernel
theorem dX8_copy_57 : decode cX8_copy 57 = .ok (.getfield 50, 3) := by decide +kernel
theorem dX8_copy_60 : decode cX8_copy 60 = .ok (.iload_n 3, 1) := by decide +kernel
theorem dX8_copy_61 : decode cX8_copy 61 = .ok (.iaload, 1) := by decide +kernel
theorem dX8_copy_62 : decode cX8_copy 62 = .ok (.ifCond .ge 10, 3) := by decide +kernel
theorem dX8_copy_65 : decode cX8_copy 65 = .ok (.aload_n 0, 1) := by decide +kernel
theorem dX8_copy_66 : decode cX8_copy 66 = .ok (.bipush (-11), 2) := by decide +kernel
theorem dX8_copy_68 : decode cX8_copy 68 = .ok (.invokevirtual 140, 3) := by decide +kernel
theorem dX8_copy_71 : decode cX8_copy 71 = .ok (.ireturn, 1) := by decide +kernel
theorem dX8_copy_72 : decode cX8_copy 72 = .ok (.iload_n 2, 1) := by decide +kernel
theorem dX8_copy_73 : decode cX8_copy 73 = .ok (.ifCond .lt 43, 3) := by decide +kernel
theorem dX8_copy_76 : decode cX8_copy 76 = .ok (.iload 4, 2) := by decide +kernel
theorem dX8_copy_78 : decode cX8_copy 78 = .ok (.ifCond .lt 38, 3) := by decide +kernel
theorem dX8_copy_81 : decode cX8_copy 81 = .ok (.iload_n 2, 1) := by decide +kernel
theorem dX8_copy_82 : decode cX8_copy 82 = .ok (.i2l, 1) := by decide +kernel
theorem dX8_copy_83 : decode cX8_copy 83 = .ok (.iload 5, 2) := by decide +kernel
theorem dX8_copy_85 : decode cX8_copy 85 = .ok (.i2l, 1) := by decide +kernel
theorem dX8_copy_86 : decode cX8_copy 86 = .ok (.ladd, 1) := by decide +kernel
theorem dX8_copy_87 : decode cX8_copy 87 = .ok (.aload_n 0, 1) := by decide +kernel
theorem dX8_copy_88 : decode cX8_copy 88 = .ok (.getfield 50, 3) := by decide +kernel
theorem dX8_copy_91 : decode cX8_copy 91 = .ok (.iload_n 1, 1) := by decide +kernel
theorem dX8_copy_92 : decode cX8_copy 92 = .ok (.iaload, 1) := by decide +kernel
theorem dX8_copy_93 : decode cX8_copy 93 = .ok (.i2l, 1) := by decide +kernel
theorem dX8_copy_94 : decode cX8_copy 94 = .ok (.lcmp, 1) := by decide +kernel
theorem dX8_copy_95 : decode cX8_copy 95 = .ok (.ifCond .gt 21, 3) := by decide +kernel
theorem dX8_copy_98 : decode cX8_copy 98 = .ok (.iload 4, 2) := by decide +kernel
theorem dX8_copy_100 : decode cX8_copy 100 = .ok (.i2l, 1) := by decide +kernel
theorem dX8_copy_101 : decode cX8_copy 101 = .ok (.iload 5, 2) := by decide +kernel
theorem dX8_copy_103 : decode cX8_copy 103 = .ok (.i2l, 1) := by decide +kernel
theorem dX8_copy_104 : decode cX8_copy 104 = .ok (.ladd, 1) := by decide +kernel
theorem dX8_copy_105 : decode cX8_copy 105 = .ok (.aload_n 0, 1) := by decide +kernel
theorem dX8_copy_106 : decode cX8_copy 106 = .ok (.getfield 50, 3) := by decide +kernel
theorem dX8_copy_109 : decode cX8_copy 109 = .ok (.iload_n 3, 1) := by decide +kernel
theorem dX8_copy_110 : decode cX8_copy 110 = .ok (.iaload, 1) := by decide +kernel
theorem dX8_copy_111 : decode cX8_copy 111 = .ok (.i2l, 1) := by decide +kernel
theorem dX8_copy_112 : decode cX8_copy 112 = .ok (.lcmp, 1) := by decide +kernel
theorem dX8_copy_113 : decode cX8_copy 113 = .ok (.ifCond .le 10, 3) := by decide +kernel
theorem dX8_copy_116 : decode cX8_copy 116 = .ok (.aload_n 0, 1) := by decide +kernel
theorem dX8_copy_117 : decode cX8_copy 117 = .ok (.bipush (-12), 2) := by decide +kernel
theorem dX8_copy_119 : decode cX8_copy 119 = .ok (.invokevirtual 140, 3) := by decide +kernel
theorem dX8_copy_122 : decode cX8_copy 122 = .ok (.ireturn, 1) := by decide +kernel
theorem dX8_copy_123 : decode cX8_copy 123 = .ok (.iconst 0, 1) := by decide +kernel
theorem dX8_copy_124 : decode cX8_copy 124 = .ok (.istore 6, 2) := by decide +kernel
theorem dX8_copy_126 : decode cX8_copy 126 = .ok (.iload 6, 2) := by decide +kernel
theorem dX8_copy_128 : decode cX8_copy 128 = .ok (.iload 5, 2) := by decide +kernel
theorem dX8_copy_130 : decode cX8_copy 130 = .ok (.if_icmp .ge 30, 3) := by decide +kernel
theorem dX8_copy_133 : decode cX8_copy 133 = .ok (.aload_n 0, 1) := by decide +kernel
theorem dX8_copy_134 : decode cX8_copy 134 = .ok (.getfield 84, 3) := by decide +kernel
theorem dX8_copy_137 : decode cX8_copy 137 = .ok (.iload 6, 2) := by decide +kernel
theorem dX8_copy_139 : decode cX8_copy 139 = .ok (.aload_n 0, 1) := by decide +kernel
theorem dX8_copy_140 : decode cX8_copy 140 = .ok (.getfield 53, 3) := by decide +kernel
theorem dX8_copy_143 : decode cX8_copy 143 = .ok (.bipush 48, 2) := by decide +kernel
theorem dX8_copy_145 : decode cX8_copy 145 = .ok (.iload_n 1, 1) := by decide +kernel
theorem dX8_copy_146 : decode cX8_copy 146 = .ok (.imul, 1) := by decide +kernel
theorem dX8_copy_147 : decode cX8_copy 147 = .ok (.iload_n 2, 1) := by decide +kernel
theorem dX8_copy_148 : decode cX8_copy 148 = .ok (.iadd, 1) := by decide +kernel
theorem dX8_copy_149 : decode cX8_copy 149 = .ok (.iload 6, 2) := by decide +kernel
theorem dX8_copy_151 : decode cX8_copy 151 = .ok (.iadd, 1) := by decide +kernel
theorem dX8_copy_152 : decode cX8_copy 152 = .ok (.iaload, 1) := by decide +kernel
theorem dX8_copy_153 : decode cX8_copy 153 = .ok (.iastore, 1) := by decide +kernel
theorem dX8_copy_154 : decode cX8_copy 154 = .ok (.iinc 6 1, 3) := by decide +kernel
theorem dX8_copy_157 : decode cX8_copy 157 = .ok (.goto (-31), 3) := by decide +kernel
theorem dX8_copy_160 : decode cX8_copy 160 = .ok (.iconst 0, 1) := by decide +kernel
theorem dX8_copy_161 : decode cX8_copy 161 = .ok (.istore 6, 2) := by decide +kernel
theorem dX8_copy_163 : decode cX8_copy 163 = .ok (.iload 6, 2) := by decide +kernel
theorem dX8_copy_165 : decode cX8_copy 165 = .ok (.iload 5, 2) := by decide +kernel
theorem dX8_copy_167 : decode cX8_copy 167 = .ok (.if_icmp .ge 31, 3) := by decide +kernel
theorem dX8_copy_170 : decode cX8_copy 170 = .ok (.aload_n 0, 1) := by decide +kernel
theorem dX8_copy_171 : decode cX8_copy 171 = .ok (.getfield 53, 3) := by decide +kernel
theorem dX8_copy_174 : decode cX8_copy 174 = .ok (.bipush 48, 2) := by decide +kernel
theorem dX8_copy_176 : decode cX8_copy 176 = .ok (.iload_n 3, 1) := by decide +kernel
theorem dX8_copy_177 : decode cX8_copy 177 = .ok (.imul, 1) := by decide +kernel
theorem dX8_copy_178 : decode cX8_copy 178 = .ok (.iload 4, 2) := by decide +kernel
theorem dX8_copy_180 : decode cX8_copy 180 = .ok (.iadd, 1) := by decide +kernel
theorem dX8_copy_181 : decode cX8_copy 181 = .ok (.iload 6, 2) := by decide +kernel
theorem dX8_copy_183 : decode cX8_copy 183 = .ok (.iadd, 1) := by decide +kernel
theorem dX8_copy_184 : decode cX8_copy 184 = .ok (.aload_n 0, 1) := by decide +kernel
theorem dX8_copy_185 : decode cX8_copy 185 = .ok (.getfield 84, 3) := by decide +kernel
theorem dX8_copy_188 : decode cX8_copy 188 = .ok (.iload 6, 2) := by decide +kernel
theorem dX8_copy_190 : decode cX8_copy 190 = .ok (.iaload, 1) := by decide +kernel
theorem dX8_copy_191 : decode cX8_copy 191 = .ok (.iastore, 1) := by decide +kernel
theorem dX8_copy_192 : decode cX8_copy 192 = .ok (.iinc 6 1, 3) := by decide +kernel
theorem dX8_copy_195 : decode cX8_copy 195 = .ok (.goto (-32), 3) := by decide +kernel
theorem dX8_copy_198 : decode cX8_copy 198 = .ok (.aload_n 0, 1) := by decide +kernel
theorem dX8_copy_199 : decode cX8_copy 199 = .ok (.invokevirtual 116, 3) := by decide +kernel
theorem dX8_copy_202 : decode cX8_copy 202 = .ok (.iload 5, 2) := by decide +kernel
theorem dX8_copy_204 : decode cX8_copy 204 = .ok (.ireturn, 1) := by decide +kernel
theorem dX8_get_0 : decode cX8_get 0 = .ok (.aload_n 0, 1) := by decide +kernel
theorem dX8_get_1 : decode cX8_get 1 = .ok (.iconst 0, 1) := by decide +kernel
theorem dX8_get_2 : decode cX8_get 2 = .ok (.putfield 90, 3) := by decide +kernel
theorem dX8_get_5 : decode cX8_get 5 = .ok (.iload_n 1, 1) := by decide +kernel
theorem dX8_get_6 : decode cX8_get 6 = .ok (.i2l, 1) := by decide +kernel
theorem dX8_get_7 : decode cX8_get 7 = .ok (.lconst 0, 1) := by decide +kernel
theorem dX8_get_8 : decode cX8_get 8 = .ok (.ldc2_w 127, 3) := by decide +kernel
theorem dX8_get_11 : decode cX8_get 11 = .ok (.invokestatic 96, 3) := by decide +kernel
theorem dX8_get_14 : decode cX8_get 14 = .ok (.ifCond .ne 6, 3) := by decide +kernel
theorem dX8_get_17 : decode cX8_get 17 = .ok (.bipush (-2), 2) := by decide +kernel
theorem dX8_get_19 : decode cX8_get 19 = .ok (.ireturn, 1) := by decide +kernel
theorem dX8_get_20 : decode cX8_get 20 = .ok (.aload_n 0, 1) := by decide +kernel
theorem dX8_get_21 : decode cX8_get 21 = .ok (.getfield 50, 3) := by decide +kernel
theorem dX8_get_24 : decode cX8_get 24 = .ok (.iload_n 1, 1) := by decide +kernel
theorem dX8_get_25 : decode cX8_get 25 = .ok (.iaload, 1) := by decide +kernel
theorem dX8_get_26 : decode cX8_get 26 = .ok (.ifCond .ge 10, 3) := by decide +kernel
theorem dX8_get_29 : decode cX8_get 29 = .ok (.aload_n 0, 1) := by decide +kernel
theorem dX8_get_30 : decode cX8_get 30 = .ok (.bipush (-11), 2) := by decide +kernel
theorem dX8_get_32 : decode cX8_get 32 = .ok (.invokevirtual 140, 3) := by decide +kernel
theorem dX8_get_35 : decode cX8_get 35 = .ok (.ireturn, 1) := by decide +kernel
theorem dX8_get_36 : decode cX8_get 36 = .ok (.iload_n 2, 1) := by decide +kernel
theorem dX8_get_37 : decode cX8_get 37 = .ok (.i2l, 1) := by decide +kernel
theorem dX8_get_38 : decode cX8_get 38 = .ok (.lconst 0, 1) := by decide +kernel
theorem dX8_get_39 : decode cX8_get 39 = .ok (.aload_n 0, 1) := by decide +kernel
theorem dX8_get_40 : decode cX8_get 40 = .ok (.getfield 50, 3) := by decide +kernel
theorem dX8_get_43 : decode cX8_get 43 = .ok (.iload_n 1, 1) := by decide +kernel
theorem dX8_get_44 : decode cX8_get 44 = .ok (.iaload, 1) := by decide +kernel
theorem dX8_get_45 : decode cX8_get 45 = .ok (.iconst 1, 1) := by decide +kernel
theorem dX8_get_46 : decode cX8_get 46 = .ok (.isub, 1) := by decide +kernel
theorem dX8_get_47 : decode cX8_get 47 = .ok (.i2l, 1) := by decide +kernel
theorem dX8_get_48 : decode cX8_get 48 = .ok (.invokestatic 96, 3) := by decide +kernel
theorem dX8_get_51 : decode cX8_get 51 = .ok (.ifCond .eq 17, 3) := by decide +kernel
theorem dX8_get_54 : decode cX8_get 54 = .ok (.aload_n 0, 1) := by decide +kernel
theorem dX8_get_55 : decode cX8_get 55 = .ok (.getfield 53, 3) := by decide +kernel
theorem dX8_get_58 : decode cX8_get 58 = .ok (.bipush 48, 2) := by decide +kernel
theorem dX8_get_60 : decode cX8_get 60 = .ok (.iload_n 1, 1) := by decide +kernel
theorem dX8_get_61 : decode cX8_get 61 = .ok (.imul, 1) := by decide +kernel
theorem dX8_get_62 : decode cX8_get 62 = .ok (.iload_n 2, 1) := by decide +kernel
theorem dX8_get_63 : decode cX8_get 63 = .ok (.iadd, 1) := by decide +kernel
theorem dX8_get_64 : decode cX8_get 64 = .ok (.iaload, 1) := by decide +kernel
theorem dX8_get_65 : decode cX8_get 65 = .ok (.goto 9, 3) := by decide +kernel
theorem dX8_get_68 : decode cX8_get 68 = .ok (.aload_n 0, 1) := by decide +kernel
theorem dX8_get_69 : decode cX8_get 69 = .ok (.bipush (-12), 2) := by decide +kernel
theorem dX8_get_71 : decode cX8_get 71 = .ok (.invokevirtual 140, 3) := by decide +kernel
theorem dX8_get_74 : decode cX8_get 74 = .ok (.ireturn, 1) := by decide +kernel
theorem dX8_about_0 : decode cX8_about 0 = .ok (.aload_n 0, 1) := by decide +kernel
theorem dX8_about_1 : decode cX8_about 1 = .ok (.iconst 0, 1) := by decide +kernel
theorem dX8_about_2 : decode cX8_about 2 = .ok (.putfield 90, 3) := by decide +kernel
theorem dX8_about_5 : decode cX8_about 5 = .ok (.aload_n 0, 1) := by decide +kernel
theorem dX8_about_6 : decode cX8_about 6 = .ok (.iload_n 1, 1) := by decide +kernel
theorem dX8_about_7 : decode cX8_about 7 = .ok (.invokevirtual 137, 3) := by decide +kernel
theorem dX8_about_10 : decode cX8_about 10 = .ok (.ifCond .eq 5, 3) := by decide +kernel
theorem dX8_about_13 : decode cX8_about 13 = .ok (.iconst (-1), 1) := by decide +kernel
theorem dX8_about_14 : decode cX8_about 14 = .ok (.ireturn, 1) := by decide +kernel
theorem dX8_about_15 : decode cX8_about 15 = .ok (.iload_n 2, 1) := by decide +kernel
theorem dX8_about_16 : decode cX8_about 16 = .ok (.i2l, 1) := by decide +kernel
theorem dX8_about_17 : decode cX8_about 17 = .ok (.lconst 0, 1) := by decide +kernel
theorem dX8_about_18 : decode cX8_about 18 = .ok (.ldc2_w 129, 3) := by decide +kernel
theorem dX8_about_21 : decode cX8_about 21 = .ok (.invokestatic 96, 3) := by decide +kernel
theorem dX8_about_24 : decode cX8_about 24 = .ok (.ifCond .ne 6, 3) := by decide +kernel
theorem dX8_about_27 : decode cX8_about 27 = .ok (.bipush (-2), 2) := by decide +kernel
theorem dX8_about_29 : decode cX8_about 29 = .ok (.ireturn, 1) := by decide +kernel
theorem dX8_about_30 : decode cX8_about 30 = .ok (.iload_n 2, 1) := by decide +kernel
theorem dX8_about_31 : decode cX8_about 31 = .ok (.ifCond .ne 7, 3) := by decide +kernel
theorem dX8_about_34 : decode cX8_about 34 = .ok (.iconst 0, 1) := by decide +kernel
theorem dX8_about_35 : decode cX8_about 35 = .ok (.goto 13, 3) := by decide +kernel
theorem dX8_about_38 : decode cX8_about 38 = .ok (.iload_n 2, 1) := by decide +kernel
theorem dX8_about_39 : decode cX8_about 39 = .ok (.iconst 1, 1) := by decide +kernel
theorem dX8_about_40 : decode cX8_about 40 = .ok (.if_icmp .ne 7, 3) := by decide +kernel
theorem dX8_about_43 : decode cX8_about 43 = .ok (.iconst 3, 1) := by decide +kernel
theorem dX8_about_44 : decode cX8_about 44 = .ok (.goto 4, 3) := by decide +kernel
theorem dX8_about_47 : decode cX8_about 47 = .ok (.iconst 2, 1) := by decide +kernel
theorem dX8_about_48 : decode cX8_about 48 = .ok (.istore_n 3, 1) := by decide +kernel
theorem dX8_about_49 : decode cX8_about 49 = .ok (.aload_n 0, 1) := by decide +kernel
theorem dX8_about_50 : decode cX8_about 50 = .ok (.getfield 25, 3) := by decide +kernel
theorem dX8_about_53 : decode cX8_about 53 = .ok (.iload_n 1, 1) := by decide +kernel
theorem dX8_about_54 : decode cX8_about 54 = .ok (.iaload, 1) := by decide +kernel
theorem dX8_about_55 : decode cX8_about 55 = .ok (.iload_n 3, 1) := by decide +kernel
theorem dX8_about_56 : decode cX8_about 56 = .ok (.if_icmp .eq 12, 3) := by decide +kernel
theorem dX8_about_59 : decode cX8_about 59 = .ok (.aload_n 0, 1) := by decide +kernel
theorem dX8_about_60 : decode cX8_about 60 = .ok (.bipush (-13), 2) := by decide +kernel
theorem dX8_about_62 : decode cX8_about 62 = .ok (.invokevirtual 140, 3) := by decide +kernel
theorem dX8_about_65 : decode cX8_about 65 = .ok (.goto 22, 3) := by decide +kernel
theorem dX8_about_68 : decode cX8_about 68 = .ok (.iload_n 2, 1) := by decide +kernel
theorem dX8_about_69 : decode cX8_about 69 = .ok (.ifCond .ne 12, 3) := by decide +kernel
theorem dX8_about_72 : decode cX8_about 72 = .ok (.aload_n 0, 1) := by decide +kernel
theorem dX8_about_73 : decode cX8_about 73 = .ok (.getfield 31, 3) := by decide +kernel
theorem dX8_about_76 : decode cX8_about 76 = .ok (.iload_n 1, 1) := by decide +kernel
theorem dX8_about_77 : decode cX8_about 77 = .ok (.iaload, 1) := by decide +kernel
theorem dX8_about_78 : decode cX8_about 78 = .ok (.goto 9, 3) := by decide +kernel
theorem dX8_about_81 : decode cX8_about 81 = .ok (.aload_n 0, 1) := by decide +kernel
theorem dX8_about_82 : decode cX8_about 82 = .ok (.getfield 28, 3) := by decide +kernel
theorem dX8_about_85 : decode cX8_about 85 = .ok (.iload_n 1, 1) := by decide +kernel
theorem dX8_about_86 : decode cX8_about 86 = .ok (.iaload, 1) := by decide +kernel
theorem dX8_about_87 : decode cX8_about 87 = .ok (.ireturn, 1) := by decide +kernel
theorem dX8_asideOf_0 : decode cX8_asideOf 0 = .ok (.aload_n 0, 1) := by decide +kernel
theorem dX8_asideOf_1 : decode cX8_asideOf 1 = .ok (.getfield 78, 3) := by decide +kernel
theorem dX8_asideOf_4 : decode cX8_asideOf 4 = .ok (.aload_n 0, 1) := by decide +kernel
theorem dX8_asideOf_5 : decode cX8_asideOf 5 = .ok (.getfield 41, 3) := by decide +kernel
theorem dX8_asideOf_8 : decode cX8_asideOf 8 = .ok (.bipush 6, 2) := by decide +kernel
theorem dX8_asideOf_10 : decode cX8_asideOf 10 = .ok (.iload_n 1, 1) := by decide +kernel
theorem dX8_asideOf_11 : decode cX8_asideOf 11 = .ok (.imul, 1) := by decide +kernel
theorem dX8_asideOf_12 : decode cX8_asideOf 12 = .ok (.iload_n 2, 1) := by decide +kernel
theorem dX8_asideOf_13 : decode cX8_asideOf 13 = .ok (.iadd, 1) := by decide +kernel
theorem dX8_asideOf_14 : decode cX8_asideOf 14 = .ok (.iaload, 1) := by decide +kernel
theorem dX8_asideOf_15 : decode cX8_asideOf 15 = .ok (.iaload, 1) := by decide +kernel
theorem dX8_asideOf_16 : decode cX8_asideOf 16 = .ok (.ireturn, 1) := by decide +kernel
theorem dX8_end_0 : decode cX8_end 0 = .ok (.aload_n 0, 1) := by decide +kernel
theorem dX8_end_1 : decode cX8_end 1 = .ok (.getfield 44, 3) := by decide +kernel
theorem dX8_end_4 : decode cX8_end 4 = .ok (.bipush 6, 2) := by decide +kernel
theorem dX8_end_6 : decode cX8_end 6 = .ok (.iload_n 1, 1) := by decide +kernel
theorem dX8_end_7 : decode cX8_end 7 = .ok (.imul, 1) := by decide +kernel
theorem dX8_end_8 : decode cX8_end 8 = .ok (.iload_n 2, 1) := by decide +kernel
theorem dX8_end_9 : decode cX8_end 9 = .ok (.iadd, 1) := by decide +kernel
theorem dX8_end_10 : decode cX8_end 10 = .ok (.iaload, 1) := by decide +kernel
theorem dX8_end_11 : decode cX8_end 11 = .ok (.istore 4, 2) := by decide +kernel
theorem dX8_end_13 : decode cX8_end 13 = .ok (.aload_n 0, 1) := by decide +kernel
theorem dX8_end_14 : decode cX8_end 14 = .ok (.iload_n 1, 1) := by decide +kernel
theorem dX8_end_15 : decode cX8_end 15 = .ok (.iload_n 2, 1) := by decide +kernel
theorem dX8_end_16 : decode cX8_end 16 = .ok (.invokevirtual 155, 3) := by decide +kernel
theorem dX8_end_19 : decode cX8_end 19 = .ok (.istore 5, 2) := by decide +kernel
theorem dX8_end_21 : decode cX8_end 21 = .ok (.iload 4, 2) := by decide +kernel
theorem dX8_end_23 : decode cX8_end 23 = .ok (.iload 4, 2) := by decide +kernel
theorem dX8_end_25 : decode cX8_end 25 = .ok (.ifCond .le 7, 3) := by decide +kernel
theorem dX8_end_28 : decode cX8_end 28 = .ok (.iconst 1, 1) := by decide +kernel
theorem dX8_end_29 : decode cX8_end 29 = .ok (.goto 4, 3) := by decide +kernel
theorem dX8_end_32 : decode cX8_end 32 = .ok (.iconst 0, 1) := by decide +kernel
theorem dX8_end_33 : decode cX8_end 33 = .ok (.iload_n 3, 1) := by decide +kernel
theorem dX8_end_34 : decode cX8_end 34 = .ok (.if_icmp .ne 11, 3) := by decide +kernel
theorem dX8_end_37 : decode cX8_end 37 = .ok (.iload 5, 2) := by decide +kernel
theorem dX8_end_39 : decode cX8_end 39 = .ok (.invokestatic 158, 3) := by decide +kernel
theorem dX8_end_42 : decode cX8_end 42 = .ok (.goto 8, 3) := by decide +kernel
theorem dX8_end_45 : decode cX8_end 45 = .ok (.iload 5, 2) := by decide +kernel
theorem dX8_end_47 : decode cX8_end 47 = .ok (.invokestatic 161, 3) := by decide +kernel
theorem dX8_end_50 : decode cX8_end 50 = .ok (.imul, 1) := by decide +kernel
theorem dX8_end_51 : decode cX8_end 51 = .ok (.ireturn, 1) := by decide +kernel
theorem dX8_goesBySum_0 : decode cX8_goesBySum 0 = .ok (.aload_n 0, 1) := by decide +kernel
theorem dX8_goesBySum_1 : decode cX8_goesBySum 1 = .ok (.getfield 44, 3) := by decide +kernel
theorem dX8_goesBySum_4 : decode cX8_goesBySum 4 = .ok (.bipush 6, 2) := by decide +kernel
theorem dX8_goesBySum_6 : decode cX8_goesBySum 6 = .ok (.iload_n 1, 1) := by decide +kernel
theorem dX8_goesBySum_7 : decode cX8_goesBySum 7 = .ok (.imul, 1) := by decide +kernel
theorem dX8_goesBySum_8 : decode cX8_goesBySum 8 = .ok (.iload_n 2, 1) := by decide +kernel
theorem dX8_goesBySum_9 : decode cX8_goesBySum 9 = .ok (.iadd, 1) := by decide +kernel
theorem dX8_goesBySum_10 : decode cX8_goesBySum 10 = .ok (.iaload, 1) := by decide +kernel
theorem dX8_goesBySum_11 : decode cX8_goesBySum 11 = .ok (.iload_n 3, 1) := by decide +kernel
theorem dX8_goesBySum_12 : decode cX8_goesBySum 12 = .ok (.imul, 1) := by decide +kernel
theorem dX8_goesBySum_13 : decode cX8_goesBySum 13 = .ok (.istore 4, 2) := by decide +kernel
theorem dX8_goesBySum_15 : decode cX8_goesBySum 15 = .ok (.iload 4, 2) := by decide +kernel
theorem dX8_goesBySum_17 : decode cX8_goesBySum 17 = .ok (.istore 5, 2) := by decide +kernel
theorem dX8_goesBySum_19 : decode cX8_goesBySum 19 = .ok (.iconst 1, 1) := by decide +kernel
theorem dX8_goesBySum_20 : decode cX8_goesBySum 20 = .ok (.istore 6, 2) := by decide +kernel
theorem dX8_goesBySum_22 : decode cX8_goesBySum 22 = .ok (.iconst 0, 1) := by decide +kernel
theorem dX8_goesBySum_23 : decode cX8_goesBySum 23 = .ok (.istore 7, 2) := by decide +kernel
theorem dX8_goesBySum_25 : decode cX8_goesBySum 25 = .ok (.iload 7, 2) := by decide +kernel
theorem dX8_goesBySum_27 : decode cX8_goesBySum 27 = .ok (.aload_n 0, 1) := by decide +kernel
theorem dX8_goesBySum_28 : decode cX8_goesBySum 28 = .ok (.getfield 38, 3) := by decide +kernel
theorem dX8_goesBySum_31 : decode cX8_goesBySum 31 = .ok (.iload_n 1, 1) := by decide +kernel
theorem dX8_goesBySum_32 : decode cX8_goesBySum 32 = .ok (.iaload, 1) := by decide +kernel
theorem dX8_goesBySum_33 : decode cX8_goesBySum 33 = .ok (.if_icmp .ge 67, 3) := by decide +kernel
theorem dX8_goesBySum_36 : decode cX8_goesBySum 36 = .ok (.iload 7, 2) := by decide +kernel
theorem dX8_goesBySum_38 : decode cX8_goesBySum 38 = .ok (.iload_n 2, 1) := by decide +kernel
theorem dX8_goesBySum_39 : decode cX8_goesBySum 39 = .ok (.if_icmp .eq 55, 3) := by decide +kernel
theorem dX8_goesBySum_42 : decode cX8_goesBySum 42 = .ok (.iload 4, 2) := by decide +kernel
theorem dX8_goesBySum_44 : decode cX8_goesBySum 44 = .ok (.aload_n 0, 1) := by decide +kernel
theorem dX8_goesBySum_45 : decode cX8_goesBySum 45 = .ok (.iload_n 1, 1) := by decide +kernel
theorem dX8_goesBySum_46 : decode cX8_goesBySum 46 = .ok (.iload 7, 2) := by decide +kernel
theorem dX8_goesBySum_48 : decode cX8_goesBySum 48 = .ok (.iconst 0, 1) := by decide +kernel
theorem dX8_goesBySum_49 : decode cX8_goesBySum 49 = .ok (.invokevirtual 164, 3) := by decide +kernel
theorem dX8_goesBySum_52 : decode cX8_goesBySum 52 = .ok (.iadd, 1) := by decide +kernel
theorem dX8_goesBySum_53 : decode cX8_goesBySum 53 = .ok (.istore 4, 2) := by decide +kernel
theorem dX8_goesBySum_55 : decode cX8_goesBySum 55 = .ok (.iload 5, 2) := by decide +kernel
theorem dX8_goesBySum_57 : decode cX8_goesBySum 57 = .ok (.aload_n 0, 1) := by decide +kernel
theorem dX8_goesBySum_58 : decode cX8_goesBySum 58 = .ok (.iload_n 1, 1) := by decide +kernel
theorem dX8_goesBySum_59 : decode cX8_goesBySum 59 = .ok (.iload 7, 2) := by decide +kernel
theorem dX8_goesBySum_61 : decode cX8_goesBySum 61 = .ok (.iconst 1, 1) := by decide +kernel
theorem dX8_goesBySum_62 : decode cX8_goesBySum 62 = .ok (.invokevirtual 164, 3) := by decide +kernel
theorem dX8_goesBySum_65 : decode cX8_goesBySum 65 = .ok (.iadd, 1) := by decide +kernel
theorem dX8_goesBySum_66 : decode cX8_goesBySum 66 = .ok (.istore 5, 2) := by decide +kernel
theorem dX8_goesBySum_68 : decode cX8_goesBySum 68 = .ok (.iload 6, 2) := by decide +kernel
theorem dX8_goesBySum_70 : decode cX8_goesBySum 70 = .ok (.ifCond .eq 21, 3) := by decide +kernel
theorem dX8_goesBySum_73 : decode cX8_goesBySum 73 = .ok (.aload_n 0, 1) := by decide +kernel
theorem dX8_goesBySum_74 : decode cX8_goesBySum 74 = .ok (.iload_n 1, 1) := by decide +kernel
theorem dX8_goesBySum_75 : decode cX8_goesBySum 75 = .ok (.iload 7, 2) := by decide +kernel
theorem dX8_goesBySum_77 : decode cX8_goesBySum 77 = .ok (.invokevirtual 155, 3) := by decide +kernel
theorem dX8_goesBySum_80 : decode cX8_goesBySum 80 = .ok (.invokestatic 123, 3) := by decide +kernel
theorem dX8_goesBySum_83 : decode cX8_goesBySum 83 = .ok (.iconst 1, 1) := by decide +kernel
theorem dX8_goesBySum_84 : decode cX8_goesBySum 84 = .ok (.if_icmp .ne 7, 3) := by decide +kernel
theorem dX8_goesBySum_87 : decode cX8_goesBySum 87 = .ok (.iconst 1, 1) := by decide +kernel
theorem dX8_goesBySum_88 : decode cX8_goesBySum 88 = .ok (.goto 4, 3) := by decide +kernel
theorem dX8_goesBySum_91 : decode cX8_goesBySum 91 = .ok (.iconst 0, 1) := by decide +kernel
theorem dX8_goesBySum_92 : decode cX8_goesBySum 92 = .ok (.istore 6, 2) := by decide +kernel
theorem dX8_goesBySum_94 : decode cX8_goesBySum 94 = .ok (.iinc 7 1, 3) := by decide +kernel
theorem dX8_goesBySum_97 : decode cX8_goesBySum 97 = .ok (.goto (-72), 3) := by decide +kernel
theorem dX8_goesBySum_100 : decode cX8_goesBySum 100 = .ok (.aload_n 0, 1) := by decide +kernel
theorem dX8_goesBySum_101 : decode cX8_goesBySum 101 = .ok (.getfield 28, 3) := by decide +kernel
theorem dX8_goesBySum_104 : decode cX8_goesBySum 104 = .ok (.iload_n 1, 1) := by decide +kernel
theorem dX8_goesBySum_105 : decode cX8_goesBySum 105 = .ok (.iaload, 1) := by decide +kernel
theorem dX8_goesBySum_106 : decode cX8_goesBySum 106 = .ok (.istore 7, 2) := by decide +kernel
theorem dX8_goesBySum_108 : decode cX8_goesBySum 108 = .ok (.aload_n 0, 1) := by decide +kernel
theorem dX8_goesBySum_109 : decode cX8_goesBySum 109 = .ok (.getfield 31, 3) := by decide +kernel
theorem dX8_goesBySum_112 : decode cX8_goesBySum 112 = .ok (.iload_n 1, 1) := by decide +kernel
theorem dX8_goesBySum_113 : decode cX8_goesBySum 113 = .ok (.iaload, 1) := by decide +kernel
theorem dX8_goesBySum_114 : decode cX8_goesBySum 114 = .ok (.istore 8, 2) := by decide +kernel
theorem dX8_goesBySum_116 : decode cX8_goesBySum 116 = .ok (.iload 7, 2) := by decide +kernel
theorem dX8_goesBySum_118 : decode cX8_goesBySum 118 = .ok (.iconst 2, 1) := by decide +kernel
theorem dX8_goesBySum_119 : decode cX8_goesBySum 119 = .ok (.if_icmp .ne 23, 3) := by decide +kernel
theorem dX8_goesBySum_122 : decode cX8_goesBySum 122 = .ok (.iload 6, 2) := by decide +kernel
theorem dX8_goesBySum_124 : decode cX8_goesBySum 124 = .ok (.ifCond .eq 14, 3) := by decide +kernel
theorem dX8_goesBySum_127 : decode cX8_goesBySum 127 = .ok (.iload 4, 2) := by decide +kernel
theorem dX8_goesBySum_129 : decode cX8_goesBySum 129 = .ok (.iload 8, 2) := by decide +kernel
theorem dX8_goesBySum_131 : decode cX8_goesBySum 131 = .ok (.if_icmp .ne 7, 3) := by decide +kernel
theorem dX8_goesBySum_134 : decode cX8_goesBySum 134 = .ok (.iconst 1, 1) := by decide +kernel
theorem dX8_goesBySum_135 : decode cX8_goesBySum 135 = .ok (.goto 32, 3) := by decide +kernel
theorem dX8_goesBySum_138 : decode cX8_goesBySum 138 = .ok (.iconst 0, 1) := by decide +kernel
theorem dX8_goesBySum_139 : decode cX8_goesBySum 139 = .ok (.goto 28, 3) := by decide +kernel
theorem dX8_goesBySum_142 : decode cX8_goesBySum 142 = .ok (.iload 4, 2) := by decide +kernel
theorem dX8_goesBySum_144 : decode cX8_goesBySum 144 = .ok (.iload 8, 2) := by decide +kernel
theorem dX8_goesBySum_146 : decode cX8_goesBySum 146 = .ok (.if_icmp .gt 16, 3) := by decide +kernel
theorem dX8_goesBySum_149 : decode cX8_goesBySum 149 = .ok (.iload 7, 2) := by decide +kernel
theorem dX8_goesBySum_151 : decode cX8_goesBySum 151 = .ok (.iconst 1, 1) := by decide +kernel
theorem dX8_goesBySum_152 : decode cX8_goesBySum 152 = .ok (.if_icmp .ne 14, 3) := by decide +kernel
theorem dX8_goesBySum_155 : decode cX8_goesBySum 155 = .ok (.iload 5, 2) := by decide +kernel
theorem dX8_goesBySum_157 : decode cX8_goesBySum 157 = .ok (.iload 8, 2) := by decide +kernel
theorem dX8_goesBySum_159 : decode cX8_goesBySum 159 = .ok (.if_icmp .ge 7, 3) := by decide +kernel
theorem dX8_goesBySum_162 : decode cX8_goesBySum 162 = .ok (.iconst 1, 1) := by decide +kernel
theorem dX8_goesBySum_163 : decode cX8_goesBySum 163 = .ok (.goto 4, 3) := by decide +kernel
theorem dX8_goesBySum_166 : decode cX8_goesBySum 166 = .ok (.iconst 0, 1) := by decide +kernel
theorem dX8_goesBySum_167 : decode cX8_goesBySum 167 = .ok (.ireturn, 1) := by decide +kernel
theorem dX8_goesByUnlike_0 : decode cX8_goesByUnlike 0 = .ok (.iconst 1, 1) := by decide +kernel
theorem dX8_goesByUnlike_1 : decode cX8_goesByUnlike 1 = .ok (.istore 4, 2) := by decide +kernel
theorem dX8_goesByUnlike_3 : decode cX8_goesByUnlike 3 = .ok (.iload 4, 2) := by decide +kernel
theorem dX8_goesByUnlike_5 : decode cX8_goesByUnlike 5 = .ok (.iconst 1, 1) := by decide +kernel
theorem dX8_goesByUnlike_6 : decode cX8_goesByUnlike 6 = .ok (.aload_n 0, 1) := by decide +kernel
theorem dX8_goesByUnlike_7 : decode cX8_goesByUnlike 7 = .ok (.getfield 38, 3) := by decide +kernel
theorem dX8_goesByUnlike_10 : decode cX8_goesByUnlike 10 = .ok (.iload_n 1, 1) := by decide +kernel
theorem dX8_goesByUnlike_11 : decode cX8_goesByUnlike 11 = .ok (.iaload, 1) := by decide +kernel
theorem dX8_goesByUnlike_12 : decode cX8_goesByUnlike 12 = .ok (.ishl, 1) := by decide +kernel
theorem dX8_goesByUnlike_13 : decode cX8_goesByUnlike 13 = .ok (.if_icmp .ge 82, 3) := by decide +kernel
theorem dX8_goesByUnlike_16 : decode cX8_goesByUnlike 16 = .ok (.iconst 0, 1) := by decide +kernel
theorem dX8_goesByUnlike_17 : decode cX8_goesByUnlike 17 = .ok (.istore 5, 2) := by decide +kernel
theorem dX8_goesByUnlike_19 : decode cX8_goesByUnlike 19 = .ok (.iconst 0, 1) := by decide +kernel
theorem dX8_goesByUnlike_20 : decode cX8_goesByUnlike 20 = .ok (.istore 6, 2) := by decide +kernel
theorem dX8_goesByUnlike_22 : decode cX8_goesByUnlike 22 = .ok (.iload 6, 2) := by decide +kernel
theorem dX8_goesByUnlike_24 : decode cX8_goesByUnlike 24 = .ok (.aload_n 0, 1) := by decide +kernel
theorem dX8_goesByUnlike_25 : decode cX8_goesByUnlike 25 = .ok (.getfield 38, 3) := by decide +kernel
theorem dX8_goesByUnlike_28 : decode cX8_goesByUnlike 28 = .ok (.iload_n 1, 1) := by decide +kernel
theorem dX8_goesByUnlike_29 : decode cX8_goesByUnlike 29 = .ok (.iaload, 1) := by decide +kernel
theorem dX8_goesByUnlike_30 : decode cX8_goesByUnlike 30 = .ok (.if_icmp .ge 44, 3) := by decide +kernel
theorem dX8_goesByUnlike_33 : decode cX8_goesByUnlike 33 = .ok (.iload 4, 2) := by decide +kernel
theorem dX8_goesByUnlike_35 : decode cX8_goesByUnlike 35 = .ok (.iload 6, 2) := by decide +kernel
theorem dX8_goesByUnlike_37 : decode cX8_goesByUnlike 37 = .ok (.ishr, 1) := by decide +kernel
theorem dX8_goesByUnlike_38 : decode cX8_goesByUnlike 38 = .ok (.iconst 1, 1) := by decide +kernel
theorem dX8_goesByUnlike_39 : decode cX8_goesByUnlike 39 = .ok (.iand, 1) := by decide +kernel
theorem dX8_goesByUnlike_40 : decode cX8_goesByUnlike 40 = .ok (.iconst 1, 1) := by decide +kernel
theorem dX8_goesByUnlike_41 : decode cX8_goesByUnlike 41 = .ok (.if_icmp .ne 27, 3) := by decide +kernel
theorem dX8_goesByUnlike_44 : decode cX8_goesByUnlike 44 = .ok (.iload 5, 2) := by decide +kernel
theorem dX8_goesByUnlike_46 : decode cX8_goesByUnlike 46 = .ok (.iload 6, 2) := by decide +kernel
theorem dX8_goesByUnlike_48 : decode cX8_goesByUnlike 48 = .ok (.iload_n 2, 1) := by decide +kernel
theorem dX8_goesByUnlike_49 : decode cX8_goesByUnlike 49 = .ok (.if_icmp .ne 9, 3) := by decide +kernel
theorem dX8_goesByUnlike_52 : decode cX8_goesByUnlike 52 = .ok (.iconst 1, 1) := by decide +kernel
theorem dX8_goesByUnlike_53 : decode cX8_goesByUnlike 53 = .ok (.iload_n 3, 1) := by decide +kernel
theorem dX8_goesByUnlike_54 : decode cX8_goesByUnlike 54 = .ok (.ishl, 1) := by decide +kernel
theorem dX8_goesByUnlike_55 : decode cX8_goesByUnlike 55 = .ok (.goto 10, 3) := by decide +kernel
theorem dX8_goesByUnlike_58 : decode cX8_goesByUnlike 58 = .ok (.aload_n 0, 1) := by decide +kernel
theorem dX8_goesByUnlike_59 : decode cX8_goesByUnlike 59 = .ok (.iload_n 1, 1) := by decide +kernel
theorem dX8_goesByUnlike_60 : decode cX8_goesByUnlike 60 = .ok (.iload 6, 2) := by decide +kernel
theorem dX8_goesByUnlike_62 : decode cX8_goesByUnlike 62 = .ok (.invokevirtual 155, 3) := by decide +kernel
theorem dX8_goesByUnlike_65 : decode cX8_goesByUnlike 65 = .ok (.ior, 1) := by decide +kernel
theorem dX8_goesByUnlike_66 : decode cX8_goesByUnlike 66 = .ok (.istore 5, 2) := by decide +kernel
theorem dX8_goesByUnlike_68 : decode cX8_goesByUnlike 68 = .ok (.iinc 6 1, 3) := by decide +kernel
theorem dX8_goesByUnlike_71 : decode cX8_goesByUnlike 71 = .ok (.goto (-49), 3) := by decide +kernel
theorem dX8_goesByUnlike_74 : decode cX8_goesByUnlike 74 = .ok (.iload 5, 2) := by decide +kernel
theorem dX8_goesByUnlike_76 : decode cX8_goesByUnlike 76 = .ok (.invokestatic 123, 3) := by decide +kernel
theorem dX8_goesByUnlike_79 : decode cX8_goesByUnlike 79 = .ok (.iload 4, 2) := by decide +kernel
theorem dX8_goesByUnlike_81 : decode cX8_goesByUnlike 81 = .ok (.invokestatic 123, 3) := by decide +kernel
theorem dX8_goesByUnlike_84 : decode cX8_goesByUnlike 84 = .ok (.if_icmp .ge 5, 3) := by decide +kernel
theorem dX8_goesByUnlike_87 : decode cX8_goesByUnlike 87 = .ok (.iconst 1, 1) := by decide +kernel
theorem dX8_goesByUnlike_88 : decode cX8_goesByUnlike 88 = .ok (.ireturn, 1) := by decide +kernel
theorem dX8_goesByUnlike_89 : decode cX8_goesByUnlike 89 = .ok (.iinc 4 1, 3) := by decide +kernel
theorem dX8_goesByUnlike_92 : decode cX8_goesByUnlike 92 = .ok (.goto (-89), 3) := by decide +kernel
theorem dX8_goesByUnlike_95 : decode cX8_goesByUnlike 95 = .ok (.iconst 0, 1) := by decide +kernel
theorem dX8_goesByUnlike_96 : decode cX8_goesByUnlike 96 = .ok (.ireturn, 1) := by decide +kernel
theorem dX8_goesByTable_0 : decode cX8_goesByTable 0 = .ok (.aload_n 0, 1) := by decide +kernel
theorem dX8_goesByTable_1 : decode cX8_goesByTable 1 = .ok (.getfield 28, 3) := by decide +kernel
theorem dX8_goesByTable_4 : decode cX8_goesByTable 4 = .ok (.iload_n 1, 1) := by decide +kernel
theorem dX8_goesByTable_5 : decode cX8_goesByTable 5 = .ok (.iaload, 1) := by decide +kernel
theorem dX8_goesByTable_6 : decode cX8_goesByTable 6 = .ok (.istore 4, 2) := by decide +kernel
theorem dX8_goesByTable_8 : decode cX8_goesByTable 8 = .ok (.aload_n 0, 1) := by decide +kernel
theorem dX8_goesByTable_9 : decode cX8_goesByTable 9 = .ok (.getfield 38, 3) := by decide +kernel
theorem dX8_goesByTable_12 : decode cX8_goesByTable 12 = .ok (.iload_n 1, 1) := by decide +kernel
theorem dX8_goesByTable_13 : decode cX8_goesByTable 13 = .ok (.iaload, 1) := by decide +kernel
theorem dX8_goesByTable_14 : decode cX8_goesByTable 14 = .ok (.istore 5, 2) := by decide +kernel
theorem dX8_goesByTable_16 : decode cX8_goesByTable 16 = .ok (.iconst 0, 1) := by decide +kernel
theorem dX8_goesByTable_17 : decode cX8_goesByTable 17 = .ok (.istore 6, 2) := by decide +kernel
theorem dX8_goesByTable_19 : decode cX8_goesByTable 19 = .ok (.aload_n 0, 1) := by decide +kernel
theorem dX8_goesByTable_20 : decode cX8_goesByTable 20 = .ok (.getfield 50, 3) := by decide +kernel
theorem dX8_goesByTable_23 : decode cX8_goesByTable 23 = .ok (.iload 4, 2) := by decide +kernel
theorem dX8_goesByTable_25 : decode cX8_goesByTable 25 = .ok (.iaload, 1) := by decide +kernel
theorem dX8_goesByTable_26 : decode cX8_goesByTable 26 = .ok (.ifCond .lt 115, 3) := by decide +kernel
theorem dX8_goesByTable_29 : decode cX8_goesByTable 29 = .ok (.iload 6, 2) := by decide +kernel
theorem dX8_goesByTable_31 : decode cX8_goesByTable 31 = .ok (.iload 5, 2) := by decide +kernel
theorem dX8_goesByTable_33 : decode cX8_goesByTable 33 = .ok (.iadd, 1) := by decide +kernel
theorem dX8_goesByTable_34 : decode cX8_goesByTable 34 = .ok (.aload_n 0, 1) := by decide +kernel
theorem dX8_goesByTable_35 : decode cX8_goesByTable 35 = .ok (.getfield 50, 3) := by decide +kernel
theorem dX8_goesByTable_38 : decode cX8_goesByTable 38 = .ok (.iload 4, 2) := by decide +kernel
theorem dX8_goesByTable_40 : decode cX8_goesByTable 40 = .ok (.iaload, 1) := by decide +kernel
theorem dX8_goesByTable_41 : decode cX8_goesByTable 41 = .ok (.if_icmp .gt 100, 3) := by decide +kernel
theorem dX8_goesByTable_44 : decode cX8_goesByTable 44 = .ok (.iconst 1, 1) := by decide +kernel
theorem dX8_goesByTable_45 : decode cX8_goesByTable 45 = .ok (.istore 7, 2) := by decide +kernel
theorem dX8_goesByTable_47 : decode cX8_goesByTable 47 = .ok (.iconst 0, 1) := by decide +kernel
theorem dX8_goesByTable_48 : decode cX8_goesByTable 48 = .ok (.istore 8, 2) := by decide +kernel
theorem dX8_goesByTable_50 : decode cX8_goesByTable 50 = .ok (.iload 8, 2) := by decide +kernel
theorem dX8_goesByTable_52 : decode cX8_goesByTable 52 = .ok (.iload 5, 2) := by decide +kernel
theorem dX8_goesByTable_54 : decode cX8_goesByTable 54 = .ok (.if_icmp .ge 70, 3) := by decide +kernel
theorem dX8_goesByTable_57 : decode cX8_goesByTable 57 = .ok (.aload_n 0, 1) := by decide +kernel
theorem dX8_goesByTable_58 : decode cX8_goesByTable 58 = .ok (.getfield 53, 3) := by decide +kernel
theorem dX8_goesByTable_61 : decode cX8_goesByTable 61 = .ok (.bipush 48, 2) := by decide +kernel
theorem dX8_goesByTable_63 : decode cX8_goesByTable 63 = .ok (.iload 4, 2) := by decide +kernel
theorem dX8_goesByTable_65 : decode cX8_goesByTable 65 = .ok (.imul, 1) := by decide +kernel
theorem dX8_goesByTable_66 : decode cX8_goesByTable 66 = .ok (.iload 6, 2) := by decide +kernel
theorem dX8_goesByTable_68 : decode cX8_goesByTable 68 = .ok (.iadd, 1) := by decide +kernel
theorem dX8_goesByTable_69 : decode cX8_goesByTable 69 = .ok (.iload 8, 2) := by decide +kernel
theorem dX8_goesByTable_71 : decode cX8_goesByTable 71 = .ok (.iadd, 1) := by decide +kernel
theorem dX8_goesByTable_72 : decode cX8_goesByTable 72 = .ok (.iaload, 1) := by decide +kernel
theorem dX8_goesByTable_73 : decode cX8_goesByTable 73 = .ok (.istore 9, 2) := by decide +kernel
theorem dX8_goesByTable_75 : decode cX8_goesByTable 75 = .ok (.iload 7, 2) := by decide +kernel
theorem dX8_goesByTable_77 : decode cX8_goesByTable 77 = .ok (.ifCond .eq 38, 3) := by decide +kernel
theorem dX8_goesByTable_80 : decode cX8_goesByTable 80 = .ok (.iload 8, 2) := by decide +kernel
theorem dX8_goesByTable_82 : decode cX8_goesByTable 82 = .ok (.iload_n 2, 1) := by decide +kernel
theorem dX8_goesByTable_83 : decode cX8_goesByTable 83 = .ok (.if_icmp .ne 12, 3) := by decide +kernel
theorem dX8_goesByTable_86 : decode cX8_goesByTable 86 = .ok (.iload 9, 2) := by decide +kernel
theorem dX8_goesByTable_88 : decode cX8_goesByTable 88 = .ok (.iload_n 3, 1) := by decide +kernel
theorem dX8_goesByTable_89 : decode cX8_goesByTable 89 = .ok (.if_icmp .ne 26, 3) := by decide +kernel
theorem dX8_goesByTable_92 : decode cX8_goesByTable 92 = .ok (.goto 19, 3) := by decide +kernel
theorem dX8_goesByTable_95 : decode cX8_goesByTable 95 = .ok (.aload_n 0, 1) := by decide +kernel
theorem dX8_goesByTable_96 : decode cX8_goesByTable 96 = .ok (.iload_n 1, 1) := by decide +kernel
theorem dX8_goesByTable_97 : decode cX8_goesByTable 97 = .ok (.iload 8, 2) := by decide +kernel
theorem dX8_goesByTable_99 : decode cX8_goesByTable 99 = .ok (.invokevirtual 155, 3) := by decide +kernel
theorem dX8_goesByTable_102 : decode cX8_goesByTable 102 = .ok (.iload 9, 2) := by decide +kernel
theorem dX8_goesByTable_104 : decode cX8_goesByTable 104 = .ok (.ishr, 1) := by decide +kernel
theorem dX8_goesByTable_105 : decode cX8_goesByTable 105 = .ok (.iconst 1, 1) := by decide +kernel
theorem dX8_goesByTable_106 : decode cX8_goesByTable 106 = .ok (.iand, 1) := by decide +kernel
theorem dX8_goesByTable_107 : decode cX8_goesByTable 107 = .ok (.iconst 1, 1) := by decide +kernel
theorem dX8_goesByTable_108 : decode cX8_goesByTable 108 = .ok (.if_icmp .ne 7, 3) := by decide +kernel
theorem dX8_goesByTable_111 : decode cX8_goesByTable 111 = .ok (.iconst 1, 1) := by decide +kernel
theorem dX8_goesByTable_112 : decode cX8_goesByTable 112 = .ok (.goto 4, 3) := by decide +kernel
theorem dX8_goesByTable_115 : decode cX8_goesByTable 115 = .ok (.iconst 0, 1) := by decide +kernel
theorem dX8_goesByTable_116 : decode cX8_goesByTable 116 = .ok (.istore 7, 2) := by decide +kernel
theorem dX8_goesByTable_118 : decode cX8_goesByTable 118 = .ok (.iinc 8 1, 3) := by decide +kernel
theorem dX8_goesByTable_121 : decode cX8_goesByTable 121 = .ok (.goto (-71), 3) := by decide +kernel
theorem dX8_goesByTable_124 : decode cX8_goesByTable 124 = .ok (.iload 7, 2) := by decide +kernel
theorem dX8_goesByTable_126 : decode cX8_goesByTable 126 = .ok (.ifCond .eq 5, 3) := by decide +kernel
theorem dX8_goesByTable_129 : decode cX8_goesByTable 129 = .ok (.iconst 0, 1) := by decide +kernel
theorem dX8_goesByTable_130 : decode cX8_goesByTable 130 = .ok (.ireturn, 1) := by decide +kernel
theorem dX8_goesByTable_131 : decode cX8_goesByTable 131 = .ok (.iload 6, 2) := by decide +kernel
theorem dX8_goesByTable_133 : decode cX8_goesByTable 133 = .ok (.iload 5, 2) := by decide +kernel
theorem dX8_goesByTable_135 : decode cX8_goesByTable 135 = .ok (.iadd, 1) := by decide +kernel
theorem dX8_goesByTable_136 : decode cX8_goesByTable 136 = .ok (.istore 6, 2) := by decide +kernel
theorem dX8_goesByTable_138 : decode cX8_goesByTable 138 = .ok (.goto (-119), 3) := by decide +kernel
theorem dX8_goesByTable_141 : decode cX8_goesByTable 141 = .ok (.iconst 1, 1) := by decide +kernel
theorem dX8_goesByTable_142 : decode cX8_goesByTable 142 = .ok (.ireturn, 1) := by decide +kernel
theorem dX8_mustRun_0 : decode cX8_mustRun 0 = .ok (.aload_n 0, 1) := by decide +kernel
theorem dX8_mustRun_1 : decode cX8_mustRun 1 = .ok (.iload_n 1, 1) := by decide +kernel
theorem dX8_mustRun_2 : decode cX8_mustRun 2 = .ok (.iload_n 2, 1) := by decide +kernel
theorem dX8_mustRun_3 : decode cX8_mustRun 3 = .ok (.invokevirtual 155, 3) := by decide +kernel
theorem dX8_mustRun_6 : decode cX8_mustRun 6 = .ok (.istore 4, 2) := by decide +kernel
theorem dX8_mustRun_8 : decode cX8_mustRun 8 = .ok (.iload_n 3, 1) := by decide +kernel
theorem dX8_mustRun_9 : decode cX8_mustRun 9 = .ok (.iload 4, 2) := by decide +kernel
theorem dX8_mustRun_11 : decode cX8_mustRun 11 = .ok (.invokestatic 158, 3) := by decide +kernel
theorem dX8_mustRun_14 : decode cX8_mustRun 14 = .ok (.if_icmp .lt 28, 3) := by decide +kernel
theorem dX8_mustRun_17 : decode cX8_mustRun 17 = .ok (.iload_n 3, 1) := by decide +kernel
theorem dX8_mustRun_18 : decode cX8_mustRun 18 = .ok (.iload 4, 2) := by decide +kernel
theorem dX8_mustRun_20 : decode cX8_mustRun 20 = .ok (.invokestatic 161, 3) := by decide +kernel
theorem dX8_mustRun_23 : decode cX8_mustRun 23 = .ok (.aload_n 0, 1) := by decide +kernel
theorem dX8_mustRun_24 : decode cX8_mustRun 24 = .ok (.getfield 44, 3) := by decide +kernel
theorem dX8_mustRun_27 : decode cX8_mustRun 27 = .ok (.bipush 6, 2) := by decide +kernel
theorem dX8_mustRun_29 : decode cX8_mustRun 29 = .ok (.iload_n 1, 1) := by decide +kernel
theorem dX8_mustRun_30 : decode cX8_mustRun 30 = .ok (.imul, 1) := by decide +kernel
theorem dX8_mustRun_31 : decode cX8_mustRun 31 = .ok (.iload_n 2, 1) := by decide +kernel
theorem dX8_mustRun_32 : decode cX8_mustRun 32 = .ok (.iadd, 1) := by decide +kernel
theorem dX8_mustRun_33 : decode cX8_mustRun 33 = .ok (.iaload, 1) := by decide +kernel
theorem dX8_mustRun_34 : decode cX8_mustRun 34 = .ok (.iadd, 1) := by decide +kernel
theorem dX8_mustRun_35 : decode cX8_mustRun 35 = .ok (.if_icmp .ge 7, 3) := by decide +kernel
theorem dX8_mustRun_38 : decode cX8_mustRun 38 = .ok (.iconst 1, 1) := by decide +kernel
theorem dX8_mustRun_39 : decode cX8_mustRun 39 = .ok (.goto 4, 3) := by decide +kernel
theorem dX8_mustRun_42 : decode cX8_mustRun 42 = .ok (.iconst 0, 1) := by decide +kernel
theorem dX8_mustRun_43 : decode cX8_mustRun 43 = .ok (.ireturn, 1) := by decide +kernel
theorem dX8_goesByLoad_0 : decode cX8_goesByLoad 0 = .ok (.iload_n 3, 1) := by decide +kernel
theorem dX8_goesByLoad_1 : decode cX8_goesByLoad 1 = .ok (.istore 4, 2) := by decide +kernel
theorem dX8_goesByLoad_3 : decode cX8_goesByLoad 3 = .ok (.iload 4, 2) := by decide +kernel
theorem dX8_goesByLoad_5 : decode cX8_goesByLoad 5 = .ok (.iload_n 3, 1) := by decide +kernel
theorem dX8_goesByLoad_6 : decode cX8_goesByLoad 6 = .ok (.aload_n 0, 1) := by decide +kernel
theorem dX8_goesByLoad_7 : decode cX8_goesByLoad 7 = .ok (.getfield 44, 3) := by decide +kernel
theorem dX8_goesByLoad_10 : decode cX8_goesByLoad 10 = .ok (.bipush 6, 2) := by decide +kernel
theorem dX8_goesByLoad_12 : decode cX8_goesByLoad 12 = .ok (.iload_n 1, 1) := by decide +kernel
theorem dX8_goesByLoad_13 : decode cX8_goesByLoad 13 = .ok (.imul, 1) := by decide +kernel
theorem dX8_goesByLoad_14 : decode cX8_goesByLoad 14 = .ok (.iload_n 2, 1) := by decide +kernel
theorem dX8_goesByLoad_15 : decode cX8_goesByLoad 15 = .ok (.iadd, 1) := by decide +kernel
theorem dX8_goesByLoad_16 : decode cX8_goesByLoad 16 = .ok (.iaload, 1) := by decide +kernel
theorem dX8_goesByLoad_17 : decode cX8_goesByLoad 17 = .ok (.iadd, 1) := by decide +kernel
theorem dX8_goesByLoad_18 : decode cX8_goesByLoad 18 = .ok (.if_icmp .ge 94, 3) := by decide +kernel
theorem dX8_goesByLoad_21 : decode cX8_goesByLoad 21 = .ok (.aload_n 0, 1) := by decide +kernel
theorem dX8_goesByLoad_22 : decode cX8_goesByLoad 22 = .ok (.getfield 47, 3) := by decide +kernel
theorem dX8_goesByLoad_25 : decode cX8_goesByLoad 25 = .ok (.bipush 6, 2) := by decide +kernel
theorem dX8_goesByLoad_27 : decode cX8_goesByLoad 27 = .ok (.iload_n 1, 1) := by decide +kernel
theorem dX8_goesByLoad_28 : decode cX8_goesByLoad 28 = .ok (.imul, 1) := by decide +kernel
theorem dX8_goesByLoad_29 : decode cX8_goesByLoad 29 = .ok (.iload_n 2, 1) := by decide +kernel
theorem dX8_goesByLoad_30 : decode cX8_goesByLoad 30 = .ok (.iadd, 1) := by decide +kernel
theorem dX8_goesByLoad_31 : decode cX8_goesByLoad 31 = .ok (.iaload, 1) := by decide +kernel
theorem dX8_goesByLoad_32 : decode cX8_goesByLoad 32 = .ok (.istore 5, 2) := by decide +kernel
theorem dX8_goesByLoad_34 : decode cX8_goesByLoad 34 = .ok (.iconst 0, 1) := by decide +kernel
theorem dX8_goesByLoad_35 : decode cX8_goesByLoad 35 = .ok (.istore 6, 2) := by decide +kernel
theorem dX8_goesByLoad_37 : decode cX8_goesByLoad 37 = .ok (.iload 6, 2) := by decide +kernel
theorem dX8_goesByLoad_39 : decode cX8_goesByLoad 39 = .ok (.aload_n 0, 1) := by decide +kernel
theorem dX8_goesByLoad_40 : decode cX8_goesByLoad 40 = .ok (.getfield 38, 3) := by decide +kernel
theorem dX8_goesByLoad_43 : decode cX8_goesByLoad 43 = .ok (.iload_n 1, 1) := by decide +kernel
theorem dX8_goesByLoad_44 : decode cX8_goesByLoad 44 = .ok (.iaload, 1) := by decide +kernel
theorem dX8_goesByLoad_45 : decode cX8_goesByLoad 45 = .ok (.if_icmp .ge 48, 3) := by decide +kernel
theorem dX8_goesByLoad_48 : decode cX8_goesByLoad 48 = .ok (.iload 5, 2) := by decide +kernel
theorem dX8_goesByLoad_50 : decode cX8_goesByLoad 50 = .ok (.iload 6, 2) := by decide +kernel
theorem dX8_goesByLoad_52 : decode cX8_goesByLoad 52 = .ok (.iload_n 2, 1) := by decide +kernel
theorem dX8_goesByLoad_53 : decode cX8_goesByLoad 53 = .ok (.if_icmp .eq 30, 3) := by decide +kernel
theorem dX8_goesByLoad_56 : decode cX8_goesByLoad 56 = .ok (.aload_n 0, 1) := by decide +kernel
theorem dX8_goesByLoad_57 : decode cX8_goesByLoad 57 = .ok (.iload_n 1, 1) := by decide +kernel
theorem dX8_goesByLoad_58 : decode cX8_goesByLoad 58 = .ok (.iload 6, 2) := by decide +kernel
theorem dX8_goesByLoad_60 : decode cX8_goesByLoad 60 = .ok (.iload 4, 2) := by decide +kernel
theorem dX8_goesByLoad_62 : decode cX8_goesByLoad 62 = .ok (.invokevirtual 168, 3) := by decide +kernel
theorem dX8_goesByLoad_65 : decode cX8_goesByLoad 65 = .ok (.ifCond .eq 18, 3) := by decide +kernel
theorem dX8_goesByLoad_68 : decode cX8_goesByLoad 68 = .ok (.aload_n 0, 1) := by decide +kernel
theorem dX8_goesByLoad_69 : decode cX8_goesByLoad 69 = .ok (.getfield 47, 3) := by decide +kernel
theorem dX8_goesByLoad_72 : decode cX8_goesByLoad 72 = .ok (.bipush 6, 2) := by decide +kernel
theorem dX8_goesByLoad_74 : decode cX8_goesByLoad 74 = .ok (.iload_n 1, 1) := by decide +kernel
theorem dX8_goesByLoad_75 : decode cX8_goesByLoad 75 = .ok (.imul, 1) := by decide +kernel
theorem dX8_goesByLoad_76 : decode cX8_goesByLoad 76 = .ok (.iload 6, 2) := by decide +kernel
theorem dX8_goesByLoad_78 : decode cX8_goesByLoad 78 = .ok (.iadd, 1) := by decide +kernel
theorem dX8_goesByLoad_79 : decode cX8_goesByLoad 79 = .ok (.iaload, 1) := by decide +kernel
theorem dX8_goesByLoad_80 : decode cX8_goesByLoad 80 = .ok (.goto 4, 3) := by decide +kernel
theorem dX8_goesByLoad_83 : decode cX8_goesByLoad 83 = .ok (.iconst 0, 1) := by decide +kernel
theorem dX8_goesByLoad_84 : decode cX8_goesByLoad 84 = .ok (.iadd, 1) := by decide +kernel
theorem dX8_goesByLoad_85 : decode cX8_goesByLoad 85 = .ok (.istore 5, 2) := by decide +kernel
theorem dX8_goesByLoad_87 : decode cX8_goesByLoad 87 = .ok (.iinc 6 1, 3) := by decide +kernel
theorem dX8_goesByLoad_90 : decode cX8_goesByLoad 90 = .ok (.goto (-53), 3) := by decide +kernel
theorem dX8_goesByLoad_93 : decode cX8_goesByLoad 93 = .ok (.iload 5, 2) := by decide +kernel
theorem dX8_goesByLoad_95 : decode cX8_goesByLoad 95 = .ok (.aload_n 0, 1) := by decide +kernel
theorem dX8_goesByLoad_96 : decode cX8_goesByLoad 96 = .ok (.getfield 28, 3) := by decide +kernel
theorem dX8_goesByLoad_99 : decode cX8_goesByLoad 99 = .ok (.iload_n 1, 1) := by decide +kernel
theorem dX8_goesByLoad_100 : decode cX8_goesByLoad 100 = .ok (.iaload, 1) := by decide +kernel
theorem dX8_goesByLoad_101 : decode cX8_goesByLoad 101 = .ok (.if_icmp .le 5, 3) := by decide +kernel
theorem dX8_goesByLoad_104 : decode cX8_goesByLoad 104 = .ok (.iconst 1, 1) := by decide +kernel
theorem dX8_goesByLoad_105 : decode cX8_goesByLoad 105 = .ok (.ireturn, 1) := by decide +kernel
theorem dX8_goesByLoad_106 : decode cX8_goesByLoad 106 = .ok (.iinc 4 1, 3) := by decide +kernel
theorem dX8_goesByLoad_109 : decode cX8_goesByLoad 109 = .ok (.goto (-106), 3) := by decide +kernel
theorem dX8_goesByLoad_112 : decode cX8_goesByLoad 112 = .ok (.iconst 0, 1) := by decide +kernel
theorem dX8_goesByLoad_113 : decode cX8_goesByLoad 113 = .ok (.ireturn, 1) := by decide +kernel
theorem dX8_goesByRing_0 : decode cX8_goesByRing 0 = .ok (.iload_n 3, 1) := by decide +kernel
theorem dX8_goesByRing_1 : decode cX8_goesByRing 1 = .ok (.aload_n 0, 1) := by decide +kernel
theorem dX8_goesByRing_2 : decode cX8_goesByRing 2 = .ok (.getfield 38, 3) := by decide +kernel
theorem dX8_goesByRing_5 : decode cX8_goesByRing 5 = .ok (.iload_n 1, 1) := by decide +kernel
theorem dX8_goesByRing_6 : decode cX8_goesByRing 6 = .ok (.iaload, 1) := by decide +kernel
theorem dX8_goesByRing_7 : decode cX8_goesByRing 7 = .ok (.if_icmp .ge 13, 3) := by decide +kernel
theorem dX8_goesByRing_10 : decode cX8_goesByRing 10 = .ok (.aload_n 0, 1) := by decide +kernel
theorem dX8_goesByRing_11 : decode cX8_goesByRing 11 = .ok (.iload_n 1, 1) := by decide +kernel
theorem dX8_goesByRing_12 : decode cX8_goesByRing 12 = .ok (.iload_n 2, 1) := by decide +kernel
theorem dX8_goesByRing_13 : decode cX8_goesByRing 13 = .ok (.iload_n 3, 1) := by decide +kernel
theorem dX8_goesByRing_14 : decode cX8_goesByRing 14 = .ok (.invokevirtual 172, 3) := by decide +kernel
theorem dX8_goesByRing_17 : decode cX8_goesByRing 17 = .ok (.ifCond .eq 5, 3) := by decide +kernel
theorem dX8_goesByRing_20 : decode cX8_goesByRing 20 = .ok (.iconst 1, 1) := by decide +kernel
theorem dX8_goesByRing_21 : decode cX8_goesByRing 21 = .ok (.ireturn, 1) := by decide +kernel
theorem dX8_goesByRing_22 : decode cX8_goesByRing 22 = .ok (.iload_n 3, 1) := by decide +kernel
theorem dX8_goesByRing_23 : decode cX8_goesByRing 23 = .ok (.istore 4, 2) := by decide +kernel
theorem dX8_goesByRing_25 : decode cX8_goesByRing 25 = .ok (.iconst 1, 1) := by decide +kernel
theorem dX8_goesByRing_26 : decode cX8_goesByRing 26 = .ok (.istore 5, 2) := by decide +kernel
theorem dX8_goesByRing_28 : decode cX8_goesByRing 28 = .ok (.iload 4, 2) := by decide +kernel
theorem dX8_goesByRing_30 : decode cX8_goesByRing 30 = .ok (.iload_n 2, 1) := by decide +kernel
theorem dX8_goesByRing_31 : decode cX8_goesByRing 31 = .ok (.if_icmp .eq 65, 3) := by decide +kernel
theorem dX8_goesByRing_34 : decode cX8_goesByRing 34 = .ok (.iload 5, 2) := by decide +kernel
theorem dX8_goesByRing_36 : decode cX8_goesByRing 36 = .ok (.aload_n 0, 1) := by decide +kernel
theorem dX8_goesByRing_37 : decode cX8_goesByRing 37 = .ok (.getfield 38, 3) := by decide +kernel
theorem dX8_goesByRing_40 : decode cX8_goesByRing 40 = .ok (.iload_n 1, 1) := by decide +kernel
theorem dX8_goesByRing_41 : decode cX8_goesByRing 41 = .ok (.iaload, 1) := by decide +kernel
theorem dX8_goesByRing_42 : decode cX8_goesByRing 42 = .ok (.if_icmp .gt 54, 3) := by decide +kernel
theorem dX8_goesByRing_45 : decode cX8_goesByRing 45 = .ok (.aload_n 0, 1) := by decide +kernel
theorem dX8_goesByRing_46 : decode cX8_goesByRing 46 = .ok (.iload_n 1, 1) := by decide +kernel
theorem dX8_goesByRing_47 : decode cX8_goesByRing 47 = .ok (.iload 4, 2) := by decide +kernel
theorem dX8_goesByRing_49 : decode cX8_goesByRing 49 = .ok (.invokevirtual 155, 3) := by decide +kernel
theorem dX8_goesByRing_52 : decode cX8_goesByRing 52 = .ok (.invokestatic 123, 3) := by decide +kernel
theorem dX8_goesByRing_55 : decode cX8_goesByRing 55 = .ok (.iconst 1, 1) := by decide +kernel
theorem dX8_goesByRing_56 : decode cX8_goesByRing 56 = .ok (.if_icmp .ne 40, 3) := by decide +kernel
theorem dX8_goesByRing_59 : decode cX8_goesByRing 59 = .ok (.aload_n 0, 1) := by decide +kernel
theorem dX8_goesByRing_60 : decode cX8_goesByRing 60 = .ok (.iload_n 1, 1) := by decide +kernel
theorem dX8_goesByRing_61 : decode cX8_goesByRing 61 = .ok (.iload 4, 2) := by decide +kernel
theorem dX8_goesByRing_63 : decode cX8_goesByRing 63 = .ok (.invokevirtual 155, 3) := by decide +kernel
theorem dX8_goesByRing_66 : decode cX8_goesByRing 66 = .ok (.invokestatic 161, 3) := by decide +kernel
theorem dX8_goesByRing_69 : decode cX8_goesByRing 69 = .ok (.aload_n 0, 1) := by decide +kernel
theorem dX8_goesByRing_70 : decode cX8_goesByRing 70 = .ok (.getfield 38, 3) := by decide +kernel
theorem dX8_goesByRing_73 : decode cX8_goesByRing 73 = .ok (.iload_n 1, 1) := by decide +kernel
theorem dX8_goesByRing_74 : decode cX8_goesByRing 74 = .ok (.iaload, 1) := by decide +kernel
theorem dX8_goesByRing_75 : decode cX8_goesByRing 75 = .ok (.if_icmp .ge 21, 3) := by decide +kernel
theorem dX8_goesByRing_78 : decode cX8_goesByRing 78 = .ok (.aload_n 0, 1) := by decide +kernel
theorem dX8_goesByRing_79 : decode cX8_goesByRing 79 = .ok (.iload_n 1, 1) := by decide +kernel
theorem dX8_goesByRing_80 : decode cX8_goesByRing 80 = .ok (.iload 4, 2) := by decide +kernel
theorem dX8_goesByRing_82 : decode cX8_goesByRing 82 = .ok (.invokevirtual 155, 3) := by decide +kernel
theorem dX8_goesByRing_85 : decode cX8_goesByRing 85 = .ok (.invokestatic 161, 3) := by decide +kernel
theorem dX8_goesByRing_88 : decode cX8_goesByRing 88 = .ok (.istore 4, 2) := by decide +kernel
theorem dX8_goesByRing_90 : decode cX8_goesByRing 90 = .ok (.iinc 5 1, 3) := by decide +kernel
theorem dX8_goesByRing_93 : decode cX8_goesByRing 93 = .ok (.goto (-65), 3) := by decide +kernel
theorem dX8_goesByRing_96 : decode cX8_goesByRing 96 = .ok (.iload 4, 2) := by decide +kernel
theorem dX8_goesByRing_98 : decode cX8_goesByRing 98 = .ok (.iload_n 2, 1) := by decide +kernel
theorem dX8_goesByRing_99 : decode cX8_goesByRing 99 = .ok (.if_icmp .ne 18, 3) := by decide +kernel
theorem dX8_goesByRing_102 : decode cX8_goesByRing 102 = .ok (.iload 5, 2) := by decide +kernel
theorem dX8_goesByRing_104 : decode cX8_goesByRing 104 = .ok (.aload_n 0, 1) := by decide +kernel
theorem dX8_goesByRing_105 : decode cX8_goesByRing 105 = .ok (.getfield 38, 3) := by decide +kernel
theorem dX8_goesByRing_108 : decode cX8_goesByRing 108 = .ok (.iload_n 1, 1) := by decide +kernel
theorem dX8_goesByRing_109 : decode cX8_goesByRing 109 = .ok (.iaload, 1) := by decide +kernel
theorem dX8_goesByRing_110 : decode cX8_goesByRing 110 = .ok (.if_icmp .ge 7, 3) := by decide +kernel
theorem dX8_goesByRing_113 : decode cX8_goesByRing 113 = .ok (.iconst 1, 1) := by decide +kernel
theorem dX8_goesByRing_114 : decode cX8_goesByRing 114 = .ok (.goto 4, 3) := by decide +kernel
theorem dX8_goesByRing_117 : decode cX8_goesByRing 117 = .ok (.iconst 0, 1) := by decide +kernel
theorem dX8_goesByRing_118 : decode cX8_goesByRing 118 = .ok (.ireturn, 1) := by decide +kernel
theorem dX8_goesByClause_0 : decode cX8_goesByClause 0 = .ok (.bipush 6, 2) := by decide +kernel
theorem dX8_goesByClause_2 : decode cX8_goesByClause 2 = .ok (.iload_n 1, 1) := by decide +kernel
theorem dX8_goesByClause_3 : decode cX8_goesByClause 3 = .ok (.imul, 1) := by decide +kernel
theorem dX8_goesByClause_4 : decode cX8_goesByClause 4 = .ok (.istore 4, 2) := by decide +kernel
theorem dX8_goesByClause_6 : decode cX8_goesByClause 6 = .ok (.iload 4, 2) := by decide +kernel
theorem dX8_goesByClause_8 : decode cX8_goesByClause 8 = .ok (.bipush 6, 2) := by decide +kernel
theorem dX8_goesByClause_10 : decode cX8_goesByClause 10 = .ok (.iload_n 1, 1) := by decide +kernel
theorem dX8_goesByClause_11 : decode cX8_goesByClause 11 = .ok (.imul, 1) := by decide +kernel
theorem dX8_goesByClause_12 : decode cX8_goesByClause 12 = .ok (.aload_n 0, 1) := by decide +kernel
theorem dX8_goesByClause_13 : decode cX8_goesByClause 13 = .ok (.getfield 38, 3) := by decide +kernel
theorem dX8_goesByClause_16 : decode cX8_goesByClause 16 = .ok (.iload_n 1, 1) := by decide +kernel
theorem dX8_goesByClause_17 : decode cX8_goesByClause 17 = .ok (.iaload, 1) := by decide +kernel
theorem dX8_goesByClause_18 : decode cX8_goesByClause 18 = .ok (.iadd, 1) := by decide +kernel
theorem dX8_goesByClause_19 : decode cX8_goesByClause 19 = .ok (.if_icmp .ge 55, 3) := by decide +kernel
theorem dX8_goesByClause_22 : decode cX8_goesByClause 22 = .ok (.aload_n 0, 1) := by decide +kernel
theorem dX8_goesByClause_23 : decode cX8_goesByClause 23 = .ok (.getfield 41, 3) := by decide +kernel
theorem dX8_goesByClause_26 : decode cX8_goesByClause 26 = .ok (.iload 4, 2) := by decide +kernel
theorem dX8_goesByClause_28 : decode cX8_goesByClause 28 = .ok (.iaload, 1) := by decide +kernel
theorem dX8_goesByClause_29 : decode cX8_goesByClause 29 = .ok (.iload_n 2, 1) := by decide +kernel
theorem dX8_goesByClause_30 : decode cX8_goesByClause 30 = .ok (.if_icmp .ne 9, 3) := by decide +kernel
theorem dX8_goesByClause_33 : decode cX8_goesByClause 33 = .ok (.iconst 1, 1) := by decide +kernel
theorem dX8_goesByClause_34 : decode cX8_goesByClause 34 = .ok (.iload_n 3, 1) := by decide +kernel
theorem dX8_goesByClause_35 : decode cX8_goesByClause 35 = .ok (.ishl, 1) := by decide +kernel
theorem dX8_goesByClause_36 : decode cX8_goesByClause 36 = .ok (.goto 15, 3) := by decide +kernel
theorem dX8_goesByClause_39 : decode cX8_goesByClause 39 = .ok (.aload_n 0, 1) := by decide +kernel
theorem dX8_goesByClause_40 : decode cX8_goesByClause 40 = .ok (.getfield 78, 3) := by decide +kernel
theorem dX8_goesByClause_43 : decode cX8_goesByClause 43 = .ok (.aload_n 0, 1) := by decide +kernel
theorem dX8_goesByClause_44 : decode cX8_goesByClause 44 = .ok (.getfield 41, 3) := by decide +kernel
theorem dX8_goesByClause_47 : decode cX8_goesByClause 47 = .ok (.iload 4, 2) := by decide +kernel
theorem dX8_goesByClause_49 : decode cX8_goesByClause 49 = .ok (.iaload, 1) := by decide +kernel
theorem dX8_goesByClause_50 : decode cX8_goesByClause 50 = .ok (.iaload, 1) := by decide +kernel
theorem dX8_goesByClause_51 : decode cX8_goesByClause 51 = .ok (.istore 5, 2) := by decide +kernel
theorem dX8_goesByClause_53 : decode cX8_goesByClause 53 = .ok (.iload 5, 2) := by decide +kernel
theorem dX8_goesByClause_55 : decode cX8_goesByClause 55 = .ok (.aload_n 0, 1) := by decide +kernel
theorem dX8_goesByClause_56 : decode cX8_goesByClause 56 = .ok (.getfield 44, 3) := by decide +kernel
theorem dX8_goesByClause_59 : decode cX8_goesByClause 59 = .ok (.iload 4, 2) := by decide +kernel
theorem dX8_goesByClause_61 : decode cX8_goesByClause 61 = .ok (.iaload, 1) := by decide +kernel
theorem dX8_goesByClause_62 : decode cX8_goesByClause 62 = .ok (.iand, 1) := by decide +kernel
theorem dX8_goesByClause_63 : decode cX8_goesByClause 63 = .ok (.ifCond .eq 5, 3) := by decide +kernel
theorem dX8_goesByClause_66 : decode cX8_goesByClause 66 = .ok (.iconst 0, 1) := by decide +kernel
theorem dX8_goesByClause_67 : decode cX8_goesByClause 67 = .ok (.ireturn, 1) := by decide +kernel
theorem dX8_goesByClause_68 : decode cX8_goesByClause 68 = .ok (.iinc 4 1, 3) := by decide +kernel
theorem dX8_goesByClause_71 : decode cX8_goesByClause 71 = .ok (.goto (-65), 3) := by decide +kernel
theorem dX8_goesByClause_74 : decode cX8_goesByClause 74 = .ok (.iconst 1, 1) := by decide +kernel
theorem dX8_goesByClause_75 : decode cX8_goesByClause 75 = .ok (.ireturn, 1) := by decide +kernel
theorem dX8_goes_0 : decode cX8_goes 0 = .ok (.aload_n 0, 1) := by decide +kernel
theorem dX8_goes_1 : decode cX8_goes 1 = .ok (.getfield 25, 3) := by decide +kernel
theorem dX8_goes_4 : decode cX8_goes 4 = .ok (.iload_n 1, 1) := by decide +kernel
theorem dX8_goes_5 : decode cX8_goes 5 = .ok (.iaload, 1) := by decide +kernel
theorem dX8_goes_6 : decode cX8_goes 6 = .ok (.tableswitch 74 0 4 #[34, 42, 50, 58, 66], 34) := by decide +kernel
theorem dX8_goes_40 : decode cX8_goes 40 = .ok (.aload_n 0, 1) := by decide +kernel
theorem dX8_goes_41 : decode cX8_goes 41 = .ok (.iload_n 1, 1) := by decide +kernel
theorem dX8_goes_42 : decode cX8_goes 42 = .ok (.iload_n 2, 1) := by decide +kernel
theorem dX8_goes_43 : decode cX8_goes 43 = .ok (.iload_n 3, 1) := by decide +kernel
theorem dX8_goes_44 : decode cX8_goes 44 = .ok (.invokevirtual 175, 3) := by decide +kernel
theorem dX8_goes_47 : decode cX8_goes 47 = .ok (.ireturn, 1) := by decide +kernel
theorem dX8_goes_48 : decode cX8_goes 48 = .ok (.aload_n 0, 1) := by decide +kernel
theorem dX8_goes_49 : decode cX8_goes 49 = .ok (.iload_n 1, 1) := by decide +kernel
theorem dX8_goes_50 : decode cX8_goes 50 = .ok (.iload_n 2, 1) := by decide +kernel
theorem dX8_goes_51 : decode cX8_goes 51 = .ok (.iload_n 3, 1) := by decide +kernel
theorem dX8_goes_52 : decode cX8_goes 52 = .ok (.invokevirtual 172, 3) := by decide +kernel
theorem dX8_goes_55 : decode cX8_goes 55 = .ok (.ireturn, 1) := by decide +kernel
theorem dX8_goes_56 : decode cX8_goes 56 = .ok (.aload_n 0, 1) := by decide +kernel
theorem dX8_goes_57 : decode cX8_goes 57 = .ok (.iload_n 1, 1) := by decide +kernel
theorem dX8_goes_58 : decode cX8_goes 58 = .ok (.iload_n 2, 1) := by decide +kernel
theorem dX8_goes_59 : decode cX8_goes 59 = .ok (.iload_n 3, 1) := by decide +kernel
theorem dX8_goes_60 : decode cX8_goes 60 = .ok (.invokevirtual 178, 3) := by decide +kernel
theorem dX8_goes_63 : decode cX8_goes 63 = .ok (.ireturn, 1) := by decide +kernel
theorem dX8_goes_64 : decode cX8_goes 64 = .ok (.aload_n 0, 1) := by decide +kernel
theorem dX8_goes_65 : decode cX8_goes 65 = .ok (.iload_n 1, 1) := by decide +kernel
theorem dX8_goes_66 : decode cX8_goes 66 = .ok (.iload_n 2, 1) := by decide +kernel
theorem dX8_goes_67 : decode cX8_goes 67 = .ok (.iload_n 3, 1) := by decide +kernel
theorem dX8_goes_68 : decode cX8_goes 68 = .ok (.invokevirtual 181, 3) := by decide +kernel
theorem dX8_goes_71 : decode cX8_goes 71 = .ok (.ireturn, 1) := by decide +kernel
theorem dX8_goes_72 : decode cX8_goes 72 = .ok (.aload_n 0, 1) := by decide +kernel
theorem dX8_goes_73 : decode cX8_goes 73 = .ok (.iload_n 1, 1) := by decide +kernel
theorem dX8_goes_74 : decode cX8_goes 74 = .ok (.iload_n 2, 1) := by decide +kernel
theorem dX8_goes_75 : decode cX8_goes 75 = .ok (.iload_n 3, 1) := by decide +kernel
theorem dX8_goes_76 : decode cX8_goes 76 = .ok (.invokevirtual 184, 3) := by decide +kernel
theorem dX8_goes_79 : decode cX8_goes 79 = .ok (.ireturn, 1) := by decide +kernel
theorem dX8_goes_80 : decode cX8_goes 80 = .ok (.aload_n 0, 1) := by decide +kernel
theorem dX8_goes_81 : decode cX8_goes 81 = .ok (.iload_n 1, 1) := by decide +kernel
theorem dX8_goes_82 : decode cX8_goes 82 = .ok (.aload_n 0, 1) := by decide +kernel
theorem dX8_goes_83 : decode cX8_goes 83 = .ok (.getfield 41, 3) := by decide +kernel
theorem dX8_goes_86 : decode cX8_goes 86 = .ok (.bipush 6, 2) := by decide +kernel
theorem dX8_goes_88 : decode cX8_goes 88 = .ok (.iload_n 1, 1) := by decide +kernel
theorem dX8_goes_89 : decode cX8_goes 89 = .ok (.imul, 1) := by decide +kernel
theorem dX8_goes_90 : decode cX8_goes 90 = .ok (.iload_n 2, 1) := by decide +kernel
theorem dX8_goes_91 : decode cX8_goes 91 = .ok (.iadd, 1) := by decide +kernel
theorem dX8_goes_92 : decode cX8_goes 92 = .ok (.iaload, 1) := by decide +kernel
theorem dX8_goes_93 : decode cX8_goes 93 = .ok (.iload_n 3, 1) := by decide +kernel
theorem dX8_goes_94 : decode cX8_goes 94 = .ok (.invokevirtual 187, 3) := by decide +kernel
theorem dX8_goes_97 : decode cX8_goes 97 = .ok (.ireturn, 1) := by decide +kernel
theorem dX8_left_0 : decode cX8_left 0 = .ok (.aload_n 0, 1) := by decide +kernel
theorem dX8_left_1 : decode cX8_left 1 = .ok (.iload_n 1, 1) := by decide +kernel
theorem dX8_left_2 : decode cX8_left 2 = .ok (.iload_n 2, 1) := by decide +kernel
theorem dX8_left_3 : decode cX8_left 3 = .ok (.invokevirtual 155, 3) := by decide +kernel
theorem dX8_left_6 : decode cX8_left 6 = .ok (.istore_n 3, 1) := by decide +kernel
theorem dX8_left_7 : decode cX8_left 7 = .ok (.iload_n 3, 1) := by decide +kernel
theorem dX8_left_8 : decode cX8_left 8 = .ok (.istore 4, 2) := by decide +kernel
theorem dX8_left_10 : decode cX8_left 10 = .ok (.iconst 0, 1) := by decide +kernel
theorem dX8_left_11 : decode cX8_left 11 = .ok (.istore 5, 2) := by decide +kernel
theorem dX8_left_13 : decode cX8_left 13 = .ok (.iload 5, 2) := by decide +kernel
theorem dX8_left_15 : decode cX8_left 15 = .ok (.bipush 16, 2) := by decide +kernel
theorem dX8_left_17 : decode cX8_left 17 = .ok (.if_icmp .ge 39, 3) := by decide +kernel
theorem dX8_left_20 : decode cX8_left 20 = .ok (.iload_n 3, 1) := by decide +kernel
theorem dX8_left_21 : decode cX8_left 21 = .ok (.iload 5, 2) := by decide +kernel
theorem dX8_left_23 : decode cX8_left 23 = .ok (.ishr, 1) := by decide +kernel
theorem dX8_left_24 : decode cX8_left 24 = .ok (.iconst 1, 1) := by decide +kernel
theorem dX8_left_25 : decode cX8_left 25 = .ok (.iand, 1) := by decide +kernel
theorem dX8_left_26 : decode cX8_left 26 = .ok (.iconst 1, 1) := by decide +kernel
theorem dX8_left_27 : decode cX8_left 27 = .ok (.if_icmp .ne 23, 3) := by decide +kernel
theorem dX8_left_30 : decode cX8_left 30 = .ok (.aload_n 0, 1) := by decide +kernel
theorem dX8_left_31 : decode cX8_left 31 = .ok (.iload_n 1, 1) := by decide +kernel
theorem dX8_left_32 : decode cX8_left 32 = .ok (.iload_n 2, 1) := by decide +kernel
theorem dX8_left_33 : decode cX8_left 33 = .ok (.iload 5, 2) := by decide +kernel
theorem dX8_left_35 : decode cX8_left 35 = .ok (.invokevirtual 190, 3) := by decide +kernel
theorem dX8_left_38 : decode cX8_left 38 = .ok (.ifCond .eq 12, 3) := by decide +kernel
theorem dX8_left_41 : decode cX8_left 41 = .ok (.iload 4, 2) := by decide +kernel
theorem dX8_left_43 : decode cX8_left 43 = .ok (.iconst 1, 1) := by decide +kernel
theorem dX8_left_44 : decode cX8_left 44 = .ok (.iload 5, 2) := by decide +kernel
theorem dX8_left_46 : decode cX8_left 46 = .ok (.ishl, 1) := by decide +kernel
theorem dX8_left_47 : decode cX8_left 47 = .ok (.isub, 1) := by decide +kernel
theorem dX8_left_48 : decode cX8_left 48 = .ok (.istore 4, 2) := by decide +kernel
theorem dX8_left_50 : decode cX8_left 50 = .ok (.iinc 5 1, 3) := by decide +kernel
theorem dX8_left_53 : decode cX8_left 53 = .ok (.goto (-40), 3) := by decide +kernel
theorem dX8_left_56 : decode cX8_left 56 = .ok (.iload 4, 2) := by decide +kernel
theorem dX8_left_58 : decode cX8_left 58 = .ok (.ireturn, 1) := by decide +kernel
theorem dX8_fitsBare_0 : decode cX8_fitsBare 0 = .ok (.aload_n 0, 1) := by decide +kernel
theorem dX8_fitsBare_1 : decode cX8_fitsBare 1 = .ok (.getfield 25, 3) := by decide +kernel
theorem dX8_fitsBare_4 : decode cX8_fitsBare 4 = .ok (.iload_n 1, 1) := by decide +kernel
theorem dX8_fitsBare_5 : decode cX8_fitsBare 5 = .ok (.iaload, 1) := by decide +kernel
theorem dX8_fitsBare_6 : decode cX8_fitsBare 6 = .ok (.lookupswitch 101 #[(0, 34), (2, 99), (5, 99)], 34) := by decide +kernel
theorem dX8_fitsBare_40 : decode cX8_fitsBare 40 = .ok (.aload_n 0, 1) := by decide +kernel
theorem dX8_fitsBare_41 : decode cX8_fitsBare 41 = .ok (.getfield 28, 3) := by decide +kernel
theorem dX8_fitsBare_44 : decode cX8_fitsBare 44 = .ok (.iload_n 1, 1) := by decide +kernel
theorem dX8_fitsBare_45 : decode cX8_fitsBare 45 = .ok (.iaload, 1) := by decide +kernel
theorem dX8_fitsBare_46 : decode cX8_fitsBare 46 = .ok (.ifCond .ne 21, 3) := by decide +kernel
theorem dX8_fitsBare_49 : decode cX8_fitsBare 49 = .ok (.iconst 0, 1) := by decide +kernel
theorem dX8_fitsBare_50 : decode cX8_fitsBare 50 = .ok (.aload_n 0, 1) := by decide +kernel
theorem dX8_fitsBare_51 : decode cX8_fitsBare 51 = .ok (.getfield 31, 3) := by decide +kernel
theorem dX8_fitsBare_54 : decode cX8_fitsBare 54 = .ok (.iload_n 1, 1) := by decide +kernel
theorem dX8_fitsBare_55 : decode cX8_fitsBare 55 = .ok (.iaload, 1) := by decide +kernel
theorem dX8_fitsBare_56 : decode cX8_fitsBare 56 = .ok (.if_icmp .gt 7, 3) := by decide +kernel
theorem dX8_fitsBare_59 : decode cX8_fitsBare 59 = .ok (.iconst 1, 1) := by decide +kernel
theorem dX8_fitsBare_60 : decode cX8_fitsBare 60 = .ok (.goto 44, 3) := by decide +kernel
theorem dX8_fitsBare_63 : decode cX8_fitsBare 63 = .ok (.iconst 0, 1) := by decide +kernel
theorem dX8_fitsBare_64 : decode cX8_fitsBare 64 = .ok (.goto 40, 3) := by decide +kernel
theorem dX8_fitsBare_67 : decode cX8_fitsBare 67 = .ok (.aload_n 0, 1) := by decide +kernel
theorem dX8_fitsBare_68 : decode cX8_fitsBare 68 = .ok (.getfield 28, 3) := by decide +kernel
theorem dX8_fitsBare_71 : decode cX8_fitsBare 71 = .ok (.iload_n 1, 1) := by decide +kernel
theorem dX8_fitsBare_72 : decode cX8_fitsBare 72 = .ok (.iaload, 1) := by decide +kernel
theorem dX8_fitsBare_73 : decode cX8_fitsBare 73 = .ok (.iconst 1, 1) := by decide +kernel
theorem dX8_fitsBare_74 : decode cX8_fitsBare 74 = .ok (.if_icmp .ne 7, 3) := by decide +kernel
theorem dX8_fitsBare_77 : decode cX8_fitsBare 77 = .ok (.iconst 1, 1) := by decide +kernel
theorem dX8_fitsBare_78 : decode cX8_fitsBare 78 = .ok (.goto 4, 3) := by decide +kernel
theorem dX8_fitsBare_81 : decode cX8_fitsBare 81 = .ok (.iconst 0, 1) := by decide +kernel
theorem dX8_fitsBare_82 : decode cX8_fitsBare 82 = .ok (.aload_n 0, 1) := by decide +kernel
theorem dX8_fitsBare_83 : decode cX8_fitsBare 83 = .ok (.getfield 31, 3) := by decide +kernel
theorem dX8_fitsBare_86 : decode cX8_fitsBare 86 = .ok (.iload_n 1, 1) := by decide +kernel
theorem dX8_fitsBare_87 : decode cX8_fitsBare 87 = .ok (.iaload, 1) := by decide +kernel
theorem dX8_fitsBare_88 : decode cX8_fitsBare 88 = .ok (.ifCond .ne 7, 3) := by decide +kernel
theorem dX8_fitsBare_91 : decode cX8_fitsBare 91 = .ok (.iconst 1, 1) := by decide +kernel
theorem dX8_fitsBare_92 : decode cX8_fitsBare 92 = .ok (.goto 4, 3) := by decide +kernel
theorem dX8_fitsBare_95 : decode cX8_fitsBare 95 = .ok (.iconst 0, 1) := by decide +kernel
theorem dX8_fitsBare_96 : decode cX8_fitsBare 96 = .ok (.if_icmp .ne 7, 3) := by decide +kernel
theorem dX8_fitsBare_99 : decode cX8_fitsBare 99 = .ok (.iconst 1, 1) := by decide +kernel
theorem dX8_fitsBare_100 : decode cX8_fitsBare 100 = .ok (.goto 4, 3) := by decide +kernel
theorem dX8_fitsBare_103 : decode cX8_fitsBare 103 = .ok (.iconst 0, 1) := by decide +kernel
theorem dX8_fitsBare_104 : decode cX8_fitsBare 104 = .ok (.ireturn, 1) := by decide +kernel
theorem dX8_fitsBare_105 : decode cX8_fitsBare 105 = .ok (.iconst 0, 1) := by decide +kernel
theorem dX8_fitsBare_106 : decode cX8_fitsBare 106 = .ok (.ireturn, 1) := by decide +kernel
theorem dX8_fitsBare_107 : decode cX8_fitsBare 107 = .ok (.iconst 1, 1) := by decide +kernel
theorem dX8_fitsBare_108 : decode cX8_fitsBare 108 = .ok (.ireturn, 1) := by decide +kernel
theorem dX8_hasNone_0 : decode cX8_hasNone 0 = .ok (.iconst 0, 1) := by decide +kernel
theorem dX8_hasNone_1 : decode cX8_hasNone 1 = .ok (.istore_n 1, 1) := by decide +kernel
theorem dX8_hasNone_2 : decode cX8_hasNone 2 = .ok (.iload_n 1, 1) := by decide +kernel
theorem dX8_hasNone_3 : decode cX8_hasNone 3 = .ok (.aload_n 0, 1) := by decide +kernel
theorem dX8_hasNone_4 : decode cX8_hasNone 4 = .ok (.getfield 93, 3) := by decide +kernel
theorem dX8_hasNone_7 : decode cX8_hasNone 7 = .ok (.if_icmp .ge 20, 3) := by decide +kernel
theorem dX8_hasNone_10 : decode cX8_hasNone 10 = .ok (.aload_n 0, 1) := by decide +kernel
theorem dX8_hasNone_11 : decode cX8_hasNone 11 = .ok (.getfield 78, 3) := by decide +kernel
theorem dX8_hasNone_14 : decode cX8_hasNone 14 = .ok (.iload_n 1, 1) := by decide +kernel
theorem dX8_hasNone_15 : decode cX8_hasNone 15 = .ok (.iaload, 1) := by decide +kernel
theorem dX8_hasNone_16 : decode cX8_hasNone 16 = .ok (.ifCond .ne 5, 3) := by decide +kernel
theorem dX8_hasNone_19 : decode cX8_hasNone 19 = .ok (.iconst 1, 1) := by decide +kernel
theorem dX8_hasNone_20 : decode cX8_hasNone 20 = .ok (.ireturn, 1) := by decide +kernel
theorem dX8_hasNone_21 : decode cX8_hasNone 21 = .ok (.iinc 1 1, 3) := by decide +kernel
theorem dX8_hasNone_24 : decode cX8_hasNone 24 = .ok (.goto (-22), 3) := by decide +kernel
theorem dX8_hasNone_27 : decode cX8_hasNone 27 = .ok (.iconst 0, 1) := by decide +kernel
theorem dX8_hasNone_28 : decode cX8_hasNone 28 = .ok (.ireturn, 1) := by decide +kernel
theorem dX8_narrowAside_0 : decode cX8_narrowAside 0 = .ok (.aload_n 0, 1) := by decide +kernel
theorem dX8_narrowAside_1 : decode cX8_narrowAside 1 = .ok (.aload_n 0, 1) := by decide +kernel
theorem dX8_narrowAside_2 : decode cX8_narrowAside 2 = .ok (.invokevirtual 193, 3) := by decide +kernel
theorem dX8_narrowAside_5 : decode cX8_narrowAside 5 = .ok (.putfield 197, 3) := by decide +kernel
theorem dX8_narrowAside_8 : decode cX8_narrowAside 8 = .ok (.iconst 0, 1) := by decide +kernel
theorem dX8_narrowAside_9 : decode cX8_narrowAside 9 = .ok (.istore_n 1, 1) := by decide +kernel
theorem dX8_narrowAside_10 : decode cX8_narrowAside 10 = .ok (.iload_n 1, 1) := by decide +kernel
theorem dX8_narrowAside_11 : decode cX8_narrowAside 11 = .ok (.aload_n 0, 1) := by decide +kernel
theorem dX8_narrowAside_12 : decode cX8_narrowAside 12 = .ok (.getfield 100, 3) := by decide +kernel
theorem dX8_narrowAside_15 : decode cX8_narrowAside 15 = .ok (.if_icmp .ge 51, 3) := by decide +kernel
theorem dX8_narrowAside_18 : decode cX8_narrowAside 18 = .ok (.aload_n 0, 1) := by decide +kernel
theorem dX8_narrowAside_19 : decode cX8_narrowAside 19 = .ok (.aload_n 0, 1) := by decide +kernel
theorem dX8_narrowAside_20 : decode cX8_narrowAside 20 = .ok (.getfield 197, 3) := by decide +kernel
theorem dX8_narrowAside_23 : decode cX8_narrowAside 23 = .ok (.ifCond .ne 29, 3) := by decide +kernel
theorem dX8_narrowAside_26 : decode cX8_narrowAside 26 = .ok (.aload_n 0, 1) := by decide +kernel
theorem dX8_narrowAside_27 : decode cX8_narrowAside 27 = .ok (.getfield 34, 3) := by decide +kernel
theorem dX8_narrowAside_30 : decode cX8_narrowAside 30 = .ok (.iload_n 1, 1) := by decide +kernel
theorem dX8_narrowAside_31 : decode cX8_narrowAside 31 = .ok (.baload, 1) := by decide +kernel
theorem dX8_narrowAside_32 : decode cX8_narrowAside 32 = .ok (.ifCond .eq 24, 3) := by decide +kernel
theorem dX8_narrowAside_35 : decode cX8_narrowAside 35 = .ok (.aload_n 0, 1) := by decide +kernel
theorem dX8_narrowAside_36 : decode cX8_narrowAside 36 = .ok (.getfield 38, 3) := by decide +kernel
theorem dX8_narrowAside_39 : decode cX8_narrowAside 39 = .ok (.iload_n 1, 1) := by decide +kernel
theorem dX8_narrowAside_40 : decode cX8_narrowAside 40 = .ok (.iaload, 1) := by decide +kernel
theorem dX8_narrowAside_41 : decode cX8_narrowAside 41 = .ok (.ifCond .ne 15, 3) := by decide +kernel
theorem dX8_narrowAside_44 : decode cX8_narrowAside 44 = .ok (.aload_n 0, 1) := by decide +kernel
theorem dX8_narrowAside_45 : decode cX8_narrowAside 45 = .ok (.iload_n 1, 1) := by decide +kernel
theorem dX8_narrowAside_46 : decode cX8_narrowAside 46 = .ok (.invokevirtual 201, 3) := by decide +kernel
theorem dX8_narrowAside_49 : decode cX8_narrowAside 49 = .ok (.ifCond .ne 7, 3) := by decide +kernel
theorem dX8_narrowAside_52 : decode cX8_narrowAside 52 = .ok (.iconst 1, 1) := by decide +kernel
theorem dX8_narrowAside_53 : decode cX8_narrowAside 53 = .ok (.goto 4, 3) := by decide +kernel
theorem dX8_narrowAside_56 : decode cX8_narrowAside 56 = .ok (.iconst 0, 1) := by decide +kernel
theorem dX8_narrowAside_57 : decode cX8_narrowAside 57 = .ok (.putfield 197, 3) := by decide +kernel
theorem dX8_narrowAside_60 : decode cX8_narrowAside 60 = .ok (.iinc 1 1, 3) := by decide +kernel
theorem dX8_narrowAside_63 : decode cX8_narrowAside 63 = .ok (.goto (-53), 3) := by decide +kernel
theorem dX8_narrowAside_66 : decode cX8_narrowAside 66 = .ok (.iconst 1, 1) := by decide +kernel
theorem dX8_narrowAside_67 : decode cX8_narrowAside 67 = .ok (.istore_n 1, 1) := by decide +kernel
theorem dX8_narrowAside_68 : decode cX8_narrowAside 68 = .ok (.iload_n 1, 1) := by decide +kernel
theorem dX8_narrowAside_69 : decode cX8_narrowAside 69 = .ok (.ifCond .eq 138, 3) := by decide +kernel
theorem dX8_narrowAside_72 : decode cX8_narrowAside 72 = .ok (.aload_n 0, 1) := by decide +kernel
theorem dX8_narrowAside_73 : decode cX8_narrowAside 73 = .ok (.getfield 197, 3) := by decide +kernel
theorem dX8_narrowAside_76 : decode cX8_narrowAside 76 = .ok (.ifCond .ne 131, 3) := by decide +kernel
theorem dX8_narrowAside_79 : decode cX8_narrowAside 79 = .ok (.iconst 0, 1) := by decide +kernel
theorem dX8_narrowAside_80 : decode cX8_narrowAside 80 = .ok (.istore_n 1, 1) := by decide +kernel
theorem dX8_narrowAside_81 : decode cX8_narrowAside 81 = .ok (.iconst 0, 1) := by decide +kernel
theorem dX8_narrowAside_82 : decode cX8_narrowAside 82 = .ok (.istore_n 2, 1) := by decide +kernel
theorem dX8_narrowAside_83 : decode cX8_narrowAside 83 = .ok (.iload_n 2, 1) := by decide +kernel
theorem dX8_narrowAside_84 : decode cX8_narrowAside 84 = .ok (.aload_n 0, 1) := by decide +kernel
theorem dX8_narrowAside_85 : decode cX8_narrowAside 85 = .ok (.getfield 100, 3) := by decide +kernel
theorem dX8_narrowAside_88 : decode cX8_narrowAside 88 = .ok (.if_icmp .ge 116, 3) := by decide +kernel
theorem dX8_narrowAside_91 : decode cX8_narrowAside 91 = .ok (.aload_n 0, 1) := by decide +kernel
theorem dX8_narrowAside_92 : decode cX8_narrowAside 92 = .ok (.getfield 197, 3) := by decide +kernel
theorem dX8_narrowAside_95 : decode cX8_narrowAside 95 = .ok (.ifCond .ne 109, 3) := by decide +kernel
theorem dX8_narrowAside_98 : decode cX8_narrowAside 98 = .ok (.iconst 0, 1) := by decide +kernel
theorem dX8_narrowAside_99 : decode cX8_narrowAside 99 = .ok (.istore_n 3, 1) := by decide +kernel
theorem dX8_narrowAside_100 : decode cX8_narrowAside 100 = .ok (.iload_n 3, 1) := by decide +kernel
theorem dX8_narrowAside_101 : decode cX8_narrowAside 101 = .ok (.aload_n 0, 1) := by decide +kernel
theorem dX8_narrowAside_102 : decode cX8_narrowAside 102 = .ok (.getfield 38, 3) := by decide +kernel
theorem dX8_narrowAside_105 : decode cX8_narrowAside 105 = .ok (.iload_n 2, 1) := by decide +kernel
theorem dX8_narrowAside_106 : decode cX8_narrowAside 106 = .ok (.iaload, 1) := by decide +kernel
theorem dX8_narrowAside_107 : decode cX8_narrowAside 107 = .ok (.if_icmp .ge 91, 3) := by decide +kernel
theorem dX8_narrowAside_110 : decode cX8_narrowAside 110 = .ok (.aload_n 0, 1) := by decide +kernel
theorem dX8_narrowAside_111 : decode cX8_narrowAside 111 = .ok (.getfield 34, 3) := by decide +kernel
theorem dX8_narrowAside_114 : decode cX8_narrowAside 114 = .ok (.iload_n 2, 1) := by decide +kernel
theorem dX8_narrowAside_115 : decode cX8_narrowAside 115 = .ok (.baload, 1) := by decide +kernel
theorem dX8_narrowAside_116 : decode cX8_narrowAside 116 = .ok (.ifCond .eq 82, 3) := by decide +kernel
theorem dX8_narrowAside_119 : decode cX8_narrowAside 119 = .ok (.aload_n 0, 1) := by decide +kernel
theorem dX8_narrowAside_120 : decode cX8_narrowAside 120 = .ok (.getfield 197, 3) := by decide +kernel
theorem dX8_narrowAside_123 : decode cX8_narrowAside 123 = .ok (.ifCond .ne 75, 3) := by decide +kernel
theorem dX8_narrowAside_126 : decode cX8_narrowAside 126 = .ok (.aload_n 0, 1) := by decide +kernel
theorem dX8_narrowAside_127 : decode cX8_narrowAside 127 = .ok (.getfield 41, 3) := by decide +kernel
theorem dX8_narrowAside_130 : decode cX8_narrowAside 130 = .ok (.bipush 6, 2) := by decide +kernel
theorem dX8_narrowAside_132 : decode cX8_narrowAside 132 = .ok (.iload_n 2, 1) := by decide +kernel
theorem dX8_narrowAside_133 : decode cX8_narrowAside 133 = .ok (.imul, 1) := by decide +kernel
theorem dX8_narrowAside_134 : decode cX8_narrowAside 134 = .ok (.iload_n 3, 1) := by decide +kernel
theorem dX8_narrowAside_135 : decode cX8_narrowAside 135 = .ok (.iadd, 1) := by decide +kernel
theorem dX8_narrowAside_136 : decode cX8_narrowAside 136 = .ok (.iaload, 1) := by decide +kernel
theorem dX8_narrowAside_137 : decode cX8_narrowAside 137 = .ok (.istore 4, 2) := by decide +kernel
theorem dX8_narrowAside_139 : decode cX8_narrowAside 139 = .ok (.aload_n 0, 1) := by decide +kernel
theorem dX8_narrowAside_140 : decode cX8_narrowAside 140 = .ok (.iload_n 2, 1) := by decide +kernel
theorem dX8_narrowAside_141 : decode cX8_narrowAside 141 = .ok (.iload_n 3, 1) := by decide +kernel
theorem dX8_narrowAside_142 : decode cX8_narrowAside 142 = .ok (.invokevirtual 204, 3) := by decide +kernel
theorem dX8_narrowAside_145 : decode cX8_narrowAside 145 = .ok (.istore 5, 2) := by decide +kernel
theorem dX8_narrowAside_147 : decode cX8_narrowAside 147 = .ok (.iload_n 1, 1) := by decide +kernel
theorem dX8_narrowAside_148 : decode cX8_narrowAside 148 = .ok (.ifCond .ne 15, 3) := by decide +kernel
theorem dX8_narrowAside_151 : decode cX8_narrowAside 151 = .ok (.iload 5, 2) := by decide +kernel
theorem dX8_narrowAside_153 : decode cX8_narrowAside 153 = .ok (.aload_n 0, 1) := by decide +kernel
theorem dX8_narrowAside_154 : decode cX8_narrowAside 154 = .ok (.getfield 78, 3) := by decide +kernel
theorem dX8_narrowAside_157 : decode cX8_narrowAside 157 = .ok (.iload 4, 2) := by decide +kernel
theorem dX8_narrowAside_159 : decode cX8_narrowAside 159 = .ok (.iaload, 1) := by decide +kernel
theorem dX8_narrowAside_160 : decode cX8_narrowAside 160 = .ok (.if_icmp .eq 7, 3) := by decide +kernel
theorem dX8_narrowAside_163 : decode cX8_narrowAside 163 = .ok (.iconst 1, 1) := by decide +kernel
theorem dX8_narrowAside_164 : decode cX8_narrowAside 164 = .ok (.goto 4, 3) := by decide +kernel
theorem dX8_narrowAside_167 : decode cX8_narrowAside 167 = .ok (.iconst 0, 1) := by decide +kernel
theorem dX8_narrowAside_168 : decode cX8_narrowAside 168 = .ok (.istore_n 1, 1) := by decide +kernel
theorem dX8_narrowAside_169 : decode cX8_narrowAside 169 = .ok (.aload_n 0, 1) := by decide +kernel
theorem dX8_narrowAside_170 : decode cX8_narrowAside 170 = .ok (.getfield 78, 3) := by decide +kernel
theorem dX8_narrowAside_173 : decode cX8_narrowAside 173 = .ok (.iload 4, 2) := by decide +kernel
theorem dX8_narrowAside_175 : decode cX8_narrowAside 175 = .ok (.iload 5, 2) := by decide +kernel
theorem dX8_narrowAside_177 : decode cX8_narrowAside 177 = .ok (.iastore, 1) := by decide +kernel
theorem dX8_narrowAside_178 : decode cX8_narrowAside 178 = .ok (.aload_n 0, 1) := by decide +kernel
theorem dX8_narrowAside_179 : decode cX8_narrowAside 179 = .ok (.iload 5, 2) := by decide +kernel
theorem dX8_narrowAside_181 : decode cX8_narrowAside 181 = .ok (.ifCond .ne 7, 3) := by decide +kernel
theorem dX8_narrowAside_184 : decode cX8_narrowAside 184 = .ok (.iconst 1, 1) := by decide +kernel
theorem dX8_narrowAside_185 : decode cX8_narrowAside 185 = .ok (.goto 4, 3) := by decide +kernel
theorem dX8_narrowAside_188 : decode cX8_narrowAside 188 = .ok (.iconst 0, 1) := by decide +kernel
theorem dX8_narrowAside_189 : decode cX8_narrowAside 189 = .ok (.putfield 197, 3) := by decide +kernel
theorem dX8_narrowAside_192 : decode cX8_narrowAside 192 = .ok (.iinc 3 1, 3) := by decide +kernel
theorem dX8_narrowAside_195 : decode cX8_narrowAside 195 = .ok (.goto (-95), 3) := by decide +kernel
theorem dX8_narrowAside_198 : decode cX8_narrowAside 198 = .ok (.iinc 2 1, 3) := by decide +kernel
theorem dX8_narrowAside_201 : decode cX8_narrowAside 201 = .ok (.goto (-118), 3) := by decide +kernel
theorem dX8_narrowAside_204 : decode cX8_narrowAside 204 = .ok (.goto (-136), 3) := by decide +kernel
theorem dX8_narrowAside_207 : decode cX8_narrowAside 207 = .ok (.return_, 1) := by decide +kernel
theorem dX8_asideAs_0 : decode cX8_asideAs 0 = .ok (.iconst 0, 1) := by decide +kernel
theorem dX8_asideAs_1 : decode cX8_asideAs 1 = .ok (.istore_n 2, 1) := by decide +kernel
theorem dX8_asideAs_2 : decode cX8_asideAs 2 = .ok (.iload_n 2, 1) := by decide +kernel
theorem dX8_asideAs_3 : decode cX8_asideAs 3 = .ok (.aload_n 0, 1) := by decide +kernel
theorem dX8_asideAs_4 : decode cX8_asideAs 4 = .ok (.getfield 93, 3) := by decide +kernel
theorem dX8_asideAs_7 : decode cX8_asideAs 7 = .ok (.if_icmp .ge 34, 3) := by decide +kernel
theorem dX8_asideAs_10 : decode cX8_asideAs 10 = .ok (.aload_n 0, 1) := by decide +kernel
theorem dX8_asideAs_11 : decode cX8_asideAs 11 = .ok (.getfield 78, 3) := by decide +kernel
theorem dX8_asideAs_14 : decode cX8_asideAs 14 = .ok (.iload_n 2, 1) := by decide +kernel
theorem dX8_asideAs_15 : decode cX8_asideAs 15 = .ok (.iload_n 1, 1) := by decide +kernel
theorem dX8_asideAs_16 : decode cX8_asideAs 16 = .ok (.ifCond .eq 12, 3) := by decide +kernel
theorem dX8_asideAs_19 : decode cX8_asideAs 19 = .ok (.aload_n 0, 1) := by decide +kernel
theorem dX8_asideAs_20 : decode cX8_asideAs 20 = .ok (.getfield 7, 3) := by decide +kernel
theorem dX8_asideAs_23 : decode cX8_asideAs 23 = .ok (.iload_n 2, 1) := by decide +kernel
theorem dX8_asideAs_24 : decode cX8_asideAs 24 = .ok (.iaload, 1) := by decide +kernel
theorem dX8_asideAs_25 : decode cX8_asideAs 25 = .ok (.goto 9, 3) := by decide +kernel
theorem dX8_asideAs_28 : decode cX8_asideAs 28 = .ok (.aload_n 0, 1) := by decide +kernel
theorem dX8_asideAs_29 : decode cX8_asideAs 29 = .ok (.getfield 13, 3) := by decide +kernel
theorem dX8_asideAs_32 : decode cX8_asideAs 32 = .ok (.iload_n 2, 1) := by decide +kernel
theorem dX8_asideAs_33 : decode cX8_asideAs 33 = .ok (.iaload, 1) := by decide +kernel
theorem dX8_asideAs_34 : decode cX8_asideAs 34 = .ok (.iastore, 1) := by decide +kernel
theorem dX8_asideAs_35 : decode cX8_asideAs 35 = .ok (.iinc 2 1, 3) := by decide +kernel
theorem dX8_asideAs_38 : decode cX8_asideAs 38 = .ok (.goto (-36), 3) := by decide +kernel
theorem dX8_asideAs_41 : decode cX8_asideAs 41 = .ok (.return_, 1) := by decide +kernel
theorem dX8_narrow_0 : decode cX8_narrow 0 = .ok (.aload_n 0, 1) := by decide +kernel
theorem dX8_narrow_1 : decode cX8_narrow 1 = .ok (.iconst 0, 1) := by decide +kernel
theorem dX8_narrow_2 : decode cX8_narrow 2 = .ok (.putfield 90, 3) := by decide +kernel
theorem dX8_narrow_5 : decode cX8_narrow 5 = .ok (.aload_n 0, 1) := by decide +kernel
theorem dX8_narrow_6 : decode cX8_narrow 6 = .ok (.iconst 0, 1) := by decide +kernel
theorem dX8_narrow_7 : decode cX8_narrow 7 = .ok (.invokevirtual 207, 3) := by decide +kernel
theorem dX8_narrow_10 : decode cX8_narrow 10 = .ok (.aload_n 0, 1) := by decide +kernel
theorem dX8_narrow_11 : decode cX8_narrow 11 = .ok (.invokevirtual 211, 3) := by decide +kernel
theorem dX8_narrow_14 : decode cX8_narrow 14 = .ok (.aload_n 0, 1) := by decide +kernel
theorem dX8_narrow_15 : decode cX8_narrow 15 = .ok (.getfield 197, 3) := by decide +kernel
theorem dX8_narrow_18 : decode cX8_narrow 18 = .ok (.ifCond .eq 6, 3) := by decide +kernel
theorem dX8_narrow_21 : decode cX8_narrow 21 = .ok (.bipush (-3), 2) := by decide +kernel
theorem dX8_narrow_23 : decode cX8_narrow 23 = .ok (.ireturn, 1) := by decide +kernel
theorem dX8_narrow_24 : decode cX8_narrow 24 = .ok (.iconst 0, 1) := by decide +kernel
theorem dX8_narrow_25 : decode cX8_narrow 25 = .ok (.istore_n 1, 1) := by decide +kernel
theorem dX8_narrow_26 : decode cX8_narrow 26 = .ok (.iconst 0, 1) := by decide +kernel
theorem dX8_narrow_27 : decode cX8_narrow 27 = .ok (.istore_n 2, 1) := by decide +kernel
theorem dX8_narrow_28 : decode cX8_narrow 28 = .ok (.iload_n 2, 1) := by decide +kernel
theorem dX8_narrow_29 : decode cX8_narrow 29 = .ok (.aload_n 0, 1) := by decide +kernel
theorem dX8_narrow_30 : decode cX8_narrow 30 = .ok (.getfield 93, 3) := by decide +kernel
theorem dX8_narrow_33 : decode cX8_narrow 33 = .ok (.if_icmp .ge 43, 3) := by decide +kernel
theorem dX8_narrow_36 : decode cX8_narrow 36 = .ok (.iload_n 1, 1) := by decide +kernel
theorem dX8_narrow_37 : decode cX8_narrow 37 = .ok (.aload_n 0, 1) := by decide +kernel
theorem dX8_narrow_38 : decode cX8_narrow 38 = .ok (.getfield 13, 3) := by decide +kernel
theorem dX8_narrow_41 : decode cX8_narrow 41 = .ok (.iload_n 2, 1) := by decide +kernel
theorem dX8_narrow_42 : decode cX8_narrow 42 = .ok (.iaload, 1) := by decide +kernel
theorem dX8_narrow_43 : decode cX8_narrow 43 = .ok (.invokestatic 123, 3) := by decide +kernel
theorem dX8_narrow_46 : decode cX8_narrow 46 = .ok (.aload_n 0, 1) := by decide +kernel
theorem dX8_narrow_47 : decode cX8_narrow 47 = .ok (.getfield 78, 3) := by decide +kernel
theorem dX8_narrow_50 : decode cX8_narrow 50 = .ok (.iload_n 2, 1) := by decide +kernel
theorem dX8_narrow_51 : decode cX8_narrow 51 = .ok (.iaload, 1) := by decide +kernel
theorem dX8_narrow_52 : decode cX8_narrow 52 = .ok (.invokestatic 123, 3) := by decide +kernel
theorem dX8_narrow_55 : decode cX8_narrow 55 = .ok (.isub, 1) := by decide +kernel
theorem dX8_narrow_56 : decode cX8_narrow 56 = .ok (.iadd, 1) := by decide +kernel
theorem dX8_narrow_57 : decode cX8_narrow 57 = .ok (.istore_n 1, 1) := by decide +kernel
theorem dX8_narrow_58 : decode cX8_narrow 58 = .ok (.aload_n 0, 1) := by decide +kernel
theorem dX8_narrow_59 : decode cX8_narrow 59 = .ok (.getfield 13, 3) := by decide +kernel
theorem dX8_narrow_62 : decode cX8_narrow 62 = .ok (.iload_n 2, 1) := by decide +kernel
theorem dX8_narrow_63 : decode cX8_narrow 63 = .ok (.aload_n 0, 1) := by decide +kernel
theorem dX8_narrow_64 : decode cX8_narrow 64 = .ok (.getfield 78, 3) := by decide +kernel
theorem dX8_narrow_67 : decode cX8_narrow 67 = .ok (.iload_n 2, 1) := by decide +kernel
theorem dX8_narrow_68 : decode cX8_narrow 68 = .ok (.iaload, 1) := by decide +kernel
theorem dX8_narrow_69 : decode cX8_narrow 69 = .ok (.iastore, 1) := by decide +kernel
theorem dX8_narrow_70 : decode cX8_narrow 70 = .ok (.iinc 2 1, 3) := by decide +kernel
theorem dX8_narrow_73 : decode cX8_narrow 73 = .ok (.goto (-45), 3) := by decide +kernel
theorem dX8_narrow_76 : decode cX8_narrow 76 = .ok (.iload_n 1, 1) := by decide +kernel
theorem dX8_narrow_77 : decode cX8_narrow 77 = .ok (.ireturn, 1) := by decide +kernel
theorem dX8_takes_0 : decode cX8_takes 0 = .ok (.aload_n 0, 1) := by decide +kernel
theorem dX8_takes_1 : decode cX8_takes 1 = .ok (.iconst 0, 1) := by decide +kernel
theorem dX8_takes_2 : decode cX8_takes 2 = .ok (.putfield 90, 3) := by decide +kernel
theorem dX8_takes_5 : decode cX8_takes 5 = .ok (.aload_n 0, 1) := by decide +kernel
theorem dX8_takes_6 : decode cX8_takes 6 = .ok (.iload_n 1, 1) := by decide +kernel
theorem dX8_takes_7 : decode cX8_takes 7 = .ok (.invokevirtual 137, 3) := by decide +kernel
theorem dX8_takes_10 : decode cX8_takes 10 = .ok (.ifCond .eq 5, 3) := by decide +kernel
theorem dX8_takes_13 : decode cX8_takes 13 = .ok (.iconst (-1), 1) := by decide +kernel
theorem dX8_takes_14 : decode cX8_takes 14 = .ok (.ireturn, 1) := by decide +kernel
theorem dX8_takes_15 : decode cX8_takes 15 = .ok (.aload_n 0, 1) := by decide +kernel
theorem dX8_takes_16 : decode cX8_takes 16 = .ok (.iconst 0, 1) := by decide +kernel
theorem dX8_takes_17 : decode cX8_takes 17 = .ok (.invokevirtual 207, 3) := by decide +kernel
theorem dX8_takes_20 : decode cX8_takes 20 = .ok (.iconst 0, 1) := by decide +kernel
theorem dX8_takes_21 : decode cX8_takes 21 = .ok (.istore_n 2, 1) := by decide +kernel
theorem dX8_takes_22 : decode cX8_takes 22 = .ok (.iconst 0, 1) := by decide +kernel
theorem dX8_takes_23 : decode cX8_takes 23 = .ok (.istore_n 3, 1) := by decide +kernel
theorem dX8_takes_24 : decode cX8_takes 24 = .ok (.iload_n 3, 1) := by decide +kernel
theorem dX8_takes_25 : decode cX8_takes 25 = .ok (.aload_n 0, 1) := by decide +kernel
theorem dX8_takes_26 : decode cX8_takes 26 = .ok (.getfield 38, 3) := by decide +kernel
theorem dX8_takes_29 : decode cX8_takes 29 = .ok (.iload_n 1, 1) := by decide +kernel
theorem dX8_takes_30 : decode cX8_takes 30 = .ok (.iaload, 1) := by decide +kernel
theorem dX8_takes_31 : decode cX8_takes 31 = .ok (.if_icmp .ge 96, 3) := by decide +kernel
theorem dX8_takes_34 : decode cX8_takes 34 = .ok (.iconst 0, 1) := by decide +kernel
theorem dX8_takes_35 : decode cX8_takes 35 = .ok (.istore 4, 2) := by decide +kernel
theorem dX8_takes_37 : decode cX8_takes 37 = .ok (.iconst 0, 1) := by decide +kernel
theorem dX8_takes_38 : decode cX8_takes 38 = .ok (.istore 5, 2) := by decide +kernel
theorem dX8_takes_40 : decode cX8_takes 40 = .ok (.iload 5, 2) := by decide +kernel
theorem dX8_takes_42 : decode cX8_takes 42 = .ok (.iload_n 3, 1) := by decide +kernel
theorem dX8_takes_43 : decode cX8_takes 43 = .ok (.if_icmp .ge 47, 3) := by decide +kernel
theorem dX8_takes_46 : decode cX8_takes 46 = .ok (.iload 4, 2) := by decide +kernel
theorem dX8_takes_48 : decode cX8_takes 48 = .ok (.ifCond .ne 29, 3) := by decide +kernel
theorem dX8_takes_51 : decode cX8_takes 51 = .ok (.aload_n 0, 1) := by decide +kernel
theorem dX8_takes_52 : decode cX8_takes 52 = .ok (.getfield 41, 3) := by decide +kernel
theorem dX8_takes_55 : decode cX8_takes 55 = .ok (.bipush 6, 2) := by decide +kernel
theorem dX8_takes_57 : decode cX8_takes 57 = .ok (.iload_n 1, 1) := by decide +kernel
theorem dX8_takes_58 : decode cX8_takes 58 = .ok (.imul, 1) := by decide +kernel
theorem dX8_takes_59 : decode cX8_takes 59 = .ok (.iload 5, 2) := by decide +kernel
theorem dX8_takes_61 : decode cX8_takes 61 = .ok (.iadd, 1) := by decide +kernel
theorem dX8_takes_62 : decode cX8_takes 62 = .ok (.iaload, 1) := by decide +kernel
theorem dX8_takes_63 : decode cX8_takes 63 = .ok (.aload_n 0, 1) := by decide +kernel
theorem dX8_takes_64 : decode cX8_takes 64 = .ok (.getfield 41, 3) := by decide +kernel
theorem dX8_takes_67 : decode cX8_takes 67 = .ok (.bipush 6, 2) := by decide +kernel
theorem dX8_takes_69 : decode cX8_takes 69 = .ok (.iload_n 1, 1) := by decide +kernel
theorem dX8_takes_70 : decode cX8_takes 70 = .ok (.imul, 1) := by decide +kernel
theorem dX8_takes_71 : decode cX8_takes 71 = .ok (.iload_n 3, 1) := by decide +kernel
theorem dX8_takes_72 : decode cX8_takes 72 = .ok (.iadd, 1) := by decide +kernel
theorem dX8_takes_73 : decode cX8_takes 73 = .ok (.iaload, 1) := by decide +kernel
theorem dX8_takes_74 : decode cX8_takes 74 = .ok (.if_icmp .ne 7, 3) := by decide +kernel
theorem dX8_takes_77 : decode cX8_takes 77 = .ok (.iconst 1, 1) := by decide +kernel
theorem dX8_takes_78 : decode cX8_takes 78 = .ok (.goto 4, 3) := by decide +kernel
theorem dX8_takes_81 : decode cX8_takes 81 = .ok (.iconst 0, 1) := by decide +kernel
theorem dX8_takes_82 : decode cX8_takes 82 = .ok (.istore 4, 2) := by decide +kernel
theorem dX8_takes_84 : decode cX8_takes 84 = .ok (.iinc 5 1, 3) := by decide +kernel
theorem dX8_takes_87 : decode cX8_takes 87 = .ok (.goto (-47), 3) := by decide +kernel
theorem dX8_takes_90 : decode cX8_takes 90 = .ok (.iload_n 2, 1) := by decide +kernel
theorem dX8_takes_91 : decode cX8_takes 91 = .ok (.iload 4, 2) := by decide +kernel
theorem dX8_takes_93 : decode cX8_takes 93 = .ok (.ifCond .eq 7, 3) := by decide +kernel
theorem dX8_takes_96 : decode cX8_takes 96 = .ok (.iconst 0, 1) := by decide +kernel
theorem dX8_takes_97 : decode cX8_takes 97 = .ok (.goto 22, 3) := by decide +kernel
theorem dX8_takes_100 : decode cX8_takes 100 = .ok (.aload_n 0, 1) := by decide +kernel
theorem dX8_takes_101 : decode cX8_takes 101 = .ok (.iload_n 1, 1) := by decide +kernel
theorem dX8_takes_102 : decode cX8_takes 102 = .ok (.iload_n 3, 1) := by decide +kernel
theorem dX8_takes_103 : decode cX8_takes 103 = .ok (.invokevirtual 155, 3) := by decide +kernel
theorem dX8_takes_106 : decode cX8_takes 106 = .ok (.invokestatic 123, 3) := by decide +kernel
theorem dX8_takes_109 : decode cX8_takes 109 = .ok (.aload_n 0, 1) := by decide +kernel
theorem dX8_takes_110 : decode cX8_takes 110 = .ok (.iload_n 1, 1) := by decide +kernel
theorem dX8_takes_111 : decode cX8_takes 111 = .ok (.iload_n 3, 1) := by decide +kernel
theorem dX8_takes_112 : decode cX8_takes 112 = .ok (.invokevirtual 204, 3) := by decide +kernel
theorem dX8_takes_115 : decode cX8_takes 115 = .ok (.invokestatic 123, 3) := by decide +kernel
theorem dX8_takes_118 : decode cX8_takes 118 = .ok (.isub, 1) := by decide +kernel
theorem dX8_takes_119 : decode cX8_takes 119 = .ok (.iadd, 1) := by decide +kernel
theorem dX8_takes_120 : decode cX8_takes 120 = .ok (.istore_n 2, 1) := by decide +kernel
theorem dX8_takes_121 : decode cX8_takes 121 = .ok (.iinc 3 1, 3) := by decide +kernel
theorem dX8_takes_124 : decode cX8_takes 124 = .ok (.goto (-100), 3) := by decide +kernel
theorem dX8_takes_127 : decode cX8_takes 127 = .ok (.iload_n 2, 1) := by decide +kernel
theorem dX8_takes_128 : decode cX8_takes 128 = .ok (.ireturn, 1) := by decide +kernel
theorem dX8_step_0 : decode cX8_step 0 = .ok (.aload_n 0, 1) := by decide +kernel
theorem dX8_step_1 : decode cX8_step 1 = .ok (.iconst 0, 1) := by decide +kernel
theorem dX8_step_2 : decode cX8_step 2 = .ok (.putfield 90, 3) := by decide +kernel
theorem dX8_step_5 : decode cX8_step 5 = .ok (.aload_n 0, 1) := by decide +kernel
theorem dX8_step_6 : decode cX8_step 6 = .ok (.iload_n 1, 1) := by decide +kernel
theorem dX8_step_7 : decode cX8_step 7 = .ok (.invokevirtual 119, 3) := by decide +kernel
theorem dX8_step_10 : decode cX8_step 10 = .ok (.ifCond .eq 5, 3) := by decide +kernel
theorem dX8_step_13 : decode cX8_step 13 = .ok (.iconst (-1), 1) := by decide +kernel
theorem dX8_step_14 : decode cX8_step 14 = .ok (.ireturn, 1) := by decide +kernel
theorem dX8_step_15 : decode cX8_step 15 = .ok (.iload_n 2, 1) := by decide +kernel
theorem dX8_step_16 : decode cX8_step 16 = .ok (.i2l, 1) := by decide +kernel
theorem dX8_step_17 : decode cX8_step 17 = .ok (.lconst 0, 1) := by decide +kernel
theorem dX8_step_18 : decode cX8_step 18 = .ok (.ldc2_w 153, 3) := by decide +kernel
theorem dX8_step_21 : decode cX8_step 21 = .ok (.invokestatic 96, 3) := by decide +kernel
theorem dX8_step_24 : decode cX8_step 24 = .ok (.ifCond .eq 15, 3) := by decide +kernel
theorem dX8_step_27 : decode cX8_step 27 = .ok (.iload_n 3, 1) := by decide +kernel
theorem dX8_step_28 : decode cX8_step 28 = .ok (.i2l, 1) := by decide +kernel
theorem dX8_step_29 : decode cX8_step 29 = .ok (.lconst 0, 1) := by decide +kernel
theorem dX8_step_30 : decode cX8_step 30 = .ok (.ldc2_w 107, 3) := by decide +kernel
theorem dX8_step_33 : decode cX8_step 33 = .ok (.invokestatic 96, 3) := by decide +kernel
theorem dX8_step_36 : decode cX8_step 36 = .ok (.ifCond .ne 6, 3) := by decide +kernel
theorem dX8_step_39 : decode cX8_step 39 = .ok (.bipush (-2), 2) := by decide +kernel
theorem dX8_step_41 : decode cX8_step 41 = .ok (.ireturn, 1) := by decide +kernel
theorem dX8_step_42 : decode cX8_step 42 = .ok (.iload_n 2, 1) := by decide +kernel
theorem dX8_step_43 : decode cX8_step 43 = .ok (.iload_n 3, 1) := by decide +kernel
theorem dX8_step_44 : decode cX8_step 44 = .ok (.invokestatic 112, 3) := by decide +kernel
theorem dX8_step_47 : decode cX8_step 47 = .ok (.istore 4, 2) := by decide +kernel
theorem dX8_step_49 : decode cX8_step 49 = .ok (.aload_n 0, 1) := by decide +kernel
theorem dX8_step_50 : decode cX8_step 50 = .ok (.getfield 13, 3) := by decide +kernel
theorem dX8_step_53 : decode cX8_step 53 = .ok (.iload_n 1, 1) := by decide +kernel
theorem dX8_step_54 : decode cX8_step 54 = .ok (.iaload, 1) := by decide +kernel
theorem dX8_step_55 : decode cX8_step 55 = .ok (.iload 4, 2) := by decide +kernel
theorem dX8_step_57 : decode cX8_step 57 = .ok (.iand, 1) := by decide +kernel
theorem dX8_step_58 : decode cX8_step 58 = .ok (.ifCond .ne 6, 3) := by decide +kernel
theorem dX8_step_61 : decode cX8_step 61 = .ok (.bipush (-3), 2) := by decide +kernel
theorem dX8_step_63 : decode cX8_step 63 = .ok (.ireturn, 1) := by decide +kernel
theorem dX8_step_64 : decode cX8_step 64 = .ok (.aload_n 0, 1) := by decide +kernel
theorem dX8_step_65 : decode cX8_step 65 = .ok (.getfield 109, 3) := by decide +kernel
theorem dX8_step_68 : decode cX8_step 68 = .ok (.bipush 12, 2) := by decide +kernel
theorem dX8_step_70 : decode cX8_step 70 = .ok (.if_icmp .ne 6, 3) := by decide +kernel
theorem dX8_step_73 : decode cX8_step 73 = .ok (.bipush (-4), 2) := by decide +kernel
theorem dX8_step_75 : decode cX8_step 75 = .ok (.ireturn, 1) := by decide +kernel
theorem dX8_step_76 : decode cX8_step 76 = .ok (.iconst 0, 1) := by decide +kernel
theorem dX8_step_77 : decode cX8_step 77 = .ok (.istore 5, 2) := by decide +kernel
theorem dX8_step_79 : decode cX8_step 79 = .ok (.iload 5, 2) := by decide +kernel
theorem dX8_step_81 : decode cX8_step 81 = .ok (.bipush 10, 2) := by decide +kernel
theorem dX8_step_83 : decode cX8_step 83 = .ok (.if_icmp .ge 31, 3) := by decide +kernel
theorem dX8_step_86 : decode cX8_step 86 = .ok (.aload_n 0, 1) := by decide +kernel
theorem dX8_step_87 : decode cX8_step 87 = .ok (.getfield 22, 3) := by decide +kernel
theorem dX8_step_90 : decode cX8_step 90 = .ok (.bipush 10, 2) := by decide +kernel
theorem dX8_step_92 : decode cX8_step 92 = .ok (.aload_n 0, 1) := by decide +kernel
theorem dX8_step_93 : decode cX8_step 93 = .ok (.getfield 109, 3) := by decide +kernel
theorem dX8_step_96 : decode cX8_step 96 = .ok (.imul, 1) := by decide +kernel
theorem dX8_step_97 : decode cX8_step 97 = .ok (.iload 5, 2) := by decide +kernel
theorem dX8_step_99 : decode cX8_step 99 = .ok (.iadd, 1) := by decide +kernel
theorem dX8_step_100 : decode cX8_step 100 = .ok (.aload_n 0, 1) := by decide +kernel
theorem dX8_step_101 : decode cX8_step 101 = .ok (.getfield 13, 3) := by decide +kernel
theorem dX8_step_104 : decode cX8_step 104 = .ok (.iload 5, 2) := by decide +kernel
theorem dX8_step_106 : decode cX8_step 106 = .ok (.iaload, 1) := by decide +kernel
theorem dX8_step_107 : decode cX8_step 107 = .ok (.iastore, 1) := by decide +kernel
theorem dX8_step_108 : decode cX8_step 108 = .ok (.iinc 5 1, 3) := by decide +kernel
theorem dX8_step_111 : decode cX8_step 111 = .ok (.goto (-32), 3) := by decide +kernel
theorem dX8_step_114 : decode cX8_step 114 = .ok (.aload_n 0, 1) := by decide +kernel
theorem dX8_step_115 : decode cX8_step 115 = .ok (.getfield 16, 3) := by decide +kernel
theorem dX8_step_118 : decode cX8_step 118 = .ok (.aload_n 0, 1) := by decide +kernel
theorem dX8_step_119 : decode cX8_step 119 = .ok (.getfield 109, 3) := by decide +kernel
theorem dX8_step_122 : decode cX8_step 122 = .ok (.iload_n 1, 1) := by decide +kernel
theorem dX8_step_123 : decode cX8_step 123 = .ok (.iastore, 1) := by decide +kernel
theorem dX8_step_124 : decode cX8_step 124 = .ok (.aload_n 0, 1) := by decide +kernel
theorem dX8_step_125 : decode cX8_step 125 = .ok (.getfield 19, 3) := by decide +kernel
theorem dX8_step_128 : decode cX8_step 128 = .ok (.aload_n 0, 1) := by decide +kernel
theorem dX8_step_129 : decode cX8_step 129 = .ok (.getfield 109, 3) := by decide +kernel
theorem dX8_step_132 : decode cX8_step 132 = .ok (.iload 4, 2) := by decide +kernel
theorem dX8_step_134 : decode cX8_step 134 = .ok (.iastore, 1) := by decide +kernel
theorem dX8_step_135 : decode cX8_step 135 = .ok (.aload_n 0, 1) := by decide +kernel
theorem dX8_step_136 : decode cX8_step 136 = .ok (.getfield 13, 3) := by decide +kernel
theorem dX8_step_139 : decode cX8_step 139 = .ok (.iload_n 1, 1) := by decide +kernel
theorem dX8_step_140 : decode cX8_step 140 = .ok (.dup2, 1) := by decide +kernel
theorem dX8_step_141 : decode cX8_step 141 = .ok (.iaload, 1) := by decide +kernel
theorem dX8_step_142 : decode cX8_step 142 = .ok (.iload 4, 2) := by decide +kernel
theorem dX8_step_144 : decode cX8_step 144 = .ok (.iand, 1) := by decide +kernel
theorem dX8_step_145 : decode cX8_step 145 = .ok (.iastore, 1) := by decide +kernel
theorem dX8_step_146 : decode cX8_step 146 = .ok (.aload_n 0, 1) := by decide +kernel
theorem dX8_step_147 : decode cX8_step 147 = .ok (.dup, 1) := by decide +kernel
theorem dX8_step_148 : decode cX8_step 148 = .ok (.getfield 109, 3) := by decide +kernel
theorem dX8_step_151 : decode cX8_step 151 = .ok (.iconst 1, 1) := by decide +kernel
theorem dX8_step_152 : decode cX8_step 152 = .ok (.iadd, 1) := by decide +kernel
theorem dX8_step_153 : decode cX8_step 153 = .ok (.putfield 109, 3) := by decide +kernel
theorem dX8_step_156 : decode cX8_step 156 = .ok (.aload_n 0, 1) := by decide +kernel
theorem dX8_step_157 : decode cX8_step 157 = .ok (.getfield 109, 3) := by decide +kernel
theorem dX8_step_160 : decode cX8_step 160 = .ok (.iconst 1, 1) := by decide +kernel
theorem dX8_step_161 : decode cX8_step 161 = .ok (.isub, 1) := by decide +kernel
theorem dX8_step_162 : decode cX8_step 162 = .ok (.ireturn, 1) := by decide +kernel
theorem dX8_undo_0 : decode cX8_undo 0 = .ok (.aload_n 0, 1) := by decide +kernel
theorem dX8_undo_1 : decode cX8_undo 1 = .ok (.iconst 0, 1) := by decide +kernel
theorem dX8_undo_2 : decode cX8_undo 2 = .ok (.putfield 90, 3) := by decide +kernel
theorem dX8_undo_5 : decode cX8_undo 5 = .ok (.iload_n 1, 1) := by decide +kernel
theorem dX8_undo_6 : decode cX8_undo 6 = .ok (.i2l, 1) := by decide +kernel
theorem dX8_undo_7 : decode cX8_undo 7 = .ok (.lconst 0, 1) := by decide +kernel
theorem dX8_undo_8 : decode cX8_undo 8 = .ok (.aload_n 0, 1) := by decide +kernel
theorem dX8_undo_9 : decode cX8_undo 9 = .ok (.getfield 109, 3) := by decide +kernel
theorem dX8_undo_12 : decode cX8_undo 12 = .ok (.i2l, 1) := by decide +kernel
theorem dX8_undo_13 : decode cX8_undo 13 = .ok (.invokestatic 96, 3) := by decide +kernel
theorem dX8_undo_16 : decode cX8_undo 16 = .ok (.ifCond .ne 6, 3) := by decide +kernel
theorem dX8_undo_19 : decode cX8_undo 19 = .ok (.bipush (-2), 2) := by decide +kernel
theorem dX8_undo_21 : decode cX8_undo 21 = .ok (.ireturn, 1) := by decide +kernel
theorem dX8_undo_22 : decode cX8_undo 22 = .ok (.aload_n 0, 1) := by decide +kernel
theorem dX8_undo_23 : decode cX8_undo 23 = .ok (.getfield 109, 3) := by decide +kernel
theorem dX8_undo_26 : decode cX8_undo 26 = .ok (.iload_n 1, 1) := by decide +kernel
theorem dX8_undo_27 : decode cX8_undo 27 = .ok (.isub, 1) := by decide +kernel
theorem dX8_undo_28 : decode cX8_undo 28 = .ok (.istore_n 2, 1) := by decide +kernel
theorem dX8_undo_29 : decode cX8_undo 29 = .ok (.iconst 0, 1) := by decide +kernel
theorem dX8_undo_30 : decode cX8_undo 30 = .ok (.istore_n 3, 1) := by decide +kernel
theorem dX8_undo_31 : decode cX8_undo 31 = .ok (.iload_n 3, 1) := by decide +kernel
theorem dX8_undo_32 : decode cX8_undo 32 = .ok (.bipush 10, 2) := by decide +kernel
theorem dX8_undo_34 : decode cX8_undo 34 = .ok (.if_icmp .ge 30, 3) := by decide +kernel
theorem dX8_undo_37 : decode cX8_undo 37 = .ok (.iload_n 2, 1) := by decide +kernel
theorem dX8_undo_38 : decode cX8_undo 38 = .ok (.ifCond .le 26, 3) := by decide +kernel
theorem dX8_undo_41 : decode cX8_undo 41 = .ok (.aload_n 0, 1) := by decide +kernel
theorem dX8_undo_42 : decode cX8_undo 42 = .ok (.getfield 13, 3) := by decide +kernel
theorem dX8_undo_45 : decode cX8_undo 45 = .ok (.iload_n 3, 1) := by decide +kernel
theorem dX8_undo_46 : decode cX8_undo 46 = .ok (.aload_n 0, 1) := by decide +kernel
theorem dX8_undo_47 : decode cX8_undo 47 = .ok (.getfield 22, 3) := by decide +kernel
theorem dX8_undo_50 : decode cX8_undo 50 = .ok (.bipush 10, 2) := by decide +kernel
theorem dX8_undo_52 : decode cX8_undo 52 = .ok (.iload_n 1, 1) := by decide +kernel
theorem dX8_undo_53 : decode cX8_undo 53 = .ok (.imul, 1) := by decide +kernel
theorem dX8_undo_54 : decode cX8_undo 54 = .ok (.iload_n 3, 1) := by decide +kernel
theorem dX8_undo_55 : decode cX8_undo 55 = .ok (.iadd, 1) := by decide +kernel
theorem dX8_undo_56 : decode cX8_undo 56 = .ok (.iaload, 1) := by decide +kernel
theorem dX8_undo_57 : decode cX8_undo 57 = .ok (.iastore, 1) := by decide +kernel
theorem dX8_undo_58 : decode cX8_undo 58 = .ok (.iinc 3 1, 3) := by decide +kernel
theorem dX8_undo_61 : decode cX8_undo 61 = .ok (.goto (-30), 3) := by decide +kernel
theorem dX8_undo_64 : decode cX8_undo 64 = .ok (.aload_n 0, 1) := by decide +kernel
theorem dX8_undo_65 : decode cX8_undo 65 = .ok (.iload_n 1, 1) := by decide +kernel
theorem dX8_undo_66 : decode cX8_undo 66 = .ok (.putfield 109, 3) := by decide +kernel
theorem dX8_undo_69 : decode cX8_undo 69 = .ok (.iload_n 2, 1) := by decide +kernel
theorem dX8_undo_70 : decode cX8_undo 70 = .ok (.ireturn, 1) := by decide +kernel
theorem dX8_range_0 : decode cX8_range 0 = .ok (.aload_n 0, 1) := by decide +kernel
theorem dX8_range_1 : decode cX8_range 1 = .ok (.iconst 0, 1) := by decide +kernel
theorem dX8_range_2 : decode cX8_range 2 = .ok (.putfield 90, 3) := by decide +kernel
theorem dX8_range_5 : decode cX8_range 5 = .ok (.aload_n 0, 1) := by decide +kernel
theorem dX8_range_6 : decode cX8_range 6 = .ok (.iload_n 1, 1) := by decide +kernel
theorem dX8_range_7 : decode cX8_range 7 = .ok (.invokevirtual 119, 3) := by decide +kernel
theorem dX8_range_10 : decode cX8_range 10 = .ok (.ifCond .eq 5, 3) := by decide +kernel
theorem dX8_range_13 : decode cX8_range 13 = .ok (.iconst (-1), 1) := by decide +kernel
theorem dX8_range_14 : decode cX8_range 14 = .ok (.ireturn, 1) := by decide +kernel
theorem dX8_range_15 : decode cX8_range 15 = .ok (.iload_n 2, 1) := by decide +kernel
theorem dX8_range_16 : decode cX8_range 16 = .ok (.tableswitch 80 0 4 #[36, 46, 56, 66, 73], 36) := by decide +kernel
theorem dX8_range_52 : decode cX8_range 52 = .ok (.aload_n 0, 1) := by decide +kernel
theorem dX8_range_53 : decode cX8_range 53 = .ok (.getfield 13, 3) := by decide +kernel
theorem dX8_range_56 : decode cX8_range 56 = .ok (.iload_n 1, 1) := by decide +kernel
theorem dX8_range_57 : decode cX8_range 57 = .ok (.iaload, 1) := by decide +kernel
theorem dX8_range_58 : decode cX8_range 58 = .ok (.invokestatic 123, 3) := by decide +kernel
theorem dX8_range_61 : decode cX8_range 61 = .ok (.ireturn, 1) := by decide +kernel
theorem dX8_range_62 : decode cX8_range 62 = .ok (.aload_n 0, 1) := by decide +kernel
theorem dX8_range_63 : decode cX8_range 63 = .ok (.getfield 13, 3) := by decide +kernel
theorem dX8_range_66 : decode cX8_range 66 = .ok (.iload_n 1, 1) := by decide +kernel
theorem dX8_range_67 : decode cX8_range 67 = .ok (.iaload, 1) := by decide +kernel
theorem dX8_range_68 : decode cX8_range 68 = .ok (.invokestatic 161, 3) := by decide +kernel
theorem dX8_range_71 : decode cX8_range 71 = .ok (.ireturn, 1) := by decide +kernel
theorem dX8_range_72 : decode cX8_range 72 = .ok (.aload_n 0, 1) := by decide +kernel
theorem dX8_range_73 : decode cX8_range 73 = .ok (.getfield 13, 3) := by decide +kernel
theorem dX8_range_76 : decode cX8_range 76 = .ok (.iload_n 1, 1) := by decide +kernel
theorem dX8_range_77 : decode cX8_range 77 = .ok (.iaload, 1) := by decide +kernel
theorem dX8_range_78 : decode cX8_range 78 = .ok (.invokestatic 158, 3) := by decide +kernel
theorem dX8_range_81 : decode cX8_range 81 = .ok (.ireturn, 1) := by decide +kernel
theorem dX8_range_82 : decode cX8_range 82 = .ok (.aload_n 0, 1) := by decide +kernel
theorem dX8_range_83 : decode cX8_range 83 = .ok (.getfield 13, 3) := by decide +kernel
theorem dX8_range_86 : decode cX8_range 86 = .ok (.iload_n 1, 1) := by decide +kernel
theorem dX8_range_87 : decode cX8_range 87 = .ok (.iaload, 1) := by decide +kernel
theorem dX8_range_88 : decode cX8_range 88 = .ok (.ireturn, 1) := by decide +kernel
theorem dX8_range_89 : decode cX8_range 89 = .ok (.aload_n 0, 1) := by decide +kernel
theorem dX8_range_90 : decode cX8_range 90 = .ok (.getfield 7, 3) := by decide +kernel
theorem dX8_range_93 : decode cX8_range 93 = .ok (.iload_n 1, 1) := by decide +kernel
theorem dX8_range_94 : decode cX8_range 94 = .ok (.iaload, 1) := by decide +kernel
theorem dX8_range_95 : decode cX8_range 95 = .ok (.ireturn, 1) := by decide +kernel
theorem dX8_range_96 : decode cX8_range 96 = .ok (.bipush (-2), 2) := by decide +kernel
theorem dX8_range_98 : decode cX8_range 98 = .ok (.ireturn, 1) := by decide +kernel
theorem dX8_asideCut_0 : decode cX8_asideCut 0 = .ok (.aload_n 0, 1) := by decide +kernel
theorem dX8_asideCut_1 : decode cX8_asideCut 1 = .ok (.iconst 1, 1) := by decide +kernel
theorem dX8_asideCut_2 : decode cX8_asideCut 2 = .ok (.invokevirtual 207, 3) := by decide +kernel
theorem dX8_asideCut_5 : decode cX8_asideCut 5 = .ok (.iconst 0, 1) := by decide +kernel
theorem dX8_asideCut_6 : decode cX8_asideCut 6 = .ok (.istore_n 2, 1) := by decide +kernel
theorem dX8_asideCut_7 : decode cX8_asideCut 7 = .ok (.iload_n 2, 1) := by decide +kernel
theorem dX8_asideCut_8 : decode cX8_asideCut 8 = .ok (.aload_n 0, 1) := by decide +kernel
theorem dX8_asideCut_9 : decode cX8_asideCut 9 = .ok (.getfield 109, 3) := by decide +kernel
theorem dX8_asideCut_12 : decode cX8_asideCut 12 = .ok (.if_icmp .ge 38, 3) := by decide +kernel
theorem dX8_asideCut_15 : decode cX8_asideCut 15 = .ok (.iload_n 1, 1) := by decide +kernel
theorem dX8_asideCut_16 : decode cX8_asideCut 16 = .ok (.iload_n 2, 1) := by decide +kernel
theorem dX8_asideCut_17 : decode cX8_asideCut 17 = .ok (.ishr, 1) := by decide +kernel
theorem dX8_asideCut_18 : decode cX8_asideCut 18 = .ok (.iconst 1, 1) := by decide +kernel
theorem dX8_asideCut_19 : decode cX8_asideCut 19 = .ok (.iand, 1) := by decide +kernel
theorem dX8_asideCut_20 : decode cX8_asideCut 20 = .ok (.iconst 1, 1) := by decide +kernel
theorem dX8_asideCut_21 : decode cX8_asideCut 21 = .ok (.if_icmp .ne 23, 3) := by decide +kernel
theorem dX8_asideCut_24 : decode cX8_asideCut 24 = .ok (.aload_n 0, 1) := by decide +kernel
theorem dX8_asideCut_25 : decode cX8_asideCut 25 = .ok (.getfield 78, 3) := by decide +kernel
theorem dX8_asideCut_28 : decode cX8_asideCut 28 = .ok (.aload_n 0, 1) := by decide +kernel
theorem dX8_asideCut_29 : decode cX8_asideCut 29 = .ok (.getfield 16, 3) := by decide +kernel
theorem dX8_asideCut_32 : decode cX8_asideCut 32 = .ok (.iload_n 2, 1) := by decide +kernel
theorem dX8_asideCut_33 : decode cX8_asideCut 33 = .ok (.iaload, 1) := by decide +kernel
theorem dX8_asideCut_34 : decode cX8_asideCut 34 = .ok (.dup2, 1) := by decide +kernel
theorem dX8_asideCut_35 : decode cX8_asideCut 35 = .ok (.iaload, 1) := by decide +kernel
theorem dX8_asideCut_36 : decode cX8_asideCut 36 = .ok (.aload_n 0, 1) := by decide +kernel
theorem dX8_asideCut_37 : decode cX8_asideCut 37 = .ok (.getfield 19, 3) := by decide +kernel
theorem dX8_asideCut_40 : decode cX8_asideCut 40 = .ok (.iload_n 2, 1) := by decide +kernel
theorem dX8_asideCut_41 : decode cX8_asideCut 41 = .ok (.iaload, 1) := by decide +kernel
theorem dX8_asideCut_42 : decode cX8_asideCut 42 = .ok (.iand, 1) := by decide +kernel
theorem dX8_asideCut_43 : decode cX8_asideCut 43 = .ok (.iastore, 1) := by decide +kernel
theorem dX8_asideCut_44 : decode cX8_asideCut 44 = .ok (.iinc 2 1, 3) := by decide +kernel
theorem dX8_asideCut_47 : decode cX8_asideCut 47 = .ok (.goto (-40), 3) := by decide +kernel
theorem dX8_asideCut_50 : decode cX8_asideCut 50 = .ok (.return_, 1) := by decide +kernel
theorem dX8_isLacked_0 : decode cX8_isLacked 0 = .ok (.aload_n 0, 1) := by decide +kernel
theorem dX8_isLacked_1 : decode cX8_isLacked 1 = .ok (.iload_n 1, 1) := by decide +kernel
theorem dX8_isLacked_2 : decode cX8_isLacked 2 = .ok (.invokevirtual 214, 3) := by decide +kernel
theorem dX8_isLacked_5 : decode cX8_isLacked 5 = .ok (.aload_n 0, 1) := by decide +kernel
theorem dX8_isLacked_6 : decode cX8_isLacked 6 = .ok (.invokevirtual 211, 3) := by decide +kernel
theorem dX8_isLacked_9 : decode cX8_isLacked 9 = .ok (.aload_n 0, 1) := by decide +kernel
theorem dX8_isLacked_10 : decode cX8_isLacked 10 = .ok (.getfield 197, 3) := by decide +kernel
theorem dX8_isLacked_13 : decode cX8_isLacked 13 = .ok (.ifCond .ne 16, 3) := by decide +kernel
theorem dX8_isLacked_16 : decode cX8_isLacked 16 = .ok (.aload_n 0, 1) := by decide +kernel
theorem dX8_isLacked_17 : decode cX8_isLacked 17 = .ok (.getfield 78, 3) := by decide +kernel
theorem dX8_isLacked_20 : decode cX8_isLacked 20 = .ok (.iload_n 2, 1) := by decide +kernel
theorem dX8_isLacked_21 : decode cX8_isLacked 21 = .ok (.iaload, 1) := by decide +kernel
theorem dX8_isLacked_22 : decode cX8_isLacked 22 = .ok (.iload_n 3, 1) := by decide +kernel
theorem dX8_isLacked_23 : decode cX8_isLacked 23 = .ok (.ishr, 1) := by decide +kernel
theorem dX8_isLacked_24 : decode cX8_isLacked 24 = .ok (.iconst 1, 1) := by decide +kernel
theorem dX8_isLacked_25 : decode cX8_isLacked 25 = .ok (.iand, 1) := by decide +kernel
theorem dX8_isLacked_26 : decode cX8_isLacked 26 = .ok (.ifCond .ne 7, 3) := by decide +kernel
theorem dX8_isLacked_29 : decode cX8_isLacked 29 = .ok (.iconst 1, 1) := by decide +kernel
theorem dX8_isLacked_30 : decode cX8_isLacked 30 = .ok (.goto 4, 3) := by decide +kernel
theorem dX8_isLacked_33 : decode cX8_isLacked 33 = .ok (.iconst 0, 1) := by decide +kernel
theorem dX8_isLacked_34 : decode cX8_isLacked 34 = .ok (.ireturn, 1) := by decide +kernel
theorem dX8_reasoned_0 : decode cX8_reasoned 0 = .ok (.aload_n 0, 1) := by decide +kernel
theorem dX8_reasoned_1 : decode cX8_reasoned 1 = .ok (.iconst 0, 1) := by decide +kernel
theorem dX8_reasoned_2 : decode cX8_reasoned 2 = .ok (.putfield 218, 3) := by decide +kernel
theorem dX8_reasoned_5 : decode cX8_reasoned 5 = .ok (.iconst 0, 1) := by decide +kernel
theorem dX8_reasoned_6 : decode cX8_reasoned 6 = .ok (.istore_n 2, 1) := by decide +kernel
theorem dX8_reasoned_7 : decode cX8_reasoned 7 = .ok (.iload_n 2, 1) := by decide +kernel
theorem dX8_reasoned_8 : decode cX8_reasoned 8 = .ok (.bipush 12, 2) := by decide +kernel
theorem dX8_reasoned_10 : decode cX8_reasoned 10 = .ok (.if_icmp .ge 38, 3) := by decide +kernel
theorem dX8_reasoned_13 : decode cX8_reasoned 13 = .ok (.iload_n 1, 1) := by decide +kernel
theorem dX8_reasoned_14 : decode cX8_reasoned 14 = .ok (.iload_n 2, 1) := by decide +kernel
theorem dX8_reasoned_15 : decode cX8_reasoned 15 = .ok (.ishr, 1) := by decide +kernel
theorem dX8_reasoned_16 : decode cX8_reasoned 16 = .ok (.iconst 1, 1) := by decide +kernel
theorem dX8_reasoned_17 : decode cX8_reasoned 17 = .ok (.iand, 1) := by decide +kernel
theorem dX8_reasoned_18 : decode cX8_reasoned 18 = .ok (.iconst 1, 1) := by decide +kernel
theorem dX8_reasoned_19 : decode cX8_reasoned 19 = .ok (.if_icmp .ne 23, 3) := by decide +kernel
theorem dX8_reasoned_22 : decode cX8_reasoned 22 = .ok (.aload_n 0, 1) := by decide +kernel
theorem dX8_reasoned_23 : decode cX8_reasoned 23 = .ok (.getfield 68, 3) := by decide +kernel
theorem dX8_reasoned_26 : decode cX8_reasoned 26 = .ok (.aload_n 0, 1) := by decide +kernel
theorem dX8_reasoned_27 : decode cX8_reasoned 27 = .ok (.getfield 218, 3) := by decide +kernel
theorem dX8_reasoned_30 : decode cX8_reasoned 30 = .ok (.iload_n 2, 1) := by decide +kernel
theorem dX8_reasoned_31 : decode cX8_reasoned 31 = .ok (.iastore, 1) := by decide +kernel
theorem dX8_reasoned_32 : decode cX8_reasoned 32 = .ok (.aload_n 0, 1) := by decide +kernel
theorem dX8_reasoned_33 : decode cX8_reasoned 33 = .ok (.dup, 1) := by decide +kernel
theorem dX8_reasoned_34 : decode cX8_reasoned 34 = .ok (.getfield 218, 3) := by decide +kernel
theorem dX8_reasoned_37 : decode cX8_reasoned 37 = .ok (.iconst 1, 1) := by decide +kernel
theorem dX8_reasoned_38 : decode cX8_reasoned 38 = .ok (.iadd, 1) := by decide +kernel
theorem dX8_reasoned_39 : decode cX8_reasoned 39 = .ok (.putfield 218, 3) := by decide +kernel
theorem dX8_reasoned_42 : decode cX8_reasoned 42 = .ok (.iinc 2 1, 3) := by decide +kernel
theorem dX8_reasoned_45 : decode cX8_reasoned 45 = .ok (.goto (-38), 3) := by decide +kernel
theorem dX8_reasoned_48 : decode cX8_reasoned 48 = .ok (.aload_n 0, 1) := by decide +kernel
theorem dX8_reasoned_49 : decode cX8_reasoned 49 = .ok (.getfield 218, 3) := by decide +kernel
theorem dX8_reasoned_52 : decode cX8_reasoned 52 = .ok (.ireturn, 1) := by decide +kernel
theorem dX8_why_0 : decode cX8_why 0 = .ok (.aload_n 0, 1) := by decide +kernel
theorem dX8_why_1 : decode cX8_why 1 = .ok (.iconst 0, 1) := by decide +kernel
theorem dX8_why_2 : decode cX8_why 2 = .ok (.putfield 90, 3) := by decide +kernel
theorem dX8_why_5 : decode cX8_why 5 = .ok (.aload_n 0, 1) := by decide +kernel
theorem dX8_why_6 : decode cX8_why 6 = .ok (.iload_n 1, 1) := by decide +kernel
theorem dX8_why_7 : decode cX8_why 7 = .ok (.invokevirtual 119, 3) := by decide +kernel
theorem dX8_why_10 : decode cX8_why 10 = .ok (.ifCond .eq 5, 3) := by decide +kernel
theorem dX8_why_13 : decode cX8_why 13 = .ok (.iconst (-1), 1) := by decide +kernel
theorem dX8_why_14 : decode cX8_why 14 = .ok (.ireturn, 1) := by decide +kernel
theorem dX8_why_15 : decode cX8_why 15 = .ok (.iload_n 2, 1) := by decide +kernel
theorem dX8_why_16 : decode cX8_why 16 = .ok (.i2l, 1) := by decide +kernel
theorem dX8_why_17 : decode cX8_why 17 = .ok (.lconst 0, 1) := by decide +kernel
theorem dX8_why_18 : decode cX8_why 18 = .ok (.ldc2_w 107, 3) := by decide +kernel
theorem dX8_why_21 : decode cX8_why 21 = .ok (.invokestatic 96, 3) := by decide +kernel
theorem dX8_why_24 : decode cX8_why 24 = .ok (.ifCond .ne 6, 3) := by decide +kernel
theorem dX8_why_27 : decode cX8_why 27 = .ok (.bipush (-2), 2) := by decide +kernel
theorem dX8_why_29 : decode cX8_why 29 = .ok (.ireturn, 1) := by decide +kernel
theorem dX8_why_30 : decode cX8_why 30 = .ok (.iconst 1, 1) := by decide +kernel
theorem dX8_why_31 : decode cX8_why 31 = .ok (.aload_n 0, 1) := by decide +kernel
theorem dX8_why_32 : decode cX8_why 32 = .ok (.getfield 109, 3) := by decide +kernel
theorem dX8_why_35 : decode cX8_why 35 = .ok (.ishl, 1) := by decide +kernel
theorem dX8_why_36 : decode cX8_why 36 = .ok (.iconst 1, 1) := by decide +kernel
theorem dX8_why_37 : decode cX8_why 37 = .ok (.isub, 1) := by decide +kernel
theorem dX8_why_38 : decode cX8_why 38 = .ok (.istore_n 3, 1) := by decide +kernel
theorem dX8_why_39 : decode cX8_why 39 = .ok (.aload_n 0, 1) := by decide +kernel
theorem dX8_why_40 : decode cX8_why 40 = .ok (.getfield 7, 3) := by decide +kernel
theorem dX8_why_43 : decode cX8_why 43 = .ok (.iload_n 1, 1) := by decide +kernel
theorem dX8_why_44 : decode cX8_why 44 = .ok (.iaload, 1) := by decide +kernel
theorem dX8_why_45 : decode cX8_why 45 = .ok (.iload_n 2, 1) := by decide +kernel
theorem dX8_why_46 : decode cX8_why 46 = .ok (.ishr, 1) := by decide +kernel
theorem dX8_why_47 : decode cX8_why 47 = .ok (.iconst 1, 1) := by decide +kernel
theorem dX8_why_48 : decode cX8_why 48 = .ok (.iand, 1) := by decide +kernel
theorem dX8_why_49 : decode cX8_why 49 = .ok (.ifCond .eq 13, 3) := by decide +kernel
theorem dX8_why_52 : decode cX8_why 52 = .ok (.aload_n 0, 1) := by decide +kernel
theorem dX8_why_53 : decode cX8_why 53 = .ok (.iload_n 3, 1) := by decide +kernel
theorem dX8_why_54 : decode cX8_why 54 = .ok (.iload_n 1, 1) := by decide +kernel
theorem dX8_why_55 : decode cX8_why 55 = .ok (.iload_n 2, 1) := by decide +kernel
theorem dX8_why_56 : decode cX8_why 56 = .ok (.invokevirtual 221, 3) := by decide +kernel
theorem dX8_why_59 : decode cX8_why 59 = .ok (.ifCond .ne 6, 3) := by decide +kernel
theorem dX8_why_62 : decode cX8_why 62 = .ok (.bipush (-3), 2) := by decide +kernel
theorem dX8_why_64 : decode cX8_why 64 = .ok (.ireturn, 1) := by decide +kernel
theorem dX8_why_65 : decode cX8_why 65 = .ok (.iconst 0, 1) := by decide +kernel
theorem dX8_why_66 : decode cX8_why 66 = .ok (.istore 4, 2) := by decide +kernel
theorem dX8_why_68 : decode cX8_why 68 = .ok (.iload 4, 2) := by decide +kernel
theorem dX8_why_70 : decode cX8_why 70 = .ok (.aload_n 0, 1) := by decide +kernel
theorem dX8_why_71 : decode cX8_why 71 = .ok (.getfield 109, 3) := by decide +kernel
theorem dX8_why_74 : decode cX8_why 74 = .ok (.if_icmp .ge 35, 3) := by decide +kernel
theorem dX8_why_77 : decode cX8_why 77 = .ok (.iload_n 3, 1) := by decide +kernel
theorem dX8_why_78 : decode cX8_why 78 = .ok (.aload_n 0, 1) := by decide +kernel
theorem dX8_why_79 : decode cX8_why 79 = .ok (.iload_n 3, 1) := by decide +kernel
theorem dX8_why_80 : decode cX8_why 80 = .ok (.iconst 1, 1) := by decide +kernel
theorem dX8_why_81 : decode cX8_why 81 = .ok (.iload 4, 2) := by decide +kernel
theorem dX8_why_83 : decode cX8_why 83 = .ok (.ishl, 1) := by decide +kernel
theorem dX8_why_84 : decode cX8_why 84 = .ok (.isub, 1) := by decide +kernel
theorem dX8_why_85 : decode cX8_why 85 = .ok (.iload_n 1, 1) := by decide +kernel
theorem dX8_why_86 : decode cX8_why 86 = .ok (.iload_n 2, 1) := by decide +kernel
theorem dX8_why_87 : decode cX8_why 87 = .ok (.invokevirtual 221, 3) := by decide +kernel
theorem dX8_why_90 : decode cX8_why 90 = .ok (.ifCond .eq 10, 3) := by decide +kernel
theorem dX8_why_93 : decode cX8_why 93 = .ok (.iconst 1, 1) := by decide +kernel
theorem dX8_why_94 : decode cX8_why 94 = .ok (.iload 4, 2) := by decide +kernel
theorem dX8_why_96 : decode cX8_why 96 = .ok (.ishl, 1) := by decide +kernel
theorem dX8_why_97 : decode cX8_why 97 = .ok (.goto 4, 3) := by decide +kernel
theorem dX8_why_100 : decode cX8_why 100 = .ok (.iconst 0, 1) := by decide +kernel
theorem dX8_why_101 : decode cX8_why 101 = .ok (.isub, 1) := by decide +kernel
theorem dX8_why_102 : decode cX8_why 102 = .ok (.istore_n 3, 1) := by decide +kernel
theorem dX8_why_103 : decode cX8_why 103 = .ok (.iinc 4 1, 3) := by decide +kernel
theorem dX8_why_106 : decode cX8_why 106 = .ok (.goto (-38), 3) := by decide +kernel
theorem dX8_why_109 : decode cX8_why 109 = .ok (.aload_n 0, 1) := by decide +kernel
theorem dX8_why_110 : decode cX8_why 110 = .ok (.iload_n 3, 1) := by decide +kernel
theorem dX8_why_111 : decode cX8_why 111 = .ok (.invokevirtual 224, 3) := by decide +kernel
theorem dX8_why_114 : decode cX8_why 114 = .ok (.ireturn, 1) := by decide +kernel
theorem dX8_reason_0 : decode cX8_reason 0 = .ok (.aload_n 0, 1) := by decide +kernel
theorem dX8_reason_1 : decode cX8_reason 1 = .ok (.iconst 0, 1) := by decide +kernel
theorem dX8_reason_2 : decode cX8_reason 2 = .ok (.putfield 90, 3) := by decide +kernel
theorem dX8_reason_5 : decode cX8_reason 5 = .ok (.iload_n 1, 1) := by decide +kernel
theorem dX8_reason_6 : decode cX8_reason 6 = .ok (.i2l, 1) := by decide +kernel
theorem dX8_reason_7 : decode cX8_reason 7 = .ok (.lconst 0, 1) := by decide +kernel
theorem dX8_reason_8 : decode cX8_reason 8 = .ok (.aload_n 0, 1) := by decide +kernel
theorem dX8_reason_9 : decode cX8_reason 9 = .ok (.getfield 218, 3) := by decide +kernel
theorem dX8_reason_12 : decode cX8_reason 12 = .ok (.iconst 1, 1) := by decide +kernel
theorem dX8_reason_13 : decode cX8_reason 13 = .ok (.isub, 1) := by decide +kernel
theorem dX8_reason_14 : decode cX8_reason 14 = .ok (.i2l, 1) := by decide +kernel
theorem dX8_reason_15 : decode cX8_reason 15 = .ok (.invokestatic 96, 3) := by decide +kernel
theorem dX8_reason_18 : decode cX8_reason 18 = .ok (.ifCond .eq 12, 3) := by decide +kernel
theorem dX8_reason_21 : decode cX8_reason 21 = .ok (.aload_n 0, 1) := by decide +kernel
theorem dX8_reason_22 : decode cX8_reason 22 = .ok (.getfield 68, 3) := by decide +kernel
theorem dX8_reason_25 : decode cX8_reason 25 = .ok (.iload_n 1, 1) := by decide +kernel
theorem dX8_reason_26 : decode cX8_reason 26 = .ok (.iaload, 1) := by decide +kernel
theorem dX8_reason_27 : decode cX8_reason 27 = .ok (.goto 5, 3) := by decide +kernel
theorem dX8_reason_30 : decode cX8_reason 30 = .ok (.bipush (-9), 2) := by decide +kernel
theorem dX8_reason_32 : decode cX8_reason 32 = .ok (.ireturn, 1) := by decide +kernel
theorem dX8_fitsLoad_0 : decode cX8_fitsLoad 0 = .ok (.iconst 0, 1) := by decide +kernel
theorem dX8_fitsLoad_1 : decode cX8_fitsLoad 1 = .ok (.istore_n 2, 1) := by decide +kernel
theorem dX8_fitsLoad_2 : decode cX8_fitsLoad 2 = .ok (.iload_n 2, 1) := by decide +kernel
theorem dX8_fitsLoad_3 : decode cX8_fitsLoad 3 = .ok (.bipush 31, 2) := by decide +kernel
theorem dX8_fitsLoad_5 : decode cX8_fitsLoad 5 = .ok (.if_icmp .ge 99, 3) := by decide +kernel
theorem dX8_fitsLoad_8 : decode cX8_fitsLoad 8 = .ok (.iconst 0, 1) := by decide +kernel
theorem dX8_fitsLoad_9 : decode cX8_fitsLoad 9 = .ok (.istore_n 3, 1) := by decide +kernel
theorem dX8_fitsLoad_10 : decode cX8_fitsLoad 10 = .ok (.bipush 6, 2) := by decide +kernel
theorem dX8_fitsLoad_12 : decode cX8_fitsLoad 12 = .ok (.iload_n 1, 1) := by decide +kernel
theorem dX8_fitsLoad_13 : decode cX8_fitsLoad 13 = .ok (.imul, 1) := by decide +kernel
theorem dX8_fitsLoad_14 : decode cX8_fitsLoad 14 = .ok (.istore 4, 2) := by decide +kernel
theorem dX8_fitsLoad_16 : decode cX8_fitsLoad 16 = .ok (.iload 4, 2) := by decide +kernel
theorem dX8_fitsLoad_18 : decode cX8_fitsLoad 18 = .ok (.bipush 6, 2) := by decide +kernel
theorem dX8_fitsLoad_20 : decode cX8_fitsLoad 20 = .ok (.iload_n 1, 1) := by decide +kernel
theorem dX8_fitsLoad_21 : decode cX8_fitsLoad 21 = .ok (.imul, 1) := by decide +kernel
theorem dX8_fitsLoad_22 : decode cX8_fitsLoad 22 = .ok (.aload_n 0, 1) := by decide +kernel
theorem dX8_fitsLoad_23 : decode cX8_fitsLoad 23 = .ok (.getfield 38, 3) := by decide +kernel
theorem dX8_fitsLoad_26 : decode cX8_fitsLoad 26 = .ok (.iload_n 1, 1) := by decide +kernel
theorem dX8_fitsLoad_27 : decode cX8_fitsLoad 27 = .ok (.iaload, 1) := by decide +kernel
theorem dX8_fitsLoad_28 : decode cX8_fitsLoad 28 = .ok (.iadd, 1) := by decide +kernel
theorem dX8_fitsLoad_29 : decode cX8_fitsLoad 29 = .ok (.if_icmp .ge 57, 3) := by decide +kernel
theorem dX8_fitsLoad_32 : decode cX8_fitsLoad 32 = .ok (.aload_n 0, 1) := by decide +kernel
theorem dX8_fitsLoad_33 : decode cX8_fitsLoad 33 = .ok (.getfield 87, 3) := by decide +kernel
theorem dX8_fitsLoad_36 : decode cX8_fitsLoad 36 = .ok (.aload_n 0, 1) := by decide +kernel
theorem dX8_fitsLoad_37 : decode cX8_fitsLoad 37 = .ok (.getfield 41, 3) := by decide +kernel
theorem dX8_fitsLoad_40 : decode cX8_fitsLoad 40 = .ok (.iload 4, 2) := by decide +kernel
theorem dX8_fitsLoad_42 : decode cX8_fitsLoad 42 = .ok (.iaload, 1) := by decide +kernel
theorem dX8_fitsLoad_43 : decode cX8_fitsLoad 43 = .ok (.iaload, 1) := by decide +kernel
theorem dX8_fitsLoad_44 : decode cX8_fitsLoad 44 = .ok (.istore 5, 2) := by decide +kernel
theorem dX8_fitsLoad_46 : decode cX8_fitsLoad 46 = .ok (.iload_n 3, 1) := by decide +kernel
theorem dX8_fitsLoad_47 : decode cX8_fitsLoad 47 = .ok (.iload_n 2, 1) := by decide +kernel
theorem dX8_fitsLoad_48 : decode cX8_fitsLoad 48 = .ok (.iload 5, 2) := by decide +kernel
theorem dX8_fitsLoad_50 : decode cX8_fitsLoad 50 = .ok (.if_icmp .lt 27, 3) := by decide +kernel
theorem dX8_fitsLoad_53 : decode cX8_fitsLoad 53 = .ok (.iload_n 2, 1) := by decide +kernel
theorem dX8_fitsLoad_54 : decode cX8_fitsLoad 54 = .ok (.iload 5, 2) := by decide +kernel
theorem dX8_fitsLoad_56 : decode cX8_fitsLoad 56 = .ok (.aload_n 0, 1) := by decide +kernel
theorem dX8_fitsLoad_57 : decode cX8_fitsLoad 57 = .ok (.getfield 44, 3) := by decide +kernel
theorem dX8_fitsLoad_60 : decode cX8_fitsLoad 60 = .ok (.iload 4, 2) := by decide +kernel
theorem dX8_fitsLoad_62 : decode cX8_fitsLoad 62 = .ok (.iaload, 1) := by decide +kernel
theorem dX8_fitsLoad_63 : decode cX8_fitsLoad 63 = .ok (.iadd, 1) := by decide +kernel
theorem dX8_fitsLoad_64 : decode cX8_fitsLoad 64 = .ok (.if_icmp .ge 13, 3) := by decide +kernel
theorem dX8_fitsLoad_67 : decode cX8_fitsLoad 67 = .ok (.aload_n 0, 1) := by decide +kernel
theorem dX8_fitsLoad_68 : decode cX8_fitsLoad 68 = .ok (.getfield 47, 3) := by decide +kernel
theorem dX8_fitsLoad_71 : decode cX8_fitsLoad 71 = .ok (.iload 4, 2) := by decide +kernel
theorem dX8_fitsLoad_73 : decode cX8_fitsLoad 73 = .ok (.iaload, 1) := by decide +kernel
theorem dX8_fitsLoad_74 : decode cX8_fitsLoad 74 = .ok (.goto 4, 3) := by decide +kernel
theorem dX8_fitsLoad_77 : decode cX8_fitsLoad 77 = .ok (.iconst 0, 1) := by decide +kernel
theorem dX8_fitsLoad_78 : decode cX8_fitsLoad 78 = .ok (.iadd, 1) := by decide +kernel
theorem dX8_fitsLoad_79 : decode cX8_fitsLoad 79 = .ok (.istore_n 3, 1) := by decide +kernel
theorem dX8_fitsLoad_80 : decode cX8_fitsLoad 80 = .ok (.iinc 4 1, 3) := by decide +kernel
theorem dX8_fitsLoad_83 : decode cX8_fitsLoad 83 = .ok (.goto (-67), 3) := by decide +kernel
theorem dX8_fitsLoad_86 : decode cX8_fitsLoad 86 = .ok (.iload_n 3, 1) := by decide +kernel
theorem dX8_fitsLoad_87 : decode cX8_fitsLoad 87 = .ok (.aload_n 0, 1) := by decide +kernel
theorem dX8_fitsLoad_88 : decode cX8_fitsLoad 88 = .ok (.getfield 28, 3) := by decide +kernel
theorem dX8_fitsLoad_91 : decode cX8_fitsLoad 91 = .ok (.iload_n 1, 1) := by decide +kernel
theorem dX8_fitsLoad_92 : decode cX8_fitsLoad 92 = .ok (.iaload, 1) := by decide +kernel
theorem dX8_fitsLoad_93 : decode cX8_fitsLoad 93 = .ok (.if_icmp .le 5, 3) := by decide +kernel
theorem dX8_fitsLoad_96 : decode cX8_fitsLoad 96 = .ok (.iconst 0, 1) := by decide +kernel
theorem dX8_fitsLoad_97 : decode cX8_fitsLoad 97 = .ok (.ireturn, 1) := by decide +kernel
theorem dX8_fitsLoad_98 : decode cX8_fitsLoad 98 = .ok (.iinc 2 1, 3) := by decide +kernel
theorem dX8_fitsLoad_101 : decode cX8_fitsLoad 101 = .ok (.goto (-99), 3) := by decide +kernel
theorem dX8_fitsLoad_104 : decode cX8_fitsLoad 104 = .ok (.iconst 1, 1) := by decide +kernel
theorem dX8_fitsLoad_105 : decode cX8_fitsLoad 105 = .ok (.ireturn, 1) := by decide +kernel
theorem dX8_fitsTable_0 : decode cX8_fitsTable 0 = .ok (.aload_n 0, 1) := by decide +kernel
theorem dX8_fitsTable_1 : decode cX8_fitsTable 1 = .ok (.getfield 28, 3) := by decide +kernel
theorem dX8_fitsTable_4 : decode cX8_fitsTable 4 = .ok (.iload_n 1, 1) := by decide +kernel
theorem dX8_fitsTable_5 : decode cX8_fitsTable 5 = .ok (.iaload, 1) := by decide +kernel
theorem dX8_fitsTable_6 : decode cX8_fitsTable 6 = .ok (.istore_n 2, 1) := by decide +kernel
theorem dX8_fitsTable_7 : decode cX8_fitsTable 7 = .ok (.aload_n 0, 1) := by decide +kernel
theorem dX8_fitsTable_8 : decode cX8_fitsTable 8 = .ok (.getfield 38, 3) := by decide +kernel
theorem dX8_fitsTable_11 : decode cX8_fitsTable 11 = .ok (.iload_n 1, 1) := by decide +kernel
theorem dX8_fitsTable_12 : decode cX8_fitsTable 12 = .ok (.iaload, 1) := by decide +kernel
theorem dX8_fitsTable_13 : decode cX8_fitsTable 13 = .ok (.istore_n 3, 1) := by decide +kernel
theorem dX8_fitsTable_14 : decode cX8_fitsTable 14 = .ok (.iconst 0, 1) := by decide +kernel
theorem dX8_fitsTable_15 : decode cX8_fitsTable 15 = .ok (.istore 4, 2) := by decide +kernel
theorem dX8_fitsTable_17 : decode cX8_fitsTable 17 = .ok (.aload_n 0, 1) := by decide +kernel
theorem dX8_fitsTable_18 : decode cX8_fitsTable 18 = .ok (.getfield 50, 3) := by decide +kernel
theorem dX8_fitsTable_21 : decode cX8_fitsTable 21 = .ok (.iload_n 2, 1) := by decide +kernel
theorem dX8_fitsTable_22 : decode cX8_fitsTable 22 = .ok (.iaload, 1) := by decide +kernel
theorem dX8_fitsTable_23 : decode cX8_fitsTable 23 = .ok (.ifCond .lt 97, 3) := by decide +kernel
theorem dX8_fitsTable_26 : decode cX8_fitsTable 26 = .ok (.iload 4, 2) := by decide +kernel
theorem dX8_fitsTable_28 : decode cX8_fitsTable 28 = .ok (.iload_n 3, 1) := by decide +kernel
theorem dX8_fitsTable_29 : decode cX8_fitsTable 29 = .ok (.iadd, 1) := by decide +kernel
theorem dX8_fitsTable_30 : decode cX8_fitsTable 30 = .ok (.aload_n 0, 1) := by decide +kernel
theorem dX8_fitsTable_31 : decode cX8_fitsTable 31 = .ok (.getfield 50, 3) := by decide +kernel
theorem dX8_fitsTable_34 : decode cX8_fitsTable 34 = .ok (.iload_n 2, 1) := by decide +kernel
theorem dX8_fitsTable_35 : decode cX8_fitsTable 35 = .ok (.iaload, 1) := by decide +kernel
theorem dX8_fitsTable_36 : decode cX8_fitsTable 36 = .ok (.if_icmp .gt 84, 3) := by decide +kernel
theorem dX8_fitsTable_39 : decode cX8_fitsTable 39 = .ok (.iconst 1, 1) := by decide +kernel
theorem dX8_fitsTable_40 : decode cX8_fitsTable 40 = .ok (.istore 5, 2) := by decide +kernel
theorem dX8_fitsTable_42 : decode cX8_fitsTable 42 = .ok (.iconst 0, 1) := by decide +kernel
theorem dX8_fitsTable_43 : decode cX8_fitsTable 43 = .ok (.istore 6, 2) := by decide +kernel
theorem dX8_fitsTable_45 : decode cX8_fitsTable 45 = .ok (.iload 6, 2) := by decide +kernel
theorem dX8_fitsTable_47 : decode cX8_fitsTable 47 = .ok (.iload_n 3, 1) := by decide +kernel
theorem dX8_fitsTable_48 : decode cX8_fitsTable 48 = .ok (.if_icmp .ge 56, 3) := by decide +kernel
theorem dX8_fitsTable_51 : decode cX8_fitsTable 51 = .ok (.iload 5, 2) := by decide +kernel
theorem dX8_fitsTable_53 : decode cX8_fitsTable 53 = .ok (.ifCond .eq 51, 3) := by decide +kernel
theorem dX8_fitsTable_56 : decode cX8_fitsTable 56 = .ok (.aload_n 0, 1) := by decide +kernel
theorem dX8_fitsTable_57 : decode cX8_fitsTable 57 = .ok (.getfield 53, 3) := by decide +kernel
theorem dX8_fitsTable_60 : decode cX8_fitsTable 60 = .ok (.bipush 48, 2) := by decide +kernel
theorem dX8_fitsTable_62 : decode cX8_fitsTable 62 = .ok (.iload_n 2, 1) := by decide +kernel
theorem dX8_fitsTable_63 : decode cX8_fitsTable 63 = .ok (.imul, 1) := by decide +kernel
theorem dX8_fitsTable_64 : decode cX8_fitsTable 64 = .ok (.iload 4, 2) := by decide +kernel
theorem dX8_fitsTable_66 : decode cX8_fitsTable 66 = .ok (.iadd, 1) := by decide +kernel
theorem dX8_fitsTable_67 : decode cX8_fitsTable 67 = .ok (.iload 6, 2) := by decide +kernel
theorem dX8_fitsTable_69 : decode cX8_fitsTable 69 = .ok (.iadd, 1) := by decide +kernel
theorem dX8_fitsTable_70 : decode cX8_fitsTable 70 = .ok (.iaload, 1) := by decide +kernel
theorem dX8_fitsTable_71 : decode cX8_fitsTable 71 = .ok (.aload_n 0, 1) := by decide +kernel
theorem dX8_fitsTable_72 : decode cX8_fitsTable 72 = .ok (.getfield 87, 3) := by decide +kernel
theorem dX8_fitsTable_75 : decode cX8_fitsTable 75 = .ok (.aload_n 0, 1) := by decide +kernel
theorem dX8_fitsTable_76 : decode cX8_fitsTable 76 = .ok (.getfield 41, 3) := by decide +kernel
theorem dX8_fitsTable_79 : decode cX8_fitsTable 79 = .ok (.bipush 6, 2) := by decide +kernel
theorem dX8_fitsTable_81 : decode cX8_fitsTable 81 = .ok (.iload_n 1, 1) := by decide +kernel
theorem dX8_fitsTable_82 : decode cX8_fitsTable 82 = .ok (.imul, 1) := by decide +kernel
theorem dX8_fitsTable_83 : decode cX8_fitsTable 83 = .ok (.iload 6, 2) := by decide +kernel
theorem dX8_fitsTable_85 : decode cX8_fitsTable 85 = .ok (.iadd, 1) := by decide +kernel
theorem dX8_fitsTable_86 : decode cX8_fitsTable 86 = .ok (.iaload, 1) := by decide +kernel
theorem dX8_fitsTable_87 : decode cX8_fitsTable 87 = .ok (.iaload, 1) := by decide +kernel
theorem dX8_fitsTable_88 : decode cX8_fitsTable 88 = .ok (.if_icmp .ne 7, 3) := by decide +kernel
theorem dX8_fitsTable_91 : decode cX8_fitsTable 91 = .ok (.iconst 1, 1) := by decide +kernel
theorem dX8_fitsTable_92 : decode cX8_fitsTable 92 = .ok (.goto 4, 3) := by decide +kernel
theorem dX8_fitsTable_95 : decode cX8_fitsTable 95 = .ok (.iconst 0, 1) := by decide +kernel
theorem dX8_fitsTable_96 : decode cX8_fitsTable 96 = .ok (.istore 5, 2) := by decide +kernel
theorem dX8_fitsTable_98 : decode cX8_fitsTable 98 = .ok (.iinc 6 1, 3) := by decide +kernel
theorem dX8_fitsTable_101 : decode cX8_fitsTable 101 = .ok (.goto (-56), 3) := by decide +kernel
theorem dX8_fitsTable_104 : decode cX8_fitsTable 104 = .ok (.iload 5, 2) := by decide +kernel
theorem dX8_fitsTable_106 : decode cX8_fitsTable 106 = .ok (.ifCond .eq 5, 3) := by decide +kernel
theorem dX8_fitsTable_109 : decode cX8_fitsTable 109 = .ok (.iconst 1, 1) := by decide +kernel
theorem dX8_fitsTable_110 : decode cX8_fitsTable 110 = .ok (.ireturn, 1) := by decide +kernel
theorem dX8_fitsTable_111 : decode cX8_fitsTable 111 = .ok (.iload 4, 2) := by decide +kernel
theorem dX8_fitsTable_113 : decode cX8_fitsTable 113 = .ok (.iload_n 3, 1) := by decide +kernel
theorem dX8_fitsTable_114 : decode cX8_fitsTable 114 = .ok (.iadd, 1) := by decide +kernel
theorem dX8_fitsTable_115 : decode cX8_fitsTable 115 = .ok (.istore 4, 2) := by decide +kernel
theorem dX8_fitsTable_117 : decode cX8_fitsTable 117 = .ok (.goto (-100), 3) := by decide +kernel
theorem dX8_fitsTable_120 : decode cX8_fitsTable 120 = .ok (.iconst 0, 1) := by decide +kernel
theorem dX8_fitsTable_121 : decode cX8_fitsTable 121 = .ok (.ireturn, 1) := by decide +kernel
theorem dX8_fitsRing_0 : decode cX8_fitsRing 0 = .ok (.iconst 0, 1) := by decide +kernel
theorem dX8_fitsRing_1 : decode cX8_fitsRing 1 = .ok (.istore_n 2, 1) := by decide +kernel
theorem dX8_fitsRing_2 : decode cX8_fitsRing 2 = .ok (.iconst 0, 1) := by decide +kernel
theorem dX8_fitsRing_3 : decode cX8_fitsRing 3 = .ok (.istore_n 3, 1) := by decide +kernel
theorem dX8_fitsRing_4 : decode cX8_fitsRing 4 = .ok (.iconst 0, 1) := by decide +kernel
theorem dX8_fitsRing_5 : decode cX8_fitsRing 5 = .ok (.istore 4, 2) := by decide +kernel
theorem dX8_fitsRing_7 : decode cX8_fitsRing 7 = .ok (.iload 4, 2) := by decide +kernel
theorem dX8_fitsRing_9 : decode cX8_fitsRing 9 = .ok (.aload_n 0, 1) := by decide +kernel
theorem dX8_fitsRing_10 : decode cX8_fitsRing 10 = .ok (.getfield 38, 3) := by decide +kernel
theorem dX8_fitsRing_13 : decode cX8_fitsRing 13 = .ok (.iload_n 1, 1) := by decide +kernel
theorem dX8_fitsRing_14 : decode cX8_fitsRing 14 = .ok (.iaload, 1) := by decide +kernel
theorem dX8_fitsRing_15 : decode cX8_fitsRing 15 = .ok (.if_icmp .ge 61, 3) := by decide +kernel
theorem dX8_fitsRing_18 : decode cX8_fitsRing 18 = .ok (.iload_n 2, 1) := by decide +kernel
theorem dX8_fitsRing_19 : decode cX8_fitsRing 19 = .ok (.i2l, 1) := by decide +kernel
theorem dX8_fitsRing_20 : decode cX8_fitsRing 20 = .ok (.lconst 0, 1) := by decide +kernel
theorem dX8_fitsRing_21 : decode cX8_fitsRing 21 = .ok (.aload_n 0, 1) := by decide +kernel
theorem dX8_fitsRing_22 : decode cX8_fitsRing 22 = .ok (.getfield 38, 3) := by decide +kernel
theorem dX8_fitsRing_25 : decode cX8_fitsRing 25 = .ok (.iload_n 1, 1) := by decide +kernel
theorem dX8_fitsRing_26 : decode cX8_fitsRing 26 = .ok (.iaload, 1) := by decide +kernel
theorem dX8_fitsRing_27 : decode cX8_fitsRing 27 = .ok (.iconst 1, 1) := by decide +kernel
theorem dX8_fitsRing_28 : decode cX8_fitsRing 28 = .ok (.isub, 1) := by decide +kernel
theorem dX8_fitsRing_29 : decode cX8_fitsRing 29 = .ok (.i2l, 1) := by decide +kernel
theorem dX8_fitsRing_30 : decode cX8_fitsRing 30 = .ok (.invokestatic 96, 3) := by decide +kernel
theorem dX8_fitsRing_33 : decode cX8_fitsRing 33 = .ok (.ifCond .eq 12, 3) := by decide +kernel
theorem dX8_fitsRing_36 : decode cX8_fitsRing 36 = .ok (.iload_n 3, 1) := by decide +kernel
theorem dX8_fitsRing_37 : decode cX8_fitsRing 37 = .ok (.iload_n 2, 1) := by decide +kernel
theorem dX8_fitsRing_38 : decode cX8_fitsRing 38 = .ok (.ishr, 1) := by decide +kernel
theorem dX8_fitsRing_39 : decode cX8_fitsRing 39 = .ok (.iconst 1, 1) := by decide +kernel
theorem dX8_fitsRing_40 : decode cX8_fitsRing 40 = .ok (.iand, 1) := by decide +kernel
theorem dX8_fitsRing_41 : decode cX8_fitsRing 41 = .ok (.iconst 1, 1) := by decide +kernel
theorem dX8_fitsRing_42 : decode cX8_fitsRing 42 = .ok (.if_icmp .ne 5, 3) := by decide +kernel
theorem dX8_fitsRing_45 : decode cX8_fitsRing 45 = .ok (.iconst 0, 1) := by decide +kernel
theorem dX8_fitsRing_46 : decode cX8_fitsRing 46 = .ok (.ireturn, 1) := by decide +kernel
theorem dX8_fitsRing_47 : decode cX8_fitsRing 47 = .ok (.iload_n 3, 1) := by decide +kernel
theorem dX8_fitsRing_48 : decode cX8_fitsRing 48 = .ok (.iconst 1, 1) := by decide +kernel
theorem dX8_fitsRing_49 : decode cX8_fitsRing 49 = .ok (.iload_n 2, 1) := by decide +kernel
theorem dX8_fitsRing_50 : decode cX8_fitsRing 50 = .ok (.ishl, 1) := by decide +kernel
theorem dX8_fitsRing_51 : decode cX8_fitsRing 51 = .ok (.ior, 1) := by decide +kernel
theorem dX8_fitsRing_52 : decode cX8_fitsRing 52 = .ok (.istore_n 3, 1) := by decide +kernel
theorem dX8_fitsRing_53 : decode cX8_fitsRing 53 = .ok (.aload_n 0, 1) := by decide +kernel
theorem dX8_fitsRing_54 : decode cX8_fitsRing 54 = .ok (.getfield 87, 3) := by decide +kernel
theorem dX8_fitsRing_57 : decode cX8_fitsRing 57 = .ok (.aload_n 0, 1) := by decide +kernel
theorem dX8_fitsRing_58 : decode cX8_fitsRing 58 = .ok (.getfield 41, 3) := by decide +kernel
theorem dX8_fitsRing_61 : decode cX8_fitsRing 61 = .ok (.bipush 6, 2) := by decide +kernel
theorem dX8_fitsRing_63 : decode cX8_fitsRing 63 = .ok (.iload_n 1, 1) := by decide +kernel
theorem dX8_fitsRing_64 : decode cX8_fitsRing 64 = .ok (.imul, 1) := by decide +kernel
theorem dX8_fitsRing_65 : decode cX8_fitsRing 65 = .ok (.iload_n 2, 1) := by decide +kernel
theorem dX8_fitsRing_66 : decode cX8_fitsRing 66 = .ok (.iadd, 1) := by decide +kernel
theorem dX8_fitsRing_67 : decode cX8_fitsRing 67 = .ok (.iaload, 1) := by decide +kernel
theorem dX8_fitsRing_68 : decode cX8_fitsRing 68 = .ok (.iaload, 1) := by decide +kernel
theorem dX8_fitsRing_69 : decode cX8_fitsRing 69 = .ok (.istore_n 2, 1) := by decide +kernel
theorem dX8_fitsRing_70 : decode cX8_fitsRing 70 = .ok (.iinc 4 1, 3) := by decide +kernel
theorem dX8_fitsRing_73 : decode cX8_fitsRing 73 = .ok (.goto (-66), 3) := by decide +kernel
theorem dX8_fitsRing_76 : decode cX8_fitsRing 76 = .ok (.iload_n 2, 1) := by decide +kernel
theorem dX8_fitsRing_77 : decode cX8_fitsRing 77 = .ok (.ifCond .ne 7, 3) := by decide +kernel
theorem dX8_fitsRing_80 : decode cX8_fitsRing 80 = .ok (.iconst 1, 1) := by decide +kernel
theorem dX8_fitsRing_81 : decode cX8_fitsRing 81 = .ok (.goto 4, 3) := by decide +kernel
theorem dX8_fitsRing_84 : decode cX8_fitsRing 84 = .ok (.iconst 0, 1) := by decide +kernel
theorem dX8_fitsRing_85 : decode cX8_fitsRing 85 = .ok (.ireturn, 1) := by decide +kernel
theorem dX8_fitsSum_0 : decode cX8_fitsSum 0 = .ok (.iconst 0, 1) := by decide +kernel
theorem dX8_fitsSum_1 : decode cX8_fitsSum 1 = .ok (.istore_n 2, 1) := by decide +kernel
theorem dX8_fitsSum_2 : decode cX8_fitsSum 2 = .ok (.bipush 6, 2) := by decide +kernel
theorem dX8_fitsSum_4 : decode cX8_fitsSum 4 = .ok (.iload_n 1, 1) := by decide +kernel
theorem dX8_fitsSum_5 : decode cX8_fitsSum 5 = .ok (.imul, 1) := by decide +kernel
theorem dX8_fitsSum_6 : decode cX8_fitsSum 6 = .ok (.istore_n 3, 1) := by decide +kernel
theorem dX8_fitsSum_7 : decode cX8_fitsSum 7 = .ok (.iload_n 3, 1) := by decide +kernel
theorem dX8_fitsSum_8 : decode cX8_fitsSum 8 = .ok (.bipush 6, 2) := by decide +kernel
theorem dX8_fitsSum_10 : decode cX8_fitsSum 10 = .ok (.iload_n 1, 1) := by decide +kernel
theorem dX8_fitsSum_11 : decode cX8_fitsSum 11 = .ok (.imul, 1) := by decide +kernel
theorem dX8_fitsSum_12 : decode cX8_fitsSum 12 = .ok (.aload_n 0, 1) := by decide +kernel
theorem dX8_fitsSum_13 : decode cX8_fitsSum 13 = .ok (.getfield 38, 3) := by decide +kernel
theorem dX8_fitsSum_16 : decode cX8_fitsSum 16 = .ok (.iload_n 1, 1) := by decide +kernel
theorem dX8_fitsSum_17 : decode cX8_fitsSum 17 = .ok (.iaload, 1) := by decide +kernel
theorem dX8_fitsSum_18 : decode cX8_fitsSum 18 = .ok (.iadd, 1) := by decide +kernel
theorem dX8_fitsSum_19 : decode cX8_fitsSum 19 = .ok (.if_icmp .ge 30, 3) := by decide +kernel
theorem dX8_fitsSum_22 : decode cX8_fitsSum 22 = .ok (.iload_n 2, 1) := by decide +kernel
theorem dX8_fitsSum_23 : decode cX8_fitsSum 23 = .ok (.aload_n 0, 1) := by decide +kernel
theorem dX8_fitsSum_24 : decode cX8_fitsSum 24 = .ok (.getfield 44, 3) := by decide +kernel
theorem dX8_fitsSum_27 : decode cX8_fitsSum 27 = .ok (.iload_n 3, 1) := by decide +kernel
theorem dX8_fitsSum_28 : decode cX8_fitsSum 28 = .ok (.iaload, 1) := by decide +kernel
theorem dX8_fitsSum_29 : decode cX8_fitsSum 29 = .ok (.aload_n 0, 1) := by decide +kernel
theorem dX8_fitsSum_30 : decode cX8_fitsSum 30 = .ok (.getfield 87, 3) := by decide +kernel
theorem dX8_fitsSum_33 : decode cX8_fitsSum 33 = .ok (.aload_n 0, 1) := by decide +kernel
theorem dX8_fitsSum_34 : decode cX8_fitsSum 34 = .ok (.getfield 41, 3) := by decide +kernel
theorem dX8_fitsSum_37 : decode cX8_fitsSum 37 = .ok (.iload_n 3, 1) := by decide +kernel
theorem dX8_fitsSum_38 : decode cX8_fitsSum 38 = .ok (.iaload, 1) := by decide +kernel
theorem dX8_fitsSum_39 : decode cX8_fitsSum 39 = .ok (.iaload, 1) := by decide +kernel
theorem dX8_fitsSum_40 : decode cX8_fitsSum 40 = .ok (.imul, 1) := by decide +kernel
theorem dX8_fitsSum_41 : decode cX8_fitsSum 41 = .ok (.iadd, 1) := by decide +kernel
theorem dX8_fitsSum_42 : decode cX8_fitsSum 42 = .ok (.istore_n 2, 1) := by decide +kernel
theorem dX8_fitsSum_43 : decode cX8_fitsSum 43 = .ok (.iinc 3 1, 3) := by decide +kernel
theorem dX8_fitsSum_46 : decode cX8_fitsSum 46 = .ok (.goto (-39), 3) := by decide +kernel
theorem dX8_fitsSum_49 : decode cX8_fitsSum 49 = .ok (.aload_n 0, 1) := by decide +kernel
theorem dX8_fitsSum_50 : decode cX8_fitsSum 50 = .ok (.getfield 28, 3) := by decide +kernel
theorem dX8_fitsSum_53 : decode cX8_fitsSum 53 = .ok (.iload_n 1, 1) := by decide +kernel
theorem dX8_fitsSum_54 : decode cX8_fitsSum 54 = .ok (.iaload, 1) := by decide +kernel
theorem dX8_fitsSum_55 : decode cX8_fitsSum 55 = .ok (.ifCond .ne 21, 3) := by decide +kernel
theorem dX8_fitsSum_58 : decode cX8_fitsSum 58 = .ok (.iload_n 2, 1) := by decide +kernel
theorem dX8_fitsSum_59 : decode cX8_fitsSum 59 = .ok (.aload_n 0, 1) := by decide +kernel
theorem dX8_fitsSum_60 : decode cX8_fitsSum 60 = .ok (.getfield 31, 3) := by decide +kernel
theorem dX8_fitsSum_63 : decode cX8_fitsSum 63 = .ok (.iload_n 1, 1) := by decide +kernel
theorem dX8_fitsSum_64 : decode cX8_fitsSum 64 = .ok (.iaload, 1) := by decide +kernel
theorem dX8_fitsSum_65 : decode cX8_fitsSum 65 = .ok (.if_icmp .gt 7, 3) := by decide +kernel
theorem dX8_fitsSum_68 : decode cX8_fitsSum 68 = .ok (.iconst 1, 1) := by decide +kernel
theorem dX8_fitsSum_69 : decode cX8_fitsSum 69 = .ok (.goto 45, 3) := by decide +kernel
theorem dX8_fitsSum_72 : decode cX8_fitsSum 72 = .ok (.iconst 0, 1) := by decide +kernel
theorem dX8_fitsSum_73 : decode cX8_fitsSum 73 = .ok (.goto 41, 3) := by decide +kernel
theorem dX8_fitsSum_76 : decode cX8_fitsSum 76 = .ok (.aload_n 0, 1) := by decide +kernel
theorem dX8_fitsSum_77 : decode cX8_fitsSum 77 = .ok (.getfield 28, 3) := by decide +kernel
theorem dX8_fitsSum_80 : decode cX8_fitsSum 80 = .ok (.iload_n 1, 1) := by decide +kernel
theorem dX8_fitsSum_81 : decode cX8_fitsSum 81 = .ok (.iaload, 1) := by decide +kernel
theorem dX8_fitsSum_82 : decode cX8_fitsSum 82 = .ok (.iconst 1, 1) := by decide +kernel
theorem dX8_fitsSum_83 : decode cX8_fitsSum 83 = .ok (.if_icmp .ne 7, 3) := by decide +kernel
theorem dX8_fitsSum_86 : decode cX8_fitsSum 86 = .ok (.iconst 1, 1) := by decide +kernel
theorem dX8_fitsSum_87 : decode cX8_fitsSum 87 = .ok (.goto 4, 3) := by decide +kernel
theorem dX8_fitsSum_90 : decode cX8_fitsSum 90 = .ok (.iconst 0, 1) := by decide +kernel
theorem dX8_fitsSum_91 : decode cX8_fitsSum 91 = .ok (.iload_n 2, 1) := by decide +kernel
theorem dX8_fitsSum_92 : decode cX8_fitsSum 92 = .ok (.aload_n 0, 1) := by decide +kernel
theorem dX8_fitsSum_93 : decode cX8_fitsSum 93 = .ok (.getfield 31, 3) := by decide +kernel
theorem dX8_fitsSum_96 : decode cX8_fitsSum 96 = .ok (.iload_n 1, 1) := by decide +kernel
theorem dX8_fitsSum_97 : decode cX8_fitsSum 97 = .ok (.iaload, 1) := by decide +kernel
theorem dX8_fitsSum_98 : decode cX8_fitsSum 98 = .ok (.if_icmp .ne 7, 3) := by decide +kernel
theorem dX8_fitsSum_101 : decode cX8_fitsSum 101 = .ok (.iconst 1, 1) := by decide +kernel
theorem dX8_fitsSum_102 : decode cX8_fitsSum 102 = .ok (.goto 4, 3) := by decide +kernel
theorem dX8_fitsSum_105 : decode cX8_fitsSum 105 = .ok (.iconst 0, 1) := by decide +kernel
theorem dX8_fitsSum_106 : decode cX8_fitsSum 106 = .ok (.if_icmp .ne 7, 3) := by decide +kernel
theorem dX8_fitsSum_109 : decode cX8_fitsSum 109 = .ok (.iconst 1, 1) := by decide +kernel
theorem dX8_fitsSum_110 : decode cX8_fitsSum 110 = .ok (.goto 4, 3) := by decide +kernel
theorem dX8_fitsSum_113 : decode cX8_fitsSum 113 = .ok (.iconst 0, 1) := by decide +kernel
theorem dX8_fitsSum_114 : decode cX8_fitsSum 114 = .ok (.ireturn, 1) := by decide +kernel
theorem dX8_fitsUnlike_0 : decode cX8_fitsUnlike 0 = .ok (.iconst 0, 1) := by decide +kernel
theorem dX8_fitsUnlike_1 : decode cX8_fitsUnlike 1 = .ok (.istore_n 2, 1) := by decide +kernel
theorem dX8_fitsUnlike_2 : decode cX8_fitsUnlike 2 = .ok (.bipush 6, 2) := by decide +kernel
theorem dX8_fitsUnlike_4 : decode cX8_fitsUnlike 4 = .ok (.iload_n 1, 1) := by decide +kernel
theorem dX8_fitsUnlike_5 : decode cX8_fitsUnlike 5 = .ok (.imul, 1) := by decide +kernel
theorem dX8_fitsUnlike_6 : decode cX8_fitsUnlike 6 = .ok (.istore_n 3, 1) := by decide +kernel
theorem dX8_fitsUnlike_7 : decode cX8_fitsUnlike 7 = .ok (.iload_n 3, 1) := by decide +kernel
theorem dX8_fitsUnlike_8 : decode cX8_fitsUnlike 8 = .ok (.bipush 6, 2) := by decide +kernel
theorem dX8_fitsUnlike_10 : decode cX8_fitsUnlike 10 = .ok (.iload_n 1, 1) := by decide +kernel
theorem dX8_fitsUnlike_11 : decode cX8_fitsUnlike 11 = .ok (.imul, 1) := by decide +kernel
theorem dX8_fitsUnlike_12 : decode cX8_fitsUnlike 12 = .ok (.aload_n 0, 1) := by decide +kernel
theorem dX8_fitsUnlike_13 : decode cX8_fitsUnlike 13 = .ok (.getfield 38, 3) := by decide +kernel
theorem dX8_fitsUnlike_16 : decode cX8_fitsUnlike 16 = .ok (.iload_n 1, 1) := by decide +kernel
theorem dX8_fitsUnlike_17 : decode cX8_fitsUnlike 17 = .ok (.iaload, 1) := by decide +kernel
theorem dX8_fitsUnlike_18 : decode cX8_fitsUnlike 18 = .ok (.iadd, 1) := by decide +kernel
theorem dX8_fitsUnlike_19 : decode cX8_fitsUnlike 19 = .ok (.if_icmp .ge 46, 3) := by decide +kernel
theorem dX8_fitsUnlike_22 : decode cX8_fitsUnlike 22 = .ok (.iload_n 2, 1) := by decide +kernel
theorem dX8_fitsUnlike_23 : decode cX8_fitsUnlike 23 = .ok (.aload_n 0, 1) := by decide +kernel
theorem dX8_fitsUnlike_24 : decode cX8_fitsUnlike 24 = .ok (.getfield 87, 3) := by decide +kernel
theorem dX8_fitsUnlike_27 : decode cX8_fitsUnlike 27 = .ok (.aload_n 0, 1) := by decide +kernel
theorem dX8_fitsUnlike_28 : decode cX8_fitsUnlike 28 = .ok (.getfield 41, 3) := by decide +kernel
theorem dX8_fitsUnlike_31 : decode cX8_fitsUnlike 31 = .ok (.iload_n 3, 1) := by decide +kernel
theorem dX8_fitsUnlike_32 : decode cX8_fitsUnlike 32 = .ok (.iaload, 1) := by decide +kernel
theorem dX8_fitsUnlike_33 : decode cX8_fitsUnlike 33 = .ok (.iaload, 1) := by decide +kernel
theorem dX8_fitsUnlike_34 : decode cX8_fitsUnlike 34 = .ok (.ishr, 1) := by decide +kernel
theorem dX8_fitsUnlike_35 : decode cX8_fitsUnlike 35 = .ok (.iconst 1, 1) := by decide +kernel
theorem dX8_fitsUnlike_36 : decode cX8_fitsUnlike 36 = .ok (.iand, 1) := by decide +kernel
theorem dX8_fitsUnlike_37 : decode cX8_fitsUnlike 37 = .ok (.iconst 1, 1) := by decide +kernel
theorem dX8_fitsUnlike_38 : decode cX8_fitsUnlike 38 = .ok (.if_icmp .ne 5, 3) := by decide +kernel
theorem dX8_fitsUnlike_41 : decode cX8_fitsUnlike 41 = .ok (.iconst 0, 1) := by decide +kernel
theorem dX8_fitsUnlike_42 : decode cX8_fitsUnlike 42 = .ok (.ireturn, 1) := by decide +kernel
theorem dX8_fitsUnlike_43 : decode cX8_fitsUnlike 43 = .ok (.iload_n 2, 1) := by decide +kernel
theorem dX8_fitsUnlike_44 : decode cX8_fitsUnlike 44 = .ok (.iconst 1, 1) := by decide +kernel
theorem dX8_fitsUnlike_45 : decode cX8_fitsUnlike 45 = .ok (.aload_n 0, 1) := by decide +kernel
theorem dX8_fitsUnlike_46 : decode cX8_fitsUnlike 46 = .ok (.getfield 87, 3) := by decide +kernel
theorem dX8_fitsUnlike_49 : decode cX8_fitsUnlike 49 = .ok (.aload_n 0, 1) := by decide +kernel
theorem dX8_fitsUnlike_50 : decode cX8_fitsUnlike 50 = .ok (.getfield 41, 3) := by decide +kernel
theorem dX8_fitsUnlike_53 : decode cX8_fitsUnlike 53 = .ok (.iload_n 3, 1) := by decide +kernel
theorem dX8_fitsUnlike_54 : decode cX8_fitsUnlike 54 = .ok (.iaload, 1) := by decide +kernel
theorem dX8_fitsUnlike_55 : decode cX8_fitsUnlike 55 = .ok (.iaload, 1) := by decide +kernel
theorem dX8_fitsUnlike_56 : decode cX8_fitsUnlike 56 = .ok (.ishl, 1) := by decide +kernel
theorem dX8_fitsUnlike_57 : decode cX8_fitsUnlike 57 = .ok (.ior, 1) := by decide +kernel
theorem dX8_fitsUnlike_58 : decode cX8_fitsUnlike 58 = .ok (.istore_n 2, 1) := by decide +kernel
theorem dX8_fitsUnlike_59 : decode cX8_fitsUnlike 59 = .ok (.iinc 3 1, 3) := by decide +kernel
theorem dX8_fitsUnlike_62 : decode cX8_fitsUnlike 62 = .ok (.goto (-55), 3) := by decide +kernel
theorem dX8_fitsUnlike_65 : decode cX8_fitsUnlike 65 = .ok (.iconst 1, 1) := by decide +kernel
theorem dX8_fitsUnlike_66 : decode cX8_fitsUnlike 66 = .ok (.ireturn, 1) := by decide +kernel
theorem dX8_fitsClause_0 : decode cX8_fitsClause 0 = .ok (.bipush 6, 2) := by decide +kernel
theorem dX8_fitsClause_2 : decode cX8_fitsClause 2 = .ok (.iload_n 1, 1) := by decide +kernel
theorem dX8_fitsClause_3 : decode cX8_fitsClause 3 = .ok (.imul, 1) := by decide +kernel
theorem dX8_fitsClause_4 : decode cX8_fitsClause 4 = .ok (.istore_n 2, 1) := by decide +kernel
theorem dX8_fitsClause_5 : decode cX8_fitsClause 5 = .ok (.iload_n 2, 1) := by decide +kernel
theorem dX8_fitsClause_6 : decode cX8_fitsClause 6 = .ok (.bipush 6, 2) := by decide +kernel
theorem dX8_fitsClause_8 : decode cX8_fitsClause 8 = .ok (.iload_n 1, 1) := by decide +kernel
theorem dX8_fitsClause_9 : decode cX8_fitsClause 9 = .ok (.imul, 1) := by decide +kernel
theorem dX8_fitsClause_10 : decode cX8_fitsClause 10 = .ok (.aload_n 0, 1) := by decide +kernel
theorem dX8_fitsClause_11 : decode cX8_fitsClause 11 = .ok (.getfield 38, 3) := by decide +kernel
theorem dX8_fitsClause_14 : decode cX8_fitsClause 14 = .ok (.iload_n 1, 1) := by decide +kernel
theorem dX8_fitsClause_15 : decode cX8_fitsClause 15 = .ok (.iaload, 1) := by decide +kernel
theorem dX8_fitsClause_16 : decode cX8_fitsClause 16 = .ok (.iadd, 1) := by decide +kernel
theorem dX8_fitsClause_17 : decode cX8_fitsClause 17 = .ok (.if_icmp .ge 35, 3) := by decide +kernel
theorem dX8_fitsClause_20 : decode cX8_fitsClause 20 = .ok (.aload_n 0, 1) := by decide +kernel
theorem dX8_fitsClause_21 : decode cX8_fitsClause 21 = .ok (.getfield 44, 3) := by decide +kernel
theorem dX8_fitsClause_24 : decode cX8_fitsClause 24 = .ok (.iload_n 2, 1) := by decide +kernel
theorem dX8_fitsClause_25 : decode cX8_fitsClause 25 = .ok (.iaload, 1) := by decide +kernel
theorem dX8_fitsClause_26 : decode cX8_fitsClause 26 = .ok (.aload_n 0, 1) := by decide +kernel
theorem dX8_fitsClause_27 : decode cX8_fitsClause 27 = .ok (.getfield 87, 3) := by decide +kernel
theorem dX8_fitsClause_30 : decode cX8_fitsClause 30 = .ok (.aload_n 0, 1) := by decide +kernel
theorem dX8_fitsClause_31 : decode cX8_fitsClause 31 = .ok (.getfield 41, 3) := by decide +kernel
theorem dX8_fitsClause_34 : decode cX8_fitsClause 34 = .ok (.iload_n 2, 1) := by decide +kernel
theorem dX8_fitsClause_35 : decode cX8_fitsClause 35 = .ok (.iaload, 1) := by decide +kernel
theorem dX8_fitsClause_36 : decode cX8_fitsClause 36 = .ok (.iaload, 1) := by decide +kernel
theorem dX8_fitsClause_37 : decode cX8_fitsClause 37 = .ok (.ishr, 1) := by decide +kernel
theorem dX8_fitsClause_38 : decode cX8_fitsClause 38 = .ok (.iconst 1, 1) := by decide +kernel
theorem dX8_fitsClause_39 : decode cX8_fitsClause 39 = .ok (.iand, 1) := by decide +kernel
theorem dX8_fitsClause_40 : decode cX8_fitsClause 40 = .ok (.iconst 1, 1) := by decide +kernel
theorem dX8_fitsClause_41 : decode cX8_fitsClause 41 = .ok (.if_icmp .ne 5, 3) := by decide +kernel
theorem dX8_fitsClause_44 : decode cX8_fitsClause 44 = .ok (.iconst 1, 1) := by decide +kernel
theorem dX8_fitsClause_45 : decode cX8_fitsClause 45 = .ok (.ireturn, 1) := by decide +kernel
theorem dX8_fitsClause_46 : decode cX8_fitsClause 46 = .ok (.iinc 2 1, 3) := by decide +kernel
theorem dX8_fitsClause_49 : decode cX8_fitsClause 49 = .ok (.goto (-44), 3) := by decide +kernel
theorem dX8_fitsClause_52 : decode cX8_fitsClause 52 = .ok (.iconst 0, 1) := by decide +kernel
theorem dX8_fitsClause_53 : decode cX8_fitsClause 53 = .ok (.ireturn, 1) := by decide +kernel
theorem dX8_fits_0 : decode cX8_fits 0 = .ok (.aload_n 0, 1) := by decide +kernel
theorem dX8_fits_1 : decode cX8_fits 1 = .ok (.getfield 38, 3) := by decide +kernel
theorem dX8_fits_4 : decode cX8_fits 4 = .ok (.iload_n 1, 1) := by decide +kernel
theorem dX8_fits_5 : decode cX8_fits 5 = .ok (.iaload, 1) := by decide +kernel
theorem dX8_fits_6 : decode cX8_fits 6 = .ok (.ifCond .ne 9, 3) := by decide +kernel
theorem dX8_fits_9 : decode cX8_fits 9 = .ok (.aload_n 0, 1) := by decide +kernel
theorem dX8_fits_10 : decode cX8_fits 10 = .ok (.iload_n 1, 1) := by decide +kernel
theorem dX8_fits_11 : decode cX8_fits 11 = .ok (.invokevirtual 201, 3) := by decide +kernel
theorem dX8_fits_14 : decode cX8_fits 14 = .ok (.ireturn, 1) := by decide +kernel
theorem dX8_fits_15 : decode cX8_fits 15 = .ok (.aload_n 0, 1) := by decide +kernel
theorem dX8_fits_16 : decode cX8_fits 16 = .ok (.getfield 25, 3) := by decide +kernel
theorem dX8_fits_19 : decode cX8_fits 19 = .ok (.iload_n 1, 1) := by decide +kernel
theorem dX8_fits_20 : decode cX8_fits 20 = .ok (.iaload, 1) := by decide +kernel
theorem dX8_fits_21 : decode cX8_fits 21 = .ok (.tableswitch 65 0 4 #[35, 41, 47, 53, 59], 35) := by decide +kernel
theorem dX8_fits_56 : decode cX8_fits 56 = .ok (.aload_n 0, 1) := by decide +kernel
theorem dX8_fits_57 : decode cX8_fits 57 = .ok (.iload_n 1, 1) := by decide +kernel
theorem dX8_fits_58 : decode cX8_fits 58 = .ok (.invokevirtual 227, 3) := by decide +kernel
theorem dX8_fits_61 : decode cX8_fits 61 = .ok (.ireturn, 1) := by decide +kernel
theorem dX8_fits_62 : decode cX8_fits 62 = .ok (.aload_n 0, 1) := by decide +kernel
theorem dX8_fits_63 : decode cX8_fits 63 = .ok (.iload_n 1, 1) := by decide +kernel
theorem dX8_fits_64 : decode cX8_fits 64 = .ok (.invokevirtual 230, 3) := by decide +kernel
theorem dX8_fits_67 : decode cX8_fits 67 = .ok (.ireturn, 1) := by decide +kernel
theorem dX8_fits_68 : decode cX8_fits 68 = .ok (.aload_n 0, 1) := by decide +kernel
theorem dX8_fits_69 : decode cX8_fits 69 = .ok (.iload_n 1, 1) := by decide +kernel
theorem dX8_fits_70 : decode cX8_fits 70 = .ok (.invokevirtual 233, 3) := by decide +kernel
theorem dX8_fits_73 : decode cX8_fits 73 = .ok (.ireturn, 1) := by decide +kernel
theorem dX8_fits_74 : decode cX8_fits 74 = .ok (.aload_n 0, 1) := by decide +kernel
theorem dX8_fits_75 : decode cX8_fits 75 = .ok (.iload_n 1, 1) := by decide +kernel
theorem dX8_fits_76 : decode cX8_fits 76 = .ok (.invokevirtual 236, 3) := by decide +kernel
theorem dX8_fits_79 : decode cX8_fits 79 = .ok (.ireturn, 1) := by decide +kernel
theorem dX8_fits_80 : decode cX8_fits 80 = .ok (.aload_n 0, 1) := by decide +kernel
theorem dX8_fits_81 : decode cX8_fits 81 = .ok (.iload_n 1, 1) := by decide +kernel
theorem dX8_fits_82 : decode cX8_fits 82 = .ok (.invokevirtual 239, 3) := by decide +kernel
theorem dX8_fits_85 : decode cX8_fits 85 = .ok (.ireturn, 1) := by decide +kernel
theorem dX8_fits_86 : decode cX8_fits 86 = .ok (.aload_n 0, 1) := by decide +kernel
theorem dX8_fits_87 : decode cX8_fits 87 = .ok (.iload_n 1, 1) := by decide +kernel
theorem dX8_fits_88 : decode cX8_fits 88 = .ok (.invokevirtual 242, 3) := by decide +kernel
theorem dX8_fits_91 : decode cX8_fits 91 = .ok (.ireturn, 1) := by decide +kernel
theorem dX8_fitsAll_0 : decode cX8_fitsAll 0 = .ok (.iconst 0, 1) := by decide +kernel
theorem dX8_fitsAll_1 : decode cX8_fitsAll 1 = .ok (.istore_n 1, 1) := by decide +kernel
theorem dX8_fitsAll_2 : decode cX8_fitsAll 2 = .ok (.iload_n 1, 1) := by decide +kernel
theorem dX8_fitsAll_3 : decode cX8_fitsAll 3 = .ok (.aload_n 0, 1) := by decide +kernel
theorem dX8_fitsAll_4 : decode cX8_fitsAll 4 = .ok (.getfield 100, 3) := by decide +kernel
theorem dX8_fitsAll_7 : decode cX8_fitsAll 7 = .ok (.if_icmp .ge 28, 3) := by decide +kernel
theorem dX8_fitsAll_10 : decode cX8_fitsAll 10 = .ok (.aload_n 0, 1) := by decide +kernel
theorem dX8_fitsAll_11 : decode cX8_fitsAll 11 = .ok (.getfield 34, 3) := by decide +kernel
theorem dX8_fitsAll_14 : decode cX8_fitsAll 14 = .ok (.iload_n 1, 1) := by decide +kernel
theorem dX8_fitsAll_15 : decode cX8_fitsAll 15 = .ok (.baload, 1) := by decide +kernel
theorem dX8_fitsAll_16 : decode cX8_fitsAll 16 = .ok (.ifCond .eq 13, 3) := by decide +kernel
theorem dX8_fitsAll_19 : decode cX8_fitsAll 19 = .ok (.aload_n 0, 1) := by decide +kernel
theorem dX8_fitsAll_20 : decode cX8_fitsAll 20 = .ok (.iload_n 1, 1) := by decide +kernel
theorem dX8_fitsAll_21 : decode cX8_fitsAll 21 = .ok (.invokevirtual 245, 3) := by decide +kernel
theorem dX8_fitsAll_24 : decode cX8_fitsAll 24 = .ok (.ifCond .ne 5, 3) := by decide +kernel
theorem dX8_fitsAll_27 : decode cX8_fitsAll 27 = .ok (.iconst 0, 1) := by decide +kernel
theorem dX8_fitsAll_28 : decode cX8_fitsAll 28 = .ok (.ireturn, 1) := by decide +kernel
theorem dX8_fitsAll_29 : decode cX8_fitsAll 29 = .ok (.iinc 1 1, 3) := by decide +kernel
theorem dX8_fitsAll_32 : decode cX8_fitsAll 32 = .ok (.goto (-30), 3) := by decide +kernel
theorem dX8_fitsAll_35 : decode cX8_fitsAll 35 = .ok (.iconst 1, 1) := by decide +kernel
theorem dX8_fitsAll_36 : decode cX8_fitsAll 36 = .ok (.ireturn, 1) := by decide +kernel
theorem dX8_isFar_0 : decode cX8_isFar 0 = .ok (.lconst 1, 1) := by decide +kernel
theorem dX8_isFar_1 : decode cX8_isFar 1 = .ok (.lstore_n 1, 1) := by decide +kernel
theorem dX8_isFar_2 : decode cX8_isFar 2 = .ok (.iconst 0, 1) := by decide +kernel
theorem dX8_isFar_3 : decode cX8_isFar 3 = .ok (.istore_n 3, 1) := by decide +kernel
theorem dX8_isFar_4 : decode cX8_isFar 4 = .ok (.iload_n 3, 1) := by decide +kernel
theorem dX8_isFar_5 : decode cX8_isFar 5 = .ok (.aload_n 0, 1) := by decide +kernel
theorem dX8_isFar_6 : decode cX8_isFar 6 = .ok (.getfield 93, 3) := by decide +kernel
theorem dX8_isFar_9 : decode cX8_isFar 9 = .ok (.if_icmp .ge 30, 3) := by decide +kernel
theorem dX8_isFar_12 : decode cX8_isFar 12 = .ok (.lload_n 1, 1) := by decide +kernel
theorem dX8_isFar_13 : decode cX8_isFar 13 = .ok (.ldc2_w 248, 3) := by decide +kernel
theorem dX8_isFar_16 : decode cX8_isFar 16 = .ok (.lcmp, 1) := by decide +kernel
theorem dX8_isFar_17 : decode cX8_isFar 17 = .ok (.ifCond .gt 22, 3) := by decide +kernel
theorem dX8_isFar_20 : decode cX8_isFar 20 = .ok (.lload_n 1, 1) := by decide +kernel
theorem dX8_isFar_21 : decode cX8_isFar 21 = .ok (.aload_n 0, 1) := by decide +kernel
theorem dX8_isFar_22 : decode cX8_isFar 22 = .ok (.getfield 78, 3) := by decide +kernel
theorem dX8_isFar_25 : decode cX8_isFar 25 = .ok (.iload_n 3, 1) := by decide +kernel
theorem dX8_isFar_26 : decode cX8_isFar 26 = .ok (.iaload, 1) := by decide +kernel
theorem dX8_isFar_27 : decode cX8_isFar 27 = .ok (.invokestatic 123, 3) := by decide +kernel
theorem dX8_isFar_30 : decode cX8_isFar 30 = .ok (.i2l, 1) := by decide +kernel
theorem dX8_isFar_31 : decode cX8_isFar 31 = .ok (.lmul, 1) := by decide +kernel
theorem dX8_isFar_32 : decode cX8_isFar 32 = .ok (.lstore_n 1, 1) := by decide +kernel
theorem dX8_isFar_33 : decode cX8_isFar 33 = .ok (.iinc 3 1, 3) := by decide +kernel
theorem dX8_isFar_36 : decode cX8_isFar 36 = .ok (.goto (-32), 3) := by decide +kernel
theorem dX8_isFar_39 : decode cX8_isFar 39 = .ok (.lload_n 1, 1) := by decide +kernel
theorem dX8_isFar_40 : decode cX8_isFar 40 = .ok (.ldc2_w 248, 3) := by decide +kernel
theorem dX8_isFar_43 : decode cX8_isFar 43 = .ok (.lcmp, 1) := by decide +kernel
theorem dX8_isFar_44 : decode cX8_isFar 44 = .ok (.ifCond .le 7, 3) := by decide +kernel
theorem dX8_isFar_47 : decode cX8_isFar 47 = .ok (.iconst 1, 1) := by decide +kernel
theorem dX8_isFar_48 : decode cX8_isFar 48 = .ok (.goto 4, 3) := by decide +kernel
theorem dX8_isFar_51 : decode cX8_isFar 51 = .ok (.iconst 0, 1) := by decide +kernel
theorem dX8_isFar_52 : decode cX8_isFar 52 = .ok (.ireturn, 1) := by decide +kernel
theorem dX8_first_0 : decode cX8_first 0 = .ok (.iconst 0, 1) := by decide +kernel
theorem dX8_first_1 : decode cX8_first 1 = .ok (.istore_n 1, 1) := by decide +kernel
theorem dX8_first_2 : decode cX8_first 2 = .ok (.iload_n 1, 1) := by decide +kernel
theorem dX8_first_3 : decode cX8_first 3 = .ok (.aload_n 0, 1) := by decide +kernel
theorem dX8_first_4 : decode cX8_first 4 = .ok (.getfield 93, 3) := by decide +kernel
theorem dX8_first_7 : decode cX8_first 7 = .ok (.if_icmp .ge 24, 3) := by decide +kernel
theorem dX8_first_10 : decode cX8_first 10 = .ok (.aload_n 0, 1) := by decide +kernel
theorem dX8_first_11 : decode cX8_first 11 = .ok (.getfield 87, 3) := by decide +kernel
theorem dX8_first_14 : decode cX8_first 14 = .ok (.iload_n 1, 1) := by decide +kernel
theorem dX8_first_15 : decode cX8_first 15 = .ok (.aload_n 0, 1) := by decide +kernel
theorem dX8_first_16 : decode cX8_first 16 = .ok (.getfield 78, 3) := by decide +kernel
theorem dX8_first_19 : decode cX8_first 19 = .ok (.iload_n 1, 1) := by decide +kernel
theorem dX8_first_20 : decode cX8_first 20 = .ok (.iaload, 1) := by decide +kernel
theorem dX8_first_21 : decode cX8_first 21 = .ok (.invokestatic 161, 3) := by decide +kernel
theorem dX8_first_24 : decode cX8_first 24 = .ok (.iastore, 1) := by decide +kernel
theorem dX8_first_25 : decode cX8_first 25 = .ok (.iinc 1 1, 3) := by decide +kernel
theorem dX8_first_28 : decode cX8_first 28 = .ok (.goto (-26), 3) := by decide +kernel
theorem dX8_first_31 : decode cX8_first 31 = .ok (.return_, 1) := by decide +kernel
theorem dX8_goesOn_0 : decode cX8_goesOn 0 = .ok (.aload_n 0, 1) := by decide +kernel
theorem dX8_goesOn_1 : decode cX8_goesOn 1 = .ok (.getfield 93, 3) := by decide +kernel
theorem dX8_goesOn_4 : decode cX8_goesOn 4 = .ok (.iconst 1, 1) := by decide +kernel
theorem dX8_goesOn_5 : decode cX8_goesOn 5 = .ok (.isub, 1) := by decide +kernel
theorem dX8_goesOn_6 : decode cX8_goesOn 6 = .ok (.istore_n 1, 1) := by decide +kernel
theorem dX8_goesOn_7 : decode cX8_goesOn 7 = .ok (.iload_n 1, 1) := by decide +kernel
theorem dX8_goesOn_8 : decode cX8_goesOn 8 = .ok (.ifCond .lt 63, 3) := by decide +kernel
theorem dX8_goesOn_11 : decode cX8_goesOn 11 = .ok (.aload_n 0, 1) := by decide +kernel
theorem dX8_goesOn_12 : decode cX8_goesOn 12 = .ok (.getfield 78, 3) := by decide +kernel
theorem dX8_goesOn_15 : decode cX8_goesOn 15 = .ok (.iload_n 1, 1) := by decide +kernel
theorem dX8_goesOn_16 : decode cX8_goesOn 16 = .ok (.iaload, 1) := by decide +kernel
theorem dX8_goesOn_17 : decode cX8_goesOn 17 = .ok (.ldc 106, 2) := by decide +kernel
theorem dX8_goesOn_19 : decode cX8_goesOn 19 = .ok (.iconst 1, 1) := by decide +kernel
theorem dX8_goesOn_20 : decode cX8_goesOn 20 = .ok (.aload_n 0, 1) := by decide +kernel
theorem dX8_goesOn_21 : decode cX8_goesOn 21 = .ok (.getfield 87, 3) := by decide +kernel
theorem dX8_goesOn_24 : decode cX8_goesOn 24 = .ok (.iload_n 1, 1) := by decide +kernel
theorem dX8_goesOn_25 : decode cX8_goesOn 25 = .ok (.iaload, 1) := by decide +kernel
theorem dX8_goesOn_26 : decode cX8_goesOn 26 = .ok (.iconst 1, 1) := by decide +kernel
theorem dX8_goesOn_27 : decode cX8_goesOn 27 = .ok (.iadd, 1) := by decide +kernel
theorem dX8_goesOn_28 : decode cX8_goesOn 28 = .ok (.ishl, 1) := by decide +kernel
theorem dX8_goesOn_29 : decode cX8_goesOn 29 = .ok (.iconst 1, 1) := by decide +kernel
theorem dX8_goesOn_30 : decode cX8_goesOn 30 = .ok (.isub, 1) := by decide +kernel
theorem dX8_goesOn_31 : decode cX8_goesOn 31 = .ok (.isub, 1) := by decide +kernel
theorem dX8_goesOn_32 : decode cX8_goesOn 32 = .ok (.iand, 1) := by decide +kernel
theorem dX8_goesOn_33 : decode cX8_goesOn 33 = .ok (.istore_n 2, 1) := by decide +kernel
theorem dX8_goesOn_34 : decode cX8_goesOn 34 = .ok (.iload_n 2, 1) := by decide +kernel
theorem dX8_goesOn_35 : decode cX8_goesOn 35 = .ok (.ifCond .eq 15, 3) := by decide +kernel
theorem dX8_goesOn_38 : decode cX8_goesOn 38 = .ok (.aload_n 0, 1) := by decide +kernel
theorem dX8_goesOn_39 : decode cX8_goesOn 39 = .ok (.getfield 87, 3) := by decide +kernel
theorem dX8_goesOn_42 : decode cX8_goesOn 42 = .ok (.iload_n 1, 1) := by decide +kernel
theorem dX8_goesOn_43 : decode cX8_goesOn 43 = .ok (.iload_n 2, 1) := by decide +kernel
theorem dX8_goesOn_44 : decode cX8_goesOn 44 = .ok (.invokestatic 161, 3) := by decide +kernel
theorem dX8_goesOn_47 : decode cX8_goesOn 47 = .ok (.iastore, 1) := by decide +kernel
theorem dX8_goesOn_48 : decode cX8_goesOn 48 = .ok (.iconst 1, 1) := by decide +kernel
theorem dX8_goesOn_49 : decode cX8_goesOn 49 = .ok (.ireturn, 1) := by decide +kernel
theorem dX8_goesOn_50 : decode cX8_goesOn 50 = .ok (.aload_n 0, 1) := by decide +kernel
theorem dX8_goesOn_51 : decode cX8_goesOn 51 = .ok (.getfield 87, 3) := by decide +kernel
theorem dX8_goesOn_54 : decode cX8_goesOn 54 = .ok (.iload_n 1, 1) := by decide +kernel
theorem dX8_goesOn_55 : decode cX8_goesOn 55 = .ok (.aload_n 0, 1) := by decide +kernel
theorem dX8_goesOn_56 : decode cX8_goesOn 56 = .ok (.getfield 78, 3) := by decide +kernel
theorem dX8_goesOn_59 : decode cX8_goesOn 59 = .ok (.iload_n 1, 1) := by decide +kernel
theorem dX8_goesOn_60 : decode cX8_goesOn 60 = .ok (.iaload, 1) := by decide +kernel
theorem dX8_goesOn_61 : decode cX8_goesOn 61 = .ok (.invokestatic 161, 3) := by decide +kernel
theorem dX8_goesOn_64 : decode cX8_goesOn 64 = .ok (.iastore, 1) := by decide +kernel
theorem dX8_goesOn_65 : decode cX8_goesOn 65 = .ok (.iinc 1 (-1), 3) := by decide +kernel
theorem dX8_goesOn_68 : decode cX8_goesOn 68 = .ok (.goto (-61), 3) := by decide +kernel
theorem dX8_goesOn_71 : decode cX8_goesOn 71 = .ok (.iconst 0, 1) := by decide +kernel
theorem dX8_goesOn_72 : decode cX8_goesOn 72 = .ok (.ireturn, 1) := by decide +kernel
theorem dX8_begun_0 : decode cX8_begun 0 = .ok (.aload_n 0, 1) := by decide +kernel
theorem dX8_begun_1 : decode cX8_begun 1 = .ok (.iconst 0, 1) := by decide +kernel
theorem dX8_begun_2 : decode cX8_begun 2 = .ok (.invokevirtual 207, 3) := by decide +kernel
theorem dX8_begun_5 : decode cX8_begun 5 = .ok (.aload_n 0, 1) := by decide +kernel
theorem dX8_begun_6 : decode cX8_begun 6 = .ok (.invokevirtual 211, 3) := by decide +kernel
theorem dX8_begun_9 : decode cX8_begun 9 = .ok (.aload_n 0, 1) := by decide +kernel
theorem dX8_begun_10 : decode cX8_begun 10 = .ok (.getfield 197, 3) := by decide +kernel
theorem dX8_begun_13 : decode cX8_begun 13 = .ok (.ifCond .ne 15, 3) := by decide +kernel
theorem dX8_begun_16 : decode cX8_begun 16 = .ok (.aload_n 0, 1) := by decide +kernel
theorem dX8_begun_17 : decode cX8_begun 17 = .ok (.invokevirtual 250, 3) := by decide +kernel
theorem dX8_begun_20 : decode cX8_begun 20 = .ok (.ifCond .eq 8, 3) := by decide +kernel
theorem dX8_begun_23 : decode cX8_begun 23 = .ok (.bipush (-5), 2) := by decide +kernel
theorem dX8_begun_25 : decode cX8_begun 25 = .ok (.goto 4, 3) := by decide +kernel
theorem dX8_begun_28 : decode cX8_begun 28 = .ok (.iconst 0, 1) := by decide +kernel
theorem dX8_begun_29 : decode cX8_begun 29 = .ok (.ireturn, 1) := by decide +kernel
theorem dX8_keep_0 : decode cX8_keep 0 = .ok (.aload_n 0, 1) := by decide +kernel
theorem dX8_keep_1 : decode cX8_keep 1 = .ok (.aload_n 0, 1) := by decide +kernel
theorem dX8_keep_2 : decode cX8_keep 2 = .ok (.getfield 93, 3) := by decide +kernel
theorem dX8_keep_5 : decode cX8_keep 5 = .ok (.putfield 71, 3) := by decide +kernel
theorem dX8_keep_8 : decode cX8_keep 8 = .ok (.iconst 0, 1) := by decide +kernel
theorem dX8_keep_9 : decode cX8_keep 9 = .ok (.istore_n 1, 1) := by decide +kernel
theorem dX8_keep_10 : decode cX8_keep 10 = .ok (.iload_n 1, 1) := by decide +kernel
theorem dX8_keep_11 : decode cX8_keep 11 = .ok (.aload_n 0, 1) := by decide +kernel
theorem dX8_keep_12 : decode cX8_keep 12 = .ok (.getfield 93, 3) := by decide +kernel
theorem dX8_keep_15 : decode cX8_keep 15 = .ok (.if_icmp .ge 21, 3) := by decide +kernel
theorem dX8_keep_18 : decode cX8_keep 18 = .ok (.aload_n 0, 1) := by decide +kernel
theorem dX8_keep_19 : decode cX8_keep 19 = .ok (.getfield 75, 3) := by decide +kernel
theorem dX8_keep_22 : decode cX8_keep 22 = .ok (.iload_n 1, 1) := by decide +kernel
theorem dX8_keep_23 : decode cX8_keep 23 = .ok (.aload_n 0, 1) := by decide +kernel
theorem dX8_keep_24 : decode cX8_keep 24 = .ok (.getfield 87, 3) := by decide +kernel
theorem dX8_keep_27 : decode cX8_keep 27 = .ok (.iload_n 1, 1) := by decide +kernel
theorem dX8_keep_28 : decode cX8_keep 28 = .ok (.iaload, 1) := by decide +kernel
theorem dX8_keep_29 : decode cX8_keep 29 = .ok (.iastore, 1) := by decide +kernel
theorem dX8_keep_30 : decode cX8_keep 30 = .ok (.iinc 1 1, 3) := by decide +kernel
theorem dX8_keep_33 : decode cX8_keep 33 = .ok (.goto (-23), 3) := by decide +kernel
theorem dX8_keep_36 : decode cX8_keep 36 = .ok (.return_, 1) := by decide +kernel
theorem dX8_solve_0 : decode cX8_solve 0 = .ok (.aload_n 0, 1) := by decide +kernel
theorem dX8_solve_1 : decode cX8_solve 1 = .ok (.iconst 0, 1) := by decide +kernel
theorem dX8_solve_2 : decode cX8_solve 2 = .ok (.putfield 90, 3) := by decide +kernel
theorem dX8_solve_5 : decode cX8_solve 5 = .ok (.aload_n 0, 1) := by decide +kernel
theorem dX8_solve_6 : decode cX8_solve 6 = .ok (.invokevirtual 253, 3) := by decide +kernel
theorem dX8_solve_9 : decode cX8_solve 9 = .ok (.ifCond .eq 6, 3) := by decide +kernel
theorem dX8_solve_12 : decode cX8_solve 12 = .ok (.bipush (-5), 2) := by decide +kernel
theorem dX8_solve_14 : decode cX8_solve 14 = .ok (.ireturn, 1) := by decide +kernel
theorem dX8_solve_15 : decode cX8_solve 15 = .ok (.aload_n 0, 1) := by decide +kernel
theorem dX8_solve_16 : decode cX8_solve 16 = .ok (.bipush (-9), 2) := by decide +kernel
theorem dX8_solve_18 : decode cX8_solve 18 = .ok (.putfield 71, 3) := by decide +kernel
theorem dX8_solve_21 : decode cX8_solve 21 = .ok (.aload_n 0, 1) := by decide +kernel
theorem dX8_solve_22 : decode cX8_solve 22 = .ok (.getfield 197, 3) := by decide +kernel
theorem dX8_solve_25 : decode cX8_solve 25 = .ok (.ifCond .eq 5, 3) := by decide +kernel
theorem dX8_solve_28 : decode cX8_solve 28 = .ok (.iconst 0, 1) := by decide +kernel
theorem dX8_solve_29 : decode cX8_solve 29 = .ok (.ireturn, 1) := by decide +kernel
theorem dX8_solve_30 : decode cX8_solve 30 = .ok (.aload_n 0, 1) := by decide +kernel
theorem dX8_solve_31 : decode cX8_solve 31 = .ok (.invokevirtual 257, 3) := by decide +kernel
theorem dX8_solve_34 : decode cX8_solve 34 = .ok (.iconst 1, 1) := by decide +kernel
theorem dX8_solve_35 : decode cX8_solve 35 = .ok (.istore_n 1, 1) := by decide +kernel
theorem dX8_solve_36 : decode cX8_solve 36 = .ok (.iload_n 1, 1) := by decide +kernel
theorem dX8_solve_37 : decode cX8_solve 37 = .ok (.ifCond .eq 24, 3) := by decide +kernel
theorem dX8_solve_40 : decode cX8_solve 40 = .ok (.aload_n 0, 1) := by decide +kernel
theorem dX8_solve_41 : decode cX8_solve 41 = .ok (.invokevirtual 260, 3) := by decide +kernel
theorem dX8_solve_44 : decode cX8_solve 44 = .ok (.ifCond .eq 9, 3) := by decide +kernel
theorem dX8_solve_47 : decode cX8_solve 47 = .ok (.aload_n 0, 1) := by decide +kernel
theorem dX8_solve_48 : decode cX8_solve 48 = .ok (.invokevirtual 263, 3) := by decide +kernel
theorem dX8_solve_51 : decode cX8_solve 51 = .ok (.iconst 1, 1) := by decide +kernel
theorem dX8_solve_52 : decode cX8_solve 52 = .ok (.ireturn, 1) := by decide +kernel
theorem dX8_solve_53 : decode cX8_solve 53 = .ok (.aload_n 0, 1) := by decide +kernel
theorem dX8_solve_54 : decode cX8_solve 54 = .ok (.invokevirtual 266, 3) := by decide +kernel
theorem dX8_solve_57 : decode cX8_solve 57 = .ok (.istore_n 1, 1) := by decide +kernel
theorem dX8_solve_58 : decode cX8_solve 58 = .ok (.goto (-22), 3) := by decide +kernel
theorem dX8_solve_61 : decode cX8_solve 61 = .ok (.iconst 0, 1) := by decide +kernel
theorem dX8_solve_62 : decode cX8_solve 62 = .ok (.ireturn, 1) := by decide +kernel
theorem dX8_isAbove_0 : decode cX8_isAbove 0 = .ok (.iconst 0, 1) := by decide +kernel
theorem dX8_isAbove_1 : decode cX8_isAbove 1 = .ok (.istore_n 1, 1) := by decide +kernel
theorem dX8_isAbove_2 : decode cX8_isAbove 2 = .ok (.iload_n 1, 1) := by decide +kernel
theorem dX8_isAbove_3 : decode cX8_isAbove 3 = .ok (.aload_n 0, 1) := by decide +kernel
theorem dX8_isAbove_4 : decode cX8_isAbove 4 = .ok (.getfield 93, 3) := by decide +kernel
theorem dX8_isAbove_7 : decode cX8_isAbove 7 = .ok (.if_icmp .ge 45, 3) := by decide +kernel
theorem dX8_isAbove_10 : decode cX8_isAbove 10 = .ok (.aload_n 0, 1) := by decide +kernel
theorem dX8_isAbove_11 : decode cX8_isAbove 11 = .ok (.getfield 87, 3) := by decide +kernel
theorem dX8_isAbove_14 : decode cX8_isAbove 14 = .ok (.iload_n 1, 1) := by decide +kernel
theorem dX8_isAbove_15 : decode cX8_isAbove 15 = .ok (.iaload, 1) := by decide +kernel
theorem dX8_isAbove_16 : decode cX8_isAbove 16 = .ok (.aload_n 0, 1) := by decide +kernel
theorem dX8_isAbove_17 : decode cX8_isAbove 17 = .ok (.getfield 75, 3) := by decide +kernel
theorem dX8_isAbove_20 : decode cX8_isAbove 20 = .ok (.iload_n 1, 1) := by decide +kernel
theorem dX8_isAbove_21 : decode cX8_isAbove 21 = .ok (.iaload, 1) := by decide +kernel
theorem dX8_isAbove_22 : decode cX8_isAbove 22 = .ok (.if_icmp .eq 24, 3) := by decide +kernel
theorem dX8_isAbove_25 : decode cX8_isAbove 25 = .ok (.aload_n 0, 1) := by decide +kernel
theorem dX8_isAbove_26 : decode cX8_isAbove 26 = .ok (.getfield 87, 3) := by decide +kernel
theorem dX8_isAbove_29 : decode cX8_isAbove 29 = .ok (.iload_n 1, 1) := by decide +kernel
theorem dX8_isAbove_30 : decode cX8_isAbove 30 = .ok (.iaload, 1) := by decide +kernel
theorem dX8_isAbove_31 : decode cX8_isAbove 31 = .ok (.aload_n 0, 1) := by decide +kernel
theorem dX8_isAbove_32 : decode cX8_isAbove 32 = .ok (.getfield 75, 3) := by decide +kernel
theorem dX8_isAbove_35 : decode cX8_isAbove 35 = .ok (.iload_n 1, 1) := by decide +kernel
theorem dX8_isAbove_36 : decode cX8_isAbove 36 = .ok (.iaload, 1) := by decide +kernel
theorem dX8_isAbove_37 : decode cX8_isAbove 37 = .ok (.if_icmp .le 7, 3) := by decide +kernel
theorem dX8_isAbove_40 : decode cX8_isAbove 40 = .ok (.iconst 1, 1) := by decide +kernel
theorem dX8_isAbove_41 : decode cX8_isAbove 41 = .ok (.goto 4, 3) := by decide +kernel
theorem dX8_isAbove_44 : decode cX8_isAbove 44 = .ok (.iconst 0, 1) := by decide +kernel
theorem dX8_isAbove_45 : decode cX8_isAbove 45 = .ok (.ireturn, 1) := by decide +kernel
theorem dX8_isAbove_46 : decode cX8_isAbove 46 = .ok (.iinc 1 1, 3) := by decide +kernel
theorem dX8_isAbove_49 : decode cX8_isAbove 49 = .ok (.goto (-47), 3) := by decide +kernel
theorem dX8_isAbove_52 : decode cX8_isAbove 52 = .ok (.iconst 0, 1) := by decide +kernel
theorem dX8_isAbove_53 : decode cX8_isAbove 53 = .ok (.ireturn, 1) := by decide +kernel
theorem dX8_next_0 : decode cX8_next 0 = .ok (.aload_n 0, 1) := by decide +kernel
theorem dX8_next_1 : decode cX8_next 1 = .ok (.iconst 0, 1) := by decide +kernel
theorem dX8_next_2 : decode cX8_next 2 = .ok (.putfield 90, 3) := by decide +kernel
theorem dX8_next_5 : decode cX8_next 5 = .ok (.aload_n 0, 1) := by decide +kernel
theorem dX8_next_6 : decode cX8_next 6 = .ok (.getfield 71, 3) := by decide +kernel
theorem dX8_next_9 : decode cX8_next 9 = .ok (.aload_n 0, 1) := by decide +kernel
theorem dX8_next_10 : decode cX8_next 10 = .ok (.getfield 93, 3) := by decide +kernel
theorem dX8_next_13 : decode cX8_next 13 = .ok (.if_icmp .eq 6, 3) := by decide +kernel
theorem dX8_next_16 : decode cX8_next 16 = .ok (.bipush (-3), 2) := by decide +kernel
theorem dX8_next_18 : decode cX8_next 18 = .ok (.ireturn, 1) := by decide +kernel
theorem dX8_next_19 : decode cX8_next 19 = .ok (.aload_n 0, 1) := by decide +kernel
theorem dX8_next_20 : decode cX8_next 20 = .ok (.invokevirtual 253, 3) := by decide +kernel
theorem dX8_next_23 : decode cX8_next 23 = .ok (.ifCond .eq 6, 3) := by decide +kernel
theorem dX8_next_26 : decode cX8_next 26 = .ok (.bipush (-5), 2) := by decide +kernel
theorem dX8_next_28 : decode cX8_next 28 = .ok (.ireturn, 1) := by decide +kernel
theorem dX8_next_29 : decode cX8_next 29 = .ok (.aload_n 0, 1) := by decide +kernel
theorem dX8_next_30 : decode cX8_next 30 = .ok (.getfield 197, 3) := by decide +kernel
theorem dX8_next_33 : decode cX8_next 33 = .ok (.ifCond .eq 5, 3) := by decide +kernel
theorem dX8_next_36 : decode cX8_next 36 = .ok (.iconst 0, 1) := by decide +kernel
theorem dX8_next_37 : decode cX8_next 37 = .ok (.ireturn, 1) := by decide +kernel
theorem dX8_next_38 : decode cX8_next 38 = .ok (.aload_n 0, 1) := by decide +kernel
theorem dX8_next_39 : decode cX8_next 39 = .ok (.invokevirtual 257, 3) := by decide +kernel
theorem dX8_next_42 : decode cX8_next 42 = .ok (.iconst 1, 1) := by decide +kernel
theorem dX8_next_43 : decode cX8_next 43 = .ok (.istore_n 1, 1) := by decide +kernel
theorem dX8_next_44 : decode cX8_next 44 = .ok (.iload_n 1, 1) := by decide +kernel
theorem dX8_next_45 : decode cX8_next 45 = .ok (.ifCond .eq 31, 3) := by decide +kernel
theorem dX8_next_48 : decode cX8_next 48 = .ok (.aload_n 0, 1) := by decide +kernel
theorem dX8_next_49 : decode cX8_next 49 = .ok (.invokevirtual 269, 3) := by decide +kernel
theorem dX8_next_52 : decode cX8_next 52 = .ok (.ifCond .eq 16, 3) := by decide +kernel
theorem dX8_next_55 : decode cX8_next 55 = .ok (.aload_n 0, 1) := by decide +kernel
theorem dX8_next_56 : decode cX8_next 56 = .ok (.invokevirtual 260, 3) := by decide +kernel
theorem dX8_next_59 : decode cX8_next 59 = .ok (.ifCond .eq 9, 3) := by decide +kernel
theorem dX8_next_62 : decode cX8_next 62 = .ok (.aload_n 0, 1) := by decide +kernel
theorem dX8_next_63 : decode cX8_next 63 = .ok (.invokevirtual 263, 3) := by decide +kernel
theorem dX8_next_66 : decode cX8_next 66 = .ok (.iconst 1, 1) := by decide +kernel
theorem dX8_next_67 : decode cX8_next 67 = .ok (.ireturn, 1) := by decide +kernel
theorem dX8_next_68 : decode cX8_next 68 = .ok (.aload_n 0, 1) := by decide +kernel
theorem dX8_next_69 : decode cX8_next 69 = .ok (.invokevirtual 266, 3) := by decide +kernel
theorem dX8_next_72 : decode cX8_next 72 = .ok (.istore_n 1, 1) := by decide +kernel
theorem dX8_next_73 : decode cX8_next 73 = .ok (.goto (-29), 3) := by decide +kernel
theorem dX8_next_76 : decode cX8_next 76 = .ok (.iconst 0, 1) := by decide +kernel
theorem dX8_next_77 : decode cX8_next 77 = .ok (.ireturn, 1) := by decide +kernel
theorem dX8_answer_0 : decode cX8_answer 0 = .ok (.aload_n 0, 1) := by decide +kernel
theorem dX8_answer_1 : decode cX8_answer 1 = .ok (.iconst 0, 1) := by decide +kernel
theorem dX8_answer_2 : decode cX8_answer 2 = .ok (.putfield 90, 3) := by decide +kernel
theorem dX8_answer_5 : decode cX8_answer 5 = .ok (.aload_n 0, 1) := by decide +kernel
theorem dX8_answer_6 : decode cX8_answer 6 = .ok (.iload_n 1, 1) := by decide +kernel
theorem dX8_answer_7 : decode cX8_answer 7 = .ok (.invokevirtual 119, 3) := by decide +kernel
theorem dX8_answer_10 : decode cX8_answer 10 = .ok (.ifCond .eq 5, 3) := by decide +kernel
theorem dX8_answer_13 : decode cX8_answer 13 = .ok (.iconst (-1), 1) := by decide +kernel
theorem dX8_answer_14 : decode cX8_answer 14 = .ok (.ireturn, 1) := by decide +kernel
theorem dX8_answer_15 : decode cX8_answer 15 = .ok (.iload_n 1, 1) := by decide +kernel
theorem dX8_answer_16 : decode cX8_answer 16 = .ok (.aload_n 0, 1) := by decide +kernel
theorem dX8_answer_17 : decode cX8_answer 17 = .ok (.getfield 71, 3) := by decide +kernel
theorem dX8_answer_20 : decode cX8_answer 20 = .ok (.if_icmp .ge 12, 3) := by decide +kernel
theorem dX8_answer_23 : decode cX8_answer 23 = .ok (.aload_n 0, 1) := by decide +kernel
theorem dX8_answer_24 : decode cX8_answer 24 = .ok (.getfield 75, 3) := by decide +kernel
theorem dX8_answer_27 : decode cX8_answer 27 = .ok (.iload_n 1, 1) := by decide +kernel
theorem dX8_answer_28 : decode cX8_answer 28 = .ok (.iaload, 1) := by decide +kernel
theorem dX8_answer_29 : decode cX8_answer 29 = .ok (.goto 5, 3) := by decide +kernel
theorem dX8_answer_32 : decode cX8_answer 32 = .ok (.bipush (-3), 2) := by decide +kernel
theorem dX8_answer_34 : decode cX8_answer 34 = .ok (.ireturn, 1) := by decide +kernel
theorem dX8_count_0 : decode cX8_count 0 = .ok (.aload_n 0, 1) := by decide +kernel
theorem dX8_count_1 : decode cX8_count 1 = .ok (.iconst 0, 1) := by decide +kernel
theorem dX8_count_2 : decode cX8_count 2 = .ok (.putfield 90, 3) := by decide +kernel
theorem dX8_count_5 : decode cX8_count 5 = .ok (.iload_n 1, 1) := by decide +kernel
theorem dX8_count_6 : decode cX8_count 6 = .ok (.i2l, 1) := by decide +kernel
theorem dX8_count_7 : decode cX8_count 7 = .ok (.lconst 1, 1) := by decide +kernel
theorem dX8_count_8 : decode cX8_count 8 = .ok (.ldc2_w 248, 3) := by decide +kernel
theorem dX8_count_11 : decode cX8_count 11 = .ok (.invokestatic 96, 3) := by decide +kernel
theorem dX8_count_14 : decode cX8_count 14 = .ok (.ifCond .ne 6, 3) := by decide +kernel
theorem dX8_count_17 : decode cX8_count 17 = .ok (.bipush (-2), 2) := by decide +kernel
theorem dX8_count_19 : decode cX8_count 19 = .ok (.ireturn, 1) := by decide +kernel
theorem dX8_count_20 : decode cX8_count 20 = .ok (.aload_n 0, 1) := by decide +kernel
theorem dX8_count_21 : decode cX8_count 21 = .ok (.invokevirtual 253, 3) := by decide +kernel
theorem dX8_count_24 : decode cX8_count 24 = .ok (.ifCond .eq 6, 3) := by decide +kernel
theorem dX8_count_27 : decode cX8_count 27 = .ok (.bipush (-5), 2) := by decide +kernel
theorem dX8_count_29 : decode cX8_count 29 = .ok (.ireturn, 1) := by decide +kernel
theorem dX8_count_30 : decode cX8_count 30 = .ok (.iconst 0, 1) := by decide +kernel
theorem dX8_count_31 : decode cX8_count 31 = .ok (.istore_n 2, 1) := by decide +kernel
theorem dX8_count_32 : decode cX8_count 32 = .ok (.aload_n 0, 1) := by decide +kernel
theorem dX8_count_33 : decode cX8_count 33 = .ok (.getfield 197, 3) := by decide +kernel
theorem dX8_count_36 : decode cX8_count 36 = .ok (.ifCond .ne 7, 3) := by decide +kernel
theorem dX8_count_39 : decode cX8_count 39 = .ok (.iconst 1, 1) := by decide +kernel
theorem dX8_count_40 : decode cX8_count 40 = .ok (.goto 4, 3) := by decide +kernel
theorem dX8_count_43 : decode cX8_count 43 = .ok (.iconst 0, 1) := by decide +kernel
theorem dX8_count_44 : decode cX8_count 44 = .ok (.istore_n 3, 1) := by decide +kernel
theorem dX8_count_45 : decode cX8_count 45 = .ok (.aload_n 0, 1) := by decide +kernel
theorem dX8_count_46 : decode cX8_count 46 = .ok (.invokevirtual 257, 3) := by decide +kernel
theorem dX8_count_49 : decode cX8_count 49 = .ok (.iload_n 3, 1) := by decide +kernel
theorem dX8_count_50 : decode cX8_count 50 = .ok (.ifCond .eq 31, 3) := by decide +kernel
theorem dX8_count_53 : decode cX8_count 53 = .ok (.iload_n 2, 1) := by decide +kernel
theorem dX8_count_54 : decode cX8_count 54 = .ok (.iload_n 1, 1) := by decide +kernel
theorem dX8_count_55 : decode cX8_count 55 = .ok (.if_icmp .ge 26, 3) := by decide +kernel
theorem dX8_count_58 : decode cX8_count 58 = .ok (.iload_n 2, 1) := by decide +kernel
theorem dX8_count_59 : decode cX8_count 59 = .ok (.aload_n 0, 1) := by decide +kernel
theorem dX8_count_60 : decode cX8_count 60 = .ok (.invokevirtual 260, 3) := by decide +kernel
theorem dX8_count_63 : decode cX8_count 63 = .ok (.ifCond .eq 7, 3) := by decide +kernel
theorem dX8_count_66 : decode cX8_count 66 = .ok (.iconst 1, 1) := by decide +kernel
theorem dX8_count_67 : decode cX8_count 67 = .ok (.goto 4, 3) := by decide +kernel
theorem dX8_count_70 : decode cX8_count 70 = .ok (.iconst 0, 1) := by decide +kernel
theorem dX8_count_71 : decode cX8_count 71 = .ok (.iadd, 1) := by decide +kernel
theorem dX8_count_72 : decode cX8_count 72 = .ok (.istore_n 2, 1) := by decide +kernel
theorem dX8_count_73 : decode cX8_count 73 = .ok (.aload_n 0, 1) := by decide +kernel
theorem dX8_count_74 : decode cX8_count 74 = .ok (.invokevirtual 266, 3) := by decide +kernel
theorem dX8_count_77 : decode cX8_count 77 = .ok (.istore_n 3, 1) := by decide +kernel
theorem dX8_count_78 : decode cX8_count 78 = .ok (.goto (-29), 3) := by decide +kernel
theorem dX8_count_81 : decode cX8_count 81 = .ok (.iload_n 2, 1) := by decide +kernel
theorem dX8_count_82 : decode cX8_count 82 = .ok (.ireturn, 1) := by decide +kernel
theorem dX8_best_0 : decode cX8_best 0 = .ok (.aload_n 0, 1) := by decide +kernel
theorem dX8_best_1 : decode cX8_best 1 = .ok (.iconst 0, 1) := by decide +kernel
theorem dX8_best_2 : decode cX8_best 2 = .ok (.putfield 90, 3) := by decide +kernel
theorem dX8_best_5 : decode cX8_best 5 = .ok (.aload_n 0, 1) := by decide +kernel
theorem dX8_best_6 : decode cX8_best 6 = .ok (.iload_n 1, 1) := by decide +kernel
theorem dX8_best_7 : decode cX8_best 7 = .ok (.invokevirtual 119, 3) := by decide +kernel
theorem dX8_best_10 : decode cX8_best 10 = .ok (.ifCond .eq 5, 3) := by decide +kernel
theorem dX8_best_13 : decode cX8_best 13 = .ok (.iconst (-1), 1) := by decide +kernel
theorem dX8_best_14 : decode cX8_best 14 = .ok (.ireturn, 1) := by decide +kernel
theorem dX8_best_15 : decode cX8_best 15 = .ok (.aload_n 0, 1) := by decide +kernel
theorem dX8_best_16 : decode cX8_best 16 = .ok (.invokevirtual 253, 3) := by decide +kernel
theorem dX8_best_19 : decode cX8_best 19 = .ok (.ifCond .eq 6, 3) := by decide +kernel
theorem dX8_best_22 : decode cX8_best 22 = .ok (.bipush (-5), 2) := by decide +kernel
theorem dX8_best_24 : decode cX8_best 24 = .ok (.ireturn, 1) := by decide +kernel
theorem dX8_best_25 : decode cX8_best 25 = .ok (.aload_n 0, 1) := by decide +kernel
theorem dX8_best_26 : decode cX8_best 26 = .ok (.bipush (-9), 2) := by decide +kernel
theorem dX8_best_28 : decode cX8_best 28 = .ok (.putfield 71, 3) := by decide +kernel
theorem dX8_best_31 : decode cX8_best 31 = .ok (.aload_n 0, 1) := by decide +kernel
theorem dX8_best_32 : decode cX8_best 32 = .ok (.getfield 197, 3) := by decide +kernel
theorem dX8_best_35 : decode cX8_best 35 = .ok (.ifCond .ne 7, 3) := by decide +kernel
theorem dX8_best_38 : decode cX8_best 38 = .ok (.iconst 1, 1) := by decide +kernel
theorem dX8_best_39 : decode cX8_best 39 = .ok (.goto 4, 3) := by decide +kernel
theorem dX8_best_42 : decode cX8_best 42 = .ok (.iconst 0, 1) := by decide +kernel
theorem dX8_best_43 : decode cX8_best 43 = .ok (.istore_n 3, 1) := by decide +kernel
theorem dX8_best_44 : decode cX8_best 44 = .ok (.aload_n 0, 1) := by decide +kernel
theorem dX8_best_45 : decode cX8_best 45 = .ok (.invokevirtual 257, 3) := by decide +kernel
theorem dX8_best_48 : decode cX8_best 48 = .ok (.iload_n 3, 1) := by decide +kernel
theorem dX8_best_49 : decode cX8_best 49 = .ok (.ifCond .eq 80, 3) := by decide +kernel
theorem dX8_best_52 : decode cX8_best 52 = .ok (.aload_n 0, 1) := by decide +kernel
theorem dX8_best_53 : decode cX8_best 53 = .ok (.getfield 71, 3) := by decide +kernel
theorem dX8_best_56 : decode cX8_best 56 = .ok (.bipush (-9), 2) := by decide +kernel
theorem dX8_best_58 : decode cX8_best 58 = .ok (.if_icmp .eq 40, 3) := by decide +kernel
theorem dX8_best_61 : decode cX8_best 61 = .ok (.iload_n 2, 1) := by decide +kernel
theorem dX8_best_62 : decode cX8_best 62 = .ok (.ifCond .eq 21, 3) := by decide +kernel
theorem dX8_best_65 : decode cX8_best 65 = .ok (.aload_n 0, 1) := by decide +kernel
theorem dX8_best_66 : decode cX8_best 66 = .ok (.getfield 87, 3) := by decide +kernel
theorem dX8_best_69 : decode cX8_best 69 = .ok (.iload_n 1, 1) := by decide +kernel
theorem dX8_best_70 : decode cX8_best 70 = .ok (.iaload, 1) := by decide +kernel
theorem dX8_best_71 : decode cX8_best 71 = .ok (.aload_n 0, 1) := by decide +kernel
theorem dX8_best_72 : decode cX8_best 72 = .ok (.getfield 75, 3) := by decide +kernel
theorem dX8_best_75 : decode cX8_best 75 = .ok (.iload_n 1, 1) := by decide +kernel
theorem dX8_best_76 : decode cX8_best 76 = .ok (.iaload, 1) := by decide +kernel
theorem dX8_best_77 : decode cX8_best 77 = .ok (.if_icmp .le 25, 3) := by decide +kernel
theorem dX8_best_80 : decode cX8_best 80 = .ok (.goto 18, 3) := by decide +kernel
theorem dX8_best_83 : decode cX8_best 83 = .ok (.aload_n 0, 1) := by decide +kernel
theorem dX8_best_84 : decode cX8_best 84 = .ok (.getfield 87, 3) := by decide +kernel
theorem dX8_best_87 : decode cX8_best 87 = .ok (.iload_n 1, 1) := by decide +kernel
theorem dX8_best_88 : decode cX8_best 88 = .ok (.iaload, 1) := by decide +kernel
theorem dX8_best_89 : decode cX8_best 89 = .ok (.aload_n 0, 1) := by decide +kernel
theorem dX8_best_90 : decode cX8_best 90 = .ok (.getfield 75, 3) := by decide +kernel
theorem dX8_best_93 : decode cX8_best 93 = .ok (.iload_n 1, 1) := by decide +kernel
theorem dX8_best_94 : decode cX8_best 94 = .ok (.iaload, 1) := by decide +kernel
theorem dX8_best_95 : decode cX8_best 95 = .ok (.if_icmp .ge 7, 3) := by decide +kernel
theorem dX8_best_98 : decode cX8_best 98 = .ok (.iconst 1, 1) := by decide +kernel
theorem dX8_best_99 : decode cX8_best 99 = .ok (.goto 4, 3) := by decide +kernel
theorem dX8_best_102 : decode cX8_best 102 = .ok (.iconst 0, 1) := by decide +kernel
theorem dX8_best_103 : decode cX8_best 103 = .ok (.istore 4, 2) := by decide +kernel
theorem dX8_best_105 : decode cX8_best 105 = .ok (.iload 4, 2) := by decide +kernel
theorem dX8_best_107 : decode cX8_best 107 = .ok (.ifCond .eq 14, 3) := by decide +kernel
theorem dX8_best_110 : decode cX8_best 110 = .ok (.aload_n 0, 1) := by decide +kernel
theorem dX8_best_111 : decode cX8_best 111 = .ok (.invokevirtual 260, 3) := by decide +kernel
theorem dX8_best_114 : decode cX8_best 114 = .ok (.ifCond .eq 7, 3) := by decide +kernel
theorem dX8_best_117 : decode cX8_best 117 = .ok (.aload_n 0, 1) := by decide +kernel
theorem dX8_best_118 : decode cX8_best 118 = .ok (.invokevirtual 263, 3) := by decide +kernel
theorem dX8_best_121 : decode cX8_best 121 = .ok (.aload_n 0, 1) := by decide +kernel
theorem dX8_best_122 : decode cX8_best 122 = .ok (.invokevirtual 266, 3) := by decide +kernel
theorem dX8_best_125 : decode cX8_best 125 = .ok (.istore_n 3, 1) := by decide +kernel
theorem dX8_best_126 : decode cX8_best 126 = .ok (.goto (-78), 3) := by decide +kernel
theorem dX8_best_129 : decode cX8_best 129 = .ok (.aload_n 0, 1) := by decide +kernel
theorem dX8_best_130 : decode cX8_best 130 = .ok (.getfield 71, 3) := by decide +kernel
theorem dX8_best_133 : decode cX8_best 133 = .ok (.bipush (-9), 2) := by decide +kernel
theorem dX8_best_135 : decode cX8_best 135 = .ok (.if_icmp .ne 8, 3) := by decide +kernel
theorem dX8_best_138 : decode cX8_best 138 = .ok (.bipush (-9), 2) := by decide +kernel
theorem dX8_best_140 : decode cX8_best 140 = .ok (.goto 9, 3) := by decide +kernel
theorem dX8_best_143 : decode cX8_best 143 = .ok (.aload_n 0, 1) := by decide +kernel
theorem dX8_best_144 : decode cX8_best 144 = .ok (.getfield 75, 3) := by decide +kernel
theorem dX8_best_147 : decode cX8_best 147 = .ok (.iload_n 1, 1) := by decide +kernel
theorem dX8_best_148 : decode cX8_best 148 = .ok (.iaload, 1) := by decide +kernel
theorem dX8_best_149 : decode cX8_best 149 = .ok (.ireturn, 1) := by decide +kernel
theorem dX8_has_0 : decode cX8_has 0 = .ok (.aload_n 0, 1) := by decide +kernel
theorem dX8_has_1 : decode cX8_has 1 = .ok (.iconst 0, 1) := by decide +kernel
theorem dX8_has_2 : decode cX8_has 2 = .ok (.putfield 90, 3) := by decide +kernel
theorem dX8_has_5 : decode cX8_has 5 = .ok (.aload_n 0, 1) := by decide +kernel
theorem dX8_has_6 : decode cX8_has 6 = .ok (.iload_n 1, 1) := by decide +kernel
theorem dX8_has_7 : decode cX8_has 7 = .ok (.invokevirtual 119, 3) := by decide +kernel
theorem dX8_has_10 : decode cX8_has 10 = .ok (.ifCond .eq 5, 3) := by decide +kernel
theorem dX8_has_13 : decode cX8_has 13 = .ok (.iconst (-1), 1) := by decide +kernel
theorem dX8_has_14 : decode cX8_has 14 = .ok (.ireturn, 1) := by decide +kernel
theorem dX8_has_15 : decode cX8_has 15 = .ok (.iload_n 2, 1) := by decide +kernel
theorem dX8_has_16 : decode cX8_has 16 = .ok (.i2l, 1) := by decide +kernel
theorem dX8_has_17 : decode cX8_has 17 = .ok (.lconst 0, 1) := by decide +kernel
theorem dX8_has_18 : decode cX8_has 18 = .ok (.ldc2_w 153, 3) := by decide +kernel
theorem dX8_has_21 : decode cX8_has 21 = .ok (.invokestatic 96, 3) := by decide +kernel
theorem dX8_has_24 : decode cX8_has 24 = .ok (.ifCond .eq 15, 3) := by decide +kernel
theorem dX8_has_27 : decode cX8_has 27 = .ok (.iload_n 3, 1) := by decide +kernel
theorem dX8_has_28 : decode cX8_has 28 = .ok (.i2l, 1) := by decide +kernel
theorem dX8_has_29 : decode cX8_has 29 = .ok (.lconst 0, 1) := by decide +kernel
theorem dX8_has_30 : decode cX8_has 30 = .ok (.ldc2_w 107, 3) := by decide +kernel
theorem dX8_has_33 : decode cX8_has 33 = .ok (.invokestatic 96, 3) := by decide +kernel
theorem dX8_has_36 : decode cX8_has 36 = .ok (.ifCond .ne 6, 3) := by decide +kernel
theorem dX8_has_39 : decode cX8_has 39 = .ok (.bipush (-2), 2) := by decide +kernel
theorem dX8_has_41 : decode cX8_has 41 = .ok (.ireturn, 1) := by decide +kernel
theorem dX8_has_42 : decode cX8_has 42 = .ok (.aload_n 0, 1) := by decide +kernel
theorem dX8_has_43 : decode cX8_has 43 = .ok (.invokevirtual 253, 3) := by decide +kernel
theorem dX8_has_46 : decode cX8_has 46 = .ok (.ifCond .eq 6, 3) := by decide +kernel
theorem dX8_has_49 : decode cX8_has 49 = .ok (.bipush (-5), 2) := by decide +kernel
theorem dX8_has_51 : decode cX8_has 51 = .ok (.ireturn, 1) := by decide +kernel
theorem dX8_has_52 : decode cX8_has 52 = .ok (.iload_n 2, 1) := by decide +kernel
theorem dX8_has_53 : decode cX8_has 53 = .ok (.iload_n 3, 1) := by decide +kernel
theorem dX8_has_54 : decode cX8_has 54 = .ok (.invokestatic 112, 3) := by decide +kernel
theorem dX8_has_57 : decode cX8_has 57 = .ok (.istore 4, 2) := by decide +kernel
theorem dX8_has_59 : decode cX8_has 59 = .ok (.iconst 0, 1) := by decide +kernel
theorem dX8_has_60 : decode cX8_has 60 = .ok (.istore 5, 2) := by decide +kernel
theorem dX8_has_62 : decode cX8_has 62 = .ok (.iconst 0, 1) := by decide +kernel
theorem dX8_has_63 : decode cX8_has 63 = .ok (.istore 6, 2) := by decide +kernel
theorem dX8_has_65 : decode cX8_has 65 = .ok (.aload_n 0, 1) := by decide +kernel
theorem dX8_has_66 : decode cX8_has 66 = .ok (.getfield 197, 3) := by decide +kernel
theorem dX8_has_69 : decode cX8_has 69 = .ok (.ifCond .ne 7, 3) := by decide +kernel
theorem dX8_has_72 : decode cX8_has 72 = .ok (.iconst 1, 1) := by decide +kernel
theorem dX8_has_73 : decode cX8_has 73 = .ok (.goto 4, 3) := by decide +kernel
theorem dX8_has_76 : decode cX8_has 76 = .ok (.iconst 0, 1) := by decide +kernel
theorem dX8_has_77 : decode cX8_has 77 = .ok (.istore 7, 2) := by decide +kernel
theorem dX8_has_79 : decode cX8_has 79 = .ok (.aload_n 0, 1) := by decide +kernel
theorem dX8_has_80 : decode cX8_has 80 = .ok (.invokevirtual 257, 3) := by decide +kernel
theorem dX8_has_83 : decode cX8_has 83 = .ok (.iload 7, 2) := by decide +kernel
theorem dX8_has_85 : decode cX8_has 85 = .ok (.ifCond .eq 93, 3) := by decide +kernel
theorem dX8_has_88 : decode cX8_has 88 = .ok (.iload 4, 2) := by decide +kernel
theorem dX8_has_90 : decode cX8_has 90 = .ok (.aload_n 0, 1) := by decide +kernel
theorem dX8_has_91 : decode cX8_has 91 = .ok (.getfield 87, 3) := by decide +kernel
theorem dX8_has_94 : decode cX8_has 94 = .ok (.iload_n 1, 1) := by decide +kernel
theorem dX8_has_95 : decode cX8_has 95 = .ok (.iaload, 1) := by decide +kernel
theorem dX8_has_96 : decode cX8_has 96 = .ok (.ishr, 1) := by decide +kernel
theorem dX8_has_97 : decode cX8_has 97 = .ok (.iconst 1, 1) := by decide +kernel
theorem dX8_has_98 : decode cX8_has 98 = .ok (.iand, 1) := by decide +kernel
theorem dX8_has_99 : decode cX8_has 99 = .ok (.iconst 1, 1) := by decide +kernel
theorem dX8_has_100 : decode cX8_has 100 = .ok (.if_icmp .ne 7, 3) := by decide +kernel
theorem dX8_has_103 : decode cX8_has 103 = .ok (.iconst 1, 1) := by decide +kernel
theorem dX8_has_104 : decode cX8_has 104 = .ok (.goto 4, 3) := by decide +kernel
theorem dX8_has_107 : decode cX8_has 107 = .ok (.iconst 0, 1) := by decide +kernel
theorem dX8_has_108 : decode cX8_has 108 = .ok (.istore 8, 2) := by decide +kernel
theorem dX8_has_110 : decode cX8_has 110 = .ok (.iload 8, 2) := by decide +kernel
theorem dX8_has_112 : decode cX8_has 112 = .ok (.ifCond .eq 11, 3) := by decide +kernel
theorem dX8_has_115 : decode cX8_has 115 = .ok (.iload 5, 2) := by decide +kernel
theorem dX8_has_117 : decode cX8_has 117 = .ok (.ifCond .ne 52, 3) := by decide +kernel
theorem dX8_has_120 : decode cX8_has 120 = .ok (.goto 8, 3) := by decide +kernel
theorem dX8_has_123 : decode cX8_has 123 = .ok (.iload 6, 2) := by decide +kernel
theorem dX8_has_125 : decode cX8_has 125 = .ok (.ifCond .ne 44, 3) := by decide +kernel
theorem dX8_has_128 : decode cX8_has 128 = .ok (.aload_n 0, 1) := by decide +kernel
theorem dX8_has_129 : decode cX8_has 129 = .ok (.invokevirtual 260, 3) := by decide +kernel
theorem dX8_has_132 : decode cX8_has 132 = .ok (.ifCond .eq 37, 3) := by decide +kernel
theorem dX8_has_135 : decode cX8_has 135 = .ok (.iload 5, 2) := by decide +kernel
theorem dX8_has_137 : decode cX8_has 137 = .ok (.ifCond .ne 8, 3) := by decide +kernel
theorem dX8_has_140 : decode cX8_has 140 = .ok (.iload 8, 2) := by decide +kernel
theorem dX8_has_142 : decode cX8_has 142 = .ok (.ifCond .eq 7, 3) := by decide +kernel
theorem dX8_has_145 : decode cX8_has 145 = .ok (.iconst 1, 1) := by decide +kernel
theorem dX8_has_146 : decode cX8_has 146 = .ok (.goto 4, 3) := by decide +kernel
theorem dX8_has_149 : decode cX8_has 149 = .ok (.iconst 0, 1) := by decide +kernel
theorem dX8_has_150 : decode cX8_has 150 = .ok (.istore 5, 2) := by decide +kernel
theorem dX8_has_152 : decode cX8_has 152 = .ok (.iload 6, 2) := by decide +kernel
theorem dX8_has_154 : decode cX8_has 154 = .ok (.ifCond .ne 8, 3) := by decide +kernel
theorem dX8_has_157 : decode cX8_has 157 = .ok (.iload 8, 2) := by decide +kernel
theorem dX8_has_159 : decode cX8_has 159 = .ok (.ifCond .ne 7, 3) := by decide +kernel
theorem dX8_has_162 : decode cX8_has 162 = .ok (.iconst 1, 1) := by decide +kernel
theorem dX8_has_163 : decode cX8_has 163 = .ok (.goto 4, 3) := by decide +kernel
theorem dX8_has_166 : decode cX8_has 166 = .ok (.iconst 0, 1) := by decide +kernel
theorem dX8_has_167 : decode cX8_has 167 = .ok (.istore 6, 2) := by decide +kernel
theorem dX8_has_169 : decode cX8_has 169 = .ok (.aload_n 0, 1) := by decide +kernel
theorem dX8_has_170 : decode cX8_has 170 = .ok (.invokevirtual 266, 3) := by decide +kernel
theorem dX8_has_173 : decode cX8_has 173 = .ok (.istore 7, 2) := by decide +kernel
theorem dX8_has_175 : decode cX8_has 175 = .ok (.goto (-92), 3) := by decide +kernel
theorem dX8_has_178 : decode cX8_has 178 = .ok (.iload 5, 2) := by decide +kernel
theorem dX8_has_180 : decode cX8_has 180 = .ok (.ifCond .eq 16, 3) := by decide +kernel
theorem dX8_has_183 : decode cX8_has 183 = .ok (.iload 6, 2) := by decide +kernel
theorem dX8_has_185 : decode cX8_has 185 = .ok (.ifCond .eq 7, 3) := by decide +kernel
theorem dX8_has_188 : decode cX8_has 188 = .ok (.iconst 2, 1) := by decide +kernel
theorem dX8_has_189 : decode cX8_has 189 = .ok (.goto 17, 3) := by decide +kernel
theorem dX8_has_192 : decode cX8_has 192 = .ok (.iconst 1, 1) := by decide +kernel
theorem dX8_has_193 : decode cX8_has 193 = .ok (.goto 13, 3) := by decide +kernel
theorem dX8_has_196 : decode cX8_has 196 = .ok (.iload 6, 2) := by decide +kernel
theorem dX8_has_198 : decode cX8_has 198 = .ok (.ifCond .eq 7, 3) := by decide +kernel
theorem dX8_has_201 : decode cX8_has 201 = .ok (.iconst 0, 1) := by decide +kernel
theorem dX8_has_202 : decode cX8_has 202 = .ok (.goto 4, 3) := by decide +kernel
theorem dX8_has_205 : decode cX8_has 205 = .ok (.iconst 3, 1) := by decide +kernel
theorem dX8_has_206 : decode cX8_has 206 = .ok (.ireturn, 1) := by decide +kernel
theorem dX8_hasAnswer_0 : decode cX8_hasAnswer 0 = .ok (.aload_n 0, 1) := by decide +kernel
theorem dX8_hasAnswer_1 : decode cX8_hasAnswer 1 = .ok (.iload_n 1, 1) := by decide +kernel
theorem dX8_hasAnswer_2 : decode cX8_hasAnswer 2 = .ok (.invokevirtual 214, 3) := by decide +kernel
theorem dX8_hasAnswer_5 : decode cX8_hasAnswer 5 = .ok (.aload_n 0, 1) := by decide +kernel
theorem dX8_hasAnswer_6 : decode cX8_hasAnswer 6 = .ok (.invokevirtual 211, 3) := by decide +kernel
theorem dX8_hasAnswer_9 : decode cX8_hasAnswer 9 = .ok (.aload_n 0, 1) := by decide +kernel
theorem dX8_hasAnswer_10 : decode cX8_hasAnswer 10 = .ok (.getfield 197, 3) := by decide +kernel
theorem dX8_hasAnswer_13 : decode cX8_hasAnswer 13 = .ok (.ifCond .ne 7, 3) := by decide +kernel
theorem dX8_hasAnswer_16 : decode cX8_hasAnswer 16 = .ok (.iconst 1, 1) := by decide +kernel
theorem dX8_hasAnswer_17 : decode cX8_hasAnswer 17 = .ok (.goto 4, 3) := by decide +kernel
theorem dX8_hasAnswer_20 : decode cX8_hasAnswer 20 = .ok (.iconst 0, 1) := by decide +kernel
theorem dX8_hasAnswer_21 : decode cX8_hasAnswer 21 = .ok (.istore_n 2, 1) := by decide +kernel
theorem dX8_hasAnswer_22 : decode cX8_hasAnswer 22 = .ok (.aload_n 0, 1) := by decide +kernel
theorem dX8_hasAnswer_23 : decode cX8_hasAnswer 23 = .ok (.invokevirtual 257, 3) := by decide +kernel
theorem dX8_hasAnswer_26 : decode cX8_hasAnswer 26 = .ok (.iload_n 2, 1) := by decide +kernel
theorem dX8_hasAnswer_27 : decode cX8_hasAnswer 27 = .ok (.ifCond .eq 20, 3) := by decide +kernel
theorem dX8_hasAnswer_30 : decode cX8_hasAnswer 30 = .ok (.aload_n 0, 1) := by decide +kernel
theorem dX8_hasAnswer_31 : decode cX8_hasAnswer 31 = .ok (.invokevirtual 260, 3) := by decide +kernel
theorem dX8_hasAnswer_34 : decode cX8_hasAnswer 34 = .ok (.ifCond .eq 5, 3) := by decide +kernel
theorem dX8_hasAnswer_37 : decode cX8_hasAnswer 37 = .ok (.iconst 1, 1) := by decide +kernel
theorem dX8_hasAnswer_38 : decode cX8_hasAnswer 38 = .ok (.ireturn, 1) := by decide +kernel
theorem dX8_hasAnswer_39 : decode cX8_hasAnswer 39 = .ok (.aload_n 0, 1) := by decide +kernel
theorem dX8_hasAnswer_40 : decode cX8_hasAnswer 40 = .ok (.invokevirtual 266, 3) := by decide +kernel
theorem dX8_hasAnswer_43 : decode cX8_hasAnswer 43 = .ok (.istore_n 2, 1) := by decide +kernel
theorem dX8_hasAnswer_44 : decode cX8_hasAnswer 44 = .ok (.goto (-18), 3) := by decide +kernel
theorem dX8_hasAnswer_47 : decode cX8_hasAnswer 47 = .ok (.iconst 0, 1) := by decide +kernel
theorem dX8_hasAnswer_48 : decode cX8_hasAnswer 48 = .ok (.ireturn, 1) := by decide +kernel
theorem dX8_core_0 : decode cX8_core 0 = .ok (.aload_n 0, 1) := by decide +kernel
theorem dX8_core_1 : decode cX8_core 1 = .ok (.iconst 0, 1) := by decide +kernel
theorem dX8_core_2 : decode cX8_core 2 = .ok (.putfield 90, 3) := by decide +kernel
theorem dX8_core_5 : decode cX8_core 5 = .ok (.aload_n 0, 1) := by decide +kernel
theorem dX8_core_6 : decode cX8_core 6 = .ok (.iconst 1, 1) := by decide +kernel
theorem dX8_core_7 : decode cX8_core 7 = .ok (.invokevirtual 207, 3) := by decide +kernel
theorem dX8_core_10 : decode cX8_core 10 = .ok (.aload_n 0, 1) := by decide +kernel
theorem dX8_core_11 : decode cX8_core 11 = .ok (.invokevirtual 211, 3) := by decide +kernel
theorem dX8_core_14 : decode cX8_core 14 = .ok (.aload_n 0, 1) := by decide +kernel
theorem dX8_core_15 : decode cX8_core 15 = .ok (.getfield 197, 3) := by decide +kernel
theorem dX8_core_18 : decode cX8_core 18 = .ok (.ifCond .eq 9, 3) := by decide +kernel
theorem dX8_core_21 : decode cX8_core 21 = .ok (.aload_n 0, 1) := by decide +kernel
theorem dX8_core_22 : decode cX8_core 22 = .ok (.iconst 0, 1) := by decide +kernel
theorem dX8_core_23 : decode cX8_core 23 = .ok (.invokevirtual 224, 3) := by decide +kernel
theorem dX8_core_26 : decode cX8_core 26 = .ok (.ireturn, 1) := by decide +kernel
theorem dX8_core_27 : decode cX8_core 27 = .ok (.aload_n 0, 1) := by decide +kernel
theorem dX8_core_28 : decode cX8_core 28 = .ok (.invokevirtual 250, 3) := by decide +kernel
theorem dX8_core_31 : decode cX8_core 31 = .ok (.ifCond .eq 6, 3) := by decide +kernel
theorem dX8_core_34 : decode cX8_core 34 = .ok (.bipush (-5), 2) := by decide +kernel
theorem dX8_core_36 : decode cX8_core 36 = .ok (.ireturn, 1) := by decide +kernel
theorem dX8_core_37 : decode cX8_core 37 = .ok (.iconst 1, 1) := by decide +kernel
theorem dX8_core_38 : decode cX8_core 38 = .ok (.aload_n 0, 1) := by decide +kernel
theorem dX8_core_39 : decode cX8_core 39 = .ok (.getfield 109, 3) := by decide +kernel
theorem dX8_core_42 : decode cX8_core 42 = .ok (.ishl, 1) := by decide +kernel
theorem dX8_core_43 : decode cX8_core 43 = .ok (.iconst 1, 1) := by decide +kernel
theorem dX8_core_44 : decode cX8_core 44 = .ok (.isub, 1) := by decide +kernel
theorem dX8_core_45 : decode cX8_core 45 = .ok (.istore_n 1, 1) := by decide +kernel
theorem dX8_core_46 : decode cX8_core 46 = .ok (.aload_n 0, 1) := by decide +kernel
theorem dX8_core_47 : decode cX8_core 47 = .ok (.iload_n 1, 1) := by decide +kernel
theorem dX8_core_48 : decode cX8_core 48 = .ok (.invokevirtual 272, 3) := by decide +kernel
theorem dX8_core_51 : decode cX8_core 51 = .ok (.ifCond .eq 11, 3) := by decide +kernel
theorem dX8_core_54 : decode cX8_core 54 = .ok (.aload_n 0, 1) := by decide +kernel
theorem dX8_core_55 : decode cX8_core 55 = .ok (.iconst 0, 1) := by decide +kernel
theorem dX8_core_56 : decode cX8_core 56 = .ok (.putfield 218, 3) := by decide +kernel
theorem dX8_core_59 : decode cX8_core 59 = .ok (.bipush (-9), 2) := by decide +kernel
theorem dX8_core_61 : decode cX8_core 61 = .ok (.ireturn, 1) := by decide +kernel
theorem dX8_core_62 : decode cX8_core 62 = .ok (.iconst 0, 1) := by decide +kernel
theorem dX8_core_63 : decode cX8_core 63 = .ok (.istore_n 2, 1) := by decide +kernel
theorem dX8_core_64 : decode cX8_core 64 = .ok (.iload_n 2, 1) := by decide +kernel
theorem dX8_core_65 : decode cX8_core 65 = .ok (.aload_n 0, 1) := by decide +kernel
theorem dX8_core_66 : decode cX8_core 66 = .ok (.getfield 109, 3) := by decide +kernel
theorem dX8_core_69 : decode cX8_core 69 = .ok (.if_icmp .ge 31, 3) := by decide +kernel
theorem dX8_core_72 : decode cX8_core 72 = .ok (.iload_n 1, 1) := by decide +kernel
theorem dX8_core_73 : decode cX8_core 73 = .ok (.aload_n 0, 1) := by decide +kernel
theorem dX8_core_74 : decode cX8_core 74 = .ok (.iload_n 1, 1) := by decide +kernel
theorem dX8_core_75 : decode cX8_core 75 = .ok (.iconst 1, 1) := by decide +kernel
theorem dX8_core_76 : decode cX8_core 76 = .ok (.iload_n 2, 1) := by decide +kernel
theorem dX8_core_77 : decode cX8_core 77 = .ok (.ishl, 1) := by decide +kernel
theorem dX8_core_78 : decode cX8_core 78 = .ok (.isub, 1) := by decide +kernel
theorem dX8_core_79 : decode cX8_core 79 = .ok (.invokevirtual 272, 3) := by decide +kernel
theorem dX8_core_82 : decode cX8_core 82 = .ok (.ifCond .eq 7, 3) := by decide +kernel
theorem dX8_core_85 : decode cX8_core 85 = .ok (.iconst 0, 1) := by decide +kernel
theorem dX8_core_86 : decode cX8_core 86 = .ok (.goto 6, 3) := by decide +kernel
theorem dX8_core_89 : decode cX8_core 89 = .ok (.iconst 1, 1) := by decide +kernel
theorem dX8_core_90 : decode cX8_core 90 = .ok (.iload_n 2, 1) := by decide +kernel
theorem dX8_core_91 : decode cX8_core 91 = .ok (.ishl, 1) := by decide +kernel
theorem dX8_core_92 : decode cX8_core 92 = .ok (.isub, 1) := by decide +kernel
theorem dX8_core_93 : decode cX8_core 93 = .ok (.istore_n 1, 1) := by decide +kernel
theorem dX8_core_94 : decode cX8_core 94 = .ok (.iinc 2 1, 3) := by decide +kernel
theorem dX8_core_97 : decode cX8_core 97 = .ok (.goto (-33), 3) := by decide +kernel
theorem dX8_core_100 : decode cX8_core 100 = .ok (.aload_n 0, 1) := by decide +kernel
theorem dX8_core_101 : decode cX8_core 101 = .ok (.iload_n 1, 1) := by decide +kernel
theorem dX8_core_102 : decode cX8_core 102 = .ok (.invokevirtual 224, 3) := by decide +kernel
theorem dX8_core_105 : decode cX8_core 105 = .ok (.ireturn, 1) := by decide +kernel
theorem dX8_noLine_0 : decode cX8_noLine 0 = .ok (.iload_n 1, 1) := by decide +kernel
theorem dX8_noLine_1 : decode cX8_noLine 1 = .ok (.i2l, 1) := by decide +kernel
theorem dX8_noLine_2 : decode cX8_noLine 2 = .ok (.lconst 0, 1) := by decide +kernel
theorem dX8_noLine_3 : decode cX8_noLine 3 = .ok (.aload_n 0, 1) := by decide +kernel
theorem dX8_noLine_4 : decode cX8_noLine 4 = .ok (.getfield 275, 3) := by decide +kernel
theorem dX8_noLine_7 : decode cX8_noLine 7 = .ok (.iconst 1, 1) := by decide +kernel
theorem dX8_noLine_8 : decode cX8_noLine 8 = .ok (.isub, 1) := by decide +kernel
theorem dX8_noLine_9 : decode cX8_noLine 9 = .ok (.i2l, 1) := by decide +kernel
theorem dX8_noLine_10 : decode cX8_noLine 10 = .ok (.invokestatic 96, 3) := by decide +kernel
theorem dX8_noLine_13 : decode cX8_noLine 13 = .ok (.ifCond .ne 7, 3) := by decide +kernel
theorem dX8_noLine_16 : decode cX8_noLine 16 = .ok (.iconst 1, 1) := by decide +kernel
theorem dX8_noLine_17 : decode cX8_noLine 17 = .ok (.goto 4, 3) := by decide +kernel
theorem dX8_noLine_20 : decode cX8_noLine 20 = .ok (.iconst 0, 1) := by decide +kernel
theorem dX8_noLine_21 : decode cX8_noLine 21 = .ok (.ireturn, 1) := by decide +kernel
theorem dX8_line_0 : decode cX8_line 0 = .ok (.aload_n 0, 1) := by decide +kernel
theorem dX8_line_1 : decode cX8_line 1 = .ok (.iconst 0, 1) := by decide +kernel
theorem dX8_line_2 : decode cX8_line 2 = .ok (.putfield 90, 3) := by decide +kernel
theorem dX8_line_5 : decode cX8_line 5 = .ok (.iload_n 1, 1) := by decide +kernel
theorem dX8_line_6 : decode cX8_line 6 = .ok (.bipush (-9), 2) := by decide +kernel
theorem dX8_line_8 : decode cX8_line 8 = .ok (.if_icmp .eq 13, 3) := by decide +kernel
theorem dX8_line_11 : decode cX8_line 11 = .ok (.aload_n 0, 1) := by decide +kernel
theorem dX8_line_12 : decode cX8_line 12 = .ok (.iload_n 1, 1) := by decide +kernel
theorem dX8_line_13 : decode cX8_line 13 = .ok (.invokevirtual 137, 3) := by decide +kernel
theorem dX8_line_16 : decode cX8_line 16 = .ok (.ifCond .eq 5, 3) := by decide +kernel
theorem dX8_line_19 : decode cX8_line 19 = .ok (.iconst (-1), 1) := by decide +kernel
theorem dX8_line_20 : decode cX8_line 20 = .ok (.ireturn, 1) := by decide +kernel
theorem dX8_line_21 : decode cX8_line 21 = .ok (.aload_n 0, 1) := by decide +kernel
theorem dX8_line_22 : decode cX8_line 22 = .ok (.getfield 275, 3) := by decide +kernel
theorem dX8_line_25 : decode cX8_line 25 = .ok (.bipush 40, 2) := by decide +kernel
theorem dX8_line_27 : decode cX8_line 27 = .ok (.if_icmp .ne 6, 3) := by decide +kernel
theorem dX8_line_30 : decode cX8_line 30 = .ok (.bipush (-4), 2) := by decide +kernel
theorem dX8_line_32 : decode cX8_line 32 = .ok (.ireturn, 1) := by decide +kernel
theorem dX8_line_33 : decode cX8_line 33 = .ok (.aload_n 0, 1) := by decide +kernel
theorem dX8_line_34 : decode cX8_line 34 = .ok (.getfield 56, 3) := by decide +kernel
theorem dX8_line_37 : decode cX8_line 37 = .ok (.aload_n 0, 1) := by decide +kernel
theorem dX8_line_38 : decode cX8_line 38 = .ok (.getfield 275, 3) := by decide +kernel
theorem dX8_line_41 : decode cX8_line 41 = .ok (.iload_n 1, 1) := by decide +kernel
theorem dX8_line_42 : decode cX8_line 42 = .ok (.iastore, 1) := by decide +kernel
theorem dX8_line_43 : decode cX8_line 43 = .ok (.aload_n 0, 1) := by decide +kernel
theorem dX8_line_44 : decode cX8_line 44 = .ok (.getfield 59, 3) := by decide +kernel
theorem dX8_line_47 : decode cX8_line 47 = .ok (.aload_n 0, 1) := by decide +kernel
theorem dX8_line_48 : decode cX8_line 48 = .ok (.getfield 275, 3) := by decide +kernel
theorem dX8_line_51 : decode cX8_line 51 = .ok (.iconst 0, 1) := by decide +kernel
theorem dX8_line_52 : decode cX8_line 52 = .ok (.iastore, 1) := by decide +kernel
theorem dX8_line_53 : decode cX8_line 53 = .ok (.aload_n 0, 1) := by decide +kernel
theorem dX8_line_54 : decode cX8_line 54 = .ok (.dup, 1) := by decide +kernel
theorem dX8_line_55 : decode cX8_line 55 = .ok (.getfield 275, 3) := by decide +kernel
theorem dX8_line_58 : decode cX8_line 58 = .ok (.iconst 1, 1) := by decide +kernel
theorem dX8_line_59 : decode cX8_line 59 = .ok (.iadd, 1) := by decide +kernel
theorem dX8_line_60 : decode cX8_line 60 = .ok (.putfield 275, 3) := by decide +kernel
theorem dX8_line_63 : decode cX8_line 63 = .ok (.aload_n 0, 1) := by decide +kernel
theorem dX8_line_64 : decode cX8_line 64 = .ok (.getfield 275, 3) := by decide +kernel
theorem dX8_line_67 : decode cX8_line 67 = .ok (.iconst 1, 1) := by decide +kernel
theorem dX8_line_68 : decode cX8_line 68 = .ok (.isub, 1) := by decide +kernel
theorem dX8_line_69 : decode cX8_line 69 = .ok (.ireturn, 1) := by decide +kernel
theorem dX8_says_0 : decode cX8_says 0 = .ok (.aload_n 0, 1) := by decide +kernel
theorem dX8_says_1 : decode cX8_says 1 = .ok (.iconst 0, 1) := by decide +kernel
theorem dX8_says_2 : decode cX8_says 2 = .ok (.putfield 90, 3) := by decide +kernel
theorem dX8_says_5 : decode cX8_says 5 = .ok (.aload_n 0, 1) := by decide +kernel
theorem dX8_says_6 : decode cX8_says 6 = .ok (.iload_n 1, 1) := by decide +kernel
theorem dX8_says_7 : decode cX8_says 7 = .ok (.invokevirtual 278, 3) := by decide +kernel
theorem dX8_says_10 : decode cX8_says 10 = .ok (.ifCond .ne 11, 3) := by decide +kernel
theorem dX8_says_13 : decode cX8_says 13 = .ok (.aload_n 0, 1) := by decide +kernel
theorem dX8_says_14 : decode cX8_says 14 = .ok (.iload_n 2, 1) := by decide +kernel
theorem dX8_says_15 : decode cX8_says 15 = .ok (.invokevirtual 119, 3) := by decide +kernel
theorem dX8_says_18 : decode cX8_says 18 = .ok (.ifCond .eq 5, 3) := by decide +kernel
theorem dX8_says_21 : decode cX8_says 21 = .ok (.iconst (-1), 1) := by decide +kernel
theorem dX8_says_22 : decode cX8_says 22 = .ok (.ireturn, 1) := by decide +kernel
theorem dX8_says_23 : decode cX8_says 23 = .ok (.iload_n 3, 1) := by decide +kernel
theorem dX8_says_24 : decode cX8_says 24 = .ok (.i2l, 1) := by decide +kernel
theorem dX8_says_25 : decode cX8_says 25 = .ok (.lconst 0, 1) := by decide +kernel
theorem dX8_says_26 : decode cX8_says 26 = .ok (.ldc2_w 153, 3) := by decide +kernel
theorem dX8_says_29 : decode cX8_says 29 = .ok (.invokestatic 96, 3) := by decide +kernel
theorem dX8_says_32 : decode cX8_says 32 = .ok (.ifCond .eq 16, 3) := by decide +kernel
theorem dX8_says_35 : decode cX8_says 35 = .ok (.iload 4, 2) := by decide +kernel
theorem dX8_says_37 : decode cX8_says 37 = .ok (.i2l, 1) := by decide +kernel
theorem dX8_says_38 : decode cX8_says 38 = .ok (.lconst 0, 1) := by decide +kernel
theorem dX8_says_39 : decode cX8_says 39 = .ok (.ldc2_w 107, 3) := by decide +kernel
theorem dX8_says_42 : decode cX8_says 42 = .ok (.invokestatic 96, 3) := by decide +kernel
theorem dX8_says_45 : decode cX8_says 45 = .ok (.ifCond .ne 6, 3) := by decide +kernel
theorem dX8_says_48 : decode cX8_says 48 = .ok (.bipush (-2), 2) := by decide +kernel
theorem dX8_says_50 : decode cX8_says 50 = .ok (.ireturn, 1) := by decide +kernel
theorem dX8_says_51 : decode cX8_says 51 = .ok (.aload_n 0, 1) := by decide +kernel
theorem dX8_says_52 : decode cX8_says 52 = .ok (.getfield 59, 3) := by decide +kernel
theorem dX8_says_55 : decode cX8_says 55 = .ok (.iload_n 1, 1) := by decide +kernel
theorem dX8_says_56 : decode cX8_says 56 = .ok (.iaload, 1) := by decide +kernel
theorem dX8_says_57 : decode cX8_says 57 = .ok (.bipush 6, 2) := by decide +kernel
theorem dX8_says_59 : decode cX8_says 59 = .ok (.if_icmp .ne 6, 3) := by decide +kernel
theorem dX8_says_62 : decode cX8_says 62 = .ok (.bipush (-4), 2) := by decide +kernel
theorem dX8_says_64 : decode cX8_says 64 = .ok (.ireturn, 1) := by decide +kernel
theorem dX8_says_65 : decode cX8_says 65 = .ok (.aload_n 0, 1) := by decide +kernel
theorem dX8_says_66 : decode cX8_says 66 = .ok (.getfield 62, 3) := by decide +kernel
theorem dX8_says_69 : decode cX8_says 69 = .ok (.bipush 6, 2) := by decide +kernel
theorem dX8_says_71 : decode cX8_says 71 = .ok (.iload_n 1, 1) := by decide +kernel
theorem dX8_says_72 : decode cX8_says 72 = .ok (.imul, 1) := by decide +kernel
theorem dX8_says_73 : decode cX8_says 73 = .ok (.aload_n 0, 1) := by decide +kernel
theorem dX8_says_74 : decode cX8_says 74 = .ok (.getfield 59, 3) := by decide +kernel
theorem dX8_says_77 : decode cX8_says 77 = .ok (.iload_n 1, 1) := by decide +kernel
theorem dX8_says_78 : decode cX8_says 78 = .ok (.iaload, 1) := by decide +kernel
theorem dX8_says_79 : decode cX8_says 79 = .ok (.iadd, 1) := by decide +kernel
theorem dX8_says_80 : decode cX8_says 80 = .ok (.iload_n 2, 1) := by decide +kernel
theorem dX8_says_81 : decode cX8_says 81 = .ok (.iastore, 1) := by decide +kernel
theorem dX8_says_82 : decode cX8_says 82 = .ok (.aload_n 0, 1) := by decide +kernel
theorem dX8_says_83 : decode cX8_says 83 = .ok (.getfield 65, 3) := by decide +kernel
theorem dX8_says_86 : decode cX8_says 86 = .ok (.bipush 6, 2) := by decide +kernel
theorem dX8_says_88 : decode cX8_says 88 = .ok (.iload_n 1, 1) := by decide +kernel
theorem dX8_says_89 : decode cX8_says 89 = .ok (.imul, 1) := by decide +kernel
theorem dX8_says_90 : decode cX8_says 90 = .ok (.aload_n 0, 1) := by decide +kernel
theorem dX8_says_91 : decode cX8_says 91 = .ok (.getfield 59, 3) := by decide +kernel
theorem dX8_says_94 : decode cX8_says 94 = .ok (.iload_n 1, 1) := by decide +kernel
theorem dX8_says_95 : decode cX8_says 95 = .ok (.iaload, 1) := by decide +kernel
theorem dX8_says_96 : decode cX8_says 96 = .ok (.iadd, 1) := by decide +kernel
theorem dX8_says_97 : decode cX8_says 97 = .ok (.iload_n 3, 1) := by decide +kernel
theorem dX8_says_98 : decode cX8_says 98 = .ok (.iload 4, 2) := by decide +kernel
theorem dX8_says_100 : decode cX8_says 100 = .ok (.invokestatic 112, 3) := by decide +kernel
theorem dX8_says_103 : decode cX8_says 103 = .ok (.iastore, 1) := by decide +kernel
theorem dX8_says_104 : decode cX8_says 104 = .ok (.aload_n 0, 1) := by decide +kernel
theorem dX8_says_105 : decode cX8_says 105 = .ok (.getfield 59, 3) := by decide +kernel
theorem dX8_says_108 : decode cX8_says 108 = .ok (.iload_n 1, 1) := by decide +kernel
theorem dX8_says_109 : decode cX8_says 109 = .ok (.dup2, 1) := by decide +kernel
theorem dX8_says_110 : decode cX8_says 110 = .ok (.iaload, 1) := by decide +kernel
theorem dX8_says_111 : decode cX8_says 111 = .ok (.iconst 1, 1) := by decide +kernel
theorem dX8_says_112 : decode cX8_says 112 = .ok (.iadd, 1) := by decide +kernel
theorem dX8_says_113 : decode cX8_says 113 = .ok (.iastore, 1) := by decide +kernel
theorem dX8_says_114 : decode cX8_says 114 = .ok (.aload_n 0, 1) := by decide +kernel
theorem dX8_says_115 : decode cX8_says 115 = .ok (.getfield 59, 3) := by decide +kernel
theorem dX8_says_118 : decode cX8_says 118 = .ok (.iload_n 1, 1) := by decide +kernel
theorem dX8_says_119 : decode cX8_says 119 = .ok (.iaload, 1) := by decide +kernel
theorem dX8_says_120 : decode cX8_says 120 = .ok (.ireturn, 1) := by decide +kernel
theorem dX8_forge_0 : decode cX8_forge 0 = .ok (.aload_n 0, 1) := by decide +kernel
theorem dX8_forge_1 : decode cX8_forge 1 = .ok (.iconst 0, 1) := by decide +kernel
theorem dX8_forge_2 : decode cX8_forge 2 = .ok (.putfield 90, 3) := by decide +kernel
theorem dX8_forge_5 : decode cX8_forge 5 = .ok (.aload_n 0, 1) := by decide +kernel
theorem dX8_forge_6 : decode cX8_forge 6 = .ok (.iload_n 1, 1) := by decide +kernel
theorem dX8_forge_7 : decode cX8_forge 7 = .ok (.invokevirtual 278, 3) := by decide +kernel
theorem dX8_forge_10 : decode cX8_forge 10 = .ok (.ifCond .ne 21, 3) := by decide +kernel
theorem dX8_forge_13 : decode cX8_forge 13 = .ok (.iload_n 2, 1) := by decide +kernel
theorem dX8_forge_14 : decode cX8_forge 14 = .ok (.i2l, 1) := by decide +kernel
theorem dX8_forge_15 : decode cX8_forge 15 = .ok (.lconst 0, 1) := by decide +kernel
theorem dX8_forge_16 : decode cX8_forge 16 = .ok (.aload_n 0, 1) := by decide +kernel
theorem dX8_forge_17 : decode cX8_forge 17 = .ok (.getfield 59, 3) := by decide +kernel
theorem dX8_forge_20 : decode cX8_forge 20 = .ok (.iload_n 1, 1) := by decide +kernel
theorem dX8_forge_21 : decode cX8_forge 21 = .ok (.iaload, 1) := by decide +kernel
theorem dX8_forge_22 : decode cX8_forge 22 = .ok (.iconst 1, 1) := by decide +kernel
theorem dX8_forge_23 : decode cX8_forge 23 = .ok (.isub, 1) := by decide +kernel
theorem dX8_forge_24 : decode cX8_forge 24 = .ok (.i2l, 1) := by decide +kernel
theorem dX8_forge_25 : decode cX8_forge 25 = .ok (.invokestatic 96, 3) := by decide +kernel
theorem dX8_forge_28 : decode cX8_forge 28 = .ok (.ifCond .ne 5, 3) := by decide +kernel
theorem dX8_forge_31 : decode cX8_forge 31 = .ok (.iconst (-1), 1) := by decide +kernel
theorem dX8_forge_32 : decode cX8_forge 32 = .ok (.ireturn, 1) := by decide +kernel
theorem dX8_forge_33 : decode cX8_forge 33 = .ok (.iload_n 3, 1) := by decide +kernel
theorem dX8_forge_34 : decode cX8_forge 34 = .ok (.i2l, 1) := by decide +kernel
theorem dX8_forge_35 : decode cX8_forge 35 = .ok (.lconst 0, 1) := by decide +kernel
theorem dX8_forge_36 : decode cX8_forge 36 = .ok (.ldc2_w 153, 3) := by decide +kernel
theorem dX8_forge_39 : decode cX8_forge 39 = .ok (.invokestatic 96, 3) := by decide +kernel
theorem dX8_forge_42 : decode cX8_forge 42 = .ok (.ifCond .eq 16, 3) := by decide +kernel
theorem dX8_forge_45 : decode cX8_forge 45 = .ok (.iload 4, 2) := by decide +kernel
theorem dX8_forge_47 : decode cX8_forge 47 = .ok (.i2l, 1) := by decide +kernel
theorem dX8_forge_48 : decode cX8_forge 48 = .ok (.lconst 0, 1) := by decide +kernel
theorem dX8_forge_49 : decode cX8_forge 49 = .ok (.ldc2_w 107, 3) := by decide +kernel
theorem dX8_forge_52 : decode cX8_forge 52 = .ok (.invokestatic 96, 3) := by decide +kernel
theorem dX8_forge_55 : decode cX8_forge 55 = .ok (.ifCond .ne 6, 3) := by decide +kernel
theorem dX8_forge_58 : decode cX8_forge 58 = .ok (.bipush (-2), 2) := by decide +kernel
theorem dX8_forge_60 : decode cX8_forge 60 = .ok (.ireturn, 1) := by decide +kernel
theorem dX8_forge_61 : decode cX8_forge 61 = .ok (.aload_n 0, 1) := by decide +kernel
theorem dX8_forge_62 : decode cX8_forge 62 = .ok (.getfield 65, 3) := by decide +kernel
theorem dX8_forge_65 : decode cX8_forge 65 = .ok (.bipush 6, 2) := by decide +kernel
theorem dX8_forge_67 : decode cX8_forge 67 = .ok (.iload_n 1, 1) := by decide +kernel
theorem dX8_forge_68 : decode cX8_forge 68 = .ok (.imul, 1) := by decide +kernel
theorem dX8_forge_69 : decode cX8_forge 69 = .ok (.iload_n 2, 1) := by decide +kernel
theorem dX8_forge_70 : decode cX8_forge 70 = .ok (.iadd, 1) := by decide +kernel
theorem dX8_forge_71 : decode cX8_forge 71 = .ok (.iload_n 3, 1) := by decide +kernel
theorem dX8_forge_72 : decode cX8_forge 72 = .ok (.iload 4, 2) := by decide +kernel
theorem dX8_forge_74 : decode cX8_forge 74 = .ok (.invokestatic 112, 3) := by decide +kernel
theorem dX8_forge_77 : decode cX8_forge 77 = .ok (.iastore, 1) := by decide +kernel
theorem dX8_forge_78 : decode cX8_forge 78 = .ok (.iconst 1, 1) := by decide +kernel
theorem dX8_forge_79 : decode cX8_forge 79 = .ok (.ireturn, 1) := by decide +kernel
theorem dX8_byRule_0 : decode cX8_byRule 0 = .ok (.aload_n 0, 1) := by decide +kernel
theorem dX8_byRule_1 : decode cX8_byRule 1 = .ok (.getfield 56, 3) := by decide +kernel
theorem dX8_byRule_4 : decode cX8_byRule 4 = .ok (.iload_n 1, 1) := by decide +kernel
theorem dX8_byRule_5 : decode cX8_byRule 5 = .ok (.iaload, 1) := by decide +kernel
theorem dX8_byRule_6 : decode cX8_byRule 6 = .ok (.istore_n 2, 1) := by decide +kernel
theorem dX8_byRule_7 : decode cX8_byRule 7 = .ok (.aload_n 0, 1) := by decide +kernel
theorem dX8_byRule_8 : decode cX8_byRule 8 = .ok (.getfield 34, 3) := by decide +kernel
theorem dX8_byRule_11 : decode cX8_byRule 11 = .ok (.iload_n 2, 1) := by decide +kernel
theorem dX8_byRule_12 : decode cX8_byRule 12 = .ok (.baload, 1) := by decide +kernel
theorem dX8_byRule_13 : decode cX8_byRule 13 = .ok (.ifCond .ne 5, 3) := by decide +kernel
theorem dX8_byRule_16 : decode cX8_byRule 16 = .ok (.iconst 0, 1) := by decide +kernel
theorem dX8_byRule_17 : decode cX8_byRule 17 = .ok (.ireturn, 1) := by decide +kernel
theorem dX8_byRule_18 : decode cX8_byRule 18 = .ok (.iconst 0, 1) := by decide +kernel
theorem dX8_byRule_19 : decode cX8_byRule 19 = .ok (.istore_n 3, 1) := by decide +kernel
theorem dX8_byRule_20 : decode cX8_byRule 20 = .ok (.iload_n 3, 1) := by decide +kernel
theorem dX8_byRule_21 : decode cX8_byRule 21 = .ok (.aload_n 0, 1) := by decide +kernel
theorem dX8_byRule_22 : decode cX8_byRule 22 = .ok (.getfield 93, 3) := by decide +kernel
theorem dX8_byRule_25 : decode cX8_byRule 25 = .ok (.if_icmp .ge 135, 3) := by decide +kernel
theorem dX8_byRule_28 : decode cX8_byRule 28 = .ok (.iconst 0, 1) := by decide +kernel
theorem dX8_byRule_29 : decode cX8_byRule 29 = .ok (.istore 4, 2) := by decide +kernel
theorem dX8_byRule_31 : decode cX8_byRule 31 = .ok (.bipush 6, 2) := by decide +kernel
theorem dX8_byRule_33 : decode cX8_byRule 33 = .ok (.iload_n 2, 1) := by decide +kernel
theorem dX8_byRule_34 : decode cX8_byRule 34 = .ok (.imul, 1) := by decide +kernel
theorem dX8_byRule_35 : decode cX8_byRule 35 = .ok (.istore 5, 2) := by decide +kernel
theorem dX8_byRule_37 : decode cX8_byRule 37 = .ok (.iload 5, 2) := by decide +kernel
theorem dX8_byRule_39 : decode cX8_byRule 39 = .ok (.bipush 6, 2) := by decide +kernel
theorem dX8_byRule_41 : decode cX8_byRule 41 = .ok (.iload_n 2, 1) := by decide +kernel
theorem dX8_byRule_42 : decode cX8_byRule 42 = .ok (.imul, 1) := by decide +kernel
theorem dX8_byRule_43 : decode cX8_byRule 43 = .ok (.aload_n 0, 1) := by decide +kernel
theorem dX8_byRule_44 : decode cX8_byRule 44 = .ok (.getfield 38, 3) := by decide +kernel
theorem dX8_byRule_47 : decode cX8_byRule 47 = .ok (.iload_n 2, 1) := by decide +kernel
theorem dX8_byRule_48 : decode cX8_byRule 48 = .ok (.iaload, 1) := by decide +kernel
theorem dX8_byRule_49 : decode cX8_byRule 49 = .ok (.iadd, 1) := by decide +kernel
theorem dX8_byRule_50 : decode cX8_byRule 50 = .ok (.if_icmp .ge 32, 3) := by decide +kernel
theorem dX8_byRule_53 : decode cX8_byRule 53 = .ok (.iload 4, 2) := by decide +kernel
theorem dX8_byRule_55 : decode cX8_byRule 55 = .ok (.ifCond .ne 14, 3) := by decide +kernel
theorem dX8_byRule_58 : decode cX8_byRule 58 = .ok (.aload_n 0, 1) := by decide +kernel
theorem dX8_byRule_59 : decode cX8_byRule 59 = .ok (.getfield 41, 3) := by decide +kernel
theorem dX8_byRule_62 : decode cX8_byRule 62 = .ok (.iload 5, 2) := by decide +kernel
theorem dX8_byRule_64 : decode cX8_byRule 64 = .ok (.iaload, 1) := by decide +kernel
theorem dX8_byRule_65 : decode cX8_byRule 65 = .ok (.iload_n 3, 1) := by decide +kernel
theorem dX8_byRule_66 : decode cX8_byRule 66 = .ok (.if_icmp .ne 7, 3) := by decide +kernel
theorem dX8_byRule_69 : decode cX8_byRule 69 = .ok (.iconst 1, 1) := by decide +kernel
theorem dX8_byRule_70 : decode cX8_byRule 70 = .ok (.goto 4, 3) := by decide +kernel
theorem dX8_byRule_73 : decode cX8_byRule 73 = .ok (.iconst 0, 1) := by decide +kernel
theorem dX8_byRule_74 : decode cX8_byRule 74 = .ok (.istore 4, 2) := by decide +kernel
theorem dX8_byRule_76 : decode cX8_byRule 76 = .ok (.iinc 5 1, 3) := by decide +kernel
theorem dX8_byRule_79 : decode cX8_byRule 79 = .ok (.goto (-42), 3) := by decide +kernel
theorem dX8_byRule_82 : decode cX8_byRule 82 = .ok (.bipush 6, 2) := by decide +kernel
theorem dX8_byRule_84 : decode cX8_byRule 84 = .ok (.iload_n 1, 1) := by decide +kernel
theorem dX8_byRule_85 : decode cX8_byRule 85 = .ok (.imul, 1) := by decide +kernel
theorem dX8_byRule_86 : decode cX8_byRule 86 = .ok (.istore 5, 2) := by decide +kernel
theorem dX8_byRule_88 : decode cX8_byRule 88 = .ok (.iload 5, 2) := by decide +kernel
theorem dX8_byRule_90 : decode cX8_byRule 90 = .ok (.bipush 6, 2) := by decide +kernel
theorem dX8_byRule_92 : decode cX8_byRule 92 = .ok (.iload_n 1, 1) := by decide +kernel
theorem dX8_byRule_93 : decode cX8_byRule 93 = .ok (.imul, 1) := by decide +kernel
theorem dX8_byRule_94 : decode cX8_byRule 94 = .ok (.aload_n 0, 1) := by decide +kernel
theorem dX8_byRule_95 : decode cX8_byRule 95 = .ok (.getfield 59, 3) := by decide +kernel
theorem dX8_byRule_98 : decode cX8_byRule 98 = .ok (.iload_n 1, 1) := by decide +kernel
theorem dX8_byRule_99 : decode cX8_byRule 99 = .ok (.iaload, 1) := by decide +kernel
theorem dX8_byRule_100 : decode cX8_byRule 100 = .ok (.iadd, 1) := by decide +kernel
theorem dX8_byRule_101 : decode cX8_byRule 101 = .ok (.if_icmp .ge 32, 3) := by decide +kernel
theorem dX8_byRule_104 : decode cX8_byRule 104 = .ok (.iload 4, 2) := by decide +kernel
theorem dX8_byRule_106 : decode cX8_byRule 106 = .ok (.ifCond .ne 14, 3) := by decide +kernel
theorem dX8_byRule_109 : decode cX8_byRule 109 = .ok (.aload_n 0, 1) := by decide +kernel
theorem dX8_byRule_110 : decode cX8_byRule 110 = .ok (.getfield 62, 3) := by decide +kernel
theorem dX8_byRule_113 : decode cX8_byRule 113 = .ok (.iload 5, 2) := by decide +kernel
theorem dX8_byRule_115 : decode cX8_byRule 115 = .ok (.iaload, 1) := by decide +kernel
theorem dX8_byRule_116 : decode cX8_byRule 116 = .ok (.iload_n 3, 1) := by decide +kernel
theorem dX8_byRule_117 : decode cX8_byRule 117 = .ok (.if_icmp .ne 7, 3) := by decide +kernel
theorem dX8_byRule_120 : decode cX8_byRule 120 = .ok (.iconst 1, 1) := by decide +kernel
theorem dX8_byRule_121 : decode cX8_byRule 121 = .ok (.goto 4, 3) := by decide +kernel
theorem dX8_byRule_124 : decode cX8_byRule 124 = .ok (.iconst 0, 1) := by decide +kernel
theorem dX8_byRule_125 : decode cX8_byRule 125 = .ok (.istore 4, 2) := by decide +kernel
theorem dX8_byRule_127 : decode cX8_byRule 127 = .ok (.iinc 5 1, 3) := by decide +kernel
theorem dX8_byRule_130 : decode cX8_byRule 130 = .ok (.goto (-42), 3) := by decide +kernel
theorem dX8_byRule_133 : decode cX8_byRule 133 = .ok (.aload_n 0, 1) := by decide +kernel
theorem dX8_byRule_134 : decode cX8_byRule 134 = .ok (.getfield 78, 3) := by decide +kernel
theorem dX8_byRule_137 : decode cX8_byRule 137 = .ok (.iload_n 3, 1) := by decide +kernel
theorem dX8_byRule_138 : decode cX8_byRule 138 = .ok (.iload 4, 2) := by decide +kernel
theorem dX8_byRule_140 : decode cX8_byRule 140 = .ok (.ifCond .eq 12, 3) := by decide +kernel
theorem dX8_byRule_143 : decode cX8_byRule 143 = .ok (.aload_n 0, 1) := by decide +kernel
theorem dX8_byRule_144 : decode cX8_byRule 144 = .ok (.getfield 7, 3) := by decide +kernel
theorem dX8_byRule_147 : decode cX8_byRule 147 = .ok (.iload_n 3, 1) := by decide +kernel
theorem dX8_byRule_148 : decode cX8_byRule 148 = .ok (.iaload, 1) := by decide +kernel
theorem dX8_byRule_149 : decode cX8_byRule 149 = .ok (.goto 4, 3) := by decide +kernel
theorem dX8_byRule_152 : decode cX8_byRule 152 = .ok (.iconst 1, 1) := by decide +kernel
theorem dX8_byRule_153 : decode cX8_byRule 153 = .ok (.iastore, 1) := by decide +kernel
theorem dX8_byRule_154 : decode cX8_byRule 154 = .ok (.iinc 3 1, 3) := by decide +kernel
theorem dX8_byRule_157 : decode cX8_byRule 157 = .ok (.goto (-137), 3) := by decide +kernel
theorem dX8_byRule_160 : decode cX8_byRule 160 = .ok (.aload_n 0, 1) := by decide +kernel
theorem dX8_byRule_161 : decode cX8_byRule 161 = .ok (.invokevirtual 250, 3) := by decide +kernel
theorem dX8_byRule_164 : decode cX8_byRule 164 = .ok (.ifCond .eq 6, 3) := by decide +kernel
theorem dX8_byRule_167 : decode cX8_byRule 167 = .ok (.bipush (-5), 2) := by decide +kernel
theorem dX8_byRule_169 : decode cX8_byRule 169 = .ok (.ireturn, 1) := by decide +kernel
theorem dX8_byRule_170 : decode cX8_byRule 170 = .ok (.aload_n 0, 1) := by decide +kernel
theorem dX8_byRule_171 : decode cX8_byRule 171 = .ok (.invokevirtual 257, 3) := by decide +kernel
theorem dX8_byRule_174 : decode cX8_byRule 174 = .ok (.iconst 1, 1) := by decide +kernel
theorem dX8_byRule_175 : decode cX8_byRule 175 = .ok (.istore_n 3, 1) := by decide +kernel
theorem dX8_byRule_176 : decode cX8_byRule 176 = .ok (.iload_n 3, 1) := by decide +kernel
theorem dX8_byRule_177 : decode cX8_byRule 177 = .ok (.ifCond .eq 94, 3) := by decide +kernel
theorem dX8_byRule_180 : decode cX8_byRule 180 = .ok (.iconst 1, 1) := by decide +kernel
theorem dX8_byRule_181 : decode cX8_byRule 181 = .ok (.istore 4, 2) := by decide +kernel
theorem dX8_byRule_183 : decode cX8_byRule 183 = .ok (.bipush 6, 2) := by decide +kernel
theorem dX8_byRule_185 : decode cX8_byRule 185 = .ok (.iload_n 1, 1) := by decide +kernel
theorem dX8_byRule_186 : decode cX8_byRule 186 = .ok (.imul, 1) := by decide +kernel
theorem dX8_byRule_187 : decode cX8_byRule 187 = .ok (.istore 5, 2) := by decide +kernel
theorem dX8_byRule_189 : decode cX8_byRule 189 = .ok (.iload 5, 2) := by decide +kernel
theorem dX8_byRule_191 : decode cX8_byRule 191 = .ok (.bipush 6, 2) := by decide +kernel
theorem dX8_byRule_193 : decode cX8_byRule 193 = .ok (.iload_n 1, 1) := by decide +kernel
theorem dX8_byRule_194 : decode cX8_byRule 194 = .ok (.imul, 1) := by decide +kernel
theorem dX8_byRule_195 : decode cX8_byRule 195 = .ok (.aload_n 0, 1) := by decide +kernel
theorem dX8_byRule_196 : decode cX8_byRule 196 = .ok (.getfield 59, 3) := by decide +kernel
theorem dX8_byRule_199 : decode cX8_byRule 199 = .ok (.iload_n 1, 1) := by decide +kernel
theorem dX8_byRule_200 : decode cX8_byRule 200 = .ok (.iaload, 1) := by decide +kernel
theorem dX8_byRule_201 : decode cX8_byRule 201 = .ok (.iadd, 1) := by decide +kernel
theorem dX8_byRule_202 : decode cX8_byRule 202 = .ok (.if_icmp .ge 46, 3) := by decide +kernel
theorem dX8_byRule_205 : decode cX8_byRule 205 = .ok (.iload 4, 2) := by decide +kernel
theorem dX8_byRule_207 : decode cX8_byRule 207 = .ok (.ifCond .eq 32, 3) := by decide +kernel
theorem dX8_byRule_210 : decode cX8_byRule 210 = .ok (.aload_n 0, 1) := by decide +kernel
theorem dX8_byRule_211 : decode cX8_byRule 211 = .ok (.getfield 65, 3) := by decide +kernel
theorem dX8_byRule_214 : decode cX8_byRule 214 = .ok (.iload 5, 2) := by decide +kernel
theorem dX8_byRule_216 : decode cX8_byRule 216 = .ok (.iaload, 1) := by decide +kernel
theorem dX8_byRule_217 : decode cX8_byRule 217 = .ok (.aload_n 0, 1) := by decide +kernel
theorem dX8_byRule_218 : decode cX8_byRule 218 = .ok (.getfield 87, 3) := by decide +kernel
theorem dX8_byRule_221 : decode cX8_byRule 221 = .ok (.aload_n 0, 1) := by decide +kernel
theorem dX8_byRule_222 : decode cX8_byRule 222 = .ok (.getfield 62, 3) := by decide +kernel
theorem dX8_byRule_225 : decode cX8_byRule 225 = .ok (.iload 5, 2) := by decide +kernel
theorem dX8_byRule_227 : decode cX8_byRule 227 = .ok (.iaload, 1) := by decide +kernel
theorem dX8_byRule_228 : decode cX8_byRule 228 = .ok (.iaload, 1) := by decide +kernel
theorem dX8_byRule_229 : decode cX8_byRule 229 = .ok (.ishr, 1) := by decide +kernel
theorem dX8_byRule_230 : decode cX8_byRule 230 = .ok (.iconst 1, 1) := by decide +kernel
theorem dX8_byRule_231 : decode cX8_byRule 231 = .ok (.iand, 1) := by decide +kernel
theorem dX8_byRule_232 : decode cX8_byRule 232 = .ok (.ifCond .ne 7, 3) := by decide +kernel
theorem dX8_byRule_235 : decode cX8_byRule 235 = .ok (.iconst 1, 1) := by decide +kernel
theorem dX8_byRule_236 : decode cX8_byRule 236 = .ok (.goto 4, 3) := by decide +kernel
theorem dX8_byRule_239 : decode cX8_byRule 239 = .ok (.iconst 0, 1) := by decide +kernel
theorem dX8_byRule_240 : decode cX8_byRule 240 = .ok (.istore 4, 2) := by decide +kernel
theorem dX8_byRule_242 : decode cX8_byRule 242 = .ok (.iinc 5 1, 3) := by decide +kernel
theorem dX8_byRule_245 : decode cX8_byRule 245 = .ok (.goto (-56), 3) := by decide +kernel
theorem dX8_byRule_248 : decode cX8_byRule 248 = .ok (.iload 4, 2) := by decide +kernel
theorem dX8_byRule_250 : decode cX8_byRule 250 = .ok (.ifCond .eq 13, 3) := by decide +kernel
theorem dX8_byRule_253 : decode cX8_byRule 253 = .ok (.aload_n 0, 1) := by decide +kernel
theorem dX8_byRule_254 : decode cX8_byRule 254 = .ok (.iload_n 2, 1) := by decide +kernel
theorem dX8_byRule_255 : decode cX8_byRule 255 = .ok (.invokevirtual 245, 3) := by decide +kernel
theorem dX8_byRule_258 : decode cX8_byRule 258 = .ok (.ifCond .eq 5, 3) := by decide +kernel
theorem dX8_byRule_261 : decode cX8_byRule 261 = .ok (.iconst 0, 1) := by decide +kernel
theorem dX8_byRule_262 : decode cX8_byRule 262 = .ok (.ireturn, 1) := by decide +kernel
theorem dX8_byRule_263 : decode cX8_byRule 263 = .ok (.aload_n 0, 1) := by decide +kernel
theorem dX8_byRule_264 : decode cX8_byRule 264 = .ok (.invokevirtual 266, 3) := by decide +kernel
theorem dX8_byRule_267 : decode cX8_byRule 267 = .ok (.istore_n 3, 1) := by decide +kernel
theorem dX8_byRule_268 : decode cX8_byRule 268 = .ok (.goto (-92), 3) := by decide +kernel
theorem dX8_byRule_271 : decode cX8_byRule 271 = .ok (.iconst 1, 1) := by decide +kernel
theorem dX8_byRule_272 : decode cX8_byRule 272 = .ok (.ireturn, 1) := by decide +kernel
theorem dX8_takesByLine_0 : decode cX8_takesByLine 0 = .ok (.iconst 0, 1) := by decide +kernel
theorem dX8_takesByLine_1 : decode cX8_takesByLine 1 = .ok (.istore_n 2, 1) := by decide +kernel
theorem dX8_takesByLine_2 : decode cX8_takesByLine 2 = .ok (.bipush 6, 2) := by decide +kernel
theorem dX8_takesByLine_4 : decode cX8_takesByLine 4 = .ok (.iload_n 1, 1) := by decide +kernel
theorem dX8_takesByLine_5 : decode cX8_takesByLine 5 = .ok (.imul, 1) := by decide +kernel
theorem dX8_takesByLine_6 : decode cX8_takesByLine 6 = .ok (.istore_n 3, 1) := by decide +kernel
theorem dX8_takesByLine_7 : decode cX8_takesByLine 7 = .ok (.iload_n 3, 1) := by decide +kernel
theorem dX8_takesByLine_8 : decode cX8_takesByLine 8 = .ok (.bipush 6, 2) := by decide +kernel
theorem dX8_takesByLine_10 : decode cX8_takesByLine 10 = .ok (.iload_n 1, 1) := by decide +kernel
theorem dX8_takesByLine_11 : decode cX8_takesByLine 11 = .ok (.imul, 1) := by decide +kernel
theorem dX8_takesByLine_12 : decode cX8_takesByLine 12 = .ok (.aload_n 0, 1) := by decide +kernel
theorem dX8_takesByLine_13 : decode cX8_takesByLine 13 = .ok (.getfield 59, 3) := by decide +kernel
theorem dX8_takesByLine_16 : decode cX8_takesByLine 16 = .ok (.iload_n 1, 1) := by decide +kernel
theorem dX8_takesByLine_17 : decode cX8_takesByLine 17 = .ok (.iaload, 1) := by decide +kernel
theorem dX8_takesByLine_18 : decode cX8_takesByLine 18 = .ok (.iadd, 1) := by decide +kernel
theorem dX8_takesByLine_19 : decode cX8_takesByLine 19 = .ok (.if_icmp .ge 191, 3) := by decide +kernel
theorem dX8_takesByLine_22 : decode cX8_takesByLine 22 = .ok (.aload_n 0, 1) := by decide +kernel
theorem dX8_takesByLine_23 : decode cX8_takesByLine 23 = .ok (.getfield 62, 3) := by decide +kernel
theorem dX8_takesByLine_26 : decode cX8_takesByLine 26 = .ok (.iload_n 3, 1) := by decide +kernel
theorem dX8_takesByLine_27 : decode cX8_takesByLine 27 = .ok (.iaload, 1) := by decide +kernel
theorem dX8_takesByLine_28 : decode cX8_takesByLine 28 = .ok (.istore 4, 2) := by decide +kernel
theorem dX8_takesByLine_30 : decode cX8_takesByLine 30 = .ok (.aload_n 0, 1) := by decide +kernel
theorem dX8_takesByLine_31 : decode cX8_takesByLine 31 = .ok (.getfield 78, 3) := by decide +kernel
theorem dX8_takesByLine_34 : decode cX8_takesByLine 34 = .ok (.iload 4, 2) := by decide +kernel
theorem dX8_takesByLine_36 : decode cX8_takesByLine 36 = .ok (.iaload, 1) := by decide +kernel
theorem dX8_takesByLine_37 : decode cX8_takesByLine 37 = .ok (.istore 5, 2) := by decide +kernel
theorem dX8_takesByLine_39 : decode cX8_takesByLine 39 = .ok (.iconst 1, 1) := by decide +kernel
theorem dX8_takesByLine_40 : decode cX8_takesByLine 40 = .ok (.istore 6, 2) := by decide +kernel
theorem dX8_takesByLine_42 : decode cX8_takesByLine 42 = .ok (.iconst 0, 1) := by decide +kernel
theorem dX8_takesByLine_43 : decode cX8_takesByLine 43 = .ok (.istore 7, 2) := by decide +kernel
theorem dX8_takesByLine_45 : decode cX8_takesByLine 45 = .ok (.bipush 6, 2) := by decide +kernel
theorem dX8_takesByLine_47 : decode cX8_takesByLine 47 = .ok (.iload_n 1, 1) := by decide +kernel
theorem dX8_takesByLine_48 : decode cX8_takesByLine 48 = .ok (.imul, 1) := by decide +kernel
theorem dX8_takesByLine_49 : decode cX8_takesByLine 49 = .ok (.istore 8, 2) := by decide +kernel
theorem dX8_takesByLine_51 : decode cX8_takesByLine 51 = .ok (.iload 8, 2) := by decide +kernel
theorem dX8_takesByLine_53 : decode cX8_takesByLine 53 = .ok (.bipush 6, 2) := by decide +kernel
theorem dX8_takesByLine_55 : decode cX8_takesByLine 55 = .ok (.iload_n 1, 1) := by decide +kernel
theorem dX8_takesByLine_56 : decode cX8_takesByLine 56 = .ok (.imul, 1) := by decide +kernel
theorem dX8_takesByLine_57 : decode cX8_takesByLine 57 = .ok (.aload_n 0, 1) := by decide +kernel
theorem dX8_takesByLine_58 : decode cX8_takesByLine 58 = .ok (.getfield 59, 3) := by decide +kernel
theorem dX8_takesByLine_61 : decode cX8_takesByLine 61 = .ok (.iload_n 1, 1) := by decide +kernel
theorem dX8_takesByLine_62 : decode cX8_takesByLine 62 = .ok (.iaload, 1) := by decide +kernel
theorem dX8_takesByLine_63 : decode cX8_takesByLine 63 = .ok (.iadd, 1) := by decide +kernel
theorem dX8_takesByLine_64 : decode cX8_takesByLine 64 = .ok (.if_icmp .ge 71, 3) := by decide +kernel
theorem dX8_takesByLine_67 : decode cX8_takesByLine 67 = .ok (.aload_n 0, 1) := by decide +kernel
theorem dX8_takesByLine_68 : decode cX8_takesByLine 68 = .ok (.getfield 62, 3) := by decide +kernel
theorem dX8_takesByLine_71 : decode cX8_takesByLine 71 = .ok (.iload 8, 2) := by decide +kernel
theorem dX8_takesByLine_73 : decode cX8_takesByLine 73 = .ok (.iaload, 1) := by decide +kernel
theorem dX8_takesByLine_74 : decode cX8_takesByLine 74 = .ok (.iload 4, 2) := by decide +kernel
theorem dX8_takesByLine_76 : decode cX8_takesByLine 76 = .ok (.if_icmp .ne 18, 3) := by decide +kernel
theorem dX8_takesByLine_79 : decode cX8_takesByLine 79 = .ok (.iload 7, 2) := by decide +kernel
theorem dX8_takesByLine_81 : decode cX8_takesByLine 81 = .ok (.aload_n 0, 1) := by decide +kernel
theorem dX8_takesByLine_82 : decode cX8_takesByLine 82 = .ok (.getfield 65, 3) := by decide +kernel
theorem dX8_takesByLine_85 : decode cX8_takesByLine 85 = .ok (.iload 8, 2) := by decide +kernel
theorem dX8_takesByLine_87 : decode cX8_takesByLine 87 = .ok (.iaload, 1) := by decide +kernel
theorem dX8_takesByLine_88 : decode cX8_takesByLine 88 = .ok (.ior, 1) := by decide +kernel
theorem dX8_takesByLine_89 : decode cX8_takesByLine 89 = .ok (.istore 7, 2) := by decide +kernel
theorem dX8_takesByLine_91 : decode cX8_takesByLine 91 = .ok (.goto 38, 3) := by decide +kernel
theorem dX8_takesByLine_94 : decode cX8_takesByLine 94 = .ok (.iload 6, 2) := by decide +kernel
theorem dX8_takesByLine_96 : decode cX8_takesByLine 96 = .ok (.ifCond .eq 30, 3) := by decide +kernel
theorem dX8_takesByLine_99 : decode cX8_takesByLine 99 = .ok (.aload_n 0, 1) := by decide +kernel
theorem dX8_takesByLine_100 : decode cX8_takesByLine 100 = .ok (.getfield 78, 3) := by decide +kernel
theorem dX8_takesByLine_103 : decode cX8_takesByLine 103 = .ok (.aload_n 0, 1) := by decide +kernel
theorem dX8_takesByLine_104 : decode cX8_takesByLine 104 = .ok (.getfield 62, 3) := by decide +kernel
theorem dX8_takesByLine_107 : decode cX8_takesByLine 107 = .ok (.iload 8, 2) := by decide +kernel
theorem dX8_takesByLine_109 : decode cX8_takesByLine 109 = .ok (.iaload, 1) := by decide +kernel
theorem dX8_takesByLine_110 : decode cX8_takesByLine 110 = .ok (.iaload, 1) := by decide +kernel
theorem dX8_takesByLine_111 : decode cX8_takesByLine 111 = .ok (.aload_n 0, 1) := by decide +kernel
theorem dX8_takesByLine_112 : decode cX8_takesByLine 112 = .ok (.getfield 65, 3) := by decide +kernel
theorem dX8_takesByLine_115 : decode cX8_takesByLine 115 = .ok (.iload 8, 2) := by decide +kernel
theorem dX8_takesByLine_117 : decode cX8_takesByLine 117 = .ok (.iaload, 1) := by decide +kernel
theorem dX8_takesByLine_118 : decode cX8_takesByLine 118 = .ok (.iand, 1) := by decide +kernel
theorem dX8_takesByLine_119 : decode cX8_takesByLine 119 = .ok (.ifCond .ne 7, 3) := by decide +kernel
theorem dX8_takesByLine_122 : decode cX8_takesByLine 122 = .ok (.iconst 1, 1) := by decide +kernel
theorem dX8_takesByLine_123 : decode cX8_takesByLine 123 = .ok (.goto 4, 3) := by decide +kernel
theorem dX8_takesByLine_126 : decode cX8_takesByLine 126 = .ok (.iconst 0, 1) := by decide +kernel
theorem dX8_takesByLine_127 : decode cX8_takesByLine 127 = .ok (.istore 6, 2) := by decide +kernel
theorem dX8_takesByLine_129 : decode cX8_takesByLine 129 = .ok (.iinc 8 1, 3) := by decide +kernel
theorem dX8_takesByLine_132 : decode cX8_takesByLine 132 = .ok (.goto (-81), 3) := by decide +kernel
theorem dX8_takesByLine_135 : decode cX8_takesByLine 135 = .ok (.iload 6, 2) := by decide +kernel
theorem dX8_takesByLine_137 : decode cX8_takesByLine 137 = .ok (.ifCond .eq 11, 3) := by decide +kernel
theorem dX8_takesByLine_140 : decode cX8_takesByLine 140 = .ok (.iload 5, 2) := by decide +kernel
theorem dX8_takesByLine_142 : decode cX8_takesByLine 142 = .ok (.iload 7, 2) := by decide +kernel
theorem dX8_takesByLine_144 : decode cX8_takesByLine 144 = .ok (.iand, 1) := by decide +kernel
theorem dX8_takesByLine_145 : decode cX8_takesByLine 145 = .ok (.goto 5, 3) := by decide +kernel
theorem dX8_takesByLine_148 : decode cX8_takesByLine 148 = .ok (.iload 5, 2) := by decide +kernel
theorem dX8_takesByLine_150 : decode cX8_takesByLine 150 = .ok (.istore 5, 2) := by decide +kernel
theorem dX8_takesByLine_152 : decode cX8_takesByLine 152 = .ok (.iload_n 2, 1) := by decide +kernel
theorem dX8_takesByLine_153 : decode cX8_takesByLine 153 = .ok (.ifCond .ne 15, 3) := by decide +kernel
theorem dX8_takesByLine_156 : decode cX8_takesByLine 156 = .ok (.iload 5, 2) := by decide +kernel
theorem dX8_takesByLine_158 : decode cX8_takesByLine 158 = .ok (.aload_n 0, 1) := by decide +kernel
theorem dX8_takesByLine_159 : decode cX8_takesByLine 159 = .ok (.getfield 78, 3) := by decide +kernel
theorem dX8_takesByLine_162 : decode cX8_takesByLine 162 = .ok (.iload 4, 2) := by decide +kernel
theorem dX8_takesByLine_164 : decode cX8_takesByLine 164 = .ok (.iaload, 1) := by decide +kernel
theorem dX8_takesByLine_165 : decode cX8_takesByLine 165 = .ok (.if_icmp .eq 7, 3) := by decide +kernel
theorem dX8_takesByLine_168 : decode cX8_takesByLine 168 = .ok (.iconst 1, 1) := by decide +kernel
theorem dX8_takesByLine_169 : decode cX8_takesByLine 169 = .ok (.goto 4, 3) := by decide +kernel
theorem dX8_takesByLine_172 : decode cX8_takesByLine 172 = .ok (.iconst 0, 1) := by decide +kernel
theorem dX8_takesByLine_173 : decode cX8_takesByLine 173 = .ok (.istore_n 2, 1) := by decide +kernel
theorem dX8_takesByLine_174 : decode cX8_takesByLine 174 = .ok (.aload_n 0, 1) := by decide +kernel
theorem dX8_takesByLine_175 : decode cX8_takesByLine 175 = .ok (.getfield 78, 3) := by decide +kernel
theorem dX8_takesByLine_178 : decode cX8_takesByLine 178 = .ok (.iload 4, 2) := by decide +kernel
theorem dX8_takesByLine_180 : decode cX8_takesByLine 180 = .ok (.iload 5, 2) := by decide +kernel
theorem dX8_takesByLine_182 : decode cX8_takesByLine 182 = .ok (.iastore, 1) := by decide +kernel
theorem dX8_takesByLine_183 : decode cX8_takesByLine 183 = .ok (.aload_n 0, 1) := by decide +kernel
theorem dX8_takesByLine_184 : decode cX8_takesByLine 184 = .ok (.aload_n 0, 1) := by decide +kernel
theorem dX8_takesByLine_185 : decode cX8_takesByLine 185 = .ok (.getfield 197, 3) := by decide +kernel
theorem dX8_takesByLine_188 : decode cX8_takesByLine 188 = .ok (.ifCond .ne 8, 3) := by decide +kernel
theorem dX8_takesByLine_191 : decode cX8_takesByLine 191 = .ok (.iload 5, 2) := by decide +kernel
theorem dX8_takesByLine_193 : decode cX8_takesByLine 193 = .ok (.ifCond .ne 7, 3) := by decide +kernel
theorem dX8_takesByLine_196 : decode cX8_takesByLine 196 = .ok (.iconst 1, 1) := by decide +kernel
theorem dX8_takesByLine_197 : decode cX8_takesByLine 197 = .ok (.goto 4, 3) := by decide +kernel
theorem dX8_takesByLine_200 : decode cX8_takesByLine 200 = .ok (.iconst 0, 1) := by decide +kernel
theorem dX8_takesByLine_201 : decode cX8_takesByLine 201 = .ok (.putfield 197, 3) := by decide +kernel
theorem dX8_takesByLine_204 : decode cX8_takesByLine 204 = .ok (.iinc 3 1, 3) := by decide +kernel
theorem dX8_takesByLine_207 : decode cX8_takesByLine 207 = .ok (.goto (-200), 3) := by decide +kernel
theorem dX8_takesByLine_210 : decode cX8_takesByLine 210 = .ok (.aload_n 0, 1) := by decide +kernel
theorem dX8_takesByLine_211 : decode cX8_takesByLine 211 = .ok (.aload_n 0, 1) := by decide +kernel
theorem dX8_takesByLine_212 : decode cX8_takesByLine 212 = .ok (.getfield 197, 3) := by decide +kernel
theorem dX8_takesByLine_215 : decode cX8_takesByLine 215 = .ok (.ifCond .ne 12, 3) := by decide +kernel
theorem dX8_takesByLine_218 : decode cX8_takesByLine 218 = .ok (.aload_n 0, 1) := by decide +kernel
theorem dX8_takesByLine_219 : decode cX8_takesByLine 219 = .ok (.getfield 59, 3) := by decide +kernel
theorem dX8_takesByLine_222 : decode cX8_takesByLine 222 = .ok (.iload_n 1, 1) := by decide +kernel
theorem dX8_takesByLine_223 : decode cX8_takesByLine 223 = .ok (.iaload, 1) := by decide +kernel
theorem dX8_takesByLine_224 : decode cX8_takesByLine 224 = .ok (.ifCond .ne 7, 3) := by decide +kernel
theorem dX8_takesByLine_227 : decode cX8_takesByLine 227 = .ok (.iconst 1, 1) := by decide +kernel
theorem dX8_takesByLine_228 : decode cX8_takesByLine 228 = .ok (.goto 4, 3) := by decide +kernel
theorem dX8_takesByLine_231 : decode cX8_takesByLine 231 = .ok (.iconst 0, 1) := by decide +kernel
theorem dX8_takesByLine_232 : decode cX8_takesByLine 232 = .ok (.putfield 197, 3) := by decide +kernel
theorem dX8_takesByLine_235 : decode cX8_takesByLine 235 = .ok (.iload_n 2, 1) := by decide +kernel
theorem dX8_takesByLine_236 : decode cX8_takesByLine 236 = .ok (.ireturn, 1) := by decide +kernel
theorem dX8_byLines_0 : decode cX8_byLines 0 = .ok (.aload_n 0, 1) := by decide +kernel
theorem dX8_byLines_1 : decode cX8_byLines 1 = .ok (.iconst 1, 1) := by decide +kernel
theorem dX8_byLines_2 : decode cX8_byLines 2 = .ok (.invokevirtual 207, 3) := by decide +kernel
theorem dX8_byLines_5 : decode cX8_byLines 5 = .ok (.bipush 6, 2) := by decide +kernel
theorem dX8_byLines_7 : decode cX8_byLines 7 = .ok (.iload_n 1, 1) := by decide +kernel
theorem dX8_byLines_8 : decode cX8_byLines 8 = .ok (.imul, 1) := by decide +kernel
theorem dX8_byLines_9 : decode cX8_byLines 9 = .ok (.istore_n 2, 1) := by decide +kernel
theorem dX8_byLines_10 : decode cX8_byLines 10 = .ok (.iload_n 2, 1) := by decide +kernel
theorem dX8_byLines_11 : decode cX8_byLines 11 = .ok (.bipush 6, 2) := by decide +kernel
theorem dX8_byLines_13 : decode cX8_byLines 13 = .ok (.iload_n 1, 1) := by decide +kernel
theorem dX8_byLines_14 : decode cX8_byLines 14 = .ok (.imul, 1) := by decide +kernel
theorem dX8_byLines_15 : decode cX8_byLines 15 = .ok (.aload_n 0, 1) := by decide +kernel
theorem dX8_byLines_16 : decode cX8_byLines 16 = .ok (.getfield 59, 3) := by decide +kernel
theorem dX8_byLines_19 : decode cX8_byLines 19 = .ok (.iload_n 1, 1) := by decide +kernel
theorem dX8_byLines_20 : decode cX8_byLines 20 = .ok (.iaload, 1) := by decide +kernel
theorem dX8_byLines_21 : decode cX8_byLines 21 = .ok (.iadd, 1) := by decide +kernel
theorem dX8_byLines_22 : decode cX8_byLines 22 = .ok (.if_icmp .ge 32, 3) := by decide +kernel
theorem dX8_byLines_25 : decode cX8_byLines 25 = .ok (.aload_n 0, 1) := by decide +kernel
theorem dX8_byLines_26 : decode cX8_byLines 26 = .ok (.getfield 78, 3) := by decide +kernel
theorem dX8_byLines_29 : decode cX8_byLines 29 = .ok (.aload_n 0, 1) := by decide +kernel
theorem dX8_byLines_30 : decode cX8_byLines 30 = .ok (.getfield 62, 3) := by decide +kernel
theorem dX8_byLines_33 : decode cX8_byLines 33 = .ok (.iload_n 2, 1) := by decide +kernel
theorem dX8_byLines_34 : decode cX8_byLines 34 = .ok (.iaload, 1) := by decide +kernel
theorem dX8_byLines_35 : decode cX8_byLines 35 = .ok (.dup2, 1) := by decide +kernel
theorem dX8_byLines_36 : decode cX8_byLines 36 = .ok (.iaload, 1) := by decide +kernel
theorem dX8_byLines_37 : decode cX8_byLines 37 = .ok (.ldc 106, 2) := by decide +kernel
theorem dX8_byLines_39 : decode cX8_byLines 39 = .ok (.aload_n 0, 1) := by decide +kernel
theorem dX8_byLines_40 : decode cX8_byLines 40 = .ok (.getfield 65, 3) := by decide +kernel
theorem dX8_byLines_43 : decode cX8_byLines 43 = .ok (.iload_n 2, 1) := by decide +kernel
theorem dX8_byLines_44 : decode cX8_byLines 44 = .ok (.iaload, 1) := by decide +kernel
theorem dX8_byLines_45 : decode cX8_byLines 45 = .ok (.isub, 1) := by decide +kernel
theorem dX8_byLines_46 : decode cX8_byLines 46 = .ok (.iand, 1) := by decide +kernel
theorem dX8_byLines_47 : decode cX8_byLines 47 = .ok (.iastore, 1) := by decide +kernel
theorem dX8_byLines_48 : decode cX8_byLines 48 = .ok (.iinc 2 1, 3) := by decide +kernel
theorem dX8_byLines_51 : decode cX8_byLines 51 = .ok (.goto (-41), 3) := by decide +kernel
theorem dX8_byLines_54 : decode cX8_byLines 54 = .ok (.aload_n 0, 1) := by decide +kernel
theorem dX8_byLines_55 : decode cX8_byLines 55 = .ok (.aload_n 0, 1) := by decide +kernel
theorem dX8_byLines_56 : decode cX8_byLines 56 = .ok (.invokevirtual 193, 3) := by decide +kernel
theorem dX8_byLines_59 : decode cX8_byLines 59 = .ok (.putfield 197, 3) := by decide +kernel
theorem dX8_byLines_62 : decode cX8_byLines 62 = .ok (.iconst 1, 1) := by decide +kernel
theorem dX8_byLines_63 : decode cX8_byLines 63 = .ok (.istore_n 2, 1) := by decide +kernel
theorem dX8_byLines_64 : decode cX8_byLines 64 = .ok (.iload_n 2, 1) := by decide +kernel
theorem dX8_byLines_65 : decode cX8_byLines 65 = .ok (.ifCond .eq 57, 3) := by decide +kernel
theorem dX8_byLines_68 : decode cX8_byLines 68 = .ok (.aload_n 0, 1) := by decide +kernel
theorem dX8_byLines_69 : decode cX8_byLines 69 = .ok (.getfield 197, 3) := by decide +kernel
theorem dX8_byLines_72 : decode cX8_byLines 72 = .ok (.ifCond .ne 50, 3) := by decide +kernel
theorem dX8_byLines_75 : decode cX8_byLines 75 = .ok (.iconst 0, 1) := by decide +kernel
theorem dX8_byLines_76 : decode cX8_byLines 76 = .ok (.istore_n 2, 1) := by decide +kernel
theorem dX8_byLines_77 : decode cX8_byLines 77 = .ok (.iconst 0, 1) := by decide +kernel
theorem dX8_byLines_78 : decode cX8_byLines 78 = .ok (.istore_n 3, 1) := by decide +kernel
theorem dX8_byLines_79 : decode cX8_byLines 79 = .ok (.iload_n 3, 1) := by decide +kernel
theorem dX8_byLines_80 : decode cX8_byLines 80 = .ok (.iload_n 1, 1) := by decide +kernel
theorem dX8_byLines_81 : decode cX8_byLines 81 = .ok (.if_icmp .ge 38, 3) := by decide +kernel
theorem dX8_byLines_84 : decode cX8_byLines 84 = .ok (.aload_n 0, 1) := by decide +kernel
theorem dX8_byLines_85 : decode cX8_byLines 85 = .ok (.getfield 197, 3) := by decide +kernel
theorem dX8_byLines_88 : decode cX8_byLines 88 = .ok (.ifCond .ne 31, 3) := by decide +kernel
theorem dX8_byLines_91 : decode cX8_byLines 91 = .ok (.aload_n 0, 1) := by decide +kernel
theorem dX8_byLines_92 : decode cX8_byLines 92 = .ok (.iload_n 3, 1) := by decide +kernel
theorem dX8_byLines_93 : decode cX8_byLines 93 = .ok (.invokevirtual 281, 3) := by decide +kernel
theorem dX8_byLines_96 : decode cX8_byLines 96 = .ok (.istore 4, 2) := by decide +kernel
theorem dX8_byLines_98 : decode cX8_byLines 98 = .ok (.iload_n 2, 1) := by decide +kernel
theorem dX8_byLines_99 : decode cX8_byLines 99 = .ok (.ifCond .ne 8, 3) := by decide +kernel
theorem dX8_byLines_102 : decode cX8_byLines 102 = .ok (.iload 4, 2) := by decide +kernel
theorem dX8_byLines_104 : decode cX8_byLines 104 = .ok (.ifCond .eq 7, 3) := by decide +kernel
theorem dX8_byLines_107 : decode cX8_byLines 107 = .ok (.iconst 1, 1) := by decide +kernel
theorem dX8_byLines_108 : decode cX8_byLines 108 = .ok (.goto 4, 3) := by decide +kernel
theorem dX8_byLines_111 : decode cX8_byLines 111 = .ok (.iconst 0, 1) := by decide +kernel
theorem dX8_byLines_112 : decode cX8_byLines 112 = .ok (.istore_n 2, 1) := by decide +kernel
theorem dX8_byLines_113 : decode cX8_byLines 113 = .ok (.iinc 3 1, 3) := by decide +kernel
theorem dX8_byLines_116 : decode cX8_byLines 116 = .ok (.goto (-37), 3) := by decide +kernel
theorem dX8_byLines_119 : decode cX8_byLines 119 = .ok (.goto (-55), 3) := by decide +kernel
theorem dX8_byLines_122 : decode cX8_byLines 122 = .ok (.aload_n 0, 1) := by decide +kernel
theorem dX8_byLines_123 : decode cX8_byLines 123 = .ok (.getfield 197, 3) := by decide +kernel
theorem dX8_byLines_126 : decode cX8_byLines 126 = .ok (.ifCond .eq 7, 3) := by decide +kernel
theorem dX8_byLines_129 : decode cX8_byLines 129 = .ok (.iconst 1, 1) := by decide +kernel
theorem dX8_byLines_130 : decode cX8_byLines 130 = .ok (.goto 4, 3) := by decide +kernel
theorem dX8_byLines_133 : decode cX8_byLines 133 = .ok (.iconst 0, 1) := by decide +kernel
theorem dX8_byLines_134 : decode cX8_byLines 134 = .ok (.ireturn, 1) := by decide +kernel
theorem dX8_firstWrong_0 : decode cX8_firstWrong 0 = .ok (.iconst 0, 1) := by decide +kernel
theorem dX8_firstWrong_1 : decode cX8_firstWrong 1 = .ok (.istore_n 1, 1) := by decide +kernel
theorem dX8_firstWrong_2 : decode cX8_firstWrong 2 = .ok (.iload_n 1, 1) := by decide +kernel
theorem dX8_firstWrong_3 : decode cX8_firstWrong 3 = .ok (.aload_n 0, 1) := by decide +kernel
theorem dX8_firstWrong_4 : decode cX8_firstWrong 4 = .ok (.getfield 275, 3) := by decide +kernel
theorem dX8_firstWrong_7 : decode cX8_firstWrong 7 = .ok (.if_icmp .ge 52, 3) := by decide +kernel
theorem dX8_firstWrong_10 : decode cX8_firstWrong 10 = .ok (.aload_n 0, 1) := by decide +kernel
theorem dX8_firstWrong_11 : decode cX8_firstWrong 11 = .ok (.getfield 56, 3) := by decide +kernel
theorem dX8_firstWrong_14 : decode cX8_firstWrong 14 = .ok (.iload_n 1, 1) := by decide +kernel
theorem dX8_firstWrong_15 : decode cX8_firstWrong 15 = .ok (.iaload, 1) := by decide +kernel
theorem dX8_firstWrong_16 : decode cX8_firstWrong 16 = .ok (.bipush (-9), 2) := by decide +kernel
theorem dX8_firstWrong_18 : decode cX8_firstWrong 18 = .ok (.if_icmp .ne 11, 3) := by decide +kernel
theorem dX8_firstWrong_21 : decode cX8_firstWrong 21 = .ok (.aload_n 0, 1) := by decide +kernel
theorem dX8_firstWrong_22 : decode cX8_firstWrong 22 = .ok (.iload_n 1, 1) := by decide +kernel
theorem dX8_firstWrong_23 : decode cX8_firstWrong 23 = .ok (.invokevirtual 284, 3) := by decide +kernel
theorem dX8_firstWrong_26 : decode cX8_firstWrong 26 = .ok (.goto 8, 3) := by decide +kernel
theorem dX8_firstWrong_29 : decode cX8_firstWrong 29 = .ok (.aload_n 0, 1) := by decide +kernel
theorem dX8_firstWrong_30 : decode cX8_firstWrong 30 = .ok (.iload_n 1, 1) := by decide +kernel
theorem dX8_firstWrong_31 : decode cX8_firstWrong 31 = .ok (.invokevirtual 287, 3) := by decide +kernel
theorem dX8_firstWrong_34 : decode cX8_firstWrong 34 = .ok (.istore_n 2, 1) := by decide +kernel
theorem dX8_firstWrong_35 : decode cX8_firstWrong 35 = .ok (.iload_n 2, 1) := by decide +kernel
theorem dX8_firstWrong_36 : decode cX8_firstWrong 36 = .ok (.iconst 1, 1) := by decide +kernel
theorem dX8_firstWrong_37 : decode cX8_firstWrong 37 = .ok (.if_icmp .eq 16, 3) := by decide +kernel
theorem dX8_firstWrong_40 : decode cX8_firstWrong 40 = .ok (.iload_n 2, 1) := by decide +kernel
theorem dX8_firstWrong_41 : decode cX8_firstWrong 41 = .ok (.bipush (-5), 2) := by decide +kernel
theorem dX8_firstWrong_43 : decode cX8_firstWrong 43 = .ok (.if_icmp .ne 8, 3) := by decide +kernel
theorem dX8_firstWrong_46 : decode cX8_firstWrong 46 = .ok (.bipush (-5), 2) := by decide +kernel
theorem dX8_firstWrong_48 : decode cX8_firstWrong 48 = .ok (.goto 4, 3) := by decide +kernel
theorem dX8_firstWrong_51 : decode cX8_firstWrong 51 = .ok (.iload_n 1, 1) := by decide +kernel
theorem dX8_firstWrong_52 : decode cX8_firstWrong 52 = .ok (.ireturn, 1) := by decide +kernel
theorem dX8_firstWrong_53 : decode cX8_firstWrong 53 = .ok (.iinc 1 1, 3) := by decide +kernel
theorem dX8_firstWrong_56 : decode cX8_firstWrong 56 = .ok (.goto (-54), 3) := by decide +kernel
theorem dX8_firstWrong_59 : decode cX8_firstWrong 59 = .ok (.bipush (-9), 2) := by decide +kernel
theorem dX8_firstWrong_61 : decode cX8_firstWrong 61 = .ok (.ireturn, 1) := by decide +kernel
theorem dX8_check_0 : decode cX8_check 0 = .ok (.aload_n 0, 1) := by decide +kernel
theorem dX8_check_1 : decode cX8_check 1 = .ok (.iconst 0, 1) := by decide +kernel
theorem dX8_check_2 : decode cX8_check 2 = .ok (.putfield 90, 3) := by decide +kernel
theorem dX8_check_5 : decode cX8_check 5 = .ok (.aload_n 0, 1) := by decide +kernel
theorem dX8_check_6 : decode cX8_check 6 = .ok (.invokevirtual 290, 3) := by decide +kernel
theorem dX8_check_9 : decode cX8_check 9 = .ok (.ireturn, 1) := by decide +kernel
theorem dX8_refutes_0 : decode cX8_refutes 0 = .ok (.aload_n 0, 1) := by decide +kernel
theorem dX8_refutes_1 : decode cX8_refutes 1 = .ok (.iconst 0, 1) := by decide +kernel
theorem dX8_refutes_2 : decode cX8_refutes 2 = .ok (.putfield 90, 3) := by decide +kernel
theorem dX8_refutes_5 : decode cX8_refutes 5 = .ok (.aload_n 0, 1) := by decide +kernel
theorem dX8_refutes_6 : decode cX8_refutes 6 = .ok (.invokevirtual 290, 3) := by decide +kernel
theorem dX8_refutes_9 : decode cX8_refutes 9 = .ok (.istore_n 1, 1) := by decide +kernel
theorem dX8_refutes_10 : decode cX8_refutes 10 = .ok (.iload_n 1, 1) := by decide +kernel
theorem dX8_refutes_11 : decode cX8_refutes 11 = .ok (.bipush (-5), 2) := by decide +kernel
theorem dX8_refutes_13 : decode cX8_refutes 13 = .ok (.if_icmp .ne 6, 3) := by decide +kernel
theorem dX8_refutes_16 : decode cX8_refutes 16 = .ok (.bipush (-5), 2) := by decide +kernel
theorem dX8_refutes_18 : decode cX8_refutes 18 = .ok (.ireturn, 1) := by decide +kernel
theorem dX8_refutes_19 : decode cX8_refutes 19 = .ok (.iconst 0, 1) := by decide +kernel
theorem dX8_refutes_20 : decode cX8_refutes 20 = .ok (.istore_n 2, 1) := by decide +kernel
theorem dX8_refutes_21 : decode cX8_refutes 21 = .ok (.iconst 0, 1) := by decide +kernel
theorem dX8_refutes_22 : decode cX8_refutes 22 = .ok (.istore_n 3, 1) := by decide +kernel
theorem dX8_refutes_23 : decode cX8_refutes 23 = .ok (.iload_n 3, 1) := by decide +kernel
theorem dX8_refutes_24 : decode cX8_refutes 24 = .ok (.aload_n 0, 1) := by decide +kernel
theorem dX8_refutes_25 : decode cX8_refutes 25 = .ok (.getfield 275, 3) := by decide +kernel
theorem dX8_refutes_28 : decode cX8_refutes 28 = .ok (.if_icmp .ge 28, 3) := by decide +kernel
theorem dX8_refutes_31 : decode cX8_refutes 31 = .ok (.iload_n 2, 1) := by decide +kernel
theorem dX8_refutes_32 : decode cX8_refutes 32 = .ok (.ifCond .ne 12, 3) := by decide +kernel
theorem dX8_refutes_35 : decode cX8_refutes 35 = .ok (.aload_n 0, 1) := by decide +kernel
theorem dX8_refutes_36 : decode cX8_refutes 36 = .ok (.getfield 59, 3) := by decide +kernel
theorem dX8_refutes_39 : decode cX8_refutes 39 = .ok (.iload_n 3, 1) := by decide +kernel
theorem dX8_refutes_40 : decode cX8_refutes 40 = .ok (.iaload, 1) := by decide +kernel
theorem dX8_refutes_41 : decode cX8_refutes 41 = .ok (.ifCond .ne 7, 3) := by decide +kernel
theorem dX8_refutes_44 : decode cX8_refutes 44 = .ok (.iconst 1, 1) := by decide +kernel
theorem dX8_refutes_45 : decode cX8_refutes 45 = .ok (.goto 4, 3) := by decide +kernel
theorem dX8_refutes_48 : decode cX8_refutes 48 = .ok (.iconst 0, 1) := by decide +kernel
theorem dX8_refutes_49 : decode cX8_refutes 49 = .ok (.istore_n 2, 1) := by decide +kernel
theorem dX8_refutes_50 : decode cX8_refutes 50 = .ok (.iinc 3 1, 3) := by decide +kernel
theorem dX8_refutes_53 : decode cX8_refutes 53 = .ok (.goto (-30), 3) := by decide +kernel
theorem dX8_refutes_56 : decode cX8_refutes 56 = .ok (.iload_n 1, 1) := by decide +kernel
theorem dX8_refutes_57 : decode cX8_refutes 57 = .ok (.bipush (-9), 2) := by decide +kernel
theorem dX8_refutes_59 : decode cX8_refutes 59 = .ok (.if_icmp .ne 11, 3) := by decide +kernel
theorem dX8_refutes_62 : decode cX8_refutes 62 = .ok (.iload_n 2, 1) := by decide +kernel
theorem dX8_refutes_63 : decode cX8_refutes 63 = .ok (.ifCond .eq 7, 3) := by decide +kernel
theorem dX8_refutes_66 : decode cX8_refutes 66 = .ok (.iconst 1, 1) := by decide +kernel
theorem dX8_refutes_67 : decode cX8_refutes 67 = .ok (.goto 4, 3) := by decide +kernel
theorem dX8_refutes_70 : decode cX8_refutes 70 = .ok (.iconst 0, 1) := by decide +kernel
theorem dX8_refutes_71 : decode cX8_refutes 71 = .ok (.ireturn, 1) := by decide +kernel
theorem dX8_total_0 : decode cX8_total 0 = .ok (.aload_n 0, 1) := by decide +kernel
theorem dX8_total_1 : decode cX8_total 1 = .ok (.iconst 0, 1) := by decide +kernel
theorem dX8_total_2 : decode cX8_total 2 = .ok (.putfield 90, 3) := by decide +kernel
theorem dX8_total_5 : decode cX8_total 5 = .ok (.iload_n 1, 1) := by decide +kernel
theorem dX8_total_6 : decode cX8_total 6 = .ok (.tableswitch 98 0 5 #[38, 43, 48, 53, 58, 63], 38) := by decide +kernel
theorem dX8_total_44 : decode cX8_total 44 = .ok (.aload_n 0, 1) := by decide +kernel
theorem dX8_total_45 : decode cX8_total 45 = .ok (.getfield 93, 3) := by decide +kernel
theorem dX8_total_48 : decode cX8_total 48 = .ok (.ireturn, 1) := by decide +kernel
theorem dX8_total_49 : decode cX8_total 49 = .ok (.aload_n 0, 1) := by decide +kernel
theorem dX8_total_50 : decode cX8_total 50 = .ok (.getfield 100, 3) := by decide +kernel
theorem dX8_total_53 : decode cX8_total 53 = .ok (.ireturn, 1) := by decide +kernel
theorem dX8_total_54 : decode cX8_total 54 = .ok (.aload_n 0, 1) := by decide +kernel
theorem dX8_total_55 : decode cX8_total 55 = .ok (.getfield 109, 3) := by decide +kernel
theorem dX8_total_58 : decode cX8_total 58 = .ok (.ireturn, 1) := by decide +kernel
theorem dX8_total_59 : decode cX8_total 59 = .ok (.aload_n 0, 1) := by decide +kernel
theorem dX8_total_60 : decode cX8_total 60 = .ok (.getfield 275, 3) := by decide +kernel
theorem dX8_total_63 : decode cX8_total 63 = .ok (.ireturn, 1) := by decide +kernel
theorem dX8_total_64 : decode cX8_total 64 = .ok (.aload_n 0, 1) := by decide +kernel
theorem dX8_total_65 : decode cX8_total 65 = .ok (.getfield 103, 3) := by decide +kernel
theorem dX8_total_68 : decode cX8_total 68 = .ok (.ireturn, 1) := by decide +kernel
theorem dX8_total_69 : decode cX8_total 69 = .ok (.iconst 0, 1) := by decide +kernel
theorem dX8_total_70 : decode cX8_total 70 = .ok (.istore_n 2, 1) := by decide +kernel
theorem dX8_total_71 : decode cX8_total 71 = .ok (.iconst 0, 1) := by decide +kernel
theorem dX8_total_72 : decode cX8_total 72 = .ok (.istore_n 3, 1) := by decide +kernel
theorem dX8_total_73 : decode cX8_total 73 = .ok (.iload_n 3, 1) := by decide +kernel
theorem dX8_total_74 : decode cX8_total 74 = .ok (.bipush 6, 2) := by decide +kernel
theorem dX8_total_76 : decode cX8_total 76 = .ok (.if_icmp .ge 26, 3) := by decide +kernel
theorem dX8_total_79 : decode cX8_total 79 = .ok (.iload_n 2, 1) := by decide +kernel
theorem dX8_total_80 : decode cX8_total 80 = .ok (.aload_n 0, 1) := by decide +kernel
theorem dX8_total_81 : decode cX8_total 81 = .ok (.getfield 50, 3) := by decide +kernel
theorem dX8_total_84 : decode cX8_total 84 = .ok (.iload_n 3, 1) := by decide +kernel
theorem dX8_total_85 : decode cX8_total 85 = .ok (.iaload, 1) := by decide +kernel
theorem dX8_total_86 : decode cX8_total 86 = .ok (.ifCond .lt 7, 3) := by decide +kernel
theorem dX8_total_89 : decode cX8_total 89 = .ok (.iconst 1, 1) := by decide +kernel
theorem dX8_total_90 : decode cX8_total 90 = .ok (.goto 4, 3) := by decide +kernel
theorem dX8_total_93 : decode cX8_total 93 = .ok (.iconst 0, 1) := by decide +kernel
theorem dX8_total_94 : decode cX8_total 94 = .ok (.iadd, 1) := by decide +kernel
theorem dX8_total_95 : decode cX8_total 95 = .ok (.istore_n 2, 1) := by decide +kernel
theorem dX8_total_96 : decode cX8_total 96 = .ok (.iinc 3 1, 3) := by decide +kernel
theorem dX8_total_99 : decode cX8_total 99 = .ok (.goto (-26), 3) := by decide +kernel
theorem dX8_total_102 : decode cX8_total 102 = .ok (.iload_n 2, 1) := by decide +kernel
theorem dX8_total_103 : decode cX8_total 103 = .ok (.ireturn, 1) := by decide +kernel
theorem dX8_total_104 : decode cX8_total 104 = .ok (.bipush (-2), 2) := by decide +kernel
theorem dX8_total_106 : decode cX8_total 106 = .ok (.ireturn, 1) := by decide +kernel
