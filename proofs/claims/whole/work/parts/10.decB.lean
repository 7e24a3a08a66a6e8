/-! what stands at each place of the bytecode (out of claim/NAMES.whole.lean.txt) -/
theorem dX7_init_0 : decode cX7_init 0 = .ok (.aload_n 0, 1) := by decide +kernel
theorem dX7_init_1 : decode cX7_init 1 = .ok (.invokespecial 1, 3) := by decide +kernel
theorem dX7_init_4 : decode cX7_init 4 = .ok (.aload_n 0, 1) := by decide +kernel
theorem dX7_init_5 : decode cX7_init 5 = .ok (.bipush 10, 2) := by decide +kernel
theorem dX7_init_7 : decode cX7_init 7 = .ok (.newarray .int, 2) := by decide +kernel
theorem dX7_init_9 : decode cX7_init 9 = .ok (.putfield 9, 3) := by decide +kernel
theorem dX7_init_12 : decode cX7_init 12 = .ok (.aload_n 0, 1) := by decide +kernel
theorem dX7_init_13 : decode cX7_init 13 = .ok (.bipush 10, 2) := by decide +kernel
theorem dX7_init_15 : decode cX7_init 15 = .ok (.newarray .int, 2) := by decide +kernel
theorem dX7_init_17 : decode cX7_init 17 = .ok (.putfield 13, 3) := by decide +kernel
theorem dX7_init_20 : decode cX7_init 20 = .ok (.aload_n 0, 1) := by decide +kernel
theorem dX7_init_21 : decode cX7_init 21 = .ok (.bipush 16, 2) := by decide +kernel
theorem dX7_init_23 : decode cX7_init 23 = .ok (.anewarray 16, 3) := by decide +kernel
theorem dX7_init_26 : decode cX7_init 26 = .ok (.putfield 18, 3) := by decide +kernel
theorem dX7_init_29 : decode cX7_init 29 = .ok (.aload_n 0, 1) := by decide +kernel
theorem dX7_init_30 : decode cX7_init 30 = .ok (.new 22, 3) := by decide +kernel
theorem dX7_init_33 : decode cX7_init 33 = .ok (.dup, 1) := by decide +kernel
theorem dX7_init_34 : decode cX7_init 34 = .ok (.invokespecial 24, 3) := by decide +kernel
theorem dX7_init_37 : decode cX7_init 37 = .ok (.putfield 25, 3) := by decide +kernel
theorem dX7_init_40 : decode cX7_init 40 = .ok (.aload_n 0, 1) := by decide +kernel
theorem dX7_init_41 : decode cX7_init 41 = .ok (.bipush 12, 2) := by decide +kernel
theorem dX7_init_43 : decode cX7_init 43 = .ok (.newarray .int, 2) := by decide +kernel
theorem dX7_init_45 : decode cX7_init 45 = .ok (.putfield 29, 3) := by decide +kernel
theorem dX7_init_48 : decode cX7_init 48 = .ok (.aload_n 0, 1) := by decide +kernel
theorem dX7_init_49 : decode cX7_init 49 = .ok (.bipush 10, 2) := by decide +kernel
theorem dX7_init_51 : decode cX7_init 51 = .ok (.newarray .int, 2) := by decide +kernel
theorem dX7_init_53 : decode cX7_init 53 = .ok (.putfield 32, 3) := by decide +kernel
theorem dX7_init_56 : decode cX7_init 56 = .ok (.aload_n 0, 1) := by decide +kernel
theorem dX7_init_57 : decode cX7_init 57 = .ok (.iconst (-1), 1) := by decide +kernel
theorem dX7_init_58 : decode cX7_init 58 = .ok (.putfield 35, 3) := by decide +kernel
theorem dX7_init_61 : decode cX7_init 61 = .ok (.aload_n 0, 1) := by decide +kernel
theorem dX7_init_62 : decode cX7_init 62 = .ok (.bipush 40, 2) := by decide +kernel
theorem dX7_init_64 : decode cX7_init 64 = .ok (.anewarray 16, 3) := by decide +kernel
theorem dX7_init_67 : decode cX7_init 67 = .ok (.putfield 39, 3) := by decide +kernel
theorem dX7_init_70 : decode cX7_init 70 = .ok (.aload_n 0, 1) := by decide +kernel
theorem dX7_init_71 : decode cX7_init 71 = .ok (.bipush 40, 2) := by decide +kernel
theorem dX7_init_73 : decode cX7_init 73 = .ok (.newarray .int, 2) := by decide +kernel
theorem dX7_init_75 : decode cX7_init 75 = .ok (.putfield 42, 3) := by decide +kernel
theorem dX7_init_78 : decode cX7_init 78 = .ok (.aload_n 0, 1) := by decide +kernel
theorem dX7_init_79 : decode cX7_init 79 = .ok (.bipush 10, 2) := by decide +kernel
theorem dX7_init_81 : decode cX7_init 81 = .ok (.newarray .int, 2) := by decide +kernel
theorem dX7_init_83 : decode cX7_init 83 = .ok (.putfield 45, 3) := by decide +kernel
theorem dX7_init_86 : decode cX7_init 86 = .ok (.aload_n 0, 1) := by decide +kernel
theorem dX7_init_87 : decode cX7_init 87 = .ok (.bipush 10, 2) := by decide +kernel
theorem dX7_init_89 : decode cX7_init 89 = .ok (.newarray .int, 2) := by decide +kernel
theorem dX7_init_91 : decode cX7_init 91 = .ok (.putfield 48, 3) := by decide +kernel
theorem dX7_init_94 : decode cX7_init 94 = .ok (.iconst 0, 1) := by decide +kernel
theorem dX7_init_95 : decode cX7_init 95 = .ok (.istore_n 1, 1) := by decide +kernel
theorem dX7_init_96 : decode cX7_init 96 = .ok (.iload_n 1, 1) := by decide +kernel
theorem dX7_init_97 : decode cX7_init 97 = .ok (.bipush 16, 2) := by decide +kernel
theorem dX7_init_99 : decode cX7_init 99 = .ok (.if_icmp .ge 22, 3) := by decide +kernel
theorem dX7_init_102 : decode cX7_init 102 = .ok (.aload_n 0, 1) := by decide +kernel
theorem dX7_init_103 : decode cX7_init 103 = .ok (.getfield 18, 3) := by decide +kernel
theorem dX7_init_106 : decode cX7_init 106 = .ok (.iload_n 1, 1) := by decide +kernel
theorem dX7_init_107 : decode cX7_init 107 = .ok (.new 16, 3) := by decide +kernel
theorem dX7_init_110 : decode cX7_init 110 = .ok (.dup, 1) := by decide +kernel
theorem dX7_init_111 : decode cX7_init 111 = .ok (.invokespecial 51, 3) := by decide +kernel
theorem dX7_init_114 : decode cX7_init 114 = .ok (.aastore, 1) := by decide +kernel
theorem dX7_init_115 : decode cX7_init 115 = .ok (.iinc 1 1, 3) := by decide +kernel
theorem dX7_init_118 : decode cX7_init 118 = .ok (.goto (-22), 3) := by decide +kernel
theorem dX7_init_121 : decode cX7_init 121 = .ok (.iconst 0, 1) := by decide +kernel
theorem dX7_init_122 : decode cX7_init 122 = .ok (.istore_n 1, 1) := by decide +kernel
theorem dX7_init_123 : decode cX7_init 123 = .ok (.iload_n 1, 1) := by decide +kernel
theorem dX7_init_124 : decode cX7_init 124 = .ok (.bipush 40, 2) := by decide +kernel
theorem dX7_init_126 : decode cX7_init 126 = .ok (.if_icmp .ge 22, 3) := by decide +kernel
theorem dX7_init_129 : decode cX7_init 129 = .ok (.aload_n 0, 1) := by decide +kernel
theorem dX7_init_130 : decode cX7_init 130 = .ok (.getfield 39, 3) := by decide +kernel
theorem dX7_init_133 : decode cX7_init 133 = .ok (.iload_n 1, 1) := by decide +kernel
theorem dX7_init_134 : decode cX7_init 134 = .ok (.new 16, 3) := by decide +kernel
theorem dX7_init_137 : decode cX7_init 137 = .ok (.dup, 1) := by decide +kernel
theorem dX7_init_138 : decode cX7_init 138 = .ok (.invokespecial 51, 3) := by decide +kernel
theorem dX7_init_141 : decode cX7_init 141 = .ok (.aastore, 1) := by decide +kernel
theorem dX7_init_142 : decode cX7_init 142 = .ok (.iinc 1 1, 3) := by decide +kernel
theorem dX7_init_145 : decode cX7_init 145 = .ok (.goto (-22), 3) := by decide +kernel
theorem dX7_init_148 : decode cX7_init 148 = .ok (.new 52, 3) := by decide +kernel
theorem dX7_init_151 : decode cX7_init 151 = .ok (.dup, 1) := by decide +kernel
theorem dX7_init_152 : decode cX7_init 152 = .ok (.invokespecial 54, 3) := by decide +kernel
theorem dX7_init_155 : decode cX7_init 155 = .ok (.astore_n 1, 1) := by decide +kernel
theorem dX7_init_156 : decode cX7_init 156 = .ok (.new 55, 3) := by decide +kernel
theorem dX7_init_159 : decode cX7_init 159 = .ok (.dup, 1) := by decide +kernel
theorem dX7_init_160 : decode cX7_init 160 = .ok (.aload_n 1, 1) := by decide +kernel
theorem dX7_init_161 : decode cX7_init 161 = .ok (.invokespecial 57, 3) := by decide +kernel
theorem dX7_init_164 : decode cX7_init 164 = .ok (.astore_n 2, 1) := by decide +kernel
theorem dX7_init_165 : decode cX7_init 165 = .ok (.aload_n 0, 1) := by decide +kernel
theorem dX7_init_166 : decode cX7_init 166 = .ok (.aload_n 1, 1) := by decide +kernel
theorem dX7_init_167 : decode cX7_init 167 = .ok (.putfield 60, 3) := by decide +kernel
theorem dX7_init_170 : decode cX7_init 170 = .ok (.aload_n 0, 1) := by decide +kernel
theorem dX7_init_171 : decode cX7_init 171 = .ok (.new 64, 3) := by decide +kernel
theorem dX7_init_174 : decode cX7_init 174 = .ok (.dup, 1) := by decide +kernel
theorem dX7_init_175 : decode cX7_init 175 = .ok (.new 66, 3) := by decide +kernel
theorem dX7_init_178 : decode cX7_init 178 = .ok (.dup, 1) := by decide +kernel
theorem dX7_init_179 : decode cX7_init 179 = .ok (.aload_n 1, 1) := by decide +kernel
theorem dX7_init_180 : decode cX7_init 180 = .ok (.invokespecial 68, 3) := by decide +kernel
theorem dX7_init_183 : decode cX7_init 183 = .ok (.aload_n 2, 1) := by decide +kernel
theorem dX7_init_184 : decode cX7_init 184 = .ok (.invokespecial 69, 3) := by decide +kernel
theorem dX7_init_187 : decode cX7_init 187 = .ok (.putfield 72, 3) := by decide +kernel
theorem dX7_init_190 : decode cX7_init 190 = .ok (.aload_n 0, 1) := by decide +kernel
theorem dX7_init_191 : decode cX7_init 191 = .ok (.new 76, 3) := by decide +kernel
theorem dX7_init_194 : decode cX7_init 194 = .ok (.dup, 1) := by decide +kernel
theorem dX7_init_195 : decode cX7_init 195 = .ok (.aload_n 2, 1) := by decide +kernel
theorem dX7_init_196 : decode cX7_init 196 = .ok (.invokespecial 78, 3) := by decide +kernel
theorem dX7_init_199 : decode cX7_init 199 = .ok (.putfield 81, 3) := by decide +kernel
theorem dX7_init_202 : decode cX7_init 202 = .ok (.return_, 1) := by decide +kernel
theorem dX7_unknown_0 : decode cX7_unknown 0 = .ok (.iload_n 1, 1) := by decide +kernel
theorem dX7_unknown_1 : decode cX7_unknown 1 = .ok (.ifCond .lt 14, 3) := by decide +kernel
theorem dX7_unknown_4 : decode cX7_unknown 4 = .ok (.iload_n 2, 1) := by decide +kernel
theorem dX7_unknown_5 : decode cX7_unknown 5 = .ok (.bipush 16, 2) := by decide +kernel
theorem dX7_unknown_7 : decode cX7_unknown 7 = .ok (.if_icmp .ge 8, 3) := by decide +kernel
theorem dX7_unknown_10 : decode cX7_unknown 10 = .ok (.iload_n 1, 1) := by decide +kernel
theorem dX7_unknown_11 : decode cX7_unknown 11 = .ok (.iload_n 2, 1) := by decide +kernel
theorem dX7_unknown_12 : decode cX7_unknown 12 = .ok (.if_icmp .le 6, 3) := by decide +kernel
theorem dX7_unknown_15 : decode cX7_unknown 15 = .ok (.bipush (-2), 2) := by decide +kernel
theorem dX7_unknown_17 : decode cX7_unknown 17 = .ok (.ireturn, 1) := by decide +kernel
theorem dX7_unknown_18 : decode cX7_unknown 18 = .ok (.aload_n 0, 1) := by decide +kernel
theorem dX7_unknown_19 : decode cX7_unknown 19 = .ok (.getfield 25, 3) := by decide +kernel
theorem dX7_unknown_22 : decode cX7_unknown 22 = .ok (.getfield 85, 3) := by decide +kernel
theorem dX7_unknown_25 : decode cX7_unknown 25 = .ok (.ifCond .le 6, 3) := by decide +kernel
theorem dX7_unknown_28 : decode cX7_unknown 28 = .ok (.bipush (-3), 2) := by decide +kernel
theorem dX7_unknown_30 : decode cX7_unknown 30 = .ok (.ireturn, 1) := by decide +kernel
theorem dX7_unknown_31 : decode cX7_unknown 31 = .ok (.aload_n 0, 1) := by decide +kernel
theorem dX7_unknown_32 : decode cX7_unknown 32 = .ok (.getfield 88, 3) := by decide +kernel
theorem dX7_unknown_35 : decode cX7_unknown 35 = .ok (.bipush 10, 2) := by decide +kernel
theorem dX7_unknown_37 : decode cX7_unknown 37 = .ok (.if_icmp .lt 6, 3) := by decide +kernel
theorem dX7_unknown_40 : decode cX7_unknown 40 = .ok (.bipush (-4), 2) := by decide +kernel
theorem dX7_unknown_42 : decode cX7_unknown 42 = .ok (.ireturn, 1) := by decide +kernel
theorem dX7_unknown_43 : decode cX7_unknown 43 = .ok (.aload_n 0, 1) := by decide +kernel
theorem dX7_unknown_44 : decode cX7_unknown 44 = .ok (.getfield 9, 3) := by decide +kernel
theorem dX7_unknown_47 : decode cX7_unknown 47 = .ok (.aload_n 0, 1) := by decide +kernel
theorem dX7_unknown_48 : decode cX7_unknown 48 = .ok (.getfield 88, 3) := by decide +kernel
theorem dX7_unknown_51 : decode cX7_unknown 51 = .ok (.iconst 2, 1) := by decide +kernel
theorem dX7_unknown_52 : decode cX7_unknown 52 = .ok (.iload_n 2, 1) := by decide +kernel
theorem dX7_unknown_53 : decode cX7_unknown 53 = .ok (.ishl, 1) := by decide +kernel
theorem dX7_unknown_54 : decode cX7_unknown 54 = .ok (.iconst 1, 1) := by decide +kernel
theorem dX7_unknown_55 : decode cX7_unknown 55 = .ok (.iload_n 1, 1) := by decide +kernel
theorem dX7_unknown_56 : decode cX7_unknown 56 = .ok (.ishl, 1) := by decide +kernel
theorem dX7_unknown_57 : decode cX7_unknown 57 = .ok (.isub, 1) := by decide +kernel
theorem dX7_unknown_58 : decode cX7_unknown 58 = .ok (.iastore, 1) := by decide +kernel
theorem dX7_unknown_59 : decode cX7_unknown 59 = .ok (.aload_n 0, 1) := by decide +kernel
theorem dX7_unknown_60 : decode cX7_unknown 60 = .ok (.dup, 1) := by decide +kernel
theorem dX7_unknown_61 : decode cX7_unknown 61 = .ok (.getfield 88, 3) := by decide +kernel
theorem dX7_unknown_64 : decode cX7_unknown 64 = .ok (.iconst 1, 1) := by decide +kernel
theorem dX7_unknown_65 : decode cX7_unknown 65 = .ok (.iadd, 1) := by decide +kernel
theorem dX7_unknown_66 : decode cX7_unknown 66 = .ok (.putfield 88, 3) := by decide +kernel
theorem dX7_unknown_69 : decode cX7_unknown 69 = .ok (.aload_n 0, 1) := by decide +kernel
theorem dX7_unknown_70 : decode cX7_unknown 70 = .ok (.invokevirtual 91, 3) := by decide +kernel
theorem dX7_unknown_73 : decode cX7_unknown 73 = .ok (.aload_n 0, 1) := by decide +kernel
theorem dX7_unknown_74 : decode cX7_unknown 74 = .ok (.getfield 88, 3) := by decide +kernel
theorem dX7_unknown_77 : decode cX7_unknown 77 = .ok (.iconst 1, 1) := by decide +kernel
theorem dX7_unknown_78 : decode cX7_unknown 78 = .ok (.isub, 1) := by decide +kernel
theorem dX7_unknown_79 : decode cX7_unknown 79 = .ok (.ireturn, 1) := by decide +kernel
theorem dX7_hole_0 : decode cX7_hole 0 = .ok (.aload_n 0, 1) := by decide +kernel
theorem dX7_hole_1 : decode cX7_hole 1 = .ok (.iload_n 1, 1) := by decide +kernel
theorem dX7_hole_2 : decode cX7_hole 2 = .ok (.invokevirtual 94, 3) := by decide +kernel
theorem dX7_hole_5 : decode cX7_hole 5 = .ok (.ifCond .ne 5, 3) := by decide +kernel
theorem dX7_hole_8 : decode cX7_hole 8 = .ok (.iconst (-1), 1) := by decide +kernel
theorem dX7_hole_9 : decode cX7_hole 9 = .ok (.ireturn, 1) := by decide +kernel
theorem dX7_hole_10 : decode cX7_hole 10 = .ok (.iload_n 2, 1) := by decide +kernel
theorem dX7_hole_11 : decode cX7_hole 11 = .ok (.invokestatic 98, 3) := by decide +kernel
theorem dX7_hole_14 : decode cX7_hole 14 = .ok (.ifCond .ne 6, 3) := by decide +kernel
theorem dX7_hole_17 : decode cX7_hole 17 = .ok (.bipush (-2), 2) := by decide +kernel
theorem dX7_hole_19 : decode cX7_hole 19 = .ok (.ireturn, 1) := by decide +kernel
theorem dX7_hole_20 : decode cX7_hole 20 = .ok (.iconst 1, 1) := by decide +kernel
theorem dX7_hole_21 : decode cX7_hole 21 = .ok (.iload_n 2, 1) := by decide +kernel
theorem dX7_hole_22 : decode cX7_hole 22 = .ok (.ishl, 1) := by decide +kernel
theorem dX7_hole_23 : decode cX7_hole 23 = .ok (.istore_n 3, 1) := by decide +kernel
theorem dX7_hole_24 : decode cX7_hole 24 = .ok (.aload_n 0, 1) := by decide +kernel
theorem dX7_hole_25 : decode cX7_hole 25 = .ok (.getfield 25, 3) := by decide +kernel
theorem dX7_hole_28 : decode cX7_hole 28 = .ok (.getfield 85, 3) := by decide +kernel
theorem dX7_hole_31 : decode cX7_hole 31 = .ok (.ifCond .gt 24, 3) := by decide +kernel
theorem dX7_hole_34 : decode cX7_hole 34 = .ok (.aload_n 0, 1) := by decide +kernel
theorem dX7_hole_35 : decode cX7_hole 35 = .ok (.getfield 9, 3) := by decide +kernel
theorem dX7_hole_38 : decode cX7_hole 38 = .ok (.iload_n 1, 1) := by decide +kernel
theorem dX7_hole_39 : decode cX7_hole 39 = .ok (.iaload, 1) := by decide +kernel
theorem dX7_hole_40 : decode cX7_hole 40 = .ok (.iload_n 3, 1) := by decide +kernel
theorem dX7_hole_41 : decode cX7_hole 41 = .ok (.iand, 1) := by decide +kernel
theorem dX7_hole_42 : decode cX7_hole 42 = .ok (.ifCond .eq 13, 3) := by decide +kernel
theorem dX7_hole_45 : decode cX7_hole 45 = .ok (.aload_n 0, 1) := by decide +kernel
theorem dX7_hole_46 : decode cX7_hole 46 = .ok (.getfield 9, 3) := by decide +kernel
theorem dX7_hole_49 : decode cX7_hole 49 = .ok (.iload_n 1, 1) := by decide +kernel
theorem dX7_hole_50 : decode cX7_hole 50 = .ok (.iaload, 1) := by decide +kernel
theorem dX7_hole_51 : decode cX7_hole 51 = .ok (.iload_n 3, 1) := by decide +kernel
theorem dX7_hole_52 : decode cX7_hole 52 = .ok (.if_icmp .ne 6, 3) := by decide +kernel
theorem dX7_hole_55 : decode cX7_hole 55 = .ok (.bipush (-3), 2) := by decide +kernel
theorem dX7_hole_57 : decode cX7_hole 57 = .ok (.ireturn, 1) := by decide +kernel
theorem dX7_hole_58 : decode cX7_hole 58 = .ok (.aload_n 0, 1) := by decide +kernel
theorem dX7_hole_59 : decode cX7_hole 59 = .ok (.getfield 9, 3) := by decide +kernel
theorem dX7_hole_62 : decode cX7_hole 62 = .ok (.iload_n 1, 1) := by decide +kernel
theorem dX7_hole_63 : decode cX7_hole 63 = .ok (.dup2, 1) := by decide +kernel
theorem dX7_hole_64 : decode cX7_hole 64 = .ok (.iaload, 1) := by decide +kernel
theorem dX7_hole_65 : decode cX7_hole 65 = .ok (.iload_n 3, 1) := by decide +kernel
theorem dX7_hole_66 : decode cX7_hole 66 = .ok (.iconst (-1), 1) := by decide +kernel
theorem dX7_hole_67 : decode cX7_hole 67 = .ok (.ixor, 1) := by decide +kernel
theorem dX7_hole_68 : decode cX7_hole 68 = .ok (.iand, 1) := by decide +kernel
theorem dX7_hole_69 : decode cX7_hole 69 = .ok (.iastore, 1) := by decide +kernel
theorem dX7_hole_70 : decode cX7_hole 70 = .ok (.aload_n 0, 1) := by decide +kernel
theorem dX7_hole_71 : decode cX7_hole 71 = .ok (.invokevirtual 91, 3) := by decide +kernel
theorem dX7_hole_74 : decode cX7_hole 74 = .ok (.aload_n 0, 1) := by decide +kernel
theorem dX7_hole_75 : decode cX7_hole 75 = .ok (.getfield 9, 3) := by decide +kernel
theorem dX7_hole_78 : decode cX7_hole 78 = .ok (.iload_n 1, 1) := by decide +kernel
theorem dX7_hole_79 : decode cX7_hole 79 = .ok (.iaload, 1) := by decide +kernel
theorem dX7_hole_80 : decode cX7_hole 80 = .ok (.invokestatic 101, 3) := by decide +kernel
theorem dX7_hole_83 : decode cX7_hole 83 = .ok (.ireturn, 1) := by decide +kernel
theorem dX7_rule_0 : decode cX7_rule 0 = .ok (.iload_n 1, 1) := by decide +kernel
theorem dX7_rule_1 : decode cX7_rule 1 = .ok (.ifCond .lt 17, 3) := by decide +kernel
theorem dX7_rule_4 : decode cX7_rule 4 = .ok (.iload_n 1, 1) := by decide +kernel
theorem dX7_rule_5 : decode cX7_rule 5 = .ok (.iconst 5, 1) := by decide +kernel
theorem dX7_rule_6 : decode cX7_rule 6 = .ok (.if_icmp .gt 12, 3) := by decide +kernel
theorem dX7_rule_9 : decode cX7_rule 9 = .ok (.iload_n 1, 1) := by decide +kernel
theorem dX7_rule_10 : decode cX7_rule 10 = .ok (.iload_n 2, 1) := by decide +kernel
theorem dX7_rule_11 : decode cX7_rule 11 = .ok (.iload_n 3, 1) := by decide +kernel
theorem dX7_rule_12 : decode cX7_rule 12 = .ok (.invokestatic 107, 3) := by decide +kernel
theorem dX7_rule_15 : decode cX7_rule 15 = .ok (.ifCond .ne 6, 3) := by decide +kernel
theorem dX7_rule_18 : decode cX7_rule 18 = .ok (.bipush (-2), 2) := by decide +kernel
theorem dX7_rule_20 : decode cX7_rule 20 = .ok (.ireturn, 1) := by decide +kernel
theorem dX7_rule_21 : decode cX7_rule 21 = .ok (.aload_n 0, 1) := by decide +kernel
theorem dX7_rule_22 : decode cX7_rule 22 = .ok (.getfield 25, 3) := by decide +kernel
theorem dX7_rule_25 : decode cX7_rule 25 = .ok (.getfield 85, 3) := by decide +kernel
theorem dX7_rule_28 : decode cX7_rule 28 = .ok (.ifCond .le 6, 3) := by decide +kernel
theorem dX7_rule_31 : decode cX7_rule 31 = .ok (.bipush (-3), 2) := by decide +kernel
theorem dX7_rule_33 : decode cX7_rule 33 = .ok (.ireturn, 1) := by decide +kernel
theorem dX7_rule_34 : decode cX7_rule 34 = .ok (.aload_n 0, 1) := by decide +kernel
theorem dX7_rule_35 : decode cX7_rule 35 = .ok (.getfield 111, 3) := by decide +kernel
theorem dX7_rule_38 : decode cX7_rule 38 = .ok (.bipush 16, 2) := by decide +kernel
theorem dX7_rule_40 : decode cX7_rule 40 = .ok (.if_icmp .lt 6, 3) := by decide +kernel
theorem dX7_rule_43 : decode cX7_rule 43 = .ok (.bipush (-4), 2) := by decide +kernel
theorem dX7_rule_45 : decode cX7_rule 45 = .ok (.ireturn, 1) := by decide +kernel
theorem dX7_rule_46 : decode cX7_rule 46 = .ok (.aload_n 0, 1) := by decide +kernel
theorem dX7_rule_47 : decode cX7_rule 47 = .ok (.getfield 18, 3) := by decide +kernel
theorem dX7_rule_50 : decode cX7_rule 50 = .ok (.aload_n 0, 1) := by decide +kernel
theorem dX7_rule_51 : decode cX7_rule 51 = .ok (.getfield 111, 3) := by decide +kernel
theorem dX7_rule_54 : decode cX7_rule 54 = .ok (.aaload, 1) := by decide +kernel
theorem dX7_rule_55 : decode cX7_rule 55 = .ok (.iload_n 1, 1) := by decide +kernel
theorem dX7_rule_56 : decode cX7_rule 56 = .ok (.iload_n 2, 1) := by decide +kernel
theorem dX7_rule_57 : decode cX7_rule 57 = .ok (.iload_n 3, 1) := by decide +kernel
theorem dX7_rule_58 : decode cX7_rule 58 = .ok (.invokevirtual 114, 3) := by decide +kernel
theorem dX7_rule_61 : decode cX7_rule 61 = .ok (.aload_n 0, 1) := by decide +kernel
theorem dX7_rule_62 : decode cX7_rule 62 = .ok (.dup, 1) := by decide +kernel
theorem dX7_rule_63 : decode cX7_rule 63 = .ok (.getfield 118, 3) := by decide +kernel
theorem dX7_rule_66 : decode cX7_rule 66 = .ok (.lconst 1, 1) := by decide +kernel
theorem dX7_rule_67 : decode cX7_rule 67 = .ok (.aload_n 0, 1) := by decide +kernel
theorem dX7_rule_68 : decode cX7_rule 68 = .ok (.getfield 111, 3) := by decide +kernel
theorem dX7_rule_71 : decode cX7_rule 71 = .ok (.lshl, 1) := by decide +kernel
theorem dX7_rule_72 : decode cX7_rule 72 = .ok (.lor, 1) := by decide +kernel
theorem dX7_rule_73 : decode cX7_rule 73 = .ok (.putfield 118, 3) := by decide +kernel
theorem dX7_rule_76 : decode cX7_rule 76 = .ok (.aload_n 0, 1) := by decide +kernel
theorem dX7_rule_77 : decode cX7_rule 77 = .ok (.dup, 1) := by decide +kernel
theorem dX7_rule_78 : decode cX7_rule 78 = .ok (.getfield 111, 3) := by decide +kernel
theorem dX7_rule_81 : decode cX7_rule 81 = .ok (.iconst 1, 1) := by decide +kernel
theorem dX7_rule_82 : decode cX7_rule 82 = .ok (.iadd, 1) := by decide +kernel
theorem dX7_rule_83 : decode cX7_rule 83 = .ok (.putfield 111, 3) := by decide +kernel
theorem dX7_rule_86 : decode cX7_rule 86 = .ok (.aload_n 0, 1) := by decide +kernel
theorem dX7_rule_87 : decode cX7_rule 87 = .ok (.invokevirtual 91, 3) := by decide +kernel
theorem dX7_rule_90 : decode cX7_rule 90 = .ok (.aload_n 0, 1) := by decide +kernel
theorem dX7_rule_91 : decode cX7_rule 91 = .ok (.getfield 111, 3) := by decide +kernel
theorem dX7_rule_94 : decode cX7_rule 94 = .ok (.iconst 1, 1) := by decide +kernel
theorem dX7_rule_95 : decode cX7_rule 95 = .ok (.isub, 1) := by decide +kernel
theorem dX7_rule_96 : decode cX7_rule 96 = .ok (.ireturn, 1) := by decide +kernel
theorem dX7_mayBeSet_0 : decode cX7_mayBeSet 0 = .ok (.iload_n 0, 1) := by decide +kernel
theorem dX7_mayBeSet_1 : decode cX7_mayBeSet 1 = .ok (.tableswitch 92 0 3 #[31, 92, 60, 76], 31) := by decide +kernel
theorem dX7_mayBeSet_32 : decode cX7_mayBeSet 32 = .ok (.iload_n 1, 1) := by decide +kernel
theorem dX7_mayBeSet_33 : decode cX7_mayBeSet 33 = .ok (.ifCond .lt 26, 3) := by decide +kernel
theorem dX7_mayBeSet_36 : decode cX7_mayBeSet 36 = .ok (.iload_n 1, 1) := by decide +kernel
theorem dX7_mayBeSet_37 : decode cX7_mayBeSet 37 = .ok (.iconst 2, 1) := by decide +kernel
theorem dX7_mayBeSet_38 : decode cX7_mayBeSet 38 = .ok (.if_icmp .gt 21, 3) := by decide +kernel
theorem dX7_mayBeSet_41 : decode cX7_mayBeSet 41 = .ok (.iload_n 2, 1) := by decide +kernel
theorem dX7_mayBeSet_42 : decode cX7_mayBeSet 42 = .ok (.sipush (-1000), 3) := by decide +kernel
theorem dX7_mayBeSet_45 : decode cX7_mayBeSet 45 = .ok (.if_icmp .lt 14, 3) := by decide +kernel
theorem dX7_mayBeSet_48 : decode cX7_mayBeSet 48 = .ok (.iload_n 2, 1) := by decide +kernel
theorem dX7_mayBeSet_49 : decode cX7_mayBeSet 49 = .ok (.sipush 1000, 3) := by decide +kernel
theorem dX7_mayBeSet_52 : decode cX7_mayBeSet 52 = .ok (.if_icmp .gt 7, 3) := by decide +kernel
theorem dX7_mayBeSet_55 : decode cX7_mayBeSet 55 = .ok (.iconst 1, 1) := by decide +kernel
theorem dX7_mayBeSet_56 : decode cX7_mayBeSet 56 = .ok (.goto 4, 3) := by decide +kernel
theorem dX7_mayBeSet_59 : decode cX7_mayBeSet 59 = .ok (.iconst 0, 1) := by decide +kernel
theorem dX7_mayBeSet_60 : decode cX7_mayBeSet 60 = .ok (.ireturn, 1) := by decide +kernel
theorem dX7_mayBeSet_61 : decode cX7_mayBeSet 61 = .ok (.iload_n 1, 1) := by decide +kernel
theorem dX7_mayBeSet_62 : decode cX7_mayBeSet 62 = .ok (.ifCond .lt 13, 3) := by decide +kernel
theorem dX7_mayBeSet_65 : decode cX7_mayBeSet 65 = .ok (.iload_n 1, 1) := by decide +kernel
theorem dX7_mayBeSet_66 : decode cX7_mayBeSet 66 = .ok (.bipush 6, 2) := by decide +kernel
theorem dX7_mayBeSet_68 : decode cX7_mayBeSet 68 = .ok (.if_icmp .ge 7, 3) := by decide +kernel
theorem dX7_mayBeSet_71 : decode cX7_mayBeSet 71 = .ok (.iconst 1, 1) := by decide +kernel
theorem dX7_mayBeSet_72 : decode cX7_mayBeSet 72 = .ok (.goto 4, 3) := by decide +kernel
theorem dX7_mayBeSet_75 : decode cX7_mayBeSet 75 = .ok (.iconst 0, 1) := by decide +kernel
theorem dX7_mayBeSet_76 : decode cX7_mayBeSet 76 = .ok (.ireturn, 1) := by decide +kernel
theorem dX7_mayBeSet_77 : decode cX7_mayBeSet 77 = .ok (.iload_n 1, 1) := by decide +kernel
theorem dX7_mayBeSet_78 : decode cX7_mayBeSet 78 = .ok (.ifCond .lt 13, 3) := by decide +kernel
theorem dX7_mayBeSet_81 : decode cX7_mayBeSet 81 = .ok (.iload_n 1, 1) := by decide +kernel
theorem dX7_mayBeSet_82 : decode cX7_mayBeSet 82 = .ok (.bipush 100, 2) := by decide +kernel
theorem dX7_mayBeSet_84 : decode cX7_mayBeSet 84 = .ok (.if_icmp .gt 7, 3) := by decide +kernel
theorem dX7_mayBeSet_87 : decode cX7_mayBeSet 87 = .ok (.iconst 1, 1) := by decide +kernel
theorem dX7_mayBeSet_88 : decode cX7_mayBeSet 88 = .ok (.goto 4, 3) := by decide +kernel
theorem dX7_mayBeSet_91 : decode cX7_mayBeSet 91 = .ok (.iconst 0, 1) := by decide +kernel
theorem dX7_mayBeSet_92 : decode cX7_mayBeSet 92 = .ok (.ireturn, 1) := by decide +kernel
theorem dX7_mayBeSet_93 : decode cX7_mayBeSet 93 = .ok (.iconst 1, 1) := by decide +kernel
theorem dX7_mayBeSet_94 : decode cX7_mayBeSet 94 = .ok (.ireturn, 1) := by decide +kernel
theorem dX7_part_0 : decode cX7_part 0 = .ok (.aload_n 0, 1) := by decide +kernel
theorem dX7_part_1 : decode cX7_part 1 = .ok (.iload_n 1, 1) := by decide +kernel
theorem dX7_part_2 : decode cX7_part 2 = .ok (.invokevirtual 122, 3) := by decide +kernel
theorem dX7_part_5 : decode cX7_part 5 = .ok (.ifCond .eq 11, 3) := by decide +kernel
theorem dX7_part_8 : decode cX7_part 8 = .ok (.aload_n 0, 1) := by decide +kernel
theorem dX7_part_9 : decode cX7_part 9 = .ok (.iload_n 2, 1) := by decide +kernel
theorem dX7_part_10 : decode cX7_part 10 = .ok (.invokevirtual 94, 3) := by decide +kernel
theorem dX7_part_13 : decode cX7_part 13 = .ok (.ifCond .ne 5, 3) := by decide +kernel
theorem dX7_part_16 : decode cX7_part 16 = .ok (.iconst (-1), 1) := by decide +kernel
theorem dX7_part_17 : decode cX7_part 17 = .ok (.ireturn, 1) := by decide +kernel
theorem dX7_part_18 : decode cX7_part 18 = .ok (.aload_n 0, 1) := by decide +kernel
theorem dX7_part_19 : decode cX7_part 19 = .ok (.getfield 18, 3) := by decide +kernel
theorem dX7_part_22 : decode cX7_part 22 = .ok (.iload_n 1, 1) := by decide +kernel
theorem dX7_part_23 : decode cX7_part 23 = .ok (.aaload, 1) := by decide +kernel
theorem dX7_part_24 : decode cX7_part 24 = .ok (.astore 5, 2) := by decide +kernel
theorem dX7_part_26 : decode cX7_part 26 = .ok (.aload 5, 2) := by decide +kernel
theorem dX7_part_28 : decode cX7_part 28 = .ok (.getfield 125, 3) := by decide +kernel
theorem dX7_part_31 : decode cX7_part 31 = .ok (.iconst 5, 1) := by decide +kernel
theorem dX7_part_32 : decode cX7_part 32 = .ok (.if_icmp .ne 10, 3) := by decide +kernel
theorem dX7_part_35 : decode cX7_part 35 = .ok (.aload_n 0, 1) := by decide +kernel
theorem dX7_part_36 : decode cX7_part 36 = .ok (.bipush (-13), 2) := by decide +kernel
theorem dX7_part_38 : decode cX7_part 38 = .ok (.invokevirtual 128, 3) := by decide +kernel
theorem dX7_part_41 : decode cX7_part 41 = .ok (.ireturn, 1) := by decide +kernel
theorem dX7_part_42 : decode cX7_part 42 = .ok (.aload 5, 2) := by decide +kernel
theorem dX7_part_44 : decode cX7_part 44 = .ok (.getfield 125, 3) := by decide +kernel
theorem dX7_part_47 : decode cX7_part 47 = .ok (.iload_n 3, 1) := by decide +kernel
theorem dX7_part_48 : decode cX7_part 48 = .ok (.iload 4, 2) := by decide +kernel
theorem dX7_part_50 : decode cX7_part 50 = .ok (.invokestatic 131, 3) := by decide +kernel
theorem dX7_part_53 : decode cX7_part 53 = .ok (.ifCond .ne 6, 3) := by decide +kernel
theorem dX7_part_56 : decode cX7_part 56 = .ok (.bipush (-2), 2) := by decide +kernel
theorem dX7_part_58 : decode cX7_part 58 = .ok (.ireturn, 1) := by decide +kernel
theorem dX7_part_59 : decode cX7_part 59 = .ok (.aload_n 0, 1) := by decide +kernel
theorem dX7_part_60 : decode cX7_part 60 = .ok (.getfield 25, 3) := by decide +kernel
theorem dX7_part_63 : decode cX7_part 63 = .ok (.getfield 85, 3) := by decide +kernel
theorem dX7_part_66 : decode cX7_part 66 = .ok (.ifCond .gt 12, 3) := by decide +kernel
theorem dX7_part_69 : decode cX7_part 69 = .ok (.aload 5, 2) := by decide +kernel
theorem dX7_part_71 : decode cX7_part 71 = .ok (.iload_n 2, 1) := by decide +kernel
theorem dX7_part_72 : decode cX7_part 72 = .ok (.invokevirtual 134, 3) := by decide +kernel
theorem dX7_part_75 : decode cX7_part 75 = .ok (.ifCond .eq 6, 3) := by decide +kernel
theorem dX7_part_78 : decode cX7_part 78 = .ok (.bipush (-3), 2) := by decide +kernel
theorem dX7_part_80 : decode cX7_part 80 = .ok (.ireturn, 1) := by decide +kernel
theorem dX7_part_81 : decode cX7_part 81 = .ok (.aload 5, 2) := by decide +kernel
theorem dX7_part_83 : decode cX7_part 83 = .ok (.getfield 137, 3) := by decide +kernel
theorem dX7_part_86 : decode cX7_part 86 = .ok (.bipush 6, 2) := by decide +kernel
theorem dX7_part_88 : decode cX7_part 88 = .ok (.if_icmp .lt 6, 3) := by decide +kernel
theorem dX7_part_91 : decode cX7_part 91 = .ok (.bipush (-4), 2) := by decide +kernel
theorem dX7_part_93 : decode cX7_part 93 = .ok (.ireturn, 1) := by decide +kernel
theorem dX7_part_94 : decode cX7_part 94 = .ok (.aload 5, 2) := by decide +kernel
theorem dX7_part_96 : decode cX7_part 96 = .ok (.iload_n 2, 1) := by decide +kernel
theorem dX7_part_97 : decode cX7_part 97 = .ok (.iload_n 3, 1) := by decide +kernel
theorem dX7_part_98 : decode cX7_part 98 = .ok (.iload 4, 2) := by decide +kernel
theorem dX7_part_100 : decode cX7_part 100 = .ok (.invokevirtual 140, 3) := by decide +kernel
theorem dX7_part_103 : decode cX7_part 103 = .ok (.aload_n 0, 1) := by decide +kernel
theorem dX7_part_104 : decode cX7_part 104 = .ok (.invokevirtual 91, 3) := by decide +kernel
theorem dX7_part_107 : decode cX7_part 107 = .ok (.aload 5, 2) := by decide +kernel
theorem dX7_part_109 : decode cX7_part 109 = .ok (.getfield 137, 3) := by decide +kernel
theorem dX7_part_112 : decode cX7_part 112 = .ok (.ireturn, 1) := by decide +kernel
theorem dX7_mayBePart_0 : decode cX7_mayBePart 0 = .ok (.iload_n 0, 1) := by decide +kernel
theorem dX7_mayBePart_1 : decode cX7_mayBePart 1 = .ok (.lookupswitch 75 #[(0, 27), (3, 49)], 27) := by decide +kernel
theorem dX7_mayBePart_28 : decode cX7_mayBePart 28 = .ok (.iload_n 1, 1) := by decide +kernel
theorem dX7_mayBePart_29 : decode cX7_mayBePart 29 = .ok (.bipush (-9), 2) := by decide +kernel
theorem dX7_mayBePart_31 : decode cX7_mayBePart 31 = .ok (.if_icmp .lt 17, 3) := by decide +kernel
theorem dX7_mayBePart_34 : decode cX7_mayBePart 34 = .ok (.iload_n 1, 1) := by decide +kernel
theorem dX7_mayBePart_35 : decode cX7_mayBePart 35 = .ok (.bipush 9, 2) := by decide +kernel
theorem dX7_mayBePart_37 : decode cX7_mayBePart 37 = .ok (.if_icmp .gt 11, 3) := by decide +kernel
theorem dX7_mayBePart_40 : decode cX7_mayBePart 40 = .ok (.iload_n 1, 1) := by decide +kernel
theorem dX7_mayBePart_41 : decode cX7_mayBePart 41 = .ok (.ifCond .eq 7, 3) := by decide +kernel
theorem dX7_mayBePart_44 : decode cX7_mayBePart 44 = .ok (.iconst 1, 1) := by decide +kernel
theorem dX7_mayBePart_45 : decode cX7_mayBePart 45 = .ok (.goto 4, 3) := by decide +kernel
theorem dX7_mayBePart_48 : decode cX7_mayBePart 48 = .ok (.iconst 0, 1) := by decide +kernel
theorem dX7_mayBePart_49 : decode cX7_mayBePart 49 = .ok (.ireturn, 1) := by decide +kernel
theorem dX7_mayBePart_50 : decode cX7_mayBePart 50 = .ok (.iload_n 1, 1) := by decide +kernel
theorem dX7_mayBePart_51 : decode cX7_mayBePart 51 = .ok (.ifCond .lt 23, 3) := by decide +kernel
theorem dX7_mayBePart_54 : decode cX7_mayBePart 54 = .ok (.iload_n 1, 1) := by decide +kernel
theorem dX7_mayBePart_55 : decode cX7_mayBePart 55 = .ok (.bipush 15, 2) := by decide +kernel
theorem dX7_mayBePart_57 : decode cX7_mayBePart 57 = .ok (.if_icmp .gt 17, 3) := by decide +kernel
theorem dX7_mayBePart_60 : decode cX7_mayBePart 60 = .ok (.iload_n 2, 1) := by decide +kernel
theorem dX7_mayBePart_61 : decode cX7_mayBePart 61 = .ok (.ifCond .lt 13, 3) := by decide +kernel
theorem dX7_mayBePart_64 : decode cX7_mayBePart 64 = .ok (.iload_n 2, 1) := by decide +kernel
theorem dX7_mayBePart_65 : decode cX7_mayBePart 65 = .ok (.bipush 20, 2) := by decide +kernel
theorem dX7_mayBePart_67 : decode cX7_mayBePart 67 = .ok (.if_icmp .gt 7, 3) := by decide +kernel
theorem dX7_mayBePart_70 : decode cX7_mayBePart 70 = .ok (.iconst 1, 1) := by decide +kernel
theorem dX7_mayBePart_71 : decode cX7_mayBePart 71 = .ok (.goto 4, 3) := by decide +kernel
theorem dX7_mayBePart_74 : decode cX7_mayBePart 74 = .ok (.iconst 0, 1) := by decide +kernel
theorem dX7_mayBePart_75 : decode cX7_mayBePart 75 = .ok (.ireturn, 1) := by decide +kernel
theorem dX7_mayBePart_76 : decode cX7_mayBePart 76 = .ok (.iconst 1, 1) := by decide +kernel
theorem dX7_mayBePart_77 : decode cX7_mayBePart 77 = .ok (.ireturn, 1) := by decide +kernel
theorem dX7_literal_0 : decode cX7_literal 0 = .ok (.aload_n 0, 1) := by decide +kernel
theorem dX7_literal_1 : decode cX7_literal 1 = .ok (.iload_n 1, 1) := by decide +kernel
theorem dX7_literal_2 : decode cX7_literal 2 = .ok (.invokevirtual 122, 3) := by decide +kernel
theorem dX7_literal_5 : decode cX7_literal 5 = .ok (.ifCond .eq 11, 3) := by decide +kernel
theorem dX7_literal_8 : decode cX7_literal 8 = .ok (.aload_n 0, 1) := by decide +kernel
theorem dX7_literal_9 : decode cX7_literal 9 = .ok (.iload_n 2, 1) := by decide +kernel
theorem dX7_literal_10 : decode cX7_literal 10 = .ok (.invokevirtual 94, 3) := by decide +kernel
theorem dX7_literal_13 : decode cX7_literal 13 = .ok (.ifCond .ne 5, 3) := by decide +kernel
theorem dX7_literal_16 : decode cX7_literal 16 = .ok (.iconst (-1), 1) := by decide +kernel
theorem dX7_literal_17 : decode cX7_literal 17 = .ok (.ireturn, 1) := by decide +kernel
theorem dX7_literal_18 : decode cX7_literal 18 = .ok (.aload_n 0, 1) := by decide +kernel
theorem dX7_literal_19 : decode cX7_literal 19 = .ok (.getfield 18, 3) := by decide +kernel
theorem dX7_literal_22 : decode cX7_literal 22 = .ok (.iload_n 1, 1) := by decide +kernel
theorem dX7_literal_23 : decode cX7_literal 23 = .ok (.aaload, 1) := by decide +kernel
theorem dX7_literal_24 : decode cX7_literal 24 = .ok (.astore 5, 2) := by decide +kernel
theorem dX7_literal_26 : decode cX7_literal 26 = .ok (.aload 5, 2) := by decide +kernel
theorem dX7_literal_28 : decode cX7_literal 28 = .ok (.getfield 125, 3) := by decide +kernel
theorem dX7_literal_31 : decode cX7_literal 31 = .ok (.iconst 5, 1) := by decide +kernel
theorem dX7_literal_32 : decode cX7_literal 32 = .ok (.if_icmp .eq 10, 3) := by decide +kernel
theorem dX7_literal_35 : decode cX7_literal 35 = .ok (.aload_n 0, 1) := by decide +kernel
theorem dX7_literal_36 : decode cX7_literal 36 = .ok (.bipush (-13), 2) := by decide +kernel
theorem dX7_literal_38 : decode cX7_literal 38 = .ok (.invokevirtual 128, 3) := by decide +kernel
theorem dX7_literal_41 : decode cX7_literal 41 = .ok (.ireturn, 1) := by decide +kernel
theorem dX7_literal_42 : decode cX7_literal 42 = .ok (.iload_n 3, 1) := by decide +kernel
theorem dX7_literal_43 : decode cX7_literal 43 = .ok (.iload 4, 2) := by decide +kernel
theorem dX7_literal_45 : decode cX7_literal 45 = .ok (.invokestatic 143, 3) := by decide +kernel
theorem dX7_literal_48 : decode cX7_literal 48 = .ok (.ifCond .ne 6, 3) := by decide +kernel
theorem dX7_literal_51 : decode cX7_literal 51 = .ok (.bipush (-2), 2) := by decide +kernel
theorem dX7_literal_53 : decode cX7_literal 53 = .ok (.ireturn, 1) := by decide +kernel
theorem dX7_literal_54 : decode cX7_literal 54 = .ok (.aload_n 0, 1) := by decide +kernel
theorem dX7_literal_55 : decode cX7_literal 55 = .ok (.getfield 25, 3) := by decide +kernel
theorem dX7_literal_58 : decode cX7_literal 58 = .ok (.getfield 85, 3) := by decide +kernel
theorem dX7_literal_61 : decode cX7_literal 61 = .ok (.ifCond .le 6, 3) := by decide +kernel
theorem dX7_literal_64 : decode cX7_literal 64 = .ok (.bipush (-3), 2) := by decide +kernel
theorem dX7_literal_66 : decode cX7_literal 66 = .ok (.ireturn, 1) := by decide +kernel
theorem dX7_literal_67 : decode cX7_literal 67 = .ok (.aload 5, 2) := by decide +kernel
theorem dX7_literal_69 : decode cX7_literal 69 = .ok (.getfield 137, 3) := by decide +kernel
theorem dX7_literal_72 : decode cX7_literal 72 = .ok (.bipush 6, 2) := by decide +kernel
theorem dX7_literal_74 : decode cX7_literal 74 = .ok (.if_icmp .lt 6, 3) := by decide +kernel
theorem dX7_literal_77 : decode cX7_literal 77 = .ok (.bipush (-4), 2) := by decide +kernel
theorem dX7_literal_79 : decode cX7_literal 79 = .ok (.ireturn, 1) := by decide +kernel
theorem dX7_literal_80 : decode cX7_literal 80 = .ok (.aload 5, 2) := by decide +kernel
theorem dX7_literal_82 : decode cX7_literal 82 = .ok (.iload_n 2, 1) := by decide +kernel
theorem dX7_literal_83 : decode cX7_literal 83 = .ok (.iload_n 3, 1) := by decide +kernel
theorem dX7_literal_84 : decode cX7_literal 84 = .ok (.iload 4, 2) := by decide +kernel
theorem dX7_literal_86 : decode cX7_literal 86 = .ok (.invokestatic 147, 3) := by decide +kernel
theorem dX7_literal_89 : decode cX7_literal 89 = .ok (.iconst 0, 1) := by decide +kernel
theorem dX7_literal_90 : decode cX7_literal 90 = .ok (.invokevirtual 140, 3) := by decide +kernel
theorem dX7_literal_93 : decode cX7_literal 93 = .ok (.aload_n 0, 1) := by decide +kernel
theorem dX7_literal_94 : decode cX7_literal 94 = .ok (.invokevirtual 91, 3) := by decide +kernel
theorem dX7_literal_97 : decode cX7_literal 97 = .ok (.aload 5, 2) := by decide +kernel
theorem dX7_literal_99 : decode cX7_literal 99 = .ok (.getfield 137, 3) := by decide +kernel
theorem dX7_literal_102 : decode cX7_literal 102 = .ok (.ireturn, 1) := by decide +kernel
theorem dX7_stand_0 : decode cX7_stand 0 = .ok (.aload_n 0, 1) := by decide +kernel
theorem dX7_stand_1 : decode cX7_stand 1 = .ok (.iload_n 1, 1) := by decide +kernel
theorem dX7_stand_2 : decode cX7_stand 2 = .ok (.invokevirtual 122, 3) := by decide +kernel
theorem dX7_stand_5 : decode cX7_stand 5 = .ok (.ifCond .ne 5, 3) := by decide +kernel
theorem dX7_stand_8 : decode cX7_stand 8 = .ok (.iconst (-1), 1) := by decide +kernel
theorem dX7_stand_9 : decode cX7_stand 9 = .ok (.ireturn, 1) := by decide +kernel
theorem dX7_stand_10 : decode cX7_stand 10 = .ok (.aload_n 0, 1) := by decide +kernel
theorem dX7_stand_11 : decode cX7_stand 11 = .ok (.getfield 25, 3) := by decide +kernel
theorem dX7_stand_14 : decode cX7_stand 14 = .ok (.getfield 85, 3) := by decide +kernel
theorem dX7_stand_17 : decode cX7_stand 17 = .ok (.ifCond .le 6, 3) := by decide +kernel
theorem dX7_stand_20 : decode cX7_stand 20 = .ok (.bipush (-3), 2) := by decide +kernel
theorem dX7_stand_22 : decode cX7_stand 22 = .ok (.ireturn, 1) := by decide +kernel
theorem dX7_stand_23 : decode cX7_stand 23 = .ok (.aload_n 0, 1) := by decide +kernel
theorem dX7_stand_24 : decode cX7_stand 24 = .ok (.iload_n 1, 1) := by decide +kernel
theorem dX7_stand_25 : decode cX7_stand 25 = .ok (.invokevirtual 151, 3) := by decide +kernel
theorem dX7_stand_28 : decode cX7_stand 28 = .ok (.ifCond .eq 7, 3) := by decide +kernel
theorem dX7_stand_31 : decode cX7_stand 31 = .ok (.iconst 1, 1) := by decide +kernel
theorem dX7_stand_32 : decode cX7_stand 32 = .ok (.goto 4, 3) := by decide +kernel
theorem dX7_stand_35 : decode cX7_stand 35 = .ok (.iconst 0, 1) := by decide +kernel
theorem dX7_stand_36 : decode cX7_stand 36 = .ok (.istore_n 3, 1) := by decide +kernel
theorem dX7_stand_37 : decode cX7_stand 37 = .ok (.iload_n 2, 1) := by decide +kernel
theorem dX7_stand_38 : decode cX7_stand 38 = .ok (.ifCond .eq 18, 3) := by decide +kernel
theorem dX7_stand_41 : decode cX7_stand 41 = .ok (.aload_n 0, 1) := by decide +kernel
theorem dX7_stand_42 : decode cX7_stand 42 = .ok (.dup, 1) := by decide +kernel
theorem dX7_stand_43 : decode cX7_stand 43 = .ok (.getfield 118, 3) := by decide +kernel
theorem dX7_stand_46 : decode cX7_stand 46 = .ok (.lconst 1, 1) := by decide +kernel
theorem dX7_stand_47 : decode cX7_stand 47 = .ok (.iload_n 1, 1) := by decide +kernel
theorem dX7_stand_48 : decode cX7_stand 48 = .ok (.lshl, 1) := by decide +kernel
theorem dX7_stand_49 : decode cX7_stand 49 = .ok (.lor, 1) := by decide +kernel
theorem dX7_stand_50 : decode cX7_stand 50 = .ok (.putfield 118, 3) := by decide +kernel
theorem dX7_stand_53 : decode cX7_stand 53 = .ok (.goto 19, 3) := by decide +kernel
theorem dX7_stand_56 : decode cX7_stand 56 = .ok (.aload_n 0, 1) := by decide +kernel
theorem dX7_stand_57 : decode cX7_stand 57 = .ok (.dup, 1) := by decide +kernel
theorem dX7_stand_58 : decode cX7_stand 58 = .ok (.getfield 118, 3) := by decide +kernel
theorem dX7_stand_61 : decode cX7_stand 61 = .ok (.lconst 1, 1) := by decide +kernel
theorem dX7_stand_62 : decode cX7_stand 62 = .ok (.iload_n 1, 1) := by decide +kernel
theorem dX7_stand_63 : decode cX7_stand 63 = .ok (.lshl, 1) := by decide +kernel
theorem dX7_stand_64 : decode cX7_stand 64 = .ok (.ldc2_w 154, 3) := by decide +kernel
theorem dX7_stand_67 : decode cX7_stand 67 = .ok (.lxor, 1) := by decide +kernel
theorem dX7_stand_68 : decode cX7_stand 68 = .ok (.land, 1) := by decide +kernel
theorem dX7_stand_69 : decode cX7_stand 69 = .ok (.putfield 118, 3) := by decide +kernel
theorem dX7_stand_72 : decode cX7_stand 72 = .ok (.aload_n 0, 1) := by decide +kernel
theorem dX7_stand_73 : decode cX7_stand 73 = .ok (.invokevirtual 91, 3) := by decide +kernel
theorem dX7_stand_76 : decode cX7_stand 76 = .ok (.iload_n 3, 1) := by decide +kernel
theorem dX7_stand_77 : decode cX7_stand 77 = .ok (.ireturn, 1) := by decide +kernel
theorem dX7_table_0 : decode cX7_table 0 = .ok (.iload_n 1, 1) := by decide +kernel
theorem dX7_table_1 : decode cX7_table 1 = .ok (.invokestatic 156, 3) := by decide +kernel
theorem dX7_table_4 : decode cX7_table 4 = .ok (.ifCond .eq 18, 3) := by decide +kernel
theorem dX7_table_7 : decode cX7_table 7 = .ok (.iload_n 2, 1) := by decide +kernel
theorem dX7_table_8 : decode cX7_table 8 = .ok (.ifCond .lt 14, 3) := by decide +kernel
theorem dX7_table_11 : decode cX7_table 11 = .ok (.iload_n 2, 1) := by decide +kernel
theorem dX7_table_12 : decode cX7_table 12 = .ok (.iconst 3, 1) := by decide +kernel
theorem dX7_table_13 : decode cX7_table 13 = .ok (.if_icmp .ge 9, 3) := by decide +kernel
theorem dX7_table_16 : decode cX7_table 16 = .ok (.iload_n 3, 1) := by decide +kernel
theorem dX7_table_17 : decode cX7_table 17 = .ok (.bipush 48, 2) := by decide +kernel
theorem dX7_table_19 : decode cX7_table 19 = .ok (.if_icmp .le 6, 3) := by decide +kernel
theorem dX7_table_22 : decode cX7_table 22 = .ok (.bipush (-2), 2) := by decide +kernel
theorem dX7_table_24 : decode cX7_table 24 = .ok (.ireturn, 1) := by decide +kernel
theorem dX7_table_25 : decode cX7_table 25 = .ok (.aload_n 0, 1) := by decide +kernel
theorem dX7_table_26 : decode cX7_table 26 = .ok (.getfield 25, 3) := by decide +kernel
theorem dX7_table_29 : decode cX7_table 29 = .ok (.getfield 85, 3) := by decide +kernel
theorem dX7_table_32 : decode cX7_table 32 = .ok (.ifCond .le 6, 3) := by decide +kernel
theorem dX7_table_35 : decode cX7_table 35 = .ok (.bipush (-3), 2) := by decide +kernel
theorem dX7_table_37 : decode cX7_table 37 = .ok (.ireturn, 1) := by decide +kernel
theorem dX7_table_38 : decode cX7_table 38 = .ok (.iload_n 3, 1) := by decide +kernel
theorem dX7_table_39 : decode cX7_table 39 = .ok (.ifCond .ge 10, 3) := by decide +kernel
theorem dX7_table_42 : decode cX7_table 42 = .ok (.aload_n 0, 1) := by decide +kernel
theorem dX7_table_43 : decode cX7_table 43 = .ok (.bipush (-14), 2) := by decide +kernel
theorem dX7_table_45 : decode cX7_table 45 = .ok (.invokevirtual 128, 3) := by decide +kernel
theorem dX7_table_48 : decode cX7_table 48 = .ok (.ireturn, 1) := by decide +kernel
theorem dX7_table_49 : decode cX7_table 49 = .ok (.aload_n 0, 1) := by decide +kernel
theorem dX7_table_50 : decode cX7_table 50 = .ok (.getfield 60, 3) := by decide +kernel
theorem dX7_table_53 : decode cX7_table 53 = .ok (.iload_n 1, 1) := by decide +kernel
theorem dX7_table_54 : decode cX7_table 54 = .ok (.iload_n 3, 1) := by decide +kernel
theorem dX7_table_55 : decode cX7_table 55 = .ok (.invokevirtual 159, 3) := by decide +kernel
theorem dX7_table_58 : decode cX7_table 58 = .ok (.aload_n 0, 1) := by decide +kernel
theorem dX7_table_59 : decode cX7_table 59 = .ok (.invokevirtual 91, 3) := by decide +kernel
theorem dX7_table_62 : decode cX7_table 62 = .ok (.iload_n 3, 1) := by decide +kernel
theorem dX7_table_63 : decode cX7_table 63 = .ok (.ireturn, 1) := by decide +kernel
theorem dX7_tear_0 : decode cX7_tear 0 = .ok (.iload_n 1, 1) := by decide +kernel
theorem dX7_tear_1 : decode cX7_tear 1 = .ok (.invokestatic 156, 3) := by decide +kernel
theorem dX7_tear_4 : decode cX7_tear 4 = .ok (.ifCond .ne 6, 3) := by decide +kernel
theorem dX7_tear_7 : decode cX7_tear 7 = .ok (.bipush (-2), 2) := by decide +kernel
theorem dX7_tear_9 : decode cX7_tear 9 = .ok (.ireturn, 1) := by decide +kernel
theorem dX7_tear_10 : decode cX7_tear 10 = .ok (.aload_n 0, 1) := by decide +kernel
theorem dX7_tear_11 : decode cX7_tear 11 = .ok (.getfield 25, 3) := by decide +kernel
theorem dX7_tear_14 : decode cX7_tear 14 = .ok (.getfield 85, 3) := by decide +kernel
theorem dX7_tear_17 : decode cX7_tear 17 = .ok (.ifCond .le 6, 3) := by decide +kernel
theorem dX7_tear_20 : decode cX7_tear 20 = .ok (.bipush (-3), 2) := by decide +kernel
theorem dX7_tear_22 : decode cX7_tear 22 = .ok (.ireturn, 1) := by decide +kernel
theorem dX7_tear_23 : decode cX7_tear 23 = .ok (.aload_n 0, 1) := by decide +kernel
theorem dX7_tear_24 : decode cX7_tear 24 = .ok (.getfield 60, 3) := by decide +kernel
theorem dX7_tear_27 : decode cX7_tear 27 = .ok (.iload_n 1, 1) := by decide +kernel
theorem dX7_tear_28 : decode cX7_tear 28 = .ok (.invokevirtual 163, 3) := by decide +kernel
theorem dX7_tear_31 : decode cX7_tear 31 = .ok (.ifCond .eq 7, 3) := by decide +kernel
theorem dX7_tear_34 : decode cX7_tear 34 = .ok (.iconst 1, 1) := by decide +kernel
theorem dX7_tear_35 : decode cX7_tear 35 = .ok (.goto 4, 3) := by decide +kernel
theorem dX7_tear_38 : decode cX7_tear 38 = .ok (.iconst 0, 1) := by decide +kernel
theorem dX7_tear_39 : decode cX7_tear 39 = .ok (.istore_n 2, 1) := by decide +kernel
theorem dX7_tear_40 : decode cX7_tear 40 = .ok (.aload_n 0, 1) := by decide +kernel
theorem dX7_tear_41 : decode cX7_tear 41 = .ok (.getfield 60, 3) := by decide +kernel
theorem dX7_tear_44 : decode cX7_tear 44 = .ok (.getfield 166, 3) := by decide +kernel
theorem dX7_tear_47 : decode cX7_tear 47 = .ok (.iload_n 1, 1) := by decide +kernel
theorem dX7_tear_48 : decode cX7_tear 48 = .ok (.iconst (-1), 1) := by decide +kernel
theorem dX7_tear_49 : decode cX7_tear 49 = .ok (.iastore, 1) := by decide +kernel
theorem dX7_tear_50 : decode cX7_tear 50 = .ok (.aload_n 0, 1) := by decide +kernel
theorem dX7_tear_51 : decode cX7_tear 51 = .ok (.invokevirtual 91, 3) := by decide +kernel
theorem dX7_tear_54 : decode cX7_tear 54 = .ok (.iload_n 2, 1) := by decide +kernel
theorem dX7_tear_55 : decode cX7_tear 55 = .ok (.ireturn, 1) := by decide +kernel
theorem dX7_cell_0 : decode cX7_cell 0 = .ok (.iload_n 1, 1) := by decide +kernel
theorem dX7_cell_1 : decode cX7_cell 1 = .ok (.invokestatic 156, 3) := by decide +kernel
theorem dX7_cell_4 : decode cX7_cell 4 = .ok (.ifCond .eq 10, 3) := by decide +kernel
theorem dX7_cell_7 : decode cX7_cell 7 = .ok (.iload_n 3, 1) := by decide +kernel
theorem dX7_cell_8 : decode cX7_cell 8 = .ok (.invokestatic 98, 3) := by decide +kernel
theorem dX7_cell_11 : decode cX7_cell 11 = .ok (.ifCond .ne 6, 3) := by decide +kernel
theorem dX7_cell_14 : decode cX7_cell 14 = .ok (.bipush (-2), 2) := by decide +kernel
theorem dX7_cell_16 : decode cX7_cell 16 = .ok (.ireturn, 1) := by decide +kernel
theorem dX7_cell_17 : decode cX7_cell 17 = .ok (.aload_n 0, 1) := by decide +kernel
theorem dX7_cell_18 : decode cX7_cell 18 = .ok (.getfield 25, 3) := by decide +kernel
theorem dX7_cell_21 : decode cX7_cell 21 = .ok (.getfield 85, 3) := by decide +kernel
theorem dX7_cell_24 : decode cX7_cell 24 = .ok (.ifCond .le 6, 3) := by decide +kernel
theorem dX7_cell_27 : decode cX7_cell 27 = .ok (.bipush (-3), 2) := by decide +kernel
theorem dX7_cell_29 : decode cX7_cell 29 = .ok (.ireturn, 1) := by decide +kernel
theorem dX7_cell_30 : decode cX7_cell 30 = .ok (.aload_n 0, 1) := by decide +kernel
theorem dX7_cell_31 : decode cX7_cell 31 = .ok (.getfield 60, 3) := by decide +kernel
theorem dX7_cell_34 : decode cX7_cell 34 = .ok (.iload_n 1, 1) := by decide +kernel
theorem dX7_cell_35 : decode cX7_cell 35 = .ok (.invokevirtual 163, 3) := by decide +kernel
theorem dX7_cell_38 : decode cX7_cell 38 = .ok (.ifCond .eq 10, 3) := by decide +kernel
theorem dX7_cell_41 : decode cX7_cell 41 = .ok (.aload_n 0, 1) := by decide +kernel
theorem dX7_cell_42 : decode cX7_cell 42 = .ok (.bipush (-11), 2) := by decide +kernel
theorem dX7_cell_44 : decode cX7_cell 44 = .ok (.invokevirtual 128, 3) := by decide +kernel
theorem dX7_cell_47 : decode cX7_cell 47 = .ok (.ireturn, 1) := by decide +kernel
theorem dX7_cell_48 : decode cX7_cell 48 = .ok (.aload_n 0, 1) := by decide +kernel
theorem dX7_cell_49 : decode cX7_cell 49 = .ok (.getfield 60, 3) := by decide +kernel
theorem dX7_cell_52 : decode cX7_cell 52 = .ok (.iload_n 1, 1) := by decide +kernel
theorem dX7_cell_53 : decode cX7_cell 53 = .ok (.iload_n 2, 1) := by decide +kernel
theorem dX7_cell_54 : decode cX7_cell 54 = .ok (.iconst 1, 1) := by decide +kernel
theorem dX7_cell_55 : decode cX7_cell 55 = .ok (.invokevirtual 168, 3) := by decide +kernel
theorem dX7_cell_58 : decode cX7_cell 58 = .ok (.ifCond .ne 10, 3) := by decide +kernel
theorem dX7_cell_61 : decode cX7_cell 61 = .ok (.aload_n 0, 1) := by decide +kernel
theorem dX7_cell_62 : decode cX7_cell 62 = .ok (.bipush (-12), 2) := by decide +kernel
theorem dX7_cell_64 : decode cX7_cell 64 = .ok (.invokevirtual 128, 3) := by decide +kernel
theorem dX7_cell_67 : decode cX7_cell 67 = .ok (.ireturn, 1) := by decide +kernel
theorem dX7_cell_68 : decode cX7_cell 68 = .ok (.aload_n 0, 1) := by decide +kernel
theorem dX7_cell_69 : decode cX7_cell 69 = .ok (.getfield 60, 3) := by decide +kernel
theorem dX7_cell_72 : decode cX7_cell 72 = .ok (.getfield 171, 3) := by decide +kernel
theorem dX7_cell_75 : decode cX7_cell 75 = .ok (.iload_n 1, 1) := by decide +kernel
theorem dX7_cell_76 : decode cX7_cell 76 = .ok (.aaload, 1) := by decide +kernel
theorem dX7_cell_77 : decode cX7_cell 77 = .ok (.iload_n 2, 1) := by decide +kernel
theorem dX7_cell_78 : decode cX7_cell 78 = .ok (.iload_n 3, 1) := by decide +kernel
theorem dX7_cell_79 : decode cX7_cell 79 = .ok (.iastore, 1) := by decide +kernel
theorem dX7_cell_80 : decode cX7_cell 80 = .ok (.aload_n 0, 1) := by decide +kernel
theorem dX7_cell_81 : decode cX7_cell 81 = .ok (.invokevirtual 91, 3) := by decide +kernel
theorem dX7_cell_84 : decode cX7_cell 84 = .ok (.iconst 1, 1) := by decide +kernel
theorem dX7_cell_85 : decode cX7_cell 85 = .ok (.ireturn, 1) := by decide +kernel
theorem dX7_copy_0 : decode cX7_copy 0 = .ok (.iload_n 1, 1) := by decide +kernel
theorem dX7_copy_1 : decode cX7_copy 1 = .ok (.invokestatic 156, 3) := by decide +kernel
theorem dX7_copy_4 : decode cX7_copy 4 = .ok (.ifCond .eq 15, 3) := by decide +kernel
theorem dX7_copy_7 : decode cX7_copy 7 = .ok (.iload_n 3, 1) := by decide +kernel
theorem dX7_copy_8 : decode cX7_copy 8 = .ok (.invokestatic 156, 3) := by decide +kernel
theorem dX7_copy_11 : decode cX7_copy 11 = .ok (.ifCond .eq 8, 3) := by decide +kernel
theorem dX7_copy_14 : decode cX7_copy 14 = .ok (.iload 5, 2) := by decide +kernel
theorem dX7_copy_16 : decode cX7_copy 16 = .ok (.ifCond .ge 6, 3) := by decide +kernel
theorem dX7_copy_19 : decode cX7_copy 19 = .ok (.bipush (-2), 2) := by decide +kernel
theorem dX7_copy_21 : decode cX7_copy 21 = .ok (.ireturn, 1) := by decide +kernel
theorem dX7_copy_22 : decode cX7_copy 22 = .ok (.aload_n 0, 1) := by decide +kernel
theorem dX7_copy_23 : decode cX7_copy 23 = .ok (.getfield 25, 3) := by decide +kernel
theorem dX7_copy_26 : decode cX7_copy 26 = .ok (.getfield 85, 3) := by decide +kernel
theorem dX7_copy_29 : decode cX7_copy 29 = .ok (.ifCond .le 6, 3) := by decide +kernel
theorem dX7_copy_32 : decode cX7_copy 32 = .ok (.bipush (-3), 2) := by decide +kernel
theorem dX7_copy_34 : decode cX7_copy 34 = .ok (.ireturn, 1) := by decide +kernel
theorem dX7_copy_35 : decode cX7_copy 35 = .ok (.aload_n 0, 1) := by decide +kernel
theorem dX7_copy_36 : decode cX7_copy 36 = .ok (.getfield 60, 3) := by decide +kernel
theorem dX7_copy_39 : decode cX7_copy 39 = .ok (.iload_n 1, 1) := by decide +kernel
theorem dX7_copy_40 : decode cX7_copy 40 = .ok (.invokevirtual 163, 3) := by decide +kernel
theorem dX7_copy_43 : decode cX7_copy 43 = .ok (.ifCond .ne 14, 3) := by decide +kernel
theorem dX7_copy_46 : decode cX7_copy 46 = .ok (.aload_n 0, 1) := by decide +kernel
theorem dX7_copy_47 : decode cX7_copy 47 = .ok (.getfield 60, 3) := by decide +kernel
theorem dX7_copy_50 : decode cX7_copy 50 = .ok (.iload_n 3, 1) := by decide +kernel
theorem dX7_copy_51 : decode cX7_copy 51 = .ok (.invokevirtual 163, 3) := by decide +kernel
theorem dX7_copy_54 : decode cX7_copy 54 = .ok (.ifCond .eq 10, 3) := by decide +kernel
theorem dX7_copy_57 : decode cX7_copy 57 = .ok (.aload_n 0, 1) := by decide +kernel
theorem dX7_copy_58 : decode cX7_copy 58 = .ok (.bipush (-11), 2) := by decide +kernel
theorem dX7_copy_60 : decode cX7_copy 60 = .ok (.invokevirtual 128, 3) := by decide +kernel
theorem dX7_copy_63 : decode cX7_copy 63 = .ok (.ireturn, 1) := by decide +kernel
theorem dX7_copy_64 : decode cX7_copy 64 = .ok (.aload_n 0, 1) := by decide +kernel
theorem dX7_copy_65 : decode cX7_copy 65 = .ok (.getfield 60, 3) := by decide +kernel
theorem dX7_copy_68 : decode cX7_copy 68 = .ok (.iload_n 1, 1) := by decide +kernel
theorem dX7_copy_69 : decode cX7_copy 69 = .ok (.iload_n 2, 1) := by decide +kernel
theorem dX7_copy_70 : decode cX7_copy 70 = .ok (.iload 5, 2) := by decide +kernel
theorem dX7_copy_72 : decode cX7_copy 72 = .ok (.invokevirtual 168, 3) := by decide +kernel
theorem dX7_copy_75 : decode cX7_copy 75 = .ok (.ifCond .eq 18, 3) := by decide +kernel
theorem dX7_copy_78 : decode cX7_copy 78 = .ok (.aload_n 0, 1) := by decide +kernel
theorem dX7_copy_79 : decode cX7_copy 79 = .ok (.getfield 60, 3) := by decide +kernel
theorem dX7_copy_82 : decode cX7_copy 82 = .ok (.iload_n 3, 1) := by decide +kernel
theorem dX7_copy_83 : decode cX7_copy 83 = .ok (.iload 4, 2) := by decide +kernel
theorem dX7_copy_85 : decode cX7_copy 85 = .ok (.iload 5, 2) := by decide +kernel
theorem dX7_copy_87 : decode cX7_copy 87 = .ok (.invokevirtual 168, 3) := by decide +kernel
theorem dX7_copy_90 : decode cX7_copy 90 = .ok (.ifCond .ne 10, 3) := by decide +kernel
theorem dX7_copy_93 : decode cX7_copy 93 = .ok (.aload_n 0, 1) := by decide +kernel
theorem dX7_copy_94 : decode cX7_copy 94 = .ok (.bipush (-12), 2) := by decide +kernel
theorem dX7_copy_96 : decode cX7_copy 96 = .ok (.invokevirtual 128, 3) := by decide +kernel
theorem dX7_copy_99 : decode cX7_copy 99 = .ok (.ireturn, 1) := by decide +kernel
theorem dX7_copy_100 : decode cX7_copy 100 = .ok (.aload_n 0, 1) := by decide +kernel
theorem dX7_copy_101 : decode cX7_copy 101 = .ok (.getfield 60, 3) := by decide +kernel
theorem dX7_copy_104 : decode cX7_copy 104 = .ok (.getfield 171, 3) := by decide +kernel
theorem dX7_copy_107 : decode cX7_copy 107 = .ok (.iload_n 1, 1) := by decide +kernel
theorem dX7_copy_108 : decode cX7_copy 108 = .ok (.aaload, 1) := by decide +kernel
theorem dX7_copy_109 : decode cX7_copy 109 = .ok (.iload_n 2, 1) := by decide +kernel
theorem dX7_copy_110 : decode cX7_copy 110 = .ok (.aload_n 0, 1) := by decide +kernel
theorem dX7_copy_111 : decode cX7_copy 111 = .ok (.getfield 60, 3) := by decide +kernel
theorem dX7_copy_114 : decode cX7_copy 114 = .ok (.getfield 171, 3) := by decide +kernel
theorem dX7_copy_117 : decode cX7_copy 117 = .ok (.iload_n 3, 1) := by decide +kernel
theorem dX7_copy_118 : decode cX7_copy 118 = .ok (.aaload, 1) := by decide +kernel
theorem dX7_copy_119 : decode cX7_copy 119 = .ok (.iload 4, 2) := by decide +kernel
theorem dX7_copy_121 : decode cX7_copy 121 = .ok (.iload 5, 2) := by decide +kernel
theorem dX7_copy_123 : decode cX7_copy 123 = .ok (.invokestatic 175, 3) := by decide +kernel
theorem dX7_copy_126 : decode cX7_copy 126 = .ok (.aload_n 0, 1) := by decide +kernel
theorem dX7_copy_127 : decode cX7_copy 127 = .ok (.invokevirtual 91, 3) := by decide +kernel
theorem dX7_copy_130 : decode cX7_copy 130 = .ok (.iload 5, 2) := by decide +kernel
theorem dX7_copy_132 : decode cX7_copy 132 = .ok (.ireturn, 1) := by decide +kernel
theorem dX7_get_0 : decode cX7_get 0 = .ok (.iload_n 1, 1) := by decide +kernel
theorem dX7_get_1 : decode cX7_get 1 = .ok (.invokestatic 156, 3) := by decide +kernel
theorem dX7_get_4 : decode cX7_get 4 = .ok (.ifCond .ne 6, 3) := by decide +kernel
theorem dX7_get_7 : decode cX7_get 7 = .ok (.bipush (-2), 2) := by decide +kernel
theorem dX7_get_9 : decode cX7_get 9 = .ok (.ireturn, 1) := by decide +kernel
theorem dX7_get_10 : decode cX7_get 10 = .ok (.aload_n 0, 1) := by decide +kernel
theorem dX7_get_11 : decode cX7_get 11 = .ok (.getfield 60, 3) := by decide +kernel
theorem dX7_get_14 : decode cX7_get 14 = .ok (.iload_n 1, 1) := by decide +kernel
theorem dX7_get_15 : decode cX7_get 15 = .ok (.invokevirtual 163, 3) := by decide +kernel
theorem dX7_get_18 : decode cX7_get 18 = .ok (.ifCond .eq 10, 3) := by decide +kernel
theorem dX7_get_21 : decode cX7_get 21 = .ok (.aload_n 0, 1) := by decide +kernel
theorem dX7_get_22 : decode cX7_get 22 = .ok (.bipush (-11), 2) := by decide +kernel
theorem dX7_get_24 : decode cX7_get 24 = .ok (.invokevirtual 128, 3) := by decide +kernel
theorem dX7_get_27 : decode cX7_get 27 = .ok (.ireturn, 1) := by decide +kernel
theorem dX7_get_28 : decode cX7_get 28 = .ok (.aload_n 0, 1) := by decide +kernel
theorem dX7_get_29 : decode cX7_get 29 = .ok (.getfield 60, 3) := by decide +kernel
theorem dX7_get_32 : decode cX7_get 32 = .ok (.iload_n 1, 1) := by decide +kernel
theorem dX7_get_33 : decode cX7_get 33 = .ok (.iload_n 2, 1) := by decide +kernel
theorem dX7_get_34 : decode cX7_get 34 = .ok (.iconst 1, 1) := by decide +kernel
theorem dX7_get_35 : decode cX7_get 35 = .ok (.invokevirtual 168, 3) := by decide +kernel
theorem dX7_get_38 : decode cX7_get 38 = .ok (.ifCond .ne 10, 3) := by decide +kernel
theorem dX7_get_41 : decode cX7_get 41 = .ok (.aload_n 0, 1) := by decide +kernel
theorem dX7_get_42 : decode cX7_get 42 = .ok (.bipush (-12), 2) := by decide +kernel
theorem dX7_get_44 : decode cX7_get 44 = .ok (.invokevirtual 128, 3) := by decide +kernel
theorem dX7_get_47 : decode cX7_get 47 = .ok (.ireturn, 1) := by decide +kernel
theorem dX7_get_48 : decode cX7_get 48 = .ok (.aload_n 0, 1) := by decide +kernel
theorem dX7_get_49 : decode cX7_get 49 = .ok (.getfield 60, 3) := by decide +kernel
theorem dX7_get_52 : decode cX7_get 52 = .ok (.getfield 171, 3) := by decide +kernel
theorem dX7_get_55 : decode cX7_get 55 = .ok (.iload_n 1, 1) := by decide +kernel
theorem dX7_get_56 : decode cX7_get 56 = .ok (.aaload, 1) := by decide +kernel
theorem dX7_get_57 : decode cX7_get 57 = .ok (.iload_n 2, 1) := by decide +kernel
theorem dX7_get_58 : decode cX7_get 58 = .ok (.iaload, 1) := by decide +kernel
theorem dX7_get_59 : decode cX7_get 59 = .ok (.ireturn, 1) := by decide +kernel
theorem dX7_about_0 : decode cX7_about 0 = .ok (.aload_n 0, 1) := by decide +kernel
theorem dX7_about_1 : decode cX7_about 1 = .ok (.iload_n 1, 1) := by decide +kernel
theorem dX7_about_2 : decode cX7_about 2 = .ok (.invokevirtual 122, 3) := by decide +kernel
theorem dX7_about_5 : decode cX7_about 5 = .ok (.ifCond .ne 5, 3) := by decide +kernel
theorem dX7_about_8 : decode cX7_about 8 = .ok (.iconst (-1), 1) := by decide +kernel
theorem dX7_about_9 : decode cX7_about 9 = .ok (.ireturn, 1) := by decide +kernel
theorem dX7_about_10 : decode cX7_about 10 = .ok (.aload_n 0, 1) := by decide +kernel
theorem dX7_about_11 : decode cX7_about 11 = .ok (.getfield 18, 3) := by decide +kernel
theorem dX7_about_14 : decode cX7_about 14 = .ok (.iload_n 1, 1) := by decide +kernel
theorem dX7_about_15 : decode cX7_about 15 = .ok (.aaload, 1) := by decide +kernel
theorem dX7_about_16 : decode cX7_about 16 = .ok (.astore_n 3, 1) := by decide +kernel
theorem dX7_about_17 : decode cX7_about 17 = .ok (.iload_n 2, 1) := by decide +kernel
theorem dX7_about_18 : decode cX7_about 18 = .ok (.tableswitch 91 0 2 #[26, 47, 69], 26) := by decide +kernel
theorem dX7_about_44 : decode cX7_about 44 = .ok (.aload_n 3, 1) := by decide +kernel
theorem dX7_about_45 : decode cX7_about 45 = .ok (.getfield 125, 3) := by decide +kernel
theorem dX7_about_48 : decode cX7_about 48 = .ok (.ifCond .ne 10, 3) := by decide +kernel
theorem dX7_about_51 : decode cX7_about 51 = .ok (.aload_n 3, 1) := by decide +kernel
theorem dX7_about_52 : decode cX7_about 52 = .ok (.getfield 181, 3) := by decide +kernel
theorem dX7_about_55 : decode cX7_about 55 = .ok (.goto 9, 3) := by decide +kernel
theorem dX7_about_58 : decode cX7_about 58 = .ok (.aload_n 0, 1) := by decide +kernel
theorem dX7_about_59 : decode cX7_about 59 = .ok (.bipush (-13), 2) := by decide +kernel
theorem dX7_about_61 : decode cX7_about 61 = .ok (.invokevirtual 128, 3) := by decide +kernel
theorem dX7_about_64 : decode cX7_about 64 = .ok (.ireturn, 1) := by decide +kernel
theorem dX7_about_65 : decode cX7_about 65 = .ok (.aload_n 3, 1) := by decide +kernel
theorem dX7_about_66 : decode cX7_about 66 = .ok (.getfield 125, 3) := by decide +kernel
theorem dX7_about_69 : decode cX7_about 69 = .ok (.iconst 3, 1) := by decide +kernel
theorem dX7_about_70 : decode cX7_about 70 = .ok (.if_icmp .ne 10, 3) := by decide +kernel
theorem dX7_about_73 : decode cX7_about 73 = .ok (.aload_n 3, 1) := by decide +kernel
theorem dX7_about_74 : decode cX7_about 74 = .ok (.getfield 184, 3) := by decide +kernel
theorem dX7_about_77 : decode cX7_about 77 = .ok (.goto 9, 3) := by decide +kernel
theorem dX7_about_80 : decode cX7_about 80 = .ok (.aload_n 0, 1) := by decide +kernel
theorem dX7_about_81 : decode cX7_about 81 = .ok (.bipush (-13), 2) := by decide +kernel
theorem dX7_about_83 : decode cX7_about 83 = .ok (.invokevirtual 128, 3) := by decide +kernel
theorem dX7_about_86 : decode cX7_about 86 = .ok (.ireturn, 1) := by decide +kernel
theorem dX7_about_87 : decode cX7_about 87 = .ok (.aload_n 3, 1) := by decide +kernel
theorem dX7_about_88 : decode cX7_about 88 = .ok (.getfield 125, 3) := by decide +kernel
theorem dX7_about_91 : decode cX7_about 91 = .ok (.iconst 2, 1) := by decide +kernel
theorem dX7_about_92 : decode cX7_about 92 = .ok (.if_icmp .ne 10, 3) := by decide +kernel
theorem dX7_about_95 : decode cX7_about 95 = .ok (.aload_n 3, 1) := by decide +kernel
theorem dX7_about_96 : decode cX7_about 96 = .ok (.getfield 184, 3) := by decide +kernel
theorem dX7_about_99 : decode cX7_about 99 = .ok (.goto 9, 3) := by decide +kernel
theorem dX7_about_102 : decode cX7_about 102 = .ok (.aload_n 0, 1) := by decide +kernel
theorem dX7_about_103 : decode cX7_about 103 = .ok (.bipush (-13), 2) := by decide +kernel
theorem dX7_about_105 : decode cX7_about 105 = .ok (.invokevirtual 128, 3) := by decide +kernel
theorem dX7_about_108 : decode cX7_about 108 = .ok (.ireturn, 1) := by decide +kernel
theorem dX7_about_109 : decode cX7_about 109 = .ok (.bipush (-2), 2) := by decide +kernel
theorem dX7_about_111 : decode cX7_about 111 = .ok (.ireturn, 1) := by decide +kernel
theorem dX7_narrow_0 : decode cX7_narrow 0 = .ok (.aload_n 0, 1) := by decide +kernel
theorem dX7_narrow_1 : decode cX7_narrow 1 = .ok (.getfield 13, 3) := by decide +kernel
theorem dX7_narrow_4 : decode cX7_narrow 4 = .ok (.aload_n 0, 1) := by decide +kernel
theorem dX7_narrow_5 : decode cX7_narrow 5 = .ok (.getfield 45, 3) := by decide +kernel
theorem dX7_narrow_8 : decode cX7_narrow 8 = .ok (.invokestatic 187, 3) := by decide +kernel
theorem dX7_narrow_11 : decode cX7_narrow 11 = .ok (.aload_n 0, 1) := by decide +kernel
theorem dX7_narrow_12 : decode cX7_narrow 12 = .ok (.getfield 72, 3) := by decide +kernel
theorem dX7_narrow_15 : decode cX7_narrow 15 = .ok (.aload_n 0, 1) := by decide +kernel
theorem dX7_narrow_16 : decode cX7_narrow 16 = .ok (.getfield 45, 3) := by decide +kernel
theorem dX7_narrow_19 : decode cX7_narrow 19 = .ok (.aload_n 0, 1) := by decide +kernel
theorem dX7_narrow_20 : decode cX7_narrow 20 = .ok (.getfield 18, 3) := by decide +kernel
theorem dX7_narrow_23 : decode cX7_narrow 23 = .ok (.aload_n 0, 1) := by decide +kernel
theorem dX7_narrow_24 : decode cX7_narrow 24 = .ok (.getfield 118, 3) := by decide +kernel
theorem dX7_narrow_27 : decode cX7_narrow 27 = .ok (.invokevirtual 191, 3) := by decide +kernel
theorem dX7_narrow_30 : decode cX7_narrow 30 = .ok (.ifCond .ne 6, 3) := by decide +kernel
theorem dX7_narrow_33 : decode cX7_narrow 33 = .ok (.bipush (-3), 2) := by decide +kernel
theorem dX7_narrow_35 : decode cX7_narrow 35 = .ok (.ireturn, 1) := by decide +kernel
theorem dX7_narrow_36 : decode cX7_narrow 36 = .ok (.iconst 0, 1) := by decide +kernel
theorem dX7_narrow_37 : decode cX7_narrow 37 = .ok (.istore_n 1, 1) := by decide +kernel
theorem dX7_narrow_38 : decode cX7_narrow 38 = .ok (.iconst 0, 1) := by decide +kernel
theorem dX7_narrow_39 : decode cX7_narrow 39 = .ok (.istore_n 2, 1) := by decide +kernel
theorem dX7_narrow_40 : decode cX7_narrow 40 = .ok (.iload_n 2, 1) := by decide +kernel
theorem dX7_narrow_41 : decode cX7_narrow 41 = .ok (.aload_n 0, 1) := by decide +kernel
theorem dX7_narrow_42 : decode cX7_narrow 42 = .ok (.getfield 88, 3) := by decide +kernel
theorem dX7_narrow_45 : decode cX7_narrow 45 = .ok (.if_icmp .ge 30, 3) := by decide +kernel
theorem dX7_narrow_48 : decode cX7_narrow 48 = .ok (.iload_n 1, 1) := by decide +kernel
theorem dX7_narrow_49 : decode cX7_narrow 49 = .ok (.aload_n 0, 1) := by decide +kernel
theorem dX7_narrow_50 : decode cX7_narrow 50 = .ok (.getfield 13, 3) := by decide +kernel
theorem dX7_narrow_53 : decode cX7_narrow 53 = .ok (.iload_n 2, 1) := by decide +kernel
theorem dX7_narrow_54 : decode cX7_narrow 54 = .ok (.iaload, 1) := by decide +kernel
theorem dX7_narrow_55 : decode cX7_narrow 55 = .ok (.aload_n 0, 1) := by decide +kernel
theorem dX7_narrow_56 : decode cX7_narrow 56 = .ok (.getfield 45, 3) := by decide +kernel
theorem dX7_narrow_59 : decode cX7_narrow 59 = .ok (.iload_n 2, 1) := by decide +kernel
theorem dX7_narrow_60 : decode cX7_narrow 60 = .ok (.iaload, 1) := by decide +kernel
theorem dX7_narrow_61 : decode cX7_narrow 61 = .ok (.iconst (-1), 1) := by decide +kernel
theorem dX7_narrow_62 : decode cX7_narrow 62 = .ok (.ixor, 1) := by decide +kernel
theorem dX7_narrow_63 : decode cX7_narrow 63 = .ok (.iand, 1) := by decide +kernel
theorem dX7_narrow_64 : decode cX7_narrow 64 = .ok (.invokestatic 101, 3) := by decide +kernel
theorem dX7_narrow_67 : decode cX7_narrow 67 = .ok (.iadd, 1) := by decide +kernel
theorem dX7_narrow_68 : decode cX7_narrow 68 = .ok (.istore_n 1, 1) := by decide +kernel
theorem dX7_narrow_69 : decode cX7_narrow 69 = .ok (.iinc 2 1, 3) := by decide +kernel
theorem dX7_narrow_72 : decode cX7_narrow 72 = .ok (.goto (-32), 3) := by decide +kernel
theorem dX7_narrow_75 : decode cX7_narrow 75 = .ok (.aload_n 0, 1) := by decide +kernel
theorem dX7_narrow_76 : decode cX7_narrow 76 = .ok (.getfield 45, 3) := by decide +kernel
theorem dX7_narrow_79 : decode cX7_narrow 79 = .ok (.aload_n 0, 1) := by decide +kernel
theorem dX7_narrow_80 : decode cX7_narrow 80 = .ok (.getfield 13, 3) := by decide +kernel
theorem dX7_narrow_83 : decode cX7_narrow 83 = .ok (.invokestatic 187, 3) := by decide +kernel
theorem dX7_narrow_86 : decode cX7_narrow 86 = .ok (.iload_n 1, 1) := by decide +kernel
theorem dX7_narrow_87 : decode cX7_narrow 87 = .ok (.ireturn, 1) := by decide +kernel
theorem dX7_takes_0 : decode cX7_takes 0 = .ok (.aload_n 0, 1) := by decide +kernel
theorem dX7_takes_1 : decode cX7_takes 1 = .ok (.iload_n 1, 1) := by decide +kernel
theorem dX7_takes_2 : decode cX7_takes 2 = .ok (.invokevirtual 122, 3) := by decide +kernel
theorem dX7_takes_5 : decode cX7_takes 5 = .ok (.ifCond .ne 5, 3) := by decide +kernel
theorem dX7_takes_8 : decode cX7_takes 8 = .ok (.iconst (-1), 1) := by decide +kernel
theorem dX7_takes_9 : decode cX7_takes 9 = .ok (.ireturn, 1) := by decide +kernel
theorem dX7_takes_10 : decode cX7_takes 10 = .ok (.aload_n 0, 1) := by decide +kernel
theorem dX7_takes_11 : decode cX7_takes 11 = .ok (.getfield 72, 3) := by decide +kernel
theorem dX7_takes_14 : decode cX7_takes 14 = .ok (.aload_n 0, 1) := by decide +kernel
theorem dX7_takes_15 : decode cX7_takes 15 = .ok (.getfield 18, 3) := by decide +kernel
theorem dX7_takes_18 : decode cX7_takes 18 = .ok (.iload_n 1, 1) := by decide +kernel
theorem dX7_takes_19 : decode cX7_takes 19 = .ok (.aaload, 1) := by decide +kernel
theorem dX7_takes_20 : decode cX7_takes 20 = .ok (.aload_n 0, 1) := by decide +kernel
theorem dX7_takes_21 : decode cX7_takes 21 = .ok (.getfield 13, 3) := by decide +kernel
theorem dX7_takes_24 : decode cX7_takes 24 = .ok (.invokevirtual 195, 3) := by decide +kernel
theorem dX7_takes_27 : decode cX7_takes 27 = .ok (.ireturn, 1) := by decide +kernel
theorem dX7_step_0 : decode cX7_step 0 = .ok (.aload_n 0, 1) := by decide +kernel
theorem dX7_step_1 : decode cX7_step 1 = .ok (.iload_n 1, 1) := by decide +kernel
theorem dX7_step_2 : decode cX7_step 2 = .ok (.invokevirtual 94, 3) := by decide +kernel
theorem dX7_step_5 : decode cX7_step 5 = .ok (.ifCond .ne 5, 3) := by decide +kernel
theorem dX7_step_8 : decode cX7_step 8 = .ok (.iconst (-1), 1) := by decide +kernel
theorem dX7_step_9 : decode cX7_step 9 = .ok (.ireturn, 1) := by decide +kernel
theorem dX7_step_10 : decode cX7_step 10 = .ok (.iload_n 2, 1) := by decide +kernel
theorem dX7_step_11 : decode cX7_step 11 = .ok (.iload_n 3, 1) := by decide +kernel
theorem dX7_step_12 : decode cX7_step 12 = .ok (.invokestatic 143, 3) := by decide +kernel
theorem dX7_step_15 : decode cX7_step 15 = .ok (.ifCond .ne 6, 3) := by decide +kernel
theorem dX7_step_18 : decode cX7_step 18 = .ok (.bipush (-2), 2) := by decide +kernel
theorem dX7_step_20 : decode cX7_step 20 = .ok (.ireturn, 1) := by decide +kernel
theorem dX7_step_21 : decode cX7_step 21 = .ok (.iload_n 2, 1) := by decide +kernel
theorem dX7_step_22 : decode cX7_step 22 = .ok (.iload_n 3, 1) := by decide +kernel
theorem dX7_step_23 : decode cX7_step 23 = .ok (.invokestatic 147, 3) := by decide +kernel
theorem dX7_step_26 : decode cX7_step 26 = .ok (.istore 4, 2) := by decide +kernel
theorem dX7_step_28 : decode cX7_step 28 = .ok (.aload_n 0, 1) := by decide +kernel
theorem dX7_step_29 : decode cX7_step 29 = .ok (.getfield 13, 3) := by decide +kernel
theorem dX7_step_32 : decode cX7_step 32 = .ok (.iload_n 1, 1) := by decide +kernel
theorem dX7_step_33 : decode cX7_step 33 = .ok (.iaload, 1) := by decide +kernel
theorem dX7_step_34 : decode cX7_step 34 = .ok (.iload 4, 2) := by decide +kernel
theorem dX7_step_36 : decode cX7_step 36 = .ok (.iand, 1) := by decide +kernel
theorem dX7_step_37 : decode cX7_step 37 = .ok (.ifCond .ne 6, 3) := by decide +kernel
theorem dX7_step_40 : decode cX7_step 40 = .ok (.bipush (-3), 2) := by decide +kernel
theorem dX7_step_42 : decode cX7_step 42 = .ok (.ireturn, 1) := by decide +kernel
theorem dX7_step_43 : decode cX7_step 43 = .ok (.aload_n 0, 1) := by decide +kernel
theorem dX7_step_44 : decode cX7_step 44 = .ok (.getfield 25, 3) := by decide +kernel
theorem dX7_step_47 : decode cX7_step 47 = .ok (.getfield 85, 3) := by decide +kernel
theorem dX7_step_50 : decode cX7_step 50 = .ok (.bipush 12, 2) := by decide +kernel
theorem dX7_step_52 : decode cX7_step 52 = .ok (.if_icmp .lt 6, 3) := by decide +kernel
theorem dX7_step_55 : decode cX7_step 55 = .ok (.bipush (-4), 2) := by decide +kernel
theorem dX7_step_57 : decode cX7_step 57 = .ok (.ireturn, 1) := by decide +kernel
theorem dX7_step_58 : decode cX7_step 58 = .ok (.aload_n 0, 1) := by decide +kernel
theorem dX7_step_59 : decode cX7_step 59 = .ok (.getfield 13, 3) := by decide +kernel
theorem dX7_step_62 : decode cX7_step 62 = .ok (.aload_n 0, 1) := by decide +kernel
theorem dX7_step_63 : decode cX7_step 63 = .ok (.getfield 25, 3) := by decide +kernel
theorem dX7_step_66 : decode cX7_step 66 = .ok (.getfield 199, 3) := by decide +kernel
theorem dX7_step_69 : decode cX7_step 69 = .ok (.aload_n 0, 1) := by decide +kernel
theorem dX7_step_70 : decode cX7_step 70 = .ok (.getfield 25, 3) := by decide +kernel
theorem dX7_step_73 : decode cX7_step 73 = .ok (.getfield 85, 3) := by decide +kernel
theorem dX7_step_76 : decode cX7_step 76 = .ok (.aaload, 1) := by decide +kernel
theorem dX7_step_77 : decode cX7_step 77 = .ok (.invokestatic 187, 3) := by decide +kernel
theorem dX7_step_80 : decode cX7_step 80 = .ok (.aload_n 0, 1) := by decide +kernel
theorem dX7_step_81 : decode cX7_step 81 = .ok (.getfield 25, 3) := by decide +kernel
theorem dX7_step_84 : decode cX7_step 84 = .ok (.getfield 202, 3) := by decide +kernel
theorem dX7_step_87 : decode cX7_step 87 = .ok (.aload_n 0, 1) := by decide +kernel
theorem dX7_step_88 : decode cX7_step 88 = .ok (.getfield 25, 3) := by decide +kernel
theorem dX7_step_91 : decode cX7_step 91 = .ok (.getfield 85, 3) := by decide +kernel
theorem dX7_step_94 : decode cX7_step 94 = .ok (.iload_n 1, 1) := by decide +kernel
theorem dX7_step_95 : decode cX7_step 95 = .ok (.iastore, 1) := by decide +kernel
theorem dX7_step_96 : decode cX7_step 96 = .ok (.aload_n 0, 1) := by decide +kernel
theorem dX7_step_97 : decode cX7_step 97 = .ok (.getfield 25, 3) := by decide +kernel
theorem dX7_step_100 : decode cX7_step 100 = .ok (.getfield 205, 3) := by decide +kernel
theorem dX7_step_103 : decode cX7_step 103 = .ok (.aload_n 0, 1) := by decide +kernel
theorem dX7_step_104 : decode cX7_step 104 = .ok (.getfield 25, 3) := by decide +kernel
theorem dX7_step_107 : decode cX7_step 107 = .ok (.getfield 85, 3) := by decide +kernel
theorem dX7_step_110 : decode cX7_step 110 = .ok (.iload 4, 2) := by decide +kernel
theorem dX7_step_112 : decode cX7_step 112 = .ok (.iastore, 1) := by decide +kernel
theorem dX7_step_113 : decode cX7_step 113 = .ok (.aload_n 0, 1) := by decide +kernel
theorem dX7_step_114 : decode cX7_step 114 = .ok (.getfield 25, 3) := by decide +kernel
theorem dX7_step_117 : decode cX7_step 117 = .ok (.dup, 1) := by decide +kernel
theorem dX7_step_118 : decode cX7_step 118 = .ok (.getfield 85, 3) := by decide +kernel
theorem dX7_step_121 : decode cX7_step 121 = .ok (.iconst 1, 1) := by decide +kernel
theorem dX7_step_122 : decode cX7_step 122 = .ok (.iadd, 1) := by decide +kernel
theorem dX7_step_123 : decode cX7_step 123 = .ok (.putfield 85, 3) := by decide +kernel
theorem dX7_step_126 : decode cX7_step 126 = .ok (.aload_n 0, 1) := by decide +kernel
theorem dX7_step_127 : decode cX7_step 127 = .ok (.getfield 13, 3) := by decide +kernel
theorem dX7_step_130 : decode cX7_step 130 = .ok (.iload_n 1, 1) := by decide +kernel
theorem dX7_step_131 : decode cX7_step 131 = .ok (.dup2, 1) := by decide +kernel
theorem dX7_step_132 : decode cX7_step 132 = .ok (.iaload, 1) := by decide +kernel
theorem dX7_step_133 : decode cX7_step 133 = .ok (.iload 4, 2) := by decide +kernel
theorem dX7_step_135 : decode cX7_step 135 = .ok (.iand, 1) := by decide +kernel
theorem dX7_step_136 : decode cX7_step 136 = .ok (.iastore, 1) := by decide +kernel
theorem dX7_step_137 : decode cX7_step 137 = .ok (.aload_n 0, 1) := by decide +kernel
theorem dX7_step_138 : decode cX7_step 138 = .ok (.getfield 25, 3) := by decide +kernel
theorem dX7_step_141 : decode cX7_step 141 = .ok (.getfield 85, 3) := by decide +kernel
theorem dX7_step_144 : decode cX7_step 144 = .ok (.iconst 1, 1) := by decide +kernel
theorem dX7_step_145 : decode cX7_step 145 = .ok (.isub, 1) := by decide +kernel
theorem dX7_step_146 : decode cX7_step 146 = .ok (.ireturn, 1) := by decide +kernel
theorem dX7_undo_0 : decode cX7_undo 0 = .ok (.iload_n 1, 1) := by decide +kernel
theorem dX7_undo_1 : decode cX7_undo 1 = .ok (.ifCond .lt 14, 3) := by decide +kernel
theorem dX7_undo_4 : decode cX7_undo 4 = .ok (.iload_n 1, 1) := by decide +kernel
theorem dX7_undo_5 : decode cX7_undo 5 = .ok (.aload_n 0, 1) := by decide +kernel
theorem dX7_undo_6 : decode cX7_undo 6 = .ok (.getfield 25, 3) := by decide +kernel
theorem dX7_undo_9 : decode cX7_undo 9 = .ok (.getfield 85, 3) := by decide +kernel
theorem dX7_undo_12 : decode cX7_undo 12 = .ok (.if_icmp .le 6, 3) := by decide +kernel
theorem dX7_undo_15 : decode cX7_undo 15 = .ok (.bipush (-2), 2) := by decide +kernel
theorem dX7_undo_17 : decode cX7_undo 17 = .ok (.ireturn, 1) := by decide +kernel
theorem dX7_undo_18 : decode cX7_undo 18 = .ok (.aload_n 0, 1) := by decide +kernel
theorem dX7_undo_19 : decode cX7_undo 19 = .ok (.getfield 25, 3) := by decide +kernel
theorem dX7_undo_22 : decode cX7_undo 22 = .ok (.getfield 85, 3) := by decide +kernel
theorem dX7_undo_25 : decode cX7_undo 25 = .ok (.iload_n 1, 1) := by decide +kernel
theorem dX7_undo_26 : decode cX7_undo 26 = .ok (.isub, 1) := by decide +kernel
theorem dX7_undo_27 : decode cX7_undo 27 = .ok (.istore_n 2, 1) := by decide +kernel
theorem dX7_undo_28 : decode cX7_undo 28 = .ok (.iload_n 2, 1) := by decide +kernel
theorem dX7_undo_29 : decode cX7_undo 29 = .ok (.ifCond .le 27, 3) := by decide +kernel
theorem dX7_undo_32 : decode cX7_undo 32 = .ok (.aload_n 0, 1) := by decide +kernel
theorem dX7_undo_33 : decode cX7_undo 33 = .ok (.getfield 25, 3) := by decide +kernel
theorem dX7_undo_36 : decode cX7_undo 36 = .ok (.getfield 199, 3) := by decide +kernel
theorem dX7_undo_39 : decode cX7_undo 39 = .ok (.iload_n 1, 1) := by decide +kernel
theorem dX7_undo_40 : decode cX7_undo 40 = .ok (.aaload, 1) := by decide +kernel
theorem dX7_undo_41 : decode cX7_undo 41 = .ok (.aload_n 0, 1) := by decide +kernel
theorem dX7_undo_42 : decode cX7_undo 42 = .ok (.getfield 13, 3) := by decide +kernel
theorem dX7_undo_45 : decode cX7_undo 45 = .ok (.invokestatic 187, 3) := by decide +kernel
theorem dX7_undo_48 : decode cX7_undo 48 = .ok (.aload_n 0, 1) := by decide +kernel
theorem dX7_undo_49 : decode cX7_undo 49 = .ok (.getfield 25, 3) := by decide +kernel
theorem dX7_undo_52 : decode cX7_undo 52 = .ok (.iload_n 1, 1) := by decide +kernel
theorem dX7_undo_53 : decode cX7_undo 53 = .ok (.putfield 85, 3) := by decide +kernel
theorem dX7_undo_56 : decode cX7_undo 56 = .ok (.iload_n 2, 1) := by decide +kernel
theorem dX7_undo_57 : decode cX7_undo 57 = .ok (.ireturn, 1) := by decide +kernel
theorem dX7_range_0 : decode cX7_range 0 = .ok (.aload_n 0, 1) := by decide +kernel
theorem dX7_range_1 : decode cX7_range 1 = .ok (.iload_n 1, 1) := by decide +kernel
theorem dX7_range_2 : decode cX7_range 2 = .ok (.invokevirtual 94, 3) := by decide +kernel
theorem dX7_range_5 : decode cX7_range 5 = .ok (.ifCond .ne 5, 3) := by decide +kernel
theorem dX7_range_8 : decode cX7_range 8 = .ok (.iconst (-1), 1) := by decide +kernel
theorem dX7_range_9 : decode cX7_range 9 = .ok (.ireturn, 1) := by decide +kernel
theorem dX7_range_10 : decode cX7_range 10 = .ok (.iload_n 2, 1) := by decide +kernel
theorem dX7_range_11 : decode cX7_range 11 = .ok (.tableswitch 77 0 4 #[33, 43, 53, 63, 70], 33) := by decide +kernel
theorem dX7_range_44 : decode cX7_range 44 = .ok (.aload_n 0, 1) := by decide +kernel
theorem dX7_range_45 : decode cX7_range 45 = .ok (.getfield 13, 3) := by decide +kernel
theorem dX7_range_48 : decode cX7_range 48 = .ok (.iload_n 1, 1) := by decide +kernel
theorem dX7_range_49 : decode cX7_range 49 = .ok (.iaload, 1) := by decide +kernel
theorem dX7_range_50 : decode cX7_range 50 = .ok (.invokestatic 101, 3) := by decide +kernel
theorem dX7_range_53 : decode cX7_range 53 = .ok (.ireturn, 1) := by decide +kernel
theorem dX7_range_54 : decode cX7_range 54 = .ok (.aload_n 0, 1) := by decide +kernel
theorem dX7_range_55 : decode cX7_range 55 = .ok (.getfield 13, 3) := by decide +kernel
theorem dX7_range_58 : decode cX7_range 58 = .ok (.iload_n 1, 1) := by decide +kernel
theorem dX7_range_59 : decode cX7_range 59 = .ok (.iaload, 1) := by decide +kernel
theorem dX7_range_60 : decode cX7_range 60 = .ok (.invokestatic 208, 3) := by decide +kernel
theorem dX7_range_63 : decode cX7_range 63 = .ok (.ireturn, 1) := by decide +kernel
theorem dX7_range_64 : decode cX7_range 64 = .ok (.aload_n 0, 1) := by decide +kernel
theorem dX7_range_65 : decode cX7_range 65 = .ok (.getfield 13, 3) := by decide +kernel
theorem dX7_range_68 : decode cX7_range 68 = .ok (.iload_n 1, 1) := by decide +kernel
theorem dX7_range_69 : decode cX7_range 69 = .ok (.iaload, 1) := by decide +kernel
theorem dX7_range_70 : decode cX7_range 70 = .ok (.invokestatic 211, 3) := by decide +kernel
theorem dX7_range_73 : decode cX7_range 73 = .ok (.ireturn, 1) := by decide +kernel
theorem dX7_range_74 : decode cX7_range 74 = .ok (.aload_n 0, 1) := by decide +kernel
theorem dX7_range_75 : decode cX7_range 75 = .ok (.getfield 13, 3) := by decide +kernel
theorem dX7_range_78 : decode cX7_range 78 = .ok (.iload_n 1, 1) := by decide +kernel
theorem dX7_range_79 : decode cX7_range 79 = .ok (.iaload, 1) := by decide +kernel
theorem dX7_range_80 : decode cX7_range 80 = .ok (.ireturn, 1) := by decide +kernel
theorem dX7_range_81 : decode cX7_range 81 = .ok (.aload_n 0, 1) := by decide +kernel
theorem dX7_range_82 : decode cX7_range 82 = .ok (.getfield 9, 3) := by decide +kernel
theorem dX7_range_85 : decode cX7_range 85 = .ok (.iload_n 1, 1) := by decide +kernel
theorem dX7_range_86 : decode cX7_range 86 = .ok (.iaload, 1) := by decide +kernel
theorem dX7_range_87 : decode cX7_range 87 = .ok (.ireturn, 1) := by decide +kernel
theorem dX7_range_88 : decode cX7_range 88 = .ok (.bipush (-2), 2) := by decide +kernel
theorem dX7_range_90 : decode cX7_range 90 = .ok (.ireturn, 1) := by decide +kernel
theorem dX7_why_0 : decode cX7_why 0 = .ok (.aload_n 0, 1) := by decide +kernel
theorem dX7_why_1 : decode cX7_why 1 = .ok (.iload_n 1, 1) := by decide +kernel
theorem dX7_why_2 : decode cX7_why 2 = .ok (.invokevirtual 94, 3) := by decide +kernel
theorem dX7_why_5 : decode cX7_why 5 = .ok (.ifCond .ne 5, 3) := by decide +kernel
theorem dX7_why_8 : decode cX7_why 8 = .ok (.iconst (-1), 1) := by decide +kernel
theorem dX7_why_9 : decode cX7_why 9 = .ok (.ireturn, 1) := by decide +kernel
theorem dX7_why_10 : decode cX7_why 10 = .ok (.iload_n 2, 1) := by decide +kernel
theorem dX7_why_11 : decode cX7_why 11 = .ok (.invokestatic 98, 3) := by decide +kernel
theorem dX7_why_14 : decode cX7_why 14 = .ok (.ifCond .ne 6, 3) := by decide +kernel
theorem dX7_why_17 : decode cX7_why 17 = .ok (.bipush (-2), 2) := by decide +kernel
theorem dX7_why_19 : decode cX7_why 19 = .ok (.ireturn, 1) := by decide +kernel
theorem dX7_why_20 : decode cX7_why 20 = .ok (.aload_n 0, 1) := by decide +kernel
theorem dX7_why_21 : decode cX7_why 21 = .ok (.getfield 25, 3) := by decide +kernel
theorem dX7_why_24 : decode cX7_why 24 = .ok (.invokevirtual 214, 3) := by decide +kernel
theorem dX7_why_27 : decode cX7_why 27 = .ok (.istore_n 3, 1) := by decide +kernel
theorem dX7_why_28 : decode cX7_why 28 = .ok (.aload_n 0, 1) := by decide +kernel
theorem dX7_why_29 : decode cX7_why 29 = .ok (.getfield 9, 3) := by decide +kernel
theorem dX7_why_32 : decode cX7_why 32 = .ok (.iload_n 1, 1) := by decide +kernel
theorem dX7_why_33 : decode cX7_why 33 = .ok (.iaload, 1) := by decide +kernel
theorem dX7_why_34 : decode cX7_why 34 = .ok (.iload_n 2, 1) := by decide +kernel
theorem dX7_why_35 : decode cX7_why 35 = .ok (.ishr, 1) := by decide +kernel
theorem dX7_why_36 : decode cX7_why 36 = .ok (.iconst 1, 1) := by decide +kernel
theorem dX7_why_37 : decode cX7_why 37 = .ok (.iand, 1) := by decide +kernel
theorem dX7_why_38 : decode cX7_why 38 = .ok (.ifCond .eq 13, 3) := by decide +kernel
theorem dX7_why_41 : decode cX7_why 41 = .ok (.aload_n 0, 1) := by decide +kernel
theorem dX7_why_42 : decode cX7_why 42 = .ok (.iload_n 1, 1) := by decide +kernel
theorem dX7_why_43 : decode cX7_why 43 = .ok (.iload_n 2, 1) := by decide +kernel
theorem dX7_why_44 : decode cX7_why 44 = .ok (.iload_n 3, 1) := by decide +kernel
theorem dX7_why_45 : decode cX7_why 45 = .ok (.invokevirtual 218, 3) := by decide +kernel
theorem dX7_why_48 : decode cX7_why 48 = .ok (.ifCond .ne 6, 3) := by decide +kernel
theorem dX7_why_51 : decode cX7_why 51 = .ok (.bipush (-3), 2) := by decide +kernel
theorem dX7_why_53 : decode cX7_why 53 = .ok (.ireturn, 1) := by decide +kernel
theorem dX7_why_54 : decode cX7_why 54 = .ok (.iconst 0, 1) := by decide +kernel
theorem dX7_why_55 : decode cX7_why 55 = .ok (.istore 4, 2) := by decide +kernel
theorem dX7_why_57 : decode cX7_why 57 = .ok (.iload 4, 2) := by decide +kernel
theorem dX7_why_59 : decode cX7_why 59 = .ok (.aload_n 0, 1) := by decide +kernel
theorem dX7_why_60 : decode cX7_why 60 = .ok (.getfield 25, 3) := by decide +kernel
theorem dX7_why_63 : decode cX7_why 63 = .ok (.getfield 85, 3) := by decide +kernel
theorem dX7_why_66 : decode cX7_why 66 = .ok (.if_icmp .ge 33, 3) := by decide +kernel
theorem dX7_why_69 : decode cX7_why 69 = .ok (.iload_n 3, 1) := by decide +kernel
theorem dX7_why_70 : decode cX7_why 70 = .ok (.iconst 1, 1) := by decide +kernel
theorem dX7_why_71 : decode cX7_why 71 = .ok (.iload 4, 2) := by decide +kernel
theorem dX7_why_73 : decode cX7_why 73 = .ok (.ishl, 1) := by decide +kernel
theorem dX7_why_74 : decode cX7_why 74 = .ok (.iconst (-1), 1) := by decide +kernel
theorem dX7_why_75 : decode cX7_why 75 = .ok (.ixor, 1) := by decide +kernel
theorem dX7_why_76 : decode cX7_why 76 = .ok (.iand, 1) := by decide +kernel
theorem dX7_why_77 : decode cX7_why 77 = .ok (.istore 5, 2) := by decide +kernel
theorem dX7_why_79 : decode cX7_why 79 = .ok (.aload_n 0, 1) := by decide +kernel
theorem dX7_why_80 : decode cX7_why 80 = .ok (.iload_n 1, 1) := by decide +kernel
theorem dX7_why_81 : decode cX7_why 81 = .ok (.iload_n 2, 1) := by decide +kernel
theorem dX7_why_82 : decode cX7_why 82 = .ok (.iload 5, 2) := by decide +kernel
theorem dX7_why_84 : decode cX7_why 84 = .ok (.invokevirtual 218, 3) := by decide +kernel
theorem dX7_why_87 : decode cX7_why 87 = .ok (.ifCond .eq 6, 3) := by decide +kernel
theorem dX7_why_90 : decode cX7_why 90 = .ok (.iload 5, 2) := by decide +kernel
theorem dX7_why_92 : decode cX7_why 92 = .ok (.istore_n 3, 1) := by decide +kernel
theorem dX7_why_93 : decode cX7_why 93 = .ok (.iinc 4 1, 3) := by decide +kernel
theorem dX7_why_96 : decode cX7_why 96 = .ok (.goto (-39), 3) := by decide +kernel
theorem dX7_why_99 : decode cX7_why 99 = .ok (.aload_n 0, 1) := by decide +kernel
theorem dX7_why_100 : decode cX7_why 100 = .ok (.iload_n 3, 1) := by decide +kernel
theorem dX7_why_101 : decode cX7_why 101 = .ok (.invokevirtual 221, 3) := by decide +kernel
theorem dX7_why_104 : decode cX7_why 104 = .ok (.ireturn, 1) := by decide +kernel
theorem dX7_isLacked_0 : decode cX7_isLacked 0 = .ok (.aload_n 0, 1) := by decide +kernel
theorem dX7_isLacked_1 : decode cX7_isLacked 1 = .ok (.iload_n 3, 1) := by decide +kernel
theorem dX7_isLacked_2 : decode cX7_isLacked 2 = .ok (.invokevirtual 224, 3) := by decide +kernel
theorem dX7_isLacked_5 : decode cX7_isLacked 5 = .ok (.ifCond .eq 16, 3) := by decide +kernel
theorem dX7_isLacked_8 : decode cX7_isLacked 8 = .ok (.aload_n 0, 1) := by decide +kernel
theorem dX7_isLacked_9 : decode cX7_isLacked 9 = .ok (.getfield 45, 3) := by decide +kernel
theorem dX7_isLacked_12 : decode cX7_isLacked 12 = .ok (.iload_n 1, 1) := by decide +kernel
theorem dX7_isLacked_13 : decode cX7_isLacked 13 = .ok (.iaload, 1) := by decide +kernel
theorem dX7_isLacked_14 : decode cX7_isLacked 14 = .ok (.iload_n 2, 1) := by decide +kernel
theorem dX7_isLacked_15 : decode cX7_isLacked 15 = .ok (.ishr, 1) := by decide +kernel
theorem dX7_isLacked_16 : decode cX7_isLacked 16 = .ok (.iconst 1, 1) := by decide +kernel
theorem dX7_isLacked_17 : decode cX7_isLacked 17 = .ok (.iand, 1) := by decide +kernel
theorem dX7_isLacked_18 : decode cX7_isLacked 18 = .ok (.ifCond .ne 7, 3) := by decide +kernel
theorem dX7_isLacked_21 : decode cX7_isLacked 21 = .ok (.iconst 1, 1) := by decide +kernel
theorem dX7_isLacked_22 : decode cX7_isLacked 22 = .ok (.goto 4, 3) := by decide +kernel
theorem dX7_isLacked_25 : decode cX7_isLacked 25 = .ok (.iconst 0, 1) := by decide +kernel
theorem dX7_isLacked_26 : decode cX7_isLacked 26 = .ok (.ireturn, 1) := by decide +kernel
theorem dX7_narrowToldBySteps_0 : decode cX7_narrowToldBySteps 0 = .ok (.aload_n 0, 1) := by decide +kernel
theorem dX7_narrowToldBySteps_1 : decode cX7_narrowToldBySteps 1 = .ok (.getfield 9, 3) := by decide +kernel
theorem dX7_narrowToldBySteps_4 : decode cX7_narrowToldBySteps 4 = .ok (.aload_n 0, 1) := by decide +kernel
theorem dX7_narrowToldBySteps_5 : decode cX7_narrowToldBySteps 5 = .ok (.getfield 45, 3) := by decide +kernel
theorem dX7_narrowToldBySteps_8 : decode cX7_narrowToldBySteps 8 = .ok (.invokestatic 187, 3) := by decide +kernel
theorem dX7_narrowToldBySteps_11 : decode cX7_narrowToldBySteps 11 = .ok (.iconst 0, 1) := by decide +kernel
theorem dX7_narrowToldBySteps_12 : decode cX7_narrowToldBySteps 12 = .ok (.istore_n 2, 1) := by decide +kernel
theorem dX7_narrowToldBySteps_13 : decode cX7_narrowToldBySteps 13 = .ok (.iload_n 2, 1) := by decide +kernel
theorem dX7_narrowToldBySteps_14 : decode cX7_narrowToldBySteps 14 = .ok (.aload_n 0, 1) := by decide +kernel
theorem dX7_narrowToldBySteps_15 : decode cX7_narrowToldBySteps 15 = .ok (.getfield 25, 3) := by decide +kernel
theorem dX7_narrowToldBySteps_18 : decode cX7_narrowToldBySteps 18 = .ok (.getfield 85, 3) := by decide +kernel
theorem dX7_narrowToldBySteps_21 : decode cX7_narrowToldBySteps 21 = .ok (.if_icmp .ge 43, 3) := by decide +kernel
theorem dX7_narrowToldBySteps_24 : decode cX7_narrowToldBySteps 24 = .ok (.iload_n 1, 1) := by decide +kernel
theorem dX7_narrowToldBySteps_25 : decode cX7_narrowToldBySteps 25 = .ok (.iload_n 2, 1) := by decide +kernel
theorem dX7_narrowToldBySteps_26 : decode cX7_narrowToldBySteps 26 = .ok (.ishr, 1) := by decide +kernel
theorem dX7_narrowToldBySteps_27 : decode cX7_narrowToldBySteps 27 = .ok (.iconst 1, 1) := by decide +kernel
theorem dX7_narrowToldBySteps_28 : decode cX7_narrowToldBySteps 28 = .ok (.iand, 1) := by decide +kernel
theorem dX7_narrowToldBySteps_29 : decode cX7_narrowToldBySteps 29 = .ok (.ifCond .eq 29, 3) := by decide +kernel
theorem dX7_narrowToldBySteps_32 : decode cX7_narrowToldBySteps 32 = .ok (.aload_n 0, 1) := by decide +kernel
theorem dX7_narrowToldBySteps_33 : decode cX7_narrowToldBySteps 33 = .ok (.getfield 45, 3) := by decide +kernel
theorem dX7_narrowToldBySteps_36 : decode cX7_narrowToldBySteps 36 = .ok (.aload_n 0, 1) := by decide +kernel
theorem dX7_narrowToldBySteps_37 : decode cX7_narrowToldBySteps 37 = .ok (.getfield 25, 3) := by decide +kernel
theorem dX7_narrowToldBySteps_40 : decode cX7_narrowToldBySteps 40 = .ok (.getfield 202, 3) := by decide +kernel
theorem dX7_narrowToldBySteps_43 : decode cX7_narrowToldBySteps 43 = .ok (.iload_n 2, 1) := by decide +kernel
theorem dX7_narrowToldBySteps_44 : decode cX7_narrowToldBySteps 44 = .ok (.iaload, 1) := by decide +kernel
theorem dX7_narrowToldBySteps_45 : decode cX7_narrowToldBySteps 45 = .ok (.dup2, 1) := by decide +kernel
theorem dX7_narrowToldBySteps_46 : decode cX7_narrowToldBySteps 46 = .ok (.iaload, 1) := by decide +kernel
theorem dX7_narrowToldBySteps_47 : decode cX7_narrowToldBySteps 47 = .ok (.aload_n 0, 1) := by decide +kernel
theorem dX7_narrowToldBySteps_48 : decode cX7_narrowToldBySteps 48 = .ok (.getfield 25, 3) := by decide +kernel
theorem dX7_narrowToldBySteps_51 : decode cX7_narrowToldBySteps 51 = .ok (.getfield 205, 3) := by decide +kernel
theorem dX7_narrowToldBySteps_54 : decode cX7_narrowToldBySteps 54 = .ok (.iload_n 2, 1) := by decide +kernel
theorem dX7_narrowToldBySteps_55 : decode cX7_narrowToldBySteps 55 = .ok (.iaload, 1) := by decide +kernel
theorem dX7_narrowToldBySteps_56 : decode cX7_narrowToldBySteps 56 = .ok (.iand, 1) := by decide +kernel
theorem dX7_narrowToldBySteps_57 : decode cX7_narrowToldBySteps 57 = .ok (.iastore, 1) := by decide +kernel
theorem dX7_narrowToldBySteps_58 : decode cX7_narrowToldBySteps 58 = .ok (.iinc 2 1, 3) := by decide +kernel
theorem dX7_narrowToldBySteps_61 : decode cX7_narrowToldBySteps 61 = .ok (.goto (-48), 3) := by decide +kernel
theorem dX7_narrowToldBySteps_64 : decode cX7_narrowToldBySteps 64 = .ok (.aload_n 0, 1) := by decide +kernel
theorem dX7_narrowToldBySteps_65 : decode cX7_narrowToldBySteps 65 = .ok (.aload_n 0, 1) := by decide +kernel
theorem dX7_narrowToldBySteps_66 : decode cX7_narrowToldBySteps 66 = .ok (.getfield 45, 3) := by decide +kernel
theorem dX7_narrowToldBySteps_69 : decode cX7_narrowToldBySteps 69 = .ok (.invokevirtual 227, 3) := by decide +kernel
theorem dX7_narrowToldBySteps_72 : decode cX7_narrowToldBySteps 72 = .ok (.ifCond .eq 29, 3) := by decide +kernel
theorem dX7_narrowToldBySteps_75 : decode cX7_narrowToldBySteps 75 = .ok (.aload_n 0, 1) := by decide +kernel
theorem dX7_narrowToldBySteps_76 : decode cX7_narrowToldBySteps 76 = .ok (.getfield 72, 3) := by decide +kernel
theorem dX7_narrowToldBySteps_79 : decode cX7_narrowToldBySteps 79 = .ok (.aload_n 0, 1) := by decide +kernel
theorem dX7_narrowToldBySteps_80 : decode cX7_narrowToldBySteps 80 = .ok (.getfield 45, 3) := by decide +kernel
theorem dX7_narrowToldBySteps_83 : decode cX7_narrowToldBySteps 83 = .ok (.aload_n 0, 1) := by decide +kernel
theorem dX7_narrowToldBySteps_84 : decode cX7_narrowToldBySteps 84 = .ok (.getfield 18, 3) := by decide +kernel
theorem dX7_narrowToldBySteps_87 : decode cX7_narrowToldBySteps 87 = .ok (.aload_n 0, 1) := by decide +kernel
theorem dX7_narrowToldBySteps_88 : decode cX7_narrowToldBySteps 88 = .ok (.getfield 118, 3) := by decide +kernel
theorem dX7_narrowToldBySteps_91 : decode cX7_narrowToldBySteps 91 = .ok (.invokevirtual 191, 3) := by decide +kernel
theorem dX7_narrowToldBySteps_94 : decode cX7_narrowToldBySteps 94 = .ok (.ifCond .eq 7, 3) := by decide +kernel
theorem dX7_narrowToldBySteps_97 : decode cX7_narrowToldBySteps 97 = .ok (.iconst 1, 1) := by decide +kernel
theorem dX7_narrowToldBySteps_98 : decode cX7_narrowToldBySteps 98 = .ok (.goto 4, 3) := by decide +kernel
theorem dX7_narrowToldBySteps_101 : decode cX7_narrowToldBySteps 101 = .ok (.iconst 0, 1) := by decide +kernel
theorem dX7_narrowToldBySteps_102 : decode cX7_narrowToldBySteps 102 = .ok (.ireturn, 1) := by decide +kernel
theorem dX7_keepReasons_0 : decode cX7_keepReasons 0 = .ok (.aload_n 0, 1) := by decide +kernel
theorem dX7_keepReasons_1 : decode cX7_keepReasons 1 = .ok (.iconst 0, 1) := by decide +kernel
theorem dX7_keepReasons_2 : decode cX7_keepReasons 2 = .ok (.putfield 231, 3) := by decide +kernel
theorem dX7_keepReasons_5 : decode cX7_keepReasons 5 = .ok (.iconst 0, 1) := by decide +kernel
theorem dX7_keepReasons_6 : decode cX7_keepReasons 6 = .ok (.istore_n 2, 1) := by decide +kernel
theorem dX7_keepReasons_7 : decode cX7_keepReasons 7 = .ok (.iload_n 2, 1) := by decide +kernel
theorem dX7_keepReasons_8 : decode cX7_keepReasons 8 = .ok (.aload_n 0, 1) := by decide +kernel
theorem dX7_keepReasons_9 : decode cX7_keepReasons 9 = .ok (.getfield 25, 3) := by decide +kernel
theorem dX7_keepReasons_12 : decode cX7_keepReasons 12 = .ok (.getfield 85, 3) := by decide +kernel
theorem dX7_keepReasons_15 : decode cX7_keepReasons 15 = .ok (.if_icmp .ge 37, 3) := by decide +kernel
theorem dX7_keepReasons_18 : decode cX7_keepReasons 18 = .ok (.iload_n 1, 1) := by decide +kernel
theorem dX7_keepReasons_19 : decode cX7_keepReasons 19 = .ok (.iload_n 2, 1) := by decide +kernel
theorem dX7_keepReasons_20 : decode cX7_keepReasons 20 = .ok (.ishr, 1) := by decide +kernel
theorem dX7_keepReasons_21 : decode cX7_keepReasons 21 = .ok (.iconst 1, 1) := by decide +kernel
theorem dX7_keepReasons_22 : decode cX7_keepReasons 22 = .ok (.iand, 1) := by decide +kernel
theorem dX7_keepReasons_23 : decode cX7_keepReasons 23 = .ok (.ifCond .eq 23, 3) := by decide +kernel
theorem dX7_keepReasons_26 : decode cX7_keepReasons 26 = .ok (.aload_n 0, 1) := by decide +kernel
theorem dX7_keepReasons_27 : decode cX7_keepReasons 27 = .ok (.getfield 29, 3) := by decide +kernel
theorem dX7_keepReasons_30 : decode cX7_keepReasons 30 = .ok (.aload_n 0, 1) := by decide +kernel
theorem dX7_keepReasons_31 : decode cX7_keepReasons 31 = .ok (.getfield 231, 3) := by decide +kernel
theorem dX7_keepReasons_34 : decode cX7_keepReasons 34 = .ok (.iload_n 2, 1) := by decide +kernel
theorem dX7_keepReasons_35 : decode cX7_keepReasons 35 = .ok (.iastore, 1) := by decide +kernel
theorem dX7_keepReasons_36 : decode cX7_keepReasons 36 = .ok (.aload_n 0, 1) := by decide +kernel
theorem dX7_keepReasons_37 : decode cX7_keepReasons 37 = .ok (.dup, 1) := by decide +kernel
theorem dX7_keepReasons_38 : decode cX7_keepReasons 38 = .ok (.getfield 231, 3) := by decide +kernel
theorem dX7_keepReasons_41 : decode cX7_keepReasons 41 = .ok (.iconst 1, 1) := by decide +kernel
theorem dX7_keepReasons_42 : decode cX7_keepReasons 42 = .ok (.iadd, 1) := by decide +kernel
theorem dX7_keepReasons_43 : decode cX7_keepReasons 43 = .ok (.putfield 231, 3) := by decide +kernel
theorem dX7_keepReasons_46 : decode cX7_keepReasons 46 = .ok (.iinc 2 1, 3) := by decide +kernel
theorem dX7_keepReasons_49 : decode cX7_keepReasons 49 = .ok (.goto (-42), 3) := by decide +kernel
theorem dX7_keepReasons_52 : decode cX7_keepReasons 52 = .ok (.aload_n 0, 1) := by decide +kernel
theorem dX7_keepReasons_53 : decode cX7_keepReasons 53 = .ok (.getfield 231, 3) := by decide +kernel
theorem dX7_keepReasons_56 : decode cX7_keepReasons 56 = .ok (.ireturn, 1) := by decide +kernel
theorem dX7_reason_0 : decode cX7_reason 0 = .ok (.iload_n 1, 1) := by decide +kernel
theorem dX7_reason_1 : decode cX7_reason 1 = .ok (.ifCond .lt 20, 3) := by decide +kernel
theorem dX7_reason_4 : decode cX7_reason 4 = .ok (.iload_n 1, 1) := by decide +kernel
theorem dX7_reason_5 : decode cX7_reason 5 = .ok (.aload_n 0, 1) := by decide +kernel
theorem dX7_reason_6 : decode cX7_reason 6 = .ok (.getfield 231, 3) := by decide +kernel
theorem dX7_reason_9 : decode cX7_reason 9 = .ok (.if_icmp .ge 12, 3) := by decide +kernel
theorem dX7_reason_12 : decode cX7_reason 12 = .ok (.aload_n 0, 1) := by decide +kernel
theorem dX7_reason_13 : decode cX7_reason 13 = .ok (.getfield 29, 3) := by decide +kernel
theorem dX7_reason_16 : decode cX7_reason 16 = .ok (.iload_n 1, 1) := by decide +kernel
theorem dX7_reason_17 : decode cX7_reason 17 = .ok (.iaload, 1) := by decide +kernel
theorem dX7_reason_18 : decode cX7_reason 18 = .ok (.goto 5, 3) := by decide +kernel
theorem dX7_reason_21 : decode cX7_reason 21 = .ok (.bipush (-9), 2) := by decide +kernel
theorem dX7_reason_23 : decode cX7_reason 23 = .ok (.ireturn, 1) := by decide +kernel
theorem dX7_solve_0 : decode cX7_solve 0 = .ok (.aload_n 0, 1) := by decide +kernel
theorem dX7_solve_1 : decode cX7_solve 1 = .ok (.invokevirtual 234, 3) := by decide +kernel
theorem dX7_solve_4 : decode cX7_solve 4 = .ok (.istore_n 1, 1) := by decide +kernel
theorem dX7_solve_5 : decode cX7_solve 5 = .ok (.iload_n 1, 1) := by decide +kernel
theorem dX7_solve_6 : decode cX7_solve 6 = .ok (.sipush 20000, 3) := by decide +kernel
theorem dX7_solve_9 : decode cX7_solve 9 = .ok (.if_icmp .le 6, 3) := by decide +kernel
theorem dX7_solve_12 : decode cX7_solve 12 = .ok (.bipush (-5), 2) := by decide +kernel
theorem dX7_solve_14 : decode cX7_solve 14 = .ok (.ireturn, 1) := by decide +kernel
theorem dX7_solve_15 : decode cX7_solve 15 = .ok (.iload_n 1, 1) := by decide +kernel
theorem dX7_solve_16 : decode cX7_solve 16 = .ok (.ifCond .eq 14, 3) := by decide +kernel
theorem dX7_solve_19 : decode cX7_solve 19 = .ok (.aload_n 0, 1) := by decide +kernel
theorem dX7_solve_20 : decode cX7_solve 20 = .ok (.aload_n 0, 1) := by decide +kernel
theorem dX7_solve_21 : decode cX7_solve 21 = .ok (.getfield 45, 3) := by decide +kernel
theorem dX7_solve_24 : decode cX7_solve 24 = .ok (.invokevirtual 237, 3) := by decide +kernel
theorem dX7_solve_27 : decode cX7_solve 27 = .ok (.ifCond .ne 10, 3) := by decide +kernel
theorem dX7_solve_30 : decode cX7_solve 30 = .ok (.aload_n 0, 1) := by decide +kernel
theorem dX7_solve_31 : decode cX7_solve 31 = .ok (.iconst (-1), 1) := by decide +kernel
theorem dX7_solve_32 : decode cX7_solve 32 = .ok (.putfield 35, 3) := by decide +kernel
theorem dX7_solve_35 : decode cX7_solve 35 = .ok (.iconst 0, 1) := by decide +kernel
theorem dX7_solve_36 : decode cX7_solve 36 = .ok (.ireturn, 1) := by decide +kernel
theorem dX7_solve_37 : decode cX7_solve 37 = .ok (.aload_n 0, 1) := by decide +kernel
theorem dX7_solve_38 : decode cX7_solve 38 = .ok (.invokevirtual 240, 3) := by decide +kernel
theorem dX7_solve_41 : decode cX7_solve 41 = .ok (.iconst 1, 1) := by decide +kernel
theorem dX7_solve_42 : decode cX7_solve 42 = .ok (.ireturn, 1) := by decide +kernel
theorem dX7_next_0 : decode cX7_next 0 = .ok (.aload_n 0, 1) := by decide +kernel
theorem dX7_next_1 : decode cX7_next 1 = .ok (.getfield 35, 3) := by decide +kernel
theorem dX7_next_4 : decode cX7_next 4 = .ok (.aload_n 0, 1) := by decide +kernel
theorem dX7_next_5 : decode cX7_next 5 = .ok (.getfield 88, 3) := by decide +kernel
theorem dX7_next_8 : decode cX7_next 8 = .ok (.if_icmp .eq 6, 3) := by decide +kernel
theorem dX7_next_11 : decode cX7_next 11 = .ok (.bipush (-3), 2) := by decide +kernel
theorem dX7_next_13 : decode cX7_next 13 = .ok (.ireturn, 1) := by decide +kernel
theorem dX7_next_14 : decode cX7_next 14 = .ok (.aload_n 0, 1) := by decide +kernel
theorem dX7_next_15 : decode cX7_next 15 = .ok (.invokevirtual 234, 3) := by decide +kernel
theorem dX7_next_18 : decode cX7_next 18 = .ok (.istore_n 1, 1) := by decide +kernel
theorem dX7_next_19 : decode cX7_next 19 = .ok (.iload_n 1, 1) := by decide +kernel
theorem dX7_next_20 : decode cX7_next 20 = .ok (.sipush 20000, 3) := by decide +kernel
theorem dX7_next_23 : decode cX7_next 23 = .ok (.if_icmp .le 6, 3) := by decide +kernel
theorem dX7_next_26 : decode cX7_next 26 = .ok (.bipush (-5), 2) := by decide +kernel
theorem dX7_next_28 : decode cX7_next 28 = .ok (.ireturn, 1) := by decide +kernel
theorem dX7_next_29 : decode cX7_next 29 = .ok (.iload_n 1, 1) := by decide +kernel
theorem dX7_next_30 : decode cX7_next 30 = .ok (.ifCond .ne 5, 3) := by decide +kernel
theorem dX7_next_33 : decode cX7_next 33 = .ok (.iconst 0, 1) := by decide +kernel
theorem dX7_next_34 : decode cX7_next 34 = .ok (.ireturn, 1) := by decide +kernel
theorem dX7_next_35 : decode cX7_next 35 = .ok (.aload_n 0, 1) := by decide +kernel
theorem dX7_next_36 : decode cX7_next 36 = .ok (.getfield 88, 3) := by decide +kernel
theorem dX7_next_39 : decode cX7_next 39 = .ok (.iconst 1, 1) := by decide +kernel
theorem dX7_next_40 : decode cX7_next 40 = .ok (.isub, 1) := by decide +kernel
theorem dX7_next_41 : decode cX7_next 41 = .ok (.istore_n 2, 1) := by decide +kernel
theorem dX7_next_42 : decode cX7_next 42 = .ok (.iload_n 2, 1) := by decide +kernel
theorem dX7_next_43 : decode cX7_next 43 = .ok (.ifCond .lt 23, 3) := by decide +kernel
theorem dX7_next_46 : decode cX7_next 46 = .ok (.aload_n 0, 1) := by decide +kernel
theorem dX7_next_47 : decode cX7_next 47 = .ok (.iload_n 2, 1) := by decide +kernel
theorem dX7_next_48 : decode cX7_next 48 = .ok (.invokevirtual 243, 3) := by decide +kernel
theorem dX7_next_51 : decode cX7_next 51 = .ok (.ifCond .eq 9, 3) := by decide +kernel
theorem dX7_next_54 : decode cX7_next 54 = .ok (.aload_n 0, 1) := by decide +kernel
theorem dX7_next_55 : decode cX7_next 55 = .ok (.invokevirtual 240, 3) := by decide +kernel
theorem dX7_next_58 : decode cX7_next 58 = .ok (.iconst 1, 1) := by decide +kernel
theorem dX7_next_59 : decode cX7_next 59 = .ok (.ireturn, 1) := by decide +kernel
theorem dX7_next_60 : decode cX7_next 60 = .ok (.iinc 2 (-1), 3) := by decide +kernel
theorem dX7_next_63 : decode cX7_next 63 = .ok (.goto (-21), 3) := by decide +kernel
theorem dX7_next_66 : decode cX7_next 66 = .ok (.iconst 0, 1) := by decide +kernel
theorem dX7_next_67 : decode cX7_next 67 = .ok (.ireturn, 1) := by decide +kernel
theorem dX7_findsAnswerAbove_0 : decode cX7_findsAnswerAbove 0 = .ok (.aload_n 0, 1) := by decide +kernel
theorem dX7_findsAnswerAbove_1 : decode cX7_findsAnswerAbove 1 = .ok (.getfield 45, 3) := by decide +kernel
theorem dX7_findsAnswerAbove_4 : decode cX7_findsAnswerAbove 4 = .ok (.aload_n 0, 1) := by decide +kernel
theorem dX7_findsAnswerAbove_5 : decode cX7_findsAnswerAbove 5 = .ok (.getfield 48, 3) := by decide +kernel
theorem dX7_findsAnswerAbove_8 : decode cX7_findsAnswerAbove 8 = .ok (.invokestatic 187, 3) := by decide +kernel
theorem dX7_findsAnswerAbove_11 : decode cX7_findsAnswerAbove 11 = .ok (.iconst 0, 1) := by decide +kernel
theorem dX7_findsAnswerAbove_12 : decode cX7_findsAnswerAbove 12 = .ok (.istore_n 2, 1) := by decide +kernel
theorem dX7_findsAnswerAbove_13 : decode cX7_findsAnswerAbove 13 = .ok (.iload_n 2, 1) := by decide +kernel
theorem dX7_findsAnswerAbove_14 : decode cX7_findsAnswerAbove 14 = .ok (.iload_n 1, 1) := by decide +kernel
theorem dX7_findsAnswerAbove_15 : decode cX7_findsAnswerAbove 15 = .ok (.if_icmp .ge 26, 3) := by decide +kernel
theorem dX7_findsAnswerAbove_18 : decode cX7_findsAnswerAbove 18 = .ok (.aload_n 0, 1) := by decide +kernel
theorem dX7_findsAnswerAbove_19 : decode cX7_findsAnswerAbove 19 = .ok (.getfield 48, 3) := by decide +kernel
theorem dX7_findsAnswerAbove_22 : decode cX7_findsAnswerAbove 22 = .ok (.iload_n 2, 1) := by decide +kernel
theorem dX7_findsAnswerAbove_23 : decode cX7_findsAnswerAbove 23 = .ok (.dup2, 1) := by decide +kernel
theorem dX7_findsAnswerAbove_24 : decode cX7_findsAnswerAbove 24 = .ok (.iaload, 1) := by decide +kernel
theorem dX7_findsAnswerAbove_25 : decode cX7_findsAnswerAbove 25 = .ok (.iconst 1, 1) := by decide +kernel
theorem dX7_findsAnswerAbove_26 : decode cX7_findsAnswerAbove 26 = .ok (.aload_n 0, 1) := by decide +kernel
theorem dX7_findsAnswerAbove_27 : decode cX7_findsAnswerAbove 27 = .ok (.getfield 32, 3) := by decide +kernel
theorem dX7_findsAnswerAbove_30 : decode cX7_findsAnswerAbove 30 = .ok (.iload_n 2, 1) := by decide +kernel
theorem dX7_findsAnswerAbove_31 : decode cX7_findsAnswerAbove 31 = .ok (.iaload, 1) := by decide +kernel
theorem dX7_findsAnswerAbove_32 : decode cX7_findsAnswerAbove 32 = .ok (.ishl, 1) := by decide +kernel
theorem dX7_findsAnswerAbove_33 : decode cX7_findsAnswerAbove 33 = .ok (.iand, 1) := by decide +kernel
theorem dX7_findsAnswerAbove_34 : decode cX7_findsAnswerAbove 34 = .ok (.iastore, 1) := by decide +kernel
theorem dX7_findsAnswerAbove_35 : decode cX7_findsAnswerAbove 35 = .ok (.iinc 2 1, 3) := by decide +kernel
theorem dX7_findsAnswerAbove_38 : decode cX7_findsAnswerAbove 38 = .ok (.goto (-25), 3) := by decide +kernel
theorem dX7_findsAnswerAbove_41 : decode cX7_findsAnswerAbove 41 = .ok (.aload_n 0, 1) := by decide +kernel
theorem dX7_findsAnswerAbove_42 : decode cX7_findsAnswerAbove 42 = .ok (.getfield 48, 3) := by decide +kernel
theorem dX7_findsAnswerAbove_45 : decode cX7_findsAnswerAbove 45 = .ok (.iload_n 1, 1) := by decide +kernel
theorem dX7_findsAnswerAbove_46 : decode cX7_findsAnswerAbove 46 = .ok (.dup2, 1) := by decide +kernel
theorem dX7_findsAnswerAbove_47 : decode cX7_findsAnswerAbove 47 = .ok (.iaload, 1) := by decide +kernel
theorem dX7_findsAnswerAbove_48 : decode cX7_findsAnswerAbove 48 = .ok (.iconst 2, 1) := by decide +kernel
theorem dX7_findsAnswerAbove_49 : decode cX7_findsAnswerAbove 49 = .ok (.aload_n 0, 1) := by decide +kernel
theorem dX7_findsAnswerAbove_50 : decode cX7_findsAnswerAbove 50 = .ok (.getfield 32, 3) := by decide +kernel
theorem dX7_findsAnswerAbove_53 : decode cX7_findsAnswerAbove 53 = .ok (.iload_n 1, 1) := by decide +kernel
theorem dX7_findsAnswerAbove_54 : decode cX7_findsAnswerAbove 54 = .ok (.iaload, 1) := by decide +kernel
theorem dX7_findsAnswerAbove_55 : decode cX7_findsAnswerAbove 55 = .ok (.ishl, 1) := by decide +kernel
theorem dX7_findsAnswerAbove_56 : decode cX7_findsAnswerAbove 56 = .ok (.ineg, 1) := by decide +kernel
theorem dX7_findsAnswerAbove_57 : decode cX7_findsAnswerAbove 57 = .ok (.iand, 1) := by decide +kernel
theorem dX7_findsAnswerAbove_58 : decode cX7_findsAnswerAbove 58 = .ok (.iastore, 1) := by decide +kernel
theorem dX7_findsAnswerAbove_59 : decode cX7_findsAnswerAbove 59 = .ok (.aload_n 0, 1) := by decide +kernel
theorem dX7_findsAnswerAbove_60 : decode cX7_findsAnswerAbove 60 = .ok (.aload_n 0, 1) := by decide +kernel
theorem dX7_findsAnswerAbove_61 : decode cX7_findsAnswerAbove 61 = .ok (.getfield 48, 3) := by decide +kernel
theorem dX7_findsAnswerAbove_64 : decode cX7_findsAnswerAbove 64 = .ok (.invokevirtual 237, 3) := by decide +kernel
theorem dX7_findsAnswerAbove_67 : decode cX7_findsAnswerAbove 67 = .ok (.ireturn, 1) := by decide +kernel
theorem dX7_answer_0 : decode cX7_answer 0 = .ok (.aload_n 0, 1) := by decide +kernel
theorem dX7_answer_1 : decode cX7_answer 1 = .ok (.iload_n 1, 1) := by decide +kernel
theorem dX7_answer_2 : decode cX7_answer 2 = .ok (.invokevirtual 94, 3) := by decide +kernel
theorem dX7_answer_5 : decode cX7_answer 5 = .ok (.ifCond .ne 5, 3) := by decide +kernel
theorem dX7_answer_8 : decode cX7_answer 8 = .ok (.iconst (-1), 1) := by decide +kernel
theorem dX7_answer_9 : decode cX7_answer 9 = .ok (.ireturn, 1) := by decide +kernel
theorem dX7_answer_10 : decode cX7_answer 10 = .ok (.iload_n 1, 1) := by decide +kernel
theorem dX7_answer_11 : decode cX7_answer 11 = .ok (.aload_n 0, 1) := by decide +kernel
theorem dX7_answer_12 : decode cX7_answer 12 = .ok (.getfield 35, 3) := by decide +kernel
theorem dX7_answer_15 : decode cX7_answer 15 = .ok (.if_icmp .ge 12, 3) := by decide +kernel
theorem dX7_answer_18 : decode cX7_answer 18 = .ok (.aload_n 0, 1) := by decide +kernel
theorem dX7_answer_19 : decode cX7_answer 19 = .ok (.getfield 32, 3) := by decide +kernel
theorem dX7_answer_22 : decode cX7_answer 22 = .ok (.iload_n 1, 1) := by decide +kernel
theorem dX7_answer_23 : decode cX7_answer 23 = .ok (.iaload, 1) := by decide +kernel
theorem dX7_answer_24 : decode cX7_answer 24 = .ok (.goto 5, 3) := by decide +kernel
theorem dX7_answer_27 : decode cX7_answer 27 = .ok (.bipush (-3), 2) := by decide +kernel
theorem dX7_answer_29 : decode cX7_answer 29 = .ok (.ireturn, 1) := by decide +kernel
theorem dX7_count_0 : decode cX7_count 0 = .ok (.iload_n 1, 1) := by decide +kernel
theorem dX7_count_1 : decode cX7_count 1 = .ok (.iconst 1, 1) := by decide +kernel
theorem dX7_count_2 : decode cX7_count 2 = .ok (.if_icmp .lt 10, 3) := by decide +kernel
theorem dX7_count_5 : decode cX7_count 5 = .ok (.iload_n 1, 1) := by decide +kernel
theorem dX7_count_6 : decode cX7_count 6 = .ok (.sipush 20000, 3) := by decide +kernel
theorem dX7_count_9 : decode cX7_count 9 = .ok (.if_icmp .le 6, 3) := by decide +kernel
theorem dX7_count_12 : decode cX7_count 12 = .ok (.bipush (-2), 2) := by decide +kernel
theorem dX7_count_14 : decode cX7_count 14 = .ok (.ireturn, 1) := by decide +kernel
theorem dX7_count_15 : decode cX7_count 15 = .ok (.aload_n 0, 1) := by decide +kernel
theorem dX7_count_16 : decode cX7_count 16 = .ok (.invokevirtual 234, 3) := by decide +kernel
theorem dX7_count_19 : decode cX7_count 19 = .ok (.istore_n 2, 1) := by decide +kernel
theorem dX7_count_20 : decode cX7_count 20 = .ok (.iload_n 2, 1) := by decide +kernel
theorem dX7_count_21 : decode cX7_count 21 = .ok (.sipush 20000, 3) := by decide +kernel
theorem dX7_count_24 : decode cX7_count 24 = .ok (.if_icmp .le 6, 3) := by decide +kernel
theorem dX7_count_27 : decode cX7_count 27 = .ok (.bipush (-5), 2) := by decide +kernel
theorem dX7_count_29 : decode cX7_count 29 = .ok (.ireturn, 1) := by decide +kernel
theorem dX7_count_30 : decode cX7_count 30 = .ok (.iload_n 2, 1) := by decide +kernel
theorem dX7_count_31 : decode cX7_count 31 = .ok (.ifCond .ne 7, 3) := by decide +kernel
theorem dX7_count_34 : decode cX7_count 34 = .ok (.iconst 0, 1) := by decide +kernel
theorem dX7_count_35 : decode cX7_count 35 = .ok (.goto 27, 3) := by decide +kernel
theorem dX7_count_38 : decode cX7_count 38 = .ok (.aload_n 0, 1) := by decide +kernel
theorem dX7_count_39 : decode cX7_count 39 = .ok (.getfield 81, 3) := by decide +kernel
theorem dX7_count_42 : decode cX7_count 42 = .ok (.aload_n 0, 1) := by decide +kernel
theorem dX7_count_43 : decode cX7_count 43 = .ok (.getfield 45, 3) := by decide +kernel
theorem dX7_count_46 : decode cX7_count 46 = .ok (.aload_n 0, 1) := by decide +kernel
theorem dX7_count_47 : decode cX7_count 47 = .ok (.getfield 88, 3) := by decide +kernel
theorem dX7_count_50 : decode cX7_count 50 = .ok (.aload_n 0, 1) := by decide +kernel
theorem dX7_count_51 : decode cX7_count 51 = .ok (.getfield 18, 3) := by decide +kernel
theorem dX7_count_54 : decode cX7_count 54 = .ok (.aload_n 0, 1) := by decide +kernel
theorem dX7_count_55 : decode cX7_count 55 = .ok (.getfield 118, 3) := by decide +kernel
theorem dX7_count_58 : decode cX7_count 58 = .ok (.iload_n 1, 1) := by decide +kernel
theorem dX7_count_59 : decode cX7_count 59 = .ok (.invokevirtual 246, 3) := by decide +kernel
theorem dX7_count_62 : decode cX7_count 62 = .ok (.ireturn, 1) := by decide +kernel
theorem dX7_best_0 : decode cX7_best 0 = .ok (.aload_n 0, 1) := by decide +kernel
theorem dX7_best_1 : decode cX7_best 1 = .ok (.iload_n 1, 1) := by decide +kernel
theorem dX7_best_2 : decode cX7_best 2 = .ok (.invokevirtual 94, 3) := by decide +kernel
theorem dX7_best_5 : decode cX7_best 5 = .ok (.ifCond .ne 5, 3) := by decide +kernel
theorem dX7_best_8 : decode cX7_best 8 = .ok (.iconst (-1), 1) := by decide +kernel
theorem dX7_best_9 : decode cX7_best 9 = .ok (.ireturn, 1) := by decide +kernel
theorem dX7_best_10 : decode cX7_best 10 = .ok (.aload_n 0, 1) := by decide +kernel
theorem dX7_best_11 : decode cX7_best 11 = .ok (.invokevirtual 234, 3) := by decide +kernel
theorem dX7_best_14 : decode cX7_best 14 = .ok (.istore_n 3, 1) := by decide +kernel
theorem dX7_best_15 : decode cX7_best 15 = .ok (.iload_n 3, 1) := by decide +kernel
theorem dX7_best_16 : decode cX7_best 16 = .ok (.sipush 20000, 3) := by decide +kernel
theorem dX7_best_19 : decode cX7_best 19 = .ok (.if_icmp .le 6, 3) := by decide +kernel
theorem dX7_best_22 : decode cX7_best 22 = .ok (.bipush (-5), 2) := by decide +kernel
theorem dX7_best_24 : decode cX7_best 24 = .ok (.ireturn, 1) := by decide +kernel
theorem dX7_best_25 : decode cX7_best 25 = .ok (.iconst 0, 1) := by decide +kernel
theorem dX7_best_26 : decode cX7_best 26 = .ok (.istore 4, 2) := by decide +kernel
theorem dX7_best_28 : decode cX7_best 28 = .ok (.iload_n 3, 1) := by decide +kernel
theorem dX7_best_29 : decode cX7_best 29 = .ok (.ifCond .le 51, 3) := by decide +kernel
theorem dX7_best_32 : decode cX7_best 32 = .ok (.iload 4, 2) := by decide +kernel
theorem dX7_best_34 : decode cX7_best 34 = .ok (.bipush 16, 2) := by decide +kernel
theorem dX7_best_36 : decode cX7_best 36 = .ok (.if_icmp .ge 44, 3) := by decide +kernel
theorem dX7_best_39 : decode cX7_best 39 = .ok (.iload_n 2, 1) := by decide +kernel
theorem dX7_best_40 : decode cX7_best 40 = .ok (.ifCond .eq 11, 3) := by decide +kernel
theorem dX7_best_43 : decode cX7_best 43 = .ok (.bipush 15, 2) := by decide +kernel
theorem dX7_best_45 : decode cX7_best 45 = .ok (.iload 4, 2) := by decide +kernel
theorem dX7_best_47 : decode cX7_best 47 = .ok (.isub, 1) := by decide +kernel
theorem dX7_best_48 : decode cX7_best 48 = .ok (.goto 5, 3) := by decide +kernel
theorem dX7_best_51 : decode cX7_best 51 = .ok (.iload 4, 2) := by decide +kernel
theorem dX7_best_53 : decode cX7_best 53 = .ok (.istore 5, 2) := by decide +kernel
theorem dX7_best_55 : decode cX7_best 55 = .ok (.aload_n 0, 1) := by decide +kernel
theorem dX7_best_56 : decode cX7_best 56 = .ok (.iload_n 1, 1) := by decide +kernel
theorem dX7_best_57 : decode cX7_best 57 = .ok (.iconst 1, 1) := by decide +kernel
theorem dX7_best_58 : decode cX7_best 58 = .ok (.iload 5, 2) := by decide +kernel
theorem dX7_best_60 : decode cX7_best 60 = .ok (.ishl, 1) := by decide +kernel
theorem dX7_best_61 : decode cX7_best 61 = .ok (.invokevirtual 250, 3) := by decide +kernel
theorem dX7_best_64 : decode cX7_best 64 = .ok (.ifCond .eq 10, 3) := by decide +kernel
theorem dX7_best_67 : decode cX7_best 67 = .ok (.aload_n 0, 1) := by decide +kernel
theorem dX7_best_68 : decode cX7_best 68 = .ok (.invokevirtual 240, 3) := by decide +kernel
theorem dX7_best_71 : decode cX7_best 71 = .ok (.iload 5, 2) := by decide +kernel
theorem dX7_best_73 : decode cX7_best 73 = .ok (.ireturn, 1) := by decide +kernel
theorem dX7_best_74 : decode cX7_best 74 = .ok (.iinc 4 1, 3) := by decide +kernel
theorem dX7_best_77 : decode cX7_best 77 = .ok (.goto (-49), 3) := by decide +kernel
theorem dX7_best_80 : decode cX7_best 80 = .ok (.aload_n 0, 1) := by decide +kernel
theorem dX7_best_81 : decode cX7_best 81 = .ok (.iconst (-1), 1) := by decide +kernel
theorem dX7_best_82 : decode cX7_best 82 = .ok (.putfield 35, 3) := by decide +kernel
theorem dX7_best_85 : decode cX7_best 85 = .ok (.bipush (-9), 2) := by decide +kernel
theorem dX7_best_87 : decode cX7_best 87 = .ok (.ireturn, 1) := by decide +kernel
theorem dX7_has_0 : decode cX7_has 0 = .ok (.aload_n 0, 1) := by decide +kernel
theorem dX7_has_1 : decode cX7_has 1 = .ok (.iload_n 1, 1) := by decide +kernel
theorem dX7_has_2 : decode cX7_has 2 = .ok (.invokevirtual 94, 3) := by decide +kernel
theorem dX7_has_5 : decode cX7_has 5 = .ok (.ifCond .ne 5, 3) := by decide +kernel
theorem dX7_has_8 : decode cX7_has 8 = .ok (.iconst (-1), 1) := by decide +kernel
theorem dX7_has_9 : decode cX7_has 9 = .ok (.ireturn, 1) := by decide +kernel
theorem dX7_has_10 : decode cX7_has 10 = .ok (.iload_n 2, 1) := by decide +kernel
theorem dX7_has_11 : decode cX7_has 11 = .ok (.iload_n 3, 1) := by decide +kernel
theorem dX7_has_12 : decode cX7_has 12 = .ok (.invokestatic 143, 3) := by decide +kernel
theorem dX7_has_15 : decode cX7_has 15 = .ok (.ifCond .ne 6, 3) := by decide +kernel
theorem dX7_has_18 : decode cX7_has 18 = .ok (.bipush (-2), 2) := by decide +kernel
theorem dX7_has_20 : decode cX7_has 20 = .ok (.ireturn, 1) := by decide +kernel
theorem dX7_has_21 : decode cX7_has 21 = .ok (.aload_n 0, 1) := by decide +kernel
theorem dX7_has_22 : decode cX7_has 22 = .ok (.invokevirtual 234, 3) := by decide +kernel
theorem dX7_has_25 : decode cX7_has 25 = .ok (.istore 4, 2) := by decide +kernel
theorem dX7_has_27 : decode cX7_has 27 = .ok (.iload 4, 2) := by decide +kernel
theorem dX7_has_29 : decode cX7_has 29 = .ok (.sipush 20000, 3) := by decide +kernel
theorem dX7_has_32 : decode cX7_has 32 = .ok (.if_icmp .le 6, 3) := by decide +kernel
theorem dX7_has_35 : decode cX7_has 35 = .ok (.bipush (-5), 2) := by decide +kernel
theorem dX7_has_37 : decode cX7_has 37 = .ok (.ireturn, 1) := by decide +kernel
theorem dX7_has_38 : decode cX7_has 38 = .ok (.iload_n 2, 1) := by decide +kernel
theorem dX7_has_39 : decode cX7_has 39 = .ok (.iload_n 3, 1) := by decide +kernel
theorem dX7_has_40 : decode cX7_has 40 = .ok (.invokestatic 147, 3) := by decide +kernel
theorem dX7_has_43 : decode cX7_has 43 = .ok (.istore 5, 2) := by decide +kernel
theorem dX7_has_45 : decode cX7_has 45 = .ok (.iload 4, 2) := by decide +kernel
theorem dX7_has_47 : decode cX7_has 47 = .ok (.ifCond .le 17, 3) := by decide +kernel
theorem dX7_has_50 : decode cX7_has 50 = .ok (.aload_n 0, 1) := by decide +kernel
theorem dX7_has_51 : decode cX7_has 51 = .ok (.iload_n 1, 1) := by decide +kernel
theorem dX7_has_52 : decode cX7_has 52 = .ok (.iload 5, 2) := by decide +kernel
theorem dX7_has_54 : decode cX7_has 54 = .ok (.invokevirtual 250, 3) := by decide +kernel
theorem dX7_has_57 : decode cX7_has 57 = .ok (.ifCond .eq 7, 3) := by decide +kernel
theorem dX7_has_60 : decode cX7_has 60 = .ok (.iconst 1, 1) := by decide +kernel
theorem dX7_has_61 : decode cX7_has 61 = .ok (.goto 4, 3) := by decide +kernel
theorem dX7_has_64 : decode cX7_has 64 = .ok (.iconst 0, 1) := by decide +kernel
theorem dX7_has_65 : decode cX7_has 65 = .ok (.istore 6, 2) := by decide +kernel
theorem dX7_has_67 : decode cX7_has 67 = .ok (.iload 4, 2) := by decide +kernel
theorem dX7_has_69 : decode cX7_has 69 = .ok (.ifCond .le 19, 3) := by decide +kernel
theorem dX7_has_72 : decode cX7_has 72 = .ok (.aload_n 0, 1) := by decide +kernel
theorem dX7_has_73 : decode cX7_has 73 = .ok (.iload_n 1, 1) := by decide +kernel
theorem dX7_has_74 : decode cX7_has 74 = .ok (.iload 5, 2) := by decide +kernel
theorem dX7_has_76 : decode cX7_has 76 = .ok (.iconst (-1), 1) := by decide +kernel
theorem dX7_has_77 : decode cX7_has 77 = .ok (.ixor, 1) := by decide +kernel
theorem dX7_has_78 : decode cX7_has 78 = .ok (.invokevirtual 250, 3) := by decide +kernel
theorem dX7_has_81 : decode cX7_has 81 = .ok (.ifCond .eq 7, 3) := by decide +kernel
theorem dX7_has_84 : decode cX7_has 84 = .ok (.iconst 1, 1) := by decide +kernel
theorem dX7_has_85 : decode cX7_has 85 = .ok (.goto 4, 3) := by decide +kernel
theorem dX7_has_88 : decode cX7_has 88 = .ok (.iconst 0, 1) := by decide +kernel
theorem dX7_has_89 : decode cX7_has 89 = .ok (.istore 7, 2) := by decide +kernel
theorem dX7_has_91 : decode cX7_has 91 = .ok (.iload 6, 2) := by decide +kernel
theorem dX7_has_93 : decode cX7_has 93 = .ok (.ifCond .eq 14, 3) := by decide +kernel
theorem dX7_has_96 : decode cX7_has 96 = .ok (.iload 7, 2) := by decide +kernel
theorem dX7_has_98 : decode cX7_has 98 = .ok (.ifCond .eq 7, 3) := by decide +kernel
theorem dX7_has_101 : decode cX7_has 101 = .ok (.iconst 2, 1) := by decide +kernel
theorem dX7_has_102 : decode cX7_has 102 = .ok (.goto 4, 3) := by decide +kernel
theorem dX7_has_105 : decode cX7_has 105 = .ok (.iconst 1, 1) := by decide +kernel
theorem dX7_has_106 : decode cX7_has 106 = .ok (.ireturn, 1) := by decide +kernel
theorem dX7_has_107 : decode cX7_has 107 = .ok (.iload 7, 2) := by decide +kernel
theorem dX7_has_109 : decode cX7_has 109 = .ok (.ifCond .eq 7, 3) := by decide +kernel
theorem dX7_has_112 : decode cX7_has 112 = .ok (.iconst 0, 1) := by decide +kernel
theorem dX7_has_113 : decode cX7_has 113 = .ok (.goto 4, 3) := by decide +kernel
theorem dX7_has_116 : decode cX7_has 116 = .ok (.iconst 3, 1) := by decide +kernel
theorem dX7_has_117 : decode cX7_has 117 = .ok (.ireturn, 1) := by decide +kernel
theorem dX7_core_0 : decode cX7_core 0 = .ok (.aload_n 0, 1) := by decide +kernel
theorem dX7_core_1 : decode cX7_core 1 = .ok (.iconst 0, 1) := by decide +kernel
theorem dX7_core_2 : decode cX7_core 2 = .ok (.invokevirtual 224, 3) := by decide +kernel
theorem dX7_core_5 : decode cX7_core 5 = .ok (.ifCond .ne 9, 3) := by decide +kernel
theorem dX7_core_8 : decode cX7_core 8 = .ok (.aload_n 0, 1) := by decide +kernel
theorem dX7_core_9 : decode cX7_core 9 = .ok (.iconst 0, 1) := by decide +kernel
theorem dX7_core_10 : decode cX7_core 10 = .ok (.invokevirtual 221, 3) := by decide +kernel
theorem dX7_core_13 : decode cX7_core 13 = .ok (.ireturn, 1) := by decide +kernel
theorem dX7_core_14 : decode cX7_core 14 = .ok (.aload_n 0, 1) := by decide +kernel
theorem dX7_core_15 : decode cX7_core 15 = .ok (.aload_n 0, 1) := by decide +kernel
theorem dX7_core_16 : decode cX7_core 16 = .ok (.getfield 45, 3) := by decide +kernel
theorem dX7_core_19 : decode cX7_core 19 = .ok (.iconst (-1), 1) := by decide +kernel
theorem dX7_core_20 : decode cX7_core 20 = .ok (.invokevirtual 253, 3) := by decide +kernel
theorem dX7_core_23 : decode cX7_core 23 = .ok (.sipush 20000, 3) := by decide +kernel
theorem dX7_core_26 : decode cX7_core 26 = .ok (.if_icmp .le 6, 3) := by decide +kernel
theorem dX7_core_29 : decode cX7_core 29 = .ok (.bipush (-5), 2) := by decide +kernel
theorem dX7_core_31 : decode cX7_core 31 = .ok (.ireturn, 1) := by decide +kernel
theorem dX7_core_32 : decode cX7_core 32 = .ok (.aload_n 0, 1) := by decide +kernel
theorem dX7_core_33 : decode cX7_core 33 = .ok (.getfield 25, 3) := by decide +kernel
theorem dX7_core_36 : decode cX7_core 36 = .ok (.invokevirtual 214, 3) := by decide +kernel
theorem dX7_core_39 : decode cX7_core 39 = .ok (.istore_n 1, 1) := by decide +kernel
theorem dX7_core_40 : decode cX7_core 40 = .ok (.aload_n 0, 1) := by decide +kernel
theorem dX7_core_41 : decode cX7_core 41 = .ok (.iload_n 1, 1) := by decide +kernel
theorem dX7_core_42 : decode cX7_core 42 = .ok (.invokevirtual 257, 3) := by decide +kernel
theorem dX7_core_45 : decode cX7_core 45 = .ok (.ifCond .eq 12, 3) := by decide +kernel
theorem dX7_core_48 : decode cX7_core 48 = .ok (.aload_n 0, 1) := by decide +kernel
theorem dX7_core_49 : decode cX7_core 49 = .ok (.iconst 0, 1) := by decide +kernel
theorem dX7_core_50 : decode cX7_core 50 = .ok (.invokevirtual 221, 3) := by decide +kernel
theorem dX7_core_53 : decode cX7_core 53 = .ok (.pop, 1) := by decide +kernel
theorem dX7_core_54 : decode cX7_core 54 = .ok (.bipush (-9), 2) := by decide +kernel
theorem dX7_core_56 : decode cX7_core 56 = .ok (.ireturn, 1) := by decide +kernel
theorem dX7_core_57 : decode cX7_core 57 = .ok (.iconst 0, 1) := by decide +kernel
theorem dX7_core_58 : decode cX7_core 58 = .ok (.istore_n 2, 1) := by decide +kernel
theorem dX7_core_59 : decode cX7_core 59 = .ok (.iload_n 2, 1) := by decide +kernel
theorem dX7_core_60 : decode cX7_core 60 = .ok (.aload_n 0, 1) := by decide +kernel
theorem dX7_core_61 : decode cX7_core 61 = .ok (.getfield 25, 3) := by decide +kernel
theorem dX7_core_64 : decode cX7_core 64 = .ok (.getfield 85, 3) := by decide +kernel
theorem dX7_core_67 : decode cX7_core 67 = .ok (.if_icmp .ge 27, 3) := by decide +kernel
theorem dX7_core_70 : decode cX7_core 70 = .ok (.iload_n 1, 1) := by decide +kernel
theorem dX7_core_71 : decode cX7_core 71 = .ok (.iconst 1, 1) := by decide +kernel
theorem dX7_core_72 : decode cX7_core 72 = .ok (.iload_n 2, 1) := by decide +kernel
theorem dX7_core_73 : decode cX7_core 73 = .ok (.ishl, 1) := by decide +kernel
theorem dX7_core_74 : decode cX7_core 74 = .ok (.iconst (-1), 1) := by decide +kernel
theorem dX7_core_75 : decode cX7_core 75 = .ok (.ixor, 1) := by decide +kernel
theorem dX7_core_76 : decode cX7_core 76 = .ok (.iand, 1) := by decide +kernel
theorem dX7_core_77 : decode cX7_core 77 = .ok (.istore_n 3, 1) := by decide +kernel
theorem dX7_core_78 : decode cX7_core 78 = .ok (.aload_n 0, 1) := by decide +kernel
theorem dX7_core_79 : decode cX7_core 79 = .ok (.iload_n 3, 1) := by decide +kernel
theorem dX7_core_80 : decode cX7_core 80 = .ok (.invokevirtual 257, 3) := by decide +kernel
theorem dX7_core_83 : decode cX7_core 83 = .ok (.ifCond .ne 5, 3) := by decide +kernel
theorem dX7_core_86 : decode cX7_core 86 = .ok (.iload_n 3, 1) := by decide +kernel
theorem dX7_core_87 : decode cX7_core 87 = .ok (.istore_n 1, 1) := by decide +kernel
theorem dX7_core_88 : decode cX7_core 88 = .ok (.iinc 2 1, 3) := by decide +kernel
theorem dX7_core_91 : decode cX7_core 91 = .ok (.goto (-32), 3) := by decide +kernel
theorem dX7_core_94 : decode cX7_core 94 = .ok (.aload_n 0, 1) := by decide +kernel
theorem dX7_core_95 : decode cX7_core 95 = .ok (.iload_n 1, 1) := by decide +kernel
theorem dX7_core_96 : decode cX7_core 96 = .ok (.invokevirtual 221, 3) := by decide +kernel
theorem dX7_core_99 : decode cX7_core 99 = .ok (.ireturn, 1) := by decide +kernel
theorem dX7_hasAnswerBySteps_0 : decode cX7_hasAnswerBySteps 0 = .ok (.aload_n 0, 1) := by decide +kernel
theorem dX7_hasAnswerBySteps_1 : decode cX7_hasAnswerBySteps 1 = .ok (.iload_n 1, 1) := by decide +kernel
theorem dX7_hasAnswerBySteps_2 : decode cX7_hasAnswerBySteps 2 = .ok (.invokevirtual 224, 3) := by decide +kernel
theorem dX7_hasAnswerBySteps_5 : decode cX7_hasAnswerBySteps 5 = .ok (.ifCond .eq 18, 3) := by decide +kernel
theorem dX7_hasAnswerBySteps_8 : decode cX7_hasAnswerBySteps 8 = .ok (.aload_n 0, 1) := by decide +kernel
theorem dX7_hasAnswerBySteps_9 : decode cX7_hasAnswerBySteps 9 = .ok (.aload_n 0, 1) := by decide +kernel
theorem dX7_hasAnswerBySteps_10 : decode cX7_hasAnswerBySteps 10 = .ok (.getfield 45, 3) := by decide +kernel
theorem dX7_hasAnswerBySteps_13 : decode cX7_hasAnswerBySteps 13 = .ok (.invokevirtual 237, 3) := by decide +kernel
theorem dX7_hasAnswerBySteps_16 : decode cX7_hasAnswerBySteps 16 = .ok (.ifCond .eq 7, 3) := by decide +kernel
theorem dX7_hasAnswerBySteps_19 : decode cX7_hasAnswerBySteps 19 = .ok (.iconst 1, 1) := by decide +kernel
theorem dX7_hasAnswerBySteps_20 : decode cX7_hasAnswerBySteps 20 = .ok (.goto 4, 3) := by decide +kernel
theorem dX7_hasAnswerBySteps_23 : decode cX7_hasAnswerBySteps 23 = .ok (.iconst 0, 1) := by decide +kernel
theorem dX7_hasAnswerBySteps_24 : decode cX7_hasAnswerBySteps 24 = .ok (.ireturn, 1) := by decide +kernel
theorem dX7_narrowAside_0 : decode cX7_narrowAside 0 = .ok (.aload_n 0, 1) := by decide +kernel
theorem dX7_narrowAside_1 : decode cX7_narrowAside 1 = .ok (.getfield 13, 3) := by decide +kernel
theorem dX7_narrowAside_4 : decode cX7_narrowAside 4 = .ok (.aload_n 0, 1) := by decide +kernel
theorem dX7_narrowAside_5 : decode cX7_narrowAside 5 = .ok (.getfield 45, 3) := by decide +kernel
theorem dX7_narrowAside_8 : decode cX7_narrowAside 8 = .ok (.invokestatic 187, 3) := by decide +kernel
theorem dX7_narrowAside_11 : decode cX7_narrowAside 11 = .ok (.aload_n 0, 1) := by decide +kernel
theorem dX7_narrowAside_12 : decode cX7_narrowAside 12 = .ok (.getfield 72, 3) := by decide +kernel
theorem dX7_narrowAside_15 : decode cX7_narrowAside 15 = .ok (.aload_n 0, 1) := by decide +kernel
theorem dX7_narrowAside_16 : decode cX7_narrowAside 16 = .ok (.getfield 45, 3) := by decide +kernel
theorem dX7_narrowAside_19 : decode cX7_narrowAside 19 = .ok (.aload_n 0, 1) := by decide +kernel
theorem dX7_narrowAside_20 : decode cX7_narrowAside 20 = .ok (.getfield 18, 3) := by decide +kernel
theorem dX7_narrowAside_23 : decode cX7_narrowAside 23 = .ok (.aload_n 0, 1) := by decide +kernel
theorem dX7_narrowAside_24 : decode cX7_narrowAside 24 = .ok (.getfield 118, 3) := by decide +kernel
theorem dX7_narrowAside_27 : decode cX7_narrowAside 27 = .ok (.invokevirtual 191, 3) := by decide +kernel
theorem dX7_narrowAside_30 : decode cX7_narrowAside 30 = .ok (.ifCond .eq 15, 3) := by decide +kernel
theorem dX7_narrowAside_33 : decode cX7_narrowAside 33 = .ok (.aload_n 0, 1) := by decide +kernel
theorem dX7_narrowAside_34 : decode cX7_narrowAside 34 = .ok (.aload_n 0, 1) := by decide +kernel
theorem dX7_narrowAside_35 : decode cX7_narrowAside 35 = .ok (.getfield 45, 3) := by decide +kernel
theorem dX7_narrowAside_38 : decode cX7_narrowAside 38 = .ok (.iconst (-1), 1) := by decide +kernel
theorem dX7_narrowAside_39 : decode cX7_narrowAside 39 = .ok (.invokevirtual 253, 3) := by decide +kernel
theorem dX7_narrowAside_42 : decode cX7_narrowAside 42 = .ok (.goto 4, 3) := by decide +kernel
theorem dX7_narrowAside_45 : decode cX7_narrowAside 45 = .ok (.iconst 0, 1) := by decide +kernel
theorem dX7_narrowAside_46 : decode cX7_narrowAside 46 = .ok (.ireturn, 1) := by decide +kernel
theorem dX7_countWays_0 : decode cX7_countWays 0 = .ok (.iconst 1, 1) := by decide +kernel
theorem dX7_countWays_1 : decode cX7_countWays 1 = .ok (.istore_n 3, 1) := by decide +kernel
theorem dX7_countWays_2 : decode cX7_countWays 2 = .ok (.iconst 0, 1) := by decide +kernel
theorem dX7_countWays_3 : decode cX7_countWays 3 = .ok (.istore 4, 2) := by decide +kernel
theorem dX7_countWays_5 : decode cX7_countWays 5 = .ok (.iload 4, 2) := by decide +kernel
theorem dX7_countWays_7 : decode cX7_countWays 7 = .ok (.aload_n 0, 1) := by decide +kernel
theorem dX7_countWays_8 : decode cX7_countWays 8 = .ok (.getfield 88, 3) := by decide +kernel
theorem dX7_countWays_11 : decode cX7_countWays 11 = .ok (.if_icmp .ge 35, 3) := by decide +kernel
theorem dX7_countWays_14 : decode cX7_countWays 14 = .ok (.iload_n 3, 1) := by decide +kernel
theorem dX7_countWays_15 : decode cX7_countWays 15 = .ok (.sipush 20000, 3) := by decide +kernel
theorem dX7_countWays_18 : decode cX7_countWays 18 = .ok (.if_icmp .gt 28, 3) := by decide +kernel
theorem dX7_countWays_21 : decode cX7_countWays 21 = .ok (.iload_n 2, 1) := by decide +kernel
theorem dX7_countWays_22 : decode cX7_countWays 22 = .ok (.iload 4, 2) := by decide +kernel
theorem dX7_countWays_24 : decode cX7_countWays 24 = .ok (.ishr, 1) := by decide +kernel
theorem dX7_countWays_25 : decode cX7_countWays 25 = .ok (.iconst 1, 1) := by decide +kernel
theorem dX7_countWays_26 : decode cX7_countWays 26 = .ok (.iand, 1) := by decide +kernel
theorem dX7_countWays_27 : decode cX7_countWays 27 = .ok (.ifCond .eq 13, 3) := by decide +kernel
theorem dX7_countWays_30 : decode cX7_countWays 30 = .ok (.iload_n 3, 1) := by decide +kernel
theorem dX7_countWays_31 : decode cX7_countWays 31 = .ok (.aload_n 1, 1) := by decide +kernel
theorem dX7_countWays_32 : decode cX7_countWays 32 = .ok (.iload 4, 2) := by decide +kernel
theorem dX7_countWays_34 : decode cX7_countWays 34 = .ok (.iaload, 1) := by decide +kernel
theorem dX7_countWays_35 : decode cX7_countWays 35 = .ok (.invokestatic 101, 3) := by decide +kernel
theorem dX7_countWays_38 : decode cX7_countWays 38 = .ok (.imul, 1) := by decide +kernel
theorem dX7_countWays_39 : decode cX7_countWays 39 = .ok (.istore_n 3, 1) := by decide +kernel
theorem dX7_countWays_40 : decode cX7_countWays 40 = .ok (.iinc 4 1, 3) := by decide +kernel
theorem dX7_countWays_43 : decode cX7_countWays 43 = .ok (.goto (-38), 3) := by decide +kernel
theorem dX7_countWays_46 : decode cX7_countWays 46 = .ok (.iload_n 3, 1) := by decide +kernel
theorem dX7_countWays_47 : decode cX7_countWays 47 = .ok (.ireturn, 1) := by decide +kernel
theorem dX7_findsAnswerWith_0 : decode cX7_findsAnswerWith 0 = .ok (.aload_n 0, 1) := by decide +kernel
theorem dX7_findsAnswerWith_1 : decode cX7_findsAnswerWith 1 = .ok (.getfield 45, 3) := by decide +kernel
theorem dX7_findsAnswerWith_4 : decode cX7_findsAnswerWith 4 = .ok (.aload_n 0, 1) := by decide +kernel
theorem dX7_findsAnswerWith_5 : decode cX7_findsAnswerWith 5 = .ok (.getfield 48, 3) := by decide +kernel
theorem dX7_findsAnswerWith_8 : decode cX7_findsAnswerWith 8 = .ok (.invokestatic 187, 3) := by decide +kernel
theorem dX7_findsAnswerWith_11 : decode cX7_findsAnswerWith 11 = .ok (.aload_n 0, 1) := by decide +kernel
theorem dX7_findsAnswerWith_12 : decode cX7_findsAnswerWith 12 = .ok (.getfield 48, 3) := by decide +kernel
theorem dX7_findsAnswerWith_15 : decode cX7_findsAnswerWith 15 = .ok (.iload_n 1, 1) := by decide +kernel
theorem dX7_findsAnswerWith_16 : decode cX7_findsAnswerWith 16 = .ok (.dup2, 1) := by decide +kernel
theorem dX7_findsAnswerWith_17 : decode cX7_findsAnswerWith 17 = .ok (.iaload, 1) := by decide +kernel
theorem dX7_findsAnswerWith_18 : decode cX7_findsAnswerWith 18 = .ok (.iload_n 2, 1) := by decide +kernel
theorem dX7_findsAnswerWith_19 : decode cX7_findsAnswerWith 19 = .ok (.iand, 1) := by decide +kernel
theorem dX7_findsAnswerWith_20 : decode cX7_findsAnswerWith 20 = .ok (.iastore, 1) := by decide +kernel
theorem dX7_findsAnswerWith_21 : decode cX7_findsAnswerWith 21 = .ok (.aload_n 0, 1) := by decide +kernel
theorem dX7_findsAnswerWith_22 : decode cX7_findsAnswerWith 22 = .ok (.aload_n 0, 1) := by decide +kernel
theorem dX7_findsAnswerWith_23 : decode cX7_findsAnswerWith 23 = .ok (.getfield 48, 3) := by decide +kernel
theorem dX7_findsAnswerWith_26 : decode cX7_findsAnswerWith 26 = .ok (.invokevirtual 237, 3) := by decide +kernel
theorem dX7_findsAnswerWith_29 : decode cX7_findsAnswerWith 29 = .ok (.ireturn, 1) := by decide +kernel
theorem dX7_findsAnswer_0 : decode cX7_findsAnswer 0 = .ok (.aload_n 0, 1) := by decide +kernel
theorem dX7_findsAnswer_1 : decode cX7_findsAnswer 1 = .ok (.aload_n 1, 1) := by decide +kernel
theorem dX7_findsAnswer_2 : decode cX7_findsAnswer 2 = .ok (.invokevirtual 227, 3) := by decide +kernel
theorem dX7_findsAnswer_5 : decode cX7_findsAnswer 5 = .ok (.ifCond .eq 31, 3) := by decide +kernel
theorem dX7_findsAnswer_8 : decode cX7_findsAnswer 8 = .ok (.aload_n 0, 1) := by decide +kernel
theorem dX7_findsAnswer_9 : decode cX7_findsAnswer 9 = .ok (.getfield 81, 3) := by decide +kernel
theorem dX7_findsAnswer_12 : decode cX7_findsAnswer 12 = .ok (.aload_n 1, 1) := by decide +kernel
theorem dX7_findsAnswer_13 : decode cX7_findsAnswer 13 = .ok (.aload_n 0, 1) := by decide +kernel
theorem dX7_findsAnswer_14 : decode cX7_findsAnswer 14 = .ok (.getfield 88, 3) := by decide +kernel
theorem dX7_findsAnswer_17 : decode cX7_findsAnswer 17 = .ok (.aload_n 0, 1) := by decide +kernel
theorem dX7_findsAnswer_18 : decode cX7_findsAnswer 18 = .ok (.getfield 18, 3) := by decide +kernel
theorem dX7_findsAnswer_21 : decode cX7_findsAnswer 21 = .ok (.aload_n 0, 1) := by decide +kernel
theorem dX7_findsAnswer_22 : decode cX7_findsAnswer 22 = .ok (.getfield 118, 3) := by decide +kernel
theorem dX7_findsAnswer_25 : decode cX7_findsAnswer 25 = .ok (.iconst 1, 1) := by decide +kernel
theorem dX7_findsAnswer_26 : decode cX7_findsAnswer 26 = .ok (.invokevirtual 246, 3) := by decide +kernel
theorem dX7_findsAnswer_29 : decode cX7_findsAnswer 29 = .ok (.ifCond .le 7, 3) := by decide +kernel
theorem dX7_findsAnswer_32 : decode cX7_findsAnswer 32 = .ok (.iconst 1, 1) := by decide +kernel
theorem dX7_findsAnswer_33 : decode cX7_findsAnswer 33 = .ok (.goto 4, 3) := by decide +kernel
theorem dX7_findsAnswer_36 : decode cX7_findsAnswer 36 = .ok (.iconst 0, 1) := by decide +kernel
theorem dX7_findsAnswer_37 : decode cX7_findsAnswer 37 = .ok (.ireturn, 1) := by decide +kernel
theorem dX7_keepAnswer_0 : decode cX7_keepAnswer 0 = .ok (.aload_n 0, 1) := by decide +kernel
theorem dX7_keepAnswer_1 : decode cX7_keepAnswer 1 = .ok (.getfield 81, 3) := by decide +kernel
theorem dX7_keepAnswer_4 : decode cX7_keepAnswer 4 = .ok (.getfield 260, 3) := by decide +kernel
theorem dX7_keepAnswer_7 : decode cX7_keepAnswer 7 = .ok (.aload_n 0, 1) := by decide +kernel
theorem dX7_keepAnswer_8 : decode cX7_keepAnswer 8 = .ok (.getfield 32, 3) := by decide +kernel
theorem dX7_keepAnswer_11 : decode cX7_keepAnswer 11 = .ok (.invokestatic 187, 3) := by decide +kernel
theorem dX7_keepAnswer_14 : decode cX7_keepAnswer 14 = .ok (.aload_n 0, 1) := by decide +kernel
theorem dX7_keepAnswer_15 : decode cX7_keepAnswer 15 = .ok (.aload_n 0, 1) := by decide +kernel
theorem dX7_keepAnswer_16 : decode cX7_keepAnswer 16 = .ok (.getfield 88, 3) := by decide +kernel
theorem dX7_keepAnswer_19 : decode cX7_keepAnswer 19 = .ok (.putfield 35, 3) := by decide +kernel
theorem dX7_keepAnswer_22 : decode cX7_keepAnswer 22 = .ok (.return_, 1) := by decide +kernel
theorem dX7_line_0 : decode cX7_line 0 = .ok (.iload_n 1, 1) := by decide +kernel
theorem dX7_line_1 : decode cX7_line 1 = .ok (.bipush (-9), 2) := by decide +kernel
theorem dX7_line_3 : decode cX7_line 3 = .ok (.if_icmp .eq 13, 3) := by decide +kernel
theorem dX7_line_6 : decode cX7_line 6 = .ok (.aload_n 0, 1) := by decide +kernel
theorem dX7_line_7 : decode cX7_line 7 = .ok (.iload_n 1, 1) := by decide +kernel
theorem dX7_line_8 : decode cX7_line 8 = .ok (.invokevirtual 122, 3) := by decide +kernel
theorem dX7_line_11 : decode cX7_line 11 = .ok (.ifCond .ne 5, 3) := by decide +kernel
theorem dX7_line_14 : decode cX7_line 14 = .ok (.iconst (-1), 1) := by decide +kernel
theorem dX7_line_15 : decode cX7_line 15 = .ok (.ireturn, 1) := by decide +kernel
theorem dX7_line_16 : decode cX7_line 16 = .ok (.aload_n 0, 1) := by decide +kernel
theorem dX7_line_17 : decode cX7_line 17 = .ok (.getfield 263, 3) := by decide +kernel
theorem dX7_line_20 : decode cX7_line 20 = .ok (.bipush 40, 2) := by decide +kernel
theorem dX7_line_22 : decode cX7_line 22 = .ok (.if_icmp .lt 6, 3) := by decide +kernel
theorem dX7_line_25 : decode cX7_line 25 = .ok (.bipush (-4), 2) := by decide +kernel
theorem dX7_line_27 : decode cX7_line 27 = .ok (.ireturn, 1) := by decide +kernel
theorem dX7_line_28 : decode cX7_line 28 = .ok (.aload_n 0, 1) := by decide +kernel
theorem dX7_line_29 : decode cX7_line 29 = .ok (.getfield 39, 3) := by decide +kernel
theorem dX7_line_32 : decode cX7_line 32 = .ok (.aload_n 0, 1) := by decide +kernel
theorem dX7_line_33 : decode cX7_line 33 = .ok (.getfield 263, 3) := by decide +kernel
theorem dX7_line_36 : decode cX7_line 36 = .ok (.aaload, 1) := by decide +kernel
theorem dX7_line_37 : decode cX7_line 37 = .ok (.iconst 5, 1) := by decide +kernel
theorem dX7_line_38 : decode cX7_line 38 = .ok (.iconst 0, 1) := by decide +kernel
theorem dX7_line_39 : decode cX7_line 39 = .ok (.iconst 0, 1) := by decide +kernel
theorem dX7_line_40 : decode cX7_line 40 = .ok (.invokevirtual 114, 3) := by decide +kernel
theorem dX7_line_43 : decode cX7_line 43 = .ok (.aload_n 0, 1) := by decide +kernel
theorem dX7_line_44 : decode cX7_line 44 = .ok (.getfield 42, 3) := by decide +kernel
theorem dX7_line_47 : decode cX7_line 47 = .ok (.aload_n 0, 1) := by decide +kernel
theorem dX7_line_48 : decode cX7_line 48 = .ok (.getfield 263, 3) := by decide +kernel
theorem dX7_line_51 : decode cX7_line 51 = .ok (.iload_n 1, 1) := by decide +kernel
theorem dX7_line_52 : decode cX7_line 52 = .ok (.iastore, 1) := by decide +kernel
theorem dX7_line_53 : decode cX7_line 53 = .ok (.aload_n 0, 1) := by decide +kernel
theorem dX7_line_54 : decode cX7_line 54 = .ok (.dup, 1) := by decide +kernel
theorem dX7_line_55 : decode cX7_line 55 = .ok (.getfield 263, 3) := by decide +kernel
theorem dX7_line_58 : decode cX7_line 58 = .ok (.iconst 1, 1) := by decide +kernel
theorem dX7_line_59 : decode cX7_line 59 = .ok (.iadd, 1) := by decide +kernel
theorem dX7_line_60 : decode cX7_line 60 = .ok (.putfield 263, 3) := by decide +kernel
theorem dX7_line_63 : decode cX7_line 63 = .ok (.aload_n 0, 1) := by decide +kernel
theorem dX7_line_64 : decode cX7_line 64 = .ok (.getfield 263, 3) := by decide +kernel
theorem dX7_line_67 : decode cX7_line 67 = .ok (.iconst 1, 1) := by decide +kernel
theorem dX7_line_68 : decode cX7_line 68 = .ok (.isub, 1) := by decide +kernel
theorem dX7_line_69 : decode cX7_line 69 = .ok (.ireturn, 1) := by decide +kernel
theorem dX7_says_0 : decode cX7_says 0 = .ok (.aload_n 0, 1) := by decide +kernel
theorem dX7_says_1 : decode cX7_says 1 = .ok (.iload_n 1, 1) := by decide +kernel
theorem dX7_says_2 : decode cX7_says 2 = .ok (.invokevirtual 266, 3) := by decide +kernel
theorem dX7_says_5 : decode cX7_says 5 = .ok (.ifCond .eq 11, 3) := by decide +kernel
theorem dX7_says_8 : decode cX7_says 8 = .ok (.aload_n 0, 1) := by decide +kernel
theorem dX7_says_9 : decode cX7_says 9 = .ok (.iload_n 2, 1) := by decide +kernel
theorem dX7_says_10 : decode cX7_says 10 = .ok (.invokevirtual 94, 3) := by decide +kernel
theorem dX7_says_13 : decode cX7_says 13 = .ok (.ifCond .ne 5, 3) := by decide +kernel
theorem dX7_says_16 : decode cX7_says 16 = .ok (.iconst (-1), 1) := by decide +kernel
theorem dX7_says_17 : decode cX7_says 17 = .ok (.ireturn, 1) := by decide +kernel
theorem dX7_says_18 : decode cX7_says 18 = .ok (.iload_n 3, 1) := by decide +kernel
theorem dX7_says_19 : decode cX7_says 19 = .ok (.iload 4, 2) := by decide +kernel
theorem dX7_says_21 : decode cX7_says 21 = .ok (.invokestatic 143, 3) := by decide +kernel
theorem dX7_says_24 : decode cX7_says 24 = .ok (.ifCond .ne 6, 3) := by decide +kernel
theorem dX7_says_27 : decode cX7_says 27 = .ok (.bipush (-2), 2) := by decide +kernel
theorem dX7_says_29 : decode cX7_says 29 = .ok (.ireturn, 1) := by decide +kernel
theorem dX7_says_30 : decode cX7_says 30 = .ok (.aload_n 0, 1) := by decide +kernel
theorem dX7_says_31 : decode cX7_says 31 = .ok (.getfield 39, 3) := by decide +kernel
theorem dX7_says_34 : decode cX7_says 34 = .ok (.iload_n 1, 1) := by decide +kernel
theorem dX7_says_35 : decode cX7_says 35 = .ok (.aaload, 1) := by decide +kernel
theorem dX7_says_36 : decode cX7_says 36 = .ok (.getfield 137, 3) := by decide +kernel
theorem dX7_says_39 : decode cX7_says 39 = .ok (.bipush 6, 2) := by decide +kernel
theorem dX7_says_41 : decode cX7_says 41 = .ok (.if_icmp .lt 6, 3) := by decide +kernel
theorem dX7_says_44 : decode cX7_says 44 = .ok (.bipush (-4), 2) := by decide +kernel
theorem dX7_says_46 : decode cX7_says 46 = .ok (.ireturn, 1) := by decide +kernel
theorem dX7_says_47 : decode cX7_says 47 = .ok (.aload_n 0, 1) := by decide +kernel
theorem dX7_says_48 : decode cX7_says 48 = .ok (.getfield 39, 3) := by decide +kernel
theorem dX7_says_51 : decode cX7_says 51 = .ok (.iload_n 1, 1) := by decide +kernel
theorem dX7_says_52 : decode cX7_says 52 = .ok (.aaload, 1) := by decide +kernel
theorem dX7_says_53 : decode cX7_says 53 = .ok (.iload_n 2, 1) := by decide +kernel
theorem dX7_says_54 : decode cX7_says 54 = .ok (.iload_n 3, 1) := by decide +kernel
theorem dX7_says_55 : decode cX7_says 55 = .ok (.iload 4, 2) := by decide +kernel
theorem dX7_says_57 : decode cX7_says 57 = .ok (.invokestatic 147, 3) := by decide +kernel
theorem dX7_says_60 : decode cX7_says 60 = .ok (.iconst 0, 1) := by decide +kernel
theorem dX7_says_61 : decode cX7_says 61 = .ok (.invokevirtual 140, 3) := by decide +kernel
theorem dX7_says_64 : decode cX7_says 64 = .ok (.aload_n 0, 1) := by decide +kernel
theorem dX7_says_65 : decode cX7_says 65 = .ok (.getfield 39, 3) := by decide +kernel
theorem dX7_says_68 : decode cX7_says 68 = .ok (.iload_n 1, 1) := by decide +kernel
theorem dX7_says_69 : decode cX7_says 69 = .ok (.aaload, 1) := by decide +kernel
theorem dX7_says_70 : decode cX7_says 70 = .ok (.getfield 137, 3) := by decide +kernel
theorem dX7_says_73 : decode cX7_says 73 = .ok (.ireturn, 1) := by decide +kernel
theorem dX7_forge_0 : decode cX7_forge 0 = .ok (.aload_n 0, 1) := by decide +kernel
theorem dX7_forge_1 : decode cX7_forge 1 = .ok (.iload_n 1, 1) := by decide +kernel
theorem dX7_forge_2 : decode cX7_forge 2 = .ok (.invokevirtual 266, 3) := by decide +kernel
theorem dX7_forge_5 : decode cX7_forge 5 = .ok (.ifCond .eq 20, 3) := by decide +kernel
theorem dX7_forge_8 : decode cX7_forge 8 = .ok (.iload_n 2, 1) := by decide +kernel
theorem dX7_forge_9 : decode cX7_forge 9 = .ok (.ifCond .lt 16, 3) := by decide +kernel
theorem dX7_forge_12 : decode cX7_forge 12 = .ok (.iload_n 2, 1) := by decide +kernel
theorem dX7_forge_13 : decode cX7_forge 13 = .ok (.aload_n 0, 1) := by decide +kernel
theorem dX7_forge_14 : decode cX7_forge 14 = .ok (.getfield 39, 3) := by decide +kernel
theorem dX7_forge_17 : decode cX7_forge 17 = .ok (.iload_n 1, 1) := by decide +kernel
theorem dX7_forge_18 : decode cX7_forge 18 = .ok (.aaload, 1) := by decide +kernel
theorem dX7_forge_19 : decode cX7_forge 19 = .ok (.getfield 137, 3) := by decide +kernel
theorem dX7_forge_22 : decode cX7_forge 22 = .ok (.if_icmp .lt 5, 3) := by decide +kernel
theorem dX7_forge_25 : decode cX7_forge 25 = .ok (.iconst (-1), 1) := by decide +kernel
theorem dX7_forge_26 : decode cX7_forge 26 = .ok (.ireturn, 1) := by decide +kernel
theorem dX7_forge_27 : decode cX7_forge 27 = .ok (.iload_n 3, 1) := by decide +kernel
theorem dX7_forge_28 : decode cX7_forge 28 = .ok (.iload 4, 2) := by decide +kernel
theorem dX7_forge_30 : decode cX7_forge 30 = .ok (.invokestatic 143, 3) := by decide +kernel
theorem dX7_forge_33 : decode cX7_forge 33 = .ok (.ifCond .ne 6, 3) := by decide +kernel
theorem dX7_forge_36 : decode cX7_forge 36 = .ok (.bipush (-2), 2) := by decide +kernel
theorem dX7_forge_38 : decode cX7_forge 38 = .ok (.ireturn, 1) := by decide +kernel
theorem dX7_forge_39 : decode cX7_forge 39 = .ok (.aload_n 0, 1) := by decide +kernel
theorem dX7_forge_40 : decode cX7_forge 40 = .ok (.getfield 39, 3) := by decide +kernel
theorem dX7_forge_43 : decode cX7_forge 43 = .ok (.iload_n 1, 1) := by decide +kernel
theorem dX7_forge_44 : decode cX7_forge 44 = .ok (.aaload, 1) := by decide +kernel
theorem dX7_forge_45 : decode cX7_forge 45 = .ok (.getfield 269, 3) := by decide +kernel
theorem dX7_forge_48 : decode cX7_forge 48 = .ok (.iload_n 2, 1) := by decide +kernel
theorem dX7_forge_49 : decode cX7_forge 49 = .ok (.iload_n 3, 1) := by decide +kernel
theorem dX7_forge_50 : decode cX7_forge 50 = .ok (.iload 4, 2) := by decide +kernel
theorem dX7_forge_52 : decode cX7_forge 52 = .ok (.invokestatic 147, 3) := by decide +kernel
theorem dX7_forge_55 : decode cX7_forge 55 = .ok (.iastore, 1) := by decide +kernel
theorem dX7_forge_56 : decode cX7_forge 56 = .ok (.iconst 1, 1) := by decide +kernel
theorem dX7_forge_57 : decode cX7_forge 57 = .ok (.ireturn, 1) := by decide +kernel
theorem dX7_check_0 : decode cX7_check 0 = .ok (.iconst 0, 1) := by decide +kernel
theorem dX7_check_1 : decode cX7_check 1 = .ok (.istore_n 1, 1) := by decide +kernel
theorem dX7_check_2 : decode cX7_check 2 = .ok (.iload_n 1, 1) := by decide +kernel
theorem dX7_check_3 : decode cX7_check 3 = .ok (.aload_n 0, 1) := by decide +kernel
theorem dX7_check_4 : decode cX7_check 4 = .ok (.getfield 263, 3) := by decide +kernel
theorem dX7_check_7 : decode cX7_check 7 = .ok (.if_icmp .ge 55, 3) := by decide +kernel
theorem dX7_check_10 : decode cX7_check 10 = .ok (.aload_n 0, 1) := by decide +kernel
theorem dX7_check_11 : decode cX7_check 11 = .ok (.getfield 42, 3) := by decide +kernel
theorem dX7_check_14 : decode cX7_check 14 = .ok (.iload_n 1, 1) := by decide +kernel
theorem dX7_check_15 : decode cX7_check 15 = .ok (.iaload, 1) := by decide +kernel
theorem dX7_check_16 : decode cX7_check 16 = .ok (.bipush (-9), 2) := by decide +kernel
theorem dX7_check_18 : decode cX7_check 18 = .ok (.if_icmp .ne 11, 3) := by decide +kernel
theorem dX7_check_21 : decode cX7_check 21 = .ok (.aload_n 0, 1) := by decide +kernel
theorem dX7_check_22 : decode cX7_check 22 = .ok (.iload_n 1, 1) := by decide +kernel
theorem dX7_check_23 : decode cX7_check 23 = .ok (.invokevirtual 272, 3) := by decide +kernel
theorem dX7_check_26 : decode cX7_check 26 = .ok (.goto 14, 3) := by decide +kernel
theorem dX7_check_29 : decode cX7_check 29 = .ok (.aload_n 0, 1) := by decide +kernel
theorem dX7_check_30 : decode cX7_check 30 = .ok (.iload_n 1, 1) := by decide +kernel
theorem dX7_check_31 : decode cX7_check 31 = .ok (.aload_n 0, 1) := by decide +kernel
theorem dX7_check_32 : decode cX7_check 32 = .ok (.getfield 42, 3) := by decide +kernel
theorem dX7_check_35 : decode cX7_check 35 = .ok (.iload_n 1, 1) := by decide +kernel
theorem dX7_check_36 : decode cX7_check 36 = .ok (.iaload, 1) := by decide +kernel
theorem dX7_check_37 : decode cX7_check 37 = .ok (.invokevirtual 275, 3) := by decide +kernel
theorem dX7_check_40 : decode cX7_check 40 = .ok (.istore_n 2, 1) := by decide +kernel
theorem dX7_check_41 : decode cX7_check 41 = .ok (.iload_n 2, 1) := by decide +kernel
theorem dX7_check_42 : decode cX7_check 42 = .ok (.bipush (-5), 2) := by decide +kernel
theorem dX7_check_44 : decode cX7_check 44 = .ok (.if_icmp .ne 6, 3) := by decide +kernel
theorem dX7_check_47 : decode cX7_check 47 = .ok (.bipush (-5), 2) := by decide +kernel
theorem dX7_check_49 : decode cX7_check 49 = .ok (.ireturn, 1) := by decide +kernel
theorem dX7_check_50 : decode cX7_check 50 = .ok (.iload_n 2, 1) := by decide +kernel
theorem dX7_check_51 : decode cX7_check 51 = .ok (.ifCond .ne 5, 3) := by decide +kernel
theorem dX7_check_54 : decode cX7_check 54 = .ok (.iload_n 1, 1) := by decide +kernel
theorem dX7_check_55 : decode cX7_check 55 = .ok (.ireturn, 1) := by decide +kernel
theorem dX7_check_56 : decode cX7_check 56 = .ok (.iinc 1 1, 3) := by decide +kernel
theorem dX7_check_59 : decode cX7_check 59 = .ok (.goto (-57), 3) := by decide +kernel
theorem dX7_check_62 : decode cX7_check 62 = .ok (.bipush (-9), 2) := by decide +kernel
theorem dX7_check_64 : decode cX7_check 64 = .ok (.ireturn, 1) := by decide +kernel
theorem dX7_refutes_0 : decode cX7_refutes 0 = .ok (.aload_n 0, 1) := by decide +kernel
theorem dX7_refutes_1 : decode cX7_refutes 1 = .ok (.invokevirtual 278, 3) := by decide +kernel
theorem dX7_refutes_4 : decode cX7_refutes 4 = .ok (.istore_n 1, 1) := by decide +kernel
theorem dX7_refutes_5 : decode cX7_refutes 5 = .ok (.iload_n 1, 1) := by decide +kernel
theorem dX7_refutes_6 : decode cX7_refutes 6 = .ok (.bipush (-5), 2) := by decide +kernel
theorem dX7_refutes_8 : decode cX7_refutes 8 = .ok (.if_icmp .ne 6, 3) := by decide +kernel
theorem dX7_refutes_11 : decode cX7_refutes 11 = .ok (.bipush (-5), 2) := by decide +kernel
theorem dX7_refutes_13 : decode cX7_refutes 13 = .ok (.ireturn, 1) := by decide +kernel
theorem dX7_refutes_14 : decode cX7_refutes 14 = .ok (.iconst 0, 1) := by decide +kernel
theorem dX7_refutes_15 : decode cX7_refutes 15 = .ok (.istore_n 2, 1) := by decide +kernel
theorem dX7_refutes_16 : decode cX7_refutes 16 = .ok (.iconst 0, 1) := by decide +kernel
theorem dX7_refutes_17 : decode cX7_refutes 17 = .ok (.istore_n 3, 1) := by decide +kernel
theorem dX7_refutes_18 : decode cX7_refutes 18 = .ok (.iload_n 3, 1) := by decide +kernel
theorem dX7_refutes_19 : decode cX7_refutes 19 = .ok (.aload_n 0, 1) := by decide +kernel
theorem dX7_refutes_20 : decode cX7_refutes 20 = .ok (.getfield 263, 3) := by decide +kernel
theorem dX7_refutes_23 : decode cX7_refutes 23 = .ok (.if_icmp .ge 29, 3) := by decide +kernel
theorem dX7_refutes_26 : decode cX7_refutes 26 = .ok (.iload_n 2, 1) := by decide +kernel
theorem dX7_refutes_27 : decode cX7_refutes 27 = .ok (.aload_n 0, 1) := by decide +kernel
theorem dX7_refutes_28 : decode cX7_refutes 28 = .ok (.getfield 39, 3) := by decide +kernel
theorem dX7_refutes_31 : decode cX7_refutes 31 = .ok (.iload_n 3, 1) := by decide +kernel
theorem dX7_refutes_32 : decode cX7_refutes 32 = .ok (.aaload, 1) := by decide +kernel
theorem dX7_refutes_33 : decode cX7_refutes 33 = .ok (.getfield 137, 3) := by decide +kernel
theorem dX7_refutes_36 : decode cX7_refutes 36 = .ok (.ifCond .ne 7, 3) := by decide +kernel
theorem dX7_refutes_39 : decode cX7_refutes 39 = .ok (.iconst 1, 1) := by decide +kernel
theorem dX7_refutes_40 : decode cX7_refutes 40 = .ok (.goto 4, 3) := by decide +kernel
theorem dX7_refutes_43 : decode cX7_refutes 43 = .ok (.iconst 0, 1) := by decide +kernel
theorem dX7_refutes_44 : decode cX7_refutes 44 = .ok (.ior, 1) := by decide +kernel
theorem dX7_refutes_45 : decode cX7_refutes 45 = .ok (.istore_n 2, 1) := by decide +kernel
theorem dX7_refutes_46 : decode cX7_refutes 46 = .ok (.iinc 3 1, 3) := by decide +kernel
theorem dX7_refutes_49 : decode cX7_refutes 49 = .ok (.goto (-31), 3) := by decide +kernel
theorem dX7_refutes_52 : decode cX7_refutes 52 = .ok (.iload_n 1, 1) := by decide +kernel
theorem dX7_refutes_53 : decode cX7_refutes 53 = .ok (.bipush (-9), 2) := by decide +kernel
theorem dX7_refutes_55 : decode cX7_refutes 55 = .ok (.if_icmp .ne 11, 3) := by decide +kernel
theorem dX7_refutes_58 : decode cX7_refutes 58 = .ok (.iload_n 2, 1) := by decide +kernel
theorem dX7_refutes_59 : decode cX7_refutes 59 = .ok (.ifCond .eq 7, 3) := by decide +kernel
theorem dX7_refutes_62 : decode cX7_refutes 62 = .ok (.iconst 1, 1) := by decide +kernel
theorem dX7_refutes_63 : decode cX7_refutes 63 = .ok (.goto 4, 3) := by decide +kernel
theorem dX7_refutes_66 : decode cX7_refutes 66 = .ok (.iconst 0, 1) := by decide +kernel
theorem dX7_refutes_67 : decode cX7_refutes 67 = .ok (.ireturn, 1) := by decide +kernel
theorem dX7_isRightByRule_0 : decode cX7_isRightByRule 0 = .ok (.aload_n 0, 1) := by decide +kernel
theorem dX7_isRightByRule_1 : decode cX7_isRightByRule 1 = .ok (.getfield 39, 3) := by decide +kernel
theorem dX7_isRightByRule_4 : decode cX7_isRightByRule 4 = .ok (.iload_n 1, 1) := by decide +kernel
theorem dX7_isRightByRule_5 : decode cX7_isRightByRule 5 = .ok (.aaload, 1) := by decide +kernel
theorem dX7_isRightByRule_6 : decode cX7_isRightByRule 6 = .ok (.astore_n 3, 1) := by decide +kernel
theorem dX7_isRightByRule_7 : decode cX7_isRightByRule 7 = .ok (.aload_n 0, 1) := by decide +kernel
theorem dX7_isRightByRule_8 : decode cX7_isRightByRule 8 = .ok (.getfield 18, 3) := by decide +kernel
theorem dX7_isRightByRule_11 : decode cX7_isRightByRule 11 = .ok (.iload_n 2, 1) := by decide +kernel
theorem dX7_isRightByRule_12 : decode cX7_isRightByRule 12 = .ok (.aaload, 1) := by decide +kernel
theorem dX7_isRightByRule_13 : decode cX7_isRightByRule 13 = .ok (.astore 4, 2) := by decide +kernel
theorem dX7_isRightByRule_15 : decode cX7_isRightByRule 15 = .ok (.aload_n 0, 1) := by decide +kernel
theorem dX7_isRightByRule_16 : decode cX7_isRightByRule 16 = .ok (.iload_n 2, 1) := by decide +kernel
theorem dX7_isRightByRule_17 : decode cX7_isRightByRule 17 = .ok (.invokevirtual 151, 3) := by decide +kernel
theorem dX7_isRightByRule_20 : decode cX7_isRightByRule 20 = .ok (.ifCond .ne 5, 3) := by decide +kernel
theorem dX7_isRightByRule_23 : decode cX7_isRightByRule 23 = .ok (.iconst 0, 1) := by decide +kernel
theorem dX7_isRightByRule_24 : decode cX7_isRightByRule 24 = .ok (.ireturn, 1) := by decide +kernel
theorem dX7_isRightByRule_25 : decode cX7_isRightByRule 25 = .ok (.aload_n 0, 1) := by decide +kernel
theorem dX7_isRightByRule_26 : decode cX7_isRightByRule 26 = .ok (.aload_n 0, 1) := by decide +kernel
theorem dX7_isRightByRule_27 : decode cX7_isRightByRule 27 = .ok (.getfield 9, 3) := by decide +kernel
theorem dX7_isRightByRule_30 : decode cX7_isRightByRule 30 = .ok (.aload 4, 2) := by decide +kernel
theorem dX7_isRightByRule_32 : decode cX7_isRightByRule 32 = .ok (.getfield 281, 3) := by decide +kernel
theorem dX7_isRightByRule_35 : decode cX7_isRightByRule 35 = .ok (.aload_n 3, 1) := by decide +kernel
theorem dX7_isRightByRule_36 : decode cX7_isRightByRule 36 = .ok (.getfield 281, 3) := by decide +kernel
theorem dX7_isRightByRule_39 : decode cX7_isRightByRule 39 = .ok (.ior, 1) := by decide +kernel
theorem dX7_isRightByRule_40 : decode cX7_isRightByRule 40 = .ok (.invokevirtual 253, 3) := by decide +kernel
theorem dX7_isRightByRule_43 : decode cX7_isRightByRule 43 = .ok (.sipush 20000, 3) := by decide +kernel
theorem dX7_isRightByRule_46 : decode cX7_isRightByRule 46 = .ok (.if_icmp .le 6, 3) := by decide +kernel
theorem dX7_isRightByRule_49 : decode cX7_isRightByRule 49 = .ok (.bipush (-5), 2) := by decide +kernel
theorem dX7_isRightByRule_51 : decode cX7_isRightByRule 51 = .ok (.ireturn, 1) := by decide +kernel
theorem dX7_isRightByRule_52 : decode cX7_isRightByRule 52 = .ok (.aload_n 0, 1) := by decide +kernel
theorem dX7_isRightByRule_53 : decode cX7_isRightByRule 53 = .ok (.aload_n 3, 1) := by decide +kernel
theorem dX7_isRightByRule_54 : decode cX7_isRightByRule 54 = .ok (.invokevirtual 284, 3) := by decide +kernel
theorem dX7_isRightByRule_57 : decode cX7_isRightByRule 57 = .ok (.ifCond .eq 24, 3) := by decide +kernel
theorem dX7_isRightByRule_60 : decode cX7_isRightByRule 60 = .ok (.aload_n 0, 1) := by decide +kernel
theorem dX7_isRightByRule_61 : decode cX7_isRightByRule 61 = .ok (.getfield 72, 3) := by decide +kernel
theorem dX7_isRightByRule_64 : decode cX7_isRightByRule 64 = .ok (.aload_n 0, 1) := by decide +kernel
theorem dX7_isRightByRule_65 : decode cX7_isRightByRule 65 = .ok (.getfield 45, 3) := by decide +kernel
theorem dX7_isRightByRule_68 : decode cX7_isRightByRule 68 = .ok (.aload_n 0, 1) := by decide +kernel
theorem dX7_isRightByRule_69 : decode cX7_isRightByRule 69 = .ok (.getfield 18, 3) := by decide +kernel
theorem dX7_isRightByRule_72 : decode cX7_isRightByRule 72 = .ok (.lconst 1, 1) := by decide +kernel
theorem dX7_isRightByRule_73 : decode cX7_isRightByRule 73 = .ok (.iload_n 2, 1) := by decide +kernel
theorem dX7_isRightByRule_74 : decode cX7_isRightByRule 74 = .ok (.lshl, 1) := by decide +kernel
theorem dX7_isRightByRule_75 : decode cX7_isRightByRule 75 = .ok (.invokevirtual 191, 3) := by decide +kernel
theorem dX7_isRightByRule_78 : decode cX7_isRightByRule 78 = .ok (.ifCond .ne 5, 3) := by decide +kernel
theorem dX7_isRightByRule_81 : decode cX7_isRightByRule 81 = .ok (.iconst 1, 1) := by decide +kernel
theorem dX7_isRightByRule_82 : decode cX7_isRightByRule 82 = .ok (.ireturn, 1) := by decide +kernel
theorem dX7_isRightByRule_83 : decode cX7_isRightByRule 83 = .ok (.iconst 0, 1) := by decide +kernel
theorem dX7_isRightByRule_84 : decode cX7_isRightByRule 84 = .ok (.istore 5, 2) := by decide +kernel
theorem dX7_isRightByRule_86 : decode cX7_isRightByRule 86 = .ok (.iload 5, 2) := by decide +kernel
theorem dX7_isRightByRule_88 : decode cX7_isRightByRule 88 = .ok (.aload_n 0, 1) := by decide +kernel
theorem dX7_isRightByRule_89 : decode cX7_isRightByRule 89 = .ok (.getfield 88, 3) := by decide +kernel
theorem dX7_isRightByRule_92 : decode cX7_isRightByRule 92 = .ok (.if_icmp .ge 37, 3) := by decide +kernel
theorem dX7_isRightByRule_95 : decode cX7_isRightByRule 95 = .ok (.aload 4, 2) := by decide +kernel
theorem dX7_isRightByRule_97 : decode cX7_isRightByRule 97 = .ok (.iload 5, 2) := by decide +kernel
theorem dX7_isRightByRule_99 : decode cX7_isRightByRule 99 = .ok (.invokevirtual 134, 3) := by decide +kernel
theorem dX7_isRightByRule_102 : decode cX7_isRightByRule 102 = .ok (.ifCond .ne 21, 3) := by decide +kernel
theorem dX7_isRightByRule_105 : decode cX7_isRightByRule 105 = .ok (.aload_n 0, 1) := by decide +kernel
theorem dX7_isRightByRule_106 : decode cX7_isRightByRule 106 = .ok (.getfield 45, 3) := by decide +kernel
theorem dX7_isRightByRule_109 : decode cX7_isRightByRule 109 = .ok (.iload 5, 2) := by decide +kernel
theorem dX7_isRightByRule_111 : decode cX7_isRightByRule 111 = .ok (.dup2, 1) := by decide +kernel
theorem dX7_isRightByRule_112 : decode cX7_isRightByRule 112 = .ok (.iaload, 1) := by decide +kernel
theorem dX7_isRightByRule_113 : decode cX7_isRightByRule 113 = .ok (.aload_n 0, 1) := by decide +kernel
theorem dX7_isRightByRule_114 : decode cX7_isRightByRule 114 = .ok (.getfield 45, 3) := by decide +kernel
theorem dX7_isRightByRule_117 : decode cX7_isRightByRule 117 = .ok (.iload 5, 2) := by decide +kernel
theorem dX7_isRightByRule_119 : decode cX7_isRightByRule 119 = .ok (.iaload, 1) := by decide +kernel
theorem dX7_isRightByRule_120 : decode cX7_isRightByRule 120 = .ok (.ineg, 1) := by decide +kernel
theorem dX7_isRightByRule_121 : decode cX7_isRightByRule 121 = .ok (.iand, 1) := by decide +kernel
theorem dX7_isRightByRule_122 : decode cX7_isRightByRule 122 = .ok (.iastore, 1) := by decide +kernel
theorem dX7_isRightByRule_123 : decode cX7_isRightByRule 123 = .ok (.iinc 5 1, 3) := by decide +kernel
theorem dX7_isRightByRule_126 : decode cX7_isRightByRule 126 = .ok (.goto (-40), 3) := by decide +kernel
theorem dX7_isRightByRule_129 : decode cX7_isRightByRule 129 = .ok (.aload_n 0, 1) := by decide +kernel
theorem dX7_isRightByRule_130 : decode cX7_isRightByRule 130 = .ok (.getfield 81, 3) := by decide +kernel
theorem dX7_isRightByRule_133 : decode cX7_isRightByRule 133 = .ok (.aload_n 0, 1) := by decide +kernel
theorem dX7_isRightByRule_134 : decode cX7_isRightByRule 134 = .ok (.getfield 45, 3) := by decide +kernel
theorem dX7_isRightByRule_137 : decode cX7_isRightByRule 137 = .ok (.aload_n 0, 1) := by decide +kernel
theorem dX7_isRightByRule_138 : decode cX7_isRightByRule 138 = .ok (.getfield 88, 3) := by decide +kernel
theorem dX7_isRightByRule_141 : decode cX7_isRightByRule 141 = .ok (.aload_n 0, 1) := by decide +kernel
theorem dX7_isRightByRule_142 : decode cX7_isRightByRule 142 = .ok (.getfield 18, 3) := by decide +kernel
theorem dX7_isRightByRule_145 : decode cX7_isRightByRule 145 = .ok (.lconst 1, 1) := by decide +kernel
theorem dX7_isRightByRule_146 : decode cX7_isRightByRule 146 = .ok (.iload_n 2, 1) := by decide +kernel
theorem dX7_isRightByRule_147 : decode cX7_isRightByRule 147 = .ok (.lshl, 1) := by decide +kernel
theorem dX7_isRightByRule_148 : decode cX7_isRightByRule 148 = .ok (.iconst 1, 1) := by decide +kernel
theorem dX7_isRightByRule_149 : decode cX7_isRightByRule 149 = .ok (.invokevirtual 246, 3) := by decide +kernel
theorem dX7_isRightByRule_152 : decode cX7_isRightByRule 152 = .ok (.ifCond .le 7, 3) := by decide +kernel
theorem dX7_isRightByRule_155 : decode cX7_isRightByRule 155 = .ok (.iconst 0, 1) := by decide +kernel
theorem dX7_isRightByRule_156 : decode cX7_isRightByRule 156 = .ok (.goto 4, 3) := by decide +kernel
theorem dX7_isRightByRule_159 : decode cX7_isRightByRule 159 = .ok (.iconst 1, 1) := by decide +kernel
theorem dX7_isRightByRule_160 : decode cX7_isRightByRule 160 = .ok (.ireturn, 1) := by decide +kernel
theorem dX7_isRightByLines_0 : decode cX7_isRightByLines 0 = .ok (.aload_n 0, 1) := by decide +kernel
theorem dX7_isRightByLines_1 : decode cX7_isRightByLines 1 = .ok (.aload_n 0, 1) := by decide +kernel
theorem dX7_isRightByLines_2 : decode cX7_isRightByLines 2 = .ok (.getfield 39, 3) := by decide +kernel
theorem dX7_isRightByLines_5 : decode cX7_isRightByLines 5 = .ok (.iload_n 1, 1) := by decide +kernel
theorem dX7_isRightByLines_6 : decode cX7_isRightByLines 6 = .ok (.aaload, 1) := by decide +kernel
theorem dX7_isRightByLines_7 : decode cX7_isRightByLines 7 = .ok (.invokevirtual 284, 3) := by decide +kernel
theorem dX7_isRightByLines_10 : decode cX7_isRightByLines 10 = .ok (.ifCond .eq 30, 3) := by decide +kernel
theorem dX7_isRightByLines_13 : decode cX7_isRightByLines 13 = .ok (.aload_n 0, 1) := by decide +kernel
theorem dX7_isRightByLines_14 : decode cX7_isRightByLines 14 = .ok (.getfield 72, 3) := by decide +kernel
theorem dX7_isRightByLines_17 : decode cX7_isRightByLines 17 = .ok (.aload_n 0, 1) := by decide +kernel
theorem dX7_isRightByLines_18 : decode cX7_isRightByLines 18 = .ok (.getfield 45, 3) := by decide +kernel
theorem dX7_isRightByLines_21 : decode cX7_isRightByLines 21 = .ok (.aload_n 0, 1) := by decide +kernel
theorem dX7_isRightByLines_22 : decode cX7_isRightByLines 22 = .ok (.getfield 39, 3) := by decide +kernel
theorem dX7_isRightByLines_25 : decode cX7_isRightByLines 25 = .ok (.lconst 1, 1) := by decide +kernel
theorem dX7_isRightByLines_26 : decode cX7_isRightByLines 26 = .ok (.iload_n 1, 1) := by decide +kernel
theorem dX7_isRightByLines_27 : decode cX7_isRightByLines 27 = .ok (.lshl, 1) := by decide +kernel
theorem dX7_isRightByLines_28 : decode cX7_isRightByLines 28 = .ok (.lconst 1, 1) := by decide +kernel
theorem dX7_isRightByLines_29 : decode cX7_isRightByLines 29 = .ok (.lsub, 1) := by decide +kernel
theorem dX7_isRightByLines_30 : decode cX7_isRightByLines 30 = .ok (.invokevirtual 191, 3) := by decide +kernel
theorem dX7_isRightByLines_33 : decode cX7_isRightByLines 33 = .ok (.ifCond .eq 7, 3) := by decide +kernel
theorem dX7_isRightByLines_36 : decode cX7_isRightByLines 36 = .ok (.iconst 0, 1) := by decide +kernel
theorem dX7_isRightByLines_37 : decode cX7_isRightByLines 37 = .ok (.goto 4, 3) := by decide +kernel
theorem dX7_isRightByLines_40 : decode cX7_isRightByLines 40 = .ok (.iconst 1, 1) := by decide +kernel
theorem dX7_isRightByLines_41 : decode cX7_isRightByLines 41 = .ok (.ireturn, 1) := by decide +kernel
theorem dX7_cutToldByFalse_0 : decode cX7_cutToldByFalse 0 = .ok (.aload_n 0, 1) := by decide +kernel
theorem dX7_cutToldByFalse_1 : decode cX7_cutToldByFalse 1 = .ok (.getfield 9, 3) := by decide +kernel
theorem dX7_cutToldByFalse_4 : decode cX7_cutToldByFalse 4 = .ok (.aload_n 0, 1) := by decide +kernel
theorem dX7_cutToldByFalse_5 : decode cX7_cutToldByFalse 5 = .ok (.getfield 45, 3) := by decide +kernel
theorem dX7_cutToldByFalse_8 : decode cX7_cutToldByFalse 8 = .ok (.invokestatic 187, 3) := by decide +kernel
theorem dX7_cutToldByFalse_11 : decode cX7_cutToldByFalse 11 = .ok (.iconst 0, 1) := by decide +kernel
theorem dX7_cutToldByFalse_12 : decode cX7_cutToldByFalse 12 = .ok (.istore_n 2, 1) := by decide +kernel
theorem dX7_cutToldByFalse_13 : decode cX7_cutToldByFalse 13 = .ok (.iload_n 2, 1) := by decide +kernel
theorem dX7_cutToldByFalse_14 : decode cX7_cutToldByFalse 14 = .ok (.aload_n 1, 1) := by decide +kernel
theorem dX7_cutToldByFalse_15 : decode cX7_cutToldByFalse 15 = .ok (.getfield 137, 3) := by decide +kernel
theorem dX7_cutToldByFalse_18 : decode cX7_cutToldByFalse 18 = .ok (.if_icmp .ge 31, 3) := by decide +kernel
theorem dX7_cutToldByFalse_21 : decode cX7_cutToldByFalse 21 = .ok (.aload_n 0, 1) := by decide +kernel
theorem dX7_cutToldByFalse_22 : decode cX7_cutToldByFalse 22 = .ok (.getfield 45, 3) := by decide +kernel
theorem dX7_cutToldByFalse_25 : decode cX7_cutToldByFalse 25 = .ok (.aload_n 1, 1) := by decide +kernel
theorem dX7_cutToldByFalse_26 : decode cX7_cutToldByFalse 26 = .ok (.getfield 288, 3) := by decide +kernel
theorem dX7_cutToldByFalse_29 : decode cX7_cutToldByFalse 29 = .ok (.iload_n 2, 1) := by decide +kernel
theorem dX7_cutToldByFalse_30 : decode cX7_cutToldByFalse 30 = .ok (.iaload, 1) := by decide +kernel
theorem dX7_cutToldByFalse_31 : decode cX7_cutToldByFalse 31 = .ok (.dup2, 1) := by decide +kernel
theorem dX7_cutToldByFalse_32 : decode cX7_cutToldByFalse 32 = .ok (.iaload, 1) := by decide +kernel
theorem dX7_cutToldByFalse_33 : decode cX7_cutToldByFalse 33 = .ok (.aload_n 1, 1) := by decide +kernel
theorem dX7_cutToldByFalse_34 : decode cX7_cutToldByFalse 34 = .ok (.getfield 269, 3) := by decide +kernel
theorem dX7_cutToldByFalse_37 : decode cX7_cutToldByFalse 37 = .ok (.iload_n 2, 1) := by decide +kernel
theorem dX7_cutToldByFalse_38 : decode cX7_cutToldByFalse 38 = .ok (.iaload, 1) := by decide +kernel
theorem dX7_cutToldByFalse_39 : decode cX7_cutToldByFalse 39 = .ok (.iconst (-1), 1) := by decide +kernel
theorem dX7_cutToldByFalse_40 : decode cX7_cutToldByFalse 40 = .ok (.ixor, 1) := by decide +kernel
theorem dX7_cutToldByFalse_41 : decode cX7_cutToldByFalse 41 = .ok (.iand, 1) := by decide +kernel
theorem dX7_cutToldByFalse_42 : decode cX7_cutToldByFalse 42 = .ok (.iastore, 1) := by decide +kernel
theorem dX7_cutToldByFalse_43 : decode cX7_cutToldByFalse 43 = .ok (.iinc 2 1, 3) := by decide +kernel
theorem dX7_cutToldByFalse_46 : decode cX7_cutToldByFalse 46 = .ok (.goto (-33), 3) := by decide +kernel
theorem dX7_cutToldByFalse_49 : decode cX7_cutToldByFalse 49 = .ok (.aload_n 0, 1) := by decide +kernel
theorem dX7_cutToldByFalse_50 : decode cX7_cutToldByFalse 50 = .ok (.aload_n 0, 1) := by decide +kernel
theorem dX7_cutToldByFalse_51 : decode cX7_cutToldByFalse 51 = .ok (.getfield 45, 3) := by decide +kernel
theorem dX7_cutToldByFalse_54 : decode cX7_cutToldByFalse 54 = .ok (.invokevirtual 227, 3) := by decide +kernel
theorem dX7_cutToldByFalse_57 : decode cX7_cutToldByFalse 57 = .ok (.ireturn, 1) := by decide +kernel
theorem dX7_total_0 : decode cX7_total 0 = .ok (.iload_n 1, 1) := by decide +kernel
theorem dX7_total_1 : decode cX7_total 1 = .ok (.tableswitch 75 0 5 #[39, 44, 49, 57, 62, 67], 39) := by decide +kernel
theorem dX7_total_40 : decode cX7_total 40 = .ok (.aload_n 0, 1) := by decide +kernel
theorem dX7_total_41 : decode cX7_total 41 = .ok (.getfield 88, 3) := by decide +kernel
theorem dX7_total_44 : decode cX7_total 44 = .ok (.ireturn, 1) := by decide +kernel
theorem dX7_total_45 : decode cX7_total 45 = .ok (.aload_n 0, 1) := by decide +kernel
theorem dX7_total_46 : decode cX7_total 46 = .ok (.getfield 111, 3) := by decide +kernel
theorem dX7_total_49 : decode cX7_total 49 = .ok (.ireturn, 1) := by decide +kernel
theorem dX7_total_50 : decode cX7_total 50 = .ok (.aload_n 0, 1) := by decide +kernel
theorem dX7_total_51 : decode cX7_total 51 = .ok (.getfield 25, 3) := by decide +kernel
theorem dX7_total_54 : decode cX7_total 54 = .ok (.getfield 85, 3) := by decide +kernel
theorem dX7_total_57 : decode cX7_total 57 = .ok (.ireturn, 1) := by decide +kernel
theorem dX7_total_58 : decode cX7_total 58 = .ok (.aload_n 0, 1) := by decide +kernel
theorem dX7_total_59 : decode cX7_total 59 = .ok (.getfield 263, 3) := by decide +kernel
theorem dX7_total_62 : decode cX7_total 62 = .ok (.ireturn, 1) := by decide +kernel
theorem dX7_total_63 : decode cX7_total 63 = .ok (.aload_n 0, 1) := by decide +kernel
theorem dX7_total_64 : decode cX7_total 64 = .ok (.getfield 289, 3) := by decide +kernel
theorem dX7_total_67 : decode cX7_total 67 = .ok (.ireturn, 1) := by decide +kernel
theorem dX7_total_68 : decode cX7_total 68 = .ok (.aload_n 0, 1) := by decide +kernel
theorem dX7_total_69 : decode cX7_total 69 = .ok (.getfield 60, 3) := by decide +kernel
theorem dX7_total_72 : decode cX7_total 72 = .ok (.invokevirtual 292, 3) := by decide +kernel
theorem dX7_total_75 : decode cX7_total 75 = .ok (.ireturn, 1) := by decide +kernel
theorem dX7_total_76 : decode cX7_total 76 = .ok (.bipush (-2), 2) := by decide +kernel
theorem dX7_total_78 : decode cX7_total 78 = .ok (.ireturn, 1) := by decide +kernel
theorem dX7_isUnknown_0 : decode cX7_isUnknown 0 = .ok (.iload_n 1, 1) := by decide +kernel
theorem dX7_isUnknown_1 : decode cX7_isUnknown 1 = .ok (.ifCond .lt 15, 3) := by decide +kernel
theorem dX7_isUnknown_4 : decode cX7_isUnknown 4 = .ok (.iload_n 1, 1) := by decide +kernel
theorem dX7_isUnknown_5 : decode cX7_isUnknown 5 = .ok (.aload_n 0, 1) := by decide +kernel
theorem dX7_isUnknown_6 : decode cX7_isUnknown 6 = .ok (.getfield 88, 3) := by decide +kernel
theorem dX7_isUnknown_9 : decode cX7_isUnknown 9 = .ok (.if_icmp .ge 7, 3) := by decide +kernel
theorem dX7_isUnknown_12 : decode cX7_isUnknown 12 = .ok (.iconst 1, 1) := by decide +kernel
theorem dX7_isUnknown_13 : decode cX7_isUnknown 13 = .ok (.goto 4, 3) := by decide +kernel
theorem dX7_isUnknown_16 : decode cX7_isUnknown 16 = .ok (.iconst 0, 1) := by decide +kernel
theorem dX7_isUnknown_17 : decode cX7_isUnknown 17 = .ok (.ireturn, 1) := by decide +kernel
theorem dX7_isRule_0 : decode cX7_isRule 0 = .ok (.iload_n 1, 1) := by decide +kernel
theorem dX7_isRule_1 : decode cX7_isRule 1 = .ok (.ifCond .lt 15, 3) := by decide +kernel
theorem dX7_isRule_4 : decode cX7_isRule 4 = .ok (.iload_n 1, 1) := by decide +kernel
theorem dX7_isRule_5 : decode cX7_isRule 5 = .ok (.aload_n 0, 1) := by decide +kernel
theorem dX7_isRule_6 : decode cX7_isRule 6 = .ok (.getfield 111, 3) := by decide +kernel
theorem dX7_isRule_9 : decode cX7_isRule 9 = .ok (.if_icmp .ge 7, 3) := by decide +kernel
theorem dX7_isRule_12 : decode cX7_isRule 12 = .ok (.iconst 1, 1) := by decide +kernel
theorem dX7_isRule_13 : decode cX7_isRule 13 = .ok (.goto 4, 3) := by decide +kernel
theorem dX7_isRule_16 : decode cX7_isRule 16 = .ok (.iconst 0, 1) := by decide +kernel
theorem dX7_isRule_17 : decode cX7_isRule 17 = .ok (.ireturn, 1) := by decide +kernel
theorem dX7_isLine_0 : decode cX7_isLine 0 = .ok (.iload_n 1, 1) := by decide +kernel
theorem dX7_isLine_1 : decode cX7_isLine 1 = .ok (.ifCond .lt 15, 3) := by decide +kernel
theorem dX7_isLine_4 : decode cX7_isLine 4 = .ok (.iload_n 1, 1) := by decide +kernel
theorem dX7_isLine_5 : decode cX7_isLine 5 = .ok (.aload_n 0, 1) := by decide +kernel
theorem dX7_isLine_6 : decode cX7_isLine 6 = .ok (.getfield 263, 3) := by decide +kernel
theorem dX7_isLine_9 : decode cX7_isLine 9 = .ok (.if_icmp .ge 7, 3) := by decide +kernel
theorem dX7_isLine_12 : decode cX7_isLine 12 = .ok (.iconst 1, 1) := by decide +kernel
theorem dX7_isLine_13 : decode cX7_isLine 13 = .ok (.goto 4, 3) := by decide +kernel
theorem dX7_isLine_16 : decode cX7_isLine 16 = .ok (.iconst 0, 1) := by decide +kernel
theorem dX7_isLine_17 : decode cX7_isLine 17 = .ok (.ireturn, 1) := by decide +kernel
theorem dX7_stands_0 : decode cX7_stands 0 = .ok (.aload_n 0, 1) := by decide +kernel
theorem dX7_stands_1 : decode cX7_stands 1 = .ok (.getfield 118, 3) := by decide +kernel
theorem dX7_stands_4 : decode cX7_stands 4 = .ok (.iload_n 1, 1) := by decide +kernel
theorem dX7_stands_5 : decode cX7_stands 5 = .ok (.lshr, 1) := by decide +kernel
theorem dX7_stands_6 : decode cX7_stands 6 = .ok (.lconst 1, 1) := by decide +kernel
theorem dX7_stands_7 : decode cX7_stands 7 = .ok (.land, 1) := by decide +kernel
theorem dX7_stands_8 : decode cX7_stands 8 = .ok (.lconst 0, 1) := by decide +kernel
theorem dX7_stands_9 : decode cX7_stands 9 = .ok (.lcmp, 1) := by decide +kernel
theorem dX7_stands_10 : decode cX7_stands 10 = .ok (.ifCond .eq 7, 3) := by decide +kernel
theorem dX7_stands_13 : decode cX7_stands 13 = .ok (.iconst 1, 1) := by decide +kernel
theorem dX7_stands_14 : decode cX7_stands 14 = .ok (.goto 4, 3) := by decide +kernel
theorem dX7_stands_17 : decode cX7_stands 17 = .ok (.iconst 0, 1) := by decide +kernel
theorem dX7_stands_18 : decode cX7_stands 18 = .ok (.ireturn, 1) := by decide +kernel
theorem dX7_isTable_0 : decode cX7_isTable 0 = .ok (.iload_n 0, 1) := by decide +kernel
theorem dX7_isTable_1 : decode cX7_isTable 1 = .ok (.ifCond .lt 13, 3) := by decide +kernel
theorem dX7_isTable_4 : decode cX7_isTable 4 = .ok (.iload_n 0, 1) := by decide +kernel
theorem dX7_isTable_5 : decode cX7_isTable 5 = .ok (.bipush 6, 2) := by decide +kernel
theorem dX7_isTable_7 : decode cX7_isTable 7 = .ok (.if_icmp .ge 7, 3) := by decide +kernel
theorem dX7_isTable_10 : decode cX7_isTable 10 = .ok (.iconst 1, 1) := by decide +kernel
theorem dX7_isTable_11 : decode cX7_isTable 11 = .ok (.goto 4, 3) := by decide +kernel
theorem dX7_isTable_14 : decode cX7_isTable 14 = .ok (.iconst 0, 1) := by decide +kernel
theorem dX7_isTable_15 : decode cX7_isTable 15 = .ok (.ireturn, 1) := by decide +kernel
theorem dX7_isNumber_0 : decode cX7_isNumber 0 = .ok (.iload_n 0, 1) := by decide +kernel
theorem dX7_isNumber_1 : decode cX7_isNumber 1 = .ok (.ifCond .lt 13, 3) := by decide +kernel
theorem dX7_isNumber_4 : decode cX7_isNumber 4 = .ok (.iload_n 0, 1) := by decide +kernel
theorem dX7_isNumber_5 : decode cX7_isNumber 5 = .ok (.bipush 16, 2) := by decide +kernel
theorem dX7_isNumber_7 : decode cX7_isNumber 7 = .ok (.if_icmp .ge 7, 3) := by decide +kernel
theorem dX7_isNumber_10 : decode cX7_isNumber 10 = .ok (.iconst 1, 1) := by decide +kernel
theorem dX7_isNumber_11 : decode cX7_isNumber 11 = .ok (.goto 4, 3) := by decide +kernel
theorem dX7_isNumber_14 : decode cX7_isNumber 14 = .ok (.iconst 0, 1) := by decide +kernel
theorem dX7_isNumber_15 : decode cX7_isNumber 15 = .ok (.ireturn, 1) := by decide +kernel
theorem dX7_isLiteral_0 : decode cX7_isLiteral 0 = .ok (.iload_n 0, 1) := by decide +kernel
theorem dX7_isLiteral_1 : decode cX7_isLiteral 1 = .ok (.ifCond .lt 19, 3) := by decide +kernel
theorem dX7_isLiteral_4 : decode cX7_isLiteral 4 = .ok (.iload_n 0, 1) := by decide +kernel
theorem dX7_isLiteral_5 : decode cX7_isLiteral 5 = .ok (.iconst 3, 1) := by decide +kernel
theorem dX7_isLiteral_6 : decode cX7_isLiteral 6 = .ok (.if_icmp .gt 14, 3) := by decide +kernel
theorem dX7_isLiteral_9 : decode cX7_isLiteral 9 = .ok (.iload_n 1, 1) := by decide +kernel
theorem dX7_isLiteral_10 : decode cX7_isLiteral 10 = .ok (.invokestatic 98, 3) := by decide +kernel
theorem dX7_isLiteral_13 : decode cX7_isLiteral 13 = .ok (.ifCond .eq 7, 3) := by decide +kernel
theorem dX7_isLiteral_16 : decode cX7_isLiteral 16 = .ok (.iconst 1, 1) := by decide +kernel
theorem dX7_isLiteral_17 : decode cX7_isLiteral 17 = .ok (.goto 4, 3) := by decide +kernel
theorem dX7_isLiteral_20 : decode cX7_isLiteral 20 = .ok (.iconst 0, 1) := by decide +kernel
theorem dX7_isLiteral_21 : decode cX7_isLiteral 21 = .ok (.ireturn, 1) := by decide +kernel
theorem dX7_numbersSo_0 : decode cX7_numbersSo 0 = .ok (.iload_n 0, 1) := by decide +kernel
theorem dX7_numbersSo_1 : decode cX7_numbersSo 1 = .ok (.tableswitch 52 0 2 #[27, 33, 42], 27) := by decide +kernel
theorem dX7_numbersSo_28 : decode cX7_numbersSo 28 = .ok (.iconst 2, 1) := by decide +kernel
theorem dX7_numbersSo_29 : decode cX7_numbersSo 29 = .ok (.iload_n 1, 1) := by decide +kernel
theorem dX7_numbersSo_30 : decode cX7_numbersSo 30 = .ok (.ishl, 1) := by decide +kernel
theorem dX7_numbersSo_31 : decode cX7_numbersSo 31 = .ok (.iconst 1, 1) := by decide +kernel
theorem dX7_numbersSo_32 : decode cX7_numbersSo 32 = .ok (.isub, 1) := by decide +kernel
theorem dX7_numbersSo_33 : decode cX7_numbersSo 33 = .ok (.ireturn, 1) := by decide +kernel
theorem dX7_numbersSo_34 : decode cX7_numbersSo 34 = .ok (.ldc_w 295, 3) := by decide +kernel
theorem dX7_numbersSo_37 : decode cX7_numbersSo 37 = .ok (.iconst 1, 1) := by decide +kernel
theorem dX7_numbersSo_38 : decode cX7_numbersSo 38 = .ok (.iload_n 1, 1) := by decide +kernel
theorem dX7_numbersSo_39 : decode cX7_numbersSo 39 = .ok (.ishl, 1) := by decide +kernel
theorem dX7_numbersSo_40 : decode cX7_numbersSo 40 = .ok (.ineg, 1) := by decide +kernel
theorem dX7_numbersSo_41 : decode cX7_numbersSo 41 = .ok (.iand, 1) := by decide +kernel
theorem dX7_numbersSo_42 : decode cX7_numbersSo 42 = .ok (.ireturn, 1) := by decide +kernel
theorem dX7_numbersSo_43 : decode cX7_numbersSo 43 = .ok (.ldc_w 295, 3) := by decide +kernel
theorem dX7_numbersSo_46 : decode cX7_numbersSo 46 = .ok (.iconst 1, 1) := by decide +kernel
theorem dX7_numbersSo_47 : decode cX7_numbersSo 47 = .ok (.iload_n 1, 1) := by decide +kernel
theorem dX7_numbersSo_48 : decode cX7_numbersSo 48 = .ok (.ishl, 1) := by decide +kernel
theorem dX7_numbersSo_49 : decode cX7_numbersSo 49 = .ok (.iconst (-1), 1) := by decide +kernel
theorem dX7_numbersSo_50 : decode cX7_numbersSo 50 = .ok (.ixor, 1) := by decide +kernel
theorem dX7_numbersSo_51 : decode cX7_numbersSo 51 = .ok (.iand, 1) := by decide +kernel
theorem dX7_numbersSo_52 : decode cX7_numbersSo 52 = .ok (.ireturn, 1) := by decide +kernel
theorem dX7_numbersSo_53 : decode cX7_numbersSo 53 = .ok (.iconst 1, 1) := by decide +kernel
theorem dX7_numbersSo_54 : decode cX7_numbersSo 54 = .ok (.iload_n 1, 1) := by decide +kernel
theorem dX7_numbersSo_55 : decode cX7_numbersSo 55 = .ok (.ishl, 1) := by decide +kernel
theorem dX7_numbersSo_56 : decode cX7_numbersSo 56 = .ok (.ireturn, 1) := by decide +kernel
theorem dX7_found_0 : decode cX7_found 0 = .ok (.aload_n 0, 1) := by decide +kernel
theorem dX7_found_1 : decode cX7_found 1 = .ok (.dup, 1) := by decide +kernel
theorem dX7_found_2 : decode cX7_found 2 = .ok (.getfield 289, 3) := by decide +kernel
theorem dX7_found_5 : decode cX7_found 5 = .ok (.iconst 1, 1) := by decide +kernel
theorem dX7_found_6 : decode cX7_found 6 = .ok (.iadd, 1) := by decide +kernel
theorem dX7_found_7 : decode cX7_found 7 = .ok (.putfield 289, 3) := by decide +kernel
theorem dX7_found_10 : decode cX7_found 10 = .ok (.iload_n 1, 1) := by decide +kernel
theorem dX7_found_11 : decode cX7_found 11 = .ok (.ireturn, 1) := by decide +kernel
theorem dX7_letRangesBeAsTold_0 : decode cX7_letRangesBeAsTold 0 = .ok (.aload_n 0, 1) := by decide +kernel
theorem dX7_letRangesBeAsTold_1 : decode cX7_letRangesBeAsTold 1 = .ok (.getfield 9, 3) := by decide +kernel
theorem dX7_letRangesBeAsTold_4 : decode cX7_letRangesBeAsTold 4 = .ok (.aload_n 0, 1) := by decide +kernel
theorem dX7_letRangesBeAsTold_5 : decode cX7_letRangesBeAsTold 5 = .ok (.getfield 13, 3) := by decide +kernel
theorem dX7_letRangesBeAsTold_8 : decode cX7_letRangesBeAsTold 8 = .ok (.invokestatic 187, 3) := by decide +kernel
theorem dX7_letRangesBeAsTold_11 : decode cX7_letRangesBeAsTold 11 = .ok (.return_, 1) := by decide +kernel
theorem dX7_bring_0 : decode cX7_bring 0 = .ok (.aload_n 0, 1) := by decide +kernel
theorem dX7_bring_1 : decode cX7_bring 1 = .ok (.iconst 0, 1) := by decide +kernel
theorem dX7_bring_2 : decode cX7_bring 2 = .ok (.aload_n 1, 1) := by decide +kernel
theorem dX7_bring_3 : decode cX7_bring 3 = .ok (.iconst 0, 1) := by decide +kernel
theorem dX7_bring_4 : decode cX7_bring 4 = .ok (.bipush 10, 2) := by decide +kernel
theorem dX7_bring_6 : decode cX7_bring 6 = .ok (.invokestatic 175, 3) := by decide +kernel
theorem dX7_bring_9 : decode cX7_bring 9 = .ok (.return_, 1) := by decide +kernel
theorem dX7_noneIsEmpty_0 : decode cX7_noneIsEmpty 0 = .ok (.iconst 0, 1) := by decide +kernel
theorem dX7_noneIsEmpty_1 : decode cX7_noneIsEmpty 1 = .ok (.istore_n 2, 1) := by decide +kernel
theorem dX7_noneIsEmpty_2 : decode cX7_noneIsEmpty 2 = .ok (.iload_n 2, 1) := by decide +kernel
theorem dX7_noneIsEmpty_3 : decode cX7_noneIsEmpty 3 = .ok (.aload_n 0, 1) := by decide +kernel
theorem dX7_noneIsEmpty_4 : decode cX7_noneIsEmpty 4 = .ok (.getfield 88, 3) := by decide +kernel
theorem dX7_noneIsEmpty_7 : decode cX7_noneIsEmpty 7 = .ok (.if_icmp .ge 17, 3) := by decide +kernel
theorem dX7_noneIsEmpty_10 : decode cX7_noneIsEmpty 10 = .ok (.aload_n 1, 1) := by decide +kernel
theorem dX7_noneIsEmpty_11 : decode cX7_noneIsEmpty 11 = .ok (.iload_n 2, 1) := by decide +kernel
theorem dX7_noneIsEmpty_12 : decode cX7_noneIsEmpty 12 = .ok (.iaload, 1) := by decide +kernel
theorem dX7_noneIsEmpty_13 : decode cX7_noneIsEmpty 13 = .ok (.ifCond .ne 5, 3) := by decide +kernel
theorem dX7_noneIsEmpty_16 : decode cX7_noneIsEmpty 16 = .ok (.iconst 0, 1) := by decide +kernel
theorem dX7_noneIsEmpty_17 : decode cX7_noneIsEmpty 17 = .ok (.ireturn, 1) := by decide +kernel
theorem dX7_noneIsEmpty_18 : decode cX7_noneIsEmpty 18 = .ok (.iinc 2 1, 3) := by decide +kernel
theorem dX7_noneIsEmpty_21 : decode cX7_noneIsEmpty 21 = .ok (.goto (-19), 3) := by decide +kernel
theorem dX7_noneIsEmpty_24 : decode cX7_noneIsEmpty 24 = .ok (.iconst 1, 1) := by decide +kernel
theorem dX7_noneIsEmpty_25 : decode cX7_noneIsEmpty 25 = .ok (.ireturn, 1) := by decide +kernel
theorem dX7_least_0 : decode cX7_least 0 = .ok (.iload_n 0, 1) := by decide +kernel
theorem dX7_least_1 : decode cX7_least 1 = .ok (.invokestatic 296, 3) := by decide +kernel
theorem dX7_least_4 : decode cX7_least 4 = .ok (.ireturn, 1) := by decide +kernel
theorem dX7_greatest_0 : decode cX7_greatest 0 = .ok (.bipush 31, 2) := by decide +kernel
theorem dX7_greatest_2 : decode cX7_greatest 2 = .ok (.iload_n 0, 1) := by decide +kernel
theorem dX7_greatest_3 : decode cX7_greatest 3 = .ok (.invokestatic 299, 3) := by decide +kernel
theorem dX7_greatest_6 : decode cX7_greatest 6 = .ok (.isub, 1) := by decide +kernel
theorem dX7_greatest_7 : decode cX7_greatest 7 = .ok (.ireturn, 1) := by decide +kernel
theorem dX7_isOne_0 : decode cX7_isOne 0 = .ok (.iload_n 0, 1) := by decide +kernel
theorem dX7_isOne_1 : decode cX7_isOne 1 = .ok (.iload_n 0, 1) := by decide +kernel
theorem dX7_isOne_2 : decode cX7_isOne 2 = .ok (.iconst 1, 1) := by decide +kernel
theorem dX7_isOne_3 : decode cX7_isOne 3 = .ok (.isub, 1) := by decide +kernel
theorem dX7_isOne_4 : decode cX7_isOne 4 = .ok (.iand, 1) := by decide +kernel
theorem dX7_isOne_5 : decode cX7_isOne 5 = .ok (.ifCond .ne 7, 3) := by decide +kernel
theorem dX7_isOne_8 : decode cX7_isOne 8 = .ok (.iconst 1, 1) := by decide +kernel
theorem dX7_isOne_9 : decode cX7_isOne 9 = .ok (.goto 4, 3) := by decide +kernel
theorem dX7_isOne_12 : decode cX7_isOne 12 = .ok (.iconst 0, 1) := by decide +kernel
theorem dX7_isOne_13 : decode cX7_isOne 13 = .ok (.ireturn, 1) := by decide +kernel
