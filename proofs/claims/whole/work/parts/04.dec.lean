theorem dX9_end_0 : decode cX9_end 0 = .ok (.iload_n 1, 1) := by decide +kernel
theorem dX9_end_1 : decode cX9_end 1 = .ok (.i2l, 1) := by decide +kernel
theorem dX9_end_2 : decode cX9_end 2 = .ok (.lconst 0, 1) := by decide +kernel
theorem dX9_end_3 : decode cX9_end 3 = .ok (.aload_n 0, 1) := by decide +kernel
theorem dX9_end_4 : decode cX9_end 4 = .ok (.getfield 170, 3) := by decide +kernel
theorem dX9_end_7 : decode cX9_end 7 = .ok (.i2l, 1) := by decide +kernel
theorem dX9_end_8 : decode cX9_end 8 = .ok (.invokestatic 177, 3) := by decide +kernel
theorem dX9_end_11 : decode cX9_end 11 = .ok (.ifCond .ne 5, 3) := by decide +kernel
theorem dX9_end_14 : decode cX9_end 14 = .ok (.iconst (-1), 1) := by decide +kernel
theorem dX9_end_15 : decode cX9_end 15 = .ok (.ireturn, 1) := by decide +kernel
theorem dX9_end_16 : decode cX9_end 16 = .ok (.aload_n 0, 1) := by decide +kernel
theorem dX9_end_17 : decode cX9_end 17 = .ok (.iload_n 1, 1) := by decide +kernel
theorem dX9_end_18 : decode cX9_end 18 = .ok (.putfield 170, 3) := by decide +kernel
theorem dX9_end_21 : decode cX9_end 21 = .ok (.iload_n 1, 1) := by decide +kernel
theorem dX9_end_22 : decode cX9_end 22 = .ok (.ireturn, 1) := by decide +kernel
theorem dX9_emits_0 : decode cX9_emits 0 = .ok (.aload_n 0, 1) := by decide +kernel
theorem dX9_emits_1 : decode cX9_emits 1 = .ok (.getfield 244, 3) := by decide +kernel
theorem dX9_emits_4 : decode cX9_emits 4 = .ok (.istore 4, 2) := by decide +kernel
theorem dX9_emits_6 : decode cX9_emits 6 = .ok (.aload_n 0, 1) := by decide +kernel
theorem dX9_emits_7 : decode cX9_emits 7 = .ok (.getfield 20, 3) := by decide +kernel
theorem dX9_emits_10 : decode cX9_emits 10 = .ok (.iload 4, 2) := by decide +kernel
theorem dX9_emits_12 : decode cX9_emits 12 = .ok (.iload_n 1, 1) := by decide +kernel
theorem dX9_emits_13 : decode cX9_emits 13 = .ok (.iastore, 1) := by decide +kernel
theorem dX9_emits_14 : decode cX9_emits 14 = .ok (.aload_n 0, 1) := by decide +kernel
theorem dX9_emits_15 : decode cX9_emits 15 = .ok (.getfield 24, 3) := by decide +kernel
theorem dX9_emits_18 : decode cX9_emits 18 = .ok (.iload 4, 2) := by decide +kernel
theorem dX9_emits_20 : decode cX9_emits 20 = .ok (.iload_n 2, 1) := by decide +kernel
theorem dX9_emits_21 : decode cX9_emits 21 = .ok (.iastore, 1) := by decide +kernel
theorem dX9_emits_22 : decode cX9_emits 22 = .ok (.aload_n 0, 1) := by decide +kernel
theorem dX9_emits_23 : decode cX9_emits 23 = .ok (.getfield 27, 3) := by decide +kernel
theorem dX9_emits_26 : decode cX9_emits 26 = .ok (.iload 4, 2) := by decide +kernel
theorem dX9_emits_28 : decode cX9_emits 28 = .ok (.iload_n 3, 1) := by decide +kernel
theorem dX9_emits_29 : decode cX9_emits 29 = .ok (.iastore, 1) := by decide +kernel
theorem dX9_emits_30 : decode cX9_emits 30 = .ok (.aload_n 0, 1) := by decide +kernel
theorem dX9_emits_31 : decode cX9_emits 31 = .ok (.getfield 30, 3) := by decide +kernel
theorem dX9_emits_34 : decode cX9_emits 34 = .ok (.iload 4, 2) := by decide +kernel
theorem dX9_emits_36 : decode cX9_emits 36 = .ok (.iconst (-1), 1) := by decide +kernel
theorem dX9_emits_37 : decode cX9_emits 37 = .ok (.iastore, 1) := by decide +kernel
theorem dX9_emits_38 : decode cX9_emits 38 = .ok (.aload_n 0, 1) := by decide +kernel
theorem dX9_emits_39 : decode cX9_emits 39 = .ok (.dup, 1) := by decide +kernel
theorem dX9_emits_40 : decode cX9_emits 40 = .ok (.getfield 244, 3) := by decide +kernel
theorem dX9_emits_43 : decode cX9_emits 43 = .ok (.iconst 1, 1) := by decide +kernel
theorem dX9_emits_44 : decode cX9_emits 44 = .ok (.iadd, 1) := by decide +kernel
theorem dX9_emits_45 : decode cX9_emits 45 = .ok (.putfield 244, 3) := by decide +kernel
theorem dX9_emits_48 : decode cX9_emits 48 = .ok (.iload 4, 2) := by decide +kernel
theorem dX9_emits_50 : decode cX9_emits 50 = .ok (.ireturn, 1) := by decide +kernel
theorem dX9_doNamed_0 : decode cX9_doNamed 0 = .ok (.iconst (-1), 1) := by decide +kernel
theorem dX9_doNamed_1 : decode cX9_doNamed 1 = .ok (.istore_n 3, 1) := by decide +kernel
theorem dX9_doNamed_2 : decode cX9_doNamed 2 = .ok (.iconst 0, 1) := by decide +kernel
theorem dX9_doNamed_3 : decode cX9_doNamed 3 = .ok (.istore 4, 2) := by decide +kernel
theorem dX9_doNamed_5 : decode cX9_doNamed 5 = .ok (.iload 4, 2) := by decide +kernel
theorem dX9_doNamed_7 : decode cX9_doNamed 7 = .ok (.aload_n 0, 1) := by decide +kernel
theorem dX9_doNamed_8 : decode cX9_doNamed 8 = .ok (.getfield 254, 3) := by decide +kernel
theorem dX9_doNamed_11 : decode cX9_doNamed 11 = .ok (.if_icmp .ge 28, 3) := by decide +kernel
theorem dX9_doNamed_14 : decode cX9_doNamed 14 = .ok (.aload_n 0, 1) := by decide +kernel
theorem dX9_doNamed_15 : decode cX9_doNamed 15 = .ok (.getfield 33, 3) := by decide +kernel
theorem dX9_doNamed_18 : decode cX9_doNamed 18 = .ok (.iload 4, 2) := by decide +kernel
theorem dX9_doNamed_20 : decode cX9_doNamed 20 = .ok (.laload, 1) := by decide +kernel
theorem dX9_doNamed_21 : decode cX9_doNamed 21 = .ok (.lload_n 1, 1) := by decide +kernel
theorem dX9_doNamed_22 : decode cX9_doNamed 22 = .ok (.lcmp, 1) := by decide +kernel
theorem dX9_doNamed_23 : decode cX9_doNamed 23 = .ok (.ifCond .ne 8, 3) := by decide +kernel
theorem dX9_doNamed_26 : decode cX9_doNamed 26 = .ok (.iload 4, 2) := by decide +kernel
theorem dX9_doNamed_28 : decode cX9_doNamed 28 = .ok (.goto 4, 3) := by decide +kernel
theorem dX9_doNamed_31 : decode cX9_doNamed 31 = .ok (.iload_n 3, 1) := by decide +kernel
theorem dX9_doNamed_32 : decode cX9_doNamed 32 = .ok (.istore_n 3, 1) := by decide +kernel
theorem dX9_doNamed_33 : decode cX9_doNamed 33 = .ok (.iinc 4 1, 3) := by decide +kernel
theorem dX9_doNamed_36 : decode cX9_doNamed 36 = .ok (.goto (-31), 3) := by decide +kernel
theorem dX9_doNamed_39 : decode cX9_doNamed 39 = .ok (.iload_n 3, 1) := by decide +kernel
theorem dX9_doNamed_40 : decode cX9_doNamed 40 = .ok (.ireturn, 1) := by decide +kernel
theorem dX9_aDo_0 : decode cX9_aDo 0 = .ok (.aload_n 0, 1) := by decide +kernel
theorem dX9_aDo_1 : decode cX9_aDo 1 = .ok (.invokevirtual 225, 3) := by decide +kernel
theorem dX9_aDo_4 : decode cX9_aDo 4 = .ok (.ifCond .eq 19, 3) := by decide +kernel
theorem dX9_aDo_7 : decode cX9_aDo 7 = .ok (.aload_n 0, 1) := by decide +kernel
theorem dX9_aDo_8 : decode cX9_aDo 8 = .ok (.getfield 197, 3) := by decide +kernel
theorem dX9_aDo_11 : decode cX9_aDo 11 = .ok (.iconst 1, 1) := by decide +kernel
theorem dX9_aDo_12 : decode cX9_aDo 12 = .ok (.if_icmp .ne 11, 3) := by decide +kernel
theorem dX9_aDo_15 : decode cX9_aDo 15 = .ok (.aload_n 0, 1) := by decide +kernel
theorem dX9_aDo_16 : decode cX9_aDo 16 = .ok (.getfield 204, 3) := by decide +kernel
theorem dX9_aDo_19 : decode cX9_aDo 19 = .ok (.iconst 2, 1) := by decide +kernel
theorem dX9_aDo_20 : decode cX9_aDo 20 = .ok (.if_icmp .ge 9, 3) := by decide +kernel
theorem dX9_aDo_23 : decode cX9_aDo 23 = .ok (.aload_n 0, 1) := by decide +kernel
theorem dX9_aDo_24 : decode cX9_aDo 24 = .ok (.iconst 1, 1) := by decide +kernel
theorem dX9_aDo_25 : decode cX9_aDo 25 = .ok (.invokevirtual 236, 3) := by decide +kernel
theorem dX9_aDo_28 : decode cX9_aDo 28 = .ok (.return_, 1) := by decide +kernel
theorem dX9_aDo_29 : decode cX9_aDo 29 = .ok (.aload_n 0, 1) := by decide +kernel
theorem dX9_aDo_30 : decode cX9_aDo 30 = .ok (.aload_n 0, 1) := by decide +kernel
theorem dX9_aDo_31 : decode cX9_aDo 31 = .ok (.getfield 193, 3) := by decide +kernel
theorem dX9_aDo_34 : decode cX9_aDo 34 = .ok (.invokevirtual 257, 3) := by decide +kernel
theorem dX9_aDo_37 : decode cX9_aDo 37 = .ok (.ifCond .lt 9, 3) := by decide +kernel
theorem dX9_aDo_40 : decode cX9_aDo 40 = .ok (.aload_n 0, 1) := by decide +kernel
theorem dX9_aDo_41 : decode cX9_aDo 41 = .ok (.iconst 2, 1) := by decide +kernel
theorem dX9_aDo_42 : decode cX9_aDo 42 = .ok (.invokevirtual 236, 3) := by decide +kernel
theorem dX9_aDo_45 : decode cX9_aDo 45 = .ok (.return_, 1) := by decide +kernel
theorem dX9_aDo_46 : decode cX9_aDo 46 = .ok (.aload_n 0, 1) := by decide +kernel
theorem dX9_aDo_47 : decode cX9_aDo 47 = .ok (.getfield 254, 3) := by decide +kernel
theorem dX9_aDo_50 : decode cX9_aDo 50 = .ok (.istore_n 2, 1) := by decide +kernel
theorem dX9_aDo_51 : decode cX9_aDo 51 = .ok (.aload_n 0, 1) := by decide +kernel
theorem dX9_aDo_52 : decode cX9_aDo 52 = .ok (.getfield 33, 3) := by decide +kernel
theorem dX9_aDo_55 : decode cX9_aDo 55 = .ok (.iload_n 2, 1) := by decide +kernel
theorem dX9_aDo_56 : decode cX9_aDo 56 = .ok (.aload_n 0, 1) := by decide +kernel
theorem dX9_aDo_57 : decode cX9_aDo 57 = .ok (.getfield 193, 3) := by decide +kernel
theorem dX9_aDo_60 : decode cX9_aDo 60 = .ok (.lastore, 1) := by decide +kernel
theorem dX9_aDo_61 : decode cX9_aDo 61 = .ok (.aload_n 0, 1) := by decide +kernel
theorem dX9_aDo_62 : decode cX9_aDo 62 = .ok (.dup, 1) := by decide +kernel
theorem dX9_aDo_63 : decode cX9_aDo 63 = .ok (.getfield 254, 3) := by decide +kernel
theorem dX9_aDo_66 : decode cX9_aDo 66 = .ok (.iconst 1, 1) := by decide +kernel
theorem dX9_aDo_67 : decode cX9_aDo 67 = .ok (.iadd, 1) := by decide +kernel
theorem dX9_aDo_68 : decode cX9_aDo 68 = .ok (.putfield 254, 3) := by decide +kernel
theorem dX9_aDo_71 : decode cX9_aDo 71 = .ok (.aload_n 0, 1) := by decide +kernel
theorem dX9_aDo_72 : decode cX9_aDo 72 = .ok (.iload_n 1, 1) := by decide +kernel
theorem dX9_aDo_73 : decode cX9_aDo 73 = .ok (.invokevirtual 233, 3) := by decide +kernel
theorem dX9_aDo_76 : decode cX9_aDo 76 = .ok (.aload_n 0, 1) := by decide +kernel
theorem dX9_aDo_77 : decode cX9_aDo 77 = .ok (.iconst 1, 1) := by decide +kernel
theorem dX9_aDo_78 : decode cX9_aDo 78 = .ok (.iload_n 1, 1) := by decide +kernel
theorem dX9_aDo_79 : decode cX9_aDo 79 = .ok (.invokevirtual 261, 3) := by decide +kernel
theorem dX9_aDo_82 : decode cX9_aDo 82 = .ok (.aload_n 0, 1) := by decide +kernel
theorem dX9_aDo_83 : decode cX9_aDo 83 = .ok (.getfield 37, 3) := by decide +kernel
theorem dX9_aDo_86 : decode cX9_aDo 86 = .ok (.iload_n 2, 1) := by decide +kernel
theorem dX9_aDo_87 : decode cX9_aDo 87 = .ok (.aload_n 0, 1) := by decide +kernel
theorem dX9_aDo_88 : decode cX9_aDo 88 = .ok (.iconst 0, 1) := by decide +kernel
theorem dX9_aDo_89 : decode cX9_aDo 89 = .ok (.iconst 5, 1) := by decide +kernel
theorem dX9_aDo_90 : decode cX9_aDo 90 = .ok (.iload_n 1, 1) := by decide +kernel
theorem dX9_aDo_91 : decode cX9_aDo 91 = .ok (.invokevirtual 264, 3) := by decide +kernel
theorem dX9_aDo_94 : decode cX9_aDo 94 = .ok (.iastore, 1) := by decide +kernel
theorem dX9_aDo_95 : decode cX9_aDo 95 = .ok (.aload_n 0, 1) := by decide +kernel
theorem dX9_aDo_96 : decode cX9_aDo 96 = .ok (.iconst 2, 1) := by decide +kernel
theorem dX9_aDo_97 : decode cX9_aDo 97 = .ok (.iload_n 1, 1) := by decide +kernel
theorem dX9_aDo_98 : decode cX9_aDo 98 = .ok (.invokevirtual 261, 3) := by decide +kernel
theorem dX9_aDo_101 : decode cX9_aDo 101 = .ok (.aload_n 0, 1) := by decide +kernel
theorem dX9_aDo_102 : decode cX9_aDo 102 = .ok (.getfield 40, 3) := by decide +kernel
theorem dX9_aDo_105 : decode cX9_aDo 105 = .ok (.iload_n 2, 1) := by decide +kernel
theorem dX9_aDo_106 : decode cX9_aDo 106 = .ok (.aload_n 0, 1) := by decide +kernel
theorem dX9_aDo_107 : decode cX9_aDo 107 = .ok (.iconst 1, 1) := by decide +kernel
theorem dX9_aDo_108 : decode cX9_aDo 108 = .ok (.bipush 99, 2) := by decide +kernel
theorem dX9_aDo_110 : decode cX9_aDo 110 = .ok (.iload_n 1, 1) := by decide +kernel
theorem dX9_aDo_111 : decode cX9_aDo 111 = .ok (.invokevirtual 264, 3) := by decide +kernel
theorem dX9_aDo_114 : decode cX9_aDo 114 = .ok (.iastore, 1) := by decide +kernel
theorem dX9_aDo_115 : decode cX9_aDo 115 = .ok (.aload_n 0, 1) := by decide +kernel
theorem dX9_aDo_116 : decode cX9_aDo 116 = .ok (.getfield 43, 3) := by decide +kernel
theorem dX9_aDo_119 : decode cX9_aDo 119 = .ok (.iload_n 2, 1) := by decide +kernel
theorem dX9_aDo_120 : decode cX9_aDo 120 = .ok (.iconst (-1), 1) := by decide +kernel
theorem dX9_aDo_121 : decode cX9_aDo 121 = .ok (.iastore, 1) := by decide +kernel
theorem dX9_aDo_122 : decode cX9_aDo 122 = .ok (.aload_n 0, 1) := by decide +kernel
theorem dX9_aDo_123 : decode cX9_aDo 123 = .ok (.iconst 3, 1) := by decide +kernel
theorem dX9_aDo_124 : decode cX9_aDo 124 = .ok (.invokevirtual 239, 3) := by decide +kernel
theorem dX9_aDo_127 : decode cX9_aDo 127 = .ok (.ifCond .eq 74, 3) := by decide +kernel
theorem dX9_aDo_130 : decode cX9_aDo 130 = .ok (.aload_n 0, 1) := by decide +kernel
theorem dX9_aDo_131 : decode cX9_aDo 131 = .ok (.iload_n 1, 1) := by decide +kernel
theorem dX9_aDo_132 : decode cX9_aDo 132 = .ok (.invokevirtual 233, 3) := by decide +kernel
theorem dX9_aDo_135 : decode cX9_aDo 135 = .ok (.aload_n 0, 1) := by decide +kernel
theorem dX9_aDo_136 : decode cX9_aDo 136 = .ok (.getfield 197, 3) := by decide +kernel
theorem dX9_aDo_139 : decode cX9_aDo 139 = .ok (.iconst 1, 1) := by decide +kernel
theorem dX9_aDo_140 : decode cX9_aDo 140 = .ok (.if_icmp .ne 11, 3) := by decide +kernel
theorem dX9_aDo_143 : decode cX9_aDo 143 = .ok (.aload_n 0, 1) := by decide +kernel
theorem dX9_aDo_144 : decode cX9_aDo 144 = .ok (.getfield 204, 3) := by decide +kernel
theorem dX9_aDo_147 : decode cX9_aDo 147 = .ok (.iconst 2, 1) := by decide +kernel
theorem dX9_aDo_148 : decode cX9_aDo 148 = .ok (.if_icmp .ge 11, 3) := by decide +kernel
theorem dX9_aDo_151 : decode cX9_aDo 151 = .ok (.aload_n 0, 1) := by decide +kernel
theorem dX9_aDo_152 : decode cX9_aDo 152 = .ok (.iconst 1, 1) := by decide +kernel
theorem dX9_aDo_153 : decode cX9_aDo 153 = .ok (.invokevirtual 236, 3) := by decide +kernel
theorem dX9_aDo_156 : decode cX9_aDo 156 = .ok (.goto 19, 3) := by decide +kernel
theorem dX9_aDo_159 : decode cX9_aDo 159 = .ok (.aload_n 0, 1) := by decide +kernel
theorem dX9_aDo_160 : decode cX9_aDo 160 = .ok (.aload_n 0, 1) := by decide +kernel
theorem dX9_aDo_161 : decode cX9_aDo 161 = .ok (.getfield 193, 3) := by decide +kernel
theorem dX9_aDo_164 : decode cX9_aDo 164 = .ok (.invokevirtual 257, 3) := by decide +kernel
theorem dX9_aDo_167 : decode cX9_aDo 167 = .ok (.ifCond .ge 8, 3) := by decide +kernel
theorem dX9_aDo_170 : decode cX9_aDo 170 = .ok (.aload_n 0, 1) := by decide +kernel
theorem dX9_aDo_171 : decode cX9_aDo 171 = .ok (.iconst 2, 1) := by decide +kernel
theorem dX9_aDo_172 : decode cX9_aDo 172 = .ok (.invokevirtual 236, 3) := by decide +kernel
theorem dX9_aDo_175 : decode cX9_aDo 175 = .ok (.aload_n 0, 1) := by decide +kernel
theorem dX9_aDo_176 : decode cX9_aDo 176 = .ok (.invokevirtual 225, 3) := by decide +kernel
theorem dX9_aDo_179 : decode cX9_aDo 179 = .ok (.ifCond .eq 22, 3) := by decide +kernel
theorem dX9_aDo_182 : decode cX9_aDo 182 = .ok (.aload_n 0, 1) := by decide +kernel
theorem dX9_aDo_183 : decode cX9_aDo 183 = .ok (.getfield 43, 3) := by decide +kernel
theorem dX9_aDo_186 : decode cX9_aDo 186 = .ok (.iload_n 2, 1) := by decide +kernel
theorem dX9_aDo_187 : decode cX9_aDo 187 = .ok (.aload_n 0, 1) := by decide +kernel
theorem dX9_aDo_188 : decode cX9_aDo 188 = .ok (.aload_n 0, 1) := by decide +kernel
theorem dX9_aDo_189 : decode cX9_aDo 189 = .ok (.getfield 193, 3) := by decide +kernel
theorem dX9_aDo_192 : decode cX9_aDo 192 = .ok (.invokevirtual 257, 3) := by decide +kernel
theorem dX9_aDo_195 : decode cX9_aDo 195 = .ok (.iastore, 1) := by decide +kernel
theorem dX9_aDo_196 : decode cX9_aDo 196 = .ok (.aload_n 0, 1) := by decide +kernel
theorem dX9_aDo_197 : decode cX9_aDo 197 = .ok (.iload_n 1, 1) := by decide +kernel
theorem dX9_aDo_198 : decode cX9_aDo 198 = .ok (.invokevirtual 233, 3) := by decide +kernel
theorem dX9_aDo_201 : decode cX9_aDo 201 = .ok (.aload_n 0, 1) := by decide +kernel
theorem dX9_aDo_202 : decode cX9_aDo 202 = .ok (.bipush 59, 2) := by decide +kernel
theorem dX9_aDo_204 : decode cX9_aDo 204 = .ok (.iload_n 1, 1) := by decide +kernel
theorem dX9_aDo_205 : decode cX9_aDo 205 = .ok (.invokevirtual 247, 3) := by decide +kernel
theorem dX9_aDo_208 : decode cX9_aDo 208 = .ok (.aload_n 0, 1) := by decide +kernel
theorem dX9_aDo_209 : decode cX9_aDo 209 = .ok (.iconst 0, 1) := by decide +kernel
theorem dX9_aDo_210 : decode cX9_aDo 210 = .ok (.iload_n 2, 1) := by decide +kernel
theorem dX9_aDo_211 : decode cX9_aDo 211 = .ok (.iconst 0, 1) := by decide +kernel
theorem dX9_aDo_212 : decode cX9_aDo 212 = .ok (.invokevirtual 268, 3) := by decide +kernel
theorem dX9_aDo_215 : decode cX9_aDo 215 = .ok (.istore_n 3, 1) := by decide +kernel
theorem dX9_aDo_216 : decode cX9_aDo 216 = .ok (.aload_n 0, 1) := by decide +kernel
theorem dX9_aDo_217 : decode cX9_aDo 217 = .ok (.getfield 82, 3) := by decide +kernel
theorem dX9_aDo_220 : decode cX9_aDo 220 = .ok (.aload_n 0, 1) := by decide +kernel
theorem dX9_aDo_221 : decode cX9_aDo 221 = .ok (.getfield 251, 3) := by decide +kernel
theorem dX9_aDo_224 : decode cX9_aDo 224 = .ok (.iconst 1, 1) := by decide +kernel
theorem dX9_aDo_225 : decode cX9_aDo 225 = .ok (.bastore, 1) := by decide +kernel
theorem dX9_aDo_226 : decode cX9_aDo 226 = .ok (.return_, 1) := by decide +kernel
theorem dX9_closes_0 : decode cX9_closes 0 = .ok (.aload_n 0, 1) := by decide +kernel
theorem dX9_closes_1 : decode cX9_closes 1 = .ok (.getfield 251, 3) := by decide +kernel
theorem dX9_closes_4 : decode cX9_closes 4 = .ok (.istore_n 2, 1) := by decide +kernel
theorem dX9_closes_5 : decode cX9_closes 5 = .ok (.aload_n 0, 1) := by decide +kernel
theorem dX9_closes_6 : decode cX9_closes 6 = .ok (.getfield 82, 3) := by decide +kernel
theorem dX9_closes_9 : decode cX9_closes 9 = .ok (.iload_n 2, 1) := by decide +kernel
theorem dX9_closes_10 : decode cX9_closes 10 = .ok (.baload, 1) := by decide +kernel
theorem dX9_closes_11 : decode cX9_closes 11 = .ok (.istore_n 3, 1) := by decide +kernel
theorem dX9_closes_12 : decode cX9_closes 12 = .ok (.aload_n 0, 1) := by decide +kernel
theorem dX9_closes_13 : decode cX9_closes 13 = .ok (.getfield 73, 3) := by decide +kernel
theorem dX9_closes_16 : decode cX9_closes 16 = .ok (.iload_n 2, 1) := by decide +kernel
theorem dX9_closes_17 : decode cX9_closes 17 = .ok (.iaload, 1) := by decide +kernel
theorem dX9_closes_18 : decode cX9_closes 18 = .ok (.istore 4, 2) := by decide +kernel
theorem dX9_closes_20 : decode cX9_closes 20 = .ok (.aload_n 0, 1) := by decide +kernel
theorem dX9_closes_21 : decode cX9_closes 21 = .ok (.getfield 70, 3) := by decide +kernel
theorem dX9_closes_24 : decode cX9_closes 24 = .ok (.iload_n 2, 1) := by decide +kernel
theorem dX9_closes_25 : decode cX9_closes 25 = .ok (.iaload, 1) := by decide +kernel
theorem dX9_closes_26 : decode cX9_closes 26 = .ok (.iconst 5, 1) := by decide +kernel
theorem dX9_closes_27 : decode cX9_closes 27 = .ok (.if_icmp .ne 13, 3) := by decide +kernel
theorem dX9_closes_30 : decode cX9_closes 30 = .ok (.iload_n 3, 1) := by decide +kernel
theorem dX9_closes_31 : decode cX9_closes 31 = .ok (.ifCond .ne 9, 3) := by decide +kernel
theorem dX9_closes_34 : decode cX9_closes 34 = .ok (.aload_n 0, 1) := by decide +kernel
theorem dX9_closes_35 : decode cX9_closes 35 = .ok (.iconst 5, 1) := by decide +kernel
theorem dX9_closes_36 : decode cX9_closes 36 = .ok (.invokevirtual 236, 3) := by decide +kernel
theorem dX9_closes_39 : decode cX9_closes 39 = .ok (.return_, 1) := by decide +kernel
theorem dX9_closes_40 : decode cX9_closes 40 = .ok (.aload_n 0, 1) := by decide +kernel
theorem dX9_closes_41 : decode cX9_closes 41 = .ok (.iload_n 1, 1) := by decide +kernel
theorem dX9_closes_42 : decode cX9_closes 42 = .ok (.invokevirtual 233, 3) := by decide +kernel
theorem dX9_closes_45 : decode cX9_closes 45 = .ok (.aload_n 0, 1) := by decide +kernel
theorem dX9_closes_46 : decode cX9_closes 46 = .ok (.dup, 1) := by decide +kernel
theorem dX9_closes_47 : decode cX9_closes 47 = .ok (.getfield 251, 3) := by decide +kernel
theorem dX9_closes_50 : decode cX9_closes 50 = .ok (.iconst 1, 1) := by decide +kernel
theorem dX9_closes_51 : decode cX9_closes 51 = .ok (.isub, 1) := by decide +kernel
theorem dX9_closes_52 : decode cX9_closes 52 = .ok (.putfield 251, 3) := by decide +kernel
theorem dX9_closes_55 : decode cX9_closes 55 = .ok (.aload_n 0, 1) := by decide +kernel
theorem dX9_closes_56 : decode cX9_closes 56 = .ok (.getfield 70, 3) := by decide +kernel
theorem dX9_closes_59 : decode cX9_closes 59 = .ok (.iload_n 2, 1) := by decide +kernel
theorem dX9_closes_60 : decode cX9_closes 60 = .ok (.iaload, 1) := by decide +kernel
theorem dX9_closes_61 : decode cX9_closes 61 = .ok (.tableswitch 272 1 4 #[31, 87, 172, 219], 31) := by decide +kernel
theorem dX9_closes_92 : decode cX9_closes 92 = .ok (.aload_n 0, 1) := by decide +kernel
theorem dX9_closes_93 : decode cX9_closes 93 = .ok (.bipush 6, 2) := by decide +kernel
theorem dX9_closes_95 : decode cX9_closes 95 = .ok (.aload_n 0, 1) := by decide +kernel
theorem dX9_closes_96 : decode cX9_closes 96 = .ok (.getfield 24, 3) := by decide +kernel
theorem dX9_closes_99 : decode cX9_closes 99 = .ok (.iload 4, 2) := by decide +kernel
theorem dX9_closes_101 : decode cX9_closes 101 = .ok (.iaload, 1) := by decide +kernel
theorem dX9_closes_102 : decode cX9_closes 102 = .ok (.iconst 0, 1) := by decide +kernel
theorem dX9_closes_103 : decode cX9_closes 103 = .ok (.invokevirtual 268, 3) := by decide +kernel
theorem dX9_closes_106 : decode cX9_closes 106 = .ok (.istore 5, 2) := by decide +kernel
theorem dX9_closes_108 : decode cX9_closes 108 = .ok (.aload_n 0, 1) := by decide +kernel
theorem dX9_closes_109 : decode cX9_closes 109 = .ok (.getfield 30, 3) := by decide +kernel
theorem dX9_closes_112 : decode cX9_closes 112 = .ok (.iload 4, 2) := by decide +kernel
theorem dX9_closes_114 : decode cX9_closes 114 = .ok (.aload_n 0, 1) := by decide +kernel
theorem dX9_closes_115 : decode cX9_closes 115 = .ok (.getfield 244, 3) := by decide +kernel
theorem dX9_closes_118 : decode cX9_closes 118 = .ok (.iastore, 1) := by decide +kernel
theorem dX9_closes_119 : decode cX9_closes 119 = .ok (.aload_n 0, 1) := by decide +kernel
theorem dX9_closes_120 : decode cX9_closes 120 = .ok (.getfield 86, 3) := by decide +kernel
theorem dX9_closes_123 : decode cX9_closes 123 = .ok (.iload_n 2, 1) := by decide +kernel
theorem dX9_closes_124 : decode cX9_closes 124 = .ok (.iload_n 3, 1) := by decide +kernel
theorem dX9_closes_125 : decode cX9_closes 125 = .ok (.bastore, 1) := by decide +kernel
theorem dX9_closes_126 : decode cX9_closes 126 = .ok (.aload_n 0, 1) := by decide +kernel
theorem dX9_closes_127 : decode cX9_closes 127 = .ok (.getfield 27, 3) := by decide +kernel
theorem dX9_closes_130 : decode cX9_closes 130 = .ok (.iload 4, 2) := by decide +kernel
theorem dX9_closes_132 : decode cX9_closes 132 = .ok (.iload 5, 2) := by decide +kernel
theorem dX9_closes_134 : decode cX9_closes 134 = .ok (.iastore, 1) := by decide +kernel
theorem dX9_closes_135 : decode cX9_closes 135 = .ok (.aload_n 0, 1) := by decide +kernel
theorem dX9_closes_136 : decode cX9_closes 136 = .ok (.iconst 2, 1) := by decide +kernel
theorem dX9_closes_137 : decode cX9_closes 137 = .ok (.iload 4, 2) := by decide +kernel
theorem dX9_closes_139 : decode cX9_closes 139 = .ok (.iconst 0, 1) := by decide +kernel
theorem dX9_closes_140 : decode cX9_closes 140 = .ok (.iconst 0, 1) := by decide +kernel
theorem dX9_closes_141 : decode cX9_closes 141 = .ok (.iload_n 1, 1) := by decide +kernel
theorem dX9_closes_142 : decode cX9_closes 142 = .ok (.invokevirtual 289, 3) := by decide +kernel
theorem dX9_closes_145 : decode cX9_closes 145 = .ok (.goto 229, 3) := by decide +kernel
theorem dX9_closes_148 : decode cX9_closes 148 = .ok (.aload_n 0, 1) := by decide +kernel
theorem dX9_closes_149 : decode cX9_closes 149 = .ok (.bipush 6, 2) := by decide +kernel
theorem dX9_closes_151 : decode cX9_closes 151 = .ok (.aload_n 0, 1) := by decide +kernel
theorem dX9_closes_152 : decode cX9_closes 152 = .ok (.getfield 24, 3) := by decide +kernel
theorem dX9_closes_155 : decode cX9_closes 155 = .ok (.iload 4, 2) := by decide +kernel
theorem dX9_closes_157 : decode cX9_closes 157 = .ok (.iaload, 1) := by decide +kernel
theorem dX9_closes_158 : decode cX9_closes 158 = .ok (.iconst 0, 1) := by decide +kernel
theorem dX9_closes_159 : decode cX9_closes 159 = .ok (.invokevirtual 268, 3) := by decide +kernel
theorem dX9_closes_162 : decode cX9_closes 162 = .ok (.istore 5, 2) := by decide +kernel
theorem dX9_closes_164 : decode cX9_closes 164 = .ok (.aload_n 0, 1) := by decide +kernel
theorem dX9_closes_165 : decode cX9_closes 165 = .ok (.getfield 30, 3) := by decide +kernel
theorem dX9_closes_168 : decode cX9_closes 168 = .ok (.iload 5, 2) := by decide +kernel
theorem dX9_closes_170 : decode cX9_closes 170 = .ok (.aload_n 0, 1) := by decide +kernel
theorem dX9_closes_171 : decode cX9_closes 171 = .ok (.getfield 244, 3) := by decide +kernel
theorem dX9_closes_174 : decode cX9_closes 174 = .ok (.iastore, 1) := by decide +kernel
theorem dX9_closes_175 : decode cX9_closes 175 = .ok (.aload_n 0, 1) := by decide +kernel
theorem dX9_closes_176 : decode cX9_closes 176 = .ok (.getfield 30, 3) := by decide +kernel
theorem dX9_closes_179 : decode cX9_closes 179 = .ok (.aload_n 0, 1) := by decide +kernel
theorem dX9_closes_180 : decode cX9_closes 180 = .ok (.getfield 27, 3) := by decide +kernel
theorem dX9_closes_183 : decode cX9_closes 183 = .ok (.iload 4, 2) := by decide +kernel
theorem dX9_closes_185 : decode cX9_closes 185 = .ok (.iaload, 1) := by decide +kernel
theorem dX9_closes_186 : decode cX9_closes 186 = .ok (.aload_n 0, 1) := by decide +kernel
theorem dX9_closes_187 : decode cX9_closes 187 = .ok (.getfield 244, 3) := by decide +kernel
theorem dX9_closes_190 : decode cX9_closes 190 = .ok (.iastore, 1) := by decide +kernel
theorem dX9_closes_191 : decode cX9_closes 191 = .ok (.aload_n 0, 1) := by decide +kernel
theorem dX9_closes_192 : decode cX9_closes 192 = .ok (.getfield 82, 3) := by decide +kernel
theorem dX9_closes_195 : decode cX9_closes 195 = .ok (.aload_n 0, 1) := by decide +kernel
theorem dX9_closes_196 : decode cX9_closes 196 = .ok (.getfield 251, 3) := by decide +kernel
theorem dX9_closes_199 : decode cX9_closes 199 = .ok (.aload_n 0, 1) := by decide +kernel
theorem dX9_closes_200 : decode cX9_closes 200 = .ok (.getfield 82, 3) := by decide +kernel
theorem dX9_closes_203 : decode cX9_closes 203 = .ok (.aload_n 0, 1) := by decide +kernel
theorem dX9_closes_204 : decode cX9_closes 204 = .ok (.getfield 251, 3) := by decide +kernel
theorem dX9_closes_207 : decode cX9_closes 207 = .ok (.baload, 1) := by decide +kernel
theorem dX9_closes_208 : decode cX9_closes 208 = .ok (.ifCond .ne 16, 3) := by decide +kernel
theorem dX9_closes_211 : decode cX9_closes 211 = .ok (.iload_n 3, 1) := by decide +kernel
theorem dX9_closes_212 : decode cX9_closes 212 = .ok (.ifCond .ne 12, 3) := by decide +kernel
theorem dX9_closes_215 : decode cX9_closes 215 = .ok (.aload_n 0, 1) := by decide +kernel
theorem dX9_closes_216 : decode cX9_closes 216 = .ok (.getfield 86, 3) := by decide +kernel
theorem dX9_closes_219 : decode cX9_closes 219 = .ok (.iload_n 2, 1) := by decide +kernel
theorem dX9_closes_220 : decode cX9_closes 220 = .ok (.baload, 1) := by decide +kernel
theorem dX9_closes_221 : decode cX9_closes 221 = .ok (.ifCond .eq 7, 3) := by decide +kernel
theorem dX9_closes_224 : decode cX9_closes 224 = .ok (.iconst 1, 1) := by decide +kernel
theorem dX9_closes_225 : decode cX9_closes 225 = .ok (.goto 4, 3) := by decide +kernel
theorem dX9_closes_228 : decode cX9_closes 228 = .ok (.iconst 0, 1) := by decide +kernel
theorem dX9_closes_229 : decode cX9_closes 229 = .ok (.bastore, 1) := by decide +kernel
theorem dX9_closes_230 : decode cX9_closes 230 = .ok (.goto 144, 3) := by decide +kernel
theorem dX9_closes_233 : decode cX9_closes 233 = .ok (.aload_n 0, 1) := by decide +kernel
theorem dX9_closes_234 : decode cX9_closes 234 = .ok (.iconst 3, 1) := by decide +kernel
theorem dX9_closes_235 : decode cX9_closes 235 = .ok (.iconst 0, 1) := by decide +kernel
theorem dX9_closes_236 : decode cX9_closes 236 = .ok (.iconst 0, 1) := by decide +kernel
theorem dX9_closes_237 : decode cX9_closes 237 = .ok (.invokevirtual 268, 3) := by decide +kernel
theorem dX9_closes_240 : decode cX9_closes 240 = .ok (.istore 5, 2) := by decide +kernel
theorem dX9_closes_242 : decode cX9_closes 242 = .ok (.aload_n 0, 1) := by decide +kernel
theorem dX9_closes_243 : decode cX9_closes 243 = .ok (.getfield 30, 3) := by decide +kernel
theorem dX9_closes_246 : decode cX9_closes 246 = .ok (.iload 4, 2) := by decide +kernel
theorem dX9_closes_248 : decode cX9_closes 248 = .ok (.aload_n 0, 1) := by decide +kernel
theorem dX9_closes_249 : decode cX9_closes 249 = .ok (.getfield 244, 3) := by decide +kernel
theorem dX9_closes_252 : decode cX9_closes 252 = .ok (.iastore, 1) := by decide +kernel
theorem dX9_closes_253 : decode cX9_closes 253 = .ok (.aload_n 0, 1) := by decide +kernel
theorem dX9_closes_254 : decode cX9_closes 254 = .ok (.getfield 86, 3) := by decide +kernel
theorem dX9_closes_257 : decode cX9_closes 257 = .ok (.iload_n 2, 1) := by decide +kernel
theorem dX9_closes_258 : decode cX9_closes 258 = .ok (.iload_n 3, 1) := by decide +kernel
theorem dX9_closes_259 : decode cX9_closes 259 = .ok (.bastore, 1) := by decide +kernel
theorem dX9_closes_260 : decode cX9_closes 260 = .ok (.aload_n 0, 1) := by decide +kernel
theorem dX9_closes_261 : decode cX9_closes 261 = .ok (.bipush 6, 2) := by decide +kernel
theorem dX9_closes_263 : decode cX9_closes 263 = .ok (.iload_n 1, 1) := by decide +kernel
theorem dX9_closes_264 : decode cX9_closes 264 = .ok (.invokevirtual 261, 3) := by decide +kernel
theorem dX9_closes_267 : decode cX9_closes 267 = .ok (.aload_n 0, 1) := by decide +kernel
theorem dX9_closes_268 : decode cX9_closes 268 = .ok (.iconst 4, 1) := by decide +kernel
theorem dX9_closes_269 : decode cX9_closes 269 = .ok (.iload 5, 2) := by decide +kernel
theorem dX9_closes_271 : decode cX9_closes 271 = .ok (.iconst 0, 1) := by decide +kernel
theorem dX9_closes_272 : decode cX9_closes 272 = .ok (.iconst 0, 1) := by decide +kernel
theorem dX9_closes_273 : decode cX9_closes 273 = .ok (.iload_n 1, 1) := by decide +kernel
theorem dX9_closes_274 : decode cX9_closes 274 = .ok (.invokevirtual 289, 3) := by decide +kernel
theorem dX9_closes_277 : decode cX9_closes 277 = .ok (.goto 97, 3) := by decide +kernel
theorem dX9_closes_280 : decode cX9_closes 280 = .ok (.aload_n 0, 1) := by decide +kernel
theorem dX9_closes_281 : decode cX9_closes 281 = .ok (.getfield 30, 3) := by decide +kernel
theorem dX9_closes_284 : decode cX9_closes 284 = .ok (.iload 4, 2) := by decide +kernel
theorem dX9_closes_286 : decode cX9_closes 286 = .ok (.aload_n 0, 1) := by decide +kernel
theorem dX9_closes_287 : decode cX9_closes 287 = .ok (.getfield 244, 3) := by decide +kernel
theorem dX9_closes_290 : decode cX9_closes 290 = .ok (.iastore, 1) := by decide +kernel
theorem dX9_closes_291 : decode cX9_closes 291 = .ok (.aload_n 0, 1) := by decide +kernel
theorem dX9_closes_292 : decode cX9_closes 292 = .ok (.getfield 82, 3) := by decide +kernel
theorem dX9_closes_295 : decode cX9_closes 295 = .ok (.aload_n 0, 1) := by decide +kernel
theorem dX9_closes_296 : decode cX9_closes 296 = .ok (.getfield 251, 3) := by decide +kernel
theorem dX9_closes_299 : decode cX9_closes 299 = .ok (.aload_n 0, 1) := by decide +kernel
theorem dX9_closes_300 : decode cX9_closes 300 = .ok (.getfield 82, 3) := by decide +kernel
theorem dX9_closes_303 : decode cX9_closes 303 = .ok (.aload_n 0, 1) := by decide +kernel
theorem dX9_closes_304 : decode cX9_closes 304 = .ok (.getfield 251, 3) := by decide +kernel
theorem dX9_closes_307 : decode cX9_closes 307 = .ok (.baload, 1) := by decide +kernel
theorem dX9_closes_308 : decode cX9_closes 308 = .ok (.ifCond .ne 16, 3) := by decide +kernel
theorem dX9_closes_311 : decode cX9_closes 311 = .ok (.iload_n 3, 1) := by decide +kernel
theorem dX9_closes_312 : decode cX9_closes 312 = .ok (.ifCond .eq 16, 3) := by decide +kernel
theorem dX9_closes_315 : decode cX9_closes 315 = .ok (.aload_n 0, 1) := by decide +kernel
theorem dX9_closes_316 : decode cX9_closes 316 = .ok (.getfield 86, 3) := by decide +kernel
theorem dX9_closes_319 : decode cX9_closes 319 = .ok (.iload_n 2, 1) := by decide +kernel
theorem dX9_closes_320 : decode cX9_closes 320 = .ok (.baload, 1) := by decide +kernel
theorem dX9_closes_321 : decode cX9_closes 321 = .ok (.ifCond .eq 7, 3) := by decide +kernel
theorem dX9_closes_324 : decode cX9_closes 324 = .ok (.iconst 1, 1) := by decide +kernel
theorem dX9_closes_325 : decode cX9_closes 325 = .ok (.goto 4, 3) := by decide +kernel
theorem dX9_closes_328 : decode cX9_closes 328 = .ok (.iconst 0, 1) := by decide +kernel
theorem dX9_closes_329 : decode cX9_closes 329 = .ok (.bastore, 1) := by decide +kernel
theorem dX9_closes_330 : decode cX9_closes 330 = .ok (.goto 44, 3) := by decide +kernel
theorem dX9_closes_333 : decode cX9_closes 333 = .ok (.aload_n 0, 1) := by decide +kernel
theorem dX9_closes_334 : decode cX9_closes 334 = .ok (.iconst 4, 1) := by decide +kernel
theorem dX9_closes_335 : decode cX9_closes 335 = .ok (.aload_n 0, 1) := by decide +kernel
theorem dX9_closes_336 : decode cX9_closes 336 = .ok (.getfield 76, 3) := by decide +kernel
theorem dX9_closes_339 : decode cX9_closes 339 = .ok (.iload_n 2, 1) := by decide +kernel
theorem dX9_closes_340 : decode cX9_closes 340 = .ok (.iaload, 1) := by decide +kernel
theorem dX9_closes_341 : decode cX9_closes 341 = .ok (.aload_n 0, 1) := by decide +kernel
theorem dX9_closes_342 : decode cX9_closes 342 = .ok (.getfield 79, 3) := by decide +kernel
theorem dX9_closes_345 : decode cX9_closes 345 = .ok (.iload_n 2, 1) := by decide +kernel
theorem dX9_closes_346 : decode cX9_closes 346 = .ok (.iaload, 1) := by decide +kernel
theorem dX9_closes_347 : decode cX9_closes 347 = .ok (.invokevirtual 268, 3) := by decide +kernel
theorem dX9_closes_350 : decode cX9_closes 350 = .ok (.istore 5, 2) := by decide +kernel
theorem dX9_closes_352 : decode cX9_closes 352 = .ok (.aload_n 0, 1) := by decide +kernel
theorem dX9_closes_353 : decode cX9_closes 353 = .ok (.getfield 30, 3) := by decide +kernel
theorem dX9_closes_356 : decode cX9_closes 356 = .ok (.iload 5, 2) := by decide +kernel
theorem dX9_closes_358 : decode cX9_closes 358 = .ok (.iload 4, 2) := by decide +kernel
theorem dX9_closes_360 : decode cX9_closes 360 = .ok (.iastore, 1) := by decide +kernel
theorem dX9_closes_361 : decode cX9_closes 361 = .ok (.aload_n 0, 1) := by decide +kernel
theorem dX9_closes_362 : decode cX9_closes 362 = .ok (.getfield 82, 3) := by decide +kernel
theorem dX9_closes_365 : decode cX9_closes 365 = .ok (.aload_n 0, 1) := by decide +kernel
theorem dX9_closes_366 : decode cX9_closes 366 = .ok (.getfield 251, 3) := by decide +kernel
theorem dX9_closes_369 : decode cX9_closes 369 = .ok (.iconst 1, 1) := by decide +kernel
theorem dX9_closes_370 : decode cX9_closes 370 = .ok (.bastore, 1) := by decide +kernel
theorem dX9_closes_371 : decode cX9_closes 371 = .ok (.goto 3, 3) := by decide +kernel
theorem dX9_closes_374 : decode cX9_closes 374 = .ok (.return_, 1) := by decide +kernel
theorem dX9_business_0 : decode cX9_business 0 = .ok (.aload_n 0, 1) := by decide +kernel
theorem dX9_business_1 : decode cX9_business 1 = .ok (.getfield 170, 3) := by decide +kernel
theorem dX9_business_4 : decode cX9_business 4 = .ok (.istore_n 1, 1) := by decide +kernel
theorem dX9_business_5 : decode cX9_business 5 = .ok (.aload_n 0, 1) := by decide +kernel
theorem dX9_business_6 : decode cX9_business 6 = .ok (.iconst 0, 1) := by decide +kernel
theorem dX9_business_7 : decode cX9_business 7 = .ok (.putfield 170, 3) := by decide +kernel
theorem dX9_business_10 : decode cX9_business 10 = .ok (.aload_n 0, 1) := by decide +kernel
theorem dX9_business_11 : decode cX9_business 11 = .ok (.iconst 0, 1) := by decide +kernel
theorem dX9_business_12 : decode cX9_business 12 = .ok (.putfield 190, 3) := by decide +kernel
theorem dX9_business_15 : decode cX9_business 15 = .ok (.aload_n 0, 1) := by decide +kernel
theorem dX9_business_16 : decode cX9_business 16 = .ok (.iconst 0, 1) := by decide +kernel
theorem dX9_business_17 : decode cX9_business 17 = .ok (.putfield 181, 3) := by decide +kernel
theorem dX9_business_20 : decode cX9_business 20 = .ok (.aload_n 0, 1) := by decide +kernel
theorem dX9_business_21 : decode cX9_business 21 = .ok (.iconst (-1), 1) := by decide +kernel
theorem dX9_business_22 : decode cX9_business 22 = .ok (.putfield 187, 3) := by decide +kernel
theorem dX9_business_25 : decode cX9_business 25 = .ok (.aload_n 0, 1) := by decide +kernel
theorem dX9_business_26 : decode cX9_business 26 = .ok (.iconst 0, 1) := by decide +kernel
theorem dX9_business_27 : decode cX9_business 27 = .ok (.putfield 277, 3) := by decide +kernel
theorem dX9_business_30 : decode cX9_business 30 = .ok (.aload_n 0, 1) := by decide +kernel
theorem dX9_business_31 : decode cX9_business 31 = .ok (.iconst 0, 1) := by decide +kernel
theorem dX9_business_32 : decode cX9_business 32 = .ok (.putfield 254, 3) := by decide +kernel
theorem dX9_business_35 : decode cX9_business 35 = .ok (.aload_n 0, 1) := by decide +kernel
theorem dX9_business_36 : decode cX9_business 36 = .ok (.iconst 0, 1) := by decide +kernel
theorem dX9_business_37 : decode cX9_business 37 = .ok (.putfield 286, 3) := by decide +kernel
theorem dX9_business_40 : decode cX9_business 40 = .ok (.aload_n 0, 1) := by decide +kernel
theorem dX9_business_41 : decode cX9_business 41 = .ok (.iconst 0, 1) := by decide +kernel
theorem dX9_business_42 : decode cX9_business 42 = .ok (.putfield 244, 3) := by decide +kernel
theorem dX9_business_45 : decode cX9_business 45 = .ok (.aload_n 0, 1) := by decide +kernel
theorem dX9_business_46 : decode cX9_business 46 = .ok (.iconst 0, 1) := by decide +kernel
theorem dX9_business_47 : decode cX9_business 47 = .ok (.putfield 251, 3) := by decide +kernel
theorem dX9_business_50 : decode cX9_business 50 = .ok (.aload_n 0, 1) := by decide +kernel
theorem dX9_business_51 : decode cX9_business 51 = .ok (.getfield 82, 3) := by decide +kernel
theorem dX9_business_54 : decode cX9_business 54 = .ok (.iconst 0, 1) := by decide +kernel
theorem dX9_business_55 : decode cX9_business 55 = .ok (.iconst 0, 1) := by decide +kernel
theorem dX9_business_56 : decode cX9_business 56 = .ok (.bastore, 1) := by decide +kernel
theorem dX9_business_57 : decode cX9_business 57 = .ok (.aload_n 0, 1) := by decide +kernel
theorem dX9_business_58 : decode cX9_business 58 = .ok (.iload_n 1, 1) := by decide +kernel
theorem dX9_business_59 : decode cX9_business 59 = .ok (.invokevirtual 233, 3) := by decide +kernel
theorem dX9_business_62 : decode cX9_business 62 = .ok (.aload_n 0, 1) := by decide +kernel
theorem dX9_business_63 : decode cX9_business 63 = .ok (.invokevirtual 225, 3) := by decide +kernel
theorem dX9_business_66 : decode cX9_business 66 = .ok (.ifCond .eq 49, 3) := by decide +kernel
theorem dX9_business_69 : decode cX9_business 69 = .ok (.aload_n 0, 1) := by decide +kernel
theorem dX9_business_70 : decode cX9_business 70 = .ok (.getfield 197, 3) := by decide +kernel
theorem dX9_business_73 : decode cX9_business 73 = .ok (.ifCond .ne 10, 3) := by decide +kernel
theorem dX9_business_76 : decode cX9_business 76 = .ok (.aload_n 0, 1) := by decide +kernel
theorem dX9_business_77 : decode cX9_business 77 = .ok (.getfield 251, 3) := by decide +kernel
theorem dX9_business_80 : decode cX9_business 80 = .ok (.ifCond .le 35, 3) := by decide +kernel
theorem dX9_business_83 : decode cX9_business 83 = .ok (.aload_n 0, 1) := by decide +kernel
theorem dX9_business_84 : decode cX9_business 84 = .ok (.bipush 125, 2) := by decide +kernel
theorem dX9_business_86 : decode cX9_business 86 = .ok (.invokevirtual 229, 3) := by decide +kernel
theorem dX9_business_89 : decode cX9_business 89 = .ok (.ifCond .eq 18, 3) := by decide +kernel
theorem dX9_business_92 : decode cX9_business 92 = .ok (.aload_n 0, 1) := by decide +kernel
theorem dX9_business_93 : decode cX9_business 93 = .ok (.getfield 251, 3) := by decide +kernel
theorem dX9_business_96 : decode cX9_business 96 = .ok (.ifCond .le 11, 3) := by decide +kernel
theorem dX9_business_99 : decode cX9_business 99 = .ok (.aload_n 0, 1) := by decide +kernel
theorem dX9_business_100 : decode cX9_business 100 = .ok (.iload_n 1, 1) := by decide +kernel
theorem dX9_business_101 : decode cX9_business 101 = .ok (.invokevirtual 293, 3) := by decide +kernel
theorem dX9_business_104 : decode cX9_business 104 = .ok (.goto (-42), 3) := by decide +kernel
theorem dX9_business_107 : decode cX9_business 107 = .ok (.aload_n 0, 1) := by decide +kernel
theorem dX9_business_108 : decode cX9_business 108 = .ok (.iload_n 1, 1) := by decide +kernel
theorem dX9_business_109 : decode cX9_business 109 = .ok (.invokevirtual 296, 3) := by decide +kernel
theorem dX9_business_112 : decode cX9_business 112 = .ok (.goto (-50), 3) := by decide +kernel
theorem dX9_business_115 : decode cX9_business 115 = .ok (.aload_n 0, 1) := by decide +kernel
theorem dX9_business_116 : decode cX9_business 116 = .ok (.aload_n 0, 1) := by decide +kernel
theorem dX9_business_117 : decode cX9_business 117 = .ok (.getfield 181, 3) := by decide +kernel
theorem dX9_business_120 : decode cX9_business 120 = .ok (.putfield 13, 3) := by decide +kernel
theorem dX9_business_123 : decode cX9_business 123 = .ok (.aload_n 0, 1) := by decide +kernel
theorem dX9_business_124 : decode cX9_business 124 = .ok (.aload_n 0, 1) := by decide +kernel
theorem dX9_business_125 : decode cX9_business 125 = .ok (.getfield 187, 3) := by decide +kernel
theorem dX9_business_128 : decode cX9_business 128 = .ok (.putfield 17, 3) := by decide +kernel
theorem dX9_business_131 : decode cX9_business 131 = .ok (.aload_n 0, 1) := by decide +kernel
theorem dX9_business_132 : decode cX9_business 132 = .ok (.invokevirtual 225, 3) := by decide +kernel
theorem dX9_business_135 : decode cX9_business 135 = .ok (.ifCond .ne 5, 3) := by decide +kernel
theorem dX9_business_138 : decode cX9_business 138 = .ok (.iconst (-1), 1) := by decide +kernel
theorem dX9_business_139 : decode cX9_business 139 = .ok (.ireturn, 1) := by decide +kernel
theorem dX9_business_140 : decode cX9_business 140 = .ok (.aload_n 0, 1) := by decide +kernel
theorem dX9_business_141 : decode cX9_business 141 = .ok (.invokevirtual 299, 3) := by decide +kernel
theorem dX9_business_144 : decode cX9_business 144 = .ok (.aload_n 0, 1) := by decide +kernel
theorem dX9_business_145 : decode cX9_business 145 = .ok (.getfield 46, 3) := by decide +kernel
theorem dX9_business_148 : decode cX9_business 148 = .ok (.ireturn, 1) := by decide +kernel
theorem dX9_deputy_0 : decode cX9_deputy 0 = .ok (.aload_n 0, 1) := by decide +kernel
theorem dX9_deputy_1 : decode cX9_deputy 1 = .ok (.iload_n 1, 1) := by decide +kernel
theorem dX9_deputy_2 : decode cX9_deputy 2 = .ok (.invokevirtual 318, 3) := by decide +kernel
theorem dX9_deputy_5 : decode cX9_deputy 5 = .ok (.ifCond .eq 21, 3) := by decide +kernel
theorem dX9_deputy_8 : decode cX9_deputy 8 = .ok (.iload_n 2, 1) := by decide +kernel
theorem dX9_deputy_9 : decode cX9_deputy 9 = .ok (.iload_n 1, 1) := by decide +kernel
theorem dX9_deputy_10 : decode cX9_deputy 10 = .ok (.if_icmp .eq 16, 3) := by decide +kernel
theorem dX9_deputy_13 : decode cX9_deputy 13 = .ok (.iload_n 2, 1) := by decide +kernel
theorem dX9_deputy_14 : decode cX9_deputy 14 = .ok (.iconst (-1), 1) := by decide +kernel
theorem dX9_deputy_15 : decode cX9_deputy 15 = .ok (.if_icmp .eq 13, 3) := by decide +kernel
theorem dX9_deputy_18 : decode cX9_deputy 18 = .ok (.aload_n 0, 1) := by decide +kernel
theorem dX9_deputy_19 : decode cX9_deputy 19 = .ok (.iload_n 2, 1) := by decide +kernel
theorem dX9_deputy_20 : decode cX9_deputy 20 = .ok (.invokevirtual 318, 3) := by decide +kernel
theorem dX9_deputy_23 : decode cX9_deputy 23 = .ok (.ifCond .ne 5, 3) := by decide +kernel
theorem dX9_deputy_26 : decode cX9_deputy 26 = .ok (.iconst 0, 1) := by decide +kernel
theorem dX9_deputy_27 : decode cX9_deputy 27 = .ok (.ireturn, 1) := by decide +kernel
theorem dX9_deputy_28 : decode cX9_deputy 28 = .ok (.aload_n 0, 1) := by decide +kernel
theorem dX9_deputy_29 : decode cX9_deputy 29 = .ok (.getfield 158, 3) := by decide +kernel
theorem dX9_deputy_32 : decode cX9_deputy 32 = .ok (.iload_n 1, 1) := by decide +kernel
theorem dX9_deputy_33 : decode cX9_deputy 33 = .ok (.iload_n 2, 1) := by decide +kernel
theorem dX9_deputy_34 : decode cX9_deputy 34 = .ok (.iastore, 1) := by decide +kernel
theorem dX9_deputy_35 : decode cX9_deputy 35 = .ok (.iconst 1, 1) := by decide +kernel
theorem dX9_deputy_36 : decode cX9_deputy 36 = .ok (.ireturn, 1) := by decide +kernel
theorem dX9_away_0 : decode cX9_away 0 = .ok (.aload_n 0, 1) := by decide +kernel
theorem dX9_away_1 : decode cX9_away 1 = .ok (.iload_n 1, 1) := by decide +kernel
theorem dX9_away_2 : decode cX9_away 2 = .ok (.invokevirtual 318, 3) := by decide +kernel
theorem dX9_away_5 : decode cX9_away 5 = .ok (.ifCond .ne 5, 3) := by decide +kernel
theorem dX9_away_8 : decode cX9_away 8 = .ok (.iconst 0, 1) := by decide +kernel
theorem dX9_away_9 : decode cX9_away 9 = .ok (.ireturn, 1) := by decide +kernel
theorem dX9_away_10 : decode cX9_away 10 = .ok (.aload_n 0, 1) := by decide +kernel
theorem dX9_away_11 : decode cX9_away 11 = .ok (.getfield 161, 3) := by decide +kernel
theorem dX9_away_14 : decode cX9_away 14 = .ok (.iload_n 1, 1) := by decide +kernel
theorem dX9_away_15 : decode cX9_away 15 = .ok (.iload_n 2, 1) := by decide +kernel
theorem dX9_away_16 : decode cX9_away 16 = .ok (.bastore, 1) := by decide +kernel
theorem dX9_away_17 : decode cX9_away 17 = .ok (.iconst 0, 1) := by decide +kernel
theorem dX9_away_18 : decode cX9_away 18 = .ok (.istore_n 3, 1) := by decide +kernel
theorem dX9_away_19 : decode cX9_away 19 = .ok (.iload_n 3, 1) := by decide +kernel
theorem dX9_away_20 : decode cX9_away 20 = .ok (.aload_n 0, 1) := by decide +kernel
theorem dX9_away_21 : decode cX9_away 21 = .ok (.getfield 311, 3) := by decide +kernel
theorem dX9_away_24 : decode cX9_away 24 = .ok (.if_icmp .ge 47, 3) := by decide +kernel
theorem dX9_away_27 : decode cX9_away 27 = .ok (.iload_n 2, 1) := by decide +kernel
theorem dX9_away_28 : decode cX9_away 28 = .ok (.ifCond .eq 43, 3) := by decide +kernel
theorem dX9_away_31 : decode cX9_away 31 = .ok (.aload_n 0, 1) := by decide +kernel
theorem dX9_away_32 : decode cX9_away 32 = .ok (.getfield 143, 3) := by decide +kernel
theorem dX9_away_35 : decode cX9_away 35 = .ok (.iload_n 3, 1) := by decide +kernel
theorem dX9_away_36 : decode cX9_away 36 = .ok (.iaload, 1) := by decide +kernel
theorem dX9_away_37 : decode cX9_away 37 = .ok (.iconst 1, 1) := by decide +kernel
theorem dX9_away_38 : decode cX9_away 38 = .ok (.if_icmp .ne 27, 3) := by decide +kernel
theorem dX9_away_41 : decode cX9_away 41 = .ok (.aload_n 0, 1) := by decide +kernel
theorem dX9_away_42 : decode cX9_away 42 = .ok (.getfield 146, 3) := by decide +kernel
theorem dX9_away_45 : decode cX9_away 45 = .ok (.iload_n 3, 1) := by decide +kernel
theorem dX9_away_46 : decode cX9_away 46 = .ok (.iaload, 1) := by decide +kernel
theorem dX9_away_47 : decode cX9_away 47 = .ok (.iload_n 1, 1) := by decide +kernel
theorem dX9_away_48 : decode cX9_away 48 = .ok (.if_icmp .ne 17, 3) := by decide +kernel
theorem dX9_away_51 : decode cX9_away 51 = .ok (.aload_n 0, 1) := by decide +kernel
theorem dX9_away_52 : decode cX9_away 52 = .ok (.getfield 143, 3) := by decide +kernel
theorem dX9_away_55 : decode cX9_away 55 = .ok (.iload_n 3, 1) := by decide +kernel
theorem dX9_away_56 : decode cX9_away 56 = .ok (.iconst 0, 1) := by decide +kernel
theorem dX9_away_57 : decode cX9_away 57 = .ok (.iastore, 1) := by decide +kernel
theorem dX9_away_58 : decode cX9_away 58 = .ok (.aload_n 0, 1) := by decide +kernel
theorem dX9_away_59 : decode cX9_away 59 = .ok (.getfield 146, 3) := by decide +kernel
theorem dX9_away_62 : decode cX9_away 62 = .ok (.iload_n 3, 1) := by decide +kernel
theorem dX9_away_63 : decode cX9_away 63 = .ok (.iconst (-1), 1) := by decide +kernel
theorem dX9_away_64 : decode cX9_away 64 = .ok (.iastore, 1) := by decide +kernel
theorem dX9_away_65 : decode cX9_away 65 = .ok (.iinc 3 1, 3) := by decide +kernel
theorem dX9_away_68 : decode cX9_away 68 = .ok (.goto (-49), 3) := by decide +kernel
theorem dX9_away_71 : decode cX9_away 71 = .ok (.iconst 1, 1) := by decide +kernel
theorem dX9_away_72 : decode cX9_away 72 = .ok (.ireturn, 1) := by decide +kernel
theorem dX9_behind_0 : decode cX9_behind 0 = .ok (.iload_n 0, 1) := by decide +kernel
theorem dX9_behind_1 : decode cX9_behind 1 = .ok (.istore_n 2, 1) := by decide +kernel
theorem dX9_behind_2 : decode cX9_behind 2 = .ok (.iload_n 1, 1) := by decide +kernel
theorem dX9_behind_3 : decode cX9_behind 3 = .ok (.istore_n 3, 1) := by decide +kernel
theorem dX9_behind_4 : decode cX9_behind 4 = .ok (.iload_n 3, 1) := by decide +kernel
theorem dX9_behind_5 : decode cX9_behind 5 = .ok (.ifCond .le 24, 3) := by decide +kernel
theorem dX9_behind_8 : decode cX9_behind 8 = .ok (.iload_n 3, 1) := by decide +kernel
theorem dX9_behind_9 : decode cX9_behind 9 = .ok (.iload_n 2, 1) := by decide +kernel
theorem dX9_behind_10 : decode cX9_behind 10 = .ok (.invokestatic 326, 3) := by decide +kernel
theorem dX9_behind_13 : decode cX9_behind 13 = .ok (.ifCond .eq 7, 3) := by decide +kernel
theorem dX9_behind_16 : decode cX9_behind 16 = .ok (.iconst 1, 1) := by decide +kernel
theorem dX9_behind_17 : decode cX9_behind 17 = .ok (.goto 4, 3) := by decide +kernel
theorem dX9_behind_20 : decode cX9_behind 20 = .ok (.iconst 0, 1) := by decide +kernel
theorem dX9_behind_21 : decode cX9_behind 21 = .ok (.isub, 1) := by decide +kernel
theorem dX9_behind_22 : decode cX9_behind 22 = .ok (.istore_n 3, 1) := by decide +kernel
theorem dX9_behind_23 : decode cX9_behind 23 = .ok (.iinc 2 1, 3) := by decide +kernel
theorem dX9_behind_26 : decode cX9_behind 26 = .ok (.goto (-22), 3) := by decide +kernel
theorem dX9_behind_29 : decode cX9_behind 29 = .ok (.iload_n 2, 1) := by decide +kernel
theorem dX9_behind_30 : decode cX9_behind 30 = .ok (.ireturn, 1) := by decide +kernel
theorem dX9_due_0 : decode cX9_due 0 = .ok (.iload_n 1, 1) := by decide +kernel
theorem dX9_due_1 : decode cX9_due 1 = .ok (.i2l, 1) := by decide +kernel
theorem dX9_due_2 : decode cX9_due 2 = .ok (.lconst 0, 1) := by decide +kernel
theorem dX9_due_3 : decode cX9_due 3 = .ok (.ldc2_w 324, 3) := by decide +kernel
theorem dX9_due_6 : decode cX9_due 6 = .ok (.invokestatic 177, 3) := by decide +kernel
theorem dX9_due_9 : decode cX9_due 9 = .ok (.ifCond .eq 23, 3) := by decide +kernel
theorem dX9_due_12 : decode cX9_due 12 = .ok (.iload_n 2, 1) := by decide +kernel
theorem dX9_due_13 : decode cX9_due 13 = .ok (.i2l, 1) := by decide +kernel
theorem dX9_due_14 : decode cX9_due 14 = .ok (.lconst 1, 1) := by decide +kernel
theorem dX9_due_15 : decode cX9_due 15 = .ok (.ldc2_w 329, 3) := by decide +kernel
theorem dX9_due_18 : decode cX9_due 18 = .ok (.invokestatic 177, 3) := by decide +kernel
theorem dX9_due_21 : decode cX9_due 21 = .ok (.ifCond .eq 11, 3) := by decide +kernel
theorem dX9_due_24 : decode cX9_due 24 = .ok (.iload_n 1, 1) := by decide +kernel
theorem dX9_due_25 : decode cX9_due 25 = .ok (.iload_n 2, 1) := by decide +kernel
theorem dX9_due_26 : decode cX9_due 26 = .ok (.invokestatic 331, 3) := by decide +kernel
theorem dX9_due_29 : decode cX9_due 29 = .ok (.goto 4, 3) := by decide +kernel
theorem dX9_due_32 : decode cX9_due 32 = .ok (.iconst (-1), 1) := by decide +kernel
theorem dX9_due_33 : decode cX9_due 33 = .ok (.ireturn, 1) := by decide +kernel
theorem dX9_comes_0 : decode cX9_comes 0 = .ok (.aload_n 0, 1) := by decide +kernel
theorem dX9_comes_1 : decode cX9_comes 1 = .ok (.getfield 128, 3) := by decide +kernel
theorem dX9_comes_4 : decode cX9_comes 4 = .ok (.aload_n 0, 1) := by decide +kernel
theorem dX9_comes_5 : decode cX9_comes 5 = .ok (.getfield 311, 3) := by decide +kernel
theorem dX9_comes_8 : decode cX9_comes 8 = .ok (.iload_n 1, 1) := by decide +kernel
theorem dX9_comes_9 : decode cX9_comes 9 = .ok (.iastore, 1) := by decide +kernel
theorem dX9_comes_10 : decode cX9_comes 10 = .ok (.aload_n 0, 1) := by decide +kernel
theorem dX9_comes_11 : decode cX9_comes 11 = .ok (.getfield 131, 3) := by decide +kernel
theorem dX9_comes_14 : decode cX9_comes 14 = .ok (.aload_n 0, 1) := by decide +kernel
theorem dX9_comes_15 : decode cX9_comes 15 = .ok (.getfield 311, 3) := by decide +kernel
theorem dX9_comes_18 : decode cX9_comes 18 = .ok (.iload_n 2, 1) := by decide +kernel
theorem dX9_comes_19 : decode cX9_comes 19 = .ok (.iastore, 1) := by decide +kernel
theorem dX9_comes_20 : decode cX9_comes 20 = .ok (.aload_n 0, 1) := by decide +kernel
theorem dX9_comes_21 : decode cX9_comes 21 = .ok (.getfield 134, 3) := by decide +kernel
theorem dX9_comes_24 : decode cX9_comes 24 = .ok (.aload_n 0, 1) := by decide +kernel
theorem dX9_comes_25 : decode cX9_comes 25 = .ok (.getfield 311, 3) := by decide +kernel
theorem dX9_comes_28 : decode cX9_comes 28 = .ok (.iload_n 3, 1) := by decide +kernel
theorem dX9_comes_29 : decode cX9_comes 29 = .ok (.iastore, 1) := by decide +kernel
theorem dX9_comes_30 : decode cX9_comes 30 = .ok (.aload_n 0, 1) := by decide +kernel
theorem dX9_comes_31 : decode cX9_comes 31 = .ok (.getfield 137, 3) := by decide +kernel
theorem dX9_comes_34 : decode cX9_comes 34 = .ok (.aload_n 0, 1) := by decide +kernel
theorem dX9_comes_35 : decode cX9_comes 35 = .ok (.getfield 311, 3) := by decide +kernel
theorem dX9_comes_38 : decode cX9_comes 38 = .ok (.aload_n 0, 1) := by decide +kernel
theorem dX9_comes_39 : decode cX9_comes 39 = .ok (.getfield 321, 3) := by decide +kernel
theorem dX9_comes_42 : decode cX9_comes 42 = .ok (.iastore, 1) := by decide +kernel
theorem dX9_comes_43 : decode cX9_comes 43 = .ok (.aload_n 0, 1) := by decide +kernel
theorem dX9_comes_44 : decode cX9_comes 44 = .ok (.getfield 140, 3) := by decide +kernel
theorem dX9_comes_47 : decode cX9_comes 47 = .ok (.aload_n 0, 1) := by decide +kernel
theorem dX9_comes_48 : decode cX9_comes 48 = .ok (.getfield 311, 3) := by decide +kernel
theorem dX9_comes_51 : decode cX9_comes 51 = .ok (.aload_n 0, 1) := by decide +kernel
theorem dX9_comes_52 : decode cX9_comes 52 = .ok (.getfield 321, 3) := by decide +kernel
theorem dX9_comes_55 : decode cX9_comes 55 = .ok (.aload_n 0, 1) := by decide +kernel
theorem dX9_comes_56 : decode cX9_comes 56 = .ok (.getfield 107, 3) := by decide +kernel
theorem dX9_comes_59 : decode cX9_comes 59 = .ok (.bipush 40, 2) := by decide +kernel
theorem dX9_comes_61 : decode cX9_comes 61 = .ok (.iload_n 1, 1) := by decide +kernel
theorem dX9_comes_62 : decode cX9_comes 62 = .ok (.imul, 1) := by decide +kernel
theorem dX9_comes_63 : decode cX9_comes 63 = .ok (.iload_n 2, 1) := by decide +kernel
theorem dX9_comes_64 : decode cX9_comes 64 = .ok (.iadd, 1) := by decide +kernel
theorem dX9_comes_65 : decode cX9_comes 65 = .ok (.iaload, 1) := by decide +kernel
theorem dX9_comes_66 : decode cX9_comes 66 = .ok (.invokestatic 331, 3) := by decide +kernel
theorem dX9_comes_69 : decode cX9_comes 69 = .ok (.iastore, 1) := by decide +kernel
theorem dX9_comes_70 : decode cX9_comes 70 = .ok (.aload_n 0, 1) := by decide +kernel
theorem dX9_comes_71 : decode cX9_comes 71 = .ok (.getfield 143, 3) := by decide +kernel
theorem dX9_comes_74 : decode cX9_comes 74 = .ok (.aload_n 0, 1) := by decide +kernel
theorem dX9_comes_75 : decode cX9_comes 75 = .ok (.getfield 311, 3) := by decide +kernel
theorem dX9_comes_78 : decode cX9_comes 78 = .ok (.iconst 0, 1) := by decide +kernel
theorem dX9_comes_79 : decode cX9_comes 79 = .ok (.iastore, 1) := by decide +kernel
theorem dX9_comes_80 : decode cX9_comes 80 = .ok (.aload_n 0, 1) := by decide +kernel
theorem dX9_comes_81 : decode cX9_comes 81 = .ok (.getfield 146, 3) := by decide +kernel
theorem dX9_comes_84 : decode cX9_comes 84 = .ok (.aload_n 0, 1) := by decide +kernel
theorem dX9_comes_85 : decode cX9_comes 85 = .ok (.getfield 311, 3) := by decide +kernel
theorem dX9_comes_88 : decode cX9_comes 88 = .ok (.iconst (-1), 1) := by decide +kernel
theorem dX9_comes_89 : decode cX9_comes 89 = .ok (.iastore, 1) := by decide +kernel
theorem dX9_comes_90 : decode cX9_comes 90 = .ok (.aload_n 0, 1) := by decide +kernel
theorem dX9_comes_91 : decode cX9_comes 91 = .ok (.getfield 149, 3) := by decide +kernel
theorem dX9_comes_94 : decode cX9_comes 94 = .ok (.aload_n 0, 1) := by decide +kernel
theorem dX9_comes_95 : decode cX9_comes 95 = .ok (.getfield 311, 3) := by decide +kernel
theorem dX9_comes_98 : decode cX9_comes 98 = .ok (.iconst (-1), 1) := by decide +kernel
theorem dX9_comes_99 : decode cX9_comes 99 = .ok (.iastore, 1) := by decide +kernel
theorem dX9_comes_100 : decode cX9_comes 100 = .ok (.aload_n 0, 1) := by decide +kernel
theorem dX9_comes_101 : decode cX9_comes 101 = .ok (.dup, 1) := by decide +kernel
theorem dX9_comes_102 : decode cX9_comes 102 = .ok (.getfield 311, 3) := by decide +kernel
theorem dX9_comes_105 : decode cX9_comes 105 = .ok (.iconst 1, 1) := by decide +kernel
theorem dX9_comes_106 : decode cX9_comes 106 = .ok (.iadd, 1) := by decide +kernel
theorem dX9_comes_107 : decode cX9_comes 107 = .ok (.putfield 311, 3) := by decide +kernel
theorem dX9_comes_110 : decode cX9_comes 110 = .ok (.return_, 1) := by decide +kernel
theorem dX9_didLast_0 : decode cX9_didLast 0 = .ok (.iconst (-1), 1) := by decide +kernel
theorem dX9_didLast_1 : decode cX9_didLast 1 = .ok (.istore_n 3, 1) := by decide +kernel
theorem dX9_didLast_2 : decode cX9_didLast 2 = .ok (.iconst (-1), 1) := by decide +kernel
theorem dX9_didLast_3 : decode cX9_didLast 3 = .ok (.istore 4, 2) := by decide +kernel
theorem dX9_didLast_5 : decode cX9_didLast 5 = .ok (.iconst 0, 1) := by decide +kernel
theorem dX9_didLast_6 : decode cX9_didLast 6 = .ok (.istore 5, 2) := by decide +kernel
theorem dX9_didLast_8 : decode cX9_didLast 8 = .ok (.iload 5, 2) := by decide +kernel
theorem dX9_didLast_10 : decode cX9_didLast 10 = .ok (.aload_n 0, 1) := by decide +kernel
theorem dX9_didLast_11 : decode cX9_didLast 11 = .ok (.getfield 311, 3) := by decide +kernel
theorem dX9_didLast_14 : decode cX9_didLast 14 = .ok (.if_icmp .ge 71, 3) := by decide +kernel
theorem dX9_didLast_17 : decode cX9_didLast 17 = .ok (.aload_n 0, 1) := by decide +kernel
theorem dX9_didLast_18 : decode cX9_didLast 18 = .ok (.getfield 128, 3) := by decide +kernel
theorem dX9_didLast_21 : decode cX9_didLast 21 = .ok (.iload 5, 2) := by decide +kernel
theorem dX9_didLast_23 : decode cX9_didLast 23 = .ok (.iaload, 1) := by decide +kernel
theorem dX9_didLast_24 : decode cX9_didLast 24 = .ok (.iload_n 1, 1) := by decide +kernel
theorem dX9_didLast_25 : decode cX9_didLast 25 = .ok (.if_icmp .ne 54, 3) := by decide +kernel
theorem dX9_didLast_28 : decode cX9_didLast 28 = .ok (.aload_n 0, 1) := by decide +kernel
theorem dX9_didLast_29 : decode cX9_didLast 29 = .ok (.getfield 131, 3) := by decide +kernel
theorem dX9_didLast_32 : decode cX9_didLast 32 = .ok (.iload 5, 2) := by decide +kernel
theorem dX9_didLast_34 : decode cX9_didLast 34 = .ok (.iaload, 1) := by decide +kernel
theorem dX9_didLast_35 : decode cX9_didLast 35 = .ok (.iload_n 2, 1) := by decide +kernel
theorem dX9_didLast_36 : decode cX9_didLast 36 = .ok (.if_icmp .ne 43, 3) := by decide +kernel
theorem dX9_didLast_39 : decode cX9_didLast 39 = .ok (.aload_n 0, 1) := by decide +kernel
theorem dX9_didLast_40 : decode cX9_didLast 40 = .ok (.getfield 143, 3) := by decide +kernel
theorem dX9_didLast_43 : decode cX9_didLast 43 = .ok (.iload 5, 2) := by decide +kernel
theorem dX9_didLast_45 : decode cX9_didLast 45 = .ok (.iaload, 1) := by decide +kernel
theorem dX9_didLast_46 : decode cX9_didLast 46 = .ok (.iconst 2, 1) := by decide +kernel
theorem dX9_didLast_47 : decode cX9_didLast 47 = .ok (.if_icmp .ne 32, 3) := by decide +kernel
theorem dX9_didLast_50 : decode cX9_didLast 50 = .ok (.aload_n 0, 1) := by decide +kernel
theorem dX9_didLast_51 : decode cX9_didLast 51 = .ok (.getfield 167, 3) := by decide +kernel
theorem dX9_didLast_54 : decode cX9_didLast 54 = .ok (.iload 5, 2) := by decide +kernel
theorem dX9_didLast_56 : decode cX9_didLast 56 = .ok (.iaload, 1) := by decide +kernel
theorem dX9_didLast_57 : decode cX9_didLast 57 = .ok (.iload 4, 2) := by decide +kernel
theorem dX9_didLast_59 : decode cX9_didLast 59 = .ok (.if_icmp .le 20, 3) := by decide +kernel
theorem dX9_didLast_62 : decode cX9_didLast 62 = .ok (.aload_n 0, 1) := by decide +kernel
theorem dX9_didLast_63 : decode cX9_didLast 63 = .ok (.getfield 167, 3) := by decide +kernel
theorem dX9_didLast_66 : decode cX9_didLast 66 = .ok (.iload 5, 2) := by decide +kernel
theorem dX9_didLast_68 : decode cX9_didLast 68 = .ok (.iaload, 1) := by decide +kernel
theorem dX9_didLast_69 : decode cX9_didLast 69 = .ok (.istore 4, 2) := by decide +kernel
theorem dX9_didLast_71 : decode cX9_didLast 71 = .ok (.aload_n 0, 1) := by decide +kernel
theorem dX9_didLast_72 : decode cX9_didLast 72 = .ok (.getfield 146, 3) := by decide +kernel
theorem dX9_didLast_75 : decode cX9_didLast 75 = .ok (.iload 5, 2) := by decide +kernel
theorem dX9_didLast_77 : decode cX9_didLast 77 = .ok (.iaload, 1) := by decide +kernel
theorem dX9_didLast_78 : decode cX9_didLast 78 = .ok (.istore_n 3, 1) := by decide +kernel
theorem dX9_didLast_79 : decode cX9_didLast 79 = .ok (.iinc 5 1, 3) := by decide +kernel
theorem dX9_didLast_82 : decode cX9_didLast 82 = .ok (.goto (-74), 3) := by decide +kernel
theorem dX9_didLast_85 : decode cX9_didLast 85 = .ok (.iload_n 3, 1) := by decide +kernel
theorem dX9_didLast_86 : decode cX9_didLast 86 = .ok (.ireturn, 1) := by decide +kernel
theorem dX9_claims_0 : decode cX9_claims 0 = .ok (.iconst 0, 1) := by decide +kernel
theorem dX9_claims_1 : decode cX9_claims 1 = .ok (.istore_n 2, 1) := by decide +kernel
theorem dX9_claims_2 : decode cX9_claims 2 = .ok (.iconst 0, 1) := by decide +kernel
theorem dX9_claims_3 : decode cX9_claims 3 = .ok (.istore_n 3, 1) := by decide +kernel
theorem dX9_claims_4 : decode cX9_claims 4 = .ok (.iload_n 3, 1) := by decide +kernel
theorem dX9_claims_5 : decode cX9_claims 5 = .ok (.aload_n 0, 1) := by decide +kernel
theorem dX9_claims_6 : decode cX9_claims 6 = .ok (.getfield 311, 3) := by decide +kernel
theorem dX9_claims_9 : decode cX9_claims 9 = .ok (.if_icmp .ge 37, 3) := by decide +kernel
theorem dX9_claims_12 : decode cX9_claims 12 = .ok (.iload_n 2, 1) := by decide +kernel
theorem dX9_claims_13 : decode cX9_claims 13 = .ok (.aload_n 0, 1) := by decide +kernel
theorem dX9_claims_14 : decode cX9_claims 14 = .ok (.getfield 143, 3) := by decide +kernel
theorem dX9_claims_17 : decode cX9_claims 17 = .ok (.iload_n 3, 1) := by decide +kernel
theorem dX9_claims_18 : decode cX9_claims 18 = .ok (.iaload, 1) := by decide +kernel
theorem dX9_claims_19 : decode cX9_claims 19 = .ok (.iconst 1, 1) := by decide +kernel
theorem dX9_claims_20 : decode cX9_claims 20 = .ok (.if_icmp .ne 17, 3) := by decide +kernel
theorem dX9_claims_23 : decode cX9_claims 23 = .ok (.aload_n 0, 1) := by decide +kernel
theorem dX9_claims_24 : decode cX9_claims 24 = .ok (.getfield 146, 3) := by decide +kernel
theorem dX9_claims_27 : decode cX9_claims 27 = .ok (.iload_n 3, 1) := by decide +kernel
theorem dX9_claims_28 : decode cX9_claims 28 = .ok (.iaload, 1) := by decide +kernel
theorem dX9_claims_29 : decode cX9_claims 29 = .ok (.iload_n 1, 1) := by decide +kernel
theorem dX9_claims_30 : decode cX9_claims 30 = .ok (.if_icmp .ne 7, 3) := by decide +kernel
theorem dX9_claims_33 : decode cX9_claims 33 = .ok (.iconst 1, 1) := by decide +kernel
theorem dX9_claims_34 : decode cX9_claims 34 = .ok (.goto 4, 3) := by decide +kernel
theorem dX9_claims_37 : decode cX9_claims 37 = .ok (.iconst 0, 1) := by decide +kernel
theorem dX9_claims_38 : decode cX9_claims 38 = .ok (.iadd, 1) := by decide +kernel
theorem dX9_claims_39 : decode cX9_claims 39 = .ok (.istore_n 2, 1) := by decide +kernel
theorem dX9_claims_40 : decode cX9_claims 40 = .ok (.iinc 3 1, 3) := by decide +kernel
theorem dX9_claims_43 : decode cX9_claims 43 = .ok (.goto (-39), 3) := by decide +kernel
theorem dX9_claims_46 : decode cX9_claims 46 = .ok (.iload_n 2, 1) := by decide +kernel
theorem dX9_claims_47 : decode cX9_claims 47 = .ok (.ireturn, 1) := by decide +kernel
theorem dX9_claim_0 : decode cX9_claim 0 = .ok (.aload_n 0, 1) := by decide +kernel
theorem dX9_claim_1 : decode cX9_claim 1 = .ok (.iload_n 1, 1) := by decide +kernel
theorem dX9_claim_2 : decode cX9_claim 2 = .ok (.invokevirtual 318, 3) := by decide +kernel
theorem dX9_claim_5 : decode cX9_claim 5 = .ok (.ifCond .eq 43, 3) := by decide +kernel
theorem dX9_claim_8 : decode cX9_claim 8 = .ok (.aload_n 0, 1) := by decide +kernel
theorem dX9_claim_9 : decode cX9_claim 9 = .ok (.iload_n 2, 1) := by decide +kernel
theorem dX9_claim_10 : decode cX9_claim 10 = .ok (.invokevirtual 348, 3) := by decide +kernel
theorem dX9_claim_13 : decode cX9_claim 13 = .ok (.ifCond .eq 35, 3) := by decide +kernel
theorem dX9_claim_16 : decode cX9_claim 16 = .ok (.aload_n 0, 1) := by decide +kernel
theorem dX9_claim_17 : decode cX9_claim 17 = .ok (.getfield 143, 3) := by decide +kernel
theorem dX9_claim_20 : decode cX9_claim 20 = .ok (.iload_n 2, 1) := by decide +kernel
theorem dX9_claim_21 : decode cX9_claim 21 = .ok (.iaload, 1) := by decide +kernel
theorem dX9_claim_22 : decode cX9_claim 22 = .ok (.ifCond .ne 26, 3) := by decide +kernel
theorem dX9_claim_25 : decode cX9_claim 25 = .ok (.aload_n 0, 1) := by decide +kernel
theorem dX9_claim_26 : decode cX9_claim 26 = .ok (.iload_n 1, 1) := by decide +kernel
theorem dX9_claim_27 : decode cX9_claim 27 = .ok (.iload_n 2, 1) := by decide +kernel
theorem dX9_claim_28 : decode cX9_claim 28 = .ok (.invokevirtual 357, 3) := by decide +kernel
theorem dX9_claim_31 : decode cX9_claim 31 = .ok (.ifCond .eq 17, 3) := by decide +kernel
theorem dX9_claim_34 : decode cX9_claim 34 = .ok (.aload_n 0, 1) := by decide +kernel
theorem dX9_claim_35 : decode cX9_claim 35 = .ok (.iload_n 1, 1) := by decide +kernel
theorem dX9_claim_36 : decode cX9_claim 36 = .ok (.invokevirtual 360, 3) := by decide +kernel
theorem dX9_claim_39 : decode cX9_claim 39 = .ok (.aload_n 0, 1) := by decide +kernel
theorem dX9_claim_40 : decode cX9_claim 40 = .ok (.getfield 155, 3) := by decide +kernel
theorem dX9_claim_43 : decode cX9_claim 43 = .ok (.iload_n 1, 1) := by decide +kernel
theorem dX9_claim_44 : decode cX9_claim 44 = .ok (.iaload, 1) := by decide +kernel
theorem dX9_claim_45 : decode cX9_claim 45 = .ok (.if_icmp .lt 5, 3) := by decide +kernel
theorem dX9_claim_48 : decode cX9_claim 48 = .ok (.iconst (-1), 1) := by decide +kernel
theorem dX9_claim_49 : decode cX9_claim 49 = .ok (.ireturn, 1) := by decide +kernel
theorem dX9_claim_50 : decode cX9_claim 50 = .ok (.aload_n 0, 1) := by decide +kernel
theorem dX9_claim_51 : decode cX9_claim 51 = .ok (.getfield 143, 3) := by decide +kernel
theorem dX9_claim_54 : decode cX9_claim 54 = .ok (.iload_n 2, 1) := by decide +kernel
theorem dX9_claim_55 : decode cX9_claim 55 = .ok (.iconst 1, 1) := by decide +kernel
theorem dX9_claim_56 : decode cX9_claim 56 = .ok (.iastore, 1) := by decide +kernel
theorem dX9_claim_57 : decode cX9_claim 57 = .ok (.aload_n 0, 1) := by decide +kernel
theorem dX9_claim_58 : decode cX9_claim 58 = .ok (.getfield 146, 3) := by decide +kernel
theorem dX9_claim_61 : decode cX9_claim 61 = .ok (.iload_n 2, 1) := by decide +kernel
theorem dX9_claim_62 : decode cX9_claim 62 = .ok (.iload_n 1, 1) := by decide +kernel
theorem dX9_claim_63 : decode cX9_claim 63 = .ok (.iastore, 1) := by decide +kernel
theorem dX9_claim_64 : decode cX9_claim 64 = .ok (.aload_n 0, 1) := by decide +kernel
theorem dX9_claim_65 : decode cX9_claim 65 = .ok (.iload_n 1, 1) := by decide +kernel
theorem dX9_claim_66 : decode cX9_claim 66 = .ok (.invokevirtual 360, 3) := by decide +kernel
theorem dX9_claim_69 : decode cX9_claim 69 = .ok (.ireturn, 1) := by decide +kernel
theorem dX9_done_0 : decode cX9_done 0 = .ok (.aload_n 0, 1) := by decide +kernel
theorem dX9_done_1 : decode cX9_done 1 = .ok (.iload_n 1, 1) := by decide +kernel
theorem dX9_done_2 : decode cX9_done 2 = .ok (.invokevirtual 348, 3) := by decide +kernel
theorem dX9_done_5 : decode cX9_done 5 = .ok (.ifCond .eq 44, 3) := by decide +kernel
theorem dX9_done_8 : decode cX9_done 8 = .ok (.aload_n 0, 1) := by decide +kernel
theorem dX9_done_9 : decode cX9_done 9 = .ok (.getfield 143, 3) := by decide +kernel
theorem dX9_done_12 : decode cX9_done 12 = .ok (.iload_n 1, 1) := by decide +kernel
theorem dX9_done_13 : decode cX9_done 13 = .ok (.iaload, 1) := by decide +kernel
theorem dX9_done_14 : decode cX9_done 14 = .ok (.iconst 1, 1) := by decide +kernel
theorem dX9_done_15 : decode cX9_done 15 = .ok (.if_icmp .ne 34, 3) := by decide +kernel
theorem dX9_done_18 : decode cX9_done 18 = .ok (.iload_n 2, 1) := by decide +kernel
theorem dX9_done_19 : decode cX9_done 19 = .ok (.i2l, 1) := by decide +kernel
theorem dX9_done_20 : decode cX9_done 20 = .ok (.ldc2_w 363, 3) := by decide +kernel
theorem dX9_done_23 : decode cX9_done 23 = .ok (.ldc2_w 346, 3) := by decide +kernel
theorem dX9_done_26 : decode cX9_done 26 = .ok (.invokestatic 177, 3) := by decide +kernel
theorem dX9_done_29 : decode cX9_done 29 = .ok (.ifCond .eq 20, 3) := by decide +kernel
theorem dX9_done_32 : decode cX9_done 32 = .ok (.iload_n 2, 1) := by decide +kernel
theorem dX9_done_33 : decode cX9_done 33 = .ok (.iconst (-1), 1) := by decide +kernel
theorem dX9_done_34 : decode cX9_done 34 = .ok (.if_icmp .eq 17, 3) := by decide +kernel
theorem dX9_done_37 : decode cX9_done 37 = .ok (.iload_n 3, 1) := by decide +kernel
theorem dX9_done_38 : decode cX9_done 38 = .ok (.i2l, 1) := by decide +kernel
theorem dX9_done_39 : decode cX9_done 39 = .ok (.lconst 0, 1) := by decide +kernel
theorem dX9_done_40 : decode cX9_done 40 = .ok (.ldc2_w 329, 3) := by decide +kernel
theorem dX9_done_43 : decode cX9_done 43 = .ok (.invokestatic 177, 3) := by decide +kernel
theorem dX9_done_46 : decode cX9_done 46 = .ok (.ifCond .ne 5, 3) := by decide +kernel
theorem dX9_done_49 : decode cX9_done 49 = .ok (.iconst (-1), 1) := by decide +kernel
theorem dX9_done_50 : decode cX9_done 50 = .ok (.ireturn, 1) := by decide +kernel
theorem dX9_done_51 : decode cX9_done 51 = .ok (.aload_n 0, 1) := by decide +kernel
theorem dX9_done_52 : decode cX9_done 52 = .ok (.getfield 128, 3) := by decide +kernel
theorem dX9_done_55 : decode cX9_done 55 = .ok (.iload_n 1, 1) := by decide +kernel
theorem dX9_done_56 : decode cX9_done 56 = .ok (.iaload, 1) := by decide +kernel
theorem dX9_done_57 : decode cX9_done 57 = .ok (.istore 4, 2) := by decide +kernel
theorem dX9_done_59 : decode cX9_done 59 = .ok (.aload_n 0, 1) := by decide +kernel
theorem dX9_done_60 : decode cX9_done 60 = .ok (.getfield 311, 3) := by decide +kernel
theorem dX9_done_63 : decode cX9_done 63 = .ok (.istore 5, 2) := by decide +kernel
theorem dX9_done_65 : decode cX9_done 65 = .ok (.iconst 0, 1) := by decide +kernel
theorem dX9_done_66 : decode cX9_done 66 = .ok (.istore 6, 2) := by decide +kernel
theorem dX9_done_68 : decode cX9_done 68 = .ok (.iload 6, 2) := by decide +kernel
theorem dX9_done_70 : decode cX9_done 70 = .ok (.iconst 4, 1) := by decide +kernel
theorem dX9_done_71 : decode cX9_done 71 = .ok (.if_icmp .ge 28, 3) := by decide +kernel
theorem dX9_done_74 : decode cX9_done 74 = .ok (.aload_n 0, 1) := by decide +kernel
theorem dX9_done_75 : decode cX9_done 75 = .ok (.getfield 122, 3) := by decide +kernel
theorem dX9_done_78 : decode cX9_done 78 = .ok (.iload 6, 2) := by decide +kernel
theorem dX9_done_80 : decode cX9_done 80 = .ok (.aload_n 0, 1) := by decide +kernel
theorem dX9_done_81 : decode cX9_done 81 = .ok (.getfield 113, 3) := by decide +kernel
theorem dX9_done_84 : decode cX9_done 84 = .ok (.iconst 4, 1) := by decide +kernel
theorem dX9_done_85 : decode cX9_done 85 = .ok (.iload 4, 2) := by decide +kernel
theorem dX9_done_87 : decode cX9_done 87 = .ok (.imul, 1) := by decide +kernel
theorem dX9_done_88 : decode cX9_done 88 = .ok (.iload 6, 2) := by decide +kernel
theorem dX9_done_90 : decode cX9_done 90 = .ok (.iadd, 1) := by decide +kernel
theorem dX9_done_91 : decode cX9_done 91 = .ok (.iaload, 1) := by decide +kernel
theorem dX9_done_92 : decode cX9_done 92 = .ok (.iastore, 1) := by decide +kernel
theorem dX9_done_93 : decode cX9_done 93 = .ok (.iinc 6 1, 3) := by decide +kernel
theorem dX9_done_96 : decode cX9_done 96 = .ok (.goto (-28), 3) := by decide +kernel
theorem dX9_done_99 : decode cX9_done 99 = .ok (.iconst 0, 1) := by decide +kernel
theorem dX9_done_100 : decode cX9_done 100 = .ok (.istore 6, 2) := by decide +kernel
theorem dX9_done_102 : decode cX9_done 102 = .ok (.iload 6, 2) := by decide +kernel
theorem dX9_done_104 : decode cX9_done 104 = .ok (.bipush 40, 2) := by decide +kernel
theorem dX9_done_106 : decode cX9_done 106 = .ok (.if_icmp .ge 29, 3) := by decide +kernel
theorem dX9_done_109 : decode cX9_done 109 = .ok (.aload_n 0, 1) := by decide +kernel
theorem dX9_done_110 : decode cX9_done 110 = .ok (.getfield 125, 3) := by decide +kernel
theorem dX9_done_113 : decode cX9_done 113 = .ok (.iload 6, 2) := by decide +kernel
theorem dX9_done_115 : decode cX9_done 115 = .ok (.aload_n 0, 1) := by decide +kernel
theorem dX9_done_116 : decode cX9_done 116 = .ok (.getfield 116, 3) := by decide +kernel
theorem dX9_done_119 : decode cX9_done 119 = .ok (.bipush 40, 2) := by decide +kernel
theorem dX9_done_121 : decode cX9_done 121 = .ok (.iload 4, 2) := by decide +kernel
theorem dX9_done_123 : decode cX9_done 123 = .ok (.imul, 1) := by decide +kernel
theorem dX9_done_124 : decode cX9_done 124 = .ok (.iload 6, 2) := by decide +kernel
theorem dX9_done_126 : decode cX9_done 126 = .ok (.iadd, 1) := by decide +kernel
theorem dX9_done_127 : decode cX9_done 127 = .ok (.iaload, 1) := by decide +kernel
theorem dX9_done_128 : decode cX9_done 128 = .ok (.iastore, 1) := by decide +kernel
theorem dX9_done_129 : decode cX9_done 129 = .ok (.iinc 6 1, 3) := by decide +kernel
theorem dX9_done_132 : decode cX9_done 132 = .ok (.goto (-30), 3) := by decide +kernel
theorem dX9_done_135 : decode cX9_done 135 = .ok (.iload_n 2, 1) := by decide +kernel
theorem dX9_done_136 : decode cX9_done 136 = .ok (.iconst (-1), 1) := by decide +kernel
theorem dX9_done_137 : decode cX9_done 137 = .ok (.if_icmp .eq 15, 3) := by decide +kernel
theorem dX9_done_140 : decode cX9_done 140 = .ok (.aload_n 0, 1) := by decide +kernel
theorem dX9_done_141 : decode cX9_done 141 = .ok (.getfield 113, 3) := by decide +kernel
theorem dX9_done_144 : decode cX9_done 144 = .ok (.iconst 4, 1) := by decide +kernel
theorem dX9_done_145 : decode cX9_done 145 = .ok (.iload 4, 2) := by decide +kernel
theorem dX9_done_147 : decode cX9_done 147 = .ok (.imul, 1) := by decide +kernel
theorem dX9_done_148 : decode cX9_done 148 = .ok (.iload_n 2, 1) := by decide +kernel
theorem dX9_done_149 : decode cX9_done 149 = .ok (.iadd, 1) := by decide +kernel
theorem dX9_done_150 : decode cX9_done 150 = .ok (.iload_n 3, 1) := by decide +kernel
theorem dX9_done_151 : decode cX9_done 151 = .ok (.iastore, 1) := by decide +kernel
theorem dX9_done_152 : decode cX9_done 152 = .ok (.aload_n 0, 1) := by decide +kernel
theorem dX9_done_153 : decode cX9_done 153 = .ok (.getfield 143, 3) := by decide +kernel
theorem dX9_done_156 : decode cX9_done 156 = .ok (.iload_n 1, 1) := by decide +kernel
theorem dX9_done_157 : decode cX9_done 157 = .ok (.iconst 2, 1) := by decide +kernel
theorem dX9_done_158 : decode cX9_done 158 = .ok (.iastore, 1) := by decide +kernel
theorem dX9_done_159 : decode cX9_done 159 = .ok (.aload_n 0, 1) := by decide +kernel
theorem dX9_done_160 : decode cX9_done 160 = .ok (.getfield 149, 3) := by decide +kernel
theorem dX9_done_163 : decode cX9_done 163 = .ok (.iload_n 1, 1) := by decide +kernel
theorem dX9_done_164 : decode cX9_done 164 = .ok (.aload_n 0, 1) := by decide +kernel
theorem dX9_done_165 : decode cX9_done 165 = .ok (.getfield 321, 3) := by decide +kernel
theorem dX9_done_168 : decode cX9_done 168 = .ok (.iastore, 1) := by decide +kernel
theorem dX9_done_169 : decode cX9_done 169 = .ok (.aload_n 0, 1) := by decide +kernel
theorem dX9_done_170 : decode cX9_done 170 = .ok (.iload 4, 2) := by decide +kernel
theorem dX9_done_172 : decode cX9_done 172 = .ok (.aload_n 0, 1) := by decide +kernel
theorem dX9_done_173 : decode cX9_done 173 = .ok (.getfield 134, 3) := by decide +kernel
theorem dX9_done_176 : decode cX9_done 176 = .ok (.iload_n 1, 1) := by decide +kernel
theorem dX9_done_177 : decode cX9_done 177 = .ok (.iaload, 1) := by decide +kernel
theorem dX9_done_178 : decode cX9_done 178 = .ok (.invokevirtual 342, 3) := by decide +kernel
theorem dX9_done_181 : decode cX9_done 181 = .ok (.ifCond .eq 31, 3) := by decide +kernel
theorem dX9_done_184 : decode cX9_done 184 = .ok (.aload_n 0, 1) := by decide +kernel
theorem dX9_done_185 : decode cX9_done 185 = .ok (.getfield 167, 3) := by decide +kernel
theorem dX9_done_188 : decode cX9_done 188 = .ok (.iload_n 1, 1) := by decide +kernel
theorem dX9_done_189 : decode cX9_done 189 = .ok (.aload_n 0, 1) := by decide +kernel
theorem dX9_done_190 : decode cX9_done 190 = .ok (.getfield 365, 3) := by decide +kernel
theorem dX9_done_193 : decode cX9_done 193 = .ok (.iastore, 1) := by decide +kernel
theorem dX9_done_194 : decode cX9_done 194 = .ok (.aload_n 0, 1) := by decide +kernel
theorem dX9_done_195 : decode cX9_done 195 = .ok (.dup, 1) := by decide +kernel
theorem dX9_done_196 : decode cX9_done 196 = .ok (.getfield 365, 3) := by decide +kernel
theorem dX9_done_199 : decode cX9_done 199 = .ok (.iconst 1, 1) := by decide +kernel
theorem dX9_done_200 : decode cX9_done 200 = .ok (.iadd, 1) := by decide +kernel
theorem dX9_done_201 : decode cX9_done 201 = .ok (.putfield 365, 3) := by decide +kernel
theorem dX9_done_204 : decode cX9_done 204 = .ok (.aload_n 0, 1) := by decide +kernel
theorem dX9_done_205 : decode cX9_done 205 = .ok (.getfield 311, 3) := by decide +kernel
theorem dX9_done_208 : decode cX9_done 208 = .ok (.iload 5, 2) := by decide +kernel
theorem dX9_done_210 : decode cX9_done 210 = .ok (.isub, 1) := by decide +kernel
theorem dX9_done_211 : decode cX9_done 211 = .ok (.ireturn, 1) := by decide +kernel
theorem dX9_done_212 : decode cX9_done 212 = .ok (.aload_n 0, 1) := by decide +kernel
theorem dX9_done_213 : decode cX9_done 213 = .ok (.iload 5, 2) := by decide +kernel
theorem dX9_done_215 : decode cX9_done 215 = .ok (.putfield 311, 3) := by decide +kernel
theorem dX9_done_218 : decode cX9_done 218 = .ok (.aload_n 0, 1) := by decide +kernel
theorem dX9_done_219 : decode cX9_done 219 = .ok (.getfield 143, 3) := by decide +kernel
theorem dX9_done_222 : decode cX9_done 222 = .ok (.iload_n 1, 1) := by decide +kernel
theorem dX9_done_223 : decode cX9_done 223 = .ok (.iconst 1, 1) := by decide +kernel
theorem dX9_done_224 : decode cX9_done 224 = .ok (.iastore, 1) := by decide +kernel
theorem dX9_done_225 : decode cX9_done 225 = .ok (.aload_n 0, 1) := by decide +kernel
theorem dX9_done_226 : decode cX9_done 226 = .ok (.getfield 149, 3) := by decide +kernel
theorem dX9_done_229 : decode cX9_done 229 = .ok (.iload_n 1, 1) := by decide +kernel
theorem dX9_done_230 : decode cX9_done 230 = .ok (.iconst (-1), 1) := by decide +kernel
theorem dX9_done_231 : decode cX9_done 231 = .ok (.iastore, 1) := by decide +kernel
theorem dX9_done_232 : decode cX9_done 232 = .ok (.aload_n 0, 1) := by decide +kernel
theorem dX9_done_233 : decode cX9_done 233 = .ok (.getfield 119, 3) := by decide +kernel
theorem dX9_done_236 : decode cX9_done 236 = .ok (.iload 4, 2) := by decide +kernel
theorem dX9_done_238 : decode cX9_done 238 = .ok (.iconst 0, 1) := by decide +kernel
theorem dX9_done_239 : decode cX9_done 239 = .ok (.bastore, 1) := by decide +kernel
theorem dX9_done_240 : decode cX9_done 240 = .ok (.iconst 0, 1) := by decide +kernel
theorem dX9_done_241 : decode cX9_done 241 = .ok (.istore 6, 2) := by decide +kernel
theorem dX9_done_243 : decode cX9_done 243 = .ok (.iload 6, 2) := by decide +kernel
theorem dX9_done_245 : decode cX9_done 245 = .ok (.iconst 4, 1) := by decide +kernel
theorem dX9_done_246 : decode cX9_done 246 = .ok (.if_icmp .ge 28, 3) := by decide +kernel
theorem dX9_done_249 : decode cX9_done 249 = .ok (.aload_n 0, 1) := by decide +kernel
theorem dX9_done_250 : decode cX9_done 250 = .ok (.getfield 113, 3) := by decide +kernel
theorem dX9_done_253 : decode cX9_done 253 = .ok (.iconst 4, 1) := by decide +kernel
theorem dX9_done_254 : decode cX9_done 254 = .ok (.iload 4, 2) := by decide +kernel
theorem dX9_done_256 : decode cX9_done 256 = .ok (.imul, 1) := by decide +kernel
theorem dX9_done_257 : decode cX9_done 257 = .ok (.iload 6, 2) := by decide +kernel
theorem dX9_done_259 : decode cX9_done 259 = .ok (.iadd, 1) := by decide +kernel
theorem dX9_done_260 : decode cX9_done 260 = .ok (.aload_n 0, 1) := by decide +kernel
theorem dX9_done_261 : decode cX9_done 261 = .ok (.getfield 122, 3) := by decide +kernel
theorem dX9_done_264 : decode cX9_done 264 = .ok (.iload 6, 2) := by decide +kernel
theorem dX9_done_266 : decode cX9_done 266 = .ok (.iaload, 1) := by decide +kernel
theorem dX9_done_267 : decode cX9_done 267 = .ok (.iastore, 1) := by decide +kernel
theorem dX9_done_268 : decode cX9_done 268 = .ok (.iinc 6 1, 3) := by decide +kernel
theorem dX9_done_271 : decode cX9_done 271 = .ok (.goto (-28), 3) := by decide +kernel
theorem dX9_done_274 : decode cX9_done 274 = .ok (.iconst 0, 1) := by decide +kernel
theorem dX9_done_275 : decode cX9_done 275 = .ok (.istore 6, 2) := by decide +kernel
theorem dX9_done_277 : decode cX9_done 277 = .ok (.iload 6, 2) := by decide +kernel
theorem dX9_done_279 : decode cX9_done 279 = .ok (.bipush 40, 2) := by decide +kernel
theorem dX9_done_281 : decode cX9_done 281 = .ok (.if_icmp .ge 29, 3) := by decide +kernel
theorem dX9_done_284 : decode cX9_done 284 = .ok (.aload_n 0, 1) := by decide +kernel
theorem dX9_done_285 : decode cX9_done 285 = .ok (.getfield 116, 3) := by decide +kernel
theorem dX9_done_288 : decode cX9_done 288 = .ok (.bipush 40, 2) := by decide +kernel
theorem dX9_done_290 : decode cX9_done 290 = .ok (.iload 4, 2) := by decide +kernel
theorem dX9_done_292 : decode cX9_done 292 = .ok (.imul, 1) := by decide +kernel
theorem dX9_done_293 : decode cX9_done 293 = .ok (.iload 6, 2) := by decide +kernel
theorem dX9_done_295 : decode cX9_done 295 = .ok (.iadd, 1) := by decide +kernel
theorem dX9_done_296 : decode cX9_done 296 = .ok (.aload_n 0, 1) := by decide +kernel
theorem dX9_done_297 : decode cX9_done 297 = .ok (.getfield 125, 3) := by decide +kernel
theorem dX9_done_300 : decode cX9_done 300 = .ok (.iload 6, 2) := by decide +kernel
theorem dX9_done_302 : decode cX9_done 302 = .ok (.iaload, 1) := by decide +kernel
theorem dX9_done_303 : decode cX9_done 303 = .ok (.iastore, 1) := by decide +kernel
theorem dX9_done_304 : decode cX9_done 304 = .ok (.iinc 6 1, 3) := by decide +kernel
theorem dX9_done_307 : decode cX9_done 307 = .ok (.goto (-30), 3) := by decide +kernel
theorem dX9_done_310 : decode cX9_done 310 = .ok (.iconst (-1), 1) := by decide +kernel
theorem dX9_done_311 : decode cX9_done 311 = .ok (.ireturn, 1) := by decide +kernel
theorem dX9_about_0 : decode cX9_about 0 = .ok (.iload_n 1, 1) := by decide +kernel
theorem dX9_about_1 : decode cX9_about 1 = .ok (.tableswitch 89 0 6 #[43, 48, 64, 69, 74, 79, 84], 43) := by decide +kernel
theorem dX9_about_44 : decode cX9_about 44 = .ok (.aload_n 0, 1) := by decide +kernel
theorem dX9_about_45 : decode cX9_about 45 = .ok (.getfield 46, 3) := by decide +kernel
theorem dX9_about_48 : decode cX9_about 48 = .ok (.ireturn, 1) := by decide +kernel
theorem dX9_about_49 : decode cX9_about 49 = .ok (.aload_n 0, 1) := by decide +kernel
theorem dX9_about_50 : decode cX9_about 50 = .ok (.getfield 46, 3) := by decide +kernel
theorem dX9_about_53 : decode cX9_about 53 = .ok (.ifCond .ge 7, 3) := by decide +kernel
theorem dX9_about_56 : decode cX9_about 56 = .ok (.iconst (-1), 1) := by decide +kernel
theorem dX9_about_57 : decode cX9_about 57 = .ok (.goto 7, 3) := by decide +kernel
theorem dX9_about_60 : decode cX9_about 60 = .ok (.aload_n 0, 1) := by decide +kernel
theorem dX9_about_61 : decode cX9_about 61 = .ok (.getfield 302, 3) := by decide +kernel
theorem dX9_about_64 : decode cX9_about 64 = .ok (.ireturn, 1) := by decide +kernel
theorem dX9_about_65 : decode cX9_about 65 = .ok (.aload_n 0, 1) := by decide +kernel
theorem dX9_about_66 : decode cX9_about 66 = .ok (.getfield 308, 3) := by decide +kernel
theorem dX9_about_69 : decode cX9_about 69 = .ok (.ireturn, 1) := by decide +kernel
theorem dX9_about_70 : decode cX9_about 70 = .ok (.aload_n 0, 1) := by decide +kernel
theorem dX9_about_71 : decode cX9_about 71 = .ok (.getfield 321, 3) := by decide +kernel
theorem dX9_about_74 : decode cX9_about 74 = .ok (.ireturn, 1) := by decide +kernel
theorem dX9_about_75 : decode cX9_about 75 = .ok (.aload_n 0, 1) := by decide +kernel
theorem dX9_about_76 : decode cX9_about 76 = .ok (.getfield 339, 3) := by decide +kernel
theorem dX9_about_79 : decode cX9_about 79 = .ok (.ireturn, 1) := by decide +kernel
theorem dX9_about_80 : decode cX9_about 80 = .ok (.aload_n 0, 1) := by decide +kernel
theorem dX9_about_81 : decode cX9_about 81 = .ok (.getfield 311, 3) := by decide +kernel
theorem dX9_about_84 : decode cX9_about 84 = .ok (.ireturn, 1) := by decide +kernel
theorem dX9_about_85 : decode cX9_about 85 = .ok (.aload_n 0, 1) := by decide +kernel
theorem dX9_about_86 : decode cX9_about 86 = .ok (.getfield 170, 3) := by decide +kernel
theorem dX9_about_89 : decode cX9_about 89 = .ok (.ireturn, 1) := by decide +kernel
theorem dX9_about_90 : decode cX9_about 90 = .ok (.iconst (-1), 1) := by decide +kernel
theorem dX9_about_91 : decode cX9_about 91 = .ok (.ireturn, 1) := by decide +kernel
