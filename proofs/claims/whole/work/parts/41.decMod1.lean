theorem dq_Mod_init_0 : decode kb_Mod_init 0 = .ok (.aload_n 0, 1) := by decide +kernel
theorem dq_Mod_init_1 : decode kb_Mod_init 1 = .ok (.invokespecial 1, 3) := by decide +kernel
theorem dq_Mod_init_4 : decode kb_Mod_init 4 = .ok (.aload_n 0, 1) := by decide +kernel
theorem dq_Mod_init_5 : decode kb_Mod_init 5 = .ok (.sipush 800, 3) := by decide +kernel
theorem dq_Mod_init_8 : decode kb_Mod_init 8 = .ok (.newarray .int, 2) := by decide +kernel
theorem dq_Mod_init_10 : decode kb_Mod_init 10 = .ok (.putfield 9, 3) := by decide +kernel
theorem dq_Mod_init_13 : decode kb_Mod_init 13 = .ok (.aload_n 0, 1) := by decide +kernel
theorem dq_Mod_init_14 : decode kb_Mod_init 14 = .ok (.sipush 1200, 3) := by decide +kernel
theorem dq_Mod_init_17 : decode kb_Mod_init 17 = .ok (.newarray .int, 2) := by decide +kernel
theorem dq_Mod_init_19 : decode kb_Mod_init 19 = .ok (.putfield 13, 3) := by decide +kernel
theorem dq_Mod_init_22 : decode kb_Mod_init 22 = .ok (.aload_n 0, 1) := by decide +kernel
theorem dq_Mod_init_23 : decode kb_Mod_init 23 = .ok (.sipush 1100, 3) := by decide +kernel
theorem dq_Mod_init_26 : decode kb_Mod_init 26 = .ok (.newarray .int, 2) := by decide +kernel
theorem dq_Mod_init_28 : decode kb_Mod_init 28 = .ok (.putfield 16, 3) := by decide +kernel
theorem dq_Mod_init_31 : decode kb_Mod_init 31 = .ok (.aload_n 0, 1) := by decide +kernel
theorem dq_Mod_init_32 : decode kb_Mod_init 32 = .ok (.sipush 800, 3) := by decide +kernel
theorem dq_Mod_init_35 : decode kb_Mod_init 35 = .ok (.newarray .int, 2) := by decide +kernel
theorem dq_Mod_init_37 : decode kb_Mod_init 37 = .ok (.putfield 19, 3) := by decide +kernel
theorem dq_Mod_init_40 : decode kb_Mod_init 40 = .ok (.aload_n 0, 1) := by decide +kernel
theorem dq_Mod_init_41 : decode kb_Mod_init 41 = .ok (.sipush 1200, 3) := by decide +kernel
theorem dq_Mod_init_44 : decode kb_Mod_init 44 = .ok (.newarray .int, 2) := by decide +kernel
theorem dq_Mod_init_46 : decode kb_Mod_init 46 = .ok (.putfield 22, 3) := by decide +kernel
theorem dq_Mod_init_49 : decode kb_Mod_init 49 = .ok (.aload_n 0, 1) := by decide +kernel
theorem dq_Mod_init_50 : decode kb_Mod_init 50 = .ok (.sipush 1200, 3) := by decide +kernel
theorem dq_Mod_init_53 : decode kb_Mod_init 53 = .ok (.newarray .int, 2) := by decide +kernel
theorem dq_Mod_init_55 : decode kb_Mod_init 55 = .ok (.putfield 25, 3) := by decide +kernel
theorem dq_Mod_init_58 : decode kb_Mod_init 58 = .ok (.return_, 1) := by decide +kernel
theorem dq_Mod_thrown_0 : decode kb_Mod_thrown 0 = .ok (.aload_n 0, 1) := by decide +kernel
theorem dq_Mod_thrown_1 : decode kb_Mod_thrown 1 = .ok (.getfield 28, 3) := by decide +kernel
theorem dq_Mod_thrown_4 : decode kb_Mod_thrown 4 = .ok (.ireturn, 1) := by decide +kernel
theorem dq_Mod_in_0 : decode kb_Mod_in 0 = .ok (.lload_n 0, 1) := by decide +kernel
theorem dq_Mod_in_1 : decode kb_Mod_in 1 = .ok (.lload_n 2, 1) := by decide +kernel
theorem dq_Mod_in_2 : decode kb_Mod_in 2 = .ok (.lcmp, 1) := by decide +kernel
theorem dq_Mod_in_3 : decode kb_Mod_in 3 = .ok (.ifCond .lt 14, 3) := by decide +kernel
theorem dq_Mod_in_6 : decode kb_Mod_in 6 = .ok (.lload_n 0, 1) := by decide +kernel
theorem dq_Mod_in_7 : decode kb_Mod_in 7 = .ok (.lload 4, 2) := by decide +kernel
theorem dq_Mod_in_9 : decode kb_Mod_in 9 = .ok (.lcmp, 1) := by decide +kernel
theorem dq_Mod_in_10 : decode kb_Mod_in 10 = .ok (.ifCond .gt 7, 3) := by decide +kernel
theorem dq_Mod_in_13 : decode kb_Mod_in 13 = .ok (.iconst 1, 1) := by decide +kernel
theorem dq_Mod_in_14 : decode kb_Mod_in 14 = .ok (.goto 4, 3) := by decide +kernel
theorem dq_Mod_in_17 : decode kb_Mod_in 17 = .ok (.iconst 0, 1) := by decide +kernel
theorem dq_Mod_in_18 : decode kb_Mod_in 18 = .ok (.ireturn, 1) := by decide +kernel
theorem dq_Mod_fails_0 : decode kb_Mod_fails 0 = .ok (.iload_n 1, 1) := by decide +kernel
theorem dq_Mod_fails_1 : decode kb_Mod_fails 1 = .ok (.ifCond .eq 15, 3) := by decide +kernel
theorem dq_Mod_fails_4 : decode kb_Mod_fails 4 = .ok (.aload_n 0, 1) := by decide +kernel
theorem dq_Mod_fails_5 : decode kb_Mod_fails 5 = .ok (.getfield 28, 3) := by decide +kernel
theorem dq_Mod_fails_8 : decode kb_Mod_fails 8 = .ok (.ifCond .ne 8, 3) := by decide +kernel
theorem dq_Mod_fails_11 : decode kb_Mod_fails 11 = .ok (.aload_n 0, 1) := by decide +kernel
theorem dq_Mod_fails_12 : decode kb_Mod_fails 12 = .ok (.iload_n 2, 1) := by decide +kernel
theorem dq_Mod_fails_13 : decode kb_Mod_fails 13 = .ok (.putfield 28, 3) := by decide +kernel
theorem dq_Mod_fails_16 : decode kb_Mod_fails 16 = .ok (.aload_n 0, 1) := by decide +kernel
theorem dq_Mod_fails_17 : decode kb_Mod_fails 17 = .ok (.getfield 28, 3) := by decide +kernel
theorem dq_Mod_fails_20 : decode kb_Mod_fails 20 = .ok (.ifCond .eq 7, 3) := by decide +kernel
theorem dq_Mod_fails_23 : decode kb_Mod_fails 23 = .ok (.iconst 1, 1) := by decide +kernel
theorem dq_Mod_fails_24 : decode kb_Mod_fails 24 = .ok (.goto 4, 3) := by decide +kernel
theorem dq_Mod_fails_27 : decode kb_Mod_fails 27 = .ok (.iconst 0, 1) := by decide +kernel
theorem dq_Mod_fails_28 : decode kb_Mod_fails 28 = .ok (.ireturn, 1) := by decide +kernel
theorem dq_Mod_set_0 : decode kb_Mod_set 0 = .ok (.aload_n 0, 1) := by decide +kernel
theorem dq_Mod_set_1 : decode kb_Mod_set 1 = .ok (.iconst 0, 1) := by decide +kernel
theorem dq_Mod_set_2 : decode kb_Mod_set 2 = .ok (.putfield 28, 3) := by decide +kernel
theorem dq_Mod_set_5 : decode kb_Mod_set 5 = .ok (.lload_n 1, 1) := by decide +kernel
theorem dq_Mod_set_6 : decode kb_Mod_set 6 = .ok (.bipush 52, 2) := by decide +kernel
theorem dq_Mod_set_8 : decode kb_Mod_set 8 = .ok (.lushr, 1) := by decide +kernel
theorem dq_Mod_set_9 : decode kb_Mod_set 9 = .ok (.l2i, 1) := by decide +kernel
theorem dq_Mod_set_10 : decode kb_Mod_set 10 = .ok (.sipush 2047, 3) := by decide +kernel
theorem dq_Mod_set_13 : decode kb_Mod_set 13 = .ok (.iand, 1) := by decide +kernel
theorem dq_Mod_set_14 : decode kb_Mod_set 14 = .ok (.istore_n 3, 1) := by decide +kernel
theorem dq_Mod_set_15 : decode kb_Mod_set 15 = .ok (.aload_n 0, 1) := by decide +kernel
theorem dq_Mod_set_16 : decode kb_Mod_set 16 = .ok (.iload_n 3, 1) := by decide +kernel
theorem dq_Mod_set_17 : decode kb_Mod_set 17 = .ok (.sipush 2047, 3) := by decide +kernel
theorem dq_Mod_set_20 : decode kb_Mod_set 20 = .ok (.if_icmp .ne 7, 3) := by decide +kernel
theorem dq_Mod_set_23 : decode kb_Mod_set 23 = .ok (.iconst 1, 1) := by decide +kernel
theorem dq_Mod_set_24 : decode kb_Mod_set 24 = .ok (.goto 4, 3) := by decide +kernel
theorem dq_Mod_set_27 : decode kb_Mod_set 27 = .ok (.iconst 0, 1) := by decide +kernel
theorem dq_Mod_set_28 : decode kb_Mod_set 28 = .ok (.iconst 1, 1) := by decide +kernel
theorem dq_Mod_set_29 : decode kb_Mod_set 29 = .ok (.invokevirtual 32, 3) := by decide +kernel
theorem dq_Mod_set_32 : decode kb_Mod_set 32 = .ok (.ifCond .eq 5, 3) := by decide +kernel
theorem dq_Mod_set_35 : decode kb_Mod_set 35 = .ok (.iconst 0, 1) := by decide +kernel
theorem dq_Mod_set_36 : decode kb_Mod_set 36 = .ok (.ireturn, 1) := by decide +kernel
theorem dq_Mod_set_37 : decode kb_Mod_set 37 = .ok (.lload_n 1, 1) := by decide +kernel
theorem dq_Mod_set_38 : decode kb_Mod_set 38 = .ok (.ldc2_w 36, 3) := by decide +kernel
theorem dq_Mod_set_41 : decode kb_Mod_set 41 = .ok (.land, 1) := by decide +kernel
theorem dq_Mod_set_42 : decode kb_Mod_set 42 = .ok (.iload_n 3, 1) := by decide +kernel
theorem dq_Mod_set_43 : decode kb_Mod_set 43 = .ok (.ifCond .le 9, 3) := by decide +kernel
theorem dq_Mod_set_46 : decode kb_Mod_set 46 = .ok (.ldc2_w 38, 3) := by decide +kernel
theorem dq_Mod_set_49 : decode kb_Mod_set 49 = .ok (.goto 4, 3) := by decide +kernel
theorem dq_Mod_set_52 : decode kb_Mod_set 52 = .ok (.lconst 0, 1) := by decide +kernel
theorem dq_Mod_set_53 : decode kb_Mod_set 53 = .ok (.lor, 1) := by decide +kernel
theorem dq_Mod_set_54 : decode kb_Mod_set 54 = .ok (.lstore 4, 2) := by decide +kernel
theorem dq_Mod_set_56 : decode kb_Mod_set 56 = .ok (.iload_n 3, 1) := by decide +kernel
theorem dq_Mod_set_57 : decode kb_Mod_set 57 = .ok (.ifCond .le 7, 3) := by decide +kernel
theorem dq_Mod_set_60 : decode kb_Mod_set 60 = .ok (.iload_n 3, 1) := by decide +kernel
theorem dq_Mod_set_61 : decode kb_Mod_set 61 = .ok (.goto 4, 3) := by decide +kernel
theorem dq_Mod_set_64 : decode kb_Mod_set 64 = .ok (.iconst 1, 1) := by decide +kernel
theorem dq_Mod_set_65 : decode kb_Mod_set 65 = .ok (.sipush 1075, 3) := by decide +kernel
theorem dq_Mod_set_68 : decode kb_Mod_set 68 = .ok (.isub, 1) := by decide +kernel
theorem dq_Mod_set_69 : decode kb_Mod_set 69 = .ok (.istore 6, 2) := by decide +kernel
theorem dq_Mod_set_71 : decode kb_Mod_set 71 = .ok (.aload_n 0, 1) := by decide +kernel
theorem dq_Mod_set_72 : decode kb_Mod_set 72 = .ok (.iconst 0, 1) := by decide +kernel
theorem dq_Mod_set_73 : decode kb_Mod_set 73 = .ok (.putfield 40, 3) := by decide +kernel
theorem dq_Mod_set_76 : decode kb_Mod_set 76 = .ok (.aload_n 0, 1) := by decide +kernel
theorem dq_Mod_set_77 : decode kb_Mod_set 77 = .ok (.iconst 0, 1) := by decide +kernel
theorem dq_Mod_set_78 : decode kb_Mod_set 78 = .ok (.putfield 43, 3) := by decide +kernel
theorem dq_Mod_set_81 : decode kb_Mod_set 81 = .ok (.lload 4, 2) := by decide +kernel
theorem dq_Mod_set_83 : decode kb_Mod_set 83 = .ok (.lstore 7, 2) := by decide +kernel
theorem dq_Mod_set_85 : decode kb_Mod_set 85 = .ok (.lload 7, 2) := by decide +kernel
theorem dq_Mod_set_87 : decode kb_Mod_set 87 = .ok (.lconst 0, 1) := by decide +kernel
theorem dq_Mod_set_88 : decode kb_Mod_set 88 = .ok (.lcmp, 1) := by decide +kernel
theorem dq_Mod_set_89 : decode kb_Mod_set 89 = .ok (.ifCond .le 24, 3) := by decide +kernel
theorem dq_Mod_set_92 : decode kb_Mod_set 92 = .ok (.aload_n 0, 1) := by decide +kernel
theorem dq_Mod_set_93 : decode kb_Mod_set 93 = .ok (.dup, 1) := by decide +kernel
theorem dq_Mod_set_94 : decode kb_Mod_set 94 = .ok (.getfield 40, 3) := by decide +kernel
theorem dq_Mod_set_97 : decode kb_Mod_set 97 = .ok (.iconst 1, 1) := by decide +kernel
theorem dq_Mod_set_98 : decode kb_Mod_set 98 = .ok (.iadd, 1) := by decide +kernel
theorem dq_Mod_set_99 : decode kb_Mod_set 99 = .ok (.putfield 40, 3) := by decide +kernel
theorem dq_Mod_set_102 : decode kb_Mod_set 102 = .ok (.lload 7, 2) := by decide +kernel
theorem dq_Mod_set_104 : decode kb_Mod_set 104 = .ok (.ldc2_w 46, 3) := by decide +kernel
theorem dq_Mod_set_107 : decode kb_Mod_set 107 = .ok (.ldiv, 1) := by decide +kernel
theorem dq_Mod_set_108 : decode kb_Mod_set 108 = .ok (.lstore 7, 2) := by decide +kernel
theorem dq_Mod_set_110 : decode kb_Mod_set 110 = .ok (.goto (-25), 3) := by decide +kernel
theorem dq_Mod_set_113 : decode kb_Mod_set 113 = .ok (.lload 4, 2) := by decide +kernel
theorem dq_Mod_set_115 : decode kb_Mod_set 115 = .ok (.lstore 7, 2) := by decide +kernel
theorem dq_Mod_set_117 : decode kb_Mod_set 117 = .ok (.aload_n 0, 1) := by decide +kernel
theorem dq_Mod_set_118 : decode kb_Mod_set 118 = .ok (.getfield 40, 3) := by decide +kernel
theorem dq_Mod_set_121 : decode kb_Mod_set 121 = .ok (.iconst 1, 1) := by decide +kernel
theorem dq_Mod_set_122 : decode kb_Mod_set 122 = .ok (.isub, 1) := by decide +kernel
theorem dq_Mod_set_123 : decode kb_Mod_set 123 = .ok (.istore 9, 2) := by decide +kernel
theorem dq_Mod_set_125 : decode kb_Mod_set 125 = .ok (.iload 9, 2) := by decide +kernel
theorem dq_Mod_set_127 : decode kb_Mod_set 127 = .ok (.ifCond .lt 31, 3) := by decide +kernel
theorem dq_Mod_set_130 : decode kb_Mod_set 130 = .ok (.aload_n 0, 1) := by decide +kernel
theorem dq_Mod_set_131 : decode kb_Mod_set 131 = .ok (.getfield 13, 3) := by decide +kernel
theorem dq_Mod_set_134 : decode kb_Mod_set 134 = .ok (.iload 9, 2) := by decide +kernel
theorem dq_Mod_set_136 : decode kb_Mod_set 136 = .ok (.lload 7, 2) := by decide +kernel
theorem dq_Mod_set_138 : decode kb_Mod_set 138 = .ok (.ldc2_w 46, 3) := by decide +kernel
theorem dq_Mod_set_141 : decode kb_Mod_set 141 = .ok (.lrem, 1) := by decide +kernel
theorem dq_Mod_set_142 : decode kb_Mod_set 142 = .ok (.l2i, 1) := by decide +kernel
theorem dq_Mod_set_143 : decode kb_Mod_set 143 = .ok (.iastore, 1) := by decide +kernel
theorem dq_Mod_set_144 : decode kb_Mod_set 144 = .ok (.lload 7, 2) := by decide +kernel
theorem dq_Mod_set_146 : decode kb_Mod_set 146 = .ok (.ldc2_w 46, 3) := by decide +kernel
theorem dq_Mod_set_149 : decode kb_Mod_set 149 = .ok (.ldiv, 1) := by decide +kernel
theorem dq_Mod_set_150 : decode kb_Mod_set 150 = .ok (.lstore 7, 2) := by decide +kernel
theorem dq_Mod_set_152 : decode kb_Mod_set 152 = .ok (.iinc 9 (-1), 3) := by decide +kernel
theorem dq_Mod_set_155 : decode kb_Mod_set 155 = .ok (.goto (-30), 3) := by decide +kernel
theorem dq_Mod_set_158 : decode kb_Mod_set 158 = .ok (.iload 6, 2) := by decide +kernel
theorem dq_Mod_set_160 : decode kb_Mod_set 160 = .ok (.ifCond .le 20, 3) := by decide +kernel
theorem dq_Mod_set_163 : decode kb_Mod_set 163 = .ok (.aload_n 0, 1) := by decide +kernel
theorem dq_Mod_set_164 : decode kb_Mod_set 164 = .ok (.getfield 40, 3) := by decide +kernel
theorem dq_Mod_set_167 : decode kb_Mod_set 167 = .ok (.ifCond .le 13, 3) := by decide +kernel
theorem dq_Mod_set_170 : decode kb_Mod_set 170 = .ok (.aload_n 0, 1) := by decide +kernel
theorem dq_Mod_set_171 : decode kb_Mod_set 171 = .ok (.invokevirtual 48, 3) := by decide +kernel
theorem dq_Mod_set_174 : decode kb_Mod_set 174 = .ok (.iinc 6 (-1), 3) := by decide +kernel
theorem dq_Mod_set_177 : decode kb_Mod_set 177 = .ok (.goto (-19), 3) := by decide +kernel
theorem dq_Mod_set_180 : decode kb_Mod_set 180 = .ok (.iload 6, 2) := by decide +kernel
theorem dq_Mod_set_182 : decode kb_Mod_set 182 = .ok (.ifCond .ge 20, 3) := by decide +kernel
theorem dq_Mod_set_185 : decode kb_Mod_set 185 = .ok (.aload_n 0, 1) := by decide +kernel
theorem dq_Mod_set_186 : decode kb_Mod_set 186 = .ok (.getfield 40, 3) := by decide +kernel
theorem dq_Mod_set_189 : decode kb_Mod_set 189 = .ok (.ifCond .le 13, 3) := by decide +kernel
theorem dq_Mod_set_192 : decode kb_Mod_set 192 = .ok (.aload_n 0, 1) := by decide +kernel
theorem dq_Mod_set_193 : decode kb_Mod_set 193 = .ok (.invokevirtual 51, 3) := by decide +kernel
theorem dq_Mod_set_196 : decode kb_Mod_set 196 = .ok (.iinc 6 1, 3) := by decide +kernel
theorem dq_Mod_set_199 : decode kb_Mod_set 199 = .ok (.goto (-19), 3) := by decide +kernel
theorem dq_Mod_set_202 : decode kb_Mod_set 202 = .ok (.aload_n 0, 1) := by decide +kernel
theorem dq_Mod_set_203 : decode kb_Mod_set 203 = .ok (.lload_n 1, 1) := by decide +kernel
theorem dq_Mod_set_204 : decode kb_Mod_set 204 = .ok (.lconst 0, 1) := by decide +kernel
theorem dq_Mod_set_205 : decode kb_Mod_set 205 = .ok (.lcmp, 1) := by decide +kernel
theorem dq_Mod_set_206 : decode kb_Mod_set 206 = .ok (.ifCond .ge 7, 3) := by decide +kernel
theorem dq_Mod_set_209 : decode kb_Mod_set 209 = .ok (.iconst 1, 1) := by decide +kernel
theorem dq_Mod_set_210 : decode kb_Mod_set 210 = .ok (.goto 4, 3) := by decide +kernel
theorem dq_Mod_set_213 : decode kb_Mod_set 213 = .ok (.iconst 0, 1) := by decide +kernel
theorem dq_Mod_set_214 : decode kb_Mod_set 214 = .ok (.putfield 54, 3) := by decide +kernel
theorem dq_Mod_set_217 : decode kb_Mod_set 217 = .ok (.aload_n 0, 1) := by decide +kernel
theorem dq_Mod_set_218 : decode kb_Mod_set 218 = .ok (.invokevirtual 58, 3) := by decide +kernel
theorem dq_Mod_set_221 : decode kb_Mod_set 221 = .ok (.aload_n 0, 1) := by decide +kernel
theorem dq_Mod_set_222 : decode kb_Mod_set 222 = .ok (.getfield 61, 3) := by decide +kernel
theorem dq_Mod_set_225 : decode kb_Mod_set 225 = .ok (.ireturn, 1) := by decide +kernel
theorem dq_Mod_twice_0 : decode kb_Mod_twice 0 = .ok (.iconst 0, 1) := by decide +kernel
theorem dq_Mod_twice_1 : decode kb_Mod_twice 1 = .ok (.istore_n 1, 1) := by decide +kernel
theorem dq_Mod_twice_2 : decode kb_Mod_twice 2 = .ok (.aload_n 0, 1) := by decide +kernel
theorem dq_Mod_twice_3 : decode kb_Mod_twice 3 = .ok (.getfield 40, 3) := by decide +kernel
theorem dq_Mod_twice_6 : decode kb_Mod_twice 6 = .ok (.iconst 1, 1) := by decide +kernel
theorem dq_Mod_twice_7 : decode kb_Mod_twice 7 = .ok (.isub, 1) := by decide +kernel
theorem dq_Mod_twice_8 : decode kb_Mod_twice 8 = .ok (.istore_n 2, 1) := by decide +kernel
theorem dq_Mod_twice_9 : decode kb_Mod_twice 9 = .ok (.iload_n 2, 1) := by decide +kernel
theorem dq_Mod_twice_10 : decode kb_Mod_twice 10 = .ok (.ifCond .lt 35, 3) := by decide +kernel
theorem dq_Mod_twice_13 : decode kb_Mod_twice 13 = .ok (.iconst 2, 1) := by decide +kernel
theorem dq_Mod_twice_14 : decode kb_Mod_twice 14 = .ok (.aload_n 0, 1) := by decide +kernel
theorem dq_Mod_twice_15 : decode kb_Mod_twice 15 = .ok (.getfield 13, 3) := by decide +kernel
theorem dq_Mod_twice_18 : decode kb_Mod_twice 18 = .ok (.iload_n 2, 1) := by decide +kernel
theorem dq_Mod_twice_19 : decode kb_Mod_twice 19 = .ok (.iaload, 1) := by decide +kernel
theorem dq_Mod_twice_20 : decode kb_Mod_twice 20 = .ok (.imul, 1) := by decide +kernel
theorem dq_Mod_twice_21 : decode kb_Mod_twice 21 = .ok (.iload_n 1, 1) := by decide +kernel
theorem dq_Mod_twice_22 : decode kb_Mod_twice 22 = .ok (.iadd, 1) := by decide +kernel
theorem dq_Mod_twice_23 : decode kb_Mod_twice 23 = .ok (.istore_n 3, 1) := by decide +kernel
theorem dq_Mod_twice_24 : decode kb_Mod_twice 24 = .ok (.aload_n 0, 1) := by decide +kernel
theorem dq_Mod_twice_25 : decode kb_Mod_twice 25 = .ok (.getfield 13, 3) := by decide +kernel
theorem dq_Mod_twice_28 : decode kb_Mod_twice 28 = .ok (.iload_n 2, 1) := by decide +kernel
theorem dq_Mod_twice_29 : decode kb_Mod_twice 29 = .ok (.iload_n 3, 1) := by decide +kernel
theorem dq_Mod_twice_30 : decode kb_Mod_twice 30 = .ok (.bipush 10, 2) := by decide +kernel
theorem dq_Mod_twice_32 : decode kb_Mod_twice 32 = .ok (.irem, 1) := by decide +kernel
theorem dq_Mod_twice_33 : decode kb_Mod_twice 33 = .ok (.iastore, 1) := by decide +kernel
theorem dq_Mod_twice_34 : decode kb_Mod_twice 34 = .ok (.iload_n 3, 1) := by decide +kernel
theorem dq_Mod_twice_35 : decode kb_Mod_twice 35 = .ok (.bipush 10, 2) := by decide +kernel
theorem dq_Mod_twice_37 : decode kb_Mod_twice 37 = .ok (.idiv, 1) := by decide +kernel
theorem dq_Mod_twice_38 : decode kb_Mod_twice 38 = .ok (.istore_n 1, 1) := by decide +kernel
theorem dq_Mod_twice_39 : decode kb_Mod_twice 39 = .ok (.iinc 2 (-1), 3) := by decide +kernel
theorem dq_Mod_twice_42 : decode kb_Mod_twice 42 = .ok (.goto (-33), 3) := by decide +kernel
theorem dq_Mod_twice_45 : decode kb_Mod_twice 45 = .ok (.iload_n 1, 1) := by decide +kernel
theorem dq_Mod_twice_46 : decode kb_Mod_twice 46 = .ok (.ifCond .le 49, 3) := by decide +kernel
theorem dq_Mod_twice_49 : decode kb_Mod_twice 49 = .ok (.aload_n 0, 1) := by decide +kernel
theorem dq_Mod_twice_50 : decode kb_Mod_twice 50 = .ok (.getfield 40, 3) := by decide +kernel
theorem dq_Mod_twice_53 : decode kb_Mod_twice 53 = .ok (.istore_n 2, 1) := by decide +kernel
theorem dq_Mod_twice_54 : decode kb_Mod_twice 54 = .ok (.iload_n 2, 1) := by decide +kernel
theorem dq_Mod_twice_55 : decode kb_Mod_twice 55 = .ok (.ifCond .le 23, 3) := by decide +kernel
theorem dq_Mod_twice_58 : decode kb_Mod_twice 58 = .ok (.aload_n 0, 1) := by decide +kernel
theorem dq_Mod_twice_59 : decode kb_Mod_twice 59 = .ok (.getfield 13, 3) := by decide +kernel
theorem dq_Mod_twice_62 : decode kb_Mod_twice 62 = .ok (.iload_n 2, 1) := by decide +kernel
theorem dq_Mod_twice_63 : decode kb_Mod_twice 63 = .ok (.aload_n 0, 1) := by decide +kernel
theorem dq_Mod_twice_64 : decode kb_Mod_twice 64 = .ok (.getfield 13, 3) := by decide +kernel
theorem dq_Mod_twice_67 : decode kb_Mod_twice 67 = .ok (.iload_n 2, 1) := by decide +kernel
theorem dq_Mod_twice_68 : decode kb_Mod_twice 68 = .ok (.iconst 1, 1) := by decide +kernel
theorem dq_Mod_twice_69 : decode kb_Mod_twice 69 = .ok (.isub, 1) := by decide +kernel
theorem dq_Mod_twice_70 : decode kb_Mod_twice 70 = .ok (.iaload, 1) := by decide +kernel
theorem dq_Mod_twice_71 : decode kb_Mod_twice 71 = .ok (.iastore, 1) := by decide +kernel
theorem dq_Mod_twice_72 : decode kb_Mod_twice 72 = .ok (.iinc 2 (-1), 3) := by decide +kernel
theorem dq_Mod_twice_75 : decode kb_Mod_twice 75 = .ok (.goto (-21), 3) := by decide +kernel
theorem dq_Mod_twice_78 : decode kb_Mod_twice 78 = .ok (.aload_n 0, 1) := by decide +kernel
theorem dq_Mod_twice_79 : decode kb_Mod_twice 79 = .ok (.getfield 13, 3) := by decide +kernel
theorem dq_Mod_twice_82 : decode kb_Mod_twice 82 = .ok (.iconst 0, 1) := by decide +kernel
theorem dq_Mod_twice_83 : decode kb_Mod_twice 83 = .ok (.iload_n 1, 1) := by decide +kernel
theorem dq_Mod_twice_84 : decode kb_Mod_twice 84 = .ok (.iastore, 1) := by decide +kernel
theorem dq_Mod_twice_85 : decode kb_Mod_twice 85 = .ok (.aload_n 0, 1) := by decide +kernel
theorem dq_Mod_twice_86 : decode kb_Mod_twice 86 = .ok (.dup, 1) := by decide +kernel
theorem dq_Mod_twice_87 : decode kb_Mod_twice 87 = .ok (.getfield 40, 3) := by decide +kernel
theorem dq_Mod_twice_90 : decode kb_Mod_twice 90 = .ok (.iconst 1, 1) := by decide +kernel
theorem dq_Mod_twice_91 : decode kb_Mod_twice 91 = .ok (.iadd, 1) := by decide +kernel
theorem dq_Mod_twice_92 : decode kb_Mod_twice 92 = .ok (.putfield 40, 3) := by decide +kernel
theorem dq_Mod_twice_95 : decode kb_Mod_twice 95 = .ok (.return_, 1) := by decide +kernel
theorem dq_Mod_half_0 : decode kb_Mod_half 0 = .ok (.iconst 0, 1) := by decide +kernel
theorem dq_Mod_half_1 : decode kb_Mod_half 1 = .ok (.istore_n 1, 1) := by decide +kernel
theorem dq_Mod_half_2 : decode kb_Mod_half 2 = .ok (.iconst 0, 1) := by decide +kernel
theorem dq_Mod_half_3 : decode kb_Mod_half 3 = .ok (.istore_n 2, 1) := by decide +kernel
theorem dq_Mod_half_4 : decode kb_Mod_half 4 = .ok (.iload_n 2, 1) := by decide +kernel
theorem dq_Mod_half_5 : decode kb_Mod_half 5 = .ok (.aload_n 0, 1) := by decide +kernel
theorem dq_Mod_half_6 : decode kb_Mod_half 6 = .ok (.getfield 40, 3) := by decide +kernel
theorem dq_Mod_half_9 : decode kb_Mod_half 9 = .ok (.if_icmp .ge 34, 3) := by decide +kernel
theorem dq_Mod_half_12 : decode kb_Mod_half 12 = .ok (.bipush 10, 2) := by decide +kernel
theorem dq_Mod_half_14 : decode kb_Mod_half 14 = .ok (.iload_n 1, 1) := by decide +kernel
theorem dq_Mod_half_15 : decode kb_Mod_half 15 = .ok (.imul, 1) := by decide +kernel
theorem dq_Mod_half_16 : decode kb_Mod_half 16 = .ok (.aload_n 0, 1) := by decide +kernel
theorem dq_Mod_half_17 : decode kb_Mod_half 17 = .ok (.getfield 13, 3) := by decide +kernel
theorem dq_Mod_half_20 : decode kb_Mod_half 20 = .ok (.iload_n 2, 1) := by decide +kernel
theorem dq_Mod_half_21 : decode kb_Mod_half 21 = .ok (.iaload, 1) := by decide +kernel
theorem dq_Mod_half_22 : decode kb_Mod_half 22 = .ok (.iadd, 1) := by decide +kernel
theorem dq_Mod_half_23 : decode kb_Mod_half 23 = .ok (.istore_n 3, 1) := by decide +kernel
theorem dq_Mod_half_24 : decode kb_Mod_half 24 = .ok (.aload_n 0, 1) := by decide +kernel
theorem dq_Mod_half_25 : decode kb_Mod_half 25 = .ok (.getfield 13, 3) := by decide +kernel
theorem dq_Mod_half_28 : decode kb_Mod_half 28 = .ok (.iload_n 2, 1) := by decide +kernel
theorem dq_Mod_half_29 : decode kb_Mod_half 29 = .ok (.iload_n 3, 1) := by decide +kernel
theorem dq_Mod_half_30 : decode kb_Mod_half 30 = .ok (.iconst 2, 1) := by decide +kernel
theorem dq_Mod_half_31 : decode kb_Mod_half 31 = .ok (.idiv, 1) := by decide +kernel
theorem dq_Mod_half_32 : decode kb_Mod_half 32 = .ok (.iastore, 1) := by decide +kernel
theorem dq_Mod_half_33 : decode kb_Mod_half 33 = .ok (.iload_n 3, 1) := by decide +kernel
theorem dq_Mod_half_34 : decode kb_Mod_half 34 = .ok (.iconst 2, 1) := by decide +kernel
theorem dq_Mod_half_35 : decode kb_Mod_half 35 = .ok (.irem, 1) := by decide +kernel
theorem dq_Mod_half_36 : decode kb_Mod_half 36 = .ok (.istore_n 1, 1) := by decide +kernel
theorem dq_Mod_half_37 : decode kb_Mod_half 37 = .ok (.iinc 2 1, 3) := by decide +kernel
theorem dq_Mod_half_40 : decode kb_Mod_half 40 = .ok (.goto (-36), 3) := by decide +kernel
theorem dq_Mod_half_43 : decode kb_Mod_half 43 = .ok (.iload_n 1, 1) := by decide +kernel
theorem dq_Mod_half_44 : decode kb_Mod_half 44 = .ok (.ifCond .le 30, 3) := by decide +kernel
theorem dq_Mod_half_47 : decode kb_Mod_half 47 = .ok (.aload_n 0, 1) := by decide +kernel
theorem dq_Mod_half_48 : decode kb_Mod_half 48 = .ok (.getfield 13, 3) := by decide +kernel
theorem dq_Mod_half_51 : decode kb_Mod_half 51 = .ok (.aload_n 0, 1) := by decide +kernel
theorem dq_Mod_half_52 : decode kb_Mod_half 52 = .ok (.dup, 1) := by decide +kernel
theorem dq_Mod_half_53 : decode kb_Mod_half 53 = .ok (.getfield 40, 3) := by decide +kernel
theorem dq_Mod_half_56 : decode kb_Mod_half 56 = .ok (.dup_x1, 1) := by decide +kernel
theorem dq_Mod_half_57 : decode kb_Mod_half 57 = .ok (.iconst 1, 1) := by decide +kernel
theorem dq_Mod_half_58 : decode kb_Mod_half 58 = .ok (.iadd, 1) := by decide +kernel
theorem dq_Mod_half_59 : decode kb_Mod_half 59 = .ok (.putfield 40, 3) := by decide +kernel
theorem dq_Mod_half_62 : decode kb_Mod_half 62 = .ok (.iconst 5, 1) := by decide +kernel
theorem dq_Mod_half_63 : decode kb_Mod_half 63 = .ok (.iastore, 1) := by decide +kernel
theorem dq_Mod_half_64 : decode kb_Mod_half 64 = .ok (.aload_n 0, 1) := by decide +kernel
theorem dq_Mod_half_65 : decode kb_Mod_half 65 = .ok (.dup, 1) := by decide +kernel
theorem dq_Mod_half_66 : decode kb_Mod_half 66 = .ok (.getfield 43, 3) := by decide +kernel
theorem dq_Mod_half_69 : decode kb_Mod_half 69 = .ok (.iconst 1, 1) := by decide +kernel
theorem dq_Mod_half_70 : decode kb_Mod_half 70 = .ok (.iadd, 1) := by decide +kernel
theorem dq_Mod_half_71 : decode kb_Mod_half 71 = .ok (.putfield 43, 3) := by decide +kernel
theorem dq_Mod_half_74 : decode kb_Mod_half 74 = .ok (.aload_n 0, 1) := by decide +kernel
theorem dq_Mod_half_75 : decode kb_Mod_half 75 = .ok (.getfield 13, 3) := by decide +kernel
theorem dq_Mod_half_78 : decode kb_Mod_half 78 = .ok (.iconst 0, 1) := by decide +kernel
theorem dq_Mod_half_79 : decode kb_Mod_half 79 = .ok (.iaload, 1) := by decide +kernel
theorem dq_Mod_half_80 : decode kb_Mod_half 80 = .ok (.ifCond .ne 43, 3) := by decide +kernel
theorem dq_Mod_half_83 : decode kb_Mod_half 83 = .ok (.iconst 1, 1) := by decide +kernel
theorem dq_Mod_half_84 : decode kb_Mod_half 84 = .ok (.istore_n 2, 1) := by decide +kernel
theorem dq_Mod_half_85 : decode kb_Mod_half 85 = .ok (.iload_n 2, 1) := by decide +kernel
theorem dq_Mod_half_86 : decode kb_Mod_half 86 = .ok (.aload_n 0, 1) := by decide +kernel
theorem dq_Mod_half_87 : decode kb_Mod_half 87 = .ok (.getfield 40, 3) := by decide +kernel
theorem dq_Mod_half_90 : decode kb_Mod_half 90 = .ok (.if_icmp .ge 23, 3) := by decide +kernel
theorem dq_Mod_half_93 : decode kb_Mod_half 93 = .ok (.aload_n 0, 1) := by decide +kernel
theorem dq_Mod_half_94 : decode kb_Mod_half 94 = .ok (.getfield 13, 3) := by decide +kernel
theorem dq_Mod_half_97 : decode kb_Mod_half 97 = .ok (.iload_n 2, 1) := by decide +kernel
theorem dq_Mod_half_98 : decode kb_Mod_half 98 = .ok (.iconst 1, 1) := by decide +kernel
theorem dq_Mod_half_99 : decode kb_Mod_half 99 = .ok (.isub, 1) := by decide +kernel
theorem dq_Mod_half_100 : decode kb_Mod_half 100 = .ok (.aload_n 0, 1) := by decide +kernel
theorem dq_Mod_half_101 : decode kb_Mod_half 101 = .ok (.getfield 13, 3) := by decide +kernel
theorem dq_Mod_half_104 : decode kb_Mod_half 104 = .ok (.iload_n 2, 1) := by decide +kernel
theorem dq_Mod_half_105 : decode kb_Mod_half 105 = .ok (.iaload, 1) := by decide +kernel
theorem dq_Mod_half_106 : decode kb_Mod_half 106 = .ok (.iastore, 1) := by decide +kernel
theorem dq_Mod_half_107 : decode kb_Mod_half 107 = .ok (.iinc 2 1, 3) := by decide +kernel
theorem dq_Mod_half_110 : decode kb_Mod_half 110 = .ok (.goto (-25), 3) := by decide +kernel
theorem dq_Mod_half_113 : decode kb_Mod_half 113 = .ok (.aload_n 0, 1) := by decide +kernel
theorem dq_Mod_half_114 : decode kb_Mod_half 114 = .ok (.dup, 1) := by decide +kernel
theorem dq_Mod_half_115 : decode kb_Mod_half 115 = .ok (.getfield 40, 3) := by decide +kernel
theorem dq_Mod_half_118 : decode kb_Mod_half 118 = .ok (.iconst 1, 1) := by decide +kernel
theorem dq_Mod_half_119 : decode kb_Mod_half 119 = .ok (.isub, 1) := by decide +kernel
theorem dq_Mod_half_120 : decode kb_Mod_half 120 = .ok (.putfield 40, 3) := by decide +kernel
theorem dq_Mod_half_123 : decode kb_Mod_half 123 = .ok (.return_, 1) := by decide +kernel
theorem dq_Mod_keep_0 : decode kb_Mod_keep 0 = .ok (.aload_n 0, 1) := by decide +kernel
theorem dq_Mod_keep_1 : decode kb_Mod_keep 1 = .ok (.aload_n 0, 1) := by decide +kernel
theorem dq_Mod_keep_2 : decode kb_Mod_keep 2 = .ok (.getfield 40, 3) := by decide +kernel
theorem dq_Mod_keep_5 : decode kb_Mod_keep 5 = .ok (.aload_n 0, 1) := by decide +kernel
theorem dq_Mod_keep_6 : decode kb_Mod_keep 6 = .ok (.getfield 43, 3) := by decide +kernel
theorem dq_Mod_keep_9 : decode kb_Mod_keep 9 = .ok (.isub, 1) := by decide +kernel
theorem dq_Mod_keep_10 : decode kb_Mod_keep 10 = .ok (.putfield 64, 3) := by decide +kernel
theorem dq_Mod_keep_13 : decode kb_Mod_keep 13 = .ok (.iconst 0, 1) := by decide +kernel
theorem dq_Mod_keep_14 : decode kb_Mod_keep 14 = .ok (.istore_n 1, 1) := by decide +kernel
theorem dq_Mod_keep_15 : decode kb_Mod_keep 15 = .ok (.iload_n 1, 1) := by decide +kernel
theorem dq_Mod_keep_16 : decode kb_Mod_keep 16 = .ok (.aload_n 0, 1) := by decide +kernel
theorem dq_Mod_keep_17 : decode kb_Mod_keep 17 = .ok (.getfield 40, 3) := by decide +kernel
theorem dq_Mod_keep_20 : decode kb_Mod_keep 20 = .ok (.if_icmp .ge 18, 3) := by decide +kernel
theorem dq_Mod_keep_23 : decode kb_Mod_keep 23 = .ok (.aload_n 0, 1) := by decide +kernel
theorem dq_Mod_keep_24 : decode kb_Mod_keep 24 = .ok (.getfield 13, 3) := by decide +kernel
theorem dq_Mod_keep_27 : decode kb_Mod_keep 27 = .ok (.iload_n 1, 1) := by decide +kernel
theorem dq_Mod_keep_28 : decode kb_Mod_keep 28 = .ok (.iaload, 1) := by decide +kernel
theorem dq_Mod_keep_29 : decode kb_Mod_keep 29 = .ok (.ifCond .ne 9, 3) := by decide +kernel
theorem dq_Mod_keep_32 : decode kb_Mod_keep 32 = .ok (.iinc 1 1, 3) := by decide +kernel
theorem dq_Mod_keep_35 : decode kb_Mod_keep 35 = .ok (.goto (-20), 3) := by decide +kernel
theorem dq_Mod_keep_38 : decode kb_Mod_keep 38 = .ok (.aload_n 0, 1) := by decide +kernel
theorem dq_Mod_keep_39 : decode kb_Mod_keep 39 = .ok (.getfield 40, 3) := by decide +kernel
theorem dq_Mod_keep_42 : decode kb_Mod_keep 42 = .ok (.istore_n 2, 1) := by decide +kernel
theorem dq_Mod_keep_43 : decode kb_Mod_keep 43 = .ok (.iload_n 2, 1) := by decide +kernel
theorem dq_Mod_keep_44 : decode kb_Mod_keep 44 = .ok (.iload_n 1, 1) := by decide +kernel
theorem dq_Mod_keep_45 : decode kb_Mod_keep 45 = .ok (.if_icmp .le 20, 3) := by decide +kernel
theorem dq_Mod_keep_48 : decode kb_Mod_keep 48 = .ok (.aload_n 0, 1) := by decide +kernel
theorem dq_Mod_keep_49 : decode kb_Mod_keep 49 = .ok (.getfield 13, 3) := by decide +kernel
theorem dq_Mod_keep_52 : decode kb_Mod_keep 52 = .ok (.iload_n 2, 1) := by decide +kernel
theorem dq_Mod_keep_53 : decode kb_Mod_keep 53 = .ok (.iconst 1, 1) := by decide +kernel
theorem dq_Mod_keep_54 : decode kb_Mod_keep 54 = .ok (.isub, 1) := by decide +kernel
theorem dq_Mod_keep_55 : decode kb_Mod_keep 55 = .ok (.iaload, 1) := by decide +kernel
theorem dq_Mod_keep_56 : decode kb_Mod_keep 56 = .ok (.ifCond .ne 9, 3) := by decide +kernel
theorem dq_Mod_keep_59 : decode kb_Mod_keep 59 = .ok (.iinc 2 (-1), 3) := by decide +kernel
theorem dq_Mod_keep_62 : decode kb_Mod_keep 62 = .ok (.goto (-19), 3) := by decide +kernel
theorem dq_Mod_keep_65 : decode kb_Mod_keep 65 = .ok (.aload_n 0, 1) := by decide +kernel
theorem dq_Mod_keep_66 : decode kb_Mod_keep 66 = .ok (.iload_n 2, 1) := by decide +kernel
theorem dq_Mod_keep_67 : decode kb_Mod_keep 67 = .ok (.iload_n 1, 1) := by decide +kernel
theorem dq_Mod_keep_68 : decode kb_Mod_keep 68 = .ok (.isub, 1) := by decide +kernel
theorem dq_Mod_keep_69 : decode kb_Mod_keep 69 = .ok (.putfield 61, 3) := by decide +kernel
theorem dq_Mod_keep_72 : decode kb_Mod_keep 72 = .ok (.iconst 0, 1) := by decide +kernel
theorem dq_Mod_keep_73 : decode kb_Mod_keep 73 = .ok (.istore_n 3, 1) := by decide +kernel
theorem dq_Mod_keep_74 : decode kb_Mod_keep 74 = .ok (.iload_n 3, 1) := by decide +kernel
theorem dq_Mod_keep_75 : decode kb_Mod_keep 75 = .ok (.aload_n 0, 1) := by decide +kernel
theorem dq_Mod_keep_76 : decode kb_Mod_keep 76 = .ok (.getfield 61, 3) := by decide +kernel
theorem dq_Mod_keep_79 : decode kb_Mod_keep 79 = .ok (.if_icmp .ge 23, 3) := by decide +kernel
theorem dq_Mod_keep_82 : decode kb_Mod_keep 82 = .ok (.aload_n 0, 1) := by decide +kernel
theorem dq_Mod_keep_83 : decode kb_Mod_keep 83 = .ok (.getfield 9, 3) := by decide +kernel
theorem dq_Mod_keep_86 : decode kb_Mod_keep 86 = .ok (.iload_n 3, 1) := by decide +kernel
theorem dq_Mod_keep_87 : decode kb_Mod_keep 87 = .ok (.aload_n 0, 1) := by decide +kernel
theorem dq_Mod_keep_88 : decode kb_Mod_keep 88 = .ok (.getfield 13, 3) := by decide +kernel
theorem dq_Mod_keep_91 : decode kb_Mod_keep 91 = .ok (.iload_n 1, 1) := by decide +kernel
theorem dq_Mod_keep_92 : decode kb_Mod_keep 92 = .ok (.iload_n 3, 1) := by decide +kernel
theorem dq_Mod_keep_93 : decode kb_Mod_keep 93 = .ok (.iadd, 1) := by decide +kernel
theorem dq_Mod_keep_94 : decode kb_Mod_keep 94 = .ok (.iaload, 1) := by decide +kernel
theorem dq_Mod_keep_95 : decode kb_Mod_keep 95 = .ok (.iastore, 1) := by decide +kernel
theorem dq_Mod_keep_96 : decode kb_Mod_keep 96 = .ok (.iinc 3 1, 3) := by decide +kernel
theorem dq_Mod_keep_99 : decode kb_Mod_keep 99 = .ok (.goto (-25), 3) := by decide +kernel
theorem dq_Mod_keep_102 : decode kb_Mod_keep 102 = .ok (.aload_n 0, 1) := by decide +kernel
theorem dq_Mod_keep_103 : decode kb_Mod_keep 103 = .ok (.aload_n 0, 1) := by decide +kernel
theorem dq_Mod_keep_104 : decode kb_Mod_keep 104 = .ok (.getfield 61, 3) := by decide +kernel
theorem dq_Mod_keep_107 : decode kb_Mod_keep 107 = .ok (.ifCond .le 12, 3) := by decide +kernel
theorem dq_Mod_keep_110 : decode kb_Mod_keep 110 = .ok (.aload_n 0, 1) := by decide +kernel
theorem dq_Mod_keep_111 : decode kb_Mod_keep 111 = .ok (.getfield 64, 3) := by decide +kernel
theorem dq_Mod_keep_114 : decode kb_Mod_keep 114 = .ok (.iload_n 1, 1) := by decide +kernel
theorem dq_Mod_keep_115 : decode kb_Mod_keep 115 = .ok (.isub, 1) := by decide +kernel
theorem dq_Mod_keep_116 : decode kb_Mod_keep 116 = .ok (.goto 4, 3) := by decide +kernel
theorem dq_Mod_keep_119 : decode kb_Mod_keep 119 = .ok (.iconst 0, 1) := by decide +kernel
theorem dq_Mod_keep_120 : decode kb_Mod_keep 120 = .ok (.putfield 64, 3) := by decide +kernel
theorem dq_Mod_keep_123 : decode kb_Mod_keep 123 = .ok (.aload_n 0, 1) := by decide +kernel
theorem dq_Mod_keep_124 : decode kb_Mod_keep 124 = .ok (.iconst 0, 1) := by decide +kernel
theorem dq_Mod_keep_125 : decode kb_Mod_keep 125 = .ok (.putfield 67, 3) := by decide +kernel
theorem dq_Mod_keep_128 : decode kb_Mod_keep 128 = .ok (.aload_n 0, 1) := by decide +kernel
theorem dq_Mod_keep_129 : decode kb_Mod_keep 129 = .ok (.iconst 0, 1) := by decide +kernel
theorem dq_Mod_keep_130 : decode kb_Mod_keep 130 = .ok (.putfield 70, 3) := by decide +kernel
theorem dq_Mod_keep_133 : decode kb_Mod_keep 133 = .ok (.return_, 1) := by decide +kernel
theorem dq_Mod_digit_0 : decode kb_Mod_digit 0 = .ok (.aload_n 0, 1) := by decide +kernel
theorem dq_Mod_digit_1 : decode kb_Mod_digit 1 = .ok (.iconst 0, 1) := by decide +kernel
theorem dq_Mod_digit_2 : decode kb_Mod_digit 2 = .ok (.putfield 28, 3) := by decide +kernel
theorem dq_Mod_digit_5 : decode kb_Mod_digit 5 = .ok (.aload_n 0, 1) := by decide +kernel
theorem dq_Mod_digit_6 : decode kb_Mod_digit 6 = .ok (.iload_n 1, 1) := by decide +kernel
theorem dq_Mod_digit_7 : decode kb_Mod_digit 7 = .ok (.i2l, 1) := by decide +kernel
theorem dq_Mod_digit_8 : decode kb_Mod_digit 8 = .ok (.lconst 0, 1) := by decide +kernel
theorem dq_Mod_digit_9 : decode kb_Mod_digit 9 = .ok (.ldc2_w 73, 3) := by decide +kernel
theorem dq_Mod_digit_12 : decode kb_Mod_digit 12 = .ok (.invokestatic 75, 3) := by decide +kernel
theorem dq_Mod_digit_15 : decode kb_Mod_digit 15 = .ok (.ifCond .ne 7, 3) := by decide +kernel
theorem dq_Mod_digit_18 : decode kb_Mod_digit 18 = .ok (.iconst 1, 1) := by decide +kernel
theorem dq_Mod_digit_19 : decode kb_Mod_digit 19 = .ok (.goto 4, 3) := by decide +kernel
theorem dq_Mod_digit_22 : decode kb_Mod_digit 22 = .ok (.iconst 0, 1) := by decide +kernel
theorem dq_Mod_digit_23 : decode kb_Mod_digit 23 = .ok (.iconst 1, 1) := by decide +kernel
theorem dq_Mod_digit_24 : decode kb_Mod_digit 24 = .ok (.invokevirtual 32, 3) := by decide +kernel
theorem dq_Mod_digit_27 : decode kb_Mod_digit 27 = .ok (.ifCond .eq 5, 3) := by decide +kernel
theorem dq_Mod_digit_30 : decode kb_Mod_digit 30 = .ok (.iconst 0, 1) := by decide +kernel
theorem dq_Mod_digit_31 : decode kb_Mod_digit 31 = .ok (.ireturn, 1) := by decide +kernel
theorem dq_Mod_digit_32 : decode kb_Mod_digit 32 = .ok (.aload_n 0, 1) := by decide +kernel
theorem dq_Mod_digit_33 : decode kb_Mod_digit 33 = .ok (.getfield 61, 3) := by decide +kernel
theorem dq_Mod_digit_36 : decode kb_Mod_digit 36 = .ok (.ifCond .ne 75, 3) := by decide +kernel
theorem dq_Mod_digit_39 : decode kb_Mod_digit 39 = .ok (.aload_n 0, 1) := by decide +kernel
theorem dq_Mod_digit_40 : decode kb_Mod_digit 40 = .ok (.iload_n 1, 1) := by decide +kernel
theorem dq_Mod_digit_41 : decode kb_Mod_digit 41 = .ok (.ifCond .ne 17, 3) := by decide +kernel
theorem dq_Mod_digit_44 : decode kb_Mod_digit 44 = .ok (.aload_n 0, 1) := by decide +kernel
theorem dq_Mod_digit_45 : decode kb_Mod_digit 45 = .ok (.getfield 70, 3) := by decide +kernel
theorem dq_Mod_digit_48 : decode kb_Mod_digit 48 = .ok (.sipush (-1000), 3) := by decide +kernel
theorem dq_Mod_digit_51 : decode kb_Mod_digit 51 = .ok (.if_icmp .ge 7, 3) := by decide +kernel
theorem dq_Mod_digit_54 : decode kb_Mod_digit 54 = .ok (.iconst 1, 1) := by decide +kernel
theorem dq_Mod_digit_55 : decode kb_Mod_digit 55 = .ok (.goto 4, 3) := by decide +kernel
theorem dq_Mod_digit_58 : decode kb_Mod_digit 58 = .ok (.iconst 0, 1) := by decide +kernel
theorem dq_Mod_digit_59 : decode kb_Mod_digit 59 = .ok (.iconst 2, 1) := by decide +kernel
theorem dq_Mod_digit_60 : decode kb_Mod_digit 60 = .ok (.invokevirtual 32, 3) := by decide +kernel
theorem dq_Mod_digit_63 : decode kb_Mod_digit 63 = .ok (.ifCond .eq 5, 3) := by decide +kernel
theorem dq_Mod_digit_66 : decode kb_Mod_digit 66 = .ok (.iconst 0, 1) := by decide +kernel
theorem dq_Mod_digit_67 : decode kb_Mod_digit 67 = .ok (.ireturn, 1) := by decide +kernel
theorem dq_Mod_digit_68 : decode kb_Mod_digit 68 = .ok (.iload_n 1, 1) := by decide +kernel
theorem dq_Mod_digit_69 : decode kb_Mod_digit 69 = .ok (.ifCond .ne 15, 3) := by decide +kernel
theorem dq_Mod_digit_72 : decode kb_Mod_digit 72 = .ok (.aload_n 0, 1) := by decide +kernel
theorem dq_Mod_digit_73 : decode kb_Mod_digit 73 = .ok (.dup, 1) := by decide +kernel
theorem dq_Mod_digit_74 : decode kb_Mod_digit 74 = .ok (.getfield 70, 3) := by decide +kernel
theorem dq_Mod_digit_77 : decode kb_Mod_digit 77 = .ok (.iconst 1, 1) := by decide +kernel
theorem dq_Mod_digit_78 : decode kb_Mod_digit 78 = .ok (.isub, 1) := by decide +kernel
theorem dq_Mod_digit_79 : decode kb_Mod_digit 79 = .ok (.putfield 70, 3) := by decide +kernel
theorem dq_Mod_digit_82 : decode kb_Mod_digit 82 = .ok (.iconst 0, 1) := by decide +kernel
theorem dq_Mod_digit_83 : decode kb_Mod_digit 83 = .ok (.ireturn, 1) := by decide +kernel
theorem dq_Mod_digit_84 : decode kb_Mod_digit 84 = .ok (.aload_n 0, 1) := by decide +kernel
theorem dq_Mod_digit_85 : decode kb_Mod_digit 85 = .ok (.getfield 9, 3) := by decide +kernel
theorem dq_Mod_digit_88 : decode kb_Mod_digit 88 = .ok (.iconst 0, 1) := by decide +kernel
theorem dq_Mod_digit_89 : decode kb_Mod_digit 89 = .ok (.iload_n 1, 1) := by decide +kernel
theorem dq_Mod_digit_90 : decode kb_Mod_digit 90 = .ok (.iastore, 1) := by decide +kernel
theorem dq_Mod_digit_91 : decode kb_Mod_digit 91 = .ok (.aload_n 0, 1) := by decide +kernel
theorem dq_Mod_digit_92 : decode kb_Mod_digit 92 = .ok (.iconst 1, 1) := by decide +kernel
theorem dq_Mod_digit_93 : decode kb_Mod_digit 93 = .ok (.putfield 61, 3) := by decide +kernel
theorem dq_Mod_digit_96 : decode kb_Mod_digit 96 = .ok (.aload_n 0, 1) := by decide +kernel
theorem dq_Mod_digit_97 : decode kb_Mod_digit 97 = .ok (.aload_n 0, 1) := by decide +kernel
theorem dq_Mod_digit_98 : decode kb_Mod_digit 98 = .ok (.getfield 70, 3) := by decide +kernel
theorem dq_Mod_digit_101 : decode kb_Mod_digit 101 = .ok (.putfield 64, 3) := by decide +kernel
theorem dq_Mod_digit_104 : decode kb_Mod_digit 104 = .ok (.aload_n 0, 1) := by decide +kernel
theorem dq_Mod_digit_105 : decode kb_Mod_digit 105 = .ok (.iconst 0, 1) := by decide +kernel
theorem dq_Mod_digit_106 : decode kb_Mod_digit 106 = .ok (.putfield 67, 3) := by decide +kernel
theorem dq_Mod_digit_109 : decode kb_Mod_digit 109 = .ok (.iconst 1, 1) := by decide +kernel
theorem dq_Mod_digit_110 : decode kb_Mod_digit 110 = .ok (.ireturn, 1) := by decide +kernel
theorem dq_Mod_digit_111 : decode kb_Mod_digit 111 = .ok (.aload_n 0, 1) := by decide +kernel
theorem dq_Mod_digit_112 : decode kb_Mod_digit 112 = .ok (.aload_n 0, 1) := by decide +kernel
theorem dq_Mod_digit_113 : decode kb_Mod_digit 113 = .ok (.getfield 61, 3) := by decide +kernel
theorem dq_Mod_digit_116 : decode kb_Mod_digit 116 = .ok (.aload_n 0, 1) := by decide +kernel
theorem dq_Mod_digit_117 : decode kb_Mod_digit 117 = .ok (.getfield 67, 3) := by decide +kernel
theorem dq_Mod_digit_120 : decode kb_Mod_digit 120 = .ok (.iadd, 1) := by decide +kernel
theorem dq_Mod_digit_121 : decode kb_Mod_digit 121 = .ok (.sipush 800, 3) := by decide +kernel
theorem dq_Mod_digit_124 : decode kb_Mod_digit 124 = .ok (.if_icmp .lt 7, 3) := by decide +kernel
theorem dq_Mod_digit_127 : decode kb_Mod_digit 127 = .ok (.iconst 1, 1) := by decide +kernel
theorem dq_Mod_digit_128 : decode kb_Mod_digit 128 = .ok (.goto 4, 3) := by decide +kernel
theorem dq_Mod_digit_131 : decode kb_Mod_digit 131 = .ok (.iconst 0, 1) := by decide +kernel
theorem dq_Mod_digit_132 : decode kb_Mod_digit 132 = .ok (.iconst 2, 1) := by decide +kernel
theorem dq_Mod_digit_133 : decode kb_Mod_digit 133 = .ok (.invokevirtual 32, 3) := by decide +kernel
theorem dq_Mod_digit_136 : decode kb_Mod_digit 136 = .ok (.ifCond .eq 5, 3) := by decide +kernel
theorem dq_Mod_digit_139 : decode kb_Mod_digit 139 = .ok (.iconst 0, 1) := by decide +kernel
theorem dq_Mod_digit_140 : decode kb_Mod_digit 140 = .ok (.ireturn, 1) := by decide +kernel
theorem dq_Mod_digit_141 : decode kb_Mod_digit 141 = .ok (.iload_n 1, 1) := by decide +kernel
theorem dq_Mod_digit_142 : decode kb_Mod_digit 142 = .ok (.ifCond .ne 18, 3) := by decide +kernel
theorem dq_Mod_digit_145 : decode kb_Mod_digit 145 = .ok (.aload_n 0, 1) := by decide +kernel
theorem dq_Mod_digit_146 : decode kb_Mod_digit 146 = .ok (.dup, 1) := by decide +kernel
theorem dq_Mod_digit_147 : decode kb_Mod_digit 147 = .ok (.getfield 67, 3) := by decide +kernel
theorem dq_Mod_digit_150 : decode kb_Mod_digit 150 = .ok (.iconst 1, 1) := by decide +kernel
theorem dq_Mod_digit_151 : decode kb_Mod_digit 151 = .ok (.iadd, 1) := by decide +kernel
theorem dq_Mod_digit_152 : decode kb_Mod_digit 152 = .ok (.putfield 67, 3) := by decide +kernel
theorem dq_Mod_digit_155 : decode kb_Mod_digit 155 = .ok (.aload_n 0, 1) := by decide +kernel
theorem dq_Mod_digit_156 : decode kb_Mod_digit 156 = .ok (.getfield 61, 3) := by decide +kernel
theorem dq_Mod_digit_159 : decode kb_Mod_digit 159 = .ok (.ireturn, 1) := by decide +kernel
theorem dq_Mod_digit_160 : decode kb_Mod_digit 160 = .ok (.aload_n 0, 1) := by decide +kernel
theorem dq_Mod_digit_161 : decode kb_Mod_digit 161 = .ok (.getfield 67, 3) := by decide +kernel
theorem dq_Mod_digit_164 : decode kb_Mod_digit 164 = .ok (.ifCond .le 33, 3) := by decide +kernel
theorem dq_Mod_digit_167 : decode kb_Mod_digit 167 = .ok (.aload_n 0, 1) := by decide +kernel
theorem dq_Mod_digit_168 : decode kb_Mod_digit 168 = .ok (.getfield 9, 3) := by decide +kernel
theorem dq_Mod_digit_171 : decode kb_Mod_digit 171 = .ok (.aload_n 0, 1) := by decide +kernel
theorem dq_Mod_digit_172 : decode kb_Mod_digit 172 = .ok (.dup, 1) := by decide +kernel
theorem dq_Mod_digit_173 : decode kb_Mod_digit 173 = .ok (.getfield 61, 3) := by decide +kernel
theorem dq_Mod_digit_176 : decode kb_Mod_digit 176 = .ok (.dup_x1, 1) := by decide +kernel
theorem dq_Mod_digit_177 : decode kb_Mod_digit 177 = .ok (.iconst 1, 1) := by decide +kernel
theorem dq_Mod_digit_178 : decode kb_Mod_digit 178 = .ok (.iadd, 1) := by decide +kernel
theorem dq_Mod_digit_179 : decode kb_Mod_digit 179 = .ok (.putfield 61, 3) := by decide +kernel
theorem dq_Mod_digit_182 : decode kb_Mod_digit 182 = .ok (.iconst 0, 1) := by decide +kernel
theorem dq_Mod_digit_183 : decode kb_Mod_digit 183 = .ok (.iastore, 1) := by decide +kernel
theorem dq_Mod_digit_184 : decode kb_Mod_digit 184 = .ok (.aload_n 0, 1) := by decide +kernel
theorem dq_Mod_digit_185 : decode kb_Mod_digit 185 = .ok (.dup, 1) := by decide +kernel
theorem dq_Mod_digit_186 : decode kb_Mod_digit 186 = .ok (.getfield 67, 3) := by decide +kernel
theorem dq_Mod_digit_189 : decode kb_Mod_digit 189 = .ok (.iconst 1, 1) := by decide +kernel
theorem dq_Mod_digit_190 : decode kb_Mod_digit 190 = .ok (.isub, 1) := by decide +kernel
theorem dq_Mod_digit_191 : decode kb_Mod_digit 191 = .ok (.putfield 67, 3) := by decide +kernel
theorem dq_Mod_digit_194 : decode kb_Mod_digit 194 = .ok (.goto (-34), 3) := by decide +kernel
theorem dq_Mod_digit_197 : decode kb_Mod_digit 197 = .ok (.aload_n 0, 1) := by decide +kernel
theorem dq_Mod_digit_198 : decode kb_Mod_digit 198 = .ok (.getfield 9, 3) := by decide +kernel
theorem dq_Mod_digit_201 : decode kb_Mod_digit 201 = .ok (.aload_n 0, 1) := by decide +kernel
theorem dq_Mod_digit_202 : decode kb_Mod_digit 202 = .ok (.dup, 1) := by decide +kernel
theorem dq_Mod_digit_203 : decode kb_Mod_digit 203 = .ok (.getfield 61, 3) := by decide +kernel
theorem dq_Mod_digit_206 : decode kb_Mod_digit 206 = .ok (.dup_x1, 1) := by decide +kernel
theorem dq_Mod_digit_207 : decode kb_Mod_digit 207 = .ok (.iconst 1, 1) := by decide +kernel
theorem dq_Mod_digit_208 : decode kb_Mod_digit 208 = .ok (.iadd, 1) := by decide +kernel
theorem dq_Mod_digit_209 : decode kb_Mod_digit 209 = .ok (.putfield 61, 3) := by decide +kernel
theorem dq_Mod_digit_212 : decode kb_Mod_digit 212 = .ok (.iload_n 1, 1) := by decide +kernel
theorem dq_Mod_digit_213 : decode kb_Mod_digit 213 = .ok (.iastore, 1) := by decide +kernel
theorem dq_Mod_digit_214 : decode kb_Mod_digit 214 = .ok (.aload_n 0, 1) := by decide +kernel
theorem dq_Mod_digit_215 : decode kb_Mod_digit 215 = .ok (.getfield 61, 3) := by decide +kernel
theorem dq_Mod_digit_218 : decode kb_Mod_digit 218 = .ok (.ireturn, 1) := by decide +kernel
theorem dq_Mod_clear_0 : decode kb_Mod_clear 0 = .ok (.aload_n 0, 1) := by decide +kernel
theorem dq_Mod_clear_1 : decode kb_Mod_clear 1 = .ok (.iconst 0, 1) := by decide +kernel
theorem dq_Mod_clear_2 : decode kb_Mod_clear 2 = .ok (.putfield 28, 3) := by decide +kernel
theorem dq_Mod_clear_5 : decode kb_Mod_clear 5 = .ok (.aload_n 0, 1) := by decide +kernel
theorem dq_Mod_clear_6 : decode kb_Mod_clear 6 = .ok (.iload_n 2, 1) := by decide +kernel
theorem dq_Mod_clear_7 : decode kb_Mod_clear 7 = .ok (.i2l, 1) := by decide +kernel
theorem dq_Mod_clear_8 : decode kb_Mod_clear 8 = .ok (.ldc2_w 79, 3) := by decide +kernel
theorem dq_Mod_clear_11 : decode kb_Mod_clear 11 = .ok (.ldc2_w 81, 3) := by decide +kernel
theorem dq_Mod_clear_14 : decode kb_Mod_clear 14 = .ok (.invokestatic 75, 3) := by decide +kernel
theorem dq_Mod_clear_17 : decode kb_Mod_clear 17 = .ok (.ifCond .ne 7, 3) := by decide +kernel
theorem dq_Mod_clear_20 : decode kb_Mod_clear 20 = .ok (.iconst 1, 1) := by decide +kernel
theorem dq_Mod_clear_21 : decode kb_Mod_clear 21 = .ok (.goto 4, 3) := by decide +kernel
theorem dq_Mod_clear_24 : decode kb_Mod_clear 24 = .ok (.iconst 0, 1) := by decide +kernel
theorem dq_Mod_clear_25 : decode kb_Mod_clear 25 = .ok (.iconst 1, 1) := by decide +kernel
theorem dq_Mod_clear_26 : decode kb_Mod_clear 26 = .ok (.invokevirtual 32, 3) := by decide +kernel
theorem dq_Mod_clear_29 : decode kb_Mod_clear 29 = .ok (.ifCond .eq 4, 3) := by decide +kernel
theorem dq_Mod_clear_32 : decode kb_Mod_clear 32 = .ok (.return_, 1) := by decide +kernel
theorem dq_Mod_clear_33 : decode kb_Mod_clear 33 = .ok (.aload_n 0, 1) := by decide +kernel
theorem dq_Mod_clear_34 : decode kb_Mod_clear 34 = .ok (.iload_n 1, 1) := by decide +kernel
theorem dq_Mod_clear_35 : decode kb_Mod_clear 35 = .ok (.putfield 54, 3) := by decide +kernel
theorem dq_Mod_clear_38 : decode kb_Mod_clear 38 = .ok (.aload_n 0, 1) := by decide +kernel
theorem dq_Mod_clear_39 : decode kb_Mod_clear 39 = .ok (.iconst 0, 1) := by decide +kernel
theorem dq_Mod_clear_40 : decode kb_Mod_clear 40 = .ok (.putfield 61, 3) := by decide +kernel
theorem dq_Mod_clear_43 : decode kb_Mod_clear 43 = .ok (.aload_n 0, 1) := by decide +kernel
theorem dq_Mod_clear_44 : decode kb_Mod_clear 44 = .ok (.iconst 0, 1) := by decide +kernel
theorem dq_Mod_clear_45 : decode kb_Mod_clear 45 = .ok (.putfield 64, 3) := by decide +kernel
theorem dq_Mod_clear_48 : decode kb_Mod_clear 48 = .ok (.aload_n 0, 1) := by decide +kernel
theorem dq_Mod_clear_49 : decode kb_Mod_clear 49 = .ok (.iconst 0, 1) := by decide +kernel
theorem dq_Mod_clear_50 : decode kb_Mod_clear 50 = .ok (.putfield 67, 3) := by decide +kernel
theorem dq_Mod_clear_53 : decode kb_Mod_clear 53 = .ok (.aload_n 0, 1) := by decide +kernel
theorem dq_Mod_clear_54 : decode kb_Mod_clear 54 = .ok (.iload_n 2, 1) := by decide +kernel
theorem dq_Mod_clear_55 : decode kb_Mod_clear 55 = .ok (.putfield 70, 3) := by decide +kernel
theorem dq_Mod_clear_58 : decode kb_Mod_clear 58 = .ok (.return_, 1) := by decide +kernel
theorem dq_Mod_cut_0 : decode kb_Mod_cut 0 = .ok (.aload_n 0, 1) := by decide +kernel
theorem dq_Mod_cut_1 : decode kb_Mod_cut 1 = .ok (.iconst 0, 1) := by decide +kernel
theorem dq_Mod_cut_2 : decode kb_Mod_cut 2 = .ok (.putfield 67, 3) := by decide +kernel
theorem dq_Mod_cut_5 : decode kb_Mod_cut 5 = .ok (.aload_n 0, 1) := by decide +kernel
theorem dq_Mod_cut_6 : decode kb_Mod_cut 6 = .ok (.iconst 0, 1) := by decide +kernel
theorem dq_Mod_cut_7 : decode kb_Mod_cut 7 = .ok (.putfield 70, 3) := by decide +kernel
theorem dq_Mod_cut_10 : decode kb_Mod_cut 10 = .ok (.lload_n 1, 1) := by decide +kernel
theorem dq_Mod_cut_11 : decode kb_Mod_cut 11 = .ok (.aload_n 0, 1) := by decide +kernel
theorem dq_Mod_cut_12 : decode kb_Mod_cut 12 = .ok (.getfield 61, 3) := by decide +kernel
theorem dq_Mod_cut_15 : decode kb_Mod_cut 15 = .ok (.i2l, 1) := by decide +kernel
theorem dq_Mod_cut_16 : decode kb_Mod_cut 16 = .ok (.lcmp, 1) := by decide +kernel
theorem dq_Mod_cut_17 : decode kb_Mod_cut 17 = .ok (.ifCond .lt 4, 3) := by decide +kernel
theorem dq_Mod_cut_20 : decode kb_Mod_cut 20 = .ok (.return_, 1) := by decide +kernel
theorem dq_Mod_cut_21 : decode kb_Mod_cut 21 = .ok (.lload_n 1, 1) := by decide +kernel
theorem dq_Mod_cut_22 : decode kb_Mod_cut 22 = .ok (.lconst 0, 1) := by decide +kernel
theorem dq_Mod_cut_23 : decode kb_Mod_cut 23 = .ok (.lcmp, 1) := by decide +kernel
theorem dq_Mod_cut_24 : decode kb_Mod_cut 24 = .ok (.ifCond .ge 8, 3) := by decide +kernel
theorem dq_Mod_cut_27 : decode kb_Mod_cut 27 = .ok (.aload_n 0, 1) := by decide +kernel
theorem dq_Mod_cut_28 : decode kb_Mod_cut 28 = .ok (.invokevirtual 83, 3) := by decide +kernel
theorem dq_Mod_cut_31 : decode kb_Mod_cut 31 = .ok (.return_, 1) := by decide +kernel
theorem dq_Mod_cut_32 : decode kb_Mod_cut 32 = .ok (.lload_n 1, 1) := by decide +kernel
theorem dq_Mod_cut_33 : decode kb_Mod_cut 33 = .ok (.l2i, 1) := by decide +kernel
theorem dq_Mod_cut_34 : decode kb_Mod_cut 34 = .ok (.istore_n 3, 1) := by decide +kernel
theorem dq_Mod_cut_35 : decode kb_Mod_cut 35 = .ok (.aload_n 0, 1) := by decide +kernel
theorem dq_Mod_cut_36 : decode kb_Mod_cut 36 = .ok (.getfield 9, 3) := by decide +kernel
theorem dq_Mod_cut_39 : decode kb_Mod_cut 39 = .ok (.iload_n 3, 1) := by decide +kernel
theorem dq_Mod_cut_40 : decode kb_Mod_cut 40 = .ok (.iaload, 1) := by decide +kernel
theorem dq_Mod_cut_41 : decode kb_Mod_cut 41 = .ok (.iconst 5, 1) := by decide +kernel
theorem dq_Mod_cut_42 : decode kb_Mod_cut 42 = .ok (.if_icmp .gt 40, 3) := by decide +kernel
theorem dq_Mod_cut_45 : decode kb_Mod_cut 45 = .ok (.aload_n 0, 1) := by decide +kernel
theorem dq_Mod_cut_46 : decode kb_Mod_cut 46 = .ok (.getfield 9, 3) := by decide +kernel
theorem dq_Mod_cut_49 : decode kb_Mod_cut 49 = .ok (.iload_n 3, 1) := by decide +kernel
theorem dq_Mod_cut_50 : decode kb_Mod_cut 50 = .ok (.iaload, 1) := by decide +kernel
theorem dq_Mod_cut_51 : decode kb_Mod_cut 51 = .ok (.iconst 5, 1) := by decide +kernel
theorem dq_Mod_cut_52 : decode kb_Mod_cut 52 = .ok (.if_icmp .ne 34, 3) := by decide +kernel
theorem dq_Mod_cut_55 : decode kb_Mod_cut 55 = .ok (.aload_n 0, 1) := by decide +kernel
theorem dq_Mod_cut_56 : decode kb_Mod_cut 56 = .ok (.getfield 61, 3) := by decide +kernel
theorem dq_Mod_cut_59 : decode kb_Mod_cut 59 = .ok (.iload_n 3, 1) := by decide +kernel
theorem dq_Mod_cut_60 : decode kb_Mod_cut 60 = .ok (.iconst 1, 1) := by decide +kernel
theorem dq_Mod_cut_61 : decode kb_Mod_cut 61 = .ok (.iadd, 1) := by decide +kernel
theorem dq_Mod_cut_62 : decode kb_Mod_cut 62 = .ok (.if_icmp .gt 20, 3) := by decide +kernel
theorem dq_Mod_cut_65 : decode kb_Mod_cut 65 = .ok (.iload_n 3, 1) := by decide +kernel
theorem dq_Mod_cut_66 : decode kb_Mod_cut 66 = .ok (.ifCond .le 20, 3) := by decide +kernel
theorem dq_Mod_cut_69 : decode kb_Mod_cut 69 = .ok (.aload_n 0, 1) := by decide +kernel
theorem dq_Mod_cut_70 : decode kb_Mod_cut 70 = .ok (.getfield 9, 3) := by decide +kernel
theorem dq_Mod_cut_73 : decode kb_Mod_cut 73 = .ok (.iload_n 3, 1) := by decide +kernel
theorem dq_Mod_cut_74 : decode kb_Mod_cut 74 = .ok (.iconst 1, 1) := by decide +kernel
theorem dq_Mod_cut_75 : decode kb_Mod_cut 75 = .ok (.isub, 1) := by decide +kernel
theorem dq_Mod_cut_76 : decode kb_Mod_cut 76 = .ok (.iaload, 1) := by decide +kernel
theorem dq_Mod_cut_77 : decode kb_Mod_cut 77 = .ok (.iconst 2, 1) := by decide +kernel
