theorem dq_Mod_cut_78 : decode kb_Mod_cut 78 = .ok (.irem, 1) := by decide +kernel
theorem dq_Mod_cut_79 : decode kb_Mod_cut 79 = .ok (.ifCond .eq 7, 3) := by decide +kernel
theorem dq_Mod_cut_82 : decode kb_Mod_cut 82 = .ok (.iconst 1, 1) := by decide +kernel
theorem dq_Mod_cut_83 : decode kb_Mod_cut 83 = .ok (.goto 4, 3) := by decide +kernel
theorem dq_Mod_cut_86 : decode kb_Mod_cut 86 = .ok (.iconst 0, 1) := by decide +kernel
theorem dq_Mod_cut_87 : decode kb_Mod_cut 87 = .ok (.istore 4, 2) := by decide +kernel
theorem dq_Mod_cut_89 : decode kb_Mod_cut 89 = .ok (.aload_n 0, 1) := by decide +kernel
theorem dq_Mod_cut_90 : decode kb_Mod_cut 90 = .ok (.iload_n 3, 1) := by decide +kernel
theorem dq_Mod_cut_91 : decode kb_Mod_cut 91 = .ok (.putfield 61, 3) := by decide +kernel
theorem dq_Mod_cut_94 : decode kb_Mod_cut 94 = .ok (.iload 4, 2) := by decide +kernel
theorem dq_Mod_cut_96 : decode kb_Mod_cut 96 = .ok (.ifCond .eq 86, 3) := by decide +kernel
theorem dq_Mod_cut_99 : decode kb_Mod_cut 99 = .ok (.aload_n 0, 1) := by decide +kernel
theorem dq_Mod_cut_100 : decode kb_Mod_cut 100 = .ok (.getfield 61, 3) := by decide +kernel
theorem dq_Mod_cut_103 : decode kb_Mod_cut 103 = .ok (.ifCond .le 32, 3) := by decide +kernel
theorem dq_Mod_cut_106 : decode kb_Mod_cut 106 = .ok (.aload_n 0, 1) := by decide +kernel
theorem dq_Mod_cut_107 : decode kb_Mod_cut 107 = .ok (.getfield 9, 3) := by decide +kernel
theorem dq_Mod_cut_110 : decode kb_Mod_cut 110 = .ok (.aload_n 0, 1) := by decide +kernel
theorem dq_Mod_cut_111 : decode kb_Mod_cut 111 = .ok (.getfield 61, 3) := by decide +kernel
theorem dq_Mod_cut_114 : decode kb_Mod_cut 114 = .ok (.iconst 1, 1) := by decide +kernel
theorem dq_Mod_cut_115 : decode kb_Mod_cut 115 = .ok (.isub, 1) := by decide +kernel
theorem dq_Mod_cut_116 : decode kb_Mod_cut 116 = .ok (.iaload, 1) := by decide +kernel
theorem dq_Mod_cut_117 : decode kb_Mod_cut 117 = .ok (.bipush 9, 2) := by decide +kernel
theorem dq_Mod_cut_119 : decode kb_Mod_cut 119 = .ok (.if_icmp .ne 16, 3) := by decide +kernel
theorem dq_Mod_cut_122 : decode kb_Mod_cut 122 = .ok (.aload_n 0, 1) := by decide +kernel
theorem dq_Mod_cut_123 : decode kb_Mod_cut 123 = .ok (.dup, 1) := by decide +kernel
theorem dq_Mod_cut_124 : decode kb_Mod_cut 124 = .ok (.getfield 61, 3) := by decide +kernel
theorem dq_Mod_cut_127 : decode kb_Mod_cut 127 = .ok (.iconst 1, 1) := by decide +kernel
theorem dq_Mod_cut_128 : decode kb_Mod_cut 128 = .ok (.isub, 1) := by decide +kernel
theorem dq_Mod_cut_129 : decode kb_Mod_cut 129 = .ok (.putfield 61, 3) := by decide +kernel
theorem dq_Mod_cut_132 : decode kb_Mod_cut 132 = .ok (.goto (-33), 3) := by decide +kernel
theorem dq_Mod_cut_135 : decode kb_Mod_cut 135 = .ok (.aload_n 0, 1) := by decide +kernel
theorem dq_Mod_cut_136 : decode kb_Mod_cut 136 = .ok (.getfield 61, 3) := by decide +kernel
theorem dq_Mod_cut_139 : decode kb_Mod_cut 139 = .ok (.ifCond .ne 28, 3) := by decide +kernel
theorem dq_Mod_cut_142 : decode kb_Mod_cut 142 = .ok (.aload_n 0, 1) := by decide +kernel
theorem dq_Mod_cut_143 : decode kb_Mod_cut 143 = .ok (.getfield 9, 3) := by decide +kernel
theorem dq_Mod_cut_146 : decode kb_Mod_cut 146 = .ok (.iconst 0, 1) := by decide +kernel
theorem dq_Mod_cut_147 : decode kb_Mod_cut 147 = .ok (.iconst 1, 1) := by decide +kernel
theorem dq_Mod_cut_148 : decode kb_Mod_cut 148 = .ok (.iastore, 1) := by decide +kernel
theorem dq_Mod_cut_149 : decode kb_Mod_cut 149 = .ok (.aload_n 0, 1) := by decide +kernel
theorem dq_Mod_cut_150 : decode kb_Mod_cut 150 = .ok (.iconst 1, 1) := by decide +kernel
theorem dq_Mod_cut_151 : decode kb_Mod_cut 151 = .ok (.putfield 61, 3) := by decide +kernel
theorem dq_Mod_cut_154 : decode kb_Mod_cut 154 = .ok (.aload_n 0, 1) := by decide +kernel
theorem dq_Mod_cut_155 : decode kb_Mod_cut 155 = .ok (.dup, 1) := by decide +kernel
theorem dq_Mod_cut_156 : decode kb_Mod_cut 156 = .ok (.getfield 64, 3) := by decide +kernel
theorem dq_Mod_cut_159 : decode kb_Mod_cut 159 = .ok (.iconst 1, 1) := by decide +kernel
theorem dq_Mod_cut_160 : decode kb_Mod_cut 160 = .ok (.iadd, 1) := by decide +kernel
theorem dq_Mod_cut_161 : decode kb_Mod_cut 161 = .ok (.putfield 64, 3) := by decide +kernel
theorem dq_Mod_cut_164 : decode kb_Mod_cut 164 = .ok (.goto 18, 3) := by decide +kernel
theorem dq_Mod_cut_167 : decode kb_Mod_cut 167 = .ok (.aload_n 0, 1) := by decide +kernel
theorem dq_Mod_cut_168 : decode kb_Mod_cut 168 = .ok (.getfield 9, 3) := by decide +kernel
theorem dq_Mod_cut_171 : decode kb_Mod_cut 171 = .ok (.aload_n 0, 1) := by decide +kernel
theorem dq_Mod_cut_172 : decode kb_Mod_cut 172 = .ok (.getfield 61, 3) := by decide +kernel
theorem dq_Mod_cut_175 : decode kb_Mod_cut 175 = .ok (.iconst 1, 1) := by decide +kernel
theorem dq_Mod_cut_176 : decode kb_Mod_cut 176 = .ok (.isub, 1) := by decide +kernel
theorem dq_Mod_cut_177 : decode kb_Mod_cut 177 = .ok (.dup2, 1) := by decide +kernel
theorem dq_Mod_cut_178 : decode kb_Mod_cut 178 = .ok (.iaload, 1) := by decide +kernel
theorem dq_Mod_cut_179 : decode kb_Mod_cut 179 = .ok (.iconst 1, 1) := by decide +kernel
theorem dq_Mod_cut_180 : decode kb_Mod_cut 180 = .ok (.iadd, 1) := by decide +kernel
theorem dq_Mod_cut_181 : decode kb_Mod_cut 181 = .ok (.iastore, 1) := by decide +kernel
theorem dq_Mod_cut_182 : decode kb_Mod_cut 182 = .ok (.aload_n 0, 1) := by decide +kernel
theorem dq_Mod_cut_183 : decode kb_Mod_cut 183 = .ok (.getfield 61, 3) := by decide +kernel
theorem dq_Mod_cut_186 : decode kb_Mod_cut 186 = .ok (.ifCond .le 30, 3) := by decide +kernel
theorem dq_Mod_cut_189 : decode kb_Mod_cut 189 = .ok (.aload_n 0, 1) := by decide +kernel
theorem dq_Mod_cut_190 : decode kb_Mod_cut 190 = .ok (.getfield 9, 3) := by decide +kernel
theorem dq_Mod_cut_193 : decode kb_Mod_cut 193 = .ok (.aload_n 0, 1) := by decide +kernel
theorem dq_Mod_cut_194 : decode kb_Mod_cut 194 = .ok (.getfield 61, 3) := by decide +kernel
theorem dq_Mod_cut_197 : decode kb_Mod_cut 197 = .ok (.iconst 1, 1) := by decide +kernel
theorem dq_Mod_cut_198 : decode kb_Mod_cut 198 = .ok (.isub, 1) := by decide +kernel
theorem dq_Mod_cut_199 : decode kb_Mod_cut 199 = .ok (.iaload, 1) := by decide +kernel
theorem dq_Mod_cut_200 : decode kb_Mod_cut 200 = .ok (.ifCond .ne 16, 3) := by decide +kernel
theorem dq_Mod_cut_203 : decode kb_Mod_cut 203 = .ok (.aload_n 0, 1) := by decide +kernel
theorem dq_Mod_cut_204 : decode kb_Mod_cut 204 = .ok (.dup, 1) := by decide +kernel
theorem dq_Mod_cut_205 : decode kb_Mod_cut 205 = .ok (.getfield 61, 3) := by decide +kernel
theorem dq_Mod_cut_208 : decode kb_Mod_cut 208 = .ok (.iconst 1, 1) := by decide +kernel
theorem dq_Mod_cut_209 : decode kb_Mod_cut 209 = .ok (.isub, 1) := by decide +kernel
theorem dq_Mod_cut_210 : decode kb_Mod_cut 210 = .ok (.putfield 61, 3) := by decide +kernel
theorem dq_Mod_cut_213 : decode kb_Mod_cut 213 = .ok (.goto (-31), 3) := by decide +kernel
theorem dq_Mod_cut_216 : decode kb_Mod_cut 216 = .ok (.aload_n 0, 1) := by decide +kernel
theorem dq_Mod_cut_217 : decode kb_Mod_cut 217 = .ok (.getfield 61, 3) := by decide +kernel
theorem dq_Mod_cut_220 : decode kb_Mod_cut 220 = .ok (.ifCond .ne 7, 3) := by decide +kernel
theorem dq_Mod_cut_223 : decode kb_Mod_cut 223 = .ok (.aload_n 0, 1) := by decide +kernel
theorem dq_Mod_cut_224 : decode kb_Mod_cut 224 = .ok (.invokevirtual 83, 3) := by decide +kernel
theorem dq_Mod_cut_227 : decode kb_Mod_cut 227 = .ok (.return_, 1) := by decide +kernel
theorem dq_Mod_nothing_0 : decode kb_Mod_nothing 0 = .ok (.aload_n 0, 1) := by decide +kernel
theorem dq_Mod_nothing_1 : decode kb_Mod_nothing 1 = .ok (.iconst 0, 1) := by decide +kernel
theorem dq_Mod_nothing_2 : decode kb_Mod_nothing 2 = .ok (.putfield 61, 3) := by decide +kernel
theorem dq_Mod_nothing_5 : decode kb_Mod_nothing 5 = .ok (.aload_n 0, 1) := by decide +kernel
theorem dq_Mod_nothing_6 : decode kb_Mod_nothing 6 = .ok (.iconst 0, 1) := by decide +kernel
theorem dq_Mod_nothing_7 : decode kb_Mod_nothing 7 = .ok (.putfield 64, 3) := by decide +kernel
theorem dq_Mod_nothing_10 : decode kb_Mod_nothing 10 = .ok (.return_, 1) := by decide +kernel
theorem dq_Mod_round_0 : decode kb_Mod_round 0 = .ok (.aload_n 0, 1) := by decide +kernel
theorem dq_Mod_round_1 : decode kb_Mod_round 1 = .ok (.iconst 0, 1) := by decide +kernel
theorem dq_Mod_round_2 : decode kb_Mod_round 2 = .ok (.putfield 28, 3) := by decide +kernel
theorem dq_Mod_round_5 : decode kb_Mod_round 5 = .ok (.aload_n 0, 1) := by decide +kernel
theorem dq_Mod_round_6 : decode kb_Mod_round 6 = .ok (.iload_n 1, 1) := by decide +kernel
theorem dq_Mod_round_7 : decode kb_Mod_round 7 = .ok (.i2l, 1) := by decide +kernel
theorem dq_Mod_round_8 : decode kb_Mod_round 8 = .ok (.lconst 0, 1) := by decide +kernel
theorem dq_Mod_round_9 : decode kb_Mod_round 9 = .ok (.ldc2_w 86, 3) := by decide +kernel
theorem dq_Mod_round_12 : decode kb_Mod_round 12 = .ok (.invokestatic 75, 3) := by decide +kernel
theorem dq_Mod_round_15 : decode kb_Mod_round 15 = .ok (.ifCond .ne 7, 3) := by decide +kernel
theorem dq_Mod_round_18 : decode kb_Mod_round 18 = .ok (.iconst 1, 1) := by decide +kernel
theorem dq_Mod_round_19 : decode kb_Mod_round 19 = .ok (.goto 4, 3) := by decide +kernel
theorem dq_Mod_round_22 : decode kb_Mod_round 22 = .ok (.iconst 0, 1) := by decide +kernel
theorem dq_Mod_round_23 : decode kb_Mod_round 23 = .ok (.iconst 1, 1) := by decide +kernel
theorem dq_Mod_round_24 : decode kb_Mod_round 24 = .ok (.invokevirtual 32, 3) := by decide +kernel
theorem dq_Mod_round_27 : decode kb_Mod_round 27 = .ok (.ifCond .eq 5, 3) := by decide +kernel
theorem dq_Mod_round_30 : decode kb_Mod_round 30 = .ok (.iconst 0, 1) := by decide +kernel
theorem dq_Mod_round_31 : decode kb_Mod_round 31 = .ok (.ireturn, 1) := by decide +kernel
theorem dq_Mod_round_32 : decode kb_Mod_round 32 = .ok (.aload_n 0, 1) := by decide +kernel
theorem dq_Mod_round_33 : decode kb_Mod_round 33 = .ok (.iload_n 1, 1) := by decide +kernel
theorem dq_Mod_round_34 : decode kb_Mod_round 34 = .ok (.ifCond .le 8, 3) := by decide +kernel
theorem dq_Mod_round_37 : decode kb_Mod_round 37 = .ok (.iload_n 1, 1) := by decide +kernel
theorem dq_Mod_round_38 : decode kb_Mod_round 38 = .ok (.i2l, 1) := by decide +kernel
theorem dq_Mod_round_39 : decode kb_Mod_round 39 = .ok (.goto 6, 3) := by decide +kernel
theorem dq_Mod_round_42 : decode kb_Mod_round 42 = .ok (.ldc2_w 88, 3) := by decide +kernel
theorem dq_Mod_round_45 : decode kb_Mod_round 45 = .ok (.invokevirtual 90, 3) := by decide +kernel
theorem dq_Mod_round_48 : decode kb_Mod_round 48 = .ok (.aload_n 0, 1) := by decide +kernel
theorem dq_Mod_round_49 : decode kb_Mod_round 49 = .ok (.getfield 61, 3) := by decide +kernel
theorem dq_Mod_round_52 : decode kb_Mod_round 52 = .ok (.ireturn, 1) := by decide +kernel
theorem dq_Mod_places_0 : decode kb_Mod_places 0 = .ok (.aload_n 0, 1) := by decide +kernel
theorem dq_Mod_places_1 : decode kb_Mod_places 1 = .ok (.iconst 0, 1) := by decide +kernel
theorem dq_Mod_places_2 : decode kb_Mod_places 2 = .ok (.putfield 28, 3) := by decide +kernel
theorem dq_Mod_places_5 : decode kb_Mod_places 5 = .ok (.aload_n 0, 1) := by decide +kernel
theorem dq_Mod_places_6 : decode kb_Mod_places 6 = .ok (.iload_n 1, 1) := by decide +kernel
theorem dq_Mod_places_7 : decode kb_Mod_places 7 = .ok (.i2l, 1) := by decide +kernel
theorem dq_Mod_places_8 : decode kb_Mod_places 8 = .ok (.ldc2_w 79, 3) := by decide +kernel
theorem dq_Mod_places_11 : decode kb_Mod_places 11 = .ok (.ldc2_w 94, 3) := by decide +kernel
theorem dq_Mod_places_14 : decode kb_Mod_places 14 = .ok (.invokestatic 75, 3) := by decide +kernel
theorem dq_Mod_places_17 : decode kb_Mod_places 17 = .ok (.ifCond .ne 7, 3) := by decide +kernel
theorem dq_Mod_places_20 : decode kb_Mod_places 20 = .ok (.iconst 1, 1) := by decide +kernel
theorem dq_Mod_places_21 : decode kb_Mod_places 21 = .ok (.goto 4, 3) := by decide +kernel
theorem dq_Mod_places_24 : decode kb_Mod_places 24 = .ok (.iconst 0, 1) := by decide +kernel
theorem dq_Mod_places_25 : decode kb_Mod_places 25 = .ok (.iconst 1, 1) := by decide +kernel
theorem dq_Mod_places_26 : decode kb_Mod_places 26 = .ok (.invokevirtual 32, 3) := by decide +kernel
theorem dq_Mod_places_29 : decode kb_Mod_places 29 = .ok (.ifCond .eq 5, 3) := by decide +kernel
theorem dq_Mod_places_32 : decode kb_Mod_places 32 = .ok (.iconst 0, 1) := by decide +kernel
theorem dq_Mod_places_33 : decode kb_Mod_places 33 = .ok (.ireturn, 1) := by decide +kernel
theorem dq_Mod_places_34 : decode kb_Mod_places 34 = .ok (.aload_n 0, 1) := by decide +kernel
theorem dq_Mod_places_35 : decode kb_Mod_places 35 = .ok (.aload_n 0, 1) := by decide +kernel
theorem dq_Mod_places_36 : decode kb_Mod_places 36 = .ok (.getfield 64, 3) := by decide +kernel
theorem dq_Mod_places_39 : decode kb_Mod_places 39 = .ok (.i2l, 1) := by decide +kernel
theorem dq_Mod_places_40 : decode kb_Mod_places 40 = .ok (.iload_n 1, 1) := by decide +kernel
theorem dq_Mod_places_41 : decode kb_Mod_places 41 = .ok (.i2l, 1) := by decide +kernel
theorem dq_Mod_places_42 : decode kb_Mod_places 42 = .ok (.ladd, 1) := by decide +kernel
theorem dq_Mod_places_43 : decode kb_Mod_places 43 = .ok (.invokevirtual 90, 3) := by decide +kernel
theorem dq_Mod_places_46 : decode kb_Mod_places 46 = .ok (.aload_n 0, 1) := by decide +kernel
theorem dq_Mod_places_47 : decode kb_Mod_places 47 = .ok (.getfield 61, 3) := by decide +kernel
theorem dq_Mod_places_50 : decode kb_Mod_places 50 = .ok (.ireturn, 1) := by decide +kernel
theorem dq_Mod_finds_0 : decode kb_Mod_finds 0 = .ok (.aload_n 0, 1) := by decide +kernel
theorem dq_Mod_finds_1 : decode kb_Mod_finds 1 = .ok (.lconst 0, 1) := by decide +kernel
theorem dq_Mod_finds_2 : decode kb_Mod_finds 2 = .ok (.putfield 96, 3) := by decide +kernel
theorem dq_Mod_finds_5 : decode kb_Mod_finds 5 = .ok (.iload_n 1, 1) := by decide +kernel
theorem dq_Mod_finds_6 : decode kb_Mod_finds 6 = .ok (.ifCond .eq 13, 3) := by decide +kernel
theorem dq_Mod_finds_9 : decode kb_Mod_finds 9 = .ok (.aload_n 0, 1) := by decide +kernel
theorem dq_Mod_finds_10 : decode kb_Mod_finds 10 = .ok (.getfield 64, 3) := by decide +kernel
theorem dq_Mod_finds_13 : decode kb_Mod_finds 13 = .ok (.sipush (-330), 3) := by decide +kernel
theorem dq_Mod_finds_16 : decode kb_Mod_finds 16 = .ok (.if_icmp .ge 5, 3) := by decide +kernel
theorem dq_Mod_finds_19 : decode kb_Mod_finds 19 = .ok (.iconst 1, 1) := by decide +kernel
theorem dq_Mod_finds_20 : decode kb_Mod_finds 20 = .ok (.ireturn, 1) := by decide +kernel
theorem dq_Mod_finds_21 : decode kb_Mod_finds 21 = .ok (.aload_n 0, 1) := by decide +kernel
theorem dq_Mod_finds_22 : decode kb_Mod_finds 22 = .ok (.getfield 64, 3) := by decide +kernel
theorem dq_Mod_finds_25 : decode kb_Mod_finds 25 = .ok (.sipush 310, 3) := by decide +kernel
theorem dq_Mod_finds_28 : decode kb_Mod_finds 28 = .ok (.if_icmp .le 5, 3) := by decide +kernel
theorem dq_Mod_finds_31 : decode kb_Mod_finds 31 = .ok (.iconst 0, 1) := by decide +kernel
theorem dq_Mod_finds_32 : decode kb_Mod_finds 32 = .ok (.ireturn, 1) := by decide +kernel
theorem dq_Mod_finds_33 : decode kb_Mod_finds 33 = .ok (.aload_n 0, 1) := by decide +kernel
theorem dq_Mod_finds_34 : decode kb_Mod_finds 34 = .ok (.getfield 64, 3) := by decide +kernel
theorem dq_Mod_finds_37 : decode kb_Mod_finds 37 = .ok (.ifCond .le 10, 3) := by decide +kernel
theorem dq_Mod_finds_40 : decode kb_Mod_finds 40 = .ok (.aload_n 0, 1) := by decide +kernel
theorem dq_Mod_finds_41 : decode kb_Mod_finds 41 = .ok (.getfield 64, 3) := by decide +kernel
theorem dq_Mod_finds_44 : decode kb_Mod_finds 44 = .ok (.goto 4, 3) := by decide +kernel
theorem dq_Mod_finds_47 : decode kb_Mod_finds 47 = .ok (.iconst 0, 1) := by decide +kernel
theorem dq_Mod_finds_48 : decode kb_Mod_finds 48 = .ok (.istore_n 2, 1) := by decide +kernel
theorem dq_Mod_finds_49 : decode kb_Mod_finds 49 = .ok (.lconst 0, 1) := by decide +kernel
theorem dq_Mod_finds_50 : decode kb_Mod_finds 50 = .ok (.lstore_n 3, 1) := by decide +kernel
theorem dq_Mod_finds_51 : decode kb_Mod_finds 51 = .ok (.iconst 0, 1) := by decide +kernel
theorem dq_Mod_finds_52 : decode kb_Mod_finds 52 = .ok (.istore 5, 2) := by decide +kernel
theorem dq_Mod_finds_54 : decode kb_Mod_finds 54 = .ok (.iconst 0, 1) := by decide +kernel
theorem dq_Mod_finds_55 : decode kb_Mod_finds 55 = .ok (.istore 6, 2) := by decide +kernel
theorem dq_Mod_finds_57 : decode kb_Mod_finds 57 = .ok (.iconst 0, 1) := by decide +kernel
theorem dq_Mod_finds_58 : decode kb_Mod_finds 58 = .ok (.istore 7, 2) := by decide +kernel
theorem dq_Mod_finds_60 : decode kb_Mod_finds 60 = .ok (.aload_n 0, 1) := by decide +kernel
theorem dq_Mod_finds_61 : decode kb_Mod_finds 61 = .ok (.iconst 0, 1) := by decide +kernel
theorem dq_Mod_finds_62 : decode kb_Mod_finds 62 = .ok (.putfield 40, 3) := by decide +kernel
theorem dq_Mod_finds_65 : decode kb_Mod_finds 65 = .ok (.iconst 0, 1) := by decide +kernel
theorem dq_Mod_finds_66 : decode kb_Mod_finds 66 = .ok (.istore 8, 2) := by decide +kernel
theorem dq_Mod_finds_68 : decode kb_Mod_finds 68 = .ok (.iload 8, 2) := by decide +kernel
theorem dq_Mod_finds_70 : decode kb_Mod_finds 70 = .ok (.iload_n 2, 1) := by decide +kernel
theorem dq_Mod_finds_71 : decode kb_Mod_finds 71 = .ok (.if_icmp .ge 42, 3) := by decide +kernel
theorem dq_Mod_finds_74 : decode kb_Mod_finds 74 = .ok (.aload_n 0, 1) := by decide +kernel
theorem dq_Mod_finds_75 : decode kb_Mod_finds 75 = .ok (.getfield 13, 3) := by decide +kernel
theorem dq_Mod_finds_78 : decode kb_Mod_finds 78 = .ok (.aload_n 0, 1) := by decide +kernel
theorem dq_Mod_finds_79 : decode kb_Mod_finds 79 = .ok (.dup, 1) := by decide +kernel
theorem dq_Mod_finds_80 : decode kb_Mod_finds 80 = .ok (.getfield 40, 3) := by decide +kernel
theorem dq_Mod_finds_83 : decode kb_Mod_finds 83 = .ok (.dup_x1, 1) := by decide +kernel
theorem dq_Mod_finds_84 : decode kb_Mod_finds 84 = .ok (.iconst 1, 1) := by decide +kernel
theorem dq_Mod_finds_85 : decode kb_Mod_finds 85 = .ok (.iadd, 1) := by decide +kernel
theorem dq_Mod_finds_86 : decode kb_Mod_finds 86 = .ok (.putfield 40, 3) := by decide +kernel
theorem dq_Mod_finds_89 : decode kb_Mod_finds 89 = .ok (.iload 8, 2) := by decide +kernel
theorem dq_Mod_finds_91 : decode kb_Mod_finds 91 = .ok (.iload_n 1, 1) := by decide +kernel
theorem dq_Mod_finds_92 : decode kb_Mod_finds 92 = .ok (.if_icmp .ge 13, 3) := by decide +kernel
theorem dq_Mod_finds_95 : decode kb_Mod_finds 95 = .ok (.aload_n 0, 1) := by decide +kernel
theorem dq_Mod_finds_96 : decode kb_Mod_finds 96 = .ok (.getfield 9, 3) := by decide +kernel
theorem dq_Mod_finds_99 : decode kb_Mod_finds 99 = .ok (.iload 8, 2) := by decide +kernel
theorem dq_Mod_finds_101 : decode kb_Mod_finds 101 = .ok (.iaload, 1) := by decide +kernel
theorem dq_Mod_finds_102 : decode kb_Mod_finds 102 = .ok (.goto 4, 3) := by decide +kernel
theorem dq_Mod_finds_105 : decode kb_Mod_finds 105 = .ok (.iconst 0, 1) := by decide +kernel
theorem dq_Mod_finds_106 : decode kb_Mod_finds 106 = .ok (.iastore, 1) := by decide +kernel
theorem dq_Mod_finds_107 : decode kb_Mod_finds 107 = .ok (.iinc 8 1, 3) := by decide +kernel
theorem dq_Mod_finds_110 : decode kb_Mod_finds 110 = .ok (.goto (-42), 3) := by decide +kernel
theorem dq_Mod_finds_113 : decode kb_Mod_finds 113 = .ok (.iconst 0, 1) := by decide +kernel
theorem dq_Mod_finds_114 : decode kb_Mod_finds 114 = .ok (.istore 8, 2) := by decide +kernel
theorem dq_Mod_finds_116 : decode kb_Mod_finds 116 = .ok (.aload_n 0, 1) := by decide +kernel
theorem dq_Mod_finds_117 : decode kb_Mod_finds 117 = .ok (.iconst 0, 1) := by decide +kernel
theorem dq_Mod_finds_118 : decode kb_Mod_finds 118 = .ok (.aload_n 0, 1) := by decide +kernel
theorem dq_Mod_finds_119 : decode kb_Mod_finds 119 = .ok (.getfield 40, 3) := by decide +kernel
theorem dq_Mod_finds_122 : decode kb_Mod_finds 122 = .ok (.invokevirtual 100, 3) := by decide +kernel
theorem dq_Mod_finds_125 : decode kb_Mod_finds 125 = .ok (.ifCond .ne 82, 3) := by decide +kernel
theorem dq_Mod_finds_128 : decode kb_Mod_finds 128 = .ok (.aload_n 0, 1) := by decide +kernel
theorem dq_Mod_finds_129 : decode kb_Mod_finds 129 = .ok (.getfield 16, 3) := by decide +kernel
theorem dq_Mod_finds_132 : decode kb_Mod_finds 132 = .ok (.iload 8, 2) := by decide +kernel
theorem dq_Mod_finds_134 : decode kb_Mod_finds 134 = .ok (.iinc 8 1, 3) := by decide +kernel
theorem dq_Mod_finds_137 : decode kb_Mod_finds 137 = .ok (.aload_n 0, 1) := by decide +kernel
theorem dq_Mod_finds_138 : decode kb_Mod_finds 138 = .ok (.getfield 13, 3) := by decide +kernel
theorem dq_Mod_finds_141 : decode kb_Mod_finds 141 = .ok (.aload_n 0, 1) := by decide +kernel
theorem dq_Mod_finds_142 : decode kb_Mod_finds 142 = .ok (.getfield 40, 3) := by decide +kernel
theorem dq_Mod_finds_145 : decode kb_Mod_finds 145 = .ok (.iconst 1, 1) := by decide +kernel
theorem dq_Mod_finds_146 : decode kb_Mod_finds 146 = .ok (.isub, 1) := by decide +kernel
theorem dq_Mod_finds_147 : decode kb_Mod_finds 147 = .ok (.iaload, 1) := by decide +kernel
theorem dq_Mod_finds_148 : decode kb_Mod_finds 148 = .ok (.iconst 1, 1) := by decide +kernel
theorem dq_Mod_finds_149 : decode kb_Mod_finds 149 = .ok (.iand, 1) := by decide +kernel
theorem dq_Mod_finds_150 : decode kb_Mod_finds 150 = .ok (.iastore, 1) := by decide +kernel
theorem dq_Mod_finds_151 : decode kb_Mod_finds 151 = .ok (.iconst 0, 1) := by decide +kernel
theorem dq_Mod_finds_152 : decode kb_Mod_finds 152 = .ok (.istore 9, 2) := by decide +kernel
theorem dq_Mod_finds_154 : decode kb_Mod_finds 154 = .ok (.iconst 0, 1) := by decide +kernel
theorem dq_Mod_finds_155 : decode kb_Mod_finds 155 = .ok (.istore 10, 2) := by decide +kernel
theorem dq_Mod_finds_157 : decode kb_Mod_finds 157 = .ok (.iload 10, 2) := by decide +kernel
theorem dq_Mod_finds_159 : decode kb_Mod_finds 159 = .ok (.aload_n 0, 1) := by decide +kernel
theorem dq_Mod_finds_160 : decode kb_Mod_finds 160 = .ok (.getfield 40, 3) := by decide +kernel
theorem dq_Mod_finds_163 : decode kb_Mod_finds 163 = .ok (.if_icmp .ge 41, 3) := by decide +kernel
theorem dq_Mod_finds_166 : decode kb_Mod_finds 166 = .ok (.bipush 10, 2) := by decide +kernel
theorem dq_Mod_finds_168 : decode kb_Mod_finds 168 = .ok (.iload 9, 2) := by decide +kernel
theorem dq_Mod_finds_170 : decode kb_Mod_finds 170 = .ok (.imul, 1) := by decide +kernel
theorem dq_Mod_finds_171 : decode kb_Mod_finds 171 = .ok (.aload_n 0, 1) := by decide +kernel
theorem dq_Mod_finds_172 : decode kb_Mod_finds 172 = .ok (.getfield 13, 3) := by decide +kernel
theorem dq_Mod_finds_175 : decode kb_Mod_finds 175 = .ok (.iload 10, 2) := by decide +kernel
theorem dq_Mod_finds_177 : decode kb_Mod_finds 177 = .ok (.iaload, 1) := by decide +kernel
theorem dq_Mod_finds_178 : decode kb_Mod_finds 178 = .ok (.iadd, 1) := by decide +kernel
theorem dq_Mod_finds_179 : decode kb_Mod_finds 179 = .ok (.istore 11, 2) := by decide +kernel
theorem dq_Mod_finds_181 : decode kb_Mod_finds 181 = .ok (.aload_n 0, 1) := by decide +kernel
theorem dq_Mod_finds_182 : decode kb_Mod_finds 182 = .ok (.getfield 13, 3) := by decide +kernel
theorem dq_Mod_finds_185 : decode kb_Mod_finds 185 = .ok (.iload 10, 2) := by decide +kernel
theorem dq_Mod_finds_187 : decode kb_Mod_finds 187 = .ok (.iload 11, 2) := by decide +kernel
theorem dq_Mod_finds_189 : decode kb_Mod_finds 189 = .ok (.iconst 2, 1) := by decide +kernel
theorem dq_Mod_finds_190 : decode kb_Mod_finds 190 = .ok (.idiv, 1) := by decide +kernel
theorem dq_Mod_finds_191 : decode kb_Mod_finds 191 = .ok (.iastore, 1) := by decide +kernel
theorem dq_Mod_finds_192 : decode kb_Mod_finds 192 = .ok (.iload 11, 2) := by decide +kernel
theorem dq_Mod_finds_194 : decode kb_Mod_finds 194 = .ok (.iconst 2, 1) := by decide +kernel
theorem dq_Mod_finds_195 : decode kb_Mod_finds 195 = .ok (.irem, 1) := by decide +kernel
theorem dq_Mod_finds_196 : decode kb_Mod_finds 196 = .ok (.istore 9, 2) := by decide +kernel
theorem dq_Mod_finds_198 : decode kb_Mod_finds 198 = .ok (.iinc 10 1, 3) := by decide +kernel
theorem dq_Mod_finds_201 : decode kb_Mod_finds 201 = .ok (.goto (-44), 3) := by decide +kernel
theorem dq_Mod_finds_204 : decode kb_Mod_finds 204 = .ok (.goto (-88), 3) := by decide +kernel
theorem dq_Mod_finds_207 : decode kb_Mod_finds 207 = .ok (.iload 8, 2) := by decide +kernel
theorem dq_Mod_finds_209 : decode kb_Mod_finds 209 = .ok (.sipush 1024, 3) := by decide +kernel
theorem dq_Mod_finds_212 : decode kb_Mod_finds 212 = .ok (.if_icmp .le 5, 3) := by decide +kernel
theorem dq_Mod_finds_215 : decode kb_Mod_finds 215 = .ok (.iconst 0, 1) := by decide +kernel
theorem dq_Mod_finds_216 : decode kb_Mod_finds 216 = .ok (.ireturn, 1) := by decide +kernel
theorem dq_Mod_finds_217 : decode kb_Mod_finds 217 = .ok (.iload 8, 2) := by decide +kernel
theorem dq_Mod_finds_219 : decode kb_Mod_finds 219 = .ok (.iconst 1, 1) := by decide +kernel
theorem dq_Mod_finds_220 : decode kb_Mod_finds 220 = .ok (.isub, 1) := by decide +kernel
theorem dq_Mod_finds_221 : decode kb_Mod_finds 221 = .ok (.istore 9, 2) := by decide +kernel
theorem dq_Mod_finds_223 : decode kb_Mod_finds 223 = .ok (.iload 9, 2) := by decide +kernel
theorem dq_Mod_finds_225 : decode kb_Mod_finds 225 = .ok (.ifCond .lt 59, 3) := by decide +kernel
theorem dq_Mod_finds_228 : decode kb_Mod_finds 228 = .ok (.iload 5, 2) := by decide +kernel
theorem dq_Mod_finds_230 : decode kb_Mod_finds 230 = .ok (.bipush 54, 2) := by decide +kernel
theorem dq_Mod_finds_232 : decode kb_Mod_finds 232 = .ok (.if_icmp .ge 26, 3) := by decide +kernel
theorem dq_Mod_finds_235 : decode kb_Mod_finds 235 = .ok (.lload_n 3, 1) := by decide +kernel
theorem dq_Mod_finds_236 : decode kb_Mod_finds 236 = .ok (.iconst 1, 1) := by decide +kernel
theorem dq_Mod_finds_237 : decode kb_Mod_finds 237 = .ok (.lshl, 1) := by decide +kernel
theorem dq_Mod_finds_238 : decode kb_Mod_finds 238 = .ok (.aload_n 0, 1) := by decide +kernel
theorem dq_Mod_finds_239 : decode kb_Mod_finds 239 = .ok (.getfield 16, 3) := by decide +kernel
theorem dq_Mod_finds_242 : decode kb_Mod_finds 242 = .ok (.iload 9, 2) := by decide +kernel
theorem dq_Mod_finds_244 : decode kb_Mod_finds 244 = .ok (.iaload, 1) := by decide +kernel
theorem dq_Mod_finds_245 : decode kb_Mod_finds 245 = .ok (.i2l, 1) := by decide +kernel
theorem dq_Mod_finds_246 : decode kb_Mod_finds 246 = .ok (.lor, 1) := by decide +kernel
theorem dq_Mod_finds_247 : decode kb_Mod_finds 247 = .ok (.lstore_n 3, 1) := by decide +kernel
theorem dq_Mod_finds_248 : decode kb_Mod_finds 248 = .ok (.iinc 5 1, 3) := by decide +kernel
theorem dq_Mod_finds_251 : decode kb_Mod_finds 251 = .ok (.iload 9, 2) := by decide +kernel
theorem dq_Mod_finds_253 : decode kb_Mod_finds 253 = .ok (.istore 6, 2) := by decide +kernel
theorem dq_Mod_finds_255 : decode kb_Mod_finds 255 = .ok (.goto 23, 3) := by decide +kernel
theorem dq_Mod_finds_258 : decode kb_Mod_finds 258 = .ok (.iload 7, 2) := by decide +kernel
theorem dq_Mod_finds_260 : decode kb_Mod_finds 260 = .ok (.aload_n 0, 1) := by decide +kernel
theorem dq_Mod_finds_261 : decode kb_Mod_finds 261 = .ok (.getfield 16, 3) := by decide +kernel
theorem dq_Mod_finds_264 : decode kb_Mod_finds 264 = .ok (.iload 9, 2) := by decide +kernel
theorem dq_Mod_finds_266 : decode kb_Mod_finds 266 = .ok (.iaload, 1) := by decide +kernel
theorem dq_Mod_finds_267 : decode kb_Mod_finds 267 = .ok (.ifCond .eq 7, 3) := by decide +kernel
theorem dq_Mod_finds_270 : decode kb_Mod_finds 270 = .ok (.iconst 1, 1) := by decide +kernel
theorem dq_Mod_finds_271 : decode kb_Mod_finds 271 = .ok (.goto 4, 3) := by decide +kernel
theorem dq_Mod_finds_274 : decode kb_Mod_finds 274 = .ok (.iconst 0, 1) := by decide +kernel
theorem dq_Mod_finds_275 : decode kb_Mod_finds 275 = .ok (.ior, 1) := by decide +kernel
theorem dq_Mod_finds_276 : decode kb_Mod_finds 276 = .ok (.istore 7, 2) := by decide +kernel
theorem dq_Mod_finds_278 : decode kb_Mod_finds 278 = .ok (.iinc 9 (-1), 3) := by decide +kernel
theorem dq_Mod_finds_281 : decode kb_Mod_finds 281 = .ok (.goto (-58), 3) := by decide +kernel
theorem dq_Mod_finds_284 : decode kb_Mod_finds 284 = .ok (.aload_n 0, 1) := by decide +kernel
theorem dq_Mod_finds_285 : decode kb_Mod_finds 285 = .ok (.iconst 0, 1) := by decide +kernel
theorem dq_Mod_finds_286 : decode kb_Mod_finds 286 = .ok (.putfield 40, 3) := by decide +kernel
theorem dq_Mod_finds_289 : decode kb_Mod_finds 289 = .ok (.aload_n 0, 1) := by decide +kernel
theorem dq_Mod_finds_290 : decode kb_Mod_finds 290 = .ok (.getfield 64, 3) := by decide +kernel
theorem dq_Mod_finds_293 : decode kb_Mod_finds 293 = .ok (.istore 9, 2) := by decide +kernel
theorem dq_Mod_finds_295 : decode kb_Mod_finds 295 = .ok (.iload 9, 2) := by decide +kernel
theorem dq_Mod_finds_297 : decode kb_Mod_finds 297 = .ok (.ifCond .ge 26, 3) := by decide +kernel
theorem dq_Mod_finds_300 : decode kb_Mod_finds 300 = .ok (.aload_n 0, 1) := by decide +kernel
theorem dq_Mod_finds_301 : decode kb_Mod_finds 301 = .ok (.getfield 13, 3) := by decide +kernel
theorem dq_Mod_finds_304 : decode kb_Mod_finds 304 = .ok (.aload_n 0, 1) := by decide +kernel
theorem dq_Mod_finds_305 : decode kb_Mod_finds 305 = .ok (.dup, 1) := by decide +kernel
theorem dq_Mod_finds_306 : decode kb_Mod_finds 306 = .ok (.getfield 40, 3) := by decide +kernel
theorem dq_Mod_finds_309 : decode kb_Mod_finds 309 = .ok (.dup_x1, 1) := by decide +kernel
theorem dq_Mod_finds_310 : decode kb_Mod_finds 310 = .ok (.iconst 1, 1) := by decide +kernel
theorem dq_Mod_finds_311 : decode kb_Mod_finds 311 = .ok (.iadd, 1) := by decide +kernel
theorem dq_Mod_finds_312 : decode kb_Mod_finds 312 = .ok (.putfield 40, 3) := by decide +kernel
theorem dq_Mod_finds_315 : decode kb_Mod_finds 315 = .ok (.iconst 0, 1) := by decide +kernel
theorem dq_Mod_finds_316 : decode kb_Mod_finds 316 = .ok (.iastore, 1) := by decide +kernel
theorem dq_Mod_finds_317 : decode kb_Mod_finds 317 = .ok (.iinc 9 1, 3) := by decide +kernel
theorem dq_Mod_finds_320 : decode kb_Mod_finds 320 = .ok (.goto (-25), 3) := by decide +kernel
theorem dq_Mod_finds_323 : decode kb_Mod_finds 323 = .ok (.iload_n 2, 1) := by decide +kernel
theorem dq_Mod_finds_324 : decode kb_Mod_finds 324 = .ok (.istore 9, 2) := by decide +kernel
theorem dq_Mod_finds_326 : decode kb_Mod_finds 326 = .ok (.iload 9, 2) := by decide +kernel
theorem dq_Mod_finds_328 : decode kb_Mod_finds 328 = .ok (.iload_n 1, 1) := by decide +kernel
theorem dq_Mod_finds_329 : decode kb_Mod_finds 329 = .ok (.if_icmp .ge 32, 3) := by decide +kernel
theorem dq_Mod_finds_332 : decode kb_Mod_finds 332 = .ok (.aload_n 0, 1) := by decide +kernel
theorem dq_Mod_finds_333 : decode kb_Mod_finds 333 = .ok (.getfield 13, 3) := by decide +kernel
theorem dq_Mod_finds_336 : decode kb_Mod_finds 336 = .ok (.aload_n 0, 1) := by decide +kernel
theorem dq_Mod_finds_337 : decode kb_Mod_finds 337 = .ok (.dup, 1) := by decide +kernel
theorem dq_Mod_finds_338 : decode kb_Mod_finds 338 = .ok (.getfield 40, 3) := by decide +kernel
theorem dq_Mod_finds_341 : decode kb_Mod_finds 341 = .ok (.dup_x1, 1) := by decide +kernel
theorem dq_Mod_finds_342 : decode kb_Mod_finds 342 = .ok (.iconst 1, 1) := by decide +kernel
theorem dq_Mod_finds_343 : decode kb_Mod_finds 343 = .ok (.iadd, 1) := by decide +kernel
theorem dq_Mod_finds_344 : decode kb_Mod_finds 344 = .ok (.putfield 40, 3) := by decide +kernel
theorem dq_Mod_finds_347 : decode kb_Mod_finds 347 = .ok (.aload_n 0, 1) := by decide +kernel
theorem dq_Mod_finds_348 : decode kb_Mod_finds 348 = .ok (.getfield 9, 3) := by decide +kernel
theorem dq_Mod_finds_351 : decode kb_Mod_finds 351 = .ok (.iload 9, 2) := by decide +kernel
theorem dq_Mod_finds_353 : decode kb_Mod_finds 353 = .ok (.iaload, 1) := by decide +kernel
theorem dq_Mod_finds_354 : decode kb_Mod_finds 354 = .ok (.iastore, 1) := by decide +kernel
theorem dq_Mod_finds_355 : decode kb_Mod_finds 355 = .ok (.iinc 9 1, 3) := by decide +kernel
theorem dq_Mod_finds_358 : decode kb_Mod_finds 358 = .ok (.goto (-32), 3) := by decide +kernel
theorem dq_Mod_finds_361 : decode kb_Mod_finds 361 = .ok (.iconst (-1), 1) := by decide +kernel
theorem dq_Mod_finds_362 : decode kb_Mod_finds 362 = .ok (.istore 9, 2) := by decide +kernel
theorem dq_Mod_finds_364 : decode kb_Mod_finds 364 = .ok (.iload 9, 2) := by decide +kernel
theorem dq_Mod_finds_366 : decode kb_Mod_finds 366 = .ok (.sipush (-1075), 3) := by decide +kernel
theorem dq_Mod_finds_369 : decode kb_Mod_finds 369 = .ok (.if_icmp .lt 99, 3) := by decide +kernel
theorem dq_Mod_finds_372 : decode kb_Mod_finds 372 = .ok (.iload 5, 2) := by decide +kernel
theorem dq_Mod_finds_374 : decode kb_Mod_finds 374 = .ok (.bipush 54, 2) := by decide +kernel
theorem dq_Mod_finds_376 : decode kb_Mod_finds 376 = .ok (.if_icmp .ge 92, 3) := by decide +kernel
theorem dq_Mod_finds_379 : decode kb_Mod_finds 379 = .ok (.iconst 0, 1) := by decide +kernel
theorem dq_Mod_finds_380 : decode kb_Mod_finds 380 = .ok (.istore 10, 2) := by decide +kernel
theorem dq_Mod_finds_382 : decode kb_Mod_finds 382 = .ok (.aload_n 0, 1) := by decide +kernel
theorem dq_Mod_finds_383 : decode kb_Mod_finds 383 = .ok (.getfield 40, 3) := by decide +kernel
theorem dq_Mod_finds_386 : decode kb_Mod_finds 386 = .ok (.iconst 1, 1) := by decide +kernel
theorem dq_Mod_finds_387 : decode kb_Mod_finds 387 = .ok (.isub, 1) := by decide +kernel
theorem dq_Mod_finds_388 : decode kb_Mod_finds 388 = .ok (.istore 11, 2) := by decide +kernel
theorem dq_Mod_finds_390 : decode kb_Mod_finds 390 = .ok (.iload 11, 2) := by decide +kernel
theorem dq_Mod_finds_392 : decode kb_Mod_finds 392 = .ok (.ifCond .lt 42, 3) := by decide +kernel
theorem dq_Mod_finds_395 : decode kb_Mod_finds 395 = .ok (.iconst 2, 1) := by decide +kernel
theorem dq_Mod_finds_396 : decode kb_Mod_finds 396 = .ok (.aload_n 0, 1) := by decide +kernel
theorem dq_Mod_finds_397 : decode kb_Mod_finds 397 = .ok (.getfield 13, 3) := by decide +kernel
theorem dq_Mod_finds_400 : decode kb_Mod_finds 400 = .ok (.iload 11, 2) := by decide +kernel
theorem dq_Mod_finds_402 : decode kb_Mod_finds 402 = .ok (.iaload, 1) := by decide +kernel
theorem dq_Mod_finds_403 : decode kb_Mod_finds 403 = .ok (.imul, 1) := by decide +kernel
theorem dq_Mod_finds_404 : decode kb_Mod_finds 404 = .ok (.iload 10, 2) := by decide +kernel
theorem dq_Mod_finds_406 : decode kb_Mod_finds 406 = .ok (.iadd, 1) := by decide +kernel
theorem dq_Mod_finds_407 : decode kb_Mod_finds 407 = .ok (.istore 12, 2) := by decide +kernel
theorem dq_Mod_finds_409 : decode kb_Mod_finds 409 = .ok (.aload_n 0, 1) := by decide +kernel
theorem dq_Mod_finds_410 : decode kb_Mod_finds 410 = .ok (.getfield 13, 3) := by decide +kernel
theorem dq_Mod_finds_413 : decode kb_Mod_finds 413 = .ok (.iload 11, 2) := by decide +kernel
theorem dq_Mod_finds_415 : decode kb_Mod_finds 415 = .ok (.iload 12, 2) := by decide +kernel
theorem dq_Mod_finds_417 : decode kb_Mod_finds 417 = .ok (.bipush 10, 2) := by decide +kernel
theorem dq_Mod_finds_419 : decode kb_Mod_finds 419 = .ok (.irem, 1) := by decide +kernel
theorem dq_Mod_finds_420 : decode kb_Mod_finds 420 = .ok (.iastore, 1) := by decide +kernel
theorem dq_Mod_finds_421 : decode kb_Mod_finds 421 = .ok (.iload 12, 2) := by decide +kernel
theorem dq_Mod_finds_423 : decode kb_Mod_finds 423 = .ok (.bipush 10, 2) := by decide +kernel
theorem dq_Mod_finds_425 : decode kb_Mod_finds 425 = .ok (.idiv, 1) := by decide +kernel
theorem dq_Mod_finds_426 : decode kb_Mod_finds 426 = .ok (.istore 10, 2) := by decide +kernel
theorem dq_Mod_finds_428 : decode kb_Mod_finds 428 = .ok (.iinc 11 (-1), 3) := by decide +kernel
theorem dq_Mod_finds_431 : decode kb_Mod_finds 431 = .ok (.goto (-41), 3) := by decide +kernel
theorem dq_Mod_finds_434 : decode kb_Mod_finds 434 = .ok (.iload 5, 2) := by decide +kernel
theorem dq_Mod_finds_436 : decode kb_Mod_finds 436 = .ok (.ifCond .ne 11, 3) := by decide +kernel
theorem dq_Mod_finds_439 : decode kb_Mod_finds 439 = .ok (.iload 10, 2) := by decide +kernel
theorem dq_Mod_finds_441 : decode kb_Mod_finds 441 = .ok (.ifCond .ne 6, 3) := by decide +kernel
theorem dq_Mod_finds_444 : decode kb_Mod_finds 444 = .ok (.goto 18, 3) := by decide +kernel
theorem dq_Mod_finds_447 : decode kb_Mod_finds 447 = .ok (.lload_n 3, 1) := by decide +kernel
theorem dq_Mod_finds_448 : decode kb_Mod_finds 448 = .ok (.iconst 1, 1) := by decide +kernel
theorem dq_Mod_finds_449 : decode kb_Mod_finds 449 = .ok (.lshl, 1) := by decide +kernel
theorem dq_Mod_finds_450 : decode kb_Mod_finds 450 = .ok (.iload 10, 2) := by decide +kernel
theorem dq_Mod_finds_452 : decode kb_Mod_finds 452 = .ok (.i2l, 1) := by decide +kernel
theorem dq_Mod_finds_453 : decode kb_Mod_finds 453 = .ok (.lor, 1) := by decide +kernel
theorem dq_Mod_finds_454 : decode kb_Mod_finds 454 = .ok (.lstore_n 3, 1) := by decide +kernel
theorem dq_Mod_finds_455 : decode kb_Mod_finds 455 = .ok (.iinc 5 1, 3) := by decide +kernel
theorem dq_Mod_finds_458 : decode kb_Mod_finds 458 = .ok (.iload 9, 2) := by decide +kernel
theorem dq_Mod_finds_460 : decode kb_Mod_finds 460 = .ok (.istore 6, 2) := by decide +kernel
theorem dq_Mod_finds_462 : decode kb_Mod_finds 462 = .ok (.iinc 9 (-1), 3) := by decide +kernel
theorem dq_Mod_finds_465 : decode kb_Mod_finds 465 = .ok (.goto (-101), 3) := by decide +kernel
theorem dq_Mod_finds_468 : decode kb_Mod_finds 468 = .ok (.iload 7, 2) := by decide +kernel
theorem dq_Mod_finds_470 : decode kb_Mod_finds 470 = .ok (.aload_n 0, 1) := by decide +kernel
theorem dq_Mod_finds_471 : decode kb_Mod_finds 471 = .ok (.iconst 0, 1) := by decide +kernel
theorem dq_Mod_finds_472 : decode kb_Mod_finds 472 = .ok (.aload_n 0, 1) := by decide +kernel
theorem dq_Mod_finds_473 : decode kb_Mod_finds 473 = .ok (.getfield 40, 3) := by decide +kernel
theorem dq_Mod_finds_476 : decode kb_Mod_finds 476 = .ok (.invokevirtual 100, 3) := by decide +kernel
theorem dq_Mod_finds_479 : decode kb_Mod_finds 479 = .ok (.ifCond .ne 7, 3) := by decide +kernel
theorem dq_Mod_finds_482 : decode kb_Mod_finds 482 = .ok (.iconst 1, 1) := by decide +kernel
theorem dq_Mod_finds_483 : decode kb_Mod_finds 483 = .ok (.goto 4, 3) := by decide +kernel
theorem dq_Mod_finds_486 : decode kb_Mod_finds 486 = .ok (.iconst 0, 1) := by decide +kernel
theorem dq_Mod_finds_487 : decode kb_Mod_finds 487 = .ok (.ior, 1) := by decide +kernel
theorem dq_Mod_finds_488 : decode kb_Mod_finds 488 = .ok (.istore 7, 2) := by decide +kernel
theorem dq_Mod_finds_490 : decode kb_Mod_finds 490 = .ok (.iload 5, 2) := by decide +kernel
theorem dq_Mod_finds_492 : decode kb_Mod_finds 492 = .ok (.ifCond .ne 5, 3) := by decide +kernel
theorem dq_Mod_finds_495 : decode kb_Mod_finds 495 = .ok (.iconst 1, 1) := by decide +kernel
theorem dq_Mod_finds_496 : decode kb_Mod_finds 496 = .ok (.ireturn, 1) := by decide +kernel
theorem dq_Mod_finds_497 : decode kb_Mod_finds 497 = .ok (.aload_n 0, 1) := by decide +kernel
theorem dq_Mod_finds_498 : decode kb_Mod_finds 498 = .ok (.lload_n 3, 1) := by decide +kernel
theorem dq_Mod_finds_499 : decode kb_Mod_finds 499 = .ok (.iload 5, 2) := by decide +kernel
theorem dq_Mod_finds_501 : decode kb_Mod_finds 501 = .ok (.iload 6, 2) := by decide +kernel
theorem dq_Mod_finds_503 : decode kb_Mod_finds 503 = .ok (.iload 7, 2) := by decide +kernel
theorem dq_Mod_finds_505 : decode kb_Mod_finds 505 = .ok (.invokevirtual 104, 3) := by decide +kernel
theorem dq_Mod_finds_508 : decode kb_Mod_finds 508 = .ok (.ireturn, 1) := by decide +kernel
theorem dq_Mod_isNothing_0 : decode kb_Mod_isNothing 0 = .ok (.iload_n 1, 1) := by decide +kernel
theorem dq_Mod_isNothing_1 : decode kb_Mod_isNothing 1 = .ok (.istore_n 3, 1) := by decide +kernel
theorem dq_Mod_isNothing_2 : decode kb_Mod_isNothing 2 = .ok (.iload_n 3, 1) := by decide +kernel
theorem dq_Mod_isNothing_3 : decode kb_Mod_isNothing 3 = .ok (.iload_n 2, 1) := by decide +kernel
theorem dq_Mod_isNothing_4 : decode kb_Mod_isNothing 4 = .ok (.if_icmp .ge 20, 3) := by decide +kernel
theorem dq_Mod_isNothing_7 : decode kb_Mod_isNothing 7 = .ok (.aload_n 0, 1) := by decide +kernel
theorem dq_Mod_isNothing_8 : decode kb_Mod_isNothing 8 = .ok (.getfield 13, 3) := by decide +kernel
theorem dq_Mod_isNothing_11 : decode kb_Mod_isNothing 11 = .ok (.iload_n 3, 1) := by decide +kernel
theorem dq_Mod_isNothing_12 : decode kb_Mod_isNothing 12 = .ok (.iaload, 1) := by decide +kernel
theorem dq_Mod_isNothing_13 : decode kb_Mod_isNothing 13 = .ok (.ifCond .eq 5, 3) := by decide +kernel
theorem dq_Mod_isNothing_16 : decode kb_Mod_isNothing 16 = .ok (.iconst 0, 1) := by decide +kernel
theorem dq_Mod_isNothing_17 : decode kb_Mod_isNothing 17 = .ok (.ireturn, 1) := by decide +kernel
theorem dq_Mod_isNothing_18 : decode kb_Mod_isNothing 18 = .ok (.iinc 3 1, 3) := by decide +kernel
theorem dq_Mod_isNothing_21 : decode kb_Mod_isNothing 21 = .ok (.goto (-19), 3) := by decide +kernel
theorem dq_Mod_isNothing_24 : decode kb_Mod_isNothing 24 = .ok (.iconst 1, 1) := by decide +kernel
theorem dq_Mod_isNothing_25 : decode kb_Mod_isNothing 25 = .ok (.ireturn, 1) := by decide +kernel
theorem dq_Mod_put_0 : decode kb_Mod_put 0 = .ok (.iload 4, 2) := by decide +kernel
theorem dq_Mod_put_2 : decode kb_Mod_put 2 = .ok (.iload_n 3, 1) := by decide +kernel
theorem dq_Mod_put_3 : decode kb_Mod_put 3 = .ok (.iadd, 1) := by decide +kernel
theorem dq_Mod_put_4 : decode kb_Mod_put 4 = .ok (.bipush 53, 2) := by decide +kernel
theorem dq_Mod_put_6 : decode kb_Mod_put 6 = .ok (.isub, 1) := by decide +kernel
theorem dq_Mod_put_7 : decode kb_Mod_put 7 = .ok (.sipush (-1074), 3) := by decide +kernel
theorem dq_Mod_put_10 : decode kb_Mod_put 10 = .ok (.if_icmp .ge 9, 3) := by decide +kernel
theorem dq_Mod_put_13 : decode kb_Mod_put 13 = .ok (.sipush (-1074), 3) := by decide +kernel
theorem dq_Mod_put_16 : decode kb_Mod_put 16 = .ok (.goto 10, 3) := by decide +kernel
theorem dq_Mod_put_19 : decode kb_Mod_put 19 = .ok (.iload 4, 2) := by decide +kernel
theorem dq_Mod_put_21 : decode kb_Mod_put 21 = .ok (.iload_n 3, 1) := by decide +kernel
theorem dq_Mod_put_22 : decode kb_Mod_put 22 = .ok (.iadd, 1) := by decide +kernel
theorem dq_Mod_put_23 : decode kb_Mod_put 23 = .ok (.bipush 53, 2) := by decide +kernel
theorem dq_Mod_put_25 : decode kb_Mod_put 25 = .ok (.isub, 1) := by decide +kernel
theorem dq_Mod_put_26 : decode kb_Mod_put 26 = .ok (.istore 6, 2) := by decide +kernel
theorem dq_Mod_put_28 : decode kb_Mod_put 28 = .ok (.lload_n 1, 1) := by decide +kernel
theorem dq_Mod_put_29 : decode kb_Mod_put 29 = .ok (.lstore 7, 2) := by decide +kernel
theorem dq_Mod_put_31 : decode kb_Mod_put 31 = .ok (.iload 5, 2) := by decide +kernel
theorem dq_Mod_put_33 : decode kb_Mod_put 33 = .ok (.istore 9, 2) := by decide +kernel
theorem dq_Mod_put_35 : decode kb_Mod_put 35 = .ok (.iconst 0, 1) := by decide +kernel
theorem dq_Mod_put_36 : decode kb_Mod_put 36 = .ok (.istore 10, 2) := by decide +kernel
theorem dq_Mod_put_38 : decode kb_Mod_put 38 = .ok (.iload 4, 2) := by decide +kernel
theorem dq_Mod_put_40 : decode kb_Mod_put 40 = .ok (.istore 11, 2) := by decide +kernel
theorem dq_Mod_put_42 : decode kb_Mod_put 42 = .ok (.iload 11, 2) := by decide +kernel
theorem dq_Mod_put_44 : decode kb_Mod_put 44 = .ok (.iload 6, 2) := by decide +kernel
theorem dq_Mod_put_46 : decode kb_Mod_put 46 = .ok (.if_icmp .ge 38, 3) := by decide +kernel
theorem dq_Mod_put_49 : decode kb_Mod_put 49 = .ok (.iload 9, 2) := by decide +kernel
theorem dq_Mod_put_51 : decode kb_Mod_put 51 = .ok (.iload 10, 2) := by decide +kernel
theorem dq_Mod_put_53 : decode kb_Mod_put 53 = .ok (.ior, 1) := by decide +kernel
theorem dq_Mod_put_54 : decode kb_Mod_put 54 = .ok (.istore 9, 2) := by decide +kernel
theorem dq_Mod_put_56 : decode kb_Mod_put 56 = .ok (.lload 7, 2) := by decide +kernel
theorem dq_Mod_put_58 : decode kb_Mod_put 58 = .ok (.lconst 1, 1) := by decide +kernel
theorem dq_Mod_put_59 : decode kb_Mod_put 59 = .ok (.land, 1) := by decide +kernel
theorem dq_Mod_put_60 : decode kb_Mod_put 60 = .ok (.lconst 0, 1) := by decide +kernel
theorem dq_Mod_put_61 : decode kb_Mod_put 61 = .ok (.lcmp, 1) := by decide +kernel
theorem dq_Mod_put_62 : decode kb_Mod_put 62 = .ok (.ifCond .eq 7, 3) := by decide +kernel
theorem dq_Mod_put_65 : decode kb_Mod_put 65 = .ok (.iconst 1, 1) := by decide +kernel
theorem dq_Mod_put_66 : decode kb_Mod_put 66 = .ok (.goto 4, 3) := by decide +kernel
theorem dq_Mod_put_69 : decode kb_Mod_put 69 = .ok (.iconst 0, 1) := by decide +kernel
theorem dq_Mod_put_70 : decode kb_Mod_put 70 = .ok (.istore 10, 2) := by decide +kernel
theorem dq_Mod_put_72 : decode kb_Mod_put 72 = .ok (.lload 7, 2) := by decide +kernel
theorem dq_Mod_put_74 : decode kb_Mod_put 74 = .ok (.iconst 1, 1) := by decide +kernel
theorem dq_Mod_put_75 : decode kb_Mod_put 75 = .ok (.lshr, 1) := by decide +kernel
theorem dq_Mod_put_76 : decode kb_Mod_put 76 = .ok (.lstore 7, 2) := by decide +kernel
theorem dq_Mod_put_78 : decode kb_Mod_put 78 = .ok (.iinc 11 1, 3) := by decide +kernel
theorem dq_Mod_put_81 : decode kb_Mod_put 81 = .ok (.goto (-39), 3) := by decide +kernel
theorem dq_Mod_put_84 : decode kb_Mod_put 84 = .ok (.iload 6, 2) := by decide +kernel
theorem dq_Mod_put_86 : decode kb_Mod_put 86 = .ok (.istore 11, 2) := by decide +kernel
theorem dq_Mod_put_88 : decode kb_Mod_put 88 = .ok (.iload 6, 2) := by decide +kernel
theorem dq_Mod_put_90 : decode kb_Mod_put 90 = .ok (.iload 4, 2) := by decide +kernel
theorem dq_Mod_put_92 : decode kb_Mod_put 92 = .ok (.if_icmp .ge 13, 3) := by decide +kernel
theorem dq_Mod_put_95 : decode kb_Mod_put 95 = .ok (.lload 7, 2) := by decide +kernel
theorem dq_Mod_put_97 : decode kb_Mod_put 97 = .ok (.iload 4, 2) := by decide +kernel
theorem dq_Mod_put_99 : decode kb_Mod_put 99 = .ok (.iload 6, 2) := by decide +kernel
theorem dq_Mod_put_101 : decode kb_Mod_put 101 = .ok (.isub, 1) := by decide +kernel
theorem dq_Mod_put_102 : decode kb_Mod_put 102 = .ok (.lshl, 1) := by decide +kernel
theorem dq_Mod_put_103 : decode kb_Mod_put 103 = .ok (.lstore 7, 2) := by decide +kernel
theorem dq_Mod_put_105 : decode kb_Mod_put 105 = .ok (.iload 10, 2) := by decide +kernel
theorem dq_Mod_put_107 : decode kb_Mod_put 107 = .ok (.ifCond .eq 23, 3) := by decide +kernel
theorem dq_Mod_put_110 : decode kb_Mod_put 110 = .ok (.iload 9, 2) := by decide +kernel
theorem dq_Mod_put_112 : decode kb_Mod_put 112 = .ok (.ifCond .ne 12, 3) := by decide +kernel
theorem dq_Mod_put_115 : decode kb_Mod_put 115 = .ok (.lload 7, 2) := by decide +kernel
theorem dq_Mod_put_117 : decode kb_Mod_put 117 = .ok (.lconst 1, 1) := by decide +kernel
theorem dq_Mod_put_118 : decode kb_Mod_put 118 = .ok (.land, 1) := by decide +kernel
theorem dq_Mod_put_119 : decode kb_Mod_put 119 = .ok (.lconst 0, 1) := by decide +kernel
theorem dq_Mod_put_120 : decode kb_Mod_put 120 = .ok (.lcmp, 1) := by decide +kernel
theorem dq_Mod_put_121 : decode kb_Mod_put 121 = .ok (.ifCond .eq 9, 3) := by decide +kernel
theorem dq_Mod_put_124 : decode kb_Mod_put 124 = .ok (.lload 7, 2) := by decide +kernel
theorem dq_Mod_put_126 : decode kb_Mod_put 126 = .ok (.lconst 1, 1) := by decide +kernel
theorem dq_Mod_put_127 : decode kb_Mod_put 127 = .ok (.ladd, 1) := by decide +kernel
theorem dq_Mod_put_128 : decode kb_Mod_put 128 = .ok (.lstore 7, 2) := by decide +kernel
theorem dq_Mod_put_130 : decode kb_Mod_put 130 = .ok (.lload 7, 2) := by decide +kernel
theorem dq_Mod_put_132 : decode kb_Mod_put 132 = .ok (.ldc2_w 108, 3) := by decide +kernel
theorem dq_Mod_put_135 : decode kb_Mod_put 135 = .ok (.lcmp, 1) := by decide +kernel
theorem dq_Mod_put_136 : decode kb_Mod_put 136 = .ok (.ifCond .ne 12, 3) := by decide +kernel
theorem dq_Mod_put_139 : decode kb_Mod_put 139 = .ok (.lload 7, 2) := by decide +kernel
theorem dq_Mod_put_141 : decode kb_Mod_put 141 = .ok (.iconst 1, 1) := by decide +kernel
theorem dq_Mod_put_142 : decode kb_Mod_put 142 = .ok (.lshr, 1) := by decide +kernel
theorem dq_Mod_put_143 : decode kb_Mod_put 143 = .ok (.lstore 7, 2) := by decide +kernel
theorem dq_Mod_put_145 : decode kb_Mod_put 145 = .ok (.iinc 11 1, 3) := by decide +kernel
theorem dq_Mod_put_148 : decode kb_Mod_put 148 = .ok (.iload 11, 2) := by decide +kernel
theorem dq_Mod_put_150 : decode kb_Mod_put 150 = .ok (.sipush 971, 3) := by decide +kernel
theorem dq_Mod_put_153 : decode kb_Mod_put 153 = .ok (.if_icmp .le 5, 3) := by decide +kernel
theorem dq_Mod_put_156 : decode kb_Mod_put 156 = .ok (.iconst 0, 1) := by decide +kernel
theorem dq_Mod_put_157 : decode kb_Mod_put 157 = .ok (.ireturn, 1) := by decide +kernel
theorem dq_Mod_put_158 : decode kb_Mod_put 158 = .ok (.aload_n 0, 1) := by decide +kernel
theorem dq_Mod_put_159 : decode kb_Mod_put 159 = .ok (.lload 7, 2) := by decide +kernel
theorem dq_Mod_put_161 : decode kb_Mod_put 161 = .ok (.ldc2_w 38, 3) := by decide +kernel
theorem dq_Mod_put_164 : decode kb_Mod_put 164 = .ok (.lcmp, 1) := by decide +kernel
theorem dq_Mod_put_165 : decode kb_Mod_put 165 = .ok (.ifCond .ge 8, 3) := by decide +kernel
theorem dq_Mod_put_168 : decode kb_Mod_put 168 = .ok (.lload 7, 2) := by decide +kernel
theorem dq_Mod_put_170 : decode kb_Mod_put 170 = .ok (.goto 20, 3) := by decide +kernel
theorem dq_Mod_put_173 : decode kb_Mod_put 173 = .ok (.lload 7, 2) := by decide +kernel
theorem dq_Mod_put_175 : decode kb_Mod_put 175 = .ok (.ldc2_w 38, 3) := by decide +kernel
theorem dq_Mod_put_178 : decode kb_Mod_put 178 = .ok (.lsub, 1) := by decide +kernel
theorem dq_Mod_put_179 : decode kb_Mod_put 179 = .ok (.iload 11, 2) := by decide +kernel
theorem dq_Mod_put_181 : decode kb_Mod_put 181 = .ok (.sipush 1075, 3) := by decide +kernel
theorem dq_Mod_put_184 : decode kb_Mod_put 184 = .ok (.iadd, 1) := by decide +kernel
theorem dq_Mod_put_185 : decode kb_Mod_put 185 = .ok (.i2l, 1) := by decide +kernel
theorem dq_Mod_put_186 : decode kb_Mod_put 186 = .ok (.bipush 52, 2) := by decide +kernel
theorem dq_Mod_put_188 : decode kb_Mod_put 188 = .ok (.lshl, 1) := by decide +kernel
theorem dq_Mod_put_189 : decode kb_Mod_put 189 = .ok (.lor, 1) := by decide +kernel
theorem dq_Mod_put_190 : decode kb_Mod_put 190 = .ok (.putfield 96, 3) := by decide +kernel
theorem dq_Mod_put_193 : decode kb_Mod_put 193 = .ok (.iconst 1, 1) := by decide +kernel
theorem dq_Mod_put_194 : decode kb_Mod_put 194 = .ok (.ireturn, 1) := by decide +kernel
theorem dq_Mod_nearest_0 : decode kb_Mod_nearest 0 = .ok (.aload_n 0, 1) := by decide +kernel
theorem dq_Mod_nearest_1 : decode kb_Mod_nearest 1 = .ok (.iconst 0, 1) := by decide +kernel
theorem dq_Mod_nearest_2 : decode kb_Mod_nearest 2 = .ok (.putfield 28, 3) := by decide +kernel
theorem dq_Mod_nearest_5 : decode kb_Mod_nearest 5 = .ok (.aload_n 0, 1) := by decide +kernel
theorem dq_Mod_nearest_6 : decode kb_Mod_nearest 6 = .ok (.aload_n 0, 1) := by decide +kernel
theorem dq_Mod_nearest_7 : decode kb_Mod_nearest 7 = .ok (.aload_n 0, 1) := by decide +kernel
theorem dq_Mod_nearest_8 : decode kb_Mod_nearest 8 = .ok (.getfield 61, 3) := by decide +kernel
theorem dq_Mod_nearest_11 : decode kb_Mod_nearest 11 = .ok (.invokevirtual 110, 3) := by decide +kernel
theorem dq_Mod_nearest_14 : decode kb_Mod_nearest 14 = .ok (.ifCond .ne 7, 3) := by decide +kernel
theorem dq_Mod_nearest_17 : decode kb_Mod_nearest 17 = .ok (.iconst 1, 1) := by decide +kernel
theorem dq_Mod_nearest_18 : decode kb_Mod_nearest 18 = .ok (.goto 4, 3) := by decide +kernel
theorem dq_Mod_nearest_21 : decode kb_Mod_nearest 21 = .ok (.iconst 0, 1) := by decide +kernel
theorem dq_Mod_nearest_22 : decode kb_Mod_nearest 22 = .ok (.iconst 1, 1) := by decide +kernel
theorem dq_Mod_nearest_23 : decode kb_Mod_nearest 23 = .ok (.invokevirtual 32, 3) := by decide +kernel
theorem dq_Mod_nearest_26 : decode kb_Mod_nearest 26 = .ok (.ifCond .eq 5, 3) := by decide +kernel
theorem dq_Mod_nearest_29 : decode kb_Mod_nearest 29 = .ok (.lconst 0, 1) := by decide +kernel
theorem dq_Mod_nearest_30 : decode kb_Mod_nearest 30 = .ok (.lreturn, 1) := by decide +kernel
theorem dq_Mod_nearest_31 : decode kb_Mod_nearest 31 = .ok (.aload_n 0, 1) := by decide +kernel
theorem dq_Mod_nearest_32 : decode kb_Mod_nearest 32 = .ok (.getfield 96, 3) := by decide +kernel
theorem dq_Mod_nearest_35 : decode kb_Mod_nearest 35 = .ok (.aload_n 0, 1) := by decide +kernel
theorem dq_Mod_nearest_36 : decode kb_Mod_nearest 36 = .ok (.getfield 54, 3) := by decide +kernel
theorem dq_Mod_nearest_39 : decode kb_Mod_nearest 39 = .ok (.ifCond .eq 9, 3) := by decide +kernel
theorem dq_Mod_nearest_42 : decode kb_Mod_nearest 42 = .ok (.ldc2_w 114, 3) := by decide +kernel
theorem dq_Mod_nearest_45 : decode kb_Mod_nearest 45 = .ok (.goto 4, 3) := by decide +kernel
theorem dq_Mod_nearest_48 : decode kb_Mod_nearest 48 = .ok (.lconst 0, 1) := by decide +kernel
theorem dq_Mod_nearest_49 : decode kb_Mod_nearest 49 = .ok (.lor, 1) := by decide +kernel
theorem dq_Mod_nearest_50 : decode kb_Mod_nearest 50 = .ok (.lreturn, 1) := by decide +kernel
theorem dq_Mod_exactly_0 : decode kb_Mod_exactly 0 = .ok (.aload_n 0, 1) := by decide +kernel
theorem dq_Mod_exactly_1 : decode kb_Mod_exactly 1 = .ok (.iconst 0, 1) := by decide +kernel
theorem dq_Mod_exactly_2 : decode kb_Mod_exactly 2 = .ok (.putfield 40, 3) := by decide +kernel
theorem dq_Mod_exactly_5 : decode kb_Mod_exactly 5 = .ok (.aload_n 0, 1) := by decide +kernel
theorem dq_Mod_exactly_6 : decode kb_Mod_exactly 6 = .ok (.iconst 0, 1) := by decide +kernel
theorem dq_Mod_exactly_7 : decode kb_Mod_exactly 7 = .ok (.putfield 43, 3) := by decide +kernel
theorem dq_Mod_exactly_10 : decode kb_Mod_exactly 10 = .ok (.lload_n 1, 1) := by decide +kernel
theorem dq_Mod_exactly_11 : decode kb_Mod_exactly 11 = .ok (.lstore 4, 2) := by decide +kernel
theorem dq_Mod_exactly_13 : decode kb_Mod_exactly 13 = .ok (.lload 4, 2) := by decide +kernel
theorem dq_Mod_exactly_15 : decode kb_Mod_exactly 15 = .ok (.lconst 0, 1) := by decide +kernel
theorem dq_Mod_exactly_16 : decode kb_Mod_exactly 16 = .ok (.lcmp, 1) := by decide +kernel
theorem dq_Mod_exactly_17 : decode kb_Mod_exactly 17 = .ok (.ifCond .le 24, 3) := by decide +kernel
theorem dq_Mod_exactly_20 : decode kb_Mod_exactly 20 = .ok (.aload_n 0, 1) := by decide +kernel
theorem dq_Mod_exactly_21 : decode kb_Mod_exactly 21 = .ok (.dup, 1) := by decide +kernel
theorem dq_Mod_exactly_22 : decode kb_Mod_exactly 22 = .ok (.getfield 40, 3) := by decide +kernel
theorem dq_Mod_exactly_25 : decode kb_Mod_exactly 25 = .ok (.iconst 1, 1) := by decide +kernel
theorem dq_Mod_exactly_26 : decode kb_Mod_exactly 26 = .ok (.iadd, 1) := by decide +kernel
theorem dq_Mod_exactly_27 : decode kb_Mod_exactly 27 = .ok (.putfield 40, 3) := by decide +kernel
theorem dq_Mod_exactly_30 : decode kb_Mod_exactly 30 = .ok (.lload 4, 2) := by decide +kernel
theorem dq_Mod_exactly_32 : decode kb_Mod_exactly 32 = .ok (.ldc2_w 46, 3) := by decide +kernel
theorem dq_Mod_exactly_35 : decode kb_Mod_exactly 35 = .ok (.ldiv, 1) := by decide +kernel
theorem dq_Mod_exactly_36 : decode kb_Mod_exactly 36 = .ok (.lstore 4, 2) := by decide +kernel
theorem dq_Mod_exactly_38 : decode kb_Mod_exactly 38 = .ok (.goto (-25), 3) := by decide +kernel
theorem dq_Mod_exactly_41 : decode kb_Mod_exactly 41 = .ok (.lload_n 1, 1) := by decide +kernel
theorem dq_Mod_exactly_42 : decode kb_Mod_exactly 42 = .ok (.lstore 4, 2) := by decide +kernel
theorem dq_Mod_exactly_44 : decode kb_Mod_exactly 44 = .ok (.aload_n 0, 1) := by decide +kernel
theorem dq_Mod_exactly_45 : decode kb_Mod_exactly 45 = .ok (.getfield 40, 3) := by decide +kernel
