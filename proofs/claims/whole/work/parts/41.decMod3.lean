theorem dq_Mod_exactly_48 : decode kb_Mod_exactly 48 = .ok (.iconst 1, 1) := by decide +kernel
theorem dq_Mod_exactly_49 : decode kb_Mod_exactly 49 = .ok (.isub, 1) := by decide +kernel
theorem dq_Mod_exactly_50 : decode kb_Mod_exactly 50 = .ok (.istore 6, 2) := by decide +kernel
theorem dq_Mod_exactly_52 : decode kb_Mod_exactly 52 = .ok (.iload 6, 2) := by decide +kernel
theorem dq_Mod_exactly_54 : decode kb_Mod_exactly 54 = .ok (.ifCond .lt 31, 3) := by decide +kernel
theorem dq_Mod_exactly_57 : decode kb_Mod_exactly 57 = .ok (.aload_n 0, 1) := by decide +kernel
theorem dq_Mod_exactly_58 : decode kb_Mod_exactly 58 = .ok (.getfield 13, 3) := by decide +kernel
theorem dq_Mod_exactly_61 : decode kb_Mod_exactly 61 = .ok (.iload 6, 2) := by decide +kernel
theorem dq_Mod_exactly_63 : decode kb_Mod_exactly 63 = .ok (.lload 4, 2) := by decide +kernel
theorem dq_Mod_exactly_65 : decode kb_Mod_exactly 65 = .ok (.ldc2_w 46, 3) := by decide +kernel
theorem dq_Mod_exactly_68 : decode kb_Mod_exactly 68 = .ok (.lrem, 1) := by decide +kernel
theorem dq_Mod_exactly_69 : decode kb_Mod_exactly 69 = .ok (.l2i, 1) := by decide +kernel
theorem dq_Mod_exactly_70 : decode kb_Mod_exactly 70 = .ok (.iastore, 1) := by decide +kernel
theorem dq_Mod_exactly_71 : decode kb_Mod_exactly 71 = .ok (.lload 4, 2) := by decide +kernel
theorem dq_Mod_exactly_73 : decode kb_Mod_exactly 73 = .ok (.ldc2_w 46, 3) := by decide +kernel
theorem dq_Mod_exactly_76 : decode kb_Mod_exactly 76 = .ok (.ldiv, 1) := by decide +kernel
theorem dq_Mod_exactly_77 : decode kb_Mod_exactly 77 = .ok (.lstore 4, 2) := by decide +kernel
theorem dq_Mod_exactly_79 : decode kb_Mod_exactly 79 = .ok (.iinc 6 (-1), 3) := by decide +kernel
theorem dq_Mod_exactly_82 : decode kb_Mod_exactly 82 = .ok (.goto (-30), 3) := by decide +kernel
theorem dq_Mod_exactly_85 : decode kb_Mod_exactly 85 = .ok (.iload_n 3, 1) := by decide +kernel
theorem dq_Mod_exactly_86 : decode kb_Mod_exactly 86 = .ok (.istore 6, 2) := by decide +kernel
theorem dq_Mod_exactly_88 : decode kb_Mod_exactly 88 = .ok (.iload 6, 2) := by decide +kernel
theorem dq_Mod_exactly_90 : decode kb_Mod_exactly 90 = .ok (.ifCond .le 13, 3) := by decide +kernel
theorem dq_Mod_exactly_93 : decode kb_Mod_exactly 93 = .ok (.aload_n 0, 1) := by decide +kernel
theorem dq_Mod_exactly_94 : decode kb_Mod_exactly 94 = .ok (.invokevirtual 48, 3) := by decide +kernel
theorem dq_Mod_exactly_97 : decode kb_Mod_exactly 97 = .ok (.iinc 6 (-1), 3) := by decide +kernel
theorem dq_Mod_exactly_100 : decode kb_Mod_exactly 100 = .ok (.goto (-12), 3) := by decide +kernel
theorem dq_Mod_exactly_103 : decode kb_Mod_exactly 103 = .ok (.iload_n 3, 1) := by decide +kernel
theorem dq_Mod_exactly_104 : decode kb_Mod_exactly 104 = .ok (.istore 6, 2) := by decide +kernel
theorem dq_Mod_exactly_106 : decode kb_Mod_exactly 106 = .ok (.iload 6, 2) := by decide +kernel
theorem dq_Mod_exactly_108 : decode kb_Mod_exactly 108 = .ok (.ifCond .ge 13, 3) := by decide +kernel
theorem dq_Mod_exactly_111 : decode kb_Mod_exactly 111 = .ok (.aload_n 0, 1) := by decide +kernel
theorem dq_Mod_exactly_112 : decode kb_Mod_exactly 112 = .ok (.invokevirtual 51, 3) := by decide +kernel
theorem dq_Mod_exactly_115 : decode kb_Mod_exactly 115 = .ok (.iinc 6 1, 3) := by decide +kernel
theorem dq_Mod_exactly_118 : decode kb_Mod_exactly 118 = .ok (.goto (-12), 3) := by decide +kernel
theorem dq_Mod_exactly_121 : decode kb_Mod_exactly 121 = .ok (.aload_n 0, 1) := by decide +kernel
theorem dq_Mod_exactly_122 : decode kb_Mod_exactly 122 = .ok (.getfield 40, 3) := by decide +kernel
theorem dq_Mod_exactly_125 : decode kb_Mod_exactly 125 = .ok (.ifCond .le 40, 3) := by decide +kernel
theorem dq_Mod_exactly_128 : decode kb_Mod_exactly 128 = .ok (.aload_n 0, 1) := by decide +kernel
theorem dq_Mod_exactly_129 : decode kb_Mod_exactly 129 = .ok (.getfield 13, 3) := by decide +kernel
theorem dq_Mod_exactly_132 : decode kb_Mod_exactly 132 = .ok (.aload_n 0, 1) := by decide +kernel
theorem dq_Mod_exactly_133 : decode kb_Mod_exactly 133 = .ok (.getfield 40, 3) := by decide +kernel
theorem dq_Mod_exactly_136 : decode kb_Mod_exactly 136 = .ok (.iconst 1, 1) := by decide +kernel
theorem dq_Mod_exactly_137 : decode kb_Mod_exactly 137 = .ok (.isub, 1) := by decide +kernel
theorem dq_Mod_exactly_138 : decode kb_Mod_exactly 138 = .ok (.iaload, 1) := by decide +kernel
theorem dq_Mod_exactly_139 : decode kb_Mod_exactly 139 = .ok (.ifCond .ne 26, 3) := by decide +kernel
theorem dq_Mod_exactly_142 : decode kb_Mod_exactly 142 = .ok (.aload_n 0, 1) := by decide +kernel
theorem dq_Mod_exactly_143 : decode kb_Mod_exactly 143 = .ok (.dup, 1) := by decide +kernel
theorem dq_Mod_exactly_144 : decode kb_Mod_exactly 144 = .ok (.getfield 40, 3) := by decide +kernel
theorem dq_Mod_exactly_147 : decode kb_Mod_exactly 147 = .ok (.iconst 1, 1) := by decide +kernel
theorem dq_Mod_exactly_148 : decode kb_Mod_exactly 148 = .ok (.isub, 1) := by decide +kernel
theorem dq_Mod_exactly_149 : decode kb_Mod_exactly 149 = .ok (.putfield 40, 3) := by decide +kernel
theorem dq_Mod_exactly_152 : decode kb_Mod_exactly 152 = .ok (.aload_n 0, 1) := by decide +kernel
theorem dq_Mod_exactly_153 : decode kb_Mod_exactly 153 = .ok (.dup, 1) := by decide +kernel
theorem dq_Mod_exactly_154 : decode kb_Mod_exactly 154 = .ok (.getfield 43, 3) := by decide +kernel
theorem dq_Mod_exactly_157 : decode kb_Mod_exactly 157 = .ok (.iconst 1, 1) := by decide +kernel
theorem dq_Mod_exactly_158 : decode kb_Mod_exactly 158 = .ok (.isub, 1) := by decide +kernel
theorem dq_Mod_exactly_159 : decode kb_Mod_exactly 159 = .ok (.putfield 43, 3) := by decide +kernel
theorem dq_Mod_exactly_162 : decode kb_Mod_exactly 162 = .ok (.goto (-41), 3) := by decide +kernel
theorem dq_Mod_exactly_165 : decode kb_Mod_exactly 165 = .ok (.return_, 1) := by decide +kernel
theorem dq_Mod_compare_0 : decode kb_Mod_compare 0 = .ok (.aload_n 0, 1) := by decide +kernel
theorem dq_Mod_compare_1 : decode kb_Mod_compare 1 = .ok (.getfield 61, 3) := by decide +kernel
theorem dq_Mod_compare_4 : decode kb_Mod_compare 4 = .ok (.ifCond .eq 7, 3) := by decide +kernel
theorem dq_Mod_compare_7 : decode kb_Mod_compare 7 = .ok (.iload_n 2, 1) := by decide +kernel
theorem dq_Mod_compare_8 : decode kb_Mod_compare 8 = .ok (.ifCond .ne 28, 3) := by decide +kernel
theorem dq_Mod_compare_11 : decode kb_Mod_compare 11 = .ok (.aload_n 0, 1) := by decide +kernel
theorem dq_Mod_compare_12 : decode kb_Mod_compare 12 = .ok (.getfield 61, 3) := by decide +kernel
theorem dq_Mod_compare_15 : decode kb_Mod_compare 15 = .ok (.iload_n 2, 1) := by decide +kernel
theorem dq_Mod_compare_16 : decode kb_Mod_compare 16 = .ok (.if_icmp .ne 7, 3) := by decide +kernel
theorem dq_Mod_compare_19 : decode kb_Mod_compare 19 = .ok (.iconst 0, 1) := by decide +kernel
theorem dq_Mod_compare_20 : decode kb_Mod_compare 20 = .ok (.goto 15, 3) := by decide +kernel
theorem dq_Mod_compare_23 : decode kb_Mod_compare 23 = .ok (.aload_n 0, 1) := by decide +kernel
theorem dq_Mod_compare_24 : decode kb_Mod_compare 24 = .ok (.getfield 61, 3) := by decide +kernel
theorem dq_Mod_compare_27 : decode kb_Mod_compare 27 = .ok (.ifCond .ne 7, 3) := by decide +kernel
theorem dq_Mod_compare_30 : decode kb_Mod_compare 30 = .ok (.iconst (-1), 1) := by decide +kernel
theorem dq_Mod_compare_31 : decode kb_Mod_compare 31 = .ok (.goto 4, 3) := by decide +kernel
theorem dq_Mod_compare_34 : decode kb_Mod_compare 34 = .ok (.iconst 1, 1) := by decide +kernel
theorem dq_Mod_compare_35 : decode kb_Mod_compare 35 = .ok (.ireturn, 1) := by decide +kernel
theorem dq_Mod_compare_36 : decode kb_Mod_compare 36 = .ok (.aload_n 0, 1) := by decide +kernel
theorem dq_Mod_compare_37 : decode kb_Mod_compare 37 = .ok (.getfield 64, 3) := by decide +kernel
theorem dq_Mod_compare_40 : decode kb_Mod_compare 40 = .ok (.iload_n 3, 1) := by decide +kernel
theorem dq_Mod_compare_41 : decode kb_Mod_compare 41 = .ok (.if_icmp .eq 17, 3) := by decide +kernel
theorem dq_Mod_compare_44 : decode kb_Mod_compare 44 = .ok (.aload_n 0, 1) := by decide +kernel
theorem dq_Mod_compare_45 : decode kb_Mod_compare 45 = .ok (.getfield 64, 3) := by decide +kernel
theorem dq_Mod_compare_48 : decode kb_Mod_compare 48 = .ok (.iload_n 3, 1) := by decide +kernel
theorem dq_Mod_compare_49 : decode kb_Mod_compare 49 = .ok (.if_icmp .ge 7, 3) := by decide +kernel
theorem dq_Mod_compare_52 : decode kb_Mod_compare 52 = .ok (.iconst (-1), 1) := by decide +kernel
theorem dq_Mod_compare_53 : decode kb_Mod_compare 53 = .ok (.goto 4, 3) := by decide +kernel
theorem dq_Mod_compare_56 : decode kb_Mod_compare 56 = .ok (.iconst 1, 1) := by decide +kernel
theorem dq_Mod_compare_57 : decode kb_Mod_compare 57 = .ok (.ireturn, 1) := by decide +kernel
theorem dq_Mod_compare_58 : decode kb_Mod_compare 58 = .ok (.iconst 0, 1) := by decide +kernel
theorem dq_Mod_compare_59 : decode kb_Mod_compare 59 = .ok (.istore 4, 2) := by decide +kernel
theorem dq_Mod_compare_61 : decode kb_Mod_compare 61 = .ok (.iload 4, 2) := by decide +kernel
theorem dq_Mod_compare_63 : decode kb_Mod_compare 63 = .ok (.aload_n 0, 1) := by decide +kernel
theorem dq_Mod_compare_64 : decode kb_Mod_compare 64 = .ok (.getfield 61, 3) := by decide +kernel
theorem dq_Mod_compare_67 : decode kb_Mod_compare 67 = .ok (.if_icmp .lt 9, 3) := by decide +kernel
theorem dq_Mod_compare_70 : decode kb_Mod_compare 70 = .ok (.iload 4, 2) := by decide +kernel
theorem dq_Mod_compare_72 : decode kb_Mod_compare 72 = .ok (.iload_n 2, 1) := by decide +kernel
theorem dq_Mod_compare_73 : decode kb_Mod_compare 73 = .ok (.if_icmp .ge 67, 3) := by decide +kernel
theorem dq_Mod_compare_76 : decode kb_Mod_compare 76 = .ok (.iload 4, 2) := by decide +kernel
theorem dq_Mod_compare_78 : decode kb_Mod_compare 78 = .ok (.aload_n 0, 1) := by decide +kernel
theorem dq_Mod_compare_79 : decode kb_Mod_compare 79 = .ok (.getfield 61, 3) := by decide +kernel
theorem dq_Mod_compare_82 : decode kb_Mod_compare 82 = .ok (.if_icmp .ge 13, 3) := by decide +kernel
theorem dq_Mod_compare_85 : decode kb_Mod_compare 85 = .ok (.aload_n 0, 1) := by decide +kernel
theorem dq_Mod_compare_86 : decode kb_Mod_compare 86 = .ok (.getfield 9, 3) := by decide +kernel
theorem dq_Mod_compare_89 : decode kb_Mod_compare 89 = .ok (.iload 4, 2) := by decide +kernel
theorem dq_Mod_compare_91 : decode kb_Mod_compare 91 = .ok (.iaload, 1) := by decide +kernel
theorem dq_Mod_compare_92 : decode kb_Mod_compare 92 = .ok (.goto 4, 3) := by decide +kernel
theorem dq_Mod_compare_95 : decode kb_Mod_compare 95 = .ok (.iconst 0, 1) := by decide +kernel
theorem dq_Mod_compare_96 : decode kb_Mod_compare 96 = .ok (.istore 5, 2) := by decide +kernel
theorem dq_Mod_compare_98 : decode kb_Mod_compare 98 = .ok (.iload 4, 2) := by decide +kernel
theorem dq_Mod_compare_100 : decode kb_Mod_compare 100 = .ok (.iload_n 2, 1) := by decide +kernel
theorem dq_Mod_compare_101 : decode kb_Mod_compare 101 = .ok (.if_icmp .ge 10, 3) := by decide +kernel
theorem dq_Mod_compare_104 : decode kb_Mod_compare 104 = .ok (.aload_n 1, 1) := by decide +kernel
theorem dq_Mod_compare_105 : decode kb_Mod_compare 105 = .ok (.iload 4, 2) := by decide +kernel
theorem dq_Mod_compare_107 : decode kb_Mod_compare 107 = .ok (.iaload, 1) := by decide +kernel
theorem dq_Mod_compare_108 : decode kb_Mod_compare 108 = .ok (.goto 4, 3) := by decide +kernel
theorem dq_Mod_compare_111 : decode kb_Mod_compare 111 = .ok (.iconst 0, 1) := by decide +kernel
theorem dq_Mod_compare_112 : decode kb_Mod_compare 112 = .ok (.istore 6, 2) := by decide +kernel
theorem dq_Mod_compare_114 : decode kb_Mod_compare 114 = .ok (.iload 5, 2) := by decide +kernel
theorem dq_Mod_compare_116 : decode kb_Mod_compare 116 = .ok (.iload 6, 2) := by decide +kernel
theorem dq_Mod_compare_118 : decode kb_Mod_compare 118 = .ok (.if_icmp .eq 16, 3) := by decide +kernel
theorem dq_Mod_compare_121 : decode kb_Mod_compare 121 = .ok (.iload 5, 2) := by decide +kernel
theorem dq_Mod_compare_123 : decode kb_Mod_compare 123 = .ok (.iload 6, 2) := by decide +kernel
theorem dq_Mod_compare_125 : decode kb_Mod_compare 125 = .ok (.if_icmp .ge 7, 3) := by decide +kernel
theorem dq_Mod_compare_128 : decode kb_Mod_compare 128 = .ok (.iconst (-1), 1) := by decide +kernel
theorem dq_Mod_compare_129 : decode kb_Mod_compare 129 = .ok (.goto 4, 3) := by decide +kernel
theorem dq_Mod_compare_132 : decode kb_Mod_compare 132 = .ok (.iconst 1, 1) := by decide +kernel
theorem dq_Mod_compare_133 : decode kb_Mod_compare 133 = .ok (.ireturn, 1) := by decide +kernel
theorem dq_Mod_compare_134 : decode kb_Mod_compare 134 = .ok (.iinc 4 1, 3) := by decide +kernel
theorem dq_Mod_compare_137 : decode kb_Mod_compare 137 = .ok (.goto (-76), 3) := by decide +kernel
theorem dq_Mod_compare_140 : decode kb_Mod_compare 140 = .ok (.iconst 0, 1) := by decide +kernel
theorem dq_Mod_compare_141 : decode kb_Mod_compare 141 = .ok (.ireturn, 1) := by decide +kernel
theorem dq_Mod_enough_0 : decode kb_Mod_enough 0 = .ok (.aload_n 0, 1) := by decide +kernel
theorem dq_Mod_enough_1 : decode kb_Mod_enough 1 = .ok (.iconst 0, 1) := by decide +kernel
theorem dq_Mod_enough_2 : decode kb_Mod_enough 2 = .ok (.putfield 28, 3) := by decide +kernel
theorem dq_Mod_enough_5 : decode kb_Mod_enough 5 = .ok (.aload_n 0, 1) := by decide +kernel
theorem dq_Mod_enough_6 : decode kb_Mod_enough 6 = .ok (.aload_n 0, 1) := by decide +kernel
theorem dq_Mod_enough_7 : decode kb_Mod_enough 7 = .ok (.aload_n 0, 1) := by decide +kernel
theorem dq_Mod_enough_8 : decode kb_Mod_enough 8 = .ok (.getfield 61, 3) := by decide +kernel
theorem dq_Mod_enough_11 : decode kb_Mod_enough 11 = .ok (.invokevirtual 110, 3) := by decide +kernel
theorem dq_Mod_enough_14 : decode kb_Mod_enough 14 = .ok (.ifCond .ne 7, 3) := by decide +kernel
theorem dq_Mod_enough_17 : decode kb_Mod_enough 17 = .ok (.iconst 1, 1) := by decide +kernel
theorem dq_Mod_enough_18 : decode kb_Mod_enough 18 = .ok (.goto 4, 3) := by decide +kernel
theorem dq_Mod_enough_21 : decode kb_Mod_enough 21 = .ok (.iconst 0, 1) := by decide +kernel
theorem dq_Mod_enough_22 : decode kb_Mod_enough 22 = .ok (.iconst 1, 1) := by decide +kernel
theorem dq_Mod_enough_23 : decode kb_Mod_enough 23 = .ok (.invokevirtual 32, 3) := by decide +kernel
theorem dq_Mod_enough_26 : decode kb_Mod_enough 26 = .ok (.ifCond .eq 5, 3) := by decide +kernel
theorem dq_Mod_enough_29 : decode kb_Mod_enough 29 = .ok (.iconst 0, 1) := by decide +kernel
theorem dq_Mod_enough_30 : decode kb_Mod_enough 30 = .ok (.ireturn, 1) := by decide +kernel
theorem dq_Mod_enough_31 : decode kb_Mod_enough 31 = .ok (.aload_n 0, 1) := by decide +kernel
theorem dq_Mod_enough_32 : decode kb_Mod_enough 32 = .ok (.getfield 96, 3) := by decide +kernel
theorem dq_Mod_enough_35 : decode kb_Mod_enough 35 = .ok (.bipush 52, 2) := by decide +kernel
theorem dq_Mod_enough_37 : decode kb_Mod_enough 37 = .ok (.lushr, 1) := by decide +kernel
theorem dq_Mod_enough_38 : decode kb_Mod_enough 38 = .ok (.l2i, 1) := by decide +kernel
theorem dq_Mod_enough_39 : decode kb_Mod_enough 39 = .ok (.istore_n 1, 1) := by decide +kernel
theorem dq_Mod_enough_40 : decode kb_Mod_enough 40 = .ok (.iload_n 1, 1) := by decide +kernel
theorem dq_Mod_enough_41 : decode kb_Mod_enough 41 = .ok (.ifCond .le 7, 3) := by decide +kernel
theorem dq_Mod_enough_44 : decode kb_Mod_enough 44 = .ok (.iload_n 1, 1) := by decide +kernel
theorem dq_Mod_enough_45 : decode kb_Mod_enough 45 = .ok (.goto 4, 3) := by decide +kernel
theorem dq_Mod_enough_48 : decode kb_Mod_enough 48 = .ok (.iconst 1, 1) := by decide +kernel
theorem dq_Mod_enough_49 : decode kb_Mod_enough 49 = .ok (.sipush 1075, 3) := by decide +kernel
theorem dq_Mod_enough_52 : decode kb_Mod_enough 52 = .ok (.isub, 1) := by decide +kernel
theorem dq_Mod_enough_53 : decode kb_Mod_enough 53 = .ok (.istore_n 2, 1) := by decide +kernel
theorem dq_Mod_enough_54 : decode kb_Mod_enough 54 = .ok (.aload_n 0, 1) := by decide +kernel
theorem dq_Mod_enough_55 : decode kb_Mod_enough 55 = .ok (.getfield 96, 3) := by decide +kernel
theorem dq_Mod_enough_58 : decode kb_Mod_enough 58 = .ok (.ldc2_w 36, 3) := by decide +kernel
theorem dq_Mod_enough_61 : decode kb_Mod_enough 61 = .ok (.land, 1) := by decide +kernel
theorem dq_Mod_enough_62 : decode kb_Mod_enough 62 = .ok (.iload_n 1, 1) := by decide +kernel
theorem dq_Mod_enough_63 : decode kb_Mod_enough 63 = .ok (.ifCond .le 9, 3) := by decide +kernel
theorem dq_Mod_enough_66 : decode kb_Mod_enough 66 = .ok (.ldc2_w 38, 3) := by decide +kernel
theorem dq_Mod_enough_69 : decode kb_Mod_enough 69 = .ok (.goto 4, 3) := by decide +kernel
theorem dq_Mod_enough_72 : decode kb_Mod_enough 72 = .ok (.lconst 0, 1) := by decide +kernel
theorem dq_Mod_enough_73 : decode kb_Mod_enough 73 = .ok (.lor, 1) := by decide +kernel
theorem dq_Mod_enough_74 : decode kb_Mod_enough 74 = .ok (.lstore_n 3, 1) := by decide +kernel
theorem dq_Mod_enough_75 : decode kb_Mod_enough 75 = .ok (.lload_n 3, 1) := by decide +kernel
theorem dq_Mod_enough_76 : decode kb_Mod_enough 76 = .ok (.lconst 1, 1) := by decide +kernel
theorem dq_Mod_enough_77 : decode kb_Mod_enough 77 = .ok (.land, 1) := by decide +kernel
theorem dq_Mod_enough_78 : decode kb_Mod_enough 78 = .ok (.lconst 0, 1) := by decide +kernel
theorem dq_Mod_enough_79 : decode kb_Mod_enough 79 = .ok (.lcmp, 1) := by decide +kernel
theorem dq_Mod_enough_80 : decode kb_Mod_enough 80 = .ok (.ifCond .ne 7, 3) := by decide +kernel
theorem dq_Mod_enough_83 : decode kb_Mod_enough 83 = .ok (.iconst 1, 1) := by decide +kernel
theorem dq_Mod_enough_84 : decode kb_Mod_enough 84 = .ok (.goto 4, 3) := by decide +kernel
theorem dq_Mod_enough_87 : decode kb_Mod_enough 87 = .ok (.iconst 0, 1) := by decide +kernel
theorem dq_Mod_enough_88 : decode kb_Mod_enough 88 = .ok (.istore 5, 2) := by decide +kernel
theorem dq_Mod_enough_90 : decode kb_Mod_enough 90 = .ok (.aload_n 0, 1) := by decide +kernel
theorem dq_Mod_enough_91 : decode kb_Mod_enough 91 = .ok (.ldc2_w 116, 3) := by decide +kernel
theorem dq_Mod_enough_94 : decode kb_Mod_enough 94 = .ok (.lload_n 3, 1) := by decide +kernel
theorem dq_Mod_enough_95 : decode kb_Mod_enough 95 = .ok (.lmul, 1) := by decide +kernel
theorem dq_Mod_enough_96 : decode kb_Mod_enough 96 = .ok (.lconst 1, 1) := by decide +kernel
theorem dq_Mod_enough_97 : decode kb_Mod_enough 97 = .ok (.ladd, 1) := by decide +kernel
theorem dq_Mod_enough_98 : decode kb_Mod_enough 98 = .ok (.iload_n 2, 1) := by decide +kernel
theorem dq_Mod_enough_99 : decode kb_Mod_enough 99 = .ok (.iconst 1, 1) := by decide +kernel
theorem dq_Mod_enough_100 : decode kb_Mod_enough 100 = .ok (.isub, 1) := by decide +kernel
theorem dq_Mod_enough_101 : decode kb_Mod_enough 101 = .ok (.invokevirtual 118, 3) := by decide +kernel
theorem dq_Mod_enough_104 : decode kb_Mod_enough 104 = .ok (.aload_n 0, 1) := by decide +kernel
theorem dq_Mod_enough_105 : decode kb_Mod_enough 105 = .ok (.aload_n 0, 1) := by decide +kernel
theorem dq_Mod_enough_106 : decode kb_Mod_enough 106 = .ok (.getfield 40, 3) := by decide +kernel
theorem dq_Mod_enough_109 : decode kb_Mod_enough 109 = .ok (.putfield 122, 3) := by decide +kernel
theorem dq_Mod_enough_112 : decode kb_Mod_enough 112 = .ok (.aload_n 0, 1) := by decide +kernel
theorem dq_Mod_enough_113 : decode kb_Mod_enough 113 = .ok (.aload_n 0, 1) := by decide +kernel
theorem dq_Mod_enough_114 : decode kb_Mod_enough 114 = .ok (.getfield 40, 3) := by decide +kernel
theorem dq_Mod_enough_117 : decode kb_Mod_enough 117 = .ok (.aload_n 0, 1) := by decide +kernel
theorem dq_Mod_enough_118 : decode kb_Mod_enough 118 = .ok (.getfield 43, 3) := by decide +kernel
theorem dq_Mod_enough_121 : decode kb_Mod_enough 121 = .ok (.isub, 1) := by decide +kernel
theorem dq_Mod_enough_122 : decode kb_Mod_enough 122 = .ok (.putfield 125, 3) := by decide +kernel
theorem dq_Mod_enough_125 : decode kb_Mod_enough 125 = .ok (.iconst 0, 1) := by decide +kernel
theorem dq_Mod_enough_126 : decode kb_Mod_enough 126 = .ok (.istore 6, 2) := by decide +kernel
theorem dq_Mod_enough_128 : decode kb_Mod_enough 128 = .ok (.iload 6, 2) := by decide +kernel
theorem dq_Mod_enough_130 : decode kb_Mod_enough 130 = .ok (.aload_n 0, 1) := by decide +kernel
theorem dq_Mod_enough_131 : decode kb_Mod_enough 131 = .ok (.getfield 40, 3) := by decide +kernel
theorem dq_Mod_enough_134 : decode kb_Mod_enough 134 = .ok (.if_icmp .ge 23, 3) := by decide +kernel
theorem dq_Mod_enough_137 : decode kb_Mod_enough 137 = .ok (.aload_n 0, 1) := by decide +kernel
theorem dq_Mod_enough_138 : decode kb_Mod_enough 138 = .ok (.getfield 25, 3) := by decide +kernel
theorem dq_Mod_enough_141 : decode kb_Mod_enough 141 = .ok (.iload 6, 2) := by decide +kernel
theorem dq_Mod_enough_143 : decode kb_Mod_enough 143 = .ok (.aload_n 0, 1) := by decide +kernel
theorem dq_Mod_enough_144 : decode kb_Mod_enough 144 = .ok (.getfield 13, 3) := by decide +kernel
theorem dq_Mod_enough_147 : decode kb_Mod_enough 147 = .ok (.iload 6, 2) := by decide +kernel
theorem dq_Mod_enough_149 : decode kb_Mod_enough 149 = .ok (.iaload, 1) := by decide +kernel
theorem dq_Mod_enough_150 : decode kb_Mod_enough 150 = .ok (.iastore, 1) := by decide +kernel
theorem dq_Mod_enough_151 : decode kb_Mod_enough 151 = .ok (.iinc 6 1, 3) := by decide +kernel
theorem dq_Mod_enough_154 : decode kb_Mod_enough 154 = .ok (.goto (-26), 3) := by decide +kernel
theorem dq_Mod_enough_157 : decode kb_Mod_enough 157 = .ok (.lload_n 3, 1) := by decide +kernel
theorem dq_Mod_enough_158 : decode kb_Mod_enough 158 = .ok (.ldc2_w 38, 3) := by decide +kernel
theorem dq_Mod_enough_161 : decode kb_Mod_enough 161 = .ok (.lcmp, 1) := by decide +kernel
theorem dq_Mod_enough_162 : decode kb_Mod_enough 162 = .ok (.ifCond .ne 12, 3) := by decide +kernel
theorem dq_Mod_enough_165 : decode kb_Mod_enough 165 = .ok (.iload_n 1, 1) := by decide +kernel
theorem dq_Mod_enough_166 : decode kb_Mod_enough 166 = .ok (.iconst 1, 1) := by decide +kernel
theorem dq_Mod_enough_167 : decode kb_Mod_enough 167 = .ok (.if_icmp .le 7, 3) := by decide +kernel
theorem dq_Mod_enough_170 : decode kb_Mod_enough 170 = .ok (.iconst 1, 1) := by decide +kernel
theorem dq_Mod_enough_171 : decode kb_Mod_enough 171 = .ok (.goto 4, 3) := by decide +kernel
theorem dq_Mod_enough_174 : decode kb_Mod_enough 174 = .ok (.iconst 0, 1) := by decide +kernel
theorem dq_Mod_enough_175 : decode kb_Mod_enough 175 = .ok (.istore 6, 2) := by decide +kernel
theorem dq_Mod_enough_177 : decode kb_Mod_enough 177 = .ok (.lload_n 3, 1) := by decide +kernel
theorem dq_Mod_enough_178 : decode kb_Mod_enough 178 = .ok (.lconst 0, 1) := by decide +kernel
theorem dq_Mod_enough_179 : decode kb_Mod_enough 179 = .ok (.lcmp, 1) := by decide +kernel
theorem dq_Mod_enough_180 : decode kb_Mod_enough 180 = .ok (.ifCond .le 43, 3) := by decide +kernel
theorem dq_Mod_enough_183 : decode kb_Mod_enough 183 = .ok (.aload_n 0, 1) := by decide +kernel
theorem dq_Mod_enough_184 : decode kb_Mod_enough 184 = .ok (.iload 6, 2) := by decide +kernel
theorem dq_Mod_enough_186 : decode kb_Mod_enough 186 = .ok (.ifCond .eq 13, 3) := by decide +kernel
theorem dq_Mod_enough_189 : decode kb_Mod_enough 189 = .ok (.ldc2_w 128, 3) := by decide +kernel
theorem dq_Mod_enough_192 : decode kb_Mod_enough 192 = .ok (.lload_n 3, 1) := by decide +kernel
theorem dq_Mod_enough_193 : decode kb_Mod_enough 193 = .ok (.lmul, 1) := by decide +kernel
theorem dq_Mod_enough_194 : decode kb_Mod_enough 194 = .ok (.lconst 1, 1) := by decide +kernel
theorem dq_Mod_enough_195 : decode kb_Mod_enough 195 = .ok (.lsub, 1) := by decide +kernel
theorem dq_Mod_enough_196 : decode kb_Mod_enough 196 = .ok (.goto 10, 3) := by decide +kernel
theorem dq_Mod_enough_199 : decode kb_Mod_enough 199 = .ok (.ldc2_w 116, 3) := by decide +kernel
theorem dq_Mod_enough_202 : decode kb_Mod_enough 202 = .ok (.lload_n 3, 1) := by decide +kernel
theorem dq_Mod_enough_203 : decode kb_Mod_enough 203 = .ok (.lmul, 1) := by decide +kernel
theorem dq_Mod_enough_204 : decode kb_Mod_enough 204 = .ok (.lconst 1, 1) := by decide +kernel
theorem dq_Mod_enough_205 : decode kb_Mod_enough 205 = .ok (.lsub, 1) := by decide +kernel
theorem dq_Mod_enough_206 : decode kb_Mod_enough 206 = .ok (.iload 6, 2) := by decide +kernel
theorem dq_Mod_enough_208 : decode kb_Mod_enough 208 = .ok (.ifCond .eq 9, 3) := by decide +kernel
theorem dq_Mod_enough_211 : decode kb_Mod_enough 211 = .ok (.iload_n 2, 1) := by decide +kernel
theorem dq_Mod_enough_212 : decode kb_Mod_enough 212 = .ok (.iconst 2, 1) := by decide +kernel
theorem dq_Mod_enough_213 : decode kb_Mod_enough 213 = .ok (.isub, 1) := by decide +kernel
theorem dq_Mod_enough_214 : decode kb_Mod_enough 214 = .ok (.goto 6, 3) := by decide +kernel
theorem dq_Mod_enough_217 : decode kb_Mod_enough 217 = .ok (.iload_n 2, 1) := by decide +kernel
theorem dq_Mod_enough_218 : decode kb_Mod_enough 218 = .ok (.iconst 1, 1) := by decide +kernel
theorem dq_Mod_enough_219 : decode kb_Mod_enough 219 = .ok (.isub, 1) := by decide +kernel
theorem dq_Mod_enough_220 : decode kb_Mod_enough 220 = .ok (.invokevirtual 118, 3) := by decide +kernel
theorem dq_Mod_enough_223 : decode kb_Mod_enough 223 = .ok (.aload_n 0, 1) := by decide +kernel
theorem dq_Mod_enough_224 : decode kb_Mod_enough 224 = .ok (.lload_n 3, 1) := by decide +kernel
theorem dq_Mod_enough_225 : decode kb_Mod_enough 225 = .ok (.lconst 0, 1) := by decide +kernel
theorem dq_Mod_enough_226 : decode kb_Mod_enough 226 = .ok (.lcmp, 1) := by decide +kernel
theorem dq_Mod_enough_227 : decode kb_Mod_enough 227 = .ok (.ifCond .le 10, 3) := by decide +kernel
theorem dq_Mod_enough_230 : decode kb_Mod_enough 230 = .ok (.aload_n 0, 1) := by decide +kernel
theorem dq_Mod_enough_231 : decode kb_Mod_enough 231 = .ok (.getfield 40, 3) := by decide +kernel
theorem dq_Mod_enough_234 : decode kb_Mod_enough 234 = .ok (.goto 4, 3) := by decide +kernel
theorem dq_Mod_enough_237 : decode kb_Mod_enough 237 = .ok (.iconst 0, 1) := by decide +kernel
theorem dq_Mod_enough_238 : decode kb_Mod_enough 238 = .ok (.putfield 130, 3) := by decide +kernel
theorem dq_Mod_enough_241 : decode kb_Mod_enough 241 = .ok (.aload_n 0, 1) := by decide +kernel
theorem dq_Mod_enough_242 : decode kb_Mod_enough 242 = .ok (.aload_n 0, 1) := by decide +kernel
theorem dq_Mod_enough_243 : decode kb_Mod_enough 243 = .ok (.getfield 40, 3) := by decide +kernel
theorem dq_Mod_enough_246 : decode kb_Mod_enough 246 = .ok (.aload_n 0, 1) := by decide +kernel
theorem dq_Mod_enough_247 : decode kb_Mod_enough 247 = .ok (.getfield 43, 3) := by decide +kernel
theorem dq_Mod_enough_250 : decode kb_Mod_enough 250 = .ok (.isub, 1) := by decide +kernel
theorem dq_Mod_enough_251 : decode kb_Mod_enough 251 = .ok (.putfield 133, 3) := by decide +kernel
theorem dq_Mod_enough_254 : decode kb_Mod_enough 254 = .ok (.iconst 0, 1) := by decide +kernel
theorem dq_Mod_enough_255 : decode kb_Mod_enough 255 = .ok (.istore 7, 2) := by decide +kernel
theorem dq_Mod_enough_257 : decode kb_Mod_enough 257 = .ok (.iload 7, 2) := by decide +kernel
theorem dq_Mod_enough_259 : decode kb_Mod_enough 259 = .ok (.aload_n 0, 1) := by decide +kernel
theorem dq_Mod_enough_260 : decode kb_Mod_enough 260 = .ok (.getfield 130, 3) := by decide +kernel
theorem dq_Mod_enough_263 : decode kb_Mod_enough 263 = .ok (.if_icmp .ge 23, 3) := by decide +kernel
theorem dq_Mod_enough_266 : decode kb_Mod_enough 266 = .ok (.aload_n 0, 1) := by decide +kernel
theorem dq_Mod_enough_267 : decode kb_Mod_enough 267 = .ok (.getfield 22, 3) := by decide +kernel
theorem dq_Mod_enough_270 : decode kb_Mod_enough 270 = .ok (.iload 7, 2) := by decide +kernel
theorem dq_Mod_enough_272 : decode kb_Mod_enough 272 = .ok (.aload_n 0, 1) := by decide +kernel
theorem dq_Mod_enough_273 : decode kb_Mod_enough 273 = .ok (.getfield 13, 3) := by decide +kernel
theorem dq_Mod_enough_276 : decode kb_Mod_enough 276 = .ok (.iload 7, 2) := by decide +kernel
theorem dq_Mod_enough_278 : decode kb_Mod_enough 278 = .ok (.iaload, 1) := by decide +kernel
theorem dq_Mod_enough_279 : decode kb_Mod_enough 279 = .ok (.iastore, 1) := by decide +kernel
theorem dq_Mod_enough_280 : decode kb_Mod_enough 280 = .ok (.iinc 7 1, 3) := by decide +kernel
theorem dq_Mod_enough_283 : decode kb_Mod_enough 283 = .ok (.goto (-26), 3) := by decide +kernel
theorem dq_Mod_enough_286 : decode kb_Mod_enough 286 = .ok (.aload_n 0, 1) := by decide +kernel
theorem dq_Mod_enough_287 : decode kb_Mod_enough 287 = .ok (.getfield 61, 3) := by decide +kernel
theorem dq_Mod_enough_290 : decode kb_Mod_enough 290 = .ok (.istore 7, 2) := by decide +kernel
theorem dq_Mod_enough_292 : decode kb_Mod_enough 292 = .ok (.aload_n 0, 1) := by decide +kernel
theorem dq_Mod_enough_293 : decode kb_Mod_enough 293 = .ok (.getfield 64, 3) := by decide +kernel
theorem dq_Mod_enough_296 : decode kb_Mod_enough 296 = .ok (.istore 8, 2) := by decide +kernel
theorem dq_Mod_enough_298 : decode kb_Mod_enough 298 = .ok (.iconst 0, 1) := by decide +kernel
theorem dq_Mod_enough_299 : decode kb_Mod_enough 299 = .ok (.istore 9, 2) := by decide +kernel
theorem dq_Mod_enough_301 : decode kb_Mod_enough 301 = .ok (.iload 9, 2) := by decide +kernel
theorem dq_Mod_enough_303 : decode kb_Mod_enough 303 = .ok (.iload 7, 2) := by decide +kernel
theorem dq_Mod_enough_305 : decode kb_Mod_enough 305 = .ok (.if_icmp .ge 23, 3) := by decide +kernel
theorem dq_Mod_enough_308 : decode kb_Mod_enough 308 = .ok (.aload_n 0, 1) := by decide +kernel
theorem dq_Mod_enough_309 : decode kb_Mod_enough 309 = .ok (.getfield 19, 3) := by decide +kernel
theorem dq_Mod_enough_312 : decode kb_Mod_enough 312 = .ok (.iload 9, 2) := by decide +kernel
theorem dq_Mod_enough_314 : decode kb_Mod_enough 314 = .ok (.aload_n 0, 1) := by decide +kernel
theorem dq_Mod_enough_315 : decode kb_Mod_enough 315 = .ok (.getfield 9, 3) := by decide +kernel
theorem dq_Mod_enough_318 : decode kb_Mod_enough 318 = .ok (.iload 9, 2) := by decide +kernel
theorem dq_Mod_enough_320 : decode kb_Mod_enough 320 = .ok (.iaload, 1) := by decide +kernel
theorem dq_Mod_enough_321 : decode kb_Mod_enough 321 = .ok (.iastore, 1) := by decide +kernel
theorem dq_Mod_enough_322 : decode kb_Mod_enough 322 = .ok (.iinc 9 1, 3) := by decide +kernel
theorem dq_Mod_enough_325 : decode kb_Mod_enough 325 = .ok (.goto (-24), 3) := by decide +kernel
theorem dq_Mod_enough_328 : decode kb_Mod_enough 328 = .ok (.iconst 0, 1) := by decide +kernel
theorem dq_Mod_enough_329 : decode kb_Mod_enough 329 = .ok (.istore 9, 2) := by decide +kernel
theorem dq_Mod_enough_331 : decode kb_Mod_enough 331 = .ok (.iload 9, 2) := by decide +kernel
theorem dq_Mod_enough_333 : decode kb_Mod_enough 333 = .ok (.iload 7, 2) := by decide +kernel
theorem dq_Mod_enough_335 : decode kb_Mod_enough 335 = .ok (.if_icmp .gt 148, 3) := by decide +kernel
theorem dq_Mod_enough_338 : decode kb_Mod_enough 338 = .ok (.aload_n 0, 1) := by decide +kernel
theorem dq_Mod_enough_339 : decode kb_Mod_enough 339 = .ok (.iload 7, 2) := by decide +kernel
theorem dq_Mod_enough_341 : decode kb_Mod_enough 341 = .ok (.putfield 61, 3) := by decide +kernel
theorem dq_Mod_enough_344 : decode kb_Mod_enough 344 = .ok (.aload_n 0, 1) := by decide +kernel
theorem dq_Mod_enough_345 : decode kb_Mod_enough 345 = .ok (.iload 8, 2) := by decide +kernel
theorem dq_Mod_enough_347 : decode kb_Mod_enough 347 = .ok (.putfield 64, 3) := by decide +kernel
theorem dq_Mod_enough_350 : decode kb_Mod_enough 350 = .ok (.iconst 0, 1) := by decide +kernel
theorem dq_Mod_enough_351 : decode kb_Mod_enough 351 = .ok (.istore 10, 2) := by decide +kernel
theorem dq_Mod_enough_353 : decode kb_Mod_enough 353 = .ok (.iload 10, 2) := by decide +kernel
theorem dq_Mod_enough_355 : decode kb_Mod_enough 355 = .ok (.iload 7, 2) := by decide +kernel
theorem dq_Mod_enough_357 : decode kb_Mod_enough 357 = .ok (.if_icmp .ge 23, 3) := by decide +kernel
theorem dq_Mod_enough_360 : decode kb_Mod_enough 360 = .ok (.aload_n 0, 1) := by decide +kernel
theorem dq_Mod_enough_361 : decode kb_Mod_enough 361 = .ok (.getfield 9, 3) := by decide +kernel
theorem dq_Mod_enough_364 : decode kb_Mod_enough 364 = .ok (.iload 10, 2) := by decide +kernel
theorem dq_Mod_enough_366 : decode kb_Mod_enough 366 = .ok (.aload_n 0, 1) := by decide +kernel
theorem dq_Mod_enough_367 : decode kb_Mod_enough 367 = .ok (.getfield 19, 3) := by decide +kernel
theorem dq_Mod_enough_370 : decode kb_Mod_enough 370 = .ok (.iload 10, 2) := by decide +kernel
theorem dq_Mod_enough_372 : decode kb_Mod_enough 372 = .ok (.iaload, 1) := by decide +kernel
theorem dq_Mod_enough_373 : decode kb_Mod_enough 373 = .ok (.iastore, 1) := by decide +kernel
theorem dq_Mod_enough_374 : decode kb_Mod_enough 374 = .ok (.iinc 10 1, 3) := by decide +kernel
theorem dq_Mod_enough_377 : decode kb_Mod_enough 377 = .ok (.goto (-24), 3) := by decide +kernel
theorem dq_Mod_enough_380 : decode kb_Mod_enough 380 = .ok (.aload_n 0, 1) := by decide +kernel
theorem dq_Mod_enough_381 : decode kb_Mod_enough 381 = .ok (.iload 9, 2) := by decide +kernel
theorem dq_Mod_enough_383 : decode kb_Mod_enough 383 = .ok (.ifCond .le 9, 3) := by decide +kernel
theorem dq_Mod_enough_386 : decode kb_Mod_enough 386 = .ok (.iload 9, 2) := by decide +kernel
theorem dq_Mod_enough_388 : decode kb_Mod_enough 388 = .ok (.i2l, 1) := by decide +kernel
theorem dq_Mod_enough_389 : decode kb_Mod_enough 389 = .ok (.goto 6, 3) := by decide +kernel
theorem dq_Mod_enough_392 : decode kb_Mod_enough 392 = .ok (.ldc2_w 88, 3) := by decide +kernel
theorem dq_Mod_enough_395 : decode kb_Mod_enough 395 = .ok (.invokevirtual 90, 3) := by decide +kernel
theorem dq_Mod_enough_398 : decode kb_Mod_enough 398 = .ok (.lload_n 3, 1) := by decide +kernel
theorem dq_Mod_enough_399 : decode kb_Mod_enough 399 = .ok (.lconst 0, 1) := by decide +kernel
theorem dq_Mod_enough_400 : decode kb_Mod_enough 400 = .ok (.lcmp, 1) := by decide +kernel
theorem dq_Mod_enough_401 : decode kb_Mod_enough 401 = .ok (.ifCond .le 22, 3) := by decide +kernel
theorem dq_Mod_enough_404 : decode kb_Mod_enough 404 = .ok (.aload_n 0, 1) := by decide +kernel
theorem dq_Mod_enough_405 : decode kb_Mod_enough 405 = .ok (.aload_n 0, 1) := by decide +kernel
theorem dq_Mod_enough_406 : decode kb_Mod_enough 406 = .ok (.getfield 22, 3) := by decide +kernel
theorem dq_Mod_enough_409 : decode kb_Mod_enough 409 = .ok (.aload_n 0, 1) := by decide +kernel
theorem dq_Mod_enough_410 : decode kb_Mod_enough 410 = .ok (.getfield 130, 3) := by decide +kernel
theorem dq_Mod_enough_413 : decode kb_Mod_enough 413 = .ok (.aload_n 0, 1) := by decide +kernel
theorem dq_Mod_enough_414 : decode kb_Mod_enough 414 = .ok (.getfield 133, 3) := by decide +kernel
theorem dq_Mod_enough_417 : decode kb_Mod_enough 417 = .ok (.invokevirtual 136, 3) := by decide +kernel
theorem dq_Mod_enough_420 : decode kb_Mod_enough 420 = .ok (.goto 4, 3) := by decide +kernel
theorem dq_Mod_enough_423 : decode kb_Mod_enough 423 = .ok (.iconst 1, 1) := by decide +kernel
theorem dq_Mod_enough_424 : decode kb_Mod_enough 424 = .ok (.istore 10, 2) := by decide +kernel
theorem dq_Mod_enough_426 : decode kb_Mod_enough 426 = .ok (.aload_n 0, 1) := by decide +kernel
theorem dq_Mod_enough_427 : decode kb_Mod_enough 427 = .ok (.aload_n 0, 1) := by decide +kernel
theorem dq_Mod_enough_428 : decode kb_Mod_enough 428 = .ok (.getfield 25, 3) := by decide +kernel
theorem dq_Mod_enough_431 : decode kb_Mod_enough 431 = .ok (.aload_n 0, 1) := by decide +kernel
theorem dq_Mod_enough_432 : decode kb_Mod_enough 432 = .ok (.getfield 122, 3) := by decide +kernel
theorem dq_Mod_enough_435 : decode kb_Mod_enough 435 = .ok (.aload_n 0, 1) := by decide +kernel
theorem dq_Mod_enough_436 : decode kb_Mod_enough 436 = .ok (.getfield 125, 3) := by decide +kernel
theorem dq_Mod_enough_439 : decode kb_Mod_enough 439 = .ok (.invokevirtual 136, 3) := by decide +kernel
theorem dq_Mod_enough_442 : decode kb_Mod_enough 442 = .ok (.istore 11, 2) := by decide +kernel
theorem dq_Mod_enough_444 : decode kb_Mod_enough 444 = .ok (.iload 10, 2) := by decide +kernel
theorem dq_Mod_enough_446 : decode kb_Mod_enough 446 = .ok (.ifCond .gt 13, 3) := by decide +kernel
theorem dq_Mod_enough_449 : decode kb_Mod_enough 449 = .ok (.iload 10, 2) := by decide +kernel
theorem dq_Mod_enough_451 : decode kb_Mod_enough 451 = .ok (.ifCond .ne 26, 3) := by decide +kernel
theorem dq_Mod_enough_454 : decode kb_Mod_enough 454 = .ok (.iload 5, 2) := by decide +kernel
theorem dq_Mod_enough_456 : decode kb_Mod_enough 456 = .ok (.ifCond .eq 21, 3) := by decide +kernel
theorem dq_Mod_enough_459 : decode kb_Mod_enough 459 = .ok (.iload 11, 2) := by decide +kernel
theorem dq_Mod_enough_461 : decode kb_Mod_enough 461 = .ok (.ifCond .lt 13, 3) := by decide +kernel
theorem dq_Mod_enough_464 : decode kb_Mod_enough 464 = .ok (.iload 11, 2) := by decide +kernel
theorem dq_Mod_enough_466 : decode kb_Mod_enough 466 = .ok (.ifCond .ne 11, 3) := by decide +kernel
theorem dq_Mod_enough_469 : decode kb_Mod_enough 469 = .ok (.iload 5, 2) := by decide +kernel
theorem dq_Mod_enough_471 : decode kb_Mod_enough 471 = .ok (.ifCond .eq 6, 3) := by decide +kernel
theorem dq_Mod_enough_474 : decode kb_Mod_enough 474 = .ok (.iload 9, 2) := by decide +kernel
theorem dq_Mod_enough_476 : decode kb_Mod_enough 476 = .ok (.ireturn, 1) := by decide +kernel
theorem dq_Mod_enough_477 : decode kb_Mod_enough 477 = .ok (.iinc 9 1, 3) := by decide +kernel
theorem dq_Mod_enough_480 : decode kb_Mod_enough 480 = .ok (.goto (-149), 3) := by decide +kernel
theorem dq_Mod_enough_483 : decode kb_Mod_enough 483 = .ok (.iload 7, 2) := by decide +kernel
theorem dq_Mod_enough_485 : decode kb_Mod_enough 485 = .ok (.ireturn, 1) := by decide +kernel
theorem dq_Mod_look_0 : decode kb_Mod_look 0 = .ok (.aload_n 0, 1) := by decide +kernel
theorem dq_Mod_look_1 : decode kb_Mod_look 1 = .ok (.iconst 0, 1) := by decide +kernel
theorem dq_Mod_look_2 : decode kb_Mod_look 2 = .ok (.putfield 28, 3) := by decide +kernel
theorem dq_Mod_look_5 : decode kb_Mod_look 5 = .ok (.aload_n 0, 1) := by decide +kernel
theorem dq_Mod_look_6 : decode kb_Mod_look 6 = .ok (.iload_n 1, 1) := by decide +kernel
theorem dq_Mod_look_7 : decode kb_Mod_look 7 = .ok (.i2l, 1) := by decide +kernel
theorem dq_Mod_look_8 : decode kb_Mod_look 8 = .ok (.lconst 0, 1) := by decide +kernel
theorem dq_Mod_look_9 : decode kb_Mod_look 9 = .ok (.aload_n 0, 1) := by decide +kernel
theorem dq_Mod_look_10 : decode kb_Mod_look 10 = .ok (.getfield 61, 3) := by decide +kernel
theorem dq_Mod_look_13 : decode kb_Mod_look 13 = .ok (.iconst 1, 1) := by decide +kernel
theorem dq_Mod_look_14 : decode kb_Mod_look 14 = .ok (.isub, 1) := by decide +kernel
theorem dq_Mod_look_15 : decode kb_Mod_look 15 = .ok (.i2l, 1) := by decide +kernel
theorem dq_Mod_look_16 : decode kb_Mod_look 16 = .ok (.invokestatic 75, 3) := by decide +kernel
theorem dq_Mod_look_19 : decode kb_Mod_look 19 = .ok (.ifCond .ne 7, 3) := by decide +kernel
theorem dq_Mod_look_22 : decode kb_Mod_look 22 = .ok (.iconst 1, 1) := by decide +kernel
theorem dq_Mod_look_23 : decode kb_Mod_look 23 = .ok (.goto 4, 3) := by decide +kernel
theorem dq_Mod_look_26 : decode kb_Mod_look 26 = .ok (.iconst 0, 1) := by decide +kernel
theorem dq_Mod_look_27 : decode kb_Mod_look 27 = .ok (.iconst 1, 1) := by decide +kernel
theorem dq_Mod_look_28 : decode kb_Mod_look 28 = .ok (.invokevirtual 32, 3) := by decide +kernel
theorem dq_Mod_look_31 : decode kb_Mod_look 31 = .ok (.ifCond .eq 7, 3) := by decide +kernel
theorem dq_Mod_look_34 : decode kb_Mod_look 34 = .ok (.iconst 0, 1) := by decide +kernel
theorem dq_Mod_look_35 : decode kb_Mod_look 35 = .ok (.goto 9, 3) := by decide +kernel
theorem dq_Mod_look_38 : decode kb_Mod_look 38 = .ok (.aload_n 0, 1) := by decide +kernel
theorem dq_Mod_look_39 : decode kb_Mod_look 39 = .ok (.getfield 9, 3) := by decide +kernel
theorem dq_Mod_look_42 : decode kb_Mod_look 42 = .ok (.iload_n 1, 1) := by decide +kernel
theorem dq_Mod_look_43 : decode kb_Mod_look 43 = .ok (.iaload, 1) := by decide +kernel
theorem dq_Mod_look_44 : decode kb_Mod_look 44 = .ok (.ireturn, 1) := by decide +kernel
theorem dq_Mod_count_0 : decode kb_Mod_count 0 = .ok (.aload_n 0, 1) := by decide +kernel
theorem dq_Mod_count_1 : decode kb_Mod_count 1 = .ok (.iconst 0, 1) := by decide +kernel
theorem dq_Mod_count_2 : decode kb_Mod_count 2 = .ok (.putfield 28, 3) := by decide +kernel
theorem dq_Mod_count_5 : decode kb_Mod_count 5 = .ok (.aload_n 0, 1) := by decide +kernel
theorem dq_Mod_count_6 : decode kb_Mod_count 6 = .ok (.iload_n 1, 1) := by decide +kernel
theorem dq_Mod_count_7 : decode kb_Mod_count 7 = .ok (.i2l, 1) := by decide +kernel
theorem dq_Mod_count_8 : decode kb_Mod_count 8 = .ok (.lconst 0, 1) := by decide +kernel
theorem dq_Mod_count_9 : decode kb_Mod_count 9 = .ok (.ldc2_w 116, 3) := by decide +kernel
theorem dq_Mod_count_12 : decode kb_Mod_count 12 = .ok (.invokestatic 75, 3) := by decide +kernel
theorem dq_Mod_count_15 : decode kb_Mod_count 15 = .ok (.ifCond .ne 7, 3) := by decide +kernel
theorem dq_Mod_count_18 : decode kb_Mod_count 18 = .ok (.iconst 1, 1) := by decide +kernel
theorem dq_Mod_count_19 : decode kb_Mod_count 19 = .ok (.goto 4, 3) := by decide +kernel
theorem dq_Mod_count_22 : decode kb_Mod_count 22 = .ok (.iconst 0, 1) := by decide +kernel
theorem dq_Mod_count_23 : decode kb_Mod_count 23 = .ok (.iconst 1, 1) := by decide +kernel
theorem dq_Mod_count_24 : decode kb_Mod_count 24 = .ok (.invokevirtual 32, 3) := by decide +kernel
theorem dq_Mod_count_27 : decode kb_Mod_count 27 = .ok (.ifCond .eq 5, 3) := by decide +kernel
theorem dq_Mod_count_30 : decode kb_Mod_count 30 = .ok (.iconst 0, 1) := by decide +kernel
theorem dq_Mod_count_31 : decode kb_Mod_count 31 = .ok (.ireturn, 1) := by decide +kernel
theorem dq_Mod_count_32 : decode kb_Mod_count 32 = .ok (.iload_n 1, 1) := by decide +kernel
theorem dq_Mod_count_33 : decode kb_Mod_count 33 = .ok (.ifCond .ne 10, 3) := by decide +kernel
theorem dq_Mod_count_36 : decode kb_Mod_count 36 = .ok (.aload_n 0, 1) := by decide +kernel
theorem dq_Mod_count_37 : decode kb_Mod_count 37 = .ok (.getfield 61, 3) := by decide +kernel
theorem dq_Mod_count_40 : decode kb_Mod_count 40 = .ok (.goto 27, 3) := by decide +kernel
theorem dq_Mod_count_43 : decode kb_Mod_count 43 = .ok (.iload_n 1, 1) := by decide +kernel
theorem dq_Mod_count_44 : decode kb_Mod_count 44 = .ok (.iconst 1, 1) := by decide +kernel
theorem dq_Mod_count_45 : decode kb_Mod_count 45 = .ok (.if_icmp .ne 10, 3) := by decide +kernel
theorem dq_Mod_count_48 : decode kb_Mod_count 48 = .ok (.aload_n 0, 1) := by decide +kernel
theorem dq_Mod_count_49 : decode kb_Mod_count 49 = .ok (.getfield 64, 3) := by decide +kernel
theorem dq_Mod_count_52 : decode kb_Mod_count 52 = .ok (.goto 15, 3) := by decide +kernel
theorem dq_Mod_count_55 : decode kb_Mod_count 55 = .ok (.aload_n 0, 1) := by decide +kernel
theorem dq_Mod_count_56 : decode kb_Mod_count 56 = .ok (.getfield 54, 3) := by decide +kernel
theorem dq_Mod_count_59 : decode kb_Mod_count 59 = .ok (.ifCond .eq 7, 3) := by decide +kernel
theorem dq_Mod_count_62 : decode kb_Mod_count 62 = .ok (.iconst 1, 1) := by decide +kernel
theorem dq_Mod_count_63 : decode kb_Mod_count 63 = .ok (.goto 4, 3) := by decide +kernel
theorem dq_Mod_count_66 : decode kb_Mod_count 66 = .ok (.iconst 0, 1) := by decide +kernel
theorem dq_Mod_count_67 : decode kb_Mod_count 67 = .ok (.ireturn, 1) := by decide +kernel
