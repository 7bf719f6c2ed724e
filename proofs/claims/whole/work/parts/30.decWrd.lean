theorem dq_Wrd_init_0 : decode kb_Wrd_init 0 = .ok (.aload_n 0, 1) := by decide +kernel
theorem dq_Wrd_init_1 : decode kb_Wrd_init 1 = .ok (.invokespecial 5, 3) := by decide +kernel
theorem dq_Wrd_init_4 : decode kb_Wrd_init 4 = .ok (.aload_n 0, 1) := by decide +kernel
theorem dq_Wrd_init_5 : decode kb_Wrd_init 5 = .ok (.bipush 70, 2) := by decide +kernel
theorem dq_Wrd_init_7 : decode kb_Wrd_init 7 = .ok (.newarray .long, 2) := by decide +kernel
theorem dq_Wrd_init_9 : decode kb_Wrd_init 9 = .ok (.putfield 11, 3) := by decide +kernel
theorem dq_Wrd_init_12 : decode kb_Wrd_init 12 = .ok (.return_, 1) := by decide +kernel
theorem dq_Wrd_load_0 : decode kb_Wrd_load 0 = .ok (.aload_n 0, 1) := by decide +kernel
theorem dq_Wrd_load_1 : decode kb_Wrd_load 1 = .ok (.getfield 11, 3) := by decide +kernel
theorem dq_Wrd_load_4 : decode kb_Wrd_load 4 = .ok (.lconst 0, 1) := by decide +kernel
theorem dq_Wrd_load_5 : decode kb_Wrd_load 5 = .ok (.invokestatic 15, 3) := by decide +kernel
theorem dq_Wrd_load_8 : decode kb_Wrd_load 8 = .ok (.bipush 32, 2) := by decide +kernel
theorem dq_Wrd_load_10 : decode kb_Wrd_load 10 = .ok (.istore_n 2, 1) := by decide +kernel
theorem dq_Wrd_load_11 : decode kb_Wrd_load 11 = .ok (.iload_n 2, 1) := by decide +kernel
theorem dq_Wrd_load_12 : decode kb_Wrd_load 12 = .ok (.ifCond .lt 23, 3) := by decide +kernel
theorem dq_Wrd_load_15 : decode kb_Wrd_load 15 = .ok (.aload_n 0, 1) := by decide +kernel
theorem dq_Wrd_load_16 : decode kb_Wrd_load 16 = .ok (.getfield 11, 3) := by decide +kernel
theorem dq_Wrd_load_19 : decode kb_Wrd_load 19 = .ok (.iload_n 2, 1) := by decide +kernel
theorem dq_Wrd_load_20 : decode kb_Wrd_load 20 = .ok (.aload_n 1, 1) := by decide +kernel
theorem dq_Wrd_load_21 : decode kb_Wrd_load 21 = .ok (.bipush 35, 2) := by decide +kernel
theorem dq_Wrd_load_23 : decode kb_Wrd_load 23 = .ok (.bipush 32, 2) := by decide +kernel
theorem dq_Wrd_load_25 : decode kb_Wrd_load 25 = .ok (.invokevirtual 23, 3) := by decide +kernel
theorem dq_Wrd_load_28 : decode kb_Wrd_load 28 = .ok (.lastore, 1) := by decide +kernel
theorem dq_Wrd_load_29 : decode kb_Wrd_load 29 = .ok (.iinc 2 (-1), 3) := by decide +kernel
theorem dq_Wrd_load_32 : decode kb_Wrd_load 32 = .ok (.goto (-21), 3) := by decide +kernel
theorem dq_Wrd_load_35 : decode kb_Wrd_load 35 = .ok (.aload_n 0, 1) := by decide +kernel
theorem dq_Wrd_load_36 : decode kb_Wrd_load 36 = .ok (.bipush 33, 2) := by decide +kernel
theorem dq_Wrd_load_38 : decode kb_Wrd_load 38 = .ok (.invokevirtual 27, 3) := by decide +kernel
theorem dq_Wrd_load_41 : decode kb_Wrd_load 41 = .ok (.istore_n 2, 1) := by decide +kernel
theorem dq_Wrd_load_42 : decode kb_Wrd_load 42 = .ok (.bipush 33, 2) := by decide +kernel
theorem dq_Wrd_load_44 : decode kb_Wrd_load 44 = .ok (.istore_n 3, 1) := by decide +kernel
theorem dq_Wrd_load_45 : decode kb_Wrd_load 45 = .ok (.iload_n 3, 1) := by decide +kernel
theorem dq_Wrd_load_46 : decode kb_Wrd_load 46 = .ok (.bipush 67, 2) := by decide +kernel
theorem dq_Wrd_load_48 : decode kb_Wrd_load 48 = .ok (.if_icmp .ge 49, 3) := by decide +kernel
theorem dq_Wrd_load_51 : decode kb_Wrd_load 51 = .ok (.iload_n 3, 1) := by decide +kernel
theorem dq_Wrd_load_52 : decode kb_Wrd_load 52 = .ok (.iload_n 2, 1) := by decide +kernel
theorem dq_Wrd_load_53 : decode kb_Wrd_load 53 = .ok (.iconst 3, 1) := by decide +kernel
theorem dq_Wrd_load_54 : decode kb_Wrd_load 54 = .ok (.iadd, 1) := by decide +kernel
theorem dq_Wrd_load_55 : decode kb_Wrd_load 55 = .ok (.if_icmp .ge 42, 3) := by decide +kernel
theorem dq_Wrd_load_58 : decode kb_Wrd_load 58 = .ok (.aload_n 0, 1) := by decide +kernel
theorem dq_Wrd_load_59 : decode kb_Wrd_load 59 = .ok (.getfield 11, 3) := by decide +kernel
theorem dq_Wrd_load_62 : decode kb_Wrd_load 62 = .ok (.iload_n 3, 1) := by decide +kernel
theorem dq_Wrd_load_63 : decode kb_Wrd_load 63 = .ok (.aload_n 1, 1) := by decide +kernel
theorem dq_Wrd_load_64 : decode kb_Wrd_load 64 = .ok (.bipush 35, 2) := by decide +kernel
theorem dq_Wrd_load_66 : decode kb_Wrd_load 66 = .ok (.bipush 32, 2) := by decide +kernel
theorem dq_Wrd_load_68 : decode kb_Wrd_load 68 = .ok (.invokevirtual 31, 3) := by decide +kernel
theorem dq_Wrd_load_71 : decode kb_Wrd_load 71 = .ok (.lastore, 1) := by decide +kernel
theorem dq_Wrd_load_72 : decode kb_Wrd_load 72 = .ok (.aload_n 0, 1) := by decide +kernel
theorem dq_Wrd_load_73 : decode kb_Wrd_load 73 = .ok (.getfield 11, 3) := by decide +kernel
theorem dq_Wrd_load_76 : decode kb_Wrd_load 76 = .ok (.iload_n 3, 1) := by decide +kernel
theorem dq_Wrd_load_77 : decode kb_Wrd_load 77 = .ok (.laload, 1) := by decide +kernel
theorem dq_Wrd_load_78 : decode kb_Wrd_load 78 = .ok (.lconst 0, 1) := by decide +kernel
theorem dq_Wrd_load_79 : decode kb_Wrd_load 79 = .ok (.lcmp, 1) := by decide +kernel
theorem dq_Wrd_load_80 : decode kb_Wrd_load 80 = .ok (.ifCond .ne 11, 3) := by decide +kernel
theorem dq_Wrd_load_83 : decode kb_Wrd_load 83 = .ok (.iload_n 2, 1) := by decide +kernel
theorem dq_Wrd_load_84 : decode kb_Wrd_load 84 = .ok (.iload_n 3, 1) := by decide +kernel
theorem dq_Wrd_load_85 : decode kb_Wrd_load 85 = .ok (.if_icmp .ne 6, 3) := by decide +kernel
theorem dq_Wrd_load_88 : decode kb_Wrd_load 88 = .ok (.iinc 2 1, 3) := by decide +kernel
theorem dq_Wrd_load_91 : decode kb_Wrd_load 91 = .ok (.iinc 3 1, 3) := by decide +kernel
theorem dq_Wrd_load_94 : decode kb_Wrd_load 94 = .ok (.goto (-49), 3) := by decide +kernel
theorem dq_Wrd_load_97 : decode kb_Wrd_load 97 = .ok (.aload_n 0, 1) := by decide +kernel
theorem dq_Wrd_load_98 : decode kb_Wrd_load 98 = .ok (.aload_n 1, 1) := by decide +kernel
theorem dq_Wrd_load_99 : decode kb_Wrd_load 99 = .ok (.invokevirtual 34, 3) := by decide +kernel
theorem dq_Wrd_load_102 : decode kb_Wrd_load 102 = .ok (.putfield 38, 3) := by decide +kernel
theorem dq_Wrd_load_105 : decode kb_Wrd_load 105 = .ok (.return_, 1) := by decide +kernel
theorem dq_Wrd_roundedSize_0 : decode kb_Wrd_roundedSize 0 = .ok (.aload_n 0, 1) := by decide +kernel
theorem dq_Wrd_roundedSize_1 : decode kb_Wrd_roundedSize 1 = .ok (.bipush 67, 2) := by decide +kernel
theorem dq_Wrd_roundedSize_3 : decode kb_Wrd_roundedSize 3 = .ok (.invokevirtual 27, 3) := by decide +kernel
theorem dq_Wrd_roundedSize_6 : decode kb_Wrd_roundedSize 6 = .ok (.istore_n 1, 1) := by decide +kernel
theorem dq_Wrd_roundedSize_7 : decode kb_Wrd_roundedSize 7 = .ok (.iload_n 1, 1) := by decide +kernel
theorem dq_Wrd_roundedSize_8 : decode kb_Wrd_roundedSize 8 = .ok (.bipush 67, 2) := by decide +kernel
theorem dq_Wrd_roundedSize_10 : decode kb_Wrd_roundedSize 10 = .ok (.if_icmp .ne 5, 3) := by decide +kernel
theorem dq_Wrd_roundedSize_13 : decode kb_Wrd_roundedSize 13 = .ok (.lconst 0, 1) := by decide +kernel
theorem dq_Wrd_roundedSize_14 : decode kb_Wrd_roundedSize 14 = .ok (.lreturn, 1) := by decide +kernel
theorem dq_Wrd_roundedSize_15 : decode kb_Wrd_roundedSize 15 = .ok (.aload_n 0, 1) := by decide +kernel
theorem dq_Wrd_roundedSize_16 : decode kb_Wrd_roundedSize 16 = .ok (.getfield 11, 3) := by decide +kernel
theorem dq_Wrd_roundedSize_19 : decode kb_Wrd_roundedSize 19 = .ok (.iload_n 1, 1) := by decide +kernel
theorem dq_Wrd_roundedSize_20 : decode kb_Wrd_roundedSize 20 = .ok (.laload, 1) := by decide +kernel
theorem dq_Wrd_roundedSize_21 : decode kb_Wrd_roundedSize 21 = .ok (.invokestatic 42, 3) := by decide +kernel
theorem dq_Wrd_roundedSize_24 : decode kb_Wrd_roundedSize 24 = .ok (.bipush 32, 2) := by decide +kernel
theorem dq_Wrd_roundedSize_26 : decode kb_Wrd_roundedSize 26 = .ok (.isub, 1) := by decide +kernel
theorem dq_Wrd_roundedSize_27 : decode kb_Wrd_roundedSize 27 = .ok (.istore_n 2, 1) := by decide +kernel
theorem dq_Wrd_roundedSize_28 : decode kb_Wrd_roundedSize 28 = .ok (.bipush 33, 2) := by decide +kernel
theorem dq_Wrd_roundedSize_30 : decode kb_Wrd_roundedSize 30 = .ok (.iload_n 1, 1) := by decide +kernel
theorem dq_Wrd_roundedSize_31 : decode kb_Wrd_roundedSize 31 = .ok (.isub, 1) := by decide +kernel
theorem dq_Wrd_roundedSize_32 : decode kb_Wrd_roundedSize 32 = .ok (.bipush 32, 2) := by decide +kernel
theorem dq_Wrd_roundedSize_34 : decode kb_Wrd_roundedSize 34 = .ok (.imul, 1) := by decide +kernel
theorem dq_Wrd_roundedSize_35 : decode kb_Wrd_roundedSize 35 = .ok (.iconst 1, 1) := by decide +kernel
theorem dq_Wrd_roundedSize_36 : decode kb_Wrd_roundedSize 36 = .ok (.isub, 1) := by decide +kernel
theorem dq_Wrd_roundedSize_37 : decode kb_Wrd_roundedSize 37 = .ok (.iload_n 2, 1) := by decide +kernel
theorem dq_Wrd_roundedSize_38 : decode kb_Wrd_roundedSize 38 = .ok (.isub, 1) := by decide +kernel
theorem dq_Wrd_roundedSize_39 : decode kb_Wrd_roundedSize 39 = .ok (.istore_n 3, 1) := by decide +kernel
theorem dq_Wrd_roundedSize_40 : decode kb_Wrd_roundedSize 40 = .ok (.iload_n 3, 1) := by decide +kernel
theorem dq_Wrd_roundedSize_41 : decode kb_Wrd_roundedSize 41 = .ok (.sipush 1023, 3) := by decide +kernel
theorem dq_Wrd_roundedSize_44 : decode kb_Wrd_roundedSize 44 = .ok (.if_icmp .le 7, 3) := by decide +kernel
theorem dq_Wrd_roundedSize_47 : decode kb_Wrd_roundedSize 47 = .ok (.ldc2_w 48, 3) := by decide +kernel
theorem dq_Wrd_roundedSize_50 : decode kb_Wrd_roundedSize 50 = .ok (.lreturn, 1) := by decide +kernel
theorem dq_Wrd_roundedSize_51 : decode kb_Wrd_roundedSize 51 = .ok (.aload_n 0, 1) := by decide +kernel
theorem dq_Wrd_roundedSize_52 : decode kb_Wrd_roundedSize 52 = .ok (.getfield 11, 3) := by decide +kernel
theorem dq_Wrd_roundedSize_55 : decode kb_Wrd_roundedSize 55 = .ok (.iload_n 1, 1) := by decide +kernel
theorem dq_Wrd_roundedSize_56 : decode kb_Wrd_roundedSize 56 = .ok (.iconst 2, 1) := by decide +kernel
theorem dq_Wrd_roundedSize_57 : decode kb_Wrd_roundedSize 57 = .ok (.iadd, 1) := by decide +kernel
theorem dq_Wrd_roundedSize_58 : decode kb_Wrd_roundedSize 58 = .ok (.laload, 1) := by decide +kernel
theorem dq_Wrd_roundedSize_59 : decode kb_Wrd_roundedSize 59 = .ok (.iload_n 2, 1) := by decide +kernel
theorem dq_Wrd_roundedSize_60 : decode kb_Wrd_roundedSize 60 = .ok (.lshl, 1) := by decide +kernel
theorem dq_Wrd_roundedSize_61 : decode kb_Wrd_roundedSize 61 = .ok (.lstore 4, 2) := by decide +kernel
theorem dq_Wrd_roundedSize_63 : decode kb_Wrd_roundedSize 63 = .ok (.aload_n 0, 1) := by decide +kernel
theorem dq_Wrd_roundedSize_64 : decode kb_Wrd_roundedSize 64 = .ok (.getfield 11, 3) := by decide +kernel
theorem dq_Wrd_roundedSize_67 : decode kb_Wrd_roundedSize 67 = .ok (.iload_n 1, 1) := by decide +kernel
theorem dq_Wrd_roundedSize_68 : decode kb_Wrd_roundedSize 68 = .ok (.laload, 1) := by decide +kernel
theorem dq_Wrd_roundedSize_69 : decode kb_Wrd_roundedSize 69 = .ok (.bipush 32, 2) := by decide +kernel
theorem dq_Wrd_roundedSize_71 : decode kb_Wrd_roundedSize 71 = .ok (.iload_n 2, 1) := by decide +kernel
theorem dq_Wrd_roundedSize_72 : decode kb_Wrd_roundedSize 72 = .ok (.iadd, 1) := by decide +kernel
theorem dq_Wrd_roundedSize_73 : decode kb_Wrd_roundedSize 73 = .ok (.lshl, 1) := by decide +kernel
theorem dq_Wrd_roundedSize_74 : decode kb_Wrd_roundedSize 74 = .ok (.aload_n 0, 1) := by decide +kernel
theorem dq_Wrd_roundedSize_75 : decode kb_Wrd_roundedSize 75 = .ok (.getfield 11, 3) := by decide +kernel
theorem dq_Wrd_roundedSize_78 : decode kb_Wrd_roundedSize 78 = .ok (.iload_n 1, 1) := by decide +kernel
theorem dq_Wrd_roundedSize_79 : decode kb_Wrd_roundedSize 79 = .ok (.iconst 1, 1) := by decide +kernel
theorem dq_Wrd_roundedSize_80 : decode kb_Wrd_roundedSize 80 = .ok (.iadd, 1) := by decide +kernel
theorem dq_Wrd_roundedSize_81 : decode kb_Wrd_roundedSize 81 = .ok (.laload, 1) := by decide +kernel
theorem dq_Wrd_roundedSize_82 : decode kb_Wrd_roundedSize 82 = .ok (.iload_n 2, 1) := by decide +kernel
theorem dq_Wrd_roundedSize_83 : decode kb_Wrd_roundedSize 83 = .ok (.lshl, 1) := by decide +kernel
theorem dq_Wrd_roundedSize_84 : decode kb_Wrd_roundedSize 84 = .ok (.lor, 1) := by decide +kernel
theorem dq_Wrd_roundedSize_85 : decode kb_Wrd_roundedSize 85 = .ok (.lload 4, 2) := by decide +kernel
theorem dq_Wrd_roundedSize_87 : decode kb_Wrd_roundedSize 87 = .ok (.bipush 32, 2) := by decide +kernel
theorem dq_Wrd_roundedSize_89 : decode kb_Wrd_roundedSize 89 = .ok (.lushr, 1) := by decide +kernel
theorem dq_Wrd_roundedSize_90 : decode kb_Wrd_roundedSize 90 = .ok (.lor, 1) := by decide +kernel
theorem dq_Wrd_roundedSize_91 : decode kb_Wrd_roundedSize 91 = .ok (.lstore 6, 2) := by decide +kernel
theorem dq_Wrd_roundedSize_93 : decode kb_Wrd_roundedSize 93 = .ok (.lload 4, 2) := by decide +kernel
theorem dq_Wrd_roundedSize_95 : decode kb_Wrd_roundedSize 95 = .ok (.l2i, 1) := by decide +kernel
theorem dq_Wrd_roundedSize_96 : decode kb_Wrd_roundedSize 96 = .ok (.ifCond .ne 13, 3) := by decide +kernel
theorem dq_Wrd_roundedSize_99 : decode kb_Wrd_roundedSize 99 = .ok (.aload_n 0, 1) := by decide +kernel
theorem dq_Wrd_roundedSize_100 : decode kb_Wrd_roundedSize 100 = .ok (.iload_n 1, 1) := by decide +kernel
theorem dq_Wrd_roundedSize_101 : decode kb_Wrd_roundedSize 101 = .ok (.iconst 3, 1) := by decide +kernel
theorem dq_Wrd_roundedSize_102 : decode kb_Wrd_roundedSize 102 = .ok (.iadd, 1) := by decide +kernel
theorem dq_Wrd_roundedSize_103 : decode kb_Wrd_roundedSize 103 = .ok (.invokevirtual 50, 3) := by decide +kernel
theorem dq_Wrd_roundedSize_106 : decode kb_Wrd_roundedSize 106 = .ok (.ifCond .eq 7, 3) := by decide +kernel
theorem dq_Wrd_roundedSize_109 : decode kb_Wrd_roundedSize 109 = .ok (.iconst 1, 1) := by decide +kernel
theorem dq_Wrd_roundedSize_110 : decode kb_Wrd_roundedSize 110 = .ok (.goto 4, 3) := by decide +kernel
theorem dq_Wrd_roundedSize_113 : decode kb_Wrd_roundedSize 113 = .ok (.iconst 0, 1) := by decide +kernel
theorem dq_Wrd_roundedSize_114 : decode kb_Wrd_roundedSize 114 = .ok (.istore 8, 2) := by decide +kernel
theorem dq_Wrd_roundedSize_116 : decode kb_Wrd_roundedSize 116 = .ok (.lload 6, 2) := by decide +kernel
theorem dq_Wrd_roundedSize_118 : decode kb_Wrd_roundedSize 118 = .ok (.iload 8, 2) := by decide +kernel
theorem dq_Wrd_roundedSize_120 : decode kb_Wrd_roundedSize 120 = .ok (.iload_n 3, 1) := by decide +kernel
theorem dq_Wrd_roundedSize_121 : decode kb_Wrd_roundedSize 121 = .ok (.invokestatic 54, 3) := by decide +kernel
theorem dq_Wrd_roundedSize_124 : decode kb_Wrd_roundedSize 124 = .ok (.lreturn, 1) := by decide +kernel
theorem dq_Wrd_roundHead_0 : decode kb_Wrd_roundHead 0 = .ok (.iload_n 3, 1) := by decide +kernel
theorem dq_Wrd_roundHead_1 : decode kb_Wrd_roundHead 1 = .ok (.bipush 52, 2) := by decide +kernel
theorem dq_Wrd_roundHead_3 : decode kb_Wrd_roundHead 3 = .ok (.isub, 1) := by decide +kernel
theorem dq_Wrd_roundHead_4 : decode kb_Wrd_roundHead 4 = .ok (.sipush (-1074), 3) := by decide +kernel
theorem dq_Wrd_roundHead_7 : decode kb_Wrd_roundHead 7 = .ok (.invokestatic 58, 3) := by decide +kernel
theorem dq_Wrd_roundHead_10 : decode kb_Wrd_roundHead 10 = .ok (.istore 4, 2) := by decide +kernel
theorem dq_Wrd_roundHead_12 : decode kb_Wrd_roundHead 12 = .ok (.iload_n 3, 1) := by decide +kernel
theorem dq_Wrd_roundHead_13 : decode kb_Wrd_roundHead 13 = .ok (.iload 4, 2) := by decide +kernel
theorem dq_Wrd_roundHead_15 : decode kb_Wrd_roundHead 15 = .ok (.isub, 1) := by decide +kernel
theorem dq_Wrd_roundHead_16 : decode kb_Wrd_roundHead 16 = .ok (.iconst 1, 1) := by decide +kernel
theorem dq_Wrd_roundHead_17 : decode kb_Wrd_roundHead 17 = .ok (.iadd, 1) := by decide +kernel
theorem dq_Wrd_roundHead_18 : decode kb_Wrd_roundHead 18 = .ok (.istore 5, 2) := by decide +kernel
theorem dq_Wrd_roundHead_20 : decode kb_Wrd_roundHead 20 = .ok (.iload 5, 2) := by decide +kernel
theorem dq_Wrd_roundHead_22 : decode kb_Wrd_roundHead 22 = .ok (.ifCond .ge 5, 3) := by decide +kernel
theorem dq_Wrd_roundHead_25 : decode kb_Wrd_roundHead 25 = .ok (.lconst 0, 1) := by decide +kernel
theorem dq_Wrd_roundHead_26 : decode kb_Wrd_roundHead 26 = .ok (.lreturn, 1) := by decide +kernel
theorem dq_Wrd_roundHead_27 : decode kb_Wrd_roundHead 27 = .ok (.iload 5, 2) := by decide +kernel
theorem dq_Wrd_roundHead_29 : decode kb_Wrd_roundHead 29 = .ok (.ifCond .ne 7, 3) := by decide +kernel
theorem dq_Wrd_roundHead_32 : decode kb_Wrd_roundHead 32 = .ok (.lconst 0, 1) := by decide +kernel
theorem dq_Wrd_roundHead_33 : decode kb_Wrd_roundHead 33 = .ok (.goto 10, 3) := by decide +kernel
theorem dq_Wrd_roundHead_36 : decode kb_Wrd_roundHead 36 = .ok (.lload_n 0, 1) := by decide +kernel
theorem dq_Wrd_roundHead_37 : decode kb_Wrd_roundHead 37 = .ok (.bipush 64, 2) := by decide +kernel
theorem dq_Wrd_roundHead_39 : decode kb_Wrd_roundHead 39 = .ok (.iload 5, 2) := by decide +kernel
theorem dq_Wrd_roundHead_41 : decode kb_Wrd_roundHead 41 = .ok (.isub, 1) := by decide +kernel
theorem dq_Wrd_roundHead_42 : decode kb_Wrd_roundHead 42 = .ok (.lushr, 1) := by decide +kernel
theorem dq_Wrd_roundHead_43 : decode kb_Wrd_roundHead 43 = .ok (.lstore 6, 2) := by decide +kernel
theorem dq_Wrd_roundHead_45 : decode kb_Wrd_roundHead 45 = .ok (.lload_n 0, 1) := by decide +kernel
theorem dq_Wrd_roundHead_46 : decode kb_Wrd_roundHead 46 = .ok (.iload 5, 2) := by decide +kernel
theorem dq_Wrd_roundHead_48 : decode kb_Wrd_roundHead 48 = .ok (.lshl, 1) := by decide +kernel
theorem dq_Wrd_roundHead_49 : decode kb_Wrd_roundHead 49 = .ok (.lstore 8, 2) := by decide +kernel
theorem dq_Wrd_roundHead_51 : decode kb_Wrd_roundHead 51 = .ok (.lload 8, 2) := by decide +kernel
theorem dq_Wrd_roundHead_53 : decode kb_Wrd_roundHead 53 = .ok (.lconst 0, 1) := by decide +kernel
theorem dq_Wrd_roundHead_54 : decode kb_Wrd_roundHead 54 = .ok (.lcmp, 1) := by decide +kernel
theorem dq_Wrd_roundHead_55 : decode kb_Wrd_roundHead 55 = .ok (.ifCond .ge 7, 3) := by decide +kernel
theorem dq_Wrd_roundHead_58 : decode kb_Wrd_roundHead 58 = .ok (.iconst 1, 1) := by decide +kernel
theorem dq_Wrd_roundHead_59 : decode kb_Wrd_roundHead 59 = .ok (.goto 4, 3) := by decide +kernel
theorem dq_Wrd_roundHead_62 : decode kb_Wrd_roundHead 62 = .ok (.iconst 0, 1) := by decide +kernel
theorem dq_Wrd_roundHead_63 : decode kb_Wrd_roundHead 63 = .ok (.istore 10, 2) := by decide +kernel
theorem dq_Wrd_roundHead_65 : decode kb_Wrd_roundHead 65 = .ok (.iload 10, 2) := by decide +kernel
theorem dq_Wrd_roundHead_67 : decode kb_Wrd_roundHead 67 = .ok (.ifCond .eq 20, 3) := by decide +kernel
theorem dq_Wrd_roundHead_70 : decode kb_Wrd_roundHead 70 = .ok (.lload 8, 2) := by decide +kernel
theorem dq_Wrd_roundHead_72 : decode kb_Wrd_roundHead 72 = .ok (.iconst 1, 1) := by decide +kernel
theorem dq_Wrd_roundHead_73 : decode kb_Wrd_roundHead 73 = .ok (.lshl, 1) := by decide +kernel
theorem dq_Wrd_roundHead_74 : decode kb_Wrd_roundHead 74 = .ok (.lconst 0, 1) := by decide +kernel
theorem dq_Wrd_roundHead_75 : decode kb_Wrd_roundHead 75 = .ok (.lcmp, 1) := by decide +kernel
theorem dq_Wrd_roundHead_76 : decode kb_Wrd_roundHead 76 = .ok (.ifCond .ne 11, 3) := by decide +kernel
theorem dq_Wrd_roundHead_79 : decode kb_Wrd_roundHead 79 = .ok (.iload_n 2, 1) := by decide +kernel
theorem dq_Wrd_roundHead_80 : decode kb_Wrd_roundHead 80 = .ok (.ifCond .ne 7, 3) := by decide +kernel
theorem dq_Wrd_roundHead_83 : decode kb_Wrd_roundHead 83 = .ok (.iconst 1, 1) := by decide +kernel
theorem dq_Wrd_roundHead_84 : decode kb_Wrd_roundHead 84 = .ok (.goto 4, 3) := by decide +kernel
theorem dq_Wrd_roundHead_87 : decode kb_Wrd_roundHead 87 = .ok (.iconst 0, 1) := by decide +kernel
theorem dq_Wrd_roundHead_88 : decode kb_Wrd_roundHead 88 = .ok (.istore 11, 2) := by decide +kernel
theorem dq_Wrd_roundHead_90 : decode kb_Wrd_roundHead 90 = .ok (.iload 11, 2) := by decide +kernel
theorem dq_Wrd_roundHead_92 : decode kb_Wrd_roundHead 92 = .ok (.ifCond .eq 20, 3) := by decide +kernel
theorem dq_Wrd_roundHead_95 : decode kb_Wrd_roundHead 95 = .ok (.lload 6, 2) := by decide +kernel
theorem dq_Wrd_roundHead_97 : decode kb_Wrd_roundHead 97 = .ok (.lconst 1, 1) := by decide +kernel
theorem dq_Wrd_roundHead_98 : decode kb_Wrd_roundHead 98 = .ok (.land, 1) := by decide +kernel
theorem dq_Wrd_roundHead_99 : decode kb_Wrd_roundHead 99 = .ok (.lconst 1, 1) := by decide +kernel
theorem dq_Wrd_roundHead_100 : decode kb_Wrd_roundHead 100 = .ok (.lcmp, 1) := by decide +kernel
theorem dq_Wrd_roundHead_101 : decode kb_Wrd_roundHead 101 = .ok (.ifCond .ne 7, 3) := by decide +kernel
theorem dq_Wrd_roundHead_104 : decode kb_Wrd_roundHead 104 = .ok (.iconst 1, 1) := by decide +kernel
theorem dq_Wrd_roundHead_105 : decode kb_Wrd_roundHead 105 = .ok (.goto 9, 3) := by decide +kernel
theorem dq_Wrd_roundHead_108 : decode kb_Wrd_roundHead 108 = .ok (.iconst 0, 1) := by decide +kernel
theorem dq_Wrd_roundHead_109 : decode kb_Wrd_roundHead 109 = .ok (.goto 5, 3) := by decide +kernel
theorem dq_Wrd_roundHead_112 : decode kb_Wrd_roundHead 112 = .ok (.iload 10, 2) := by decide +kernel
theorem dq_Wrd_roundHead_114 : decode kb_Wrd_roundHead 114 = .ok (.istore 12, 2) := by decide +kernel
theorem dq_Wrd_roundHead_116 : decode kb_Wrd_roundHead 116 = .ok (.iload 4, 2) := by decide +kernel
theorem dq_Wrd_roundHead_118 : decode kb_Wrd_roundHead 118 = .ok (.sipush (-1074), 3) := by decide +kernel
theorem dq_Wrd_roundHead_121 : decode kb_Wrd_roundHead 121 = .ok (.isub, 1) := by decide +kernel
theorem dq_Wrd_roundHead_122 : decode kb_Wrd_roundHead 122 = .ok (.i2l, 1) := by decide +kernel
theorem dq_Wrd_roundHead_123 : decode kb_Wrd_roundHead 123 = .ok (.bipush 52, 2) := by decide +kernel
theorem dq_Wrd_roundHead_125 : decode kb_Wrd_roundHead 125 = .ok (.lshl, 1) := by decide +kernel
theorem dq_Wrd_roundHead_126 : decode kb_Wrd_roundHead 126 = .ok (.lload 6, 2) := by decide +kernel
theorem dq_Wrd_roundHead_128 : decode kb_Wrd_roundHead 128 = .ok (.ladd, 1) := by decide +kernel
theorem dq_Wrd_roundHead_129 : decode kb_Wrd_roundHead 129 = .ok (.iload 12, 2) := by decide +kernel
theorem dq_Wrd_roundHead_131 : decode kb_Wrd_roundHead 131 = .ok (.ifCond .eq 7, 3) := by decide +kernel
theorem dq_Wrd_roundHead_134 : decode kb_Wrd_roundHead 134 = .ok (.iconst 1, 1) := by decide +kernel
theorem dq_Wrd_roundHead_135 : decode kb_Wrd_roundHead 135 = .ok (.goto 4, 3) := by decide +kernel
theorem dq_Wrd_roundHead_138 : decode kb_Wrd_roundHead 138 = .ok (.iconst 0, 1) := by decide +kernel
theorem dq_Wrd_roundHead_139 : decode kb_Wrd_roundHead 139 = .ok (.i2l, 1) := by decide +kernel
theorem dq_Wrd_roundHead_140 : decode kb_Wrd_roundHead 140 = .ok (.ladd, 1) := by decide +kernel
theorem dq_Wrd_roundHead_141 : decode kb_Wrd_roundHead 141 = .ok (.lreturn, 1) := by decide +kernel
theorem dq_Wrd_firstThatIsNotZero_0 : decode kb_Wrd_firstThatIsNotZero 0 = .ok (.iconst 0, 1) := by decide +kernel
theorem dq_Wrd_firstThatIsNotZero_1 : decode kb_Wrd_firstThatIsNotZero 1 = .ok (.istore_n 2, 1) := by decide +kernel
theorem dq_Wrd_firstThatIsNotZero_2 : decode kb_Wrd_firstThatIsNotZero 2 = .ok (.iload_n 2, 1) := by decide +kernel
theorem dq_Wrd_firstThatIsNotZero_3 : decode kb_Wrd_firstThatIsNotZero 3 = .ok (.iload_n 1, 1) := by decide +kernel
theorem dq_Wrd_firstThatIsNotZero_4 : decode kb_Wrd_firstThatIsNotZero 4 = .ok (.if_icmp .ge 20, 3) := by decide +kernel
theorem dq_Wrd_firstThatIsNotZero_7 : decode kb_Wrd_firstThatIsNotZero 7 = .ok (.aload_n 0, 1) := by decide +kernel
theorem dq_Wrd_firstThatIsNotZero_8 : decode kb_Wrd_firstThatIsNotZero 8 = .ok (.getfield 11, 3) := by decide +kernel
theorem dq_Wrd_firstThatIsNotZero_11 : decode kb_Wrd_firstThatIsNotZero 11 = .ok (.iload_n 2, 1) := by decide +kernel
theorem dq_Wrd_firstThatIsNotZero_12 : decode kb_Wrd_firstThatIsNotZero 12 = .ok (.laload, 1) := by decide +kernel
theorem dq_Wrd_firstThatIsNotZero_13 : decode kb_Wrd_firstThatIsNotZero 13 = .ok (.lconst 0, 1) := by decide +kernel
theorem dq_Wrd_firstThatIsNotZero_14 : decode kb_Wrd_firstThatIsNotZero 14 = .ok (.lcmp, 1) := by decide +kernel
theorem dq_Wrd_firstThatIsNotZero_15 : decode kb_Wrd_firstThatIsNotZero 15 = .ok (.ifCond .ne 9, 3) := by decide +kernel
theorem dq_Wrd_firstThatIsNotZero_18 : decode kb_Wrd_firstThatIsNotZero 18 = .ok (.iinc 2 1, 3) := by decide +kernel
theorem dq_Wrd_firstThatIsNotZero_21 : decode kb_Wrd_firstThatIsNotZero 21 = .ok (.goto (-19), 3) := by decide +kernel
theorem dq_Wrd_firstThatIsNotZero_24 : decode kb_Wrd_firstThatIsNotZero 24 = .ok (.iload_n 2, 1) := by decide +kernel
theorem dq_Wrd_firstThatIsNotZero_25 : decode kb_Wrd_firstThatIsNotZero 25 = .ok (.ireturn, 1) := by decide +kernel
theorem dq_Wrd_isMoreFrom_0 : decode kb_Wrd_isMoreFrom 0 = .ok (.aload_n 0, 1) := by decide +kernel
theorem dq_Wrd_isMoreFrom_1 : decode kb_Wrd_isMoreFrom 1 = .ok (.getfield 38, 3) := by decide +kernel
theorem dq_Wrd_isMoreFrom_4 : decode kb_Wrd_isMoreFrom 4 = .ok (.istore_n 2, 1) := by decide +kernel
theorem dq_Wrd_isMoreFrom_5 : decode kb_Wrd_isMoreFrom 5 = .ok (.iload_n 1, 1) := by decide +kernel
theorem dq_Wrd_isMoreFrom_6 : decode kb_Wrd_isMoreFrom 6 = .ok (.istore_n 3, 1) := by decide +kernel
theorem dq_Wrd_isMoreFrom_7 : decode kb_Wrd_isMoreFrom 7 = .ok (.iload_n 3, 1) := by decide +kernel
theorem dq_Wrd_isMoreFrom_8 : decode kb_Wrd_isMoreFrom 8 = .ok (.bipush 67, 2) := by decide +kernel
theorem dq_Wrd_isMoreFrom_10 : decode kb_Wrd_isMoreFrom 10 = .ok (.if_icmp .ge 30, 3) := by decide +kernel
theorem dq_Wrd_isMoreFrom_13 : decode kb_Wrd_isMoreFrom 13 = .ok (.iload_n 2, 1) := by decide +kernel
theorem dq_Wrd_isMoreFrom_14 : decode kb_Wrd_isMoreFrom 14 = .ok (.ifCond .ne 26, 3) := by decide +kernel
theorem dq_Wrd_isMoreFrom_17 : decode kb_Wrd_isMoreFrom 17 = .ok (.aload_n 0, 1) := by decide +kernel
theorem dq_Wrd_isMoreFrom_18 : decode kb_Wrd_isMoreFrom 18 = .ok (.getfield 11, 3) := by decide +kernel
theorem dq_Wrd_isMoreFrom_21 : decode kb_Wrd_isMoreFrom 21 = .ok (.iload_n 3, 1) := by decide +kernel
theorem dq_Wrd_isMoreFrom_22 : decode kb_Wrd_isMoreFrom 22 = .ok (.laload, 1) := by decide +kernel
theorem dq_Wrd_isMoreFrom_23 : decode kb_Wrd_isMoreFrom 23 = .ok (.lconst 0, 1) := by decide +kernel
theorem dq_Wrd_isMoreFrom_24 : decode kb_Wrd_isMoreFrom 24 = .ok (.lcmp, 1) := by decide +kernel
theorem dq_Wrd_isMoreFrom_25 : decode kb_Wrd_isMoreFrom 25 = .ok (.ifCond .eq 7, 3) := by decide +kernel
theorem dq_Wrd_isMoreFrom_28 : decode kb_Wrd_isMoreFrom 28 = .ok (.iconst 1, 1) := by decide +kernel
theorem dq_Wrd_isMoreFrom_29 : decode kb_Wrd_isMoreFrom 29 = .ok (.goto 4, 3) := by decide +kernel
theorem dq_Wrd_isMoreFrom_32 : decode kb_Wrd_isMoreFrom 32 = .ok (.iconst 0, 1) := by decide +kernel
theorem dq_Wrd_isMoreFrom_33 : decode kb_Wrd_isMoreFrom 33 = .ok (.istore_n 2, 1) := by decide +kernel
theorem dq_Wrd_isMoreFrom_34 : decode kb_Wrd_isMoreFrom 34 = .ok (.iinc 3 1, 3) := by decide +kernel
theorem dq_Wrd_isMoreFrom_37 : decode kb_Wrd_isMoreFrom 37 = .ok (.goto (-30), 3) := by decide +kernel
theorem dq_Wrd_isMoreFrom_40 : decode kb_Wrd_isMoreFrom 40 = .ok (.iload_n 2, 1) := by decide +kernel
theorem dq_Wrd_isMoreFrom_41 : decode kb_Wrd_isMoreFrom 41 = .ok (.ireturn, 1) := by decide +kernel
