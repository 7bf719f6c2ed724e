theorem dq_Grp_init_0 : decode kb_Grp_init 0 = .ok (.aload_n 0, 1) := by decide +kernel
theorem dq_Grp_init_1 : decode kb_Grp_init 1 = .ok (.invokespecial 5, 3) := by decide +kernel
theorem dq_Grp_init_4 : decode kb_Grp_init 4 = .ok (.aload_n 0, 1) := by decide +kernel
theorem dq_Grp_init_5 : decode kb_Grp_init 5 = .ok (.sipush 160, 3) := by decide +kernel
theorem dq_Grp_init_8 : decode kb_Grp_init 8 = .ok (.newarray .long, 2) := by decide +kernel
theorem dq_Grp_init_10 : decode kb_Grp_init 10 = .ok (.putfield 11, 3) := by decide +kernel
theorem dq_Grp_init_13 : decode kb_Grp_init 13 = .ok (.return_, 1) := by decide +kernel
theorem dq_Grp_placeOfFirst_0 : decode kb_Grp_placeOfFirst 0 = .ok (.bipush 35, 2) := by decide +kernel
theorem dq_Grp_placeOfFirst_2 : decode kb_Grp_placeOfFirst 2 = .ok (.aload_n 0, 1) := by decide +kernel
theorem dq_Grp_placeOfFirst_3 : decode kb_Grp_placeOfFirst 3 = .ok (.getfield 15, 3) := by decide +kernel
theorem dq_Grp_placeOfFirst_6 : decode kb_Grp_placeOfFirst 6 = .ok (.isub, 1) := by decide +kernel
theorem dq_Grp_placeOfFirst_7 : decode kb_Grp_placeOfFirst 7 = .ok (.bipush 9, 2) := by decide +kernel
theorem dq_Grp_placeOfFirst_9 : decode kb_Grp_placeOfFirst 9 = .ok (.imul, 1) := by decide +kernel
theorem dq_Grp_placeOfFirst_10 : decode kb_Grp_placeOfFirst 10 = .ok (.ireturn, 1) := by decide +kernel
theorem dq_Grp_hasSomethingBehindPoint_0 : decode kb_Grp_hasSomethingBehindPoint 0 = .ok (.aload_n 0, 1) := by decide +kernel
theorem dq_Grp_hasSomethingBehindPoint_1 : decode kb_Grp_hasSomethingBehindPoint 1 = .ok (.getfield 19, 3) := by decide +kernel
theorem dq_Grp_hasSomethingBehindPoint_4 : decode kb_Grp_hasSomethingBehindPoint 4 = .ok (.bipush 35, 2) := by decide +kernel
theorem dq_Grp_hasSomethingBehindPoint_6 : decode kb_Grp_hasSomethingBehindPoint 6 = .ok (.if_icmp .le 7, 3) := by decide +kernel
theorem dq_Grp_hasSomethingBehindPoint_9 : decode kb_Grp_hasSomethingBehindPoint 9 = .ok (.iconst 1, 1) := by decide +kernel
theorem dq_Grp_hasSomethingBehindPoint_10 : decode kb_Grp_hasSomethingBehindPoint 10 = .ok (.goto 4, 3) := by decide +kernel
theorem dq_Grp_hasSomethingBehindPoint_13 : decode kb_Grp_hasSomethingBehindPoint 13 = .ok (.iconst 0, 1) := by decide +kernel
theorem dq_Grp_hasSomethingBehindPoint_14 : decode kb_Grp_hasSomethingBehindPoint 14 = .ok (.ireturn, 1) := by decide +kernel
theorem dq_Grp_beProduct_0 : decode kb_Grp_beProduct 0 = .ok (.aload_n 0, 1) := by decide +kernel
theorem dq_Grp_beProduct_1 : decode kb_Grp_beProduct 1 = .ok (.getfield 11, 3) := by decide +kernel
theorem dq_Grp_beProduct_4 : decode kb_Grp_beProduct 4 = .ok (.lconst 0, 1) := by decide +kernel
theorem dq_Grp_beProduct_5 : decode kb_Grp_beProduct 5 = .ok (.invokestatic 22, 3) := by decide +kernel
theorem dq_Grp_beProduct_8 : decode kb_Grp_beProduct 8 = .ok (.aload_n 0, 1) := by decide +kernel
theorem dq_Grp_beProduct_9 : decode kb_Grp_beProduct 9 = .ok (.getfield 11, 3) := by decide +kernel
theorem dq_Grp_beProduct_12 : decode kb_Grp_beProduct 12 = .ok (.bipush 33, 2) := by decide +kernel
theorem dq_Grp_beProduct_14 : decode kb_Grp_beProduct 14 = .ok (.lload_n 1, 1) := by decide +kernel
theorem dq_Grp_beProduct_15 : decode kb_Grp_beProduct 15 = .ok (.ldc2_w 28, 3) := by decide +kernel
theorem dq_Grp_beProduct_18 : decode kb_Grp_beProduct 18 = .ok (.ldiv, 1) := by decide +kernel
theorem dq_Grp_beProduct_19 : decode kb_Grp_beProduct 19 = .ok (.lastore, 1) := by decide +kernel
theorem dq_Grp_beProduct_20 : decode kb_Grp_beProduct 20 = .ok (.aload_n 0, 1) := by decide +kernel
theorem dq_Grp_beProduct_21 : decode kb_Grp_beProduct 21 = .ok (.getfield 11, 3) := by decide +kernel
theorem dq_Grp_beProduct_24 : decode kb_Grp_beProduct 24 = .ok (.bipush 34, 2) := by decide +kernel
theorem dq_Grp_beProduct_26 : decode kb_Grp_beProduct 26 = .ok (.lload_n 1, 1) := by decide +kernel
theorem dq_Grp_beProduct_27 : decode kb_Grp_beProduct 27 = .ok (.ldc2_w 28, 3) := by decide +kernel
theorem dq_Grp_beProduct_30 : decode kb_Grp_beProduct 30 = .ok (.lrem, 1) := by decide +kernel
theorem dq_Grp_beProduct_31 : decode kb_Grp_beProduct 31 = .ok (.lastore, 1) := by decide +kernel
theorem dq_Grp_beProduct_32 : decode kb_Grp_beProduct 32 = .ok (.aload_n 0, 1) := by decide +kernel
theorem dq_Grp_beProduct_33 : decode kb_Grp_beProduct 33 = .ok (.bipush 33, 2) := by decide +kernel
theorem dq_Grp_beProduct_35 : decode kb_Grp_beProduct 35 = .ok (.putfield 15, 3) := by decide +kernel
theorem dq_Grp_beProduct_38 : decode kb_Grp_beProduct 38 = .ok (.aload_n 0, 1) := by decide +kernel
theorem dq_Grp_beProduct_39 : decode kb_Grp_beProduct 39 = .ok (.bipush 35, 2) := by decide +kernel
theorem dq_Grp_beProduct_41 : decode kb_Grp_beProduct 41 = .ok (.putfield 19, 3) := by decide +kernel
theorem dq_Grp_beProduct_44 : decode kb_Grp_beProduct 44 = .ok (.iload_n 3, 1) := by decide +kernel
theorem dq_Grp_beProduct_45 : decode kb_Grp_beProduct 45 = .ok (.istore 4, 2) := by decide +kernel
theorem dq_Grp_beProduct_47 : decode kb_Grp_beProduct 47 = .ok (.iload 4, 2) := by decide +kernel
theorem dq_Grp_beProduct_49 : decode kb_Grp_beProduct 49 = .ok (.ifCond .le 22, 3) := by decide +kernel
theorem dq_Grp_beProduct_52 : decode kb_Grp_beProduct 52 = .ok (.aload_n 0, 1) := by decide +kernel
theorem dq_Grp_beProduct_53 : decode kb_Grp_beProduct 53 = .ok (.iconst 0, 1) := by decide +kernel
theorem dq_Grp_beProduct_54 : decode kb_Grp_beProduct 54 = .ok (.iload 4, 2) := by decide +kernel
theorem dq_Grp_beProduct_56 : decode kb_Grp_beProduct 56 = .ok (.bipush 32, 2) := by decide +kernel
theorem dq_Grp_beProduct_58 : decode kb_Grp_beProduct 58 = .ok (.invokestatic 30, 3) := by decide +kernel
theorem dq_Grp_beProduct_61 : decode kb_Grp_beProduct 61 = .ok (.invokevirtual 36, 3) := by decide +kernel
theorem dq_Grp_beProduct_64 : decode kb_Grp_beProduct 64 = .ok (.pop2, 1) := by decide +kernel
theorem dq_Grp_beProduct_65 : decode kb_Grp_beProduct 65 = .ok (.iinc 4 (-32), 3) := by decide +kernel
theorem dq_Grp_beProduct_68 : decode kb_Grp_beProduct 68 = .ok (.goto (-21), 3) := by decide +kernel
theorem dq_Grp_beProduct_71 : decode kb_Grp_beProduct 71 = .ok (.iload_n 3, 1) := by decide +kernel
theorem dq_Grp_beProduct_72 : decode kb_Grp_beProduct 72 = .ok (.ineg, 1) := by decide +kernel
theorem dq_Grp_beProduct_73 : decode kb_Grp_beProduct 73 = .ok (.istore 4, 2) := by decide +kernel
theorem dq_Grp_beProduct_75 : decode kb_Grp_beProduct 75 = .ok (.iload 4, 2) := by decide +kernel
theorem dq_Grp_beProduct_77 : decode kb_Grp_beProduct 77 = .ok (.ifCond .le 24, 3) := by decide +kernel
theorem dq_Grp_beProduct_80 : decode kb_Grp_beProduct 80 = .ok (.aload_n 0, 1) := by decide +kernel
theorem dq_Grp_beProduct_81 : decode kb_Grp_beProduct 81 = .ok (.sipush 160, 3) := by decide +kernel
theorem dq_Grp_beProduct_84 : decode kb_Grp_beProduct 84 = .ok (.iload 4, 2) := by decide +kernel
theorem dq_Grp_beProduct_86 : decode kb_Grp_beProduct 86 = .ok (.bipush 32, 2) := by decide +kernel
theorem dq_Grp_beProduct_88 : decode kb_Grp_beProduct 88 = .ok (.invokestatic 30, 3) := by decide +kernel
theorem dq_Grp_beProduct_91 : decode kb_Grp_beProduct 91 = .ok (.invokevirtual 40, 3) := by decide +kernel
theorem dq_Grp_beProduct_94 : decode kb_Grp_beProduct 94 = .ok (.pop2, 1) := by decide +kernel
theorem dq_Grp_beProduct_95 : decode kb_Grp_beProduct 95 = .ok (.iinc 4 (-32), 3) := by decide +kernel
theorem dq_Grp_beProduct_98 : decode kb_Grp_beProduct 98 = .ok (.goto (-23), 3) := by decide +kernel
theorem dq_Grp_beProduct_101 : decode kb_Grp_beProduct 101 = .ok (.return_, 1) := by decide +kernel
theorem dq_Grp_load_0 : decode kb_Grp_load 0 = .ok (.aload_n 0, 1) := by decide +kernel
theorem dq_Grp_load_1 : decode kb_Grp_load 1 = .ok (.getfield 11, 3) := by decide +kernel
theorem dq_Grp_load_4 : decode kb_Grp_load 4 = .ok (.lconst 0, 1) := by decide +kernel
theorem dq_Grp_load_5 : decode kb_Grp_load 5 = .ok (.invokestatic 22, 3) := by decide +kernel
theorem dq_Grp_load_8 : decode kb_Grp_load 8 = .ok (.sipush 315, 3) := by decide +kernel
theorem dq_Grp_load_11 : decode kb_Grp_load 11 = .ok (.aload_n 1, 1) := by decide +kernel
theorem dq_Grp_load_12 : decode kb_Grp_load 12 = .ok (.getfield 43, 3) := by decide +kernel
theorem dq_Grp_load_15 : decode kb_Grp_load 15 = .ok (.isub, 1) := by decide +kernel
theorem dq_Grp_load_16 : decode kb_Grp_load 16 = .ok (.istore_n 2, 1) := by decide +kernel
theorem dq_Grp_load_17 : decode kb_Grp_load 17 = .ok (.iconst 0, 1) := by decide +kernel
theorem dq_Grp_load_18 : decode kb_Grp_load 18 = .ok (.istore_n 3, 1) := by decide +kernel
theorem dq_Grp_load_19 : decode kb_Grp_load 19 = .ok (.iload_n 3, 1) := by decide +kernel
theorem dq_Grp_load_20 : decode kb_Grp_load 20 = .ok (.aload_n 1, 1) := by decide +kernel
theorem dq_Grp_load_21 : decode kb_Grp_load 21 = .ok (.getfield 48, 3) := by decide +kernel
theorem dq_Grp_load_24 : decode kb_Grp_load 24 = .ok (.if_icmp .ge 44, 3) := by decide +kernel
theorem dq_Grp_load_27 : decode kb_Grp_load 27 = .ok (.iload_n 2, 1) := by decide +kernel
theorem dq_Grp_load_28 : decode kb_Grp_load 28 = .ok (.iload_n 3, 1) := by decide +kernel
theorem dq_Grp_load_29 : decode kb_Grp_load 29 = .ok (.iadd, 1) := by decide +kernel
theorem dq_Grp_load_30 : decode kb_Grp_load 30 = .ok (.istore 4, 2) := by decide +kernel
theorem dq_Grp_load_32 : decode kb_Grp_load 32 = .ok (.aload_n 0, 1) := by decide +kernel
theorem dq_Grp_load_33 : decode kb_Grp_load 33 = .ok (.getfield 11, 3) := by decide +kernel
theorem dq_Grp_load_36 : decode kb_Grp_load 36 = .ok (.iload 4, 2) := by decide +kernel
theorem dq_Grp_load_38 : decode kb_Grp_load 38 = .ok (.bipush 9, 2) := by decide +kernel
theorem dq_Grp_load_40 : decode kb_Grp_load 40 = .ok (.idiv, 1) := by decide +kernel
theorem dq_Grp_load_41 : decode kb_Grp_load 41 = .ok (.dup2, 1) := by decide +kernel
theorem dq_Grp_load_42 : decode kb_Grp_load 42 = .ok (.laload, 1) := by decide +kernel
theorem dq_Grp_load_43 : decode kb_Grp_load 43 = .ok (.aload_n 1, 1) := by decide +kernel
theorem dq_Grp_load_44 : decode kb_Grp_load 44 = .ok (.getfield 51, 3) := by decide +kernel
theorem dq_Grp_load_47 : decode kb_Grp_load 47 = .ok (.iload_n 3, 1) := by decide +kernel
theorem dq_Grp_load_48 : decode kb_Grp_load 48 = .ok (.iaload, 1) := by decide +kernel
theorem dq_Grp_load_49 : decode kb_Grp_load 49 = .ok (.i2l, 1) := by decide +kernel
theorem dq_Grp_load_50 : decode kb_Grp_load 50 = .ok (.getstatic 55, 3) := by decide +kernel
theorem dq_Grp_load_53 : decode kb_Grp_load 53 = .ok (.iload 4, 2) := by decide +kernel
theorem dq_Grp_load_55 : decode kb_Grp_load 55 = .ok (.bipush 9, 2) := by decide +kernel
theorem dq_Grp_load_57 : decode kb_Grp_load 57 = .ok (.irem, 1) := by decide +kernel
theorem dq_Grp_load_58 : decode kb_Grp_load 58 = .ok (.laload, 1) := by decide +kernel
theorem dq_Grp_load_59 : decode kb_Grp_load 59 = .ok (.lmul, 1) := by decide +kernel
theorem dq_Grp_load_60 : decode kb_Grp_load 60 = .ok (.ladd, 1) := by decide +kernel
theorem dq_Grp_load_61 : decode kb_Grp_load 61 = .ok (.lastore, 1) := by decide +kernel
theorem dq_Grp_load_62 : decode kb_Grp_load 62 = .ok (.iinc 3 1, 3) := by decide +kernel
theorem dq_Grp_load_65 : decode kb_Grp_load 65 = .ok (.goto (-46), 3) := by decide +kernel
theorem dq_Grp_load_68 : decode kb_Grp_load 68 = .ok (.aload_n 0, 1) := by decide +kernel
theorem dq_Grp_load_69 : decode kb_Grp_load 69 = .ok (.iload_n 2, 1) := by decide +kernel
theorem dq_Grp_load_70 : decode kb_Grp_load 70 = .ok (.bipush 9, 2) := by decide +kernel
theorem dq_Grp_load_72 : decode kb_Grp_load 72 = .ok (.idiv, 1) := by decide +kernel
theorem dq_Grp_load_73 : decode kb_Grp_load 73 = .ok (.putfield 15, 3) := by decide +kernel
theorem dq_Grp_load_76 : decode kb_Grp_load 76 = .ok (.aload_n 0, 1) := by decide +kernel
theorem dq_Grp_load_77 : decode kb_Grp_load 77 = .ok (.iload_n 2, 1) := by decide +kernel
theorem dq_Grp_load_78 : decode kb_Grp_load 78 = .ok (.aload_n 1, 1) := by decide +kernel
theorem dq_Grp_load_79 : decode kb_Grp_load 79 = .ok (.getfield 48, 3) := by decide +kernel
theorem dq_Grp_load_82 : decode kb_Grp_load 82 = .ok (.iadd, 1) := by decide +kernel
theorem dq_Grp_load_83 : decode kb_Grp_load 83 = .ok (.iconst 1, 1) := by decide +kernel
theorem dq_Grp_load_84 : decode kb_Grp_load 84 = .ok (.isub, 1) := by decide +kernel
theorem dq_Grp_load_85 : decode kb_Grp_load 85 = .ok (.bipush 9, 2) := by decide +kernel
theorem dq_Grp_load_87 : decode kb_Grp_load 87 = .ok (.idiv, 1) := by decide +kernel
theorem dq_Grp_load_88 : decode kb_Grp_load 88 = .ok (.iconst 1, 1) := by decide +kernel
theorem dq_Grp_load_89 : decode kb_Grp_load 89 = .ok (.iadd, 1) := by decide +kernel
theorem dq_Grp_load_90 : decode kb_Grp_load 90 = .ok (.putfield 19, 3) := by decide +kernel
theorem dq_Grp_load_93 : decode kb_Grp_load 93 = .ok (.return_, 1) := by decide +kernel
theorem dq_Grp_multiply_0 : decode kb_Grp_multiply 0 = .ok (.lconst 0, 1) := by decide +kernel
theorem dq_Grp_multiply_1 : decode kb_Grp_multiply 1 = .ok (.lstore_n 3, 1) := by decide +kernel
theorem dq_Grp_multiply_2 : decode kb_Grp_multiply 2 = .ok (.aload_n 0, 1) := by decide +kernel
theorem dq_Grp_multiply_3 : decode kb_Grp_multiply 3 = .ok (.getfield 19, 3) := by decide +kernel
theorem dq_Grp_multiply_6 : decode kb_Grp_multiply 6 = .ok (.iconst 1, 1) := by decide +kernel
theorem dq_Grp_multiply_7 : decode kb_Grp_multiply 7 = .ok (.isub, 1) := by decide +kernel
theorem dq_Grp_multiply_8 : decode kb_Grp_multiply 8 = .ok (.istore 5, 2) := by decide +kernel
theorem dq_Grp_multiply_10 : decode kb_Grp_multiply 10 = .ok (.iload 5, 2) := by decide +kernel
theorem dq_Grp_multiply_12 : decode kb_Grp_multiply 12 = .ok (.iload_n 1, 1) := by decide +kernel
theorem dq_Grp_multiply_13 : decode kb_Grp_multiply 13 = .ok (.if_icmp .lt 70, 3) := by decide +kernel
theorem dq_Grp_multiply_16 : decode kb_Grp_multiply 16 = .ok (.iload 5, 2) := by decide +kernel
theorem dq_Grp_multiply_18 : decode kb_Grp_multiply 18 = .ok (.aload_n 0, 1) := by decide +kernel
theorem dq_Grp_multiply_19 : decode kb_Grp_multiply 19 = .ok (.getfield 15, 3) := by decide +kernel
theorem dq_Grp_multiply_22 : decode kb_Grp_multiply 22 = .ok (.if_icmp .ge 9, 3) := by decide +kernel
theorem dq_Grp_multiply_25 : decode kb_Grp_multiply 25 = .ok (.lload_n 3, 1) := by decide +kernel
theorem dq_Grp_multiply_26 : decode kb_Grp_multiply 26 = .ok (.lconst 0, 1) := by decide +kernel
theorem dq_Grp_multiply_27 : decode kb_Grp_multiply 27 = .ok (.lcmp, 1) := by decide +kernel
theorem dq_Grp_multiply_28 : decode kb_Grp_multiply 28 = .ok (.ifCond .eq 55, 3) := by decide +kernel
theorem dq_Grp_multiply_31 : decode kb_Grp_multiply 31 = .ok (.aload_n 0, 1) := by decide +kernel
theorem dq_Grp_multiply_32 : decode kb_Grp_multiply 32 = .ok (.getfield 11, 3) := by decide +kernel
theorem dq_Grp_multiply_35 : decode kb_Grp_multiply 35 = .ok (.iload 5, 2) := by decide +kernel
theorem dq_Grp_multiply_37 : decode kb_Grp_multiply 37 = .ok (.laload, 1) := by decide +kernel
theorem dq_Grp_multiply_38 : decode kb_Grp_multiply 38 = .ok (.iload_n 2, 1) := by decide +kernel
theorem dq_Grp_multiply_39 : decode kb_Grp_multiply 39 = .ok (.lshl, 1) := by decide +kernel
theorem dq_Grp_multiply_40 : decode kb_Grp_multiply 40 = .ok (.lload_n 3, 1) := by decide +kernel
theorem dq_Grp_multiply_41 : decode kb_Grp_multiply 41 = .ok (.ladd, 1) := by decide +kernel
theorem dq_Grp_multiply_42 : decode kb_Grp_multiply 42 = .ok (.lstore 6, 2) := by decide +kernel
theorem dq_Grp_multiply_44 : decode kb_Grp_multiply 44 = .ok (.aload_n 0, 1) := by decide +kernel
theorem dq_Grp_multiply_45 : decode kb_Grp_multiply 45 = .ok (.getfield 11, 3) := by decide +kernel
theorem dq_Grp_multiply_48 : decode kb_Grp_multiply 48 = .ok (.iload 5, 2) := by decide +kernel
theorem dq_Grp_multiply_50 : decode kb_Grp_multiply 50 = .ok (.lload 6, 2) := by decide +kernel
theorem dq_Grp_multiply_52 : decode kb_Grp_multiply 52 = .ok (.ldc2_w 28, 3) := by decide +kernel
theorem dq_Grp_multiply_55 : decode kb_Grp_multiply 55 = .ok (.lrem, 1) := by decide +kernel
theorem dq_Grp_multiply_56 : decode kb_Grp_multiply 56 = .ok (.lastore, 1) := by decide +kernel
theorem dq_Grp_multiply_57 : decode kb_Grp_multiply 57 = .ok (.lload 6, 2) := by decide +kernel
theorem dq_Grp_multiply_59 : decode kb_Grp_multiply 59 = .ok (.ldc2_w 28, 3) := by decide +kernel
theorem dq_Grp_multiply_62 : decode kb_Grp_multiply 62 = .ok (.ldiv, 1) := by decide +kernel
theorem dq_Grp_multiply_63 : decode kb_Grp_multiply 63 = .ok (.lstore_n 3, 1) := by decide +kernel
theorem dq_Grp_multiply_64 : decode kb_Grp_multiply 64 = .ok (.aload_n 0, 1) := by decide +kernel
theorem dq_Grp_multiply_65 : decode kb_Grp_multiply 65 = .ok (.aload_n 0, 1) := by decide +kernel
theorem dq_Grp_multiply_66 : decode kb_Grp_multiply 66 = .ok (.getfield 15, 3) := by decide +kernel
theorem dq_Grp_multiply_69 : decode kb_Grp_multiply 69 = .ok (.iload 5, 2) := by decide +kernel
theorem dq_Grp_multiply_71 : decode kb_Grp_multiply 71 = .ok (.invokestatic 30, 3) := by decide +kernel
theorem dq_Grp_multiply_74 : decode kb_Grp_multiply 74 = .ok (.putfield 15, 3) := by decide +kernel
theorem dq_Grp_multiply_77 : decode kb_Grp_multiply 77 = .ok (.iinc 5 (-1), 3) := by decide +kernel
theorem dq_Grp_multiply_80 : decode kb_Grp_multiply 80 = .ok (.goto (-70), 3) := by decide +kernel
theorem dq_Grp_multiply_83 : decode kb_Grp_multiply 83 = .ok (.aload_n 0, 1) := by decide +kernel
theorem dq_Grp_multiply_84 : decode kb_Grp_multiply 84 = .ok (.getfield 19, 3) := by decide +kernel
theorem dq_Grp_multiply_87 : decode kb_Grp_multiply 87 = .ok (.iload_n 1, 1) := by decide +kernel
theorem dq_Grp_multiply_88 : decode kb_Grp_multiply 88 = .ok (.if_icmp .le 32, 3) := by decide +kernel
theorem dq_Grp_multiply_91 : decode kb_Grp_multiply 91 = .ok (.aload_n 0, 1) := by decide +kernel
theorem dq_Grp_multiply_92 : decode kb_Grp_multiply 92 = .ok (.getfield 11, 3) := by decide +kernel
theorem dq_Grp_multiply_95 : decode kb_Grp_multiply 95 = .ok (.aload_n 0, 1) := by decide +kernel
theorem dq_Grp_multiply_96 : decode kb_Grp_multiply 96 = .ok (.getfield 19, 3) := by decide +kernel
theorem dq_Grp_multiply_99 : decode kb_Grp_multiply 99 = .ok (.iconst 1, 1) := by decide +kernel
theorem dq_Grp_multiply_100 : decode kb_Grp_multiply 100 = .ok (.isub, 1) := by decide +kernel
theorem dq_Grp_multiply_101 : decode kb_Grp_multiply 101 = .ok (.laload, 1) := by decide +kernel
theorem dq_Grp_multiply_102 : decode kb_Grp_multiply 102 = .ok (.lconst 0, 1) := by decide +kernel
theorem dq_Grp_multiply_103 : decode kb_Grp_multiply 103 = .ok (.lcmp, 1) := by decide +kernel
theorem dq_Grp_multiply_104 : decode kb_Grp_multiply 104 = .ok (.ifCond .ne 16, 3) := by decide +kernel
theorem dq_Grp_multiply_107 : decode kb_Grp_multiply 107 = .ok (.aload_n 0, 1) := by decide +kernel
theorem dq_Grp_multiply_108 : decode kb_Grp_multiply 108 = .ok (.dup, 1) := by decide +kernel
theorem dq_Grp_multiply_109 : decode kb_Grp_multiply 109 = .ok (.getfield 19, 3) := by decide +kernel
theorem dq_Grp_multiply_112 : decode kb_Grp_multiply 112 = .ok (.iconst 1, 1) := by decide +kernel
theorem dq_Grp_multiply_113 : decode kb_Grp_multiply 113 = .ok (.isub, 1) := by decide +kernel
theorem dq_Grp_multiply_114 : decode kb_Grp_multiply 114 = .ok (.putfield 19, 3) := by decide +kernel
theorem dq_Grp_multiply_117 : decode kb_Grp_multiply 117 = .ok (.goto (-34), 3) := by decide +kernel
theorem dq_Grp_multiply_120 : decode kb_Grp_multiply 120 = .ok (.lload_n 3, 1) := by decide +kernel
theorem dq_Grp_multiply_121 : decode kb_Grp_multiply 121 = .ok (.lreturn, 1) := by decide +kernel
theorem dq_Grp_divide_0 : decode kb_Grp_divide 0 = .ok (.lconst 1, 1) := by decide +kernel
theorem dq_Grp_divide_1 : decode kb_Grp_divide 1 = .ok (.iload_n 2, 1) := by decide +kernel
theorem dq_Grp_divide_2 : decode kb_Grp_divide 2 = .ok (.lshl, 1) := by decide +kernel
theorem dq_Grp_divide_3 : decode kb_Grp_divide 3 = .ok (.lconst 1, 1) := by decide +kernel
theorem dq_Grp_divide_4 : decode kb_Grp_divide 4 = .ok (.lsub, 1) := by decide +kernel
theorem dq_Grp_divide_5 : decode kb_Grp_divide 5 = .ok (.lstore_n 3, 1) := by decide +kernel
theorem dq_Grp_divide_6 : decode kb_Grp_divide 6 = .ok (.lconst 0, 1) := by decide +kernel
theorem dq_Grp_divide_7 : decode kb_Grp_divide 7 = .ok (.lstore 5, 2) := by decide +kernel
theorem dq_Grp_divide_9 : decode kb_Grp_divide 9 = .ok (.aload_n 0, 1) := by decide +kernel
theorem dq_Grp_divide_10 : decode kb_Grp_divide 10 = .ok (.getfield 15, 3) := by decide +kernel
theorem dq_Grp_divide_13 : decode kb_Grp_divide 13 = .ok (.istore 7, 2) := by decide +kernel
theorem dq_Grp_divide_15 : decode kb_Grp_divide 15 = .ok (.iload 7, 2) := by decide +kernel
theorem dq_Grp_divide_17 : decode kb_Grp_divide 17 = .ok (.iload_n 1, 1) := by decide +kernel
theorem dq_Grp_divide_18 : decode kb_Grp_divide 18 = .ok (.if_icmp .ge 73, 3) := by decide +kernel
theorem dq_Grp_divide_21 : decode kb_Grp_divide 21 = .ok (.iload 7, 2) := by decide +kernel
theorem dq_Grp_divide_23 : decode kb_Grp_divide 23 = .ok (.aload_n 0, 1) := by decide +kernel
theorem dq_Grp_divide_24 : decode kb_Grp_divide 24 = .ok (.getfield 19, 3) := by decide +kernel
theorem dq_Grp_divide_27 : decode kb_Grp_divide 27 = .ok (.if_icmp .lt 10, 3) := by decide +kernel
theorem dq_Grp_divide_30 : decode kb_Grp_divide 30 = .ok (.lload 5, 2) := by decide +kernel
theorem dq_Grp_divide_32 : decode kb_Grp_divide 32 = .ok (.lconst 0, 1) := by decide +kernel
theorem dq_Grp_divide_33 : decode kb_Grp_divide 33 = .ok (.lcmp, 1) := by decide +kernel
theorem dq_Grp_divide_34 : decode kb_Grp_divide 34 = .ok (.ifCond .eq 57, 3) := by decide +kernel
theorem dq_Grp_divide_37 : decode kb_Grp_divide 37 = .ok (.lload 5, 2) := by decide +kernel
theorem dq_Grp_divide_39 : decode kb_Grp_divide 39 = .ok (.ldc2_w 28, 3) := by decide +kernel
theorem dq_Grp_divide_42 : decode kb_Grp_divide 42 = .ok (.lmul, 1) := by decide +kernel
theorem dq_Grp_divide_43 : decode kb_Grp_divide 43 = .ok (.aload_n 0, 1) := by decide +kernel
theorem dq_Grp_divide_44 : decode kb_Grp_divide 44 = .ok (.getfield 11, 3) := by decide +kernel
theorem dq_Grp_divide_47 : decode kb_Grp_divide 47 = .ok (.iload 7, 2) := by decide +kernel
theorem dq_Grp_divide_49 : decode kb_Grp_divide 49 = .ok (.laload, 1) := by decide +kernel
theorem dq_Grp_divide_50 : decode kb_Grp_divide 50 = .ok (.ladd, 1) := by decide +kernel
theorem dq_Grp_divide_51 : decode kb_Grp_divide 51 = .ok (.lstore 8, 2) := by decide +kernel
theorem dq_Grp_divide_53 : decode kb_Grp_divide 53 = .ok (.aload_n 0, 1) := by decide +kernel
theorem dq_Grp_divide_54 : decode kb_Grp_divide 54 = .ok (.getfield 11, 3) := by decide +kernel
theorem dq_Grp_divide_57 : decode kb_Grp_divide 57 = .ok (.iload 7, 2) := by decide +kernel
theorem dq_Grp_divide_59 : decode kb_Grp_divide 59 = .ok (.lload 8, 2) := by decide +kernel
theorem dq_Grp_divide_61 : decode kb_Grp_divide 61 = .ok (.iload_n 2, 1) := by decide +kernel
theorem dq_Grp_divide_62 : decode kb_Grp_divide 62 = .ok (.lushr, 1) := by decide +kernel
theorem dq_Grp_divide_63 : decode kb_Grp_divide 63 = .ok (.lastore, 1) := by decide +kernel
theorem dq_Grp_divide_64 : decode kb_Grp_divide 64 = .ok (.lload 8, 2) := by decide +kernel
theorem dq_Grp_divide_66 : decode kb_Grp_divide 66 = .ok (.lload_n 3, 1) := by decide +kernel
theorem dq_Grp_divide_67 : decode kb_Grp_divide 67 = .ok (.land, 1) := by decide +kernel
theorem dq_Grp_divide_68 : decode kb_Grp_divide 68 = .ok (.lstore 5, 2) := by decide +kernel
theorem dq_Grp_divide_70 : decode kb_Grp_divide 70 = .ok (.aload_n 0, 1) := by decide +kernel
theorem dq_Grp_divide_71 : decode kb_Grp_divide 71 = .ok (.aload_n 0, 1) := by decide +kernel
theorem dq_Grp_divide_72 : decode kb_Grp_divide 72 = .ok (.getfield 19, 3) := by decide +kernel
theorem dq_Grp_divide_75 : decode kb_Grp_divide 75 = .ok (.iload 7, 2) := by decide +kernel
theorem dq_Grp_divide_77 : decode kb_Grp_divide 77 = .ok (.iconst 1, 1) := by decide +kernel
theorem dq_Grp_divide_78 : decode kb_Grp_divide 78 = .ok (.iadd, 1) := by decide +kernel
theorem dq_Grp_divide_79 : decode kb_Grp_divide 79 = .ok (.invokestatic 58, 3) := by decide +kernel
theorem dq_Grp_divide_82 : decode kb_Grp_divide 82 = .ok (.putfield 19, 3) := by decide +kernel
theorem dq_Grp_divide_85 : decode kb_Grp_divide 85 = .ok (.iinc 7 1, 3) := by decide +kernel
theorem dq_Grp_divide_88 : decode kb_Grp_divide 88 = .ok (.goto (-73), 3) := by decide +kernel
theorem dq_Grp_divide_91 : decode kb_Grp_divide 91 = .ok (.aload_n 0, 1) := by decide +kernel
theorem dq_Grp_divide_92 : decode kb_Grp_divide 92 = .ok (.getfield 15, 3) := by decide +kernel
theorem dq_Grp_divide_95 : decode kb_Grp_divide 95 = .ok (.iload_n 1, 1) := by decide +kernel
theorem dq_Grp_divide_96 : decode kb_Grp_divide 96 = .ok (.if_icmp .ge 30, 3) := by decide +kernel
theorem dq_Grp_divide_99 : decode kb_Grp_divide 99 = .ok (.aload_n 0, 1) := by decide +kernel
theorem dq_Grp_divide_100 : decode kb_Grp_divide 100 = .ok (.getfield 11, 3) := by decide +kernel
theorem dq_Grp_divide_103 : decode kb_Grp_divide 103 = .ok (.aload_n 0, 1) := by decide +kernel
theorem dq_Grp_divide_104 : decode kb_Grp_divide 104 = .ok (.getfield 15, 3) := by decide +kernel
theorem dq_Grp_divide_107 : decode kb_Grp_divide 107 = .ok (.laload, 1) := by decide +kernel
theorem dq_Grp_divide_108 : decode kb_Grp_divide 108 = .ok (.lconst 0, 1) := by decide +kernel
theorem dq_Grp_divide_109 : decode kb_Grp_divide 109 = .ok (.lcmp, 1) := by decide +kernel
theorem dq_Grp_divide_110 : decode kb_Grp_divide 110 = .ok (.ifCond .ne 16, 3) := by decide +kernel
theorem dq_Grp_divide_113 : decode kb_Grp_divide 113 = .ok (.aload_n 0, 1) := by decide +kernel
theorem dq_Grp_divide_114 : decode kb_Grp_divide 114 = .ok (.dup, 1) := by decide +kernel
theorem dq_Grp_divide_115 : decode kb_Grp_divide 115 = .ok (.getfield 15, 3) := by decide +kernel
theorem dq_Grp_divide_118 : decode kb_Grp_divide 118 = .ok (.iconst 1, 1) := by decide +kernel
theorem dq_Grp_divide_119 : decode kb_Grp_divide 119 = .ok (.iadd, 1) := by decide +kernel
theorem dq_Grp_divide_120 : decode kb_Grp_divide 120 = .ok (.putfield 15, 3) := by decide +kernel
theorem dq_Grp_divide_123 : decode kb_Grp_divide 123 = .ok (.goto (-32), 3) := by decide +kernel
theorem dq_Grp_divide_126 : decode kb_Grp_divide 126 = .ok (.lload 5, 2) := by decide +kernel
theorem dq_Grp_divide_128 : decode kb_Grp_divide 128 = .ok (.lreturn, 1) := by decide +kernel
