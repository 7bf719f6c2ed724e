theorem dq_Dec_init_0 : decode kb_Dec_init 0 = .ok (.aload_n 0, 1) := by decide +kernel
theorem dq_Dec_init_1 : decode kb_Dec_init 1 = .ok (.invokespecial 3, 3) := by decide +kernel
theorem dq_Dec_init_4 : decode kb_Dec_init 4 = .ok (.aload_n 0, 1) := by decide +kernel
theorem dq_Dec_init_5 : decode kb_Dec_init 5 = .ok (.sipush 800, 3) := by decide +kernel
theorem dq_Dec_init_8 : decode kb_Dec_init 8 = .ok (.newarray .int, 2) := by decide +kernel
theorem dq_Dec_init_10 : decode kb_Dec_init 10 = .ok (.putfield 9, 3) := by decide +kernel
theorem dq_Dec_init_13 : decode kb_Dec_init 13 = .ok (.return_, 1) := by decide +kernel
theorem dq_Dec_beZero_0 : decode kb_Dec_beZero 0 = .ok (.aload_n 0, 1) := by decide +kernel
theorem dq_Dec_beZero_1 : decode kb_Dec_beZero 1 = .ok (.iconst 0, 1) := by decide +kernel
theorem dq_Dec_beZero_2 : decode kb_Dec_beZero 2 = .ok (.putfield 15, 3) := by decide +kernel
theorem dq_Dec_beZero_5 : decode kb_Dec_beZero 5 = .ok (.aload_n 0, 1) := by decide +kernel
theorem dq_Dec_beZero_6 : decode kb_Dec_beZero 6 = .ok (.iconst 0, 1) := by decide +kernel
theorem dq_Dec_beZero_7 : decode kb_Dec_beZero 7 = .ok (.putfield 19, 3) := by decide +kernel
theorem dq_Dec_beZero_10 : decode kb_Dec_beZero 10 = .ok (.return_, 1) := by decide +kernel
theorem dq_Dec_beStartOf_0 : decode kb_Dec_beStartOf 0 = .ok (.aload_n 1, 1) := by decide +kernel
theorem dq_Dec_beStartOf_1 : decode kb_Dec_beStartOf 1 = .ok (.getfield 9, 3) := by decide +kernel
theorem dq_Dec_beStartOf_4 : decode kb_Dec_beStartOf 4 = .ok (.iconst 0, 1) := by decide +kernel
theorem dq_Dec_beStartOf_5 : decode kb_Dec_beStartOf 5 = .ok (.aload_n 0, 1) := by decide +kernel
theorem dq_Dec_beStartOf_6 : decode kb_Dec_beStartOf 6 = .ok (.getfield 9, 3) := by decide +kernel
theorem dq_Dec_beStartOf_9 : decode kb_Dec_beStartOf 9 = .ok (.iconst 0, 1) := by decide +kernel
theorem dq_Dec_beStartOf_10 : decode kb_Dec_beStartOf 10 = .ok (.iload_n 2, 1) := by decide +kernel
theorem dq_Dec_beStartOf_11 : decode kb_Dec_beStartOf 11 = .ok (.invokestatic 22, 3) := by decide +kernel
theorem dq_Dec_beStartOf_14 : decode kb_Dec_beStartOf 14 = .ok (.aload_n 0, 1) := by decide +kernel
theorem dq_Dec_beStartOf_15 : decode kb_Dec_beStartOf 15 = .ok (.iload_n 2, 1) := by decide +kernel
theorem dq_Dec_beStartOf_16 : decode kb_Dec_beStartOf 16 = .ok (.putfield 15, 3) := by decide +kernel
theorem dq_Dec_beStartOf_19 : decode kb_Dec_beStartOf 19 = .ok (.aload_n 0, 1) := by decide +kernel
theorem dq_Dec_beStartOf_20 : decode kb_Dec_beStartOf 20 = .ok (.aload_n 1, 1) := by decide +kernel
theorem dq_Dec_beStartOf_21 : decode kb_Dec_beStartOf 21 = .ok (.getfield 19, 3) := by decide +kernel
theorem dq_Dec_beStartOf_24 : decode kb_Dec_beStartOf 24 = .ok (.putfield 19, 3) := by decide +kernel
theorem dq_Dec_beStartOf_27 : decode kb_Dec_beStartOf 27 = .ok (.return_, 1) := by decide +kernel
theorem dq_Dec_append_0 : decode kb_Dec_append 0 = .ok (.aload_n 0, 1) := by decide +kernel
theorem dq_Dec_append_1 : decode kb_Dec_append 1 = .ok (.getfield 15, 3) := by decide +kernel
theorem dq_Dec_append_4 : decode kb_Dec_append 4 = .ok (.sipush 800, 3) := by decide +kernel
theorem dq_Dec_append_7 : decode kb_Dec_append 7 = .ok (.if_icmp .ge 23, 3) := by decide +kernel
theorem dq_Dec_append_10 : decode kb_Dec_append 10 = .ok (.aload_n 0, 1) := by decide +kernel
theorem dq_Dec_append_11 : decode kb_Dec_append 11 = .ok (.getfield 9, 3) := by decide +kernel
theorem dq_Dec_append_14 : decode kb_Dec_append 14 = .ok (.aload_n 0, 1) := by decide +kernel
theorem dq_Dec_append_15 : decode kb_Dec_append 15 = .ok (.getfield 15, 3) := by decide +kernel
theorem dq_Dec_append_18 : decode kb_Dec_append 18 = .ok (.iload_n 1, 1) := by decide +kernel
theorem dq_Dec_append_19 : decode kb_Dec_append 19 = .ok (.iastore, 1) := by decide +kernel
theorem dq_Dec_append_20 : decode kb_Dec_append 20 = .ok (.aload_n 0, 1) := by decide +kernel
theorem dq_Dec_append_21 : decode kb_Dec_append 21 = .ok (.dup, 1) := by decide +kernel
theorem dq_Dec_append_22 : decode kb_Dec_append 22 = .ok (.getfield 15, 3) := by decide +kernel
theorem dq_Dec_append_25 : decode kb_Dec_append 25 = .ok (.iconst 1, 1) := by decide +kernel
theorem dq_Dec_append_26 : decode kb_Dec_append 26 = .ok (.iadd, 1) := by decide +kernel
theorem dq_Dec_append_27 : decode kb_Dec_append 27 = .ok (.putfield 15, 3) := by decide +kernel
theorem dq_Dec_append_30 : decode kb_Dec_append 30 = .ok (.return_, 1) := by decide +kernel
theorem dq_Dec_cutBehind_0 : decode kb_Dec_cutBehind 0 = .ok (.iload_n 1, 1) := by decide +kernel
theorem dq_Dec_cutBehind_1 : decode kb_Dec_cutBehind 1 = .ok (.ifCond .ge 10, 3) := by decide +kernel
theorem dq_Dec_cutBehind_4 : decode kb_Dec_cutBehind 4 = .ok (.aload_n 0, 1) := by decide +kernel
theorem dq_Dec_cutBehind_5 : decode kb_Dec_cutBehind 5 = .ok (.invokevirtual 28, 3) := by decide +kernel
theorem dq_Dec_cutBehind_8 : decode kb_Dec_cutBehind 8 = .ok (.goto 27, 3) := by decide +kernel
theorem dq_Dec_cutBehind_11 : decode kb_Dec_cutBehind 11 = .ok (.iload_n 1, 1) := by decide +kernel
theorem dq_Dec_cutBehind_12 : decode kb_Dec_cutBehind 12 = .ok (.aload_n 0, 1) := by decide +kernel
theorem dq_Dec_cutBehind_13 : decode kb_Dec_cutBehind 13 = .ok (.getfield 15, 3) := by decide +kernel
theorem dq_Dec_cutBehind_16 : decode kb_Dec_cutBehind 16 = .ok (.if_icmp .ge 19, 3) := by decide +kernel
theorem dq_Dec_cutBehind_19 : decode kb_Dec_cutBehind 19 = .ok (.aload_n 0, 1) := by decide +kernel
theorem dq_Dec_cutBehind_20 : decode kb_Dec_cutBehind 20 = .ok (.iload_n 1, 1) := by decide +kernel
theorem dq_Dec_cutBehind_21 : decode kb_Dec_cutBehind 21 = .ok (.invokevirtual 31, 3) := by decide +kernel
theorem dq_Dec_cutBehind_24 : decode kb_Dec_cutBehind 24 = .ok (.istore_n 2, 1) := by decide +kernel
theorem dq_Dec_cutBehind_25 : decode kb_Dec_cutBehind 25 = .ok (.aload_n 0, 1) := by decide +kernel
theorem dq_Dec_cutBehind_26 : decode kb_Dec_cutBehind 26 = .ok (.iload_n 1, 1) := by decide +kernel
theorem dq_Dec_cutBehind_27 : decode kb_Dec_cutBehind 27 = .ok (.putfield 15, 3) := by decide +kernel
theorem dq_Dec_cutBehind_30 : decode kb_Dec_cutBehind 30 = .ok (.aload_n 0, 1) := by decide +kernel
theorem dq_Dec_cutBehind_31 : decode kb_Dec_cutBehind 31 = .ok (.iload_n 2, 1) := by decide +kernel
theorem dq_Dec_cutBehind_32 : decode kb_Dec_cutBehind 32 = .ok (.invokevirtual 35, 3) := by decide +kernel
theorem dq_Dec_cutBehind_35 : decode kb_Dec_cutBehind 35 = .ok (.return_, 1) := by decide +kernel
theorem dq_Dec_goesUpBehind_0 : decode kb_Dec_goesUpBehind 0 = .ok (.aload_n 0, 1) := by decide +kernel
theorem dq_Dec_goesUpBehind_1 : decode kb_Dec_goesUpBehind 1 = .ok (.getfield 9, 3) := by decide +kernel
theorem dq_Dec_goesUpBehind_4 : decode kb_Dec_goesUpBehind 4 = .ok (.iload_n 1, 1) := by decide +kernel
theorem dq_Dec_goesUpBehind_5 : decode kb_Dec_goesUpBehind 5 = .ok (.iaload, 1) := by decide +kernel
theorem dq_Dec_goesUpBehind_6 : decode kb_Dec_goesUpBehind 6 = .ok (.iconst 5, 1) := by decide +kernel
theorem dq_Dec_goesUpBehind_7 : decode kb_Dec_goesUpBehind 7 = .ok (.if_icmp .eq 19, 3) := by decide +kernel
theorem dq_Dec_goesUpBehind_10 : decode kb_Dec_goesUpBehind 10 = .ok (.aload_n 0, 1) := by decide +kernel
theorem dq_Dec_goesUpBehind_11 : decode kb_Dec_goesUpBehind 11 = .ok (.getfield 9, 3) := by decide +kernel
theorem dq_Dec_goesUpBehind_14 : decode kb_Dec_goesUpBehind 14 = .ok (.iload_n 1, 1) := by decide +kernel
theorem dq_Dec_goesUpBehind_15 : decode kb_Dec_goesUpBehind 15 = .ok (.iaload, 1) := by decide +kernel
theorem dq_Dec_goesUpBehind_16 : decode kb_Dec_goesUpBehind 16 = .ok (.iconst 5, 1) := by decide +kernel
theorem dq_Dec_goesUpBehind_17 : decode kb_Dec_goesUpBehind 17 = .ok (.if_icmp .le 7, 3) := by decide +kernel
theorem dq_Dec_goesUpBehind_20 : decode kb_Dec_goesUpBehind 20 = .ok (.iconst 1, 1) := by decide +kernel
theorem dq_Dec_goesUpBehind_21 : decode kb_Dec_goesUpBehind 21 = .ok (.goto 4, 3) := by decide +kernel
theorem dq_Dec_goesUpBehind_24 : decode kb_Dec_goesUpBehind 24 = .ok (.iconst 0, 1) := by decide +kernel
theorem dq_Dec_goesUpBehind_25 : decode kb_Dec_goesUpBehind 25 = .ok (.ireturn, 1) := by decide +kernel
theorem dq_Dec_goesUpBehind_26 : decode kb_Dec_goesUpBehind 26 = .ok (.iload_n 1, 1) := by decide +kernel
theorem dq_Dec_goesUpBehind_27 : decode kb_Dec_goesUpBehind 27 = .ok (.aload_n 0, 1) := by decide +kernel
theorem dq_Dec_goesUpBehind_28 : decode kb_Dec_goesUpBehind 28 = .ok (.getfield 15, 3) := by decide +kernel
theorem dq_Dec_goesUpBehind_31 : decode kb_Dec_goesUpBehind 31 = .ok (.iconst 1, 1) := by decide +kernel
theorem dq_Dec_goesUpBehind_32 : decode kb_Dec_goesUpBehind 32 = .ok (.isub, 1) := by decide +kernel
theorem dq_Dec_goesUpBehind_33 : decode kb_Dec_goesUpBehind 33 = .ok (.if_icmp .ne 7, 3) := by decide +kernel
theorem dq_Dec_goesUpBehind_36 : decode kb_Dec_goesUpBehind 36 = .ok (.iconst 1, 1) := by decide +kernel
theorem dq_Dec_goesUpBehind_37 : decode kb_Dec_goesUpBehind 37 = .ok (.goto 4, 3) := by decide +kernel
theorem dq_Dec_goesUpBehind_40 : decode kb_Dec_goesUpBehind 40 = .ok (.iconst 0, 1) := by decide +kernel
theorem dq_Dec_goesUpBehind_41 : decode kb_Dec_goesUpBehind 41 = .ok (.istore_n 2, 1) := by decide +kernel
theorem dq_Dec_goesUpBehind_42 : decode kb_Dec_goesUpBehind 42 = .ok (.iload_n 1, 1) := by decide +kernel
theorem dq_Dec_goesUpBehind_43 : decode kb_Dec_goesUpBehind 43 = .ok (.ifCond .eq 16, 3) := by decide +kernel
theorem dq_Dec_goesUpBehind_46 : decode kb_Dec_goesUpBehind 46 = .ok (.aload_n 0, 1) := by decide +kernel
theorem dq_Dec_goesUpBehind_47 : decode kb_Dec_goesUpBehind 47 = .ok (.getfield 9, 3) := by decide +kernel
theorem dq_Dec_goesUpBehind_50 : decode kb_Dec_goesUpBehind 50 = .ok (.iload_n 1, 1) := by decide +kernel
theorem dq_Dec_goesUpBehind_51 : decode kb_Dec_goesUpBehind 51 = .ok (.iconst 1, 1) := by decide +kernel
theorem dq_Dec_goesUpBehind_52 : decode kb_Dec_goesUpBehind 52 = .ok (.isub, 1) := by decide +kernel
theorem dq_Dec_goesUpBehind_53 : decode kb_Dec_goesUpBehind 53 = .ok (.iaload, 1) := by decide +kernel
theorem dq_Dec_goesUpBehind_54 : decode kb_Dec_goesUpBehind 54 = .ok (.iconst 2, 1) := by decide +kernel
theorem dq_Dec_goesUpBehind_55 : decode kb_Dec_goesUpBehind 55 = .ok (.irem, 1) := by decide +kernel
theorem dq_Dec_goesUpBehind_56 : decode kb_Dec_goesUpBehind 56 = .ok (.ifCond .ne 7, 3) := by decide +kernel
theorem dq_Dec_goesUpBehind_59 : decode kb_Dec_goesUpBehind 59 = .ok (.iconst 1, 1) := by decide +kernel
theorem dq_Dec_goesUpBehind_60 : decode kb_Dec_goesUpBehind 60 = .ok (.goto 4, 3) := by decide +kernel
theorem dq_Dec_goesUpBehind_63 : decode kb_Dec_goesUpBehind 63 = .ok (.iconst 0, 1) := by decide +kernel
theorem dq_Dec_goesUpBehind_64 : decode kb_Dec_goesUpBehind 64 = .ok (.istore_n 3, 1) := by decide +kernel
theorem dq_Dec_goesUpBehind_65 : decode kb_Dec_goesUpBehind 65 = .ok (.iload_n 2, 1) := by decide +kernel
theorem dq_Dec_goesUpBehind_66 : decode kb_Dec_goesUpBehind 66 = .ok (.ifCond .eq 7, 3) := by decide +kernel
theorem dq_Dec_goesUpBehind_69 : decode kb_Dec_goesUpBehind 69 = .ok (.iload_n 3, 1) := by decide +kernel
theorem dq_Dec_goesUpBehind_70 : decode kb_Dec_goesUpBehind 70 = .ok (.ifCond .ne 7, 3) := by decide +kernel
theorem dq_Dec_goesUpBehind_73 : decode kb_Dec_goesUpBehind 73 = .ok (.iconst 1, 1) := by decide +kernel
theorem dq_Dec_goesUpBehind_74 : decode kb_Dec_goesUpBehind 74 = .ok (.goto 4, 3) := by decide +kernel
theorem dq_Dec_goesUpBehind_77 : decode kb_Dec_goesUpBehind 77 = .ok (.iconst 0, 1) := by decide +kernel
theorem dq_Dec_goesUpBehind_78 : decode kb_Dec_goesUpBehind 78 = .ok (.ireturn, 1) := by decide +kernel
theorem dq_Dec_settle_0 : decode kb_Dec_settle 0 = .ok (.iload_n 1, 1) := by decide +kernel
theorem dq_Dec_settle_1 : decode kb_Dec_settle 1 = .ok (.ifCond .eq 10, 3) := by decide +kernel
theorem dq_Dec_settle_4 : decode kb_Dec_settle 4 = .ok (.aload_n 0, 1) := by decide +kernel
theorem dq_Dec_settle_5 : decode kb_Dec_settle 5 = .ok (.invokevirtual 39, 3) := by decide +kernel
theorem dq_Dec_settle_8 : decode kb_Dec_settle 8 = .ok (.goto 7, 3) := by decide +kernel
theorem dq_Dec_settle_11 : decode kb_Dec_settle 11 = .ok (.aload_n 0, 1) := by decide +kernel
theorem dq_Dec_settle_12 : decode kb_Dec_settle 12 = .ok (.invokevirtual 42, 3) := by decide +kernel
theorem dq_Dec_settle_15 : decode kb_Dec_settle 15 = .ok (.return_, 1) := by decide +kernel
theorem dq_Dec_goUp_0 : decode kb_Dec_goUp 0 = .ok (.aload_n 0, 1) := by decide +kernel
theorem dq_Dec_goUp_1 : decode kb_Dec_goUp 1 = .ok (.getfield 15, 3) := by decide +kernel
theorem dq_Dec_goUp_4 : decode kb_Dec_goUp 4 = .ok (.ifCond .le 32, 3) := by decide +kernel
theorem dq_Dec_goUp_7 : decode kb_Dec_goUp 7 = .ok (.aload_n 0, 1) := by decide +kernel
theorem dq_Dec_goUp_8 : decode kb_Dec_goUp 8 = .ok (.getfield 9, 3) := by decide +kernel
theorem dq_Dec_goUp_11 : decode kb_Dec_goUp 11 = .ok (.aload_n 0, 1) := by decide +kernel
theorem dq_Dec_goUp_12 : decode kb_Dec_goUp 12 = .ok (.getfield 15, 3) := by decide +kernel
theorem dq_Dec_goUp_15 : decode kb_Dec_goUp 15 = .ok (.iconst 1, 1) := by decide +kernel
theorem dq_Dec_goUp_16 : decode kb_Dec_goUp 16 = .ok (.isub, 1) := by decide +kernel
theorem dq_Dec_goUp_17 : decode kb_Dec_goUp 17 = .ok (.iaload, 1) := by decide +kernel
theorem dq_Dec_goUp_18 : decode kb_Dec_goUp 18 = .ok (.bipush 9, 2) := by decide +kernel
theorem dq_Dec_goUp_20 : decode kb_Dec_goUp 20 = .ok (.if_icmp .ne 16, 3) := by decide +kernel
theorem dq_Dec_goUp_23 : decode kb_Dec_goUp 23 = .ok (.aload_n 0, 1) := by decide +kernel
theorem dq_Dec_goUp_24 : decode kb_Dec_goUp 24 = .ok (.dup, 1) := by decide +kernel
theorem dq_Dec_goUp_25 : decode kb_Dec_goUp 25 = .ok (.getfield 15, 3) := by decide +kernel
theorem dq_Dec_goUp_28 : decode kb_Dec_goUp 28 = .ok (.iconst 1, 1) := by decide +kernel
theorem dq_Dec_goUp_29 : decode kb_Dec_goUp 29 = .ok (.isub, 1) := by decide +kernel
theorem dq_Dec_goUp_30 : decode kb_Dec_goUp 30 = .ok (.putfield 15, 3) := by decide +kernel
theorem dq_Dec_goUp_33 : decode kb_Dec_goUp 33 = .ok (.goto (-33), 3) := by decide +kernel
theorem dq_Dec_goUp_36 : decode kb_Dec_goUp 36 = .ok (.aload_n 0, 1) := by decide +kernel
theorem dq_Dec_goUp_37 : decode kb_Dec_goUp 37 = .ok (.getfield 15, 3) := by decide +kernel
theorem dq_Dec_goUp_40 : decode kb_Dec_goUp 40 = .ok (.ifCond .ne 28, 3) := by decide +kernel
theorem dq_Dec_goUp_43 : decode kb_Dec_goUp 43 = .ok (.aload_n 0, 1) := by decide +kernel
theorem dq_Dec_goUp_44 : decode kb_Dec_goUp 44 = .ok (.getfield 9, 3) := by decide +kernel
theorem dq_Dec_goUp_47 : decode kb_Dec_goUp 47 = .ok (.iconst 0, 1) := by decide +kernel
theorem dq_Dec_goUp_48 : decode kb_Dec_goUp 48 = .ok (.iconst 1, 1) := by decide +kernel
theorem dq_Dec_goUp_49 : decode kb_Dec_goUp 49 = .ok (.iastore, 1) := by decide +kernel
theorem dq_Dec_goUp_50 : decode kb_Dec_goUp 50 = .ok (.aload_n 0, 1) := by decide +kernel
theorem dq_Dec_goUp_51 : decode kb_Dec_goUp 51 = .ok (.iconst 1, 1) := by decide +kernel
theorem dq_Dec_goUp_52 : decode kb_Dec_goUp 52 = .ok (.putfield 15, 3) := by decide +kernel
theorem dq_Dec_goUp_55 : decode kb_Dec_goUp 55 = .ok (.aload_n 0, 1) := by decide +kernel
theorem dq_Dec_goUp_56 : decode kb_Dec_goUp 56 = .ok (.dup, 1) := by decide +kernel
theorem dq_Dec_goUp_57 : decode kb_Dec_goUp 57 = .ok (.getfield 19, 3) := by decide +kernel
theorem dq_Dec_goUp_60 : decode kb_Dec_goUp 60 = .ok (.iconst 1, 1) := by decide +kernel
theorem dq_Dec_goUp_61 : decode kb_Dec_goUp 61 = .ok (.iadd, 1) := by decide +kernel
theorem dq_Dec_goUp_62 : decode kb_Dec_goUp 62 = .ok (.putfield 19, 3) := by decide +kernel
theorem dq_Dec_goUp_65 : decode kb_Dec_goUp 65 = .ok (.goto 18, 3) := by decide +kernel
theorem dq_Dec_goUp_68 : decode kb_Dec_goUp 68 = .ok (.aload_n 0, 1) := by decide +kernel
theorem dq_Dec_goUp_69 : decode kb_Dec_goUp 69 = .ok (.getfield 9, 3) := by decide +kernel
theorem dq_Dec_goUp_72 : decode kb_Dec_goUp 72 = .ok (.aload_n 0, 1) := by decide +kernel
theorem dq_Dec_goUp_73 : decode kb_Dec_goUp 73 = .ok (.getfield 15, 3) := by decide +kernel
theorem dq_Dec_goUp_76 : decode kb_Dec_goUp 76 = .ok (.iconst 1, 1) := by decide +kernel
theorem dq_Dec_goUp_77 : decode kb_Dec_goUp 77 = .ok (.isub, 1) := by decide +kernel
theorem dq_Dec_goUp_78 : decode kb_Dec_goUp 78 = .ok (.dup2, 1) := by decide +kernel
theorem dq_Dec_goUp_79 : decode kb_Dec_goUp 79 = .ok (.iaload, 1) := by decide +kernel
theorem dq_Dec_goUp_80 : decode kb_Dec_goUp 80 = .ok (.iconst 1, 1) := by decide +kernel
theorem dq_Dec_goUp_81 : decode kb_Dec_goUp 81 = .ok (.iadd, 1) := by decide +kernel
theorem dq_Dec_goUp_82 : decode kb_Dec_goUp 82 = .ok (.iastore, 1) := by decide +kernel
theorem dq_Dec_goUp_83 : decode kb_Dec_goUp 83 = .ok (.return_, 1) := by decide +kernel
theorem dq_Dec_dropZerosAtEnd_0 : decode kb_Dec_dropZerosAtEnd 0 = .ok (.aload_n 0, 1) := by decide +kernel
theorem dq_Dec_dropZerosAtEnd_1 : decode kb_Dec_dropZerosAtEnd 1 = .ok (.getfield 15, 3) := by decide +kernel
theorem dq_Dec_dropZerosAtEnd_4 : decode kb_Dec_dropZerosAtEnd 4 = .ok (.ifCond .le 30, 3) := by decide +kernel
theorem dq_Dec_dropZerosAtEnd_7 : decode kb_Dec_dropZerosAtEnd 7 = .ok (.aload_n 0, 1) := by decide +kernel
theorem dq_Dec_dropZerosAtEnd_8 : decode kb_Dec_dropZerosAtEnd 8 = .ok (.getfield 9, 3) := by decide +kernel
theorem dq_Dec_dropZerosAtEnd_11 : decode kb_Dec_dropZerosAtEnd 11 = .ok (.aload_n 0, 1) := by decide +kernel
theorem dq_Dec_dropZerosAtEnd_12 : decode kb_Dec_dropZerosAtEnd 12 = .ok (.getfield 15, 3) := by decide +kernel
theorem dq_Dec_dropZerosAtEnd_15 : decode kb_Dec_dropZerosAtEnd 15 = .ok (.iconst 1, 1) := by decide +kernel
theorem dq_Dec_dropZerosAtEnd_16 : decode kb_Dec_dropZerosAtEnd 16 = .ok (.isub, 1) := by decide +kernel
theorem dq_Dec_dropZerosAtEnd_17 : decode kb_Dec_dropZerosAtEnd 17 = .ok (.iaload, 1) := by decide +kernel
theorem dq_Dec_dropZerosAtEnd_18 : decode kb_Dec_dropZerosAtEnd 18 = .ok (.ifCond .ne 16, 3) := by decide +kernel
theorem dq_Dec_dropZerosAtEnd_21 : decode kb_Dec_dropZerosAtEnd 21 = .ok (.aload_n 0, 1) := by decide +kernel
theorem dq_Dec_dropZerosAtEnd_22 : decode kb_Dec_dropZerosAtEnd 22 = .ok (.dup, 1) := by decide +kernel
theorem dq_Dec_dropZerosAtEnd_23 : decode kb_Dec_dropZerosAtEnd 23 = .ok (.getfield 15, 3) := by decide +kernel
theorem dq_Dec_dropZerosAtEnd_26 : decode kb_Dec_dropZerosAtEnd 26 = .ok (.iconst 1, 1) := by decide +kernel
theorem dq_Dec_dropZerosAtEnd_27 : decode kb_Dec_dropZerosAtEnd 27 = .ok (.isub, 1) := by decide +kernel
theorem dq_Dec_dropZerosAtEnd_28 : decode kb_Dec_dropZerosAtEnd 28 = .ok (.putfield 15, 3) := by decide +kernel
theorem dq_Dec_dropZerosAtEnd_31 : decode kb_Dec_dropZerosAtEnd 31 = .ok (.goto (-31), 3) := by decide +kernel
theorem dq_Dec_dropZerosAtEnd_34 : decode kb_Dec_dropZerosAtEnd 34 = .ok (.aload_n 0, 1) := by decide +kernel
theorem dq_Dec_dropZerosAtEnd_35 : decode kb_Dec_dropZerosAtEnd 35 = .ok (.getfield 15, 3) := by decide +kernel
theorem dq_Dec_dropZerosAtEnd_38 : decode kb_Dec_dropZerosAtEnd 38 = .ok (.ifCond .ne 8, 3) := by decide +kernel
theorem dq_Dec_dropZerosAtEnd_41 : decode kb_Dec_dropZerosAtEnd 41 = .ok (.aload_n 0, 1) := by decide +kernel
theorem dq_Dec_dropZerosAtEnd_42 : decode kb_Dec_dropZerosAtEnd 42 = .ok (.iconst 0, 1) := by decide +kernel
theorem dq_Dec_dropZerosAtEnd_43 : decode kb_Dec_dropZerosAtEnd 43 = .ok (.putfield 19, 3) := by decide +kernel
theorem dq_Dec_dropZerosAtEnd_46 : decode kb_Dec_dropZerosAtEnd 46 = .ok (.return_, 1) := by decide +kernel
theorem dq_Dec_against_0 : decode kb_Dec_against 0 = .ok (.aload_n 0, 1) := by decide +kernel
theorem dq_Dec_against_1 : decode kb_Dec_against 1 = .ok (.getfield 19, 3) := by decide +kernel
theorem dq_Dec_against_4 : decode kb_Dec_against 4 = .ok (.aload_n 1, 1) := by decide +kernel
theorem dq_Dec_against_5 : decode kb_Dec_against 5 = .ok (.getfield 19, 3) := by decide +kernel
theorem dq_Dec_against_8 : decode kb_Dec_against 8 = .ok (.if_icmp .eq 15, 3) := by decide +kernel
theorem dq_Dec_against_11 : decode kb_Dec_against 11 = .ok (.aload_n 0, 1) := by decide +kernel
theorem dq_Dec_against_12 : decode kb_Dec_against 12 = .ok (.getfield 19, 3) := by decide +kernel
theorem dq_Dec_against_15 : decode kb_Dec_against 15 = .ok (.aload_n 1, 1) := by decide +kernel
theorem dq_Dec_against_16 : decode kb_Dec_against 16 = .ok (.getfield 19, 3) := by decide +kernel
theorem dq_Dec_against_19 : decode kb_Dec_against 19 = .ok (.invokestatic 45, 3) := by decide +kernel
theorem dq_Dec_against_22 : decode kb_Dec_against 22 = .ok (.ireturn, 1) := by decide +kernel
theorem dq_Dec_against_23 : decode kb_Dec_against 23 = .ok (.aload_n 0, 1) := by decide +kernel
theorem dq_Dec_against_24 : decode kb_Dec_against 24 = .ok (.getfield 15, 3) := by decide +kernel
theorem dq_Dec_against_27 : decode kb_Dec_against 27 = .ok (.aload_n 1, 1) := by decide +kernel
theorem dq_Dec_against_28 : decode kb_Dec_against 28 = .ok (.getfield 15, 3) := by decide +kernel
theorem dq_Dec_against_31 : decode kb_Dec_against 31 = .ok (.invokestatic 51, 3) := by decide +kernel
theorem dq_Dec_against_34 : decode kb_Dec_against 34 = .ok (.istore_n 2, 1) := by decide +kernel
theorem dq_Dec_against_35 : decode kb_Dec_against 35 = .ok (.iconst 0, 1) := by decide +kernel
theorem dq_Dec_against_36 : decode kb_Dec_against 36 = .ok (.istore_n 3, 1) := by decide +kernel
theorem dq_Dec_against_37 : decode kb_Dec_against 37 = .ok (.iload_n 3, 1) := by decide +kernel
theorem dq_Dec_against_38 : decode kb_Dec_against 38 = .ok (.iload_n 2, 1) := by decide +kernel
theorem dq_Dec_against_39 : decode kb_Dec_against 39 = .ok (.if_icmp .ge 40, 3) := by decide +kernel
theorem dq_Dec_against_42 : decode kb_Dec_against 42 = .ok (.aload_n 0, 1) := by decide +kernel
theorem dq_Dec_against_43 : decode kb_Dec_against 43 = .ok (.getfield 9, 3) := by decide +kernel
theorem dq_Dec_against_46 : decode kb_Dec_against 46 = .ok (.iload_n 3, 1) := by decide +kernel
theorem dq_Dec_against_47 : decode kb_Dec_against 47 = .ok (.iaload, 1) := by decide +kernel
theorem dq_Dec_against_48 : decode kb_Dec_against 48 = .ok (.aload_n 1, 1) := by decide +kernel
theorem dq_Dec_against_49 : decode kb_Dec_against 49 = .ok (.getfield 9, 3) := by decide +kernel
theorem dq_Dec_against_52 : decode kb_Dec_against 52 = .ok (.iload_n 3, 1) := by decide +kernel
theorem dq_Dec_against_53 : decode kb_Dec_against 53 = .ok (.iaload, 1) := by decide +kernel
theorem dq_Dec_against_54 : decode kb_Dec_against 54 = .ok (.if_icmp .eq 19, 3) := by decide +kernel
theorem dq_Dec_against_57 : decode kb_Dec_against 57 = .ok (.aload_n 0, 1) := by decide +kernel
theorem dq_Dec_against_58 : decode kb_Dec_against 58 = .ok (.getfield 9, 3) := by decide +kernel
theorem dq_Dec_against_61 : decode kb_Dec_against 61 = .ok (.iload_n 3, 1) := by decide +kernel
theorem dq_Dec_against_62 : decode kb_Dec_against 62 = .ok (.iaload, 1) := by decide +kernel
theorem dq_Dec_against_63 : decode kb_Dec_against 63 = .ok (.aload_n 1, 1) := by decide +kernel
theorem dq_Dec_against_64 : decode kb_Dec_against 64 = .ok (.getfield 9, 3) := by decide +kernel
theorem dq_Dec_against_67 : decode kb_Dec_against 67 = .ok (.iload_n 3, 1) := by decide +kernel
theorem dq_Dec_against_68 : decode kb_Dec_against 68 = .ok (.iaload, 1) := by decide +kernel
theorem dq_Dec_against_69 : decode kb_Dec_against 69 = .ok (.invokestatic 45, 3) := by decide +kernel
theorem dq_Dec_against_72 : decode kb_Dec_against 72 = .ok (.ireturn, 1) := by decide +kernel
theorem dq_Dec_against_73 : decode kb_Dec_against 73 = .ok (.iinc 3 1, 3) := by decide +kernel
theorem dq_Dec_against_76 : decode kb_Dec_against 76 = .ok (.goto (-39), 3) := by decide +kernel
theorem dq_Dec_against_79 : decode kb_Dec_against 79 = .ok (.aload_n 0, 1) := by decide +kernel
theorem dq_Dec_against_80 : decode kb_Dec_against 80 = .ok (.getfield 15, 3) := by decide +kernel
theorem dq_Dec_against_83 : decode kb_Dec_against 83 = .ok (.aload_n 1, 1) := by decide +kernel
theorem dq_Dec_against_84 : decode kb_Dec_against 84 = .ok (.getfield 15, 3) := by decide +kernel
theorem dq_Dec_against_87 : decode kb_Dec_against 87 = .ok (.invokestatic 45, 3) := by decide +kernel
theorem dq_Dec_against_90 : decode kb_Dec_against 90 = .ok (.ireturn, 1) := by decide +kernel
theorem dq_Dec_read_0 : decode kb_Dec_read 0 = .ok (.aload_n 0, 1) := by decide +kernel
theorem dq_Dec_read_1 : decode kb_Dec_read 1 = .ok (.iconst 0, 1) := by decide +kernel
theorem dq_Dec_read_2 : decode kb_Dec_read 2 = .ok (.putfield 15, 3) := by decide +kernel
theorem dq_Dec_read_5 : decode kb_Dec_read 5 = .ok (.aload_n 0, 1) := by decide +kernel
theorem dq_Dec_read_6 : decode kb_Dec_read 6 = .ok (.aload_n 1, 1) := by decide +kernel
theorem dq_Dec_read_7 : decode kb_Dec_read 7 = .ok (.invokevirtual 56, 3) := by decide +kernel
theorem dq_Dec_read_10 : decode kb_Dec_read 10 = .ok (.putfield 19, 3) := by decide +kernel
theorem dq_Dec_read_13 : decode kb_Dec_read 13 = .ok (.aload_n 1, 1) := by decide +kernel
theorem dq_Dec_read_14 : decode kb_Dec_read 14 = .ok (.getfield 62, 3) := by decide +kernel
theorem dq_Dec_read_17 : decode kb_Dec_read 17 = .ok (.istore_n 2, 1) := by decide +kernel
theorem dq_Dec_read_18 : decode kb_Dec_read 18 = .ok (.iload_n 2, 1) := by decide +kernel
theorem dq_Dec_read_19 : decode kb_Dec_read 19 = .ok (.aload_n 1, 1) := by decide +kernel
theorem dq_Dec_read_20 : decode kb_Dec_read 20 = .ok (.getfield 65, 3) := by decide +kernel
theorem dq_Dec_read_23 : decode kb_Dec_read 23 = .ok (.if_icmp .ge 19, 3) := by decide +kernel
theorem dq_Dec_read_26 : decode kb_Dec_read 26 = .ok (.aload_n 0, 1) := by decide +kernel
theorem dq_Dec_read_27 : decode kb_Dec_read 27 = .ok (.aload_n 1, 1) := by decide +kernel
theorem dq_Dec_read_28 : decode kb_Dec_read 28 = .ok (.getfield 68, 3) := by decide +kernel
theorem dq_Dec_read_31 : decode kb_Dec_read 31 = .ok (.iload_n 2, 1) := by decide +kernel
theorem dq_Dec_read_32 : decode kb_Dec_read 32 = .ok (.laload, 1) := by decide +kernel
theorem dq_Dec_read_33 : decode kb_Dec_read 33 = .ok (.invokevirtual 72, 3) := by decide +kernel
theorem dq_Dec_read_36 : decode kb_Dec_read 36 = .ok (.iinc 2 1, 3) := by decide +kernel
theorem dq_Dec_read_39 : decode kb_Dec_read 39 = .ok (.goto (-21), 3) := by decide +kernel
theorem dq_Dec_read_42 : decode kb_Dec_read 42 = .ok (.aload_n 0, 1) := by decide +kernel
theorem dq_Dec_read_43 : decode kb_Dec_read 43 = .ok (.invokevirtual 42, 3) := by decide +kernel
theorem dq_Dec_read_46 : decode kb_Dec_read 46 = .ok (.return_, 1) := by decide +kernel
theorem dq_Dec_readGroup_0 : decode kb_Dec_readGroup 0 = .ok (.ldc2_w 76, 3) := by decide +kernel
theorem dq_Dec_readGroup_3 : decode kb_Dec_readGroup 3 = .ok (.lstore_n 3, 1) := by decide +kernel
theorem dq_Dec_readGroup_4 : decode kb_Dec_readGroup 4 = .ok (.lload_n 3, 1) := by decide +kernel
theorem dq_Dec_readGroup_5 : decode kb_Dec_readGroup 5 = .ok (.lconst 0, 1) := by decide +kernel
theorem dq_Dec_readGroup_6 : decode kb_Dec_readGroup 6 = .ok (.lcmp, 1) := by decide +kernel
theorem dq_Dec_readGroup_7 : decode kb_Dec_readGroup 7 = .ok (.ifCond .le 53, 3) := by decide +kernel
theorem dq_Dec_readGroup_10 : decode kb_Dec_readGroup 10 = .ok (.lload_n 1, 1) := by decide +kernel
theorem dq_Dec_readGroup_11 : decode kb_Dec_readGroup 11 = .ok (.lload_n 3, 1) := by decide +kernel
theorem dq_Dec_readGroup_12 : decode kb_Dec_readGroup 12 = .ok (.ldiv, 1) := by decide +kernel
theorem dq_Dec_readGroup_13 : decode kb_Dec_readGroup 13 = .ok (.ldc2_w 78, 3) := by decide +kernel
theorem dq_Dec_readGroup_16 : decode kb_Dec_readGroup 16 = .ok (.lrem, 1) := by decide +kernel
theorem dq_Dec_readGroup_17 : decode kb_Dec_readGroup 17 = .ok (.l2i, 1) := by decide +kernel
theorem dq_Dec_readGroup_18 : decode kb_Dec_readGroup 18 = .ok (.istore 5, 2) := by decide +kernel
theorem dq_Dec_readGroup_20 : decode kb_Dec_readGroup 20 = .ok (.aload_n 0, 1) := by decide +kernel
theorem dq_Dec_readGroup_21 : decode kb_Dec_readGroup 21 = .ok (.getfield 15, 3) := by decide +kernel
theorem dq_Dec_readGroup_24 : decode kb_Dec_readGroup 24 = .ok (.ifCond .ne 21, 3) := by decide +kernel
theorem dq_Dec_readGroup_27 : decode kb_Dec_readGroup 27 = .ok (.iload 5, 2) := by decide +kernel
theorem dq_Dec_readGroup_29 : decode kb_Dec_readGroup 29 = .ok (.ifCond .ne 16, 3) := by decide +kernel
theorem dq_Dec_readGroup_32 : decode kb_Dec_readGroup 32 = .ok (.aload_n 0, 1) := by decide +kernel
theorem dq_Dec_readGroup_33 : decode kb_Dec_readGroup 33 = .ok (.dup, 1) := by decide +kernel
theorem dq_Dec_readGroup_34 : decode kb_Dec_readGroup 34 = .ok (.getfield 19, 3) := by decide +kernel
theorem dq_Dec_readGroup_37 : decode kb_Dec_readGroup 37 = .ok (.iconst 1, 1) := by decide +kernel
theorem dq_Dec_readGroup_38 : decode kb_Dec_readGroup 38 = .ok (.isub, 1) := by decide +kernel
theorem dq_Dec_readGroup_39 : decode kb_Dec_readGroup 39 = .ok (.putfield 19, 3) := by decide +kernel
theorem dq_Dec_readGroup_42 : decode kb_Dec_readGroup 42 = .ok (.goto 9, 3) := by decide +kernel
theorem dq_Dec_readGroup_45 : decode kb_Dec_readGroup 45 = .ok (.aload_n 0, 1) := by decide +kernel
theorem dq_Dec_readGroup_46 : decode kb_Dec_readGroup 46 = .ok (.iload 5, 2) := by decide +kernel
theorem dq_Dec_readGroup_48 : decode kb_Dec_readGroup 48 = .ok (.invokevirtual 80, 3) := by decide +kernel
theorem dq_Dec_readGroup_51 : decode kb_Dec_readGroup 51 = .ok (.lload_n 3, 1) := by decide +kernel
theorem dq_Dec_readGroup_52 : decode kb_Dec_readGroup 52 = .ok (.ldc2_w 78, 3) := by decide +kernel
theorem dq_Dec_readGroup_55 : decode kb_Dec_readGroup 55 = .ok (.ldiv, 1) := by decide +kernel
theorem dq_Dec_readGroup_56 : decode kb_Dec_readGroup 56 = .ok (.lstore_n 3, 1) := by decide +kernel
theorem dq_Dec_readGroup_57 : decode kb_Dec_readGroup 57 = .ok (.goto (-53), 3) := by decide +kernel
theorem dq_Dec_readGroup_60 : decode kb_Dec_readGroup 60 = .ok (.return_, 1) := by decide +kernel
theorem dq_JInt_compare_0 : decode kb_JInt_compare 0 = .ok (.iload_n 0, 1) := by decide +kernel
theorem dq_JInt_compare_1 : decode kb_JInt_compare 1 = .ok (.iload_n 1, 1) := by decide +kernel
theorem dq_JInt_compare_2 : decode kb_JInt_compare 2 = .ok (.if_icmp .ge 7, 3) := by decide +kernel
theorem dq_JInt_compare_5 : decode kb_JInt_compare 5 = .ok (.iconst (-1), 1) := by decide +kernel
theorem dq_JInt_compare_6 : decode kb_JInt_compare 6 = .ok (.goto 13, 3) := by decide +kernel
theorem dq_JInt_compare_9 : decode kb_JInt_compare 9 = .ok (.iload_n 0, 1) := by decide +kernel
theorem dq_JInt_compare_10 : decode kb_JInt_compare 10 = .ok (.iload_n 1, 1) := by decide +kernel
theorem dq_JInt_compare_11 : decode kb_JInt_compare 11 = .ok (.if_icmp .ne 7, 3) := by decide +kernel
theorem dq_JInt_compare_14 : decode kb_JInt_compare 14 = .ok (.iconst 0, 1) := by decide +kernel
theorem dq_JInt_compare_15 : decode kb_JInt_compare 15 = .ok (.goto 4, 3) := by decide +kernel
theorem dq_JInt_compare_18 : decode kb_JInt_compare 18 = .ok (.iconst 1, 1) := by decide +kernel
theorem dq_JInt_compare_19 : decode kb_JInt_compare 19 = .ok (.ireturn, 1) := by decide +kernel
theorem dq_JInt_numberOfLeadingZeros_0 : decode kb_JInt_numberOfLeadingZeros 0 = .ok (.iload_n 0, 1) := by decide +kernel
theorem dq_JInt_numberOfLeadingZeros_1 : decode kb_JInt_numberOfLeadingZeros 1 = .ok (.ifCond .gt 14, 3) := by decide +kernel
theorem dq_JInt_numberOfLeadingZeros_4 : decode kb_JInt_numberOfLeadingZeros 4 = .ok (.iload_n 0, 1) := by decide +kernel
theorem dq_JInt_numberOfLeadingZeros_5 : decode kb_JInt_numberOfLeadingZeros 5 = .ok (.ifCond .ne 8, 3) := by decide +kernel
theorem dq_JInt_numberOfLeadingZeros_8 : decode kb_JInt_numberOfLeadingZeros 8 = .ok (.bipush 32, 2) := by decide +kernel
theorem dq_JInt_numberOfLeadingZeros_10 : decode kb_JInt_numberOfLeadingZeros 10 = .ok (.goto 4, 3) := by decide +kernel
theorem dq_JInt_numberOfLeadingZeros_13 : decode kb_JInt_numberOfLeadingZeros 13 = .ok (.iconst 0, 1) := by decide +kernel
theorem dq_JInt_numberOfLeadingZeros_14 : decode kb_JInt_numberOfLeadingZeros 14 = .ok (.ireturn, 1) := by decide +kernel
theorem dq_JInt_numberOfLeadingZeros_15 : decode kb_JInt_numberOfLeadingZeros 15 = .ok (.bipush 31, 2) := by decide +kernel
theorem dq_JInt_numberOfLeadingZeros_17 : decode kb_JInt_numberOfLeadingZeros 17 = .ok (.istore_n 1, 1) := by decide +kernel
theorem dq_JInt_numberOfLeadingZeros_18 : decode kb_JInt_numberOfLeadingZeros 18 = .ok (.iload_n 0, 1) := by decide +kernel
theorem dq_JInt_numberOfLeadingZeros_19 : decode kb_JInt_numberOfLeadingZeros 19 = .ok (.ldc_w 264, 3) := by decide +kernel
theorem dq_JInt_numberOfLeadingZeros_22 : decode kb_JInt_numberOfLeadingZeros 22 = .ok (.if_icmp .lt 11, 3) := by decide +kernel
theorem dq_JInt_numberOfLeadingZeros_25 : decode kb_JInt_numberOfLeadingZeros 25 = .ok (.iinc 1 (-16), 3) := by decide +kernel
theorem dq_JInt_numberOfLeadingZeros_28 : decode kb_JInt_numberOfLeadingZeros 28 = .ok (.iload_n 0, 1) := by decide +kernel
theorem dq_JInt_numberOfLeadingZeros_29 : decode kb_JInt_numberOfLeadingZeros 29 = .ok (.bipush 16, 2) := by decide +kernel
theorem dq_JInt_numberOfLeadingZeros_31 : decode kb_JInt_numberOfLeadingZeros 31 = .ok (.iushr, 1) := by decide +kernel
theorem dq_JInt_numberOfLeadingZeros_32 : decode kb_JInt_numberOfLeadingZeros 32 = .ok (.istore_n 0, 1) := by decide +kernel
theorem dq_JInt_numberOfLeadingZeros_33 : decode kb_JInt_numberOfLeadingZeros 33 = .ok (.iload_n 0, 1) := by decide +kernel
theorem dq_JInt_numberOfLeadingZeros_34 : decode kb_JInt_numberOfLeadingZeros 34 = .ok (.sipush 256, 3) := by decide +kernel
theorem dq_JInt_numberOfLeadingZeros_37 : decode kb_JInt_numberOfLeadingZeros 37 = .ok (.if_icmp .lt 11, 3) := by decide +kernel
theorem dq_JInt_numberOfLeadingZeros_40 : decode kb_JInt_numberOfLeadingZeros 40 = .ok (.iinc 1 (-8), 3) := by decide +kernel
theorem dq_JInt_numberOfLeadingZeros_43 : decode kb_JInt_numberOfLeadingZeros 43 = .ok (.iload_n 0, 1) := by decide +kernel
theorem dq_JInt_numberOfLeadingZeros_44 : decode kb_JInt_numberOfLeadingZeros 44 = .ok (.bipush 8, 2) := by decide +kernel
theorem dq_JInt_numberOfLeadingZeros_46 : decode kb_JInt_numberOfLeadingZeros 46 = .ok (.iushr, 1) := by decide +kernel
theorem dq_JInt_numberOfLeadingZeros_47 : decode kb_JInt_numberOfLeadingZeros 47 = .ok (.istore_n 0, 1) := by decide +kernel
theorem dq_JInt_numberOfLeadingZeros_48 : decode kb_JInt_numberOfLeadingZeros 48 = .ok (.iload_n 0, 1) := by decide +kernel
theorem dq_JInt_numberOfLeadingZeros_49 : decode kb_JInt_numberOfLeadingZeros 49 = .ok (.bipush 16, 2) := by decide +kernel
theorem dq_JInt_numberOfLeadingZeros_51 : decode kb_JInt_numberOfLeadingZeros 51 = .ok (.if_icmp .lt 10, 3) := by decide +kernel
theorem dq_JInt_numberOfLeadingZeros_54 : decode kb_JInt_numberOfLeadingZeros 54 = .ok (.iinc 1 (-4), 3) := by decide +kernel
theorem dq_JInt_numberOfLeadingZeros_57 : decode kb_JInt_numberOfLeadingZeros 57 = .ok (.iload_n 0, 1) := by decide +kernel
theorem dq_JInt_numberOfLeadingZeros_58 : decode kb_JInt_numberOfLeadingZeros 58 = .ok (.iconst 4, 1) := by decide +kernel
theorem dq_JInt_numberOfLeadingZeros_59 : decode kb_JInt_numberOfLeadingZeros 59 = .ok (.iushr, 1) := by decide +kernel
theorem dq_JInt_numberOfLeadingZeros_60 : decode kb_JInt_numberOfLeadingZeros 60 = .ok (.istore_n 0, 1) := by decide +kernel
theorem dq_JInt_numberOfLeadingZeros_61 : decode kb_JInt_numberOfLeadingZeros 61 = .ok (.iload_n 0, 1) := by decide +kernel
theorem dq_JInt_numberOfLeadingZeros_62 : decode kb_JInt_numberOfLeadingZeros 62 = .ok (.iconst 4, 1) := by decide +kernel
theorem dq_JInt_numberOfLeadingZeros_63 : decode kb_JInt_numberOfLeadingZeros 63 = .ok (.if_icmp .lt 10, 3) := by decide +kernel
theorem dq_JInt_numberOfLeadingZeros_66 : decode kb_JInt_numberOfLeadingZeros 66 = .ok (.iinc 1 (-2), 3) := by decide +kernel
theorem dq_JInt_numberOfLeadingZeros_69 : decode kb_JInt_numberOfLeadingZeros 69 = .ok (.iload_n 0, 1) := by decide +kernel
theorem dq_JInt_numberOfLeadingZeros_70 : decode kb_JInt_numberOfLeadingZeros 70 = .ok (.iconst 2, 1) := by decide +kernel
theorem dq_JInt_numberOfLeadingZeros_71 : decode kb_JInt_numberOfLeadingZeros 71 = .ok (.iushr, 1) := by decide +kernel
theorem dq_JInt_numberOfLeadingZeros_72 : decode kb_JInt_numberOfLeadingZeros 72 = .ok (.istore_n 0, 1) := by decide +kernel
theorem dq_JInt_numberOfLeadingZeros_73 : decode kb_JInt_numberOfLeadingZeros 73 = .ok (.iload_n 1, 1) := by decide +kernel
theorem dq_JInt_numberOfLeadingZeros_74 : decode kb_JInt_numberOfLeadingZeros 74 = .ok (.iload_n 0, 1) := by decide +kernel
theorem dq_JInt_numberOfLeadingZeros_75 : decode kb_JInt_numberOfLeadingZeros 75 = .ok (.iconst 1, 1) := by decide +kernel
theorem dq_JInt_numberOfLeadingZeros_76 : decode kb_JInt_numberOfLeadingZeros 76 = .ok (.iushr, 1) := by decide +kernel
theorem dq_JInt_numberOfLeadingZeros_77 : decode kb_JInt_numberOfLeadingZeros 77 = .ok (.isub, 1) := by decide +kernel
theorem dq_JInt_numberOfLeadingZeros_78 : decode kb_JInt_numberOfLeadingZeros 78 = .ok (.ireturn, 1) := by decide +kernel
theorem dq_JLon_numberOfLeadingZeros_0 : decode kb_JLon_numberOfLeadingZeros 0 = .ok (.lload_n 0, 1) := by decide +kernel
theorem dq_JLon_numberOfLeadingZeros_1 : decode kb_JLon_numberOfLeadingZeros 1 = .ok (.bipush 32, 2) := by decide +kernel
theorem dq_JLon_numberOfLeadingZeros_3 : decode kb_JLon_numberOfLeadingZeros 3 = .ok (.lushr, 1) := by decide +kernel
theorem dq_JLon_numberOfLeadingZeros_4 : decode kb_JLon_numberOfLeadingZeros 4 = .ok (.l2i, 1) := by decide +kernel
theorem dq_JLon_numberOfLeadingZeros_5 : decode kb_JLon_numberOfLeadingZeros 5 = .ok (.istore_n 2, 1) := by decide +kernel
theorem dq_JLon_numberOfLeadingZeros_6 : decode kb_JLon_numberOfLeadingZeros 6 = .ok (.iload_n 2, 1) := by decide +kernel
theorem dq_JLon_numberOfLeadingZeros_7 : decode kb_JLon_numberOfLeadingZeros 7 = .ok (.ifCond .ne 14, 3) := by decide +kernel
theorem dq_JLon_numberOfLeadingZeros_10 : decode kb_JLon_numberOfLeadingZeros 10 = .ok (.bipush 32, 2) := by decide +kernel
theorem dq_JLon_numberOfLeadingZeros_12 : decode kb_JLon_numberOfLeadingZeros 12 = .ok (.lload_n 0, 1) := by decide +kernel
theorem dq_JLon_numberOfLeadingZeros_13 : decode kb_JLon_numberOfLeadingZeros 13 = .ok (.l2i, 1) := by decide +kernel
theorem dq_JLon_numberOfLeadingZeros_14 : decode kb_JLon_numberOfLeadingZeros 14 = .ok (.invokestatic 308, 3) := by decide +kernel
theorem dq_JLon_numberOfLeadingZeros_17 : decode kb_JLon_numberOfLeadingZeros 17 = .ok (.iadd, 1) := by decide +kernel
theorem dq_JLon_numberOfLeadingZeros_18 : decode kb_JLon_numberOfLeadingZeros 18 = .ok (.goto 7, 3) := by decide +kernel
theorem dq_JLon_numberOfLeadingZeros_21 : decode kb_JLon_numberOfLeadingZeros 21 = .ok (.iload_n 2, 1) := by decide +kernel
theorem dq_JLon_numberOfLeadingZeros_22 : decode kb_JLon_numberOfLeadingZeros 22 = .ok (.invokestatic 308, 3) := by decide +kernel
theorem dq_JLon_numberOfLeadingZeros_25 : decode kb_JLon_numberOfLeadingZeros 25 = .ok (.ireturn, 1) := by decide +kernel
theorem dq_JArr_fill_0 : decode kb_JArr_fill 0 = .ok (.iconst 0, 1) := by decide +kernel
theorem dq_JArr_fill_1 : decode kb_JArr_fill 1 = .ok (.istore_n 3, 1) := by decide +kernel
theorem dq_JArr_fill_2 : decode kb_JArr_fill 2 = .ok (.aload_n 0, 1) := by decide +kernel
theorem dq_JArr_fill_3 : decode kb_JArr_fill 3 = .ok (.arraylength, 1) := by decide +kernel
theorem dq_JArr_fill_4 : decode kb_JArr_fill 4 = .ok (.istore 4, 2) := by decide +kernel
theorem dq_JArr_fill_6 : decode kb_JArr_fill 6 = .ok (.iload_n 3, 1) := by decide +kernel
theorem dq_JArr_fill_7 : decode kb_JArr_fill 7 = .ok (.iload 4, 2) := by decide +kernel
theorem dq_JArr_fill_9 : decode kb_JArr_fill 9 = .ok (.if_icmp .ge 13, 3) := by decide +kernel
theorem dq_JArr_fill_12 : decode kb_JArr_fill 12 = .ok (.aload_n 0, 1) := by decide +kernel
theorem dq_JArr_fill_13 : decode kb_JArr_fill 13 = .ok (.iload_n 3, 1) := by decide +kernel
theorem dq_JArr_fill_14 : decode kb_JArr_fill 14 = .ok (.lload_n 1, 1) := by decide +kernel
theorem dq_JArr_fill_15 : decode kb_JArr_fill 15 = .ok (.lastore, 1) := by decide +kernel
theorem dq_JArr_fill_16 : decode kb_JArr_fill 16 = .ok (.iinc 3 1, 3) := by decide +kernel
theorem dq_JArr_fill_19 : decode kb_JArr_fill 19 = .ok (.goto (-13), 3) := by decide +kernel
theorem dq_JArr_fill_22 : decode kb_JArr_fill 22 = .ok (.return_, 1) := by decide +kernel
