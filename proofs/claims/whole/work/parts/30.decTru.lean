theorem dq_Tru_init_0 : decode kb_Tru_init 0 = .ok (.aload_n 0, 1) := by decide +kernel
theorem dq_Tru_init_1 : decode kb_Tru_init 1 = .ok (.invokespecial 3, 3) := by decide +kernel
theorem dq_Tru_init_4 : decode kb_Tru_init 4 = .ok (.aload_n 0, 1) := by decide +kernel
theorem dq_Tru_init_5 : decode kb_Tru_init 5 = .ok (.new 9, 3) := by decide +kernel
theorem dq_Tru_init_8 : decode kb_Tru_init 8 = .ok (.dup, 1) := by decide +kernel
theorem dq_Tru_init_9 : decode kb_Tru_init 9 = .ok (.invokespecial 11, 3) := by decide +kernel
theorem dq_Tru_init_12 : decode kb_Tru_init 12 = .ok (.putfield 12, 3) := by decide +kernel
theorem dq_Tru_init_15 : decode kb_Tru_init 15 = .ok (.aload_n 0, 1) := by decide +kernel
theorem dq_Tru_init_16 : decode kb_Tru_init 16 = .ok (.new 16, 3) := by decide +kernel
theorem dq_Tru_init_19 : decode kb_Tru_init 19 = .ok (.dup, 1) := by decide +kernel
theorem dq_Tru_init_20 : decode kb_Tru_init 20 = .ok (.invokespecial 18, 3) := by decide +kernel
theorem dq_Tru_init_23 : decode kb_Tru_init 23 = .ok (.putfield 19, 3) := by decide +kernel
theorem dq_Tru_init_26 : decode kb_Tru_init 26 = .ok (.aload_n 0, 1) := by decide +kernel
theorem dq_Tru_init_27 : decode kb_Tru_init 27 = .ok (.new 23, 3) := by decide +kernel
theorem dq_Tru_init_30 : decode kb_Tru_init 30 = .ok (.dup, 1) := by decide +kernel
theorem dq_Tru_init_31 : decode kb_Tru_init 31 = .ok (.invokespecial 25, 3) := by decide +kernel
theorem dq_Tru_init_34 : decode kb_Tru_init 34 = .ok (.putfield 26, 3) := by decide +kernel
theorem dq_Tru_init_37 : decode kb_Tru_init 37 = .ok (.aload_n 0, 1) := by decide +kernel
theorem dq_Tru_init_38 : decode kb_Tru_init 38 = .ok (.new 9, 3) := by decide +kernel
theorem dq_Tru_init_41 : decode kb_Tru_init 41 = .ok (.dup, 1) := by decide +kernel
theorem dq_Tru_init_42 : decode kb_Tru_init 42 = .ok (.invokespecial 11, 3) := by decide +kernel
theorem dq_Tru_init_45 : decode kb_Tru_init 45 = .ok (.putfield 30, 3) := by decide +kernel
theorem dq_Tru_init_48 : decode kb_Tru_init 48 = .ok (.aload_n 0, 1) := by decide +kernel
theorem dq_Tru_init_49 : decode kb_Tru_init 49 = .ok (.new 9, 3) := by decide +kernel
theorem dq_Tru_init_52 : decode kb_Tru_init 52 = .ok (.dup, 1) := by decide +kernel
theorem dq_Tru_init_53 : decode kb_Tru_init 53 = .ok (.invokespecial 11, 3) := by decide +kernel
theorem dq_Tru_init_56 : decode kb_Tru_init 56 = .ok (.putfield 33, 3) := by decide +kernel
theorem dq_Tru_init_59 : decode kb_Tru_init 59 = .ok (.aload_n 0, 1) := by decide +kernel
theorem dq_Tru_init_60 : decode kb_Tru_init 60 = .ok (.new 9, 3) := by decide +kernel
theorem dq_Tru_init_63 : decode kb_Tru_init 63 = .ok (.dup, 1) := by decide +kernel
theorem dq_Tru_init_64 : decode kb_Tru_init 64 = .ok (.invokespecial 11, 3) := by decide +kernel
theorem dq_Tru_init_67 : decode kb_Tru_init 67 = .ok (.putfield 36, 3) := by decide +kernel
theorem dq_Tru_init_70 : decode kb_Tru_init 70 = .ok (.return_, 1) := by decide +kernel
theorem dq_Tru_set_0 : decode kb_Tru_set 0 = .ok (.lload_n 1, 1) := by decide +kernel
theorem dq_Tru_set_1 : decode kb_Tru_set 1 = .ok (.ldc2_w 39, 3) := by decide +kernel
theorem dq_Tru_set_4 : decode kb_Tru_set 4 = .ok (.land, 1) := by decide +kernel
theorem dq_Tru_set_5 : decode kb_Tru_set 5 = .ok (.lstore_n 3, 1) := by decide +kernel
theorem dq_Tru_set_6 : decode kb_Tru_set 6 = .ok (.lload_n 3, 1) := by decide +kernel
theorem dq_Tru_set_7 : decode kb_Tru_set 7 = .ok (.ldc2_w 41, 3) := by decide +kernel
theorem dq_Tru_set_10 : decode kb_Tru_set 10 = .ok (.lcmp, 1) := by decide +kernel
theorem dq_Tru_set_11 : decode kb_Tru_set 11 = .ok (.ifCond .lt 13, 3) := by decide +kernel
theorem dq_Tru_set_14 : decode kb_Tru_set 14 = .ok (.new 43, 3) := by decide +kernel
theorem dq_Tru_set_17 : decode kb_Tru_set 17 = .ok (.dup, 1) := by decide +kernel
theorem dq_Tru_set_18 : decode kb_Tru_set 18 = .ok (.ldc 45, 2) := by decide +kernel
theorem dq_Tru_set_20 : decode kb_Tru_set 20 = .ok (.invokespecial 47, 3) := by decide +kernel
theorem dq_Tru_set_23 : decode kb_Tru_set 23 = .ok (.athrow, 1) := by decide +kernel
theorem dq_Tru_set_24 : decode kb_Tru_set 24 = .ok (.aload_n 0, 1) := by decide +kernel
theorem dq_Tru_set_25 : decode kb_Tru_set 25 = .ok (.lload_n 1, 1) := by decide +kernel
theorem dq_Tru_set_26 : decode kb_Tru_set 26 = .ok (.lconst 0, 1) := by decide +kernel
theorem dq_Tru_set_27 : decode kb_Tru_set 27 = .ok (.lcmp, 1) := by decide +kernel
theorem dq_Tru_set_28 : decode kb_Tru_set 28 = .ok (.ifCond .ge 7, 3) := by decide +kernel
theorem dq_Tru_set_31 : decode kb_Tru_set 31 = .ok (.iconst 1, 1) := by decide +kernel
theorem dq_Tru_set_32 : decode kb_Tru_set 32 = .ok (.goto 4, 3) := by decide +kernel
theorem dq_Tru_set_35 : decode kb_Tru_set 35 = .ok (.iconst 0, 1) := by decide +kernel
theorem dq_Tru_set_36 : decode kb_Tru_set 36 = .ok (.putfield 50, 3) := by decide +kernel
theorem dq_Tru_set_39 : decode kb_Tru_set 39 = .ok (.aload_n 0, 1) := by decide +kernel
theorem dq_Tru_set_40 : decode kb_Tru_set 40 = .ok (.lload_n 3, 1) := by decide +kernel
theorem dq_Tru_set_41 : decode kb_Tru_set 41 = .ok (.invokestatic 54, 3) := by decide +kernel
theorem dq_Tru_set_44 : decode kb_Tru_set 44 = .ok (.lload_n 3, 1) := by decide +kernel
theorem dq_Tru_set_45 : decode kb_Tru_set 45 = .ok (.invokestatic 58, 3) := by decide +kernel
theorem dq_Tru_set_48 : decode kb_Tru_set 48 = .ok (.aload_n 0, 1) := by decide +kernel
theorem dq_Tru_set_49 : decode kb_Tru_set 49 = .ok (.getfield 12, 3) := by decide +kernel
theorem dq_Tru_set_52 : decode kb_Tru_set 52 = .ok (.invokevirtual 62, 3) := by decide +kernel
theorem dq_Tru_set_55 : decode kb_Tru_set 55 = .ok (.aload_n 0, 1) := by decide +kernel
theorem dq_Tru_set_56 : decode kb_Tru_set 56 = .ok (.invokevirtual 66, 3) := by decide +kernel
theorem dq_Tru_set_59 : decode kb_Tru_set 59 = .ok (.aload_n 0, 1) := by decide +kernel
theorem dq_Tru_set_60 : decode kb_Tru_set 60 = .ok (.getfield 12, 3) := by decide +kernel
theorem dq_Tru_set_63 : decode kb_Tru_set 63 = .ok (.getfield 69, 3) := by decide +kernel
theorem dq_Tru_set_66 : decode kb_Tru_set 66 = .ok (.ireturn, 1) := by decide +kernel
theorem dq_Tru_digit_0 : decode kb_Tru_digit 0 = .ok (.iload_n 1, 1) := by decide +kernel
theorem dq_Tru_digit_1 : decode kb_Tru_digit 1 = .ok (.ifCond .lt 9, 3) := by decide +kernel
theorem dq_Tru_digit_4 : decode kb_Tru_digit 4 = .ok (.iload_n 1, 1) := by decide +kernel
theorem dq_Tru_digit_5 : decode kb_Tru_digit 5 = .ok (.bipush 9, 2) := by decide +kernel
theorem dq_Tru_digit_7 : decode kb_Tru_digit 7 = .ok (.if_icmp .le 13, 3) := by decide +kernel
theorem dq_Tru_digit_10 : decode kb_Tru_digit 10 = .ok (.new 43, 3) := by decide +kernel
theorem dq_Tru_digit_13 : decode kb_Tru_digit 13 = .ok (.dup, 1) := by decide +kernel
theorem dq_Tru_digit_14 : decode kb_Tru_digit 14 = .ok (.ldc 73, 2) := by decide +kernel
theorem dq_Tru_digit_16 : decode kb_Tru_digit 16 = .ok (.invokespecial 47, 3) := by decide +kernel
theorem dq_Tru_digit_19 : decode kb_Tru_digit 19 = .ok (.athrow, 1) := by decide +kernel
theorem dq_Tru_digit_20 : decode kb_Tru_digit 20 = .ok (.aload_n 0, 1) := by decide +kernel
theorem dq_Tru_digit_21 : decode kb_Tru_digit 21 = .ok (.iload_n 1, 1) := by decide +kernel
theorem dq_Tru_digit_22 : decode kb_Tru_digit 22 = .ok (.invokevirtual 75, 3) := by decide +kernel
theorem dq_Tru_digit_25 : decode kb_Tru_digit 25 = .ok (.ifCond .eq 13, 3) := by decide +kernel
theorem dq_Tru_digit_28 : decode kb_Tru_digit 28 = .ok (.new 79, 3) := by decide +kernel
theorem dq_Tru_digit_31 : decode kb_Tru_digit 31 = .ok (.dup, 1) := by decide +kernel
theorem dq_Tru_digit_32 : decode kb_Tru_digit 32 = .ok (.ldc 81, 2) := by decide +kernel
theorem dq_Tru_digit_34 : decode kb_Tru_digit 34 = .ok (.invokespecial 83, 3) := by decide +kernel
theorem dq_Tru_digit_37 : decode kb_Tru_digit 37 = .ok (.athrow, 1) := by decide +kernel
theorem dq_Tru_digit_38 : decode kb_Tru_digit 38 = .ok (.iload_n 1, 1) := by decide +kernel
theorem dq_Tru_digit_39 : decode kb_Tru_digit 39 = .ok (.ifCond .eq 11, 3) := by decide +kernel
theorem dq_Tru_digit_42 : decode kb_Tru_digit 42 = .ok (.aload_n 0, 1) := by decide +kernel
theorem dq_Tru_digit_43 : decode kb_Tru_digit 43 = .ok (.iload_n 1, 1) := by decide +kernel
theorem dq_Tru_digit_44 : decode kb_Tru_digit 44 = .ok (.invokevirtual 84, 3) := by decide +kernel
theorem dq_Tru_digit_47 : decode kb_Tru_digit 47 = .ok (.goto 36, 3) := by decide +kernel
theorem dq_Tru_digit_50 : decode kb_Tru_digit 50 = .ok (.aload_n 0, 1) := by decide +kernel
theorem dq_Tru_digit_51 : decode kb_Tru_digit 51 = .ok (.getfield 12, 3) := by decide +kernel
theorem dq_Tru_digit_54 : decode kb_Tru_digit 54 = .ok (.getfield 69, 3) := by decide +kernel
theorem dq_Tru_digit_57 : decode kb_Tru_digit 57 = .ok (.ifCond .ne 16, 3) := by decide +kernel
theorem dq_Tru_digit_60 : decode kb_Tru_digit 60 = .ok (.aload_n 0, 1) := by decide +kernel
theorem dq_Tru_digit_61 : decode kb_Tru_digit 61 = .ok (.dup, 1) := by decide +kernel
theorem dq_Tru_digit_62 : decode kb_Tru_digit 62 = .ok (.getfield 88, 3) := by decide +kernel
theorem dq_Tru_digit_65 : decode kb_Tru_digit 65 = .ok (.iconst 1, 1) := by decide +kernel
theorem dq_Tru_digit_66 : decode kb_Tru_digit 66 = .ok (.isub, 1) := by decide +kernel
theorem dq_Tru_digit_67 : decode kb_Tru_digit 67 = .ok (.putfield 88, 3) := by decide +kernel
theorem dq_Tru_digit_70 : decode kb_Tru_digit 70 = .ok (.goto 13, 3) := by decide +kernel
theorem dq_Tru_digit_73 : decode kb_Tru_digit 73 = .ok (.aload_n 0, 1) := by decide +kernel
theorem dq_Tru_digit_74 : decode kb_Tru_digit 74 = .ok (.dup, 1) := by decide +kernel
theorem dq_Tru_digit_75 : decode kb_Tru_digit 75 = .ok (.getfield 91, 3) := by decide +kernel
theorem dq_Tru_digit_78 : decode kb_Tru_digit 78 = .ok (.iconst 1, 1) := by decide +kernel
theorem dq_Tru_digit_79 : decode kb_Tru_digit 79 = .ok (.iadd, 1) := by decide +kernel
theorem dq_Tru_digit_80 : decode kb_Tru_digit 80 = .ok (.putfield 91, 3) := by decide +kernel
theorem dq_Tru_digit_83 : decode kb_Tru_digit 83 = .ok (.aload_n 0, 1) := by decide +kernel
theorem dq_Tru_digit_84 : decode kb_Tru_digit 84 = .ok (.getfield 12, 3) := by decide +kernel
theorem dq_Tru_digit_87 : decode kb_Tru_digit 87 = .ok (.getfield 69, 3) := by decide +kernel
theorem dq_Tru_digit_90 : decode kb_Tru_digit 90 = .ok (.ireturn, 1) := by decide +kernel
theorem dq_Tru_clear_0 : decode kb_Tru_clear 0 = .ok (.iload_n 2, 1) := by decide +kernel
theorem dq_Tru_clear_1 : decode kb_Tru_clear 1 = .ok (.sipush (-1000), 3) := by decide +kernel
theorem dq_Tru_clear_4 : decode kb_Tru_clear 4 = .ok (.if_icmp .lt 10, 3) := by decide +kernel
theorem dq_Tru_clear_7 : decode kb_Tru_clear 7 = .ok (.iload_n 2, 1) := by decide +kernel
theorem dq_Tru_clear_8 : decode kb_Tru_clear 8 = .ok (.sipush 1000, 3) := by decide +kernel
theorem dq_Tru_clear_11 : decode kb_Tru_clear 11 = .ok (.if_icmp .le 13, 3) := by decide +kernel
theorem dq_Tru_clear_14 : decode kb_Tru_clear 14 = .ok (.new 43, 3) := by decide +kernel
theorem dq_Tru_clear_17 : decode kb_Tru_clear 17 = .ok (.dup, 1) := by decide +kernel
theorem dq_Tru_clear_18 : decode kb_Tru_clear 18 = .ok (.ldc 94, 2) := by decide +kernel
theorem dq_Tru_clear_20 : decode kb_Tru_clear 20 = .ok (.invokespecial 47, 3) := by decide +kernel
theorem dq_Tru_clear_23 : decode kb_Tru_clear 23 = .ok (.athrow, 1) := by decide +kernel
theorem dq_Tru_clear_24 : decode kb_Tru_clear 24 = .ok (.aload_n 0, 1) := by decide +kernel
theorem dq_Tru_clear_25 : decode kb_Tru_clear 25 = .ok (.iload_n 1, 1) := by decide +kernel
theorem dq_Tru_clear_26 : decode kb_Tru_clear 26 = .ok (.putfield 50, 3) := by decide +kernel
theorem dq_Tru_clear_29 : decode kb_Tru_clear 29 = .ok (.aload_n 0, 1) := by decide +kernel
theorem dq_Tru_clear_30 : decode kb_Tru_clear 30 = .ok (.getfield 12, 3) := by decide +kernel
theorem dq_Tru_clear_33 : decode kb_Tru_clear 33 = .ok (.invokevirtual 96, 3) := by decide +kernel
theorem dq_Tru_clear_36 : decode kb_Tru_clear 36 = .ok (.aload_n 0, 1) := by decide +kernel
theorem dq_Tru_clear_37 : decode kb_Tru_clear 37 = .ok (.invokevirtual 66, 3) := by decide +kernel
theorem dq_Tru_clear_40 : decode kb_Tru_clear 40 = .ok (.aload_n 0, 1) := by decide +kernel
theorem dq_Tru_clear_41 : decode kb_Tru_clear 41 = .ok (.iload_n 2, 1) := by decide +kernel
theorem dq_Tru_clear_42 : decode kb_Tru_clear 42 = .ok (.putfield 88, 3) := by decide +kernel
theorem dq_Tru_clear_45 : decode kb_Tru_clear 45 = .ok (.return_, 1) := by decide +kernel
theorem dq_Tru_round_0 : decode kb_Tru_round 0 = .ok (.iload_n 1, 1) := by decide +kernel
theorem dq_Tru_round_1 : decode kb_Tru_round 1 = .ok (.ifCond .lt 10, 3) := by decide +kernel
theorem dq_Tru_round_4 : decode kb_Tru_round 4 = .ok (.iload_n 1, 1) := by decide +kernel
theorem dq_Tru_round_5 : decode kb_Tru_round 5 = .ok (.sipush 800, 3) := by decide +kernel
theorem dq_Tru_round_8 : decode kb_Tru_round 8 = .ok (.if_icmp .le 13, 3) := by decide +kernel
theorem dq_Tru_round_11 : decode kb_Tru_round 11 = .ok (.new 43, 3) := by decide +kernel
theorem dq_Tru_round_14 : decode kb_Tru_round 14 = .ok (.dup, 1) := by decide +kernel
theorem dq_Tru_round_15 : decode kb_Tru_round 15 = .ok (.ldc 99, 2) := by decide +kernel
theorem dq_Tru_round_17 : decode kb_Tru_round 17 = .ok (.invokespecial 47, 3) := by decide +kernel
theorem dq_Tru_round_20 : decode kb_Tru_round 20 = .ok (.athrow, 1) := by decide +kernel
theorem dq_Tru_round_21 : decode kb_Tru_round 21 = .ok (.aload_n 0, 1) := by decide +kernel
theorem dq_Tru_round_22 : decode kb_Tru_round 22 = .ok (.iload_n 1, 1) := by decide +kernel
theorem dq_Tru_round_23 : decode kb_Tru_round 23 = .ok (.invokevirtual 101, 3) := by decide +kernel
theorem dq_Tru_round_26 : decode kb_Tru_round 26 = .ok (.aload_n 0, 1) := by decide +kernel
theorem dq_Tru_round_27 : decode kb_Tru_round 27 = .ok (.getfield 12, 3) := by decide +kernel
theorem dq_Tru_round_30 : decode kb_Tru_round 30 = .ok (.getfield 69, 3) := by decide +kernel
theorem dq_Tru_round_33 : decode kb_Tru_round 33 = .ok (.ireturn, 1) := by decide +kernel
theorem dq_Tru_places_0 : decode kb_Tru_places 0 = .ok (.iload_n 1, 1) := by decide +kernel
theorem dq_Tru_places_1 : decode kb_Tru_places 1 = .ok (.sipush (-1000), 3) := by decide +kernel
theorem dq_Tru_places_4 : decode kb_Tru_places 4 = .ok (.if_icmp .lt 10, 3) := by decide +kernel
theorem dq_Tru_places_7 : decode kb_Tru_places 7 = .ok (.iload_n 1, 1) := by decide +kernel
theorem dq_Tru_places_8 : decode kb_Tru_places 8 = .ok (.sipush 2000, 3) := by decide +kernel
theorem dq_Tru_places_11 : decode kb_Tru_places 11 = .ok (.if_icmp .le 13, 3) := by decide +kernel
theorem dq_Tru_places_14 : decode kb_Tru_places 14 = .ok (.new 43, 3) := by decide +kernel
theorem dq_Tru_places_17 : decode kb_Tru_places 17 = .ok (.dup, 1) := by decide +kernel
theorem dq_Tru_places_18 : decode kb_Tru_places 18 = .ok (.ldc 104, 2) := by decide +kernel
theorem dq_Tru_places_20 : decode kb_Tru_places 20 = .ok (.invokespecial 47, 3) := by decide +kernel
theorem dq_Tru_places_23 : decode kb_Tru_places 23 = .ok (.athrow, 1) := by decide +kernel
theorem dq_Tru_places_24 : decode kb_Tru_places 24 = .ok (.aload_n 0, 1) := by decide +kernel
theorem dq_Tru_places_25 : decode kb_Tru_places 25 = .ok (.getfield 12, 3) := by decide +kernel
theorem dq_Tru_places_28 : decode kb_Tru_places 28 = .ok (.aload_n 0, 1) := by decide +kernel
theorem dq_Tru_places_29 : decode kb_Tru_places 29 = .ok (.getfield 12, 3) := by decide +kernel
theorem dq_Tru_places_32 : decode kb_Tru_places 32 = .ok (.getfield 106, 3) := by decide +kernel
theorem dq_Tru_places_35 : decode kb_Tru_places 35 = .ok (.iload_n 1, 1) := by decide +kernel
theorem dq_Tru_places_36 : decode kb_Tru_places 36 = .ok (.iadd, 1) := by decide +kernel
theorem dq_Tru_places_37 : decode kb_Tru_places 37 = .ok (.invokevirtual 109, 3) := by decide +kernel
theorem dq_Tru_places_40 : decode kb_Tru_places 40 = .ok (.aload_n 0, 1) := by decide +kernel
theorem dq_Tru_places_41 : decode kb_Tru_places 41 = .ok (.invokevirtual 66, 3) := by decide +kernel
theorem dq_Tru_places_44 : decode kb_Tru_places 44 = .ok (.aload_n 0, 1) := by decide +kernel
theorem dq_Tru_places_45 : decode kb_Tru_places 45 = .ok (.getfield 12, 3) := by decide +kernel
theorem dq_Tru_places_48 : decode kb_Tru_places 48 = .ok (.getfield 69, 3) := by decide +kernel
theorem dq_Tru_places_51 : decode kb_Tru_places 51 = .ok (.ireturn, 1) := by decide +kernel
theorem dq_Tru_nearest_0 : decode kb_Tru_nearest 0 = .ok (.aload_n 0, 1) := by decide +kernel
theorem dq_Tru_nearest_1 : decode kb_Tru_nearest 1 = .ok (.invokevirtual 112, 3) := by decide +kernel
theorem dq_Tru_nearest_4 : decode kb_Tru_nearest 4 = .ok (.lstore_n 1, 1) := by decide +kernel
theorem dq_Tru_nearest_5 : decode kb_Tru_nearest 5 = .ok (.lload_n 1, 1) := by decide +kernel
theorem dq_Tru_nearest_6 : decode kb_Tru_nearest 6 = .ok (.ldc2_w 41, 3) := by decide +kernel
theorem dq_Tru_nearest_9 : decode kb_Tru_nearest 9 = .ok (.lcmp, 1) := by decide +kernel
theorem dq_Tru_nearest_10 : decode kb_Tru_nearest 10 = .ok (.ifCond .lt 13, 3) := by decide +kernel
theorem dq_Tru_nearest_13 : decode kb_Tru_nearest 13 = .ok (.new 116, 3) := by decide +kernel
theorem dq_Tru_nearest_16 : decode kb_Tru_nearest 16 = .ok (.dup, 1) := by decide +kernel
theorem dq_Tru_nearest_17 : decode kb_Tru_nearest 17 = .ok (.ldc 118, 2) := by decide +kernel
theorem dq_Tru_nearest_19 : decode kb_Tru_nearest 19 = .ok (.invokespecial 120, 3) := by decide +kernel
theorem dq_Tru_nearest_22 : decode kb_Tru_nearest 22 = .ok (.athrow, 1) := by decide +kernel
theorem dq_Tru_nearest_23 : decode kb_Tru_nearest 23 = .ok (.aload_n 0, 1) := by decide +kernel
theorem dq_Tru_nearest_24 : decode kb_Tru_nearest 24 = .ok (.getfield 50, 3) := by decide +kernel
theorem dq_Tru_nearest_27 : decode kb_Tru_nearest 27 = .ok (.ifCond .eq 11, 3) := by decide +kernel
theorem dq_Tru_nearest_30 : decode kb_Tru_nearest 30 = .ok (.lload_n 1, 1) := by decide +kernel
theorem dq_Tru_nearest_31 : decode kb_Tru_nearest 31 = .ok (.ldc2_w 121, 3) := by decide +kernel
theorem dq_Tru_nearest_34 : decode kb_Tru_nearest 34 = .ok (.lor, 1) := by decide +kernel
theorem dq_Tru_nearest_35 : decode kb_Tru_nearest 35 = .ok (.goto 4, 3) := by decide +kernel
theorem dq_Tru_nearest_38 : decode kb_Tru_nearest 38 = .ok (.lload_n 1, 1) := by decide +kernel
theorem dq_Tru_nearest_39 : decode kb_Tru_nearest 39 = .ok (.lreturn, 1) := by decide +kernel
theorem dq_Tru_enough_0 : decode kb_Tru_enough 0 = .ok (.aload_n 0, 1) := by decide +kernel
theorem dq_Tru_enough_1 : decode kb_Tru_enough 1 = .ok (.invokevirtual 112, 3) := by decide +kernel
theorem dq_Tru_enough_4 : decode kb_Tru_enough 4 = .ok (.lstore_n 1, 1) := by decide +kernel
theorem dq_Tru_enough_5 : decode kb_Tru_enough 5 = .ok (.lload_n 1, 1) := by decide +kernel
theorem dq_Tru_enough_6 : decode kb_Tru_enough 6 = .ok (.ldc2_w 41, 3) := by decide +kernel
theorem dq_Tru_enough_9 : decode kb_Tru_enough 9 = .ok (.lcmp, 1) := by decide +kernel
theorem dq_Tru_enough_10 : decode kb_Tru_enough 10 = .ok (.ifCond .lt 13, 3) := by decide +kernel
theorem dq_Tru_enough_13 : decode kb_Tru_enough 13 = .ok (.new 116, 3) := by decide +kernel
theorem dq_Tru_enough_16 : decode kb_Tru_enough 16 = .ok (.dup, 1) := by decide +kernel
theorem dq_Tru_enough_17 : decode kb_Tru_enough 17 = .ok (.ldc 118, 2) := by decide +kernel
theorem dq_Tru_enough_19 : decode kb_Tru_enough 19 = .ok (.invokespecial 120, 3) := by decide +kernel
theorem dq_Tru_enough_22 : decode kb_Tru_enough 22 = .ok (.athrow, 1) := by decide +kernel
theorem dq_Tru_enough_23 : decode kb_Tru_enough 23 = .ok (.lload_n 1, 1) := by decide +kernel
theorem dq_Tru_enough_24 : decode kb_Tru_enough 24 = .ok (.lconst 0, 1) := by decide +kernel
theorem dq_Tru_enough_25 : decode kb_Tru_enough 25 = .ok (.lcmp, 1) := by decide +kernel
theorem dq_Tru_enough_26 : decode kb_Tru_enough 26 = .ok (.ifCond .ne 7, 3) := by decide +kernel
theorem dq_Tru_enough_29 : decode kb_Tru_enough 29 = .ok (.iconst 0, 1) := by decide +kernel
theorem dq_Tru_enough_30 : decode kb_Tru_enough 30 = .ok (.goto 8, 3) := by decide +kernel
theorem dq_Tru_enough_33 : decode kb_Tru_enough 33 = .ok (.aload_n 0, 1) := by decide +kernel
theorem dq_Tru_enough_34 : decode kb_Tru_enough 34 = .ok (.lload_n 1, 1) := by decide +kernel
theorem dq_Tru_enough_35 : decode kb_Tru_enough 35 = .ok (.invokevirtual 123, 3) := by decide +kernel
theorem dq_Tru_enough_38 : decode kb_Tru_enough 38 = .ok (.istore_n 3, 1) := by decide +kernel
theorem dq_Tru_enough_39 : decode kb_Tru_enough 39 = .ok (.aload_n 0, 1) := by decide +kernel
theorem dq_Tru_enough_40 : decode kb_Tru_enough 40 = .ok (.iload_n 3, 1) := by decide +kernel
theorem dq_Tru_enough_41 : decode kb_Tru_enough 41 = .ok (.invokevirtual 101, 3) := by decide +kernel
theorem dq_Tru_enough_44 : decode kb_Tru_enough 44 = .ok (.iload_n 3, 1) := by decide +kernel
theorem dq_Tru_enough_45 : decode kb_Tru_enough 45 = .ok (.ireturn, 1) := by decide +kernel
theorem dq_Tru_look_0 : decode kb_Tru_look 0 = .ok (.iload_n 1, 1) := by decide +kernel
theorem dq_Tru_look_1 : decode kb_Tru_look 1 = .ok (.ifCond .lt 14, 3) := by decide +kernel
theorem dq_Tru_look_4 : decode kb_Tru_look 4 = .ok (.iload_n 1, 1) := by decide +kernel
theorem dq_Tru_look_5 : decode kb_Tru_look 5 = .ok (.aload_n 0, 1) := by decide +kernel
theorem dq_Tru_look_6 : decode kb_Tru_look 6 = .ok (.getfield 12, 3) := by decide +kernel
theorem dq_Tru_look_9 : decode kb_Tru_look 9 = .ok (.getfield 69, 3) := by decide +kernel
theorem dq_Tru_look_12 : decode kb_Tru_look 12 = .ok (.if_icmp .lt 13, 3) := by decide +kernel
theorem dq_Tru_look_15 : decode kb_Tru_look 15 = .ok (.new 79, 3) := by decide +kernel
theorem dq_Tru_look_18 : decode kb_Tru_look 18 = .ok (.dup, 1) := by decide +kernel
theorem dq_Tru_look_19 : decode kb_Tru_look 19 = .ok (.ldc 126, 2) := by decide +kernel
theorem dq_Tru_look_21 : decode kb_Tru_look 21 = .ok (.invokespecial 83, 3) := by decide +kernel
theorem dq_Tru_look_24 : decode kb_Tru_look 24 = .ok (.athrow, 1) := by decide +kernel
theorem dq_Tru_look_25 : decode kb_Tru_look 25 = .ok (.aload_n 0, 1) := by decide +kernel
theorem dq_Tru_look_26 : decode kb_Tru_look 26 = .ok (.getfield 12, 3) := by decide +kernel
theorem dq_Tru_look_29 : decode kb_Tru_look 29 = .ok (.getfield 128, 3) := by decide +kernel
theorem dq_Tru_look_32 : decode kb_Tru_look 32 = .ok (.iload_n 1, 1) := by decide +kernel
theorem dq_Tru_look_33 : decode kb_Tru_look 33 = .ok (.iaload, 1) := by decide +kernel
theorem dq_Tru_look_34 : decode kb_Tru_look 34 = .ok (.ireturn, 1) := by decide +kernel
theorem dq_Tru_count_0 : decode kb_Tru_count 0 = .ok (.iload_n 1, 1) := by decide +kernel
theorem dq_Tru_count_1 : decode kb_Tru_count 1 = .ok (.tableswitch 56 0 2 #[27, 35, 43], 27) := by decide +kernel
theorem dq_Tru_count_28 : decode kb_Tru_count 28 = .ok (.aload_n 0, 1) := by decide +kernel
theorem dq_Tru_count_29 : decode kb_Tru_count 29 = .ok (.getfield 12, 3) := by decide +kernel
theorem dq_Tru_count_32 : decode kb_Tru_count 32 = .ok (.getfield 69, 3) := by decide +kernel
theorem dq_Tru_count_35 : decode kb_Tru_count 35 = .ok (.ireturn, 1) := by decide +kernel
theorem dq_Tru_count_36 : decode kb_Tru_count 36 = .ok (.aload_n 0, 1) := by decide +kernel
theorem dq_Tru_count_37 : decode kb_Tru_count 37 = .ok (.getfield 12, 3) := by decide +kernel
theorem dq_Tru_count_40 : decode kb_Tru_count 40 = .ok (.getfield 106, 3) := by decide +kernel
theorem dq_Tru_count_43 : decode kb_Tru_count 43 = .ok (.ireturn, 1) := by decide +kernel
theorem dq_Tru_count_44 : decode kb_Tru_count 44 = .ok (.aload_n 0, 1) := by decide +kernel
theorem dq_Tru_count_45 : decode kb_Tru_count 45 = .ok (.getfield 50, 3) := by decide +kernel
theorem dq_Tru_count_48 : decode kb_Tru_count 48 = .ok (.ifCond .eq 7, 3) := by decide +kernel
theorem dq_Tru_count_51 : decode kb_Tru_count 51 = .ok (.iconst 1, 1) := by decide +kernel
theorem dq_Tru_count_52 : decode kb_Tru_count 52 = .ok (.goto 4, 3) := by decide +kernel
theorem dq_Tru_count_55 : decode kb_Tru_count 55 = .ok (.iconst 0, 1) := by decide +kernel
theorem dq_Tru_count_56 : decode kb_Tru_count 56 = .ok (.ireturn, 1) := by decide +kernel
theorem dq_Tru_count_57 : decode kb_Tru_count 57 = .ok (.new 43, 3) := by decide +kernel
theorem dq_Tru_count_60 : decode kb_Tru_count 60 = .ok (.dup, 1) := by decide +kernel
theorem dq_Tru_count_61 : decode kb_Tru_count 61 = .ok (.ldc 132, 2) := by decide +kernel
theorem dq_Tru_count_63 : decode kb_Tru_count 63 = .ok (.invokespecial 47, 3) := by decide +kernel
theorem dq_Tru_count_66 : decode kb_Tru_count 66 = .ok (.athrow, 1) := by decide +kernel
theorem dq_Tru_hasNoRoomFor_0 : decode kb_Tru_hasNoRoomFor 0 = .ok (.aload_n 0, 1) := by decide +kernel
theorem dq_Tru_hasNoRoomFor_1 : decode kb_Tru_hasNoRoomFor 1 = .ok (.getfield 12, 3) := by decide +kernel
theorem dq_Tru_hasNoRoomFor_4 : decode kb_Tru_hasNoRoomFor 4 = .ok (.getfield 69, 3) := by decide +kernel
theorem dq_Tru_hasNoRoomFor_7 : decode kb_Tru_hasNoRoomFor 7 = .ok (.ifCond .ne 23, 3) := by decide +kernel
theorem dq_Tru_hasNoRoomFor_10 : decode kb_Tru_hasNoRoomFor 10 = .ok (.iload_n 1, 1) := by decide +kernel
theorem dq_Tru_hasNoRoomFor_11 : decode kb_Tru_hasNoRoomFor 11 = .ok (.ifCond .ne 17, 3) := by decide +kernel
theorem dq_Tru_hasNoRoomFor_14 : decode kb_Tru_hasNoRoomFor 14 = .ok (.aload_n 0, 1) := by decide +kernel
theorem dq_Tru_hasNoRoomFor_15 : decode kb_Tru_hasNoRoomFor 15 = .ok (.getfield 88, 3) := by decide +kernel
theorem dq_Tru_hasNoRoomFor_18 : decode kb_Tru_hasNoRoomFor 18 = .ok (.sipush (-1000), 3) := by decide +kernel
theorem dq_Tru_hasNoRoomFor_21 : decode kb_Tru_hasNoRoomFor 21 = .ok (.if_icmp .ge 7, 3) := by decide +kernel
theorem dq_Tru_hasNoRoomFor_24 : decode kb_Tru_hasNoRoomFor 24 = .ok (.iconst 1, 1) := by decide +kernel
theorem dq_Tru_hasNoRoomFor_25 : decode kb_Tru_hasNoRoomFor 25 = .ok (.goto 4, 3) := by decide +kernel
theorem dq_Tru_hasNoRoomFor_28 : decode kb_Tru_hasNoRoomFor 28 = .ok (.iconst 0, 1) := by decide +kernel
theorem dq_Tru_hasNoRoomFor_29 : decode kb_Tru_hasNoRoomFor 29 = .ok (.ireturn, 1) := by decide +kernel
theorem dq_Tru_hasNoRoomFor_30 : decode kb_Tru_hasNoRoomFor 30 = .ok (.aload_n 0, 1) := by decide +kernel
theorem dq_Tru_hasNoRoomFor_31 : decode kb_Tru_hasNoRoomFor 31 = .ok (.getfield 12, 3) := by decide +kernel
theorem dq_Tru_hasNoRoomFor_34 : decode kb_Tru_hasNoRoomFor 34 = .ok (.getfield 69, 3) := by decide +kernel
theorem dq_Tru_hasNoRoomFor_37 : decode kb_Tru_hasNoRoomFor 37 = .ok (.aload_n 0, 1) := by decide +kernel
theorem dq_Tru_hasNoRoomFor_38 : decode kb_Tru_hasNoRoomFor 38 = .ok (.getfield 91, 3) := by decide +kernel
theorem dq_Tru_hasNoRoomFor_41 : decode kb_Tru_hasNoRoomFor 41 = .ok (.iadd, 1) := by decide +kernel
theorem dq_Tru_hasNoRoomFor_42 : decode kb_Tru_hasNoRoomFor 42 = .ok (.sipush 800, 3) := by decide +kernel
theorem dq_Tru_hasNoRoomFor_45 : decode kb_Tru_hasNoRoomFor 45 = .ok (.if_icmp .lt 7, 3) := by decide +kernel
theorem dq_Tru_hasNoRoomFor_48 : decode kb_Tru_hasNoRoomFor 48 = .ok (.iconst 1, 1) := by decide +kernel
theorem dq_Tru_hasNoRoomFor_49 : decode kb_Tru_hasNoRoomFor 49 = .ok (.goto 4, 3) := by decide +kernel
theorem dq_Tru_hasNoRoomFor_52 : decode kb_Tru_hasNoRoomFor 52 = .ok (.iconst 0, 1) := by decide +kernel
theorem dq_Tru_hasNoRoomFor_53 : decode kb_Tru_hasNoRoomFor 53 = .ok (.ireturn, 1) := by decide +kernel
theorem dq_Tru_bringDigit_0 : decode kb_Tru_bringDigit 0 = .ok (.aload_n 0, 1) := by decide +kernel
theorem dq_Tru_bringDigit_1 : decode kb_Tru_bringDigit 1 = .ok (.getfield 12, 3) := by decide +kernel
theorem dq_Tru_bringDigit_4 : decode kb_Tru_bringDigit 4 = .ok (.getfield 69, 3) := by decide +kernel
theorem dq_Tru_bringDigit_7 : decode kb_Tru_bringDigit 7 = .ok (.ifCond .ne 14, 3) := by decide +kernel
theorem dq_Tru_bringDigit_10 : decode kb_Tru_bringDigit 10 = .ok (.aload_n 0, 1) := by decide +kernel
theorem dq_Tru_bringDigit_11 : decode kb_Tru_bringDigit 11 = .ok (.getfield 12, 3) := by decide +kernel
theorem dq_Tru_bringDigit_14 : decode kb_Tru_bringDigit 14 = .ok (.aload_n 0, 1) := by decide +kernel
theorem dq_Tru_bringDigit_15 : decode kb_Tru_bringDigit 15 = .ok (.getfield 88, 3) := by decide +kernel
theorem dq_Tru_bringDigit_18 : decode kb_Tru_bringDigit 18 = .ok (.putfield 106, 3) := by decide +kernel
theorem dq_Tru_bringDigit_21 : decode kb_Tru_bringDigit 21 = .ok (.iconst 0, 1) := by decide +kernel
theorem dq_Tru_bringDigit_22 : decode kb_Tru_bringDigit 22 = .ok (.istore_n 2, 1) := by decide +kernel
theorem dq_Tru_bringDigit_23 : decode kb_Tru_bringDigit 23 = .ok (.iload_n 2, 1) := by decide +kernel
theorem dq_Tru_bringDigit_24 : decode kb_Tru_bringDigit 24 = .ok (.aload_n 0, 1) := by decide +kernel
theorem dq_Tru_bringDigit_25 : decode kb_Tru_bringDigit 25 = .ok (.getfield 91, 3) := by decide +kernel
theorem dq_Tru_bringDigit_28 : decode kb_Tru_bringDigit 28 = .ok (.if_icmp .ge 17, 3) := by decide +kernel
theorem dq_Tru_bringDigit_31 : decode kb_Tru_bringDigit 31 = .ok (.aload_n 0, 1) := by decide +kernel
theorem dq_Tru_bringDigit_32 : decode kb_Tru_bringDigit 32 = .ok (.getfield 12, 3) := by decide +kernel
theorem dq_Tru_bringDigit_35 : decode kb_Tru_bringDigit 35 = .ok (.iconst 0, 1) := by decide +kernel
theorem dq_Tru_bringDigit_36 : decode kb_Tru_bringDigit 36 = .ok (.invokevirtual 134, 3) := by decide +kernel
theorem dq_Tru_bringDigit_39 : decode kb_Tru_bringDigit 39 = .ok (.iinc 2 1, 3) := by decide +kernel
theorem dq_Tru_bringDigit_42 : decode kb_Tru_bringDigit 42 = .ok (.goto (-19), 3) := by decide +kernel
theorem dq_Tru_bringDigit_45 : decode kb_Tru_bringDigit 45 = .ok (.aload_n 0, 1) := by decide +kernel
theorem dq_Tru_bringDigit_46 : decode kb_Tru_bringDigit 46 = .ok (.iconst 0, 1) := by decide +kernel
theorem dq_Tru_bringDigit_47 : decode kb_Tru_bringDigit 47 = .ok (.putfield 91, 3) := by decide +kernel
theorem dq_Tru_bringDigit_50 : decode kb_Tru_bringDigit 50 = .ok (.aload_n 0, 1) := by decide +kernel
theorem dq_Tru_bringDigit_51 : decode kb_Tru_bringDigit 51 = .ok (.getfield 12, 3) := by decide +kernel
theorem dq_Tru_bringDigit_54 : decode kb_Tru_bringDigit 54 = .ok (.iload_n 1, 1) := by decide +kernel
theorem dq_Tru_bringDigit_55 : decode kb_Tru_bringDigit 55 = .ok (.invokevirtual 134, 3) := by decide +kernel
theorem dq_Tru_bringDigit_58 : decode kb_Tru_bringDigit 58 = .ok (.return_, 1) := by decide +kernel
theorem dq_Tru_forgetWhatCame_0 : decode kb_Tru_forgetWhatCame 0 = .ok (.aload_n 0, 1) := by decide +kernel
theorem dq_Tru_forgetWhatCame_1 : decode kb_Tru_forgetWhatCame 1 = .ok (.iconst 0, 1) := by decide +kernel
theorem dq_Tru_forgetWhatCame_2 : decode kb_Tru_forgetWhatCame 2 = .ok (.putfield 91, 3) := by decide +kernel
theorem dq_Tru_forgetWhatCame_5 : decode kb_Tru_forgetWhatCame 5 = .ok (.aload_n 0, 1) := by decide +kernel
theorem dq_Tru_forgetWhatCame_6 : decode kb_Tru_forgetWhatCame 6 = .ok (.iconst 0, 1) := by decide +kernel
theorem dq_Tru_forgetWhatCame_7 : decode kb_Tru_forgetWhatCame 7 = .ok (.putfield 88, 3) := by decide +kernel
theorem dq_Tru_forgetWhatCame_10 : decode kb_Tru_forgetWhatCame 10 = .ok (.return_, 1) := by decide +kernel
theorem dq_Tru_roundToDigits_0 : decode kb_Tru_roundToDigits 0 = .ok (.iload_n 1, 1) := by decide +kernel
theorem dq_Tru_roundToDigits_1 : decode kb_Tru_roundToDigits 1 = .ok (.ifCond .ne 13, 3) := by decide +kernel
theorem dq_Tru_roundToDigits_4 : decode kb_Tru_roundToDigits 4 = .ok (.aload_n 0, 1) := by decide +kernel
theorem dq_Tru_roundToDigits_5 : decode kb_Tru_roundToDigits 5 = .ok (.getfield 12, 3) := by decide +kernel
theorem dq_Tru_roundToDigits_8 : decode kb_Tru_roundToDigits 8 = .ok (.invokevirtual 96, 3) := by decide +kernel
theorem dq_Tru_roundToDigits_11 : decode kb_Tru_roundToDigits 11 = .ok (.goto 11, 3) := by decide +kernel
theorem dq_Tru_roundToDigits_14 : decode kb_Tru_roundToDigits 14 = .ok (.aload_n 0, 1) := by decide +kernel
theorem dq_Tru_roundToDigits_15 : decode kb_Tru_roundToDigits 15 = .ok (.getfield 12, 3) := by decide +kernel
theorem dq_Tru_roundToDigits_18 : decode kb_Tru_roundToDigits 18 = .ok (.iload_n 1, 1) := by decide +kernel
theorem dq_Tru_roundToDigits_19 : decode kb_Tru_roundToDigits 19 = .ok (.invokevirtual 109, 3) := by decide +kernel
theorem dq_Tru_roundToDigits_22 : decode kb_Tru_roundToDigits 22 = .ok (.aload_n 0, 1) := by decide +kernel
theorem dq_Tru_roundToDigits_23 : decode kb_Tru_roundToDigits 23 = .ok (.invokevirtual 66, 3) := by decide +kernel
theorem dq_Tru_roundToDigits_26 : decode kb_Tru_roundToDigits 26 = .ok (.return_, 1) := by decide +kernel
theorem dq_Tru_nearestSize_0 : decode kb_Tru_nearestSize 0 = .ok (.aload_n 0, 1) := by decide +kernel
theorem dq_Tru_nearestSize_1 : decode kb_Tru_nearestSize 1 = .ok (.getfield 12, 3) := by decide +kernel
theorem dq_Tru_nearestSize_4 : decode kb_Tru_nearestSize 4 = .ok (.getfield 69, 3) := by decide +kernel
theorem dq_Tru_nearestSize_7 : decode kb_Tru_nearestSize 7 = .ok (.ifCond .eq 16, 3) := by decide +kernel
theorem dq_Tru_nearestSize_10 : decode kb_Tru_nearestSize 10 = .ok (.aload_n 0, 1) := by decide +kernel
theorem dq_Tru_nearestSize_11 : decode kb_Tru_nearestSize 11 = .ok (.getfield 12, 3) := by decide +kernel
theorem dq_Tru_nearestSize_14 : decode kb_Tru_nearestSize 14 = .ok (.getfield 106, 3) := by decide +kernel
theorem dq_Tru_nearestSize_17 : decode kb_Tru_nearestSize 17 = .ok (.sipush (-323), 3) := by decide +kernel
theorem dq_Tru_nearestSize_20 : decode kb_Tru_nearestSize 20 = .ok (.if_icmp .ge 5, 3) := by decide +kernel
theorem dq_Tru_nearestSize_23 : decode kb_Tru_nearestSize 23 = .ok (.lconst 0, 1) := by decide +kernel
theorem dq_Tru_nearestSize_24 : decode kb_Tru_nearestSize 24 = .ok (.lreturn, 1) := by decide +kernel
theorem dq_Tru_nearestSize_25 : decode kb_Tru_nearestSize 25 = .ok (.aload_n 0, 1) := by decide +kernel
theorem dq_Tru_nearestSize_26 : decode kb_Tru_nearestSize 26 = .ok (.getfield 12, 3) := by decide +kernel
theorem dq_Tru_nearestSize_29 : decode kb_Tru_nearestSize 29 = .ok (.getfield 106, 3) := by decide +kernel
theorem dq_Tru_nearestSize_32 : decode kb_Tru_nearestSize 32 = .ok (.sipush 309, 3) := by decide +kernel
theorem dq_Tru_nearestSize_35 : decode kb_Tru_nearestSize 35 = .ok (.if_icmp .le 7, 3) := by decide +kernel
theorem dq_Tru_nearestSize_38 : decode kb_Tru_nearestSize 38 = .ok (.ldc2_w 41, 3) := by decide +kernel
theorem dq_Tru_nearestSize_41 : decode kb_Tru_nearestSize 41 = .ok (.lreturn, 1) := by decide +kernel
theorem dq_Tru_nearestSize_42 : decode kb_Tru_nearestSize 42 = .ok (.aload_n 0, 1) := by decide +kernel
theorem dq_Tru_nearestSize_43 : decode kb_Tru_nearestSize 43 = .ok (.getfield 19, 3) := by decide +kernel
theorem dq_Tru_nearestSize_46 : decode kb_Tru_nearestSize 46 = .ok (.aload_n 0, 1) := by decide +kernel
theorem dq_Tru_nearestSize_47 : decode kb_Tru_nearestSize 47 = .ok (.getfield 12, 3) := by decide +kernel
theorem dq_Tru_nearestSize_50 : decode kb_Tru_nearestSize 50 = .ok (.invokevirtual 137, 3) := by decide +kernel
theorem dq_Tru_nearestSize_53 : decode kb_Tru_nearestSize 53 = .ok (.aload_n 0, 1) := by decide +kernel
theorem dq_Tru_nearestSize_54 : decode kb_Tru_nearestSize 54 = .ok (.getfield 26, 3) := by decide +kernel
theorem dq_Tru_nearestSize_57 : decode kb_Tru_nearestSize 57 = .ok (.aload_n 0, 1) := by decide +kernel
theorem dq_Tru_nearestSize_58 : decode kb_Tru_nearestSize 58 = .ok (.getfield 19, 3) := by decide +kernel
theorem dq_Tru_nearestSize_61 : decode kb_Tru_nearestSize 61 = .ok (.invokevirtual 141, 3) := by decide +kernel
theorem dq_Tru_nearestSize_64 : decode kb_Tru_nearestSize 64 = .ok (.aload_n 0, 1) := by decide +kernel
theorem dq_Tru_nearestSize_65 : decode kb_Tru_nearestSize 65 = .ok (.getfield 26, 3) := by decide +kernel
theorem dq_Tru_nearestSize_68 : decode kb_Tru_nearestSize 68 = .ok (.invokevirtual 144, 3) := by decide +kernel
theorem dq_Tru_nearestSize_71 : decode kb_Tru_nearestSize 71 = .ok (.lreturn, 1) := by decide +kernel
theorem dq_Tru_leastDigitsFor_0 : decode kb_Tru_leastDigitsFor 0 = .ok (.aload_n 0, 1) := by decide +kernel
theorem dq_Tru_leastDigitsFor_1 : decode kb_Tru_leastDigitsFor 1 = .ok (.lload_n 1, 1) := by decide +kernel
theorem dq_Tru_leastDigitsFor_2 : decode kb_Tru_leastDigitsFor 2 = .ok (.lconst 1, 1) := by decide +kernel
theorem dq_Tru_leastDigitsFor_3 : decode kb_Tru_leastDigitsFor 3 = .ok (.lsub, 1) := by decide +kernel
theorem dq_Tru_leastDigitsFor_4 : decode kb_Tru_leastDigitsFor 4 = .ok (.aload_n 0, 1) := by decide +kernel
theorem dq_Tru_leastDigitsFor_5 : decode kb_Tru_leastDigitsFor 5 = .ok (.getfield 33, 3) := by decide +kernel
theorem dq_Tru_leastDigitsFor_8 : decode kb_Tru_leastDigitsFor 8 = .ok (.invokevirtual 147, 3) := by decide +kernel
theorem dq_Tru_leastDigitsFor_11 : decode kb_Tru_leastDigitsFor 11 = .ok (.aload_n 0, 1) := by decide +kernel
theorem dq_Tru_leastDigitsFor_12 : decode kb_Tru_leastDigitsFor 12 = .ok (.lload_n 1, 1) := by decide +kernel
theorem dq_Tru_leastDigitsFor_13 : decode kb_Tru_leastDigitsFor 13 = .ok (.aload_n 0, 1) := by decide +kernel
theorem dq_Tru_leastDigitsFor_14 : decode kb_Tru_leastDigitsFor 14 = .ok (.getfield 36, 3) := by decide +kernel
theorem dq_Tru_leastDigitsFor_17 : decode kb_Tru_leastDigitsFor 17 = .ok (.invokevirtual 147, 3) := by decide +kernel
theorem dq_Tru_leastDigitsFor_20 : decode kb_Tru_leastDigitsFor 20 = .ok (.lload_n 1, 1) := by decide +kernel
theorem dq_Tru_leastDigitsFor_21 : decode kb_Tru_leastDigitsFor 21 = .ok (.lconst 1, 1) := by decide +kernel
theorem dq_Tru_leastDigitsFor_22 : decode kb_Tru_leastDigitsFor 22 = .ok (.land, 1) := by decide +kernel
theorem dq_Tru_leastDigitsFor_23 : decode kb_Tru_leastDigitsFor 23 = .ok (.lconst 0, 1) := by decide +kernel
theorem dq_Tru_leastDigitsFor_24 : decode kb_Tru_leastDigitsFor 24 = .ok (.lcmp, 1) := by decide +kernel
theorem dq_Tru_leastDigitsFor_25 : decode kb_Tru_leastDigitsFor 25 = .ok (.ifCond .ne 7, 3) := by decide +kernel
theorem dq_Tru_leastDigitsFor_28 : decode kb_Tru_leastDigitsFor 28 = .ok (.iconst 1, 1) := by decide +kernel
theorem dq_Tru_leastDigitsFor_29 : decode kb_Tru_leastDigitsFor 29 = .ok (.goto 4, 3) := by decide +kernel
theorem dq_Tru_leastDigitsFor_32 : decode kb_Tru_leastDigitsFor 32 = .ok (.iconst 0, 1) := by decide +kernel
theorem dq_Tru_leastDigitsFor_33 : decode kb_Tru_leastDigitsFor 33 = .ok (.istore_n 3, 1) := by decide +kernel
theorem dq_Tru_leastDigitsFor_34 : decode kb_Tru_leastDigitsFor 34 = .ok (.iconst 1, 1) := by decide +kernel
theorem dq_Tru_leastDigitsFor_35 : decode kb_Tru_leastDigitsFor 35 = .ok (.istore 4, 2) := by decide +kernel
theorem dq_Tru_leastDigitsFor_37 : decode kb_Tru_leastDigitsFor 37 = .ok (.iload 4, 2) := by decide +kernel
theorem dq_Tru_leastDigitsFor_39 : decode kb_Tru_leastDigitsFor 39 = .ok (.aload_n 0, 1) := by decide +kernel
theorem dq_Tru_leastDigitsFor_40 : decode kb_Tru_leastDigitsFor 40 = .ok (.getfield 12, 3) := by decide +kernel
theorem dq_Tru_leastDigitsFor_43 : decode kb_Tru_leastDigitsFor 43 = .ok (.getfield 69, 3) := by decide +kernel
theorem dq_Tru_leastDigitsFor_46 : decode kb_Tru_leastDigitsFor 46 = .ok (.if_icmp .ge 19, 3) := by decide +kernel
theorem dq_Tru_leastDigitsFor_49 : decode kb_Tru_leastDigitsFor 49 = .ok (.aload_n 0, 1) := by decide +kernel
theorem dq_Tru_leastDigitsFor_50 : decode kb_Tru_leastDigitsFor 50 = .ok (.iload 4, 2) := by decide +kernel
theorem dq_Tru_leastDigitsFor_52 : decode kb_Tru_leastDigitsFor 52 = .ok (.iload_n 3, 1) := by decide +kernel
theorem dq_Tru_leastDigitsFor_53 : decode kb_Tru_leastDigitsFor 53 = .ok (.invokevirtual 151, 3) := by decide +kernel
theorem dq_Tru_leastDigitsFor_56 : decode kb_Tru_leastDigitsFor 56 = .ok (.ifCond .ne 9, 3) := by decide +kernel
theorem dq_Tru_leastDigitsFor_59 : decode kb_Tru_leastDigitsFor 59 = .ok (.iinc 4 1, 3) := by decide +kernel
theorem dq_Tru_leastDigitsFor_62 : decode kb_Tru_leastDigitsFor 62 = .ok (.goto (-25), 3) := by decide +kernel
theorem dq_Tru_leastDigitsFor_65 : decode kb_Tru_leastDigitsFor 65 = .ok (.iload 4, 2) := by decide +kernel
theorem dq_Tru_leastDigitsFor_67 : decode kb_Tru_leastDigitsFor 67 = .ok (.ireturn, 1) := by decide +kernel
theorem dq_Tru_holdsWith_0 : decode kb_Tru_holdsWith 0 = .ok (.aload_n 0, 1) := by decide +kernel
theorem dq_Tru_holdsWith_1 : decode kb_Tru_holdsWith 1 = .ok (.getfield 12, 3) := by decide +kernel
theorem dq_Tru_holdsWith_4 : decode kb_Tru_holdsWith 4 = .ok (.iload_n 1, 1) := by decide +kernel
theorem dq_Tru_holdsWith_5 : decode kb_Tru_holdsWith 5 = .ok (.invokevirtual 155, 3) := by decide +kernel
theorem dq_Tru_holdsWith_8 : decode kb_Tru_holdsWith 8 = .ok (.istore_n 3, 1) := by decide +kernel
theorem dq_Tru_holdsWith_9 : decode kb_Tru_holdsWith 9 = .ok (.aload_n 0, 1) := by decide +kernel
theorem dq_Tru_holdsWith_10 : decode kb_Tru_holdsWith 10 = .ok (.getfield 30, 3) := by decide +kernel
theorem dq_Tru_holdsWith_13 : decode kb_Tru_holdsWith 13 = .ok (.aload_n 0, 1) := by decide +kernel
theorem dq_Tru_holdsWith_14 : decode kb_Tru_holdsWith 14 = .ok (.getfield 12, 3) := by decide +kernel
theorem dq_Tru_holdsWith_17 : decode kb_Tru_holdsWith 17 = .ok (.iload_n 1, 1) := by decide +kernel
theorem dq_Tru_holdsWith_18 : decode kb_Tru_holdsWith 18 = .ok (.invokevirtual 158, 3) := by decide +kernel
theorem dq_Tru_holdsWith_21 : decode kb_Tru_holdsWith 21 = .ok (.aload_n 0, 1) := by decide +kernel
theorem dq_Tru_holdsWith_22 : decode kb_Tru_holdsWith 22 = .ok (.getfield 30, 3) := by decide +kernel
theorem dq_Tru_holdsWith_25 : decode kb_Tru_holdsWith 25 = .ok (.iload_n 3, 1) := by decide +kernel
theorem dq_Tru_holdsWith_26 : decode kb_Tru_holdsWith 26 = .ok (.invokevirtual 162, 3) := by decide +kernel
theorem dq_Tru_holdsWith_29 : decode kb_Tru_holdsWith 29 = .ok (.iload_n 3, 1) := by decide +kernel
theorem dq_Tru_holdsWith_30 : decode kb_Tru_holdsWith 30 = .ok (.ifCond .eq 17, 3) := by decide +kernel
theorem dq_Tru_holdsWith_33 : decode kb_Tru_holdsWith 33 = .ok (.aload_n 0, 1) := by decide +kernel
theorem dq_Tru_holdsWith_34 : decode kb_Tru_holdsWith 34 = .ok (.getfield 36, 3) := by decide +kernel
theorem dq_Tru_holdsWith_37 : decode kb_Tru_holdsWith 37 = .ok (.aload_n 0, 1) := by decide +kernel
theorem dq_Tru_holdsWith_38 : decode kb_Tru_holdsWith 38 = .ok (.getfield 30, 3) := by decide +kernel
theorem dq_Tru_holdsWith_41 : decode kb_Tru_holdsWith 41 = .ok (.invokevirtual 166, 3) := by decide +kernel
theorem dq_Tru_holdsWith_44 : decode kb_Tru_holdsWith 44 = .ok (.goto 14, 3) := by decide +kernel
theorem dq_Tru_holdsWith_47 : decode kb_Tru_holdsWith 47 = .ok (.aload_n 0, 1) := by decide +kernel
theorem dq_Tru_holdsWith_48 : decode kb_Tru_holdsWith 48 = .ok (.getfield 30, 3) := by decide +kernel
theorem dq_Tru_holdsWith_51 : decode kb_Tru_holdsWith 51 = .ok (.aload_n 0, 1) := by decide +kernel
theorem dq_Tru_holdsWith_52 : decode kb_Tru_holdsWith 52 = .ok (.getfield 33, 3) := by decide +kernel
theorem dq_Tru_holdsWith_55 : decode kb_Tru_holdsWith 55 = .ok (.invokevirtual 166, 3) := by decide +kernel
theorem dq_Tru_holdsWith_58 : decode kb_Tru_holdsWith 58 = .ok (.istore 4, 2) := by decide +kernel
theorem dq_Tru_holdsWith_60 : decode kb_Tru_holdsWith 60 = .ok (.iload_n 2, 1) := by decide +kernel
theorem dq_Tru_holdsWith_61 : decode kb_Tru_holdsWith 61 = .ok (.ifCond .eq 16, 3) := by decide +kernel
theorem dq_Tru_holdsWith_64 : decode kb_Tru_holdsWith 64 = .ok (.iload 4, 2) := by decide +kernel
theorem dq_Tru_holdsWith_66 : decode kb_Tru_holdsWith 66 = .ok (.ifCond .lt 7, 3) := by decide +kernel
theorem dq_Tru_holdsWith_69 : decode kb_Tru_holdsWith 69 = .ok (.iconst 1, 1) := by decide +kernel
theorem dq_Tru_holdsWith_70 : decode kb_Tru_holdsWith 70 = .ok (.goto 17, 3) := by decide +kernel
theorem dq_Tru_holdsWith_73 : decode kb_Tru_holdsWith 73 = .ok (.iconst 0, 1) := by decide +kernel
theorem dq_Tru_holdsWith_74 : decode kb_Tru_holdsWith 74 = .ok (.goto 13, 3) := by decide +kernel
theorem dq_Tru_holdsWith_77 : decode kb_Tru_holdsWith 77 = .ok (.iload 4, 2) := by decide +kernel
theorem dq_Tru_holdsWith_79 : decode kb_Tru_holdsWith 79 = .ok (.ifCond .le 7, 3) := by decide +kernel
theorem dq_Tru_holdsWith_82 : decode kb_Tru_holdsWith 82 = .ok (.iconst 1, 1) := by decide +kernel
theorem dq_Tru_holdsWith_83 : decode kb_Tru_holdsWith 83 = .ok (.goto 4, 3) := by decide +kernel
theorem dq_Tru_holdsWith_86 : decode kb_Tru_holdsWith 86 = .ok (.iconst 0, 1) := by decide +kernel
theorem dq_Tru_holdsWith_87 : decode kb_Tru_holdsWith 87 = .ok (.ireturn, 1) := by decide +kernel
theorem dq_Tru_spellMiddleAbove_0 : decode kb_Tru_spellMiddleAbove 0 = .ok (.aload_n 0, 1) := by decide +kernel
theorem dq_Tru_spellMiddleAbove_1 : decode kb_Tru_spellMiddleAbove 1 = .ok (.ldc2_w 170, 3) := by decide +kernel
theorem dq_Tru_spellMiddleAbove_4 : decode kb_Tru_spellMiddleAbove 4 = .ok (.lload_n 1, 1) := by decide +kernel
theorem dq_Tru_spellMiddleAbove_5 : decode kb_Tru_spellMiddleAbove 5 = .ok (.invokestatic 54, 3) := by decide +kernel
theorem dq_Tru_spellMiddleAbove_8 : decode kb_Tru_spellMiddleAbove 8 = .ok (.lmul, 1) := by decide +kernel
theorem dq_Tru_spellMiddleAbove_9 : decode kb_Tru_spellMiddleAbove 9 = .ok (.lconst 1, 1) := by decide +kernel
theorem dq_Tru_spellMiddleAbove_10 : decode kb_Tru_spellMiddleAbove 10 = .ok (.ladd, 1) := by decide +kernel
theorem dq_Tru_spellMiddleAbove_11 : decode kb_Tru_spellMiddleAbove 11 = .ok (.lload_n 1, 1) := by decide +kernel
theorem dq_Tru_spellMiddleAbove_12 : decode kb_Tru_spellMiddleAbove 12 = .ok (.invokestatic 58, 3) := by decide +kernel
theorem dq_Tru_spellMiddleAbove_15 : decode kb_Tru_spellMiddleAbove 15 = .ok (.iconst 1, 1) := by decide +kernel
theorem dq_Tru_spellMiddleAbove_16 : decode kb_Tru_spellMiddleAbove 16 = .ok (.isub, 1) := by decide +kernel
theorem dq_Tru_spellMiddleAbove_17 : decode kb_Tru_spellMiddleAbove 17 = .ok (.aload_n 3, 1) := by decide +kernel
theorem dq_Tru_spellMiddleAbove_18 : decode kb_Tru_spellMiddleAbove 18 = .ok (.invokevirtual 62, 3) := by decide +kernel
theorem dq_Tru_spellMiddleAbove_21 : decode kb_Tru_spellMiddleAbove 21 = .ok (.return_, 1) := by decide +kernel
theorem dq_Tru_spell_0 : decode kb_Tru_spell 0 = .ok (.aload_n 0, 1) := by decide +kernel
theorem dq_Tru_spell_1 : decode kb_Tru_spell 1 = .ok (.getfield 19, 3) := by decide +kernel
theorem dq_Tru_spell_4 : decode kb_Tru_spell 4 = .ok (.lload_n 1, 1) := by decide +kernel
theorem dq_Tru_spell_5 : decode kb_Tru_spell 5 = .ok (.iload_n 3, 1) := by decide +kernel
theorem dq_Tru_spell_6 : decode kb_Tru_spell 6 = .ok (.invokevirtual 172, 3) := by decide +kernel
theorem dq_Tru_spell_9 : decode kb_Tru_spell 9 = .ok (.aload 4, 2) := by decide +kernel
theorem dq_Tru_spell_11 : decode kb_Tru_spell 11 = .ok (.aload_n 0, 1) := by decide +kernel
theorem dq_Tru_spell_12 : decode kb_Tru_spell 12 = .ok (.getfield 19, 3) := by decide +kernel
theorem dq_Tru_spell_15 : decode kb_Tru_spell 15 = .ok (.invokevirtual 176, 3) := by decide +kernel
theorem dq_Tru_spell_18 : decode kb_Tru_spell 18 = .ok (.return_, 1) := by decide +kernel
theorem dq_Tru_factorOf_0 : decode kb_Tru_factorOf 0 = .ok (.lload_n 0, 1) := by decide +kernel
theorem dq_Tru_factorOf_1 : decode kb_Tru_factorOf 1 = .ok (.ldc2_w 179, 3) := by decide +kernel
theorem dq_Tru_factorOf_4 : decode kb_Tru_factorOf 4 = .ok (.land, 1) := by decide +kernel
theorem dq_Tru_factorOf_5 : decode kb_Tru_factorOf 5 = .ok (.lstore_n 2, 1) := by decide +kernel
theorem dq_Tru_factorOf_6 : decode kb_Tru_factorOf 6 = .ok (.lload_n 0, 1) := by decide +kernel
theorem dq_Tru_factorOf_7 : decode kb_Tru_factorOf 7 = .ok (.ldc2_w 179, 3) := by decide +kernel
theorem dq_Tru_factorOf_10 : decode kb_Tru_factorOf 10 = .ok (.lcmp, 1) := by decide +kernel
theorem dq_Tru_factorOf_11 : decode kb_Tru_factorOf 11 = .ok (.ifCond .le 13, 3) := by decide +kernel
theorem dq_Tru_factorOf_14 : decode kb_Tru_factorOf 14 = .ok (.lload_n 2, 1) := by decide +kernel
theorem dq_Tru_factorOf_15 : decode kb_Tru_factorOf 15 = .ok (.ldc2_w 179, 3) := by decide +kernel
theorem dq_Tru_factorOf_18 : decode kb_Tru_factorOf 18 = .ok (.ladd, 1) := by decide +kernel
theorem dq_Tru_factorOf_19 : decode kb_Tru_factorOf 19 = .ok (.lconst 1, 1) := by decide +kernel
theorem dq_Tru_factorOf_20 : decode kb_Tru_factorOf 20 = .ok (.ladd, 1) := by decide +kernel
theorem dq_Tru_factorOf_21 : decode kb_Tru_factorOf 21 = .ok (.goto 4, 3) := by decide +kernel
theorem dq_Tru_factorOf_24 : decode kb_Tru_factorOf 24 = .ok (.lload_n 2, 1) := by decide +kernel
theorem dq_Tru_factorOf_25 : decode kb_Tru_factorOf 25 = .ok (.lreturn, 1) := by decide +kernel
theorem dq_Tru_powerOf_0 : decode kb_Tru_powerOf 0 = .ok (.lload_n 0, 1) := by decide +kernel
theorem dq_Tru_powerOf_1 : decode kb_Tru_powerOf 1 = .ok (.bipush 52, 2) := by decide +kernel
theorem dq_Tru_powerOf_3 : decode kb_Tru_powerOf 3 = .ok (.lushr, 1) := by decide +kernel
theorem dq_Tru_powerOf_4 : decode kb_Tru_powerOf 4 = .ok (.l2i, 1) := by decide +kernel
theorem dq_Tru_powerOf_5 : decode kb_Tru_powerOf 5 = .ok (.istore_n 2, 1) := by decide +kernel
theorem dq_Tru_powerOf_6 : decode kb_Tru_powerOf 6 = .ok (.sipush (-1074), 3) := by decide +kernel
theorem dq_Tru_powerOf_9 : decode kb_Tru_powerOf 9 = .ok (.iload_n 2, 1) := by decide +kernel
theorem dq_Tru_powerOf_10 : decode kb_Tru_powerOf 10 = .ok (.iconst 1, 1) := by decide +kernel
theorem dq_Tru_powerOf_11 : decode kb_Tru_powerOf 11 = .ok (.invokestatic 181, 3) := by decide +kernel
theorem dq_Tru_powerOf_14 : decode kb_Tru_powerOf 14 = .ok (.iadd, 1) := by decide +kernel
theorem dq_Tru_powerOf_15 : decode kb_Tru_powerOf 15 = .ok (.iconst 1, 1) := by decide +kernel
theorem dq_Tru_powerOf_16 : decode kb_Tru_powerOf 16 = .ok (.isub, 1) := by decide +kernel
theorem dq_Tru_powerOf_17 : decode kb_Tru_powerOf 17 = .ok (.ireturn, 1) := by decide +kernel
