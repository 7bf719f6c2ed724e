theorem dq_Law_set_0 : decode kb_Law_set 0 = .ok (.aload_n 3, 1) := by decide +kernel
theorem dq_Law_set_1 : decode kb_Law_set 1 = .ok (.iconst 0, 1) := by decide +kernel
theorem dq_Law_set_2 : decode kb_Law_set 2 = .ok (.aload_n 0, 1) := by decide +kernel
theorem dq_Law_set_3 : decode kb_Law_set 3 = .ok (.lload_n 1, 1) := by decide +kernel
theorem dq_Law_set_4 : decode kb_Law_set 4 = .ok (.invokevirtual 7, 3) := by decide +kernel
theorem dq_Law_set_7 : decode kb_Law_set 7 = .ok (.i2l, 1) := by decide +kernel
theorem dq_Law_set_8 : decode kb_Law_set 8 = .ok (.lastore, 1) := by decide +kernel
theorem dq_Law_set_9 : decode kb_Law_set 9 = .ok (.goto 7, 3) := by decide +kernel
theorem dq_Law_set_12 : decode kb_Law_set 12 = .ok (.astore 4, 2) := by decide +kernel
theorem dq_Law_set_14 : decode kb_Law_set 14 = .ok (.iconst 1, 1) := by decide +kernel
theorem dq_Law_set_15 : decode kb_Law_set 15 = .ok (.ireturn, 1) := by decide +kernel
theorem dq_Law_set_16 : decode kb_Law_set 16 = .ok (.iconst 0, 1) := by decide +kernel
theorem dq_Law_set_17 : decode kb_Law_set 17 = .ok (.ireturn, 1) := by decide +kernel
theorem dq_Law_digit_0 : decode kb_Law_digit 0 = .ok (.aload_n 2, 1) := by decide +kernel
theorem dq_Law_digit_1 : decode kb_Law_digit 1 = .ok (.iconst 0, 1) := by decide +kernel
theorem dq_Law_digit_2 : decode kb_Law_digit 2 = .ok (.aload_n 0, 1) := by decide +kernel
theorem dq_Law_digit_3 : decode kb_Law_digit 3 = .ok (.iload_n 1, 1) := by decide +kernel
theorem dq_Law_digit_4 : decode kb_Law_digit 4 = .ok (.invokevirtual 15, 3) := by decide +kernel
theorem dq_Law_digit_7 : decode kb_Law_digit 7 = .ok (.i2l, 1) := by decide +kernel
theorem dq_Law_digit_8 : decode kb_Law_digit 8 = .ok (.lastore, 1) := by decide +kernel
theorem dq_Law_digit_9 : decode kb_Law_digit 9 = .ok (.goto 9, 3) := by decide +kernel
theorem dq_Law_digit_12 : decode kb_Law_digit 12 = .ok (.astore_n 3, 1) := by decide +kernel
theorem dq_Law_digit_13 : decode kb_Law_digit 13 = .ok (.iconst 1, 1) := by decide +kernel
theorem dq_Law_digit_14 : decode kb_Law_digit 14 = .ok (.ireturn, 1) := by decide +kernel
theorem dq_Law_digit_15 : decode kb_Law_digit 15 = .ok (.astore_n 3, 1) := by decide +kernel
theorem dq_Law_digit_16 : decode kb_Law_digit 16 = .ok (.iconst 2, 1) := by decide +kernel
theorem dq_Law_digit_17 : decode kb_Law_digit 17 = .ok (.ireturn, 1) := by decide +kernel
theorem dq_Law_digit_18 : decode kb_Law_digit 18 = .ok (.iconst 0, 1) := by decide +kernel
theorem dq_Law_digit_19 : decode kb_Law_digit 19 = .ok (.ireturn, 1) := by decide +kernel
theorem dq_Law_clear_0 : decode kb_Law_clear 0 = .ok (.aload_n 0, 1) := by decide +kernel
theorem dq_Law_clear_1 : decode kb_Law_clear 1 = .ok (.iload_n 1, 1) := by decide +kernel
theorem dq_Law_clear_2 : decode kb_Law_clear 2 = .ok (.iload_n 2, 1) := by decide +kernel
theorem dq_Law_clear_3 : decode kb_Law_clear 3 = .ok (.invokevirtual 21, 3) := by decide +kernel
theorem dq_Law_clear_6 : decode kb_Law_clear 6 = .ok (.goto 6, 3) := by decide +kernel
theorem dq_Law_clear_9 : decode kb_Law_clear 9 = .ok (.astore_n 3, 1) := by decide +kernel
theorem dq_Law_clear_10 : decode kb_Law_clear 10 = .ok (.iconst 1, 1) := by decide +kernel
theorem dq_Law_clear_11 : decode kb_Law_clear 11 = .ok (.ireturn, 1) := by decide +kernel
theorem dq_Law_clear_12 : decode kb_Law_clear 12 = .ok (.iconst 0, 1) := by decide +kernel
theorem dq_Law_clear_13 : decode kb_Law_clear 13 = .ok (.ireturn, 1) := by decide +kernel
theorem dq_Law_round_0 : decode kb_Law_round 0 = .ok (.aload_n 2, 1) := by decide +kernel
theorem dq_Law_round_1 : decode kb_Law_round 1 = .ok (.iconst 0, 1) := by decide +kernel
theorem dq_Law_round_2 : decode kb_Law_round 2 = .ok (.aload_n 0, 1) := by decide +kernel
theorem dq_Law_round_3 : decode kb_Law_round 3 = .ok (.iload_n 1, 1) := by decide +kernel
theorem dq_Law_round_4 : decode kb_Law_round 4 = .ok (.invokevirtual 25, 3) := by decide +kernel
theorem dq_Law_round_7 : decode kb_Law_round 7 = .ok (.i2l, 1) := by decide +kernel
theorem dq_Law_round_8 : decode kb_Law_round 8 = .ok (.lastore, 1) := by decide +kernel
theorem dq_Law_round_9 : decode kb_Law_round 9 = .ok (.goto 6, 3) := by decide +kernel
theorem dq_Law_round_12 : decode kb_Law_round 12 = .ok (.astore_n 3, 1) := by decide +kernel
theorem dq_Law_round_13 : decode kb_Law_round 13 = .ok (.iconst 1, 1) := by decide +kernel
theorem dq_Law_round_14 : decode kb_Law_round 14 = .ok (.ireturn, 1) := by decide +kernel
theorem dq_Law_round_15 : decode kb_Law_round 15 = .ok (.iconst 0, 1) := by decide +kernel
theorem dq_Law_round_16 : decode kb_Law_round 16 = .ok (.ireturn, 1) := by decide +kernel
theorem dq_Law_places_0 : decode kb_Law_places 0 = .ok (.aload_n 2, 1) := by decide +kernel
theorem dq_Law_places_1 : decode kb_Law_places 1 = .ok (.iconst 0, 1) := by decide +kernel
theorem dq_Law_places_2 : decode kb_Law_places 2 = .ok (.aload_n 0, 1) := by decide +kernel
theorem dq_Law_places_3 : decode kb_Law_places 3 = .ok (.iload_n 1, 1) := by decide +kernel
theorem dq_Law_places_4 : decode kb_Law_places 4 = .ok (.invokevirtual 28, 3) := by decide +kernel
theorem dq_Law_places_7 : decode kb_Law_places 7 = .ok (.i2l, 1) := by decide +kernel
theorem dq_Law_places_8 : decode kb_Law_places 8 = .ok (.lastore, 1) := by decide +kernel
theorem dq_Law_places_9 : decode kb_Law_places 9 = .ok (.goto 6, 3) := by decide +kernel
theorem dq_Law_places_12 : decode kb_Law_places 12 = .ok (.astore_n 3, 1) := by decide +kernel
theorem dq_Law_places_13 : decode kb_Law_places 13 = .ok (.iconst 1, 1) := by decide +kernel
theorem dq_Law_places_14 : decode kb_Law_places 14 = .ok (.ireturn, 1) := by decide +kernel
theorem dq_Law_places_15 : decode kb_Law_places 15 = .ok (.iconst 0, 1) := by decide +kernel
theorem dq_Law_places_16 : decode kb_Law_places 16 = .ok (.ireturn, 1) := by decide +kernel
theorem dq_Law_nearest_0 : decode kb_Law_nearest 0 = .ok (.aload_n 1, 1) := by decide +kernel
theorem dq_Law_nearest_1 : decode kb_Law_nearest 1 = .ok (.iconst 0, 1) := by decide +kernel
theorem dq_Law_nearest_2 : decode kb_Law_nearest 2 = .ok (.aload_n 0, 1) := by decide +kernel
theorem dq_Law_nearest_3 : decode kb_Law_nearest 3 = .ok (.invokevirtual 31, 3) := by decide +kernel
theorem dq_Law_nearest_6 : decode kb_Law_nearest 6 = .ok (.lastore, 1) := by decide +kernel
theorem dq_Law_nearest_7 : decode kb_Law_nearest 7 = .ok (.goto 6, 3) := by decide +kernel
theorem dq_Law_nearest_10 : decode kb_Law_nearest 10 = .ok (.astore_n 2, 1) := by decide +kernel
theorem dq_Law_nearest_11 : decode kb_Law_nearest 11 = .ok (.iconst 1, 1) := by decide +kernel
theorem dq_Law_nearest_12 : decode kb_Law_nearest 12 = .ok (.ireturn, 1) := by decide +kernel
theorem dq_Law_nearest_13 : decode kb_Law_nearest 13 = .ok (.iconst 0, 1) := by decide +kernel
theorem dq_Law_nearest_14 : decode kb_Law_nearest 14 = .ok (.ireturn, 1) := by decide +kernel
theorem dq_Law_enough_0 : decode kb_Law_enough 0 = .ok (.aload_n 1, 1) := by decide +kernel
theorem dq_Law_enough_1 : decode kb_Law_enough 1 = .ok (.iconst 0, 1) := by decide +kernel
theorem dq_Law_enough_2 : decode kb_Law_enough 2 = .ok (.aload_n 0, 1) := by decide +kernel
theorem dq_Law_enough_3 : decode kb_Law_enough 3 = .ok (.invokevirtual 37, 3) := by decide +kernel
theorem dq_Law_enough_6 : decode kb_Law_enough 6 = .ok (.i2l, 1) := by decide +kernel
theorem dq_Law_enough_7 : decode kb_Law_enough 7 = .ok (.lastore, 1) := by decide +kernel
theorem dq_Law_enough_8 : decode kb_Law_enough 8 = .ok (.goto 6, 3) := by decide +kernel
theorem dq_Law_enough_11 : decode kb_Law_enough 11 = .ok (.astore_n 2, 1) := by decide +kernel
theorem dq_Law_enough_12 : decode kb_Law_enough 12 = .ok (.iconst 1, 1) := by decide +kernel
theorem dq_Law_enough_13 : decode kb_Law_enough 13 = .ok (.ireturn, 1) := by decide +kernel
theorem dq_Law_enough_14 : decode kb_Law_enough 14 = .ok (.iconst 0, 1) := by decide +kernel
theorem dq_Law_enough_15 : decode kb_Law_enough 15 = .ok (.ireturn, 1) := by decide +kernel
theorem dq_Law_look_0 : decode kb_Law_look 0 = .ok (.aload_n 2, 1) := by decide +kernel
theorem dq_Law_look_1 : decode kb_Law_look 1 = .ok (.iconst 0, 1) := by decide +kernel
theorem dq_Law_look_2 : decode kb_Law_look 2 = .ok (.aload_n 0, 1) := by decide +kernel
theorem dq_Law_look_3 : decode kb_Law_look 3 = .ok (.iload_n 1, 1) := by decide +kernel
theorem dq_Law_look_4 : decode kb_Law_look 4 = .ok (.invokevirtual 41, 3) := by decide +kernel
theorem dq_Law_look_7 : decode kb_Law_look 7 = .ok (.i2l, 1) := by decide +kernel
theorem dq_Law_look_8 : decode kb_Law_look 8 = .ok (.lastore, 1) := by decide +kernel
theorem dq_Law_look_9 : decode kb_Law_look 9 = .ok (.goto 6, 3) := by decide +kernel
theorem dq_Law_look_12 : decode kb_Law_look 12 = .ok (.astore_n 3, 1) := by decide +kernel
theorem dq_Law_look_13 : decode kb_Law_look 13 = .ok (.iconst 1, 1) := by decide +kernel
theorem dq_Law_look_14 : decode kb_Law_look 14 = .ok (.ireturn, 1) := by decide +kernel
theorem dq_Law_look_15 : decode kb_Law_look 15 = .ok (.iconst 0, 1) := by decide +kernel
theorem dq_Law_look_16 : decode kb_Law_look 16 = .ok (.ireturn, 1) := by decide +kernel
theorem dq_Law_count_0 : decode kb_Law_count 0 = .ok (.aload_n 2, 1) := by decide +kernel
theorem dq_Law_count_1 : decode kb_Law_count 1 = .ok (.iconst 0, 1) := by decide +kernel
theorem dq_Law_count_2 : decode kb_Law_count 2 = .ok (.aload_n 0, 1) := by decide +kernel
theorem dq_Law_count_3 : decode kb_Law_count 3 = .ok (.iload_n 1, 1) := by decide +kernel
theorem dq_Law_count_4 : decode kb_Law_count 4 = .ok (.invokevirtual 44, 3) := by decide +kernel
theorem dq_Law_count_7 : decode kb_Law_count 7 = .ok (.i2l, 1) := by decide +kernel
theorem dq_Law_count_8 : decode kb_Law_count 8 = .ok (.lastore, 1) := by decide +kernel
theorem dq_Law_count_9 : decode kb_Law_count 9 = .ok (.goto 6, 3) := by decide +kernel
theorem dq_Law_count_12 : decode kb_Law_count 12 = .ok (.astore_n 3, 1) := by decide +kernel
theorem dq_Law_count_13 : decode kb_Law_count 13 = .ok (.iconst 1, 1) := by decide +kernel
theorem dq_Law_count_14 : decode kb_Law_count 14 = .ok (.ireturn, 1) := by decide +kernel
theorem dq_Law_count_15 : decode kb_Law_count 15 = .ok (.iconst 0, 1) := by decide +kernel
theorem dq_Law_count_16 : decode kb_Law_count 16 = .ok (.ireturn, 1) := by decide +kernel
