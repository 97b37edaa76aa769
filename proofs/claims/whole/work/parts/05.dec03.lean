theorem d_X_black_47 : decode b_X_black 47 = .ok (.invokevirtual 59, 3) := by decide +kernel
theorem d_X_black_50 : decode b_X_black 50 = .ok (.iconst 1, 1) := by decide +kernel
theorem d_X_black_51 : decode b_X_black 51 = .ok (.ireturn, 1) := by decide +kernel
theorem d_X_isLetter_0 : decode b_X_isLetter 0 = .ok (.iload_n 0, 1) := by decide +kernel
theorem d_X_isLetter_1 : decode b_X_isLetter 1 = .ok (.bipush 97, 2) := by decide +kernel
theorem d_X_isLetter_3 : decode b_X_isLetter 3 = .ok (.if_icmp .lt 13, 3) := by decide +kernel
theorem d_X_isLetter_6 : decode b_X_isLetter 6 = .ok (.iload_n 0, 1) := by decide +kernel
theorem d_X_isLetter_7 : decode b_X_isLetter 7 = .ok (.bipush 122, 2) := by decide +kernel
theorem d_X_isLetter_9 : decode b_X_isLetter 9 = .ok (.if_icmp .gt 7, 3) := by decide +kernel
theorem d_X_isLetter_12 : decode b_X_isLetter 12 = .ok (.iconst 1, 1) := by decide +kernel
theorem d_X_isLetter_13 : decode b_X_isLetter 13 = .ok (.goto 4, 3) := by decide +kernel
theorem d_X_isLetter_16 : decode b_X_isLetter 16 = .ok (.iconst 0, 1) := by decide +kernel
theorem d_X_isLetter_17 : decode b_X_isLetter 17 = .ok (.ireturn, 1) := by decide +kernel
theorem d_X_unit_0 : decode b_X_unit 0 = .ok (.iload_n 1, 1) := by decide +kernel
theorem d_X_unit_1 : decode b_X_unit 1 = .ok (.invokestatic 62, 3) := by decide +kernel
theorem d_X_unit_4 : decode b_X_unit 4 = .ok (.ifCond .eq 18, 3) := by decide +kernel
theorem d_X_unit_7 : decode b_X_unit 7 = .ok (.aload_n 0, 1) := by decide +kernel
theorem d_X_unit_8 : decode b_X_unit 8 = .ok (.getfield 25, 3) := by decide +kernel
theorem d_X_unit_11 : decode b_X_unit 11 = .ok (.iload_n 1, 1) := by decide +kernel
theorem d_X_unit_12 : decode b_X_unit 12 = .ok (.invokevirtual 66, 3) := by decide +kernel
theorem d_X_unit_15 : decode b_X_unit 15 = .ok (.ifCond .eq 7, 3) := by decide +kernel
theorem d_X_unit_18 : decode b_X_unit 18 = .ok (.iconst 1, 1) := by decide +kernel
theorem d_X_unit_19 : decode b_X_unit 19 = .ok (.goto 4, 3) := by decide +kernel
theorem d_X_unit_22 : decode b_X_unit 22 = .ok (.iconst 0, 1) := by decide +kernel
theorem d_X_unit_23 : decode b_X_unit 23 = .ok (.ireturn, 1) := by decide +kernel
theorem d_X_word_0 : decode b_X_word 0 = .ok (.aload_n 0, 1) := by decide +kernel
theorem d_X_word_1 : decode b_X_word 1 = .ok (.getfield 25, 3) := by decide +kernel
theorem d_X_word_4 : decode b_X_word 4 = .ok (.iload_n 1, 1) := by decide +kernel
theorem d_X_word_5 : decode b_X_word 5 = .ok (.invokevirtual 69, 3) := by decide +kernel
theorem d_X_word_8 : decode b_X_word 8 = .ok (.istore_n 2, 1) := by decide +kernel
theorem d_X_word_9 : decode b_X_word 9 = .ok (.aload_n 0, 1) := by decide +kernel
theorem d_X_word_10 : decode b_X_word 10 = .ok (.getfield 25, 3) := by decide +kernel
theorem d_X_word_13 : decode b_X_word 13 = .ok (.invokevirtual 72, 3) := by decide +kernel
theorem d_X_word_16 : decode b_X_word 16 = .ok (.iload_n 2, 1) := by decide +kernel
theorem d_X_word_17 : decode b_X_word 17 = .ok (.ireturn, 1) := by decide +kernel
theorem d_X_given_0 : decode b_X_given 0 = .ok (.aload_n 0, 1) := by decide +kernel
theorem d_X_given_1 : decode b_X_given 1 = .ok (.getfield 18, 3) := by decide +kernel
theorem d_X_given_4 : decode b_X_given 4 = .ok (.iload_n 1, 1) := by decide +kernel
theorem d_X_given_5 : decode b_X_given 5 = .ok (.iload_n 2, 1) := by decide +kernel
theorem d_X_given_6 : decode b_X_given 6 = .ok (.invokevirtual 47, 3) := by decide +kernel
theorem d_X_given_9 : decode b_X_given 9 = .ok (.istore 4, 2) := by decide +kernel
theorem d_X_given_11 : decode b_X_given 11 = .ok (.iload 4, 2) := by decide +kernel
theorem d_X_given_13 : decode b_X_given 13 = .ok (.iconst (-1), 1) := by decide +kernel
theorem d_X_given_14 : decode b_X_given 14 = .ok (.if_icmp .eq 27, 3) := by decide +kernel
theorem d_X_given_17 : decode b_X_given 17 = .ok (.aload_n 0, 1) := by decide +kernel
theorem d_X_given_18 : decode b_X_given 18 = .ok (.getfield 18, 3) := by decide +kernel
theorem d_X_given_21 : decode b_X_given 21 = .ok (.getfield 51, 3) := by decide +kernel
theorem d_X_given_24 : decode b_X_given 24 = .ok (.iload 4, 2) := by decide +kernel
theorem d_X_given_26 : decode b_X_given 26 = .ok (.baload, 1) := by decide +kernel
theorem d_X_given_27 : decode b_X_given 27 = .ok (.ifCond .ne 14, 3) := by decide +kernel
theorem d_X_given_30 : decode b_X_given 30 = .ok (.iload_n 3, 1) := by decide +kernel
theorem d_X_given_31 : decode b_X_given 31 = .ok (.ifCond .eq 12, 3) := by decide +kernel
theorem d_X_given_34 : decode b_X_given 34 = .ok (.iload_n 3, 1) := by decide +kernel
theorem d_X_given_35 : decode b_X_given 35 = .ok (.invokestatic 62, 3) := by decide +kernel
theorem d_X_given_38 : decode b_X_given 38 = .ok (.ifCond .ne 5, 3) := by decide +kernel
theorem d_X_given_41 : decode b_X_given 41 = .ok (.iconst 0, 1) := by decide +kernel
theorem d_X_given_42 : decode b_X_given 42 = .ok (.ireturn, 1) := by decide +kernel
theorem d_X_given_43 : decode b_X_given 43 = .ok (.aload_n 0, 1) := by decide +kernel
theorem d_X_given_44 : decode b_X_given 44 = .ok (.getfield 18, 3) := by decide +kernel
theorem d_X_given_47 : decode b_X_given 47 = .ok (.getfield 75, 3) := by decide +kernel
theorem d_X_given_50 : decode b_X_given 50 = .ok (.iload 4, 2) := by decide +kernel
theorem d_X_given_52 : decode b_X_given 52 = .ok (.iload_n 3, 1) := by decide +kernel
theorem d_X_given_53 : decode b_X_given 53 = .ok (.iastore, 1) := by decide +kernel
theorem d_X_given_54 : decode b_X_given 54 = .ok (.iconst 1, 1) := by decide +kernel
theorem d_X_given_55 : decode b_X_given 55 = .ok (.ireturn, 1) := by decide +kernel
theorem d_X_theme_0 : decode b_X_theme 0 = .ok (.aload_n 0, 1) := by decide +kernel
theorem d_X_theme_1 : decode b_X_theme 1 = .ok (.getfield 18, 3) := by decide +kernel
theorem d_X_theme_4 : decode b_X_theme 4 = .ok (.iload_n 1, 1) := by decide +kernel
theorem d_X_theme_5 : decode b_X_theme 5 = .ok (.invokevirtual 79, 3) := by decide +kernel
theorem d_X_theme_8 : decode b_X_theme 8 = .ok (.ifCond .ne 5, 3) := by decide +kernel
theorem d_X_theme_11 : decode b_X_theme 11 = .ok (.iconst 0, 1) := by decide +kernel
theorem d_X_theme_12 : decode b_X_theme 12 = .ok (.ireturn, 1) := by decide +kernel
theorem d_X_theme_13 : decode b_X_theme 13 = .ok (.iload_n 2, 1) := by decide +kernel
theorem d_X_theme_14 : decode b_X_theme 14 = .ok (.iconst (-1), 1) := by decide +kernel
theorem d_X_theme_15 : decode b_X_theme 15 = .ok (.if_icmp .eq 37, 3) := by decide +kernel
theorem d_X_theme_18 : decode b_X_theme 18 = .ok (.aload_n 0, 1) := by decide +kernel
theorem d_X_theme_19 : decode b_X_theme 19 = .ok (.getfield 25, 3) := by decide +kernel
theorem d_X_theme_22 : decode b_X_theme 22 = .ok (.iload_n 2, 1) := by decide +kernel
theorem d_X_theme_23 : decode b_X_theme 23 = .ok (.invokevirtual 82, 3) := by decide +kernel
theorem d_X_theme_26 : decode b_X_theme 26 = .ok (.ifCond .eq 24, 3) := by decide +kernel
theorem d_X_theme_29 : decode b_X_theme 29 = .ok (.aload_n 0, 1) := by decide +kernel
theorem d_X_theme_30 : decode b_X_theme 30 = .ok (.getfield 25, 3) := by decide +kernel
theorem d_X_theme_33 : decode b_X_theme 33 = .ok (.getfield 85, 3) := by decide +kernel
theorem d_X_theme_36 : decode b_X_theme 36 = .ok (.iload_n 2, 1) := by decide +kernel
theorem d_X_theme_37 : decode b_X_theme 37 = .ok (.iaload, 1) := by decide +kernel
theorem d_X_theme_38 : decode b_X_theme 38 = .ok (.aload_n 0, 1) := by decide +kernel
theorem d_X_theme_39 : decode b_X_theme 39 = .ok (.getfield 18, 3) := by decide +kernel
theorem d_X_theme_42 : decode b_X_theme 42 = .ok (.getfield 88, 3) := by decide +kernel
theorem d_X_theme_45 : decode b_X_theme 45 = .ok (.iload_n 1, 1) := by decide +kernel
theorem d_X_theme_46 : decode b_X_theme 46 = .ok (.iaload, 1) := by decide +kernel
theorem d_X_theme_47 : decode b_X_theme 47 = .ok (.if_icmp .eq 5, 3) := by decide +kernel
theorem d_X_theme_50 : decode b_X_theme 50 = .ok (.iconst 0, 1) := by decide +kernel
theorem d_X_theme_51 : decode b_X_theme 51 = .ok (.ireturn, 1) := by decide +kernel
theorem d_X_theme_52 : decode b_X_theme 52 = .ok (.aload_n 0, 1) := by decide +kernel
theorem d_X_theme_53 : decode b_X_theme 53 = .ok (.getfield 18, 3) := by decide +kernel
theorem d_X_theme_56 : decode b_X_theme 56 = .ok (.getfield 89, 3) := by decide +kernel
theorem d_X_theme_59 : decode b_X_theme 59 = .ok (.iload_n 1, 1) := by decide +kernel
theorem d_X_theme_60 : decode b_X_theme 60 = .ok (.iload_n 2, 1) := by decide +kernel
theorem d_X_theme_61 : decode b_X_theme 61 = .ok (.iastore, 1) := by decide +kernel
theorem d_X_theme_62 : decode b_X_theme 62 = .ok (.iconst 1, 1) := by decide +kernel
theorem d_X_theme_63 : decode b_X_theme 63 = .ok (.ireturn, 1) := by decide +kernel
theorem d_X_slots_0 : decode b_X_slots 0 = .ok (.aload_n 0, 1) := by decide +kernel
theorem d_X_slots_1 : decode b_X_slots 1 = .ok (.getfield 18, 3) := by decide +kernel
theorem d_X_slots_4 : decode b_X_slots 4 = .ok (.getfield 92, 3) := by decide +kernel
theorem d_X_slots_7 : decode b_X_slots 7 = .ok (.ireturn, 1) := by decide +kernel
theorem d_X_slot_0 : decode b_X_slot 0 = .ok (.aload_n 0, 1) := by decide +kernel
theorem d_X_slot_1 : decode b_X_slot 1 = .ok (.getfield 18, 3) := by decide +kernel
theorem d_X_slot_4 : decode b_X_slot 4 = .ok (.iload_n 1, 1) := by decide +kernel
theorem d_X_slot_5 : decode b_X_slot 5 = .ok (.invokevirtual 79, 3) := by decide +kernel
theorem d_X_slot_8 : decode b_X_slot 8 = .ok (.ifCond .ne 5, 3) := by decide +kernel
theorem d_X_slot_11 : decode b_X_slot 11 = .ok (.iconst (-1), 1) := by decide +kernel
theorem d_X_slot_12 : decode b_X_slot 12 = .ok (.ireturn, 1) := by decide +kernel
theorem d_X_slot_13 : decode b_X_slot 13 = .ok (.iload_n 2, 1) := by decide +kernel
theorem d_X_slot_14 : decode b_X_slot 14 = .ok (.tableswitch 96 0 5 #[38, 48, 58, 68, 78, 87], 38) := by decide +kernel
theorem d_X_slot_52 : decode b_X_slot 52 = .ok (.aload_n 0, 1) := by decide +kernel
theorem d_X_slot_53 : decode b_X_slot 53 = .ok (.getfield 18, 3) := by decide +kernel
theorem d_X_slot_56 : decode b_X_slot 56 = .ok (.getfield 96, 3) := by decide +kernel
theorem d_X_slot_59 : decode b_X_slot 59 = .ok (.iload_n 1, 1) := by decide +kernel
theorem d_X_slot_60 : decode b_X_slot 60 = .ok (.iaload, 1) := by decide +kernel
theorem d_X_slot_61 : decode b_X_slot 61 = .ok (.ireturn, 1) := by decide +kernel
theorem d_X_slot_62 : decode b_X_slot 62 = .ok (.aload_n 0, 1) := by decide +kernel
theorem d_X_slot_63 : decode b_X_slot 63 = .ok (.getfield 18, 3) := by decide +kernel
theorem d_X_slot_66 : decode b_X_slot 66 = .ok (.getfield 88, 3) := by decide +kernel
theorem d_X_slot_69 : decode b_X_slot 69 = .ok (.iload_n 1, 1) := by decide +kernel
theorem d_X_slot_70 : decode b_X_slot 70 = .ok (.iaload, 1) := by decide +kernel
theorem d_X_slot_71 : decode b_X_slot 71 = .ok (.ireturn, 1) := by decide +kernel
theorem d_X_slot_72 : decode b_X_slot 72 = .ok (.aload_n 0, 1) := by decide +kernel
theorem d_X_slot_73 : decode b_X_slot 73 = .ok (.getfield 18, 3) := by decide +kernel
theorem d_X_slot_76 : decode b_X_slot 76 = .ok (.getfield 99, 3) := by decide +kernel
theorem d_X_slot_79 : decode b_X_slot 79 = .ok (.iload_n 1, 1) := by decide +kernel
theorem d_X_slot_80 : decode b_X_slot 80 = .ok (.iaload, 1) := by decide +kernel
theorem d_X_slot_81 : decode b_X_slot 81 = .ok (.ireturn, 1) := by decide +kernel
theorem d_X_slot_82 : decode b_X_slot 82 = .ok (.aload_n 0, 1) := by decide +kernel
theorem d_X_slot_83 : decode b_X_slot 83 = .ok (.getfield 18, 3) := by decide +kernel
theorem d_X_slot_86 : decode b_X_slot 86 = .ok (.getfield 89, 3) := by decide +kernel
theorem d_X_slot_89 : decode b_X_slot 89 = .ok (.iload_n 1, 1) := by decide +kernel
theorem d_X_slot_90 : decode b_X_slot 90 = .ok (.iaload, 1) := by decide +kernel
theorem d_X_slot_91 : decode b_X_slot 91 = .ok (.ireturn, 1) := by decide +kernel
theorem d_X_slot_92 : decode b_X_slot 92 = .ok (.aload_n 0, 1) := by decide +kernel
theorem d_X_slot_93 : decode b_X_slot 93 = .ok (.getfield 43, 3) := by decide +kernel
theorem d_X_slot_96 : decode b_X_slot 96 = .ok (.iload_n 1, 1) := by decide +kernel
theorem d_X_slot_97 : decode b_X_slot 97 = .ok (.invokevirtual 102, 3) := by decide +kernel
theorem d_X_slot_100 : decode b_X_slot 100 = .ok (.ireturn, 1) := by decide +kernel
theorem d_X_slot_101 : decode b_X_slot 101 = .ok (.aload_n 0, 1) := by decide +kernel
theorem d_X_slot_102 : decode b_X_slot 102 = .ok (.getfield 34, 3) := by decide +kernel
theorem d_X_slot_105 : decode b_X_slot 105 = .ok (.iload_n 1, 1) := by decide +kernel
theorem d_X_slot_106 : decode b_X_slot 106 = .ok (.invokevirtual 105, 3) := by decide +kernel
theorem d_X_slot_109 : decode b_X_slot 109 = .ok (.ireturn, 1) := by decide +kernel
theorem d_X_slot_110 : decode b_X_slot 110 = .ok (.iconst (-1), 1) := by decide +kernel
theorem d_X_slot_111 : decode b_X_slot 111 = .ok (.ireturn, 1) := by decide +kernel
theorem d_X_steps_0 : decode b_X_steps 0 = .ok (.aload_n 0, 1) := by decide +kernel
theorem d_X_steps_1 : decode b_X_steps 1 = .ok (.getfield 43, 3) := by decide +kernel
theorem d_X_steps_4 : decode b_X_steps 4 = .ok (.getfield 115, 3) := by decide +kernel
theorem d_X_steps_7 : decode b_X_steps 7 = .ok (.ireturn, 1) := by decide +kernel
theorem d_X_many_0 : decode b_X_many 0 = .ok (.aload_n 0, 1) := by decide +kernel
theorem d_X_many_1 : decode b_X_many 1 = .ok (.getfield 43, 3) := by decide +kernel
theorem d_X_many_4 : decode b_X_many 4 = .ok (.getfield 118, 3) := by decide +kernel
theorem d_X_many_7 : decode b_X_many 7 = .ok (.ireturn, 1) := by decide +kernel
theorem d_X_score_0 : decode b_X_score 0 = .ok (.aload_n 0, 1) := by decide +kernel
theorem d_X_score_1 : decode b_X_score 1 = .ok (.getfield 34, 3) := by decide +kernel
theorem d_X_score_4 : decode b_X_score 4 = .ok (.getfield 121, 3) := by decide +kernel
theorem d_X_score_7 : decode b_X_score 7 = .ok (.ireturn, 1) := by decide +kernel
theorem d_X_letter_0 : decode b_X_letter 0 = .ok (.aload_n 0, 1) := by decide +kernel
theorem d_X_letter_1 : decode b_X_letter 1 = .ok (.getfield 18, 3) := by decide +kernel
theorem d_X_letter_4 : decode b_X_letter 4 = .ok (.iload_n 1, 1) := by decide +kernel
theorem d_X_letter_5 : decode b_X_letter 5 = .ok (.iload_n 2, 1) := by decide +kernel
theorem d_X_letter_6 : decode b_X_letter 6 = .ok (.invokevirtual 47, 3) := by decide +kernel
theorem d_X_letter_9 : decode b_X_letter 9 = .ok (.istore_n 3, 1) := by decide +kernel
theorem d_X_letter_10 : decode b_X_letter 10 = .ok (.iload_n 3, 1) := by decide +kernel
theorem d_X_letter_11 : decode b_X_letter 11 = .ok (.iconst (-1), 1) := by decide +kernel
theorem d_X_letter_12 : decode b_X_letter 12 = .ok (.if_icmp .ne 7, 3) := by decide +kernel
theorem d_X_letter_15 : decode b_X_letter 15 = .ok (.iconst (-1), 1) := by decide +kernel
theorem d_X_letter_16 : decode b_X_letter 16 = .ok (.goto 11, 3) := by decide +kernel
theorem d_X_letter_19 : decode b_X_letter 19 = .ok (.aload_n 0, 1) := by decide +kernel
theorem d_X_letter_20 : decode b_X_letter 20 = .ok (.getfield 34, 3) := by decide +kernel
theorem d_X_letter_23 : decode b_X_letter 23 = .ok (.iload_n 3, 1) := by decide +kernel
theorem d_X_letter_24 : decode b_X_letter 24 = .ok (.invokevirtual 124, 3) := by decide +kernel
theorem d_X_letter_27 : decode b_X_letter 27 = .ok (.ireturn, 1) := by decide +kernel
theorem d_X_check_0 : decode b_X_check 0 = .ok (.aload_n 0, 1) := by decide +kernel
theorem d_X_check_1 : decode b_X_check 1 = .ok (.getfield 34, 3) := by decide +kernel
theorem d_X_check_4 : decode b_X_check 4 = .ok (.invokevirtual 127, 3) := by decide +kernel
theorem d_X_check_7 : decode b_X_check 7 = .ok (.ireturn, 1) := by decide +kernel
theorem d_X_alike_0 : decode b_X_alike 0 = .ok (.iload_n 1, 1) := by decide +kernel
theorem d_X_alike_1 : decode b_X_alike 1 = .ok (.ifCond .lt 30, 3) := by decide +kernel
theorem d_X_alike_4 : decode b_X_alike 4 = .ok (.iload_n 1, 1) := by decide +kernel
theorem d_X_alike_5 : decode b_X_alike 5 = .ok (.iconst 3, 1) := by decide +kernel
theorem d_X_alike_6 : decode b_X_alike 6 = .ok (.if_icmp .gt 25, 3) := by decide +kernel
theorem d_X_alike_9 : decode b_X_alike 9 = .ok (.iload_n 1, 1) := by decide +kernel
theorem d_X_alike_10 : decode b_X_alike 10 = .ok (.iconst 3, 1) := by decide +kernel
theorem d_X_alike_11 : decode b_X_alike 11 = .ok (.if_icmp .ne 22, 3) := by decide +kernel
theorem d_X_alike_14 : decode b_X_alike 14 = .ok (.aload_n 0, 1) := by decide +kernel
theorem d_X_alike_15 : decode b_X_alike 15 = .ok (.getfield 18, 3) := by decide +kernel
theorem d_X_alike_18 : decode b_X_alike 18 = .ok (.getfield 131, 3) := by decide +kernel
theorem d_X_alike_21 : decode b_X_alike 21 = .ok (.aload_n 0, 1) := by decide +kernel
theorem d_X_alike_22 : decode b_X_alike 22 = .ok (.getfield 18, 3) := by decide +kernel
theorem d_X_alike_25 : decode b_X_alike 25 = .ok (.getfield 134, 3) := by decide +kernel
theorem d_X_alike_28 : decode b_X_alike 28 = .ok (.if_icmp .eq 5, 3) := by decide +kernel
theorem d_X_alike_31 : decode b_X_alike 31 = .ok (.iconst 0, 1) := by decide +kernel
theorem d_X_alike_32 : decode b_X_alike 32 = .ok (.ireturn, 1) := by decide +kernel
theorem d_X_alike_33 : decode b_X_alike 33 = .ok (.aload_n 0, 1) := by decide +kernel
theorem d_X_alike_34 : decode b_X_alike 34 = .ok (.getfield 18, 3) := by decide +kernel
theorem d_X_alike_37 : decode b_X_alike 37 = .ok (.iload_n 1, 1) := by decide +kernel
theorem d_X_alike_38 : decode b_X_alike 38 = .ok (.invokevirtual 137, 3) := by decide +kernel
theorem d_X_alike_41 : decode b_X_alike 41 = .ok (.ireturn, 1) := by decide +kernel
theorem d_X_parts_0 : decode b_X_parts 0 = .ok (.aload_n 0, 1) := by decide +kernel
theorem d_X_parts_1 : decode b_X_parts 1 = .ok (.getfield 18, 3) := by decide +kernel
theorem d_X_parts_4 : decode b_X_parts 4 = .ok (.invokevirtual 140, 3) := by decide +kernel
theorem d_X_parts_7 : decode b_X_parts 7 = .ok (.ireturn, 1) := by decide +kernel
theorem d_X_isStepLimit_0 : decode b_X_isStepLimit 0 = .ok (.iload_n 0, 1) := by decide +kernel
theorem d_X_isStepLimit_1 : decode b_X_isStepLimit 1 = .ok (.ifCond .lt 14, 3) := by decide +kernel
theorem d_X_isStepLimit_4 : decode b_X_isStepLimit 4 = .ok (.iload_n 0, 1) := by decide +kernel
theorem d_X_isStepLimit_5 : decode b_X_isStepLimit 5 = .ok (.sipush 20000, 3) := by decide +kernel
theorem d_X_isStepLimit_8 : decode b_X_isStepLimit 8 = .ok (.if_icmp .gt 7, 3) := by decide +kernel
theorem d_X_isStepLimit_11 : decode b_X_isStepLimit 11 = .ok (.iconst 1, 1) := by decide +kernel
theorem d_X_isStepLimit_12 : decode b_X_isStepLimit 12 = .ok (.goto 4, 3) := by decide +kernel
theorem d_X_isStepLimit_15 : decode b_X_isStepLimit 15 = .ok (.iconst 0, 1) := by decide +kernel
theorem d_X_isStepLimit_16 : decode b_X_isStepLimit 16 = .ok (.ireturn, 1) := by decide +kernel
theorem d_S_fillFrom_0 : decode b_S_fillFrom 0 = .ok (.iload_n 1, 1) := by decide +kernel
theorem d_S_fillFrom_1 : decode b_S_fillFrom 1 = .ok (.aload_n 0, 1) := by decide +kernel
theorem d_S_fillFrom_2 : decode b_S_fillFrom 2 = .ok (.getfield 22, 3) := by decide +kernel
theorem d_S_fillFrom_5 : decode b_S_fillFrom 5 = .ok (.getfield 83, 3) := by decide +kernel
theorem d_S_fillFrom_8 : decode b_S_fillFrom 8 = .ok (.if_icmp .lt 8, 3) := by decide +kernel
theorem d_S_fillFrom_11 : decode b_S_fillFrom 11 = .ok (.aload_n 0, 1) := by decide +kernel
theorem d_S_fillFrom_12 : decode b_S_fillFrom 12 = .ok (.invokevirtual 132, 3) := by decide +kernel
theorem d_S_fillFrom_15 : decode b_S_fillFrom 15 = .ok (.ireturn, 1) := by decide +kernel
theorem d_S_fillFrom_16 : decode b_S_fillFrom 16 = .ok (.aload_n 0, 1) := by decide +kernel
theorem d_S_fillFrom_17 : decode b_S_fillFrom 17 = .ok (.iload_n 1, 1) := by decide +kernel
theorem d_S_fillFrom_18 : decode b_S_fillFrom 18 = .ok (.invokevirtual 136, 3) := by decide +kernel
theorem d_S_fillFrom_21 : decode b_S_fillFrom 21 = .ok (.istore_n 2, 1) := by decide +kernel
theorem d_S_fillFrom_22 : decode b_S_fillFrom 22 = .ok (.iload_n 2, 1) := by decide +kernel
theorem d_S_fillFrom_23 : decode b_S_fillFrom 23 = .ok (.iconst (-1), 1) := by decide +kernel
theorem d_S_fillFrom_24 : decode b_S_fillFrom 24 = .ok (.if_icmp .ne 5, 3) := by decide +kernel
theorem d_S_fillFrom_27 : decode b_S_fillFrom 27 = .ok (.iconst 1, 1) := by decide +kernel
theorem d_S_fillFrom_28 : decode b_S_fillFrom 28 = .ok (.ireturn, 1) := by decide +kernel
theorem d_S_fillFrom_29 : decode b_S_fillFrom 29 = .ok (.iload_n 1, 1) := by decide +kernel
theorem d_S_fillFrom_30 : decode b_S_fillFrom 30 = .ok (.bipush 24, 2) := by decide +kernel
theorem d_S_fillFrom_32 : decode b_S_fillFrom 32 = .ok (.imul, 1) := by decide +kernel
theorem d_S_fillFrom_33 : decode b_S_fillFrom 33 = .ok (.iload_n 2, 1) := by decide +kernel
theorem d_S_fillFrom_34 : decode b_S_fillFrom 34 = .ok (.iadd, 1) := by decide +kernel
theorem d_S_fillFrom_35 : decode b_S_fillFrom 35 = .ok (.istore_n 3, 1) := by decide +kernel
theorem d_S_fillFrom_36 : decode b_S_fillFrom 36 = .ok (.aload_n 0, 1) := by decide +kernel
theorem d_S_fillFrom_37 : decode b_S_fillFrom 37 = .ok (.getfield 9, 3) := by decide +kernel
theorem d_S_fillFrom_40 : decode b_S_fillFrom 40 = .ok (.iload_n 3, 1) := by decide +kernel
theorem d_S_fillFrom_41 : decode b_S_fillFrom 41 = .ok (.laload, 1) := by decide +kernel
theorem d_S_fillFrom_42 : decode b_S_fillFrom 42 = .ok (.aload_n 0, 1) := by decide +kernel
theorem d_S_fillFrom_43 : decode b_S_fillFrom 43 = .ok (.getfield 76, 3) := by decide +kernel
theorem d_S_fillFrom_46 : decode b_S_fillFrom 46 = .ok (.ldc2_w 140, 3) := by decide +kernel
theorem d_S_fillFrom_49 : decode b_S_fillFrom 49 = .ok (.lxor, 1) := by decide +kernel
theorem d_S_fillFrom_50 : decode b_S_fillFrom 50 = .ok (.land, 1) := by decide +kernel
theorem d_S_fillFrom_51 : decode b_S_fillFrom 51 = .ok (.lstore 4, 2) := by decide +kernel
theorem d_S_fillFrom_53 : decode b_S_fillFrom 53 = .ok (.aload_n 0, 1) := by decide +kernel
theorem d_S_fillFrom_54 : decode b_S_fillFrom 54 = .ok (.getfield 15, 3) := by decide +kernel
theorem d_S_fillFrom_57 : decode b_S_fillFrom 57 = .ok (.iload_n 3, 1) := by decide +kernel
theorem d_S_fillFrom_58 : decode b_S_fillFrom 58 = .ok (.laload, 1) := by decide +kernel
theorem d_S_fillFrom_59 : decode b_S_fillFrom 59 = .ok (.aload_n 0, 1) := by decide +kernel
theorem d_S_fillFrom_60 : decode b_S_fillFrom 60 = .ok (.getfield 80, 3) := by decide +kernel
theorem d_S_fillFrom_63 : decode b_S_fillFrom 63 = .ok (.ldc2_w 140, 3) := by decide +kernel
theorem d_S_fillFrom_66 : decode b_S_fillFrom 66 = .ok (.lxor, 1) := by decide +kernel
theorem d_S_fillFrom_67 : decode b_S_fillFrom 67 = .ok (.land, 1) := by decide +kernel
theorem d_S_fillFrom_68 : decode b_S_fillFrom 68 = .ok (.lstore 6, 2) := by decide +kernel
theorem d_S_fillFrom_70 : decode b_S_fillFrom 70 = .ok (.iconst 1, 1) := by decide +kernel
theorem d_S_fillFrom_71 : decode b_S_fillFrom 71 = .ok (.istore 8, 2) := by decide +kernel
theorem d_S_fillFrom_73 : decode b_S_fillFrom 73 = .ok (.lload 4, 2) := by decide +kernel
theorem d_S_fillFrom_75 : decode b_S_fillFrom 75 = .ok (.invokestatic 70, 3) := by decide +kernel
theorem d_S_fillFrom_78 : decode b_S_fillFrom 78 = .ok (.lload 6, 2) := by decide +kernel
theorem d_S_fillFrom_80 : decode b_S_fillFrom 80 = .ok (.invokestatic 70, 3) := by decide +kernel
theorem d_S_fillFrom_83 : decode b_S_fillFrom 83 = .ok (.iadd, 1) := by decide +kernel
theorem d_S_fillFrom_84 : decode b_S_fillFrom 84 = .ok (.istore 9, 2) := by decide +kernel
theorem d_S_fillFrom_86 : decode b_S_fillFrom 86 = .ok (.iload 9, 2) := by decide +kernel
theorem d_S_fillFrom_88 : decode b_S_fillFrom 88 = .ok (.ifCond .le 71, 3) := by decide +kernel
theorem d_S_fillFrom_91 : decode b_S_fillFrom 91 = .ok (.iload 8, 2) := by decide +kernel
theorem d_S_fillFrom_93 : decode b_S_fillFrom 93 = .ok (.ifCond .eq 66, 3) := by decide +kernel
theorem d_S_fillFrom_96 : decode b_S_fillFrom 96 = .ok (.lload 4, 2) := by decide +kernel
theorem d_S_fillFrom_98 : decode b_S_fillFrom 98 = .ok (.lconst 0, 1) := by decide +kernel
theorem d_S_fillFrom_99 : decode b_S_fillFrom 99 = .ok (.lcmp, 1) := by decide +kernel
theorem d_S_fillFrom_100 : decode b_S_fillFrom 100 = .ok (.ifCond .eq 28, 3) := by decide +kernel
theorem d_S_fillFrom_103 : decode b_S_fillFrom 103 = .ok (.aload_n 0, 1) := by decide +kernel
theorem d_S_fillFrom_104 : decode b_S_fillFrom 104 = .ok (.iload_n 1, 1) := by decide +kernel
theorem d_S_fillFrom_105 : decode b_S_fillFrom 105 = .ok (.iload_n 2, 1) := by decide +kernel
theorem d_S_fillFrom_106 : decode b_S_fillFrom 106 = .ok (.lload 4, 2) := by decide +kernel
theorem d_S_fillFrom_108 : decode b_S_fillFrom 108 = .ok (.invokestatic 142, 3) := by decide +kernel
theorem d_S_fillFrom_111 : decode b_S_fillFrom 111 = .ok (.invokevirtual 145, 3) := by decide +kernel
theorem d_S_fillFrom_114 : decode b_S_fillFrom 114 = .ok (.istore 8, 2) := by decide +kernel
theorem d_S_fillFrom_116 : decode b_S_fillFrom 116 = .ok (.lload 4, 2) := by decide +kernel
theorem d_S_fillFrom_118 : decode b_S_fillFrom 118 = .ok (.lload 4, 2) := by decide +kernel
theorem d_S_fillFrom_120 : decode b_S_fillFrom 120 = .ok (.lconst 1, 1) := by decide +kernel
theorem d_S_fillFrom_121 : decode b_S_fillFrom 121 = .ok (.lsub, 1) := by decide +kernel
theorem d_S_fillFrom_122 : decode b_S_fillFrom 122 = .ok (.land, 1) := by decide +kernel
theorem d_S_fillFrom_123 : decode b_S_fillFrom 123 = .ok (.lstore 4, 2) := by decide +kernel
theorem d_S_fillFrom_125 : decode b_S_fillFrom 125 = .ok (.goto 28, 3) := by decide +kernel
theorem d_S_fillFrom_128 : decode b_S_fillFrom 128 = .ok (.aload_n 0, 1) := by decide +kernel
theorem d_S_fillFrom_129 : decode b_S_fillFrom 129 = .ok (.iload_n 1, 1) := by decide +kernel
theorem d_S_fillFrom_130 : decode b_S_fillFrom 130 = .ok (.iload_n 2, 1) := by decide +kernel
theorem d_S_fillFrom_131 : decode b_S_fillFrom 131 = .ok (.bipush 64, 2) := by decide +kernel
theorem d_S_fillFrom_133 : decode b_S_fillFrom 133 = .ok (.lload 6, 2) := by decide +kernel
theorem d_S_fillFrom_135 : decode b_S_fillFrom 135 = .ok (.invokestatic 142, 3) := by decide +kernel
theorem d_S_fillFrom_138 : decode b_S_fillFrom 138 = .ok (.iadd, 1) := by decide +kernel
theorem d_S_fillFrom_139 : decode b_S_fillFrom 139 = .ok (.invokevirtual 145, 3) := by decide +kernel
theorem d_S_fillFrom_142 : decode b_S_fillFrom 142 = .ok (.istore 8, 2) := by decide +kernel
theorem d_S_fillFrom_144 : decode b_S_fillFrom 144 = .ok (.lload 6, 2) := by decide +kernel
theorem d_S_fillFrom_146 : decode b_S_fillFrom 146 = .ok (.lload 6, 2) := by decide +kernel
theorem d_S_fillFrom_148 : decode b_S_fillFrom 148 = .ok (.lconst 1, 1) := by decide +kernel
theorem d_S_fillFrom_149 : decode b_S_fillFrom 149 = .ok (.lsub, 1) := by decide +kernel
theorem d_S_fillFrom_150 : decode b_S_fillFrom 150 = .ok (.land, 1) := by decide +kernel
theorem d_S_fillFrom_151 : decode b_S_fillFrom 151 = .ok (.lstore 6, 2) := by decide +kernel
theorem d_S_fillFrom_153 : decode b_S_fillFrom 153 = .ok (.iinc 9 (-1), 3) := by decide +kernel
theorem d_S_fillFrom_156 : decode b_S_fillFrom 156 = .ok (.goto (-70), 3) := by decide +kernel
theorem d_S_fillFrom_159 : decode b_S_fillFrom 159 = .ok (.iload 8, 2) := by decide +kernel
theorem d_S_fillFrom_161 : decode b_S_fillFrom 161 = .ok (.ireturn, 1) := by decide +kernel
theorem d_S_tryWord_0 : decode b_S_tryWord 0 = .ok (.aload_n 0, 1) := by decide +kernel
theorem d_S_tryWord_1 : decode b_S_tryWord 1 = .ok (.getfield 45, 3) := by decide +kernel
theorem d_S_tryWord_4 : decode b_S_tryWord 4 = .ok (.aload_n 0, 1) := by decide +kernel
theorem d_S_tryWord_5 : decode b_S_tryWord 5 = .ok (.getfield 34, 3) := by decide +kernel
theorem d_S_tryWord_8 : decode b_S_tryWord 8 = .ok (.if_icmp .lt 10, 3) := by decide +kernel
theorem d_S_tryWord_11 : decode b_S_tryWord 11 = .ok (.aload_n 0, 1) := by decide +kernel
theorem d_S_tryWord_12 : decode b_S_tryWord 12 = .ok (.iconst 1, 1) := by decide +kernel
theorem d_S_tryWord_13 : decode b_S_tryWord 13 = .ok (.putfield 42, 3) := by decide +kernel
theorem d_S_tryWord_16 : decode b_S_tryWord 16 = .ok (.iconst 0, 1) := by decide +kernel
theorem d_S_tryWord_17 : decode b_S_tryWord 17 = .ok (.ireturn, 1) := by decide +kernel
theorem d_S_tryWord_18 : decode b_S_tryWord 18 = .ok (.aload_n 0, 1) := by decide +kernel
theorem d_S_tryWord_19 : decode b_S_tryWord 19 = .ok (.dup, 1) := by decide +kernel
theorem d_S_tryWord_20 : decode b_S_tryWord 20 = .ok (.getfield 45, 3) := by decide +kernel
theorem d_S_tryWord_23 : decode b_S_tryWord 23 = .ok (.iconst 1, 1) := by decide +kernel
theorem d_S_tryWord_24 : decode b_S_tryWord 24 = .ok (.iadd, 1) := by decide +kernel
theorem d_S_tryWord_25 : decode b_S_tryWord 25 = .ok (.putfield 45, 3) := by decide +kernel
theorem d_S_tryWord_28 : decode b_S_tryWord 28 = .ok (.aload_n 0, 1) := by decide +kernel
theorem d_S_tryWord_29 : decode b_S_tryWord 29 = .ok (.getfield 26, 3) := by decide +kernel
theorem d_S_tryWord_32 : decode b_S_tryWord 32 = .ok (.getfield 156, 3) := by decide +kernel
theorem d_S_tryWord_35 : decode b_S_tryWord 35 = .ok (.iload_n 3, 1) := by decide +kernel
theorem d_S_tryWord_36 : decode b_S_tryWord 36 = .ok (.iaload, 1) := by decide +kernel
theorem d_S_tryWord_37 : decode b_S_tryWord 37 = .ok (.istore 4, 2) := by decide +kernel
theorem d_S_tryWord_39 : decode b_S_tryWord 39 = .ok (.aload_n 0, 1) := by decide +kernel
theorem d_S_tryWord_40 : decode b_S_tryWord 40 = .ok (.getfield 18, 3) := by decide +kernel
theorem d_S_tryWord_43 : decode b_S_tryWord 43 = .ok (.iload_n 2, 1) := by decide +kernel
theorem d_S_tryWord_44 : decode b_S_tryWord 44 = .ok (.iload 4, 2) := by decide +kernel
theorem d_S_tryWord_46 : decode b_S_tryWord 46 = .ok (.iastore, 1) := by decide +kernel
theorem d_S_tryWord_47 : decode b_S_tryWord 47 = .ok (.aload_n 0, 1) := by decide +kernel
theorem d_S_tryWord_48 : decode b_S_tryWord 48 = .ok (.dup, 1) := by decide +kernel
theorem d_S_tryWord_49 : decode b_S_tryWord 49 = .ok (.getfield 76, 3) := by decide +kernel
theorem d_S_tryWord_52 : decode b_S_tryWord 52 = .ok (.iload_n 3, 1) := by decide +kernel
theorem d_S_tryWord_53 : decode b_S_tryWord 53 = .ok (.invokestatic 119, 3) := by decide +kernel
theorem d_S_tryWord_56 : decode b_S_tryWord 56 = .ok (.lor, 1) := by decide +kernel
theorem d_S_tryWord_57 : decode b_S_tryWord 57 = .ok (.putfield 76, 3) := by decide +kernel
theorem d_S_tryWord_60 : decode b_S_tryWord 60 = .ok (.aload_n 0, 1) := by decide +kernel
theorem d_S_tryWord_61 : decode b_S_tryWord 61 = .ok (.dup, 1) := by decide +kernel
theorem d_S_tryWord_62 : decode b_S_tryWord 62 = .ok (.getfield 80, 3) := by decide +kernel
theorem d_S_tryWord_65 : decode b_S_tryWord 65 = .ok (.iload_n 3, 1) := by decide +kernel
theorem d_S_tryWord_66 : decode b_S_tryWord 66 = .ok (.invokestatic 123, 3) := by decide +kernel
theorem d_S_tryWord_69 : decode b_S_tryWord 69 = .ok (.lor, 1) := by decide +kernel
theorem d_S_tryWord_70 : decode b_S_tryWord 70 = .ok (.putfield 80, 3) := by decide +kernel
theorem d_S_tryWord_73 : decode b_S_tryWord 73 = .ok (.aload_n 0, 1) := by decide +kernel
theorem d_S_tryWord_74 : decode b_S_tryWord 74 = .ok (.dup, 1) := by decide +kernel
theorem d_S_tryWord_75 : decode b_S_tryWord 75 = .ok (.getfield 51, 3) := by decide +kernel
theorem d_S_tryWord_78 : decode b_S_tryWord 78 = .ok (.aload_n 0, 1) := by decide +kernel
theorem d_S_tryWord_79 : decode b_S_tryWord 79 = .ok (.getfield 26, 3) := by decide +kernel
theorem d_S_tryWord_82 : decode b_S_tryWord 82 = .ok (.getfield 159, 3) := by decide +kernel
theorem d_S_tryWord_85 : decode b_S_tryWord 85 = .ok (.iload 4, 2) := by decide +kernel
theorem d_S_tryWord_87 : decode b_S_tryWord 87 = .ok (.iaload, 1) := by decide +kernel
theorem d_S_tryWord_88 : decode b_S_tryWord 88 = .ok (.iadd, 1) := by decide +kernel
theorem d_S_tryWord_89 : decode b_S_tryWord 89 = .ok (.putfield 51, 3) := by decide +kernel
theorem d_S_tryWord_92 : decode b_S_tryWord 92 = .ok (.aload_n 0, 1) := by decide +kernel
theorem d_S_tryWord_93 : decode b_S_tryWord 93 = .ok (.iload_n 1, 1) := by decide +kernel
theorem d_S_tryWord_94 : decode b_S_tryWord 94 = .ok (.iload_n 2, 1) := by decide +kernel
theorem d_S_tryWord_95 : decode b_S_tryWord 95 = .ok (.iload 4, 2) := by decide +kernel
theorem d_S_tryWord_97 : decode b_S_tryWord 97 = .ok (.invokevirtual 162, 3) := by decide +kernel
theorem d_S_tryWord_100 : decode b_S_tryWord 100 = .ok (.aload_n 0, 1) := by decide +kernel
theorem d_S_tryWord_101 : decode b_S_tryWord 101 = .ok (.iload_n 1, 1) := by decide +kernel
theorem d_S_tryWord_102 : decode b_S_tryWord 102 = .ok (.iconst 1, 1) := by decide +kernel
theorem d_S_tryWord_103 : decode b_S_tryWord 103 = .ok (.iadd, 1) := by decide +kernel
theorem d_S_tryWord_104 : decode b_S_tryWord 104 = .ok (.invokevirtual 62, 3) := by decide +kernel
theorem d_S_tryWord_107 : decode b_S_tryWord 107 = .ok (.istore 5, 2) := by decide +kernel
theorem d_S_tryWord_109 : decode b_S_tryWord 109 = .ok (.aload_n 0, 1) := by decide +kernel
theorem d_S_tryWord_110 : decode b_S_tryWord 110 = .ok (.dup, 1) := by decide +kernel
theorem d_S_tryWord_111 : decode b_S_tryWord 111 = .ok (.getfield 51, 3) := by decide +kernel
theorem d_S_tryWord_114 : decode b_S_tryWord 114 = .ok (.aload_n 0, 1) := by decide +kernel
theorem d_S_tryWord_115 : decode b_S_tryWord 115 = .ok (.getfield 26, 3) := by decide +kernel
theorem d_S_tryWord_118 : decode b_S_tryWord 118 = .ok (.getfield 159, 3) := by decide +kernel
theorem d_S_tryWord_121 : decode b_S_tryWord 121 = .ok (.iload 4, 2) := by decide +kernel
theorem d_S_tryWord_123 : decode b_S_tryWord 123 = .ok (.iaload, 1) := by decide +kernel
theorem d_S_tryWord_124 : decode b_S_tryWord 124 = .ok (.isub, 1) := by decide +kernel
theorem d_S_tryWord_125 : decode b_S_tryWord 125 = .ok (.putfield 51, 3) := by decide +kernel
theorem d_S_tryWord_128 : decode b_S_tryWord 128 = .ok (.aload_n 0, 1) := by decide +kernel
theorem d_S_tryWord_129 : decode b_S_tryWord 129 = .ok (.dup, 1) := by decide +kernel
theorem d_S_tryWord_130 : decode b_S_tryWord 130 = .ok (.getfield 76, 3) := by decide +kernel
theorem d_S_tryWord_133 : decode b_S_tryWord 133 = .ok (.iload_n 3, 1) := by decide +kernel
theorem d_S_tryWord_134 : decode b_S_tryWord 134 = .ok (.invokestatic 119, 3) := by decide +kernel
theorem d_S_tryWord_137 : decode b_S_tryWord 137 = .ok (.ldc2_w 140, 3) := by decide +kernel
theorem d_S_tryWord_140 : decode b_S_tryWord 140 = .ok (.lxor, 1) := by decide +kernel
theorem d_S_tryWord_141 : decode b_S_tryWord 141 = .ok (.land, 1) := by decide +kernel
theorem d_S_tryWord_142 : decode b_S_tryWord 142 = .ok (.putfield 76, 3) := by decide +kernel
theorem d_S_tryWord_145 : decode b_S_tryWord 145 = .ok (.aload_n 0, 1) := by decide +kernel
theorem d_S_tryWord_146 : decode b_S_tryWord 146 = .ok (.dup, 1) := by decide +kernel
theorem d_S_tryWord_147 : decode b_S_tryWord 147 = .ok (.getfield 80, 3) := by decide +kernel
theorem d_S_tryWord_150 : decode b_S_tryWord 150 = .ok (.iload_n 3, 1) := by decide +kernel
theorem d_S_tryWord_151 : decode b_S_tryWord 151 = .ok (.invokestatic 123, 3) := by decide +kernel
theorem d_S_tryWord_154 : decode b_S_tryWord 154 = .ok (.ldc2_w 140, 3) := by decide +kernel
theorem d_S_tryWord_157 : decode b_S_tryWord 157 = .ok (.lxor, 1) := by decide +kernel
theorem d_S_tryWord_158 : decode b_S_tryWord 158 = .ok (.land, 1) := by decide +kernel
theorem d_S_tryWord_159 : decode b_S_tryWord 159 = .ok (.putfield 80, 3) := by decide +kernel
theorem d_S_tryWord_162 : decode b_S_tryWord 162 = .ok (.aload_n 0, 1) := by decide +kernel
theorem d_S_tryWord_163 : decode b_S_tryWord 163 = .ok (.getfield 18, 3) := by decide +kernel
theorem d_S_tryWord_166 : decode b_S_tryWord 166 = .ok (.iload_n 2, 1) := by decide +kernel
theorem d_S_tryWord_167 : decode b_S_tryWord 167 = .ok (.iconst (-1), 1) := by decide +kernel
theorem d_S_tryWord_168 : decode b_S_tryWord 168 = .ok (.iastore, 1) := by decide +kernel
theorem d_S_tryWord_169 : decode b_S_tryWord 169 = .ok (.iload 5, 2) := by decide +kernel
theorem d_S_tryWord_171 : decode b_S_tryWord 171 = .ok (.ireturn, 1) := by decide +kernel
theorem d_S_seek_0 : decode b_S_seek 0 = .ok (.aload_n 0, 1) := by decide +kernel
theorem d_S_seek_1 : decode b_S_seek 1 = .ok (.iload_n 1, 1) := by decide +kernel
theorem d_S_seek_2 : decode b_S_seek 2 = .ok (.putfield 34, 3) := by decide +kernel
theorem d_S_seek_5 : decode b_S_seek 5 = .ok (.aload_n 0, 1) := by decide +kernel
theorem d_S_seek_6 : decode b_S_seek 6 = .ok (.iload_n 2, 1) := by decide +kernel
theorem d_S_seek_7 : decode b_S_seek 7 = .ok (.putfield 38, 3) := by decide +kernel
theorem d_S_seek_10 : decode b_S_seek 10 = .ok (.aload_n 0, 1) := by decide +kernel
theorem d_S_seek_11 : decode b_S_seek 11 = .ok (.iconst 0, 1) := by decide +kernel
theorem d_S_seek_12 : decode b_S_seek 12 = .ok (.putfield 42, 3) := by decide +kernel
theorem d_S_seek_15 : decode b_S_seek 15 = .ok (.aload_n 0, 1) := by decide +kernel
theorem d_S_seek_16 : decode b_S_seek 16 = .ok (.iconst 0, 1) := by decide +kernel
theorem d_S_seek_17 : decode b_S_seek 17 = .ok (.putfield 45, 3) := by decide +kernel
theorem d_S_seek_20 : decode b_S_seek 20 = .ok (.aload_n 0, 1) := by decide +kernel
theorem d_S_seek_21 : decode b_S_seek 21 = .ok (.iconst 0, 1) := by decide +kernel
theorem d_S_seek_22 : decode b_S_seek 22 = .ok (.putfield 48, 3) := by decide +kernel
theorem d_S_seek_25 : decode b_S_seek 25 = .ok (.aload_n 0, 1) := by decide +kernel
theorem d_S_seek_26 : decode b_S_seek 26 = .ok (.iconst 0, 1) := by decide +kernel
theorem d_S_seek_27 : decode b_S_seek 27 = .ok (.putfield 51, 3) := by decide +kernel
theorem d_S_seek_30 : decode b_S_seek 30 = .ok (.aload_n 0, 1) := by decide +kernel
theorem d_S_seek_31 : decode b_S_seek 31 = .ok (.getfield 30, 3) := by decide +kernel
theorem d_S_seek_34 : decode b_S_seek 34 = .ok (.invokevirtual 54, 3) := by decide +kernel
theorem d_S_seek_37 : decode b_S_seek 37 = .ok (.aload_n 0, 1) := by decide +kernel
theorem d_S_seek_38 : decode b_S_seek 38 = .ok (.invokevirtual 59, 3) := by decide +kernel
theorem d_S_seek_41 : decode b_S_seek 41 = .ok (.aload_n 0, 1) := by decide +kernel
theorem d_S_seek_42 : decode b_S_seek 42 = .ok (.iconst 0, 1) := by decide +kernel
theorem d_S_seek_43 : decode b_S_seek 43 = .ok (.invokevirtual 62, 3) := by decide +kernel
theorem d_S_seek_46 : decode b_S_seek 46 = .ok (.pop, 1) := by decide +kernel
theorem d_S_seek_47 : decode b_S_seek 47 = .ok (.aload_n 0, 1) := by decide +kernel
theorem d_S_seek_48 : decode b_S_seek 48 = .ok (.getfield 42, 3) := by decide +kernel
theorem d_S_seek_51 : decode b_S_seek 51 = .ok (.ifCond .eq 5, 3) := by decide +kernel
theorem d_S_seek_54 : decode b_S_seek 54 = .ok (.iconst 2, 1) := by decide +kernel
theorem d_S_seek_55 : decode b_S_seek 55 = .ok (.ireturn, 1) := by decide +kernel
theorem d_S_seek_56 : decode b_S_seek 56 = .ok (.aload_n 0, 1) := by decide +kernel
theorem d_S_seek_57 : decode b_S_seek 57 = .ok (.getfield 48, 3) := by decide +kernel
theorem d_S_seek_60 : decode b_S_seek 60 = .ok (.ifCond .le 7, 3) := by decide +kernel
theorem d_S_seek_63 : decode b_S_seek 63 = .ok (.iconst 0, 1) := by decide +kernel
theorem d_S_seek_64 : decode b_S_seek 64 = .ok (.goto 4, 3) := by decide +kernel
theorem d_S_seek_67 : decode b_S_seek 67 = .ok (.iconst 1, 1) := by decide +kernel
theorem d_S_seek_68 : decode b_S_seek 68 = .ok (.ireturn, 1) := by decide +kernel
theorem d_X_run_0 : decode b_X_run 0 = .ok (.iload_n 1, 1) := by decide +kernel
theorem d_X_run_1 : decode b_X_run 1 = .ok (.invokestatic 108, 3) := by decide +kernel
theorem d_X_run_4 : decode b_X_run 4 = .ok (.ifCond .eq 15, 3) := by decide +kernel
theorem d_X_run_7 : decode b_X_run 7 = .ok (.aload_n 0, 1) := by decide +kernel
theorem d_X_run_8 : decode b_X_run 8 = .ok (.getfield 43, 3) := by decide +kernel
