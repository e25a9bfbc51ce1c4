theorem dL_town_0 : decode cL_town 0 = .ok (.aload_n 2, 1) := by decide +kernel
theorem dL_town_1 : decode cL_town 1 = .ok (.iconst 0, 1) := by decide +kernel
theorem dL_town_2 : decode cL_town 2 = .ok (.aload_n 0, 1) := by decide +kernel
theorem dL_town_3 : decode cL_town 3 = .ok (.iload_n 1, 1) := by decide +kernel
theorem dL_town_4 : decode cL_town 4 = .ok (.invokevirtual 7, 3) := by decide +kernel
theorem dL_town_7 : decode cL_town 7 = .ok (.i2l, 1) := by decide +kernel
theorem dL_town_8 : decode cL_town 8 = .ok (.lastore, 1) := by decide +kernel
theorem dL_town_9 : decode cL_town 9 = .ok (.goto 6, 3) := by decide +kernel
theorem dL_town_12 : decode cL_town 12 = .ok (.astore_n 3, 1) := by decide +kernel
theorem dL_town_13 : decode cL_town 13 = .ok (.iconst 1, 1) := by decide +kernel
theorem dL_town_14 : decode cL_town 14 = .ok (.ireturn, 1) := by decide +kernel
theorem dL_town_15 : decode cL_town 15 = .ok (.iconst 0, 1) := by decide +kernel
theorem dL_town_16 : decode cL_town 16 = .ok (.ireturn, 1) := by decide +kernel
theorem dL_count_0 : decode cL_count 0 = .ok (.aload_n 2, 1) := by decide +kernel
theorem dL_count_1 : decode cL_count 1 = .ok (.iconst 0, 1) := by decide +kernel
theorem dL_count_2 : decode cL_count 2 = .ok (.aload_n 0, 1) := by decide +kernel
theorem dL_count_3 : decode cL_count 3 = .ok (.iload_n 1, 1) := by decide +kernel
theorem dL_count_4 : decode cL_count 4 = .ok (.invokevirtual 15, 3) := by decide +kernel
theorem dL_count_7 : decode cL_count 7 = .ok (.i2l, 1) := by decide +kernel
theorem dL_count_8 : decode cL_count 8 = .ok (.lastore, 1) := by decide +kernel
theorem dL_count_9 : decode cL_count 9 = .ok (.goto 6, 3) := by decide +kernel
theorem dL_count_12 : decode cL_count 12 = .ok (.astore_n 3, 1) := by decide +kernel
theorem dL_count_13 : decode cL_count 13 = .ok (.iconst 1, 1) := by decide +kernel
theorem dL_count_14 : decode cL_count 14 = .ok (.ireturn, 1) := by decide +kernel
theorem dL_count_15 : decode cL_count 15 = .ok (.iconst 0, 1) := by decide +kernel
theorem dL_count_16 : decode cL_count 16 = .ok (.ireturn, 1) := by decide +kernel
theorem dL_person_0 : decode cL_person 0 = .ok (.aload_n 3, 1) := by decide +kernel
theorem dL_person_1 : decode cL_person 1 = .ok (.iconst 0, 1) := by decide +kernel
theorem dL_person_2 : decode cL_person 2 = .ok (.aload_n 0, 1) := by decide +kernel
theorem dL_person_3 : decode cL_person 3 = .ok (.iload_n 1, 1) := by decide +kernel
theorem dL_person_4 : decode cL_person 4 = .ok (.iload_n 2, 1) := by decide +kernel
theorem dL_person_5 : decode cL_person 5 = .ok (.invokevirtual 20, 3) := by decide +kernel
theorem dL_person_8 : decode cL_person 8 = .ok (.i2l, 1) := by decide +kernel
theorem dL_person_9 : decode cL_person 9 = .ok (.lastore, 1) := by decide +kernel
theorem dL_person_10 : decode cL_person 10 = .ok (.goto 7, 3) := by decide +kernel
theorem dL_person_13 : decode cL_person 13 = .ok (.astore 4, 2) := by decide +kernel
theorem dL_person_15 : decode cL_person 15 = .ok (.iconst 1, 1) := by decide +kernel
theorem dL_person_16 : decode cL_person 16 = .ok (.ireturn, 1) := by decide +kernel
theorem dL_person_17 : decode cL_person 17 = .ok (.iconst 0, 1) := by decide +kernel
theorem dL_person_18 : decode cL_person 18 = .ok (.ireturn, 1) := by decide +kernel
theorem dL_feud_0 : decode cL_feud 0 = .ok (.aload_n 3, 1) := by decide +kernel
theorem dL_feud_1 : decode cL_feud 1 = .ok (.iconst 0, 1) := by decide +kernel
theorem dL_feud_2 : decode cL_feud 2 = .ok (.aload_n 0, 1) := by decide +kernel
theorem dL_feud_3 : decode cL_feud 3 = .ok (.iload_n 1, 1) := by decide +kernel
theorem dL_feud_4 : decode cL_feud 4 = .ok (.iload_n 2, 1) := by decide +kernel
theorem dL_feud_5 : decode cL_feud 5 = .ok (.invokevirtual 24, 3) := by decide +kernel
theorem dL_feud_8 : decode cL_feud 8 = .ok (.i2l, 1) := by decide +kernel
theorem dL_feud_9 : decode cL_feud 9 = .ok (.lastore, 1) := by decide +kernel
theorem dL_feud_10 : decode cL_feud 10 = .ok (.goto 7, 3) := by decide +kernel
theorem dL_feud_13 : decode cL_feud 13 = .ok (.astore 4, 2) := by decide +kernel
theorem dL_feud_15 : decode cL_feud 15 = .ok (.iconst 1, 1) := by decide +kernel
theorem dL_feud_16 : decode cL_feud 16 = .ok (.ireturn, 1) := by decide +kernel
theorem dL_feud_17 : decode cL_feud 17 = .ok (.iconst 0, 1) := by decide +kernel
theorem dL_feud_18 : decode cL_feud 18 = .ok (.ireturn, 1) := by decide +kernel
theorem dL_sign_0 : decode cL_sign 0 = .ok (.aload_n 3, 1) := by decide +kernel
theorem dL_sign_1 : decode cL_sign 1 = .ok (.iconst 0, 1) := by decide +kernel
theorem dL_sign_2 : decode cL_sign 2 = .ok (.aload_n 0, 1) := by decide +kernel
theorem dL_sign_3 : decode cL_sign 3 = .ok (.iload_n 1, 1) := by decide +kernel
theorem dL_sign_4 : decode cL_sign 4 = .ok (.iload_n 2, 1) := by decide +kernel
theorem dL_sign_5 : decode cL_sign 5 = .ok (.invokevirtual 27, 3) := by decide +kernel
theorem dL_sign_8 : decode cL_sign 8 = .ok (.i2l, 1) := by decide +kernel
theorem dL_sign_9 : decode cL_sign 9 = .ok (.lastore, 1) := by decide +kernel
theorem dL_sign_10 : decode cL_sign 10 = .ok (.goto 7, 3) := by decide +kernel
theorem dL_sign_13 : decode cL_sign 13 = .ok (.astore 4, 2) := by decide +kernel
theorem dL_sign_15 : decode cL_sign 15 = .ok (.iconst 1, 1) := by decide +kernel
theorem dL_sign_16 : decode cL_sign 16 = .ok (.ireturn, 1) := by decide +kernel
theorem dL_sign_17 : decode cL_sign 17 = .ok (.iconst 0, 1) := by decide +kernel
theorem dL_sign_18 : decode cL_sign 18 = .ok (.ireturn, 1) := by decide +kernel
theorem dL_other_0 : decode cL_other 0 = .ok (.aload_n 2, 1) := by decide +kernel
theorem dL_other_1 : decode cL_other 1 = .ok (.iconst 0, 1) := by decide +kernel
theorem dL_other_2 : decode cL_other 2 = .ok (.aload_n 0, 1) := by decide +kernel
theorem dL_other_3 : decode cL_other 3 = .ok (.iload_n 1, 1) := by decide +kernel
theorem dL_other_4 : decode cL_other 4 = .ok (.invokevirtual 30, 3) := by decide +kernel
theorem dL_other_7 : decode cL_other 7 = .ok (.i2l, 1) := by decide +kernel
theorem dL_other_8 : decode cL_other 8 = .ok (.lastore, 1) := by decide +kernel
theorem dL_other_9 : decode cL_other 9 = .ok (.goto 6, 3) := by decide +kernel
theorem dL_other_12 : decode cL_other 12 = .ok (.astore_n 3, 1) := by decide +kernel
theorem dL_other_13 : decode cL_other 13 = .ok (.iconst 1, 1) := by decide +kernel
theorem dL_other_14 : decode cL_other 14 = .ok (.ireturn, 1) := by decide +kernel
theorem dL_other_15 : decode cL_other 15 = .ok (.iconst 0, 1) := by decide +kernel
theorem dL_other_16 : decode cL_other 16 = .ok (.ireturn, 1) := by decide +kernel
theorem dL_away_0 : decode cL_away 0 = .ok (.aload_n 3, 1) := by decide +kernel
theorem dL_away_1 : decode cL_away 1 = .ok (.iconst 0, 1) := by decide +kernel
theorem dL_away_2 : decode cL_away 2 = .ok (.aload_n 0, 1) := by decide +kernel
theorem dL_away_3 : decode cL_away 3 = .ok (.iload_n 1, 1) := by decide +kernel
theorem dL_away_4 : decode cL_away 4 = .ok (.iload_n 2, 1) := by decide +kernel
theorem dL_away_5 : decode cL_away 5 = .ok (.invokevirtual 33, 3) := by decide +kernel
theorem dL_away_8 : decode cL_away 8 = .ok (.ifCond .eq 7, 3) := by decide +kernel
theorem dL_away_11 : decode cL_away 11 = .ok (.lconst 1, 1) := by decide +kernel
theorem dL_away_12 : decode cL_away 12 = .ok (.goto 4, 3) := by decide +kernel
theorem dL_away_15 : decode cL_away 15 = .ok (.lconst 0, 1) := by decide +kernel
theorem dL_away_16 : decode cL_away 16 = .ok (.lastore, 1) := by decide +kernel
theorem dL_away_17 : decode cL_away 17 = .ok (.goto 7, 3) := by decide +kernel
theorem dL_away_20 : decode cL_away 20 = .ok (.astore 4, 2) := by decide +kernel
theorem dL_away_22 : decode cL_away 22 = .ok (.iconst 1, 1) := by decide +kernel
theorem dL_away_23 : decode cL_away 23 = .ok (.ireturn, 1) := by decide +kernel
theorem dL_away_24 : decode cL_away 24 = .ok (.iconst 0, 1) := by decide +kernel
theorem dL_away_25 : decode cL_away 25 = .ok (.ireturn, 1) := by decide +kernel
theorem dL_dies_0 : decode cL_dies 0 = .ok (.aload_n 2, 1) := by decide +kernel
theorem dL_dies_1 : decode cL_dies 1 = .ok (.iconst 0, 1) := by decide +kernel
theorem dL_dies_2 : decode cL_dies 2 = .ok (.aload_n 0, 1) := by decide +kernel
theorem dL_dies_3 : decode cL_dies 3 = .ok (.iload_n 1, 1) := by decide +kernel
theorem dL_dies_4 : decode cL_dies 4 = .ok (.invokevirtual 37, 3) := by decide +kernel
theorem dL_dies_7 : decode cL_dies 7 = .ok (.ifCond .eq 7, 3) := by decide +kernel
theorem dL_dies_10 : decode cL_dies 10 = .ok (.lconst 1, 1) := by decide +kernel
theorem dL_dies_11 : decode cL_dies 11 = .ok (.goto 4, 3) := by decide +kernel
theorem dL_dies_14 : decode cL_dies 14 = .ok (.lconst 0, 1) := by decide +kernel
theorem dL_dies_15 : decode cL_dies 15 = .ok (.lastore, 1) := by decide +kernel
theorem dL_dies_16 : decode cL_dies 16 = .ok (.goto 6, 3) := by decide +kernel
theorem dL_dies_19 : decode cL_dies 19 = .ok (.astore_n 3, 1) := by decide +kernel
theorem dL_dies_20 : decode cL_dies 20 = .ok (.iconst 1, 1) := by decide +kernel
theorem dL_dies_21 : decode cL_dies 21 = .ok (.ireturn, 1) := by decide +kernel
theorem dL_dies_22 : decode cL_dies 22 = .ok (.iconst 0, 1) := by decide +kernel
theorem dL_dies_23 : decode cL_dies 23 = .ok (.ireturn, 1) := by decide +kernel
theorem dL_marry_0 : decode cL_marry 0 = .ok (.aload_n 3, 1) := by decide +kernel
theorem dL_marry_1 : decode cL_marry 1 = .ok (.iconst 0, 1) := by decide +kernel
theorem dL_marry_2 : decode cL_marry 2 = .ok (.aload_n 0, 1) := by decide +kernel
theorem dL_marry_3 : decode cL_marry 3 = .ok (.iload_n 1, 1) := by decide +kernel
theorem dL_marry_4 : decode cL_marry 4 = .ok (.iload_n 2, 1) := by decide +kernel
theorem dL_marry_5 : decode cL_marry 5 = .ok (.invokevirtual 41, 3) := by decide +kernel
theorem dL_marry_8 : decode cL_marry 8 = .ok (.i2l, 1) := by decide +kernel
theorem dL_marry_9 : decode cL_marry 9 = .ok (.lastore, 1) := by decide +kernel
theorem dL_marry_10 : decode cL_marry 10 = .ok (.goto 7, 3) := by decide +kernel
theorem dL_marry_13 : decode cL_marry 13 = .ok (.astore 4, 2) := by decide +kernel
theorem dL_marry_15 : decode cL_marry 15 = .ok (.iconst 1, 1) := by decide +kernel
theorem dL_marry_16 : decode cL_marry 16 = .ok (.ireturn, 1) := by decide +kernel
theorem dL_marry_17 : decode cL_marry 17 = .ok (.iconst 0, 1) := by decide +kernel
theorem dL_marry_18 : decode cL_marry 18 = .ok (.ireturn, 1) := by decide +kernel
theorem dL_quarrel_0 : decode cL_quarrel 0 = .ok (.aload_n 3, 1) := by decide +kernel
theorem dL_quarrel_1 : decode cL_quarrel 1 = .ok (.iconst 0, 1) := by decide +kernel
theorem dL_quarrel_2 : decode cL_quarrel 2 = .ok (.aload_n 0, 1) := by decide +kernel
theorem dL_quarrel_3 : decode cL_quarrel 3 = .ok (.iload_n 1, 1) := by decide +kernel
theorem dL_quarrel_4 : decode cL_quarrel 4 = .ok (.iload_n 2, 1) := by decide +kernel
theorem dL_quarrel_5 : decode cL_quarrel 5 = .ok (.invokevirtual 44, 3) := by decide +kernel
theorem dL_quarrel_8 : decode cL_quarrel 8 = .ok (.i2l, 1) := by decide +kernel
theorem dL_quarrel_9 : decode cL_quarrel 9 = .ok (.lastore, 1) := by decide +kernel
theorem dL_quarrel_10 : decode cL_quarrel 10 = .ok (.goto 7, 3) := by decide +kernel
theorem dL_quarrel_13 : decode cL_quarrel 13 = .ok (.astore 4, 2) := by decide +kernel
theorem dL_quarrel_15 : decode cL_quarrel 15 = .ok (.iconst 1, 1) := by decide +kernel
theorem dL_quarrel_16 : decode cL_quarrel 16 = .ok (.ireturn, 1) := by decide +kernel
theorem dL_quarrel_17 : decode cL_quarrel 17 = .ok (.iconst 0, 1) := by decide +kernel
theorem dL_quarrel_18 : decode cL_quarrel 18 = .ok (.ireturn, 1) := by decide +kernel
theorem dL_found_0 : decode cL_found 0 = .ok (.aload 4, 2) := by decide +kernel
theorem dL_found_2 : decode cL_found 2 = .ok (.iconst 0, 1) := by decide +kernel
theorem dL_found_3 : decode cL_found 3 = .ok (.aload_n 0, 1) := by decide +kernel
theorem dL_found_4 : decode cL_found 4 = .ok (.iload_n 1, 1) := by decide +kernel
theorem dL_found_5 : decode cL_found 5 = .ok (.iload_n 2, 1) := by decide +kernel
theorem dL_found_6 : decode cL_found 6 = .ok (.iload_n 3, 1) := by decide +kernel
theorem dL_found_7 : decode cL_found 7 = .ok (.invokevirtual 47, 3) := by decide +kernel
theorem dL_found_10 : decode cL_found 10 = .ok (.i2l, 1) := by decide +kernel
theorem dL_found_11 : decode cL_found 11 = .ok (.lastore, 1) := by decide +kernel
theorem dL_found_12 : decode cL_found 12 = .ok (.goto 11, 3) := by decide +kernel
theorem dL_found_15 : decode cL_found 15 = .ok (.astore 5, 2) := by decide +kernel
theorem dL_found_17 : decode cL_found 17 = .ok (.iconst 1, 1) := by decide +kernel
theorem dL_found_18 : decode cL_found 18 = .ok (.ireturn, 1) := by decide +kernel
theorem dL_found_19 : decode cL_found 19 = .ok (.astore 5, 2) := by decide +kernel
theorem dL_found_21 : decode cL_found 21 = .ok (.iconst 2, 1) := by decide +kernel
theorem dL_found_22 : decode cL_found 22 = .ok (.ireturn, 1) := by decide +kernel
theorem dL_found_23 : decode cL_found 23 = .ok (.iconst 0, 1) := by decide +kernel
theorem dL_found_24 : decode cL_found 24 = .ok (.ireturn, 1) := by decide +kernel
theorem dL_again_0 : decode cL_again 0 = .ok (.aload_n 2, 1) := by decide +kernel
theorem dL_again_1 : decode cL_again 1 = .ok (.iconst 0, 1) := by decide +kernel
theorem dL_again_2 : decode cL_again 2 = .ok (.aload_n 0, 1) := by decide +kernel
theorem dL_again_3 : decode cL_again 3 = .ok (.iload_n 1, 1) := by decide +kernel
theorem dL_again_4 : decode cL_again 4 = .ok (.invokevirtual 51, 3) := by decide +kernel
theorem dL_again_7 : decode cL_again 7 = .ok (.i2l, 1) := by decide +kernel
theorem dL_again_8 : decode cL_again 8 = .ok (.lastore, 1) := by decide +kernel
theorem dL_again_9 : decode cL_again 9 = .ok (.goto 6, 3) := by decide +kernel
theorem dL_again_12 : decode cL_again 12 = .ok (.astore_n 3, 1) := by decide +kernel
theorem dL_again_13 : decode cL_again 13 = .ok (.iconst 1, 1) := by decide +kernel
theorem dL_again_14 : decode cL_again 14 = .ok (.ireturn, 1) := by decide +kernel
theorem dL_again_15 : decode cL_again 15 = .ok (.iconst 0, 1) := by decide +kernel
theorem dL_again_16 : decode cL_again 16 = .ok (.ireturn, 1) := by decide +kernel
theorem dL_interval_0 : decode cL_interval 0 = .ok (.aload_n 2, 1) := by decide +kernel
theorem dL_interval_1 : decode cL_interval 1 = .ok (.iconst 0, 1) := by decide +kernel
theorem dL_interval_2 : decode cL_interval 2 = .ok (.aload_n 0, 1) := by decide +kernel
theorem dL_interval_3 : decode cL_interval 3 = .ok (.iload_n 1, 1) := by decide +kernel
theorem dL_interval_4 : decode cL_interval 4 = .ok (.invokevirtual 54, 3) := by decide +kernel
theorem dL_interval_7 : decode cL_interval 7 = .ok (.i2l, 1) := by decide +kernel
theorem dL_interval_8 : decode cL_interval 8 = .ok (.lastore, 1) := by decide +kernel
theorem dL_interval_9 : decode cL_interval 9 = .ok (.goto 6, 3) := by decide +kernel
theorem dL_interval_12 : decode cL_interval 12 = .ok (.astore_n 3, 1) := by decide +kernel
theorem dL_interval_13 : decode cL_interval 13 = .ok (.iconst 1, 1) := by decide +kernel
theorem dL_interval_14 : decode cL_interval 14 = .ok (.ireturn, 1) := by decide +kernel
theorem dL_interval_15 : decode cL_interval 15 = .ok (.iconst 0, 1) := by decide +kernel
theorem dL_interval_16 : decode cL_interval 16 = .ok (.ireturn, 1) := by decide +kernel
theorem dL_own_0 : decode cL_own 0 = .ok (.aload_n 3, 1) := by decide +kernel
theorem dL_own_1 : decode cL_own 1 = .ok (.iconst 0, 1) := by decide +kernel
theorem dL_own_2 : decode cL_own 2 = .ok (.aload_n 0, 1) := by decide +kernel
theorem dL_own_3 : decode cL_own 3 = .ok (.iload_n 1, 1) := by decide +kernel
theorem dL_own_4 : decode cL_own 4 = .ok (.iload_n 2, 1) := by decide +kernel
theorem dL_own_5 : decode cL_own 5 = .ok (.invokevirtual 57, 3) := by decide +kernel
theorem dL_own_8 : decode cL_own 8 = .ok (.i2l, 1) := by decide +kernel
theorem dL_own_9 : decode cL_own 9 = .ok (.lastore, 1) := by decide +kernel
theorem dL_own_10 : decode cL_own 10 = .ok (.goto 7, 3) := by decide +kernel
theorem dL_own_13 : decode cL_own 13 = .ok (.astore 4, 2) := by decide +kernel
theorem dL_own_15 : decode cL_own 15 = .ok (.iconst 1, 1) := by decide +kernel
theorem dL_own_16 : decode cL_own 16 = .ok (.ireturn, 1) := by decide +kernel
theorem dL_own_17 : decode cL_own 17 = .ok (.iconst 0, 1) := by decide +kernel
theorem dL_own_18 : decode cL_own 18 = .ok (.ireturn, 1) := by decide +kernel
theorem dL_breath_0 : decode cL_breath 0 = .ok (.aload_n 2, 1) := by decide +kernel
theorem dL_breath_1 : decode cL_breath 1 = .ok (.iconst 0, 1) := by decide +kernel
theorem dL_breath_2 : decode cL_breath 2 = .ok (.aload_n 0, 1) := by decide +kernel
theorem dL_breath_3 : decode cL_breath 3 = .ok (.iload_n 1, 1) := by decide +kernel
theorem dL_breath_4 : decode cL_breath 4 = .ok (.invokevirtual 60, 3) := by decide +kernel
theorem dL_breath_7 : decode cL_breath 7 = .ok (.i2l, 1) := by decide +kernel
theorem dL_breath_8 : decode cL_breath 8 = .ok (.lastore, 1) := by decide +kernel
theorem dL_breath_9 : decode cL_breath 9 = .ok (.goto 6, 3) := by decide +kernel
theorem dL_breath_12 : decode cL_breath 12 = .ok (.astore_n 3, 1) := by decide +kernel
theorem dL_breath_13 : decode cL_breath 13 = .ok (.iconst 1, 1) := by decide +kernel
theorem dL_breath_14 : decode cL_breath 14 = .ok (.ireturn, 1) := by decide +kernel
theorem dL_breath_15 : decode cL_breath 15 = .ok (.iconst 0, 1) := by decide +kernel
theorem dL_breath_16 : decode cL_breath 16 = .ok (.ireturn, 1) := by decide +kernel
theorem dL_like_0 : decode cL_like 0 = .ok (.aload_n 2, 1) := by decide +kernel
theorem dL_like_1 : decode cL_like 1 = .ok (.iconst 0, 1) := by decide +kernel
theorem dL_like_2 : decode cL_like 2 = .ok (.aload_n 0, 1) := by decide +kernel
theorem dL_like_3 : decode cL_like 3 = .ok (.iload_n 1, 1) := by decide +kernel
theorem dL_like_4 : decode cL_like 4 = .ok (.invokevirtual 63, 3) := by decide +kernel
theorem dL_like_7 : decode cL_like 7 = .ok (.i2l, 1) := by decide +kernel
theorem dL_like_8 : decode cL_like 8 = .ok (.lastore, 1) := by decide +kernel
theorem dL_like_9 : decode cL_like 9 = .ok (.goto 6, 3) := by decide +kernel
theorem dL_like_12 : decode cL_like 12 = .ok (.astore_n 3, 1) := by decide +kernel
theorem dL_like_13 : decode cL_like 13 = .ok (.iconst 1, 1) := by decide +kernel
theorem dL_like_14 : decode cL_like 14 = .ok (.ireturn, 1) := by decide +kernel
theorem dL_like_15 : decode cL_like 15 = .ok (.iconst 0, 1) := by decide +kernel
theorem dL_like_16 : decode cL_like 16 = .ok (.ireturn, 1) := by decide +kernel
theorem dL_then_0 : decode cL_then 0 = .ok (.aload_n 2, 1) := by decide +kernel
theorem dL_then_1 : decode cL_then 1 = .ok (.iconst 0, 1) := by decide +kernel
theorem dL_then_2 : decode cL_then 2 = .ok (.aload_n 0, 1) := by decide +kernel
theorem dL_then_3 : decode cL_then 3 = .ok (.iload_n 1, 1) := by decide +kernel
theorem dL_then_4 : decode cL_then 4 = .ok (.invokevirtual 66, 3) := by decide +kernel
theorem dL_then_7 : decode cL_then 7 = .ok (.i2l, 1) := by decide +kernel
theorem dL_then_8 : decode cL_then 8 = .ok (.lastore, 1) := by decide +kernel
theorem dL_then_9 : decode cL_then 9 = .ok (.goto 6, 3) := by decide +kernel
theorem dL_then_12 : decode cL_then 12 = .ok (.astore_n 3, 1) := by decide +kernel
theorem dL_then_13 : decode cL_then 13 = .ok (.iconst 1, 1) := by decide +kernel
theorem dL_then_14 : decode cL_then 14 = .ok (.ireturn, 1) := by decide +kernel
theorem dL_then_15 : decode cL_then 15 = .ok (.iconst 0, 1) := by decide +kernel
theorem dL_then_16 : decode cL_then 16 = .ok (.ireturn, 1) := by decide +kernel
theorem dL_when_0 : decode cL_when 0 = .ok (.aload_n 3, 1) := by decide +kernel
theorem dL_when_1 : decode cL_when 1 = .ok (.iconst 0, 1) := by decide +kernel
theorem dL_when_2 : decode cL_when 2 = .ok (.aload_n 0, 1) := by decide +kernel
theorem dL_when_3 : decode cL_when 3 = .ok (.iload_n 1, 1) := by decide +kernel
theorem dL_when_4 : decode cL_when 4 = .ok (.iload_n 2, 1) := by decide +kernel
theorem dL_when_5 : decode cL_when 5 = .ok (.invokevirtual 69, 3) := by decide +kernel
theorem dL_when_8 : decode cL_when 8 = .ok (.i2l, 1) := by decide +kernel
theorem dL_when_9 : decode cL_when 9 = .ok (.lastore, 1) := by decide +kernel
theorem dL_when_10 : decode cL_when 10 = .ok (.goto 7, 3) := by decide +kernel
theorem dL_when_13 : decode cL_when 13 = .ok (.astore 4, 2) := by decide +kernel
theorem dL_when_15 : decode cL_when 15 = .ok (.iconst 1, 1) := by decide +kernel
theorem dL_when_16 : decode cL_when 16 = .ok (.ireturn, 1) := by decide +kernel
theorem dL_when_17 : decode cL_when 17 = .ok (.iconst 0, 1) := by decide +kernel
theorem dL_when_18 : decode cL_when 18 = .ok (.ireturn, 1) := by decide +kernel
theorem dL_quiet_0 : decode cL_quiet 0 = .ok (.aload_n 2, 1) := by decide +kernel
theorem dL_quiet_1 : decode cL_quiet 1 = .ok (.iconst 0, 1) := by decide +kernel
theorem dL_quiet_2 : decode cL_quiet 2 = .ok (.aload_n 0, 1) := by decide +kernel
theorem dL_quiet_3 : decode cL_quiet 3 = .ok (.iload_n 1, 1) := by decide +kernel
theorem dL_quiet_4 : decode cL_quiet 4 = .ok (.invokevirtual 72, 3) := by decide +kernel
theorem dL_quiet_7 : decode cL_quiet 7 = .ok (.i2l, 1) := by decide +kernel
theorem dL_quiet_8 : decode cL_quiet 8 = .ok (.lastore, 1) := by decide +kernel
theorem dL_quiet_9 : decode cL_quiet 9 = .ok (.goto 6, 3) := by decide +kernel
theorem dL_quiet_12 : decode cL_quiet 12 = .ok (.astore_n 3, 1) := by decide +kernel
theorem dL_quiet_13 : decode cL_quiet 13 = .ok (.iconst 1, 1) := by decide +kernel
theorem dL_quiet_14 : decode cL_quiet 14 = .ok (.ireturn, 1) := by decide +kernel
theorem dL_quiet_15 : decode cL_quiet 15 = .ok (.iconst 0, 1) := by decide +kernel
theorem dL_quiet_16 : decode cL_quiet 16 = .ok (.ireturn, 1) := by decide +kernel
theorem dL_spy_0 : decode cL_spy 0 = .ok (.aload_n 2, 1) := by decide +kernel
theorem dL_spy_1 : decode cL_spy 1 = .ok (.iconst 0, 1) := by decide +kernel
theorem dL_spy_2 : decode cL_spy 2 = .ok (.aload_n 0, 1) := by decide +kernel
theorem dL_spy_3 : decode cL_spy 3 = .ok (.iload_n 1, 1) := by decide +kernel
theorem dL_spy_4 : decode cL_spy 4 = .ok (.invokevirtual 75, 3) := by decide +kernel
theorem dL_spy_7 : decode cL_spy 7 = .ok (.i2l, 1) := by decide +kernel
theorem dL_spy_8 : decode cL_spy 8 = .ok (.lastore, 1) := by decide +kernel
theorem dL_spy_9 : decode cL_spy 9 = .ok (.goto 6, 3) := by decide +kernel
theorem dL_spy_12 : decode cL_spy 12 = .ok (.astore_n 3, 1) := by decide +kernel
theorem dL_spy_13 : decode cL_spy 13 = .ok (.iconst 1, 1) := by decide +kernel
theorem dL_spy_14 : decode cL_spy 14 = .ok (.ireturn, 1) := by decide +kernel
theorem dL_spy_15 : decode cL_spy 15 = .ok (.iconst 0, 1) := by decide +kernel
theorem dL_spy_16 : decode cL_spy 16 = .ok (.ireturn, 1) := by decide +kernel
theorem dL_listen_0 : decode cL_listen 0 = .ok (.aload_n 2, 1) := by decide +kernel
theorem dL_listen_1 : decode cL_listen 1 = .ok (.iconst 0, 1) := by decide +kernel
theorem dL_listen_2 : decode cL_listen 2 = .ok (.aload_n 0, 1) := by decide +kernel
theorem dL_listen_3 : decode cL_listen 3 = .ok (.iload_n 1, 1) := by decide +kernel
theorem dL_listen_4 : decode cL_listen 4 = .ok (.invokevirtual 78, 3) := by decide +kernel
theorem dL_listen_7 : decode cL_listen 7 = .ok (.i2l, 1) := by decide +kernel
theorem dL_listen_8 : decode cL_listen 8 = .ok (.lastore, 1) := by decide +kernel
theorem dL_listen_9 : decode cL_listen 9 = .ok (.goto 6, 3) := by decide +kernel
theorem dL_listen_12 : decode cL_listen 12 = .ok (.astore_n 3, 1) := by decide +kernel
theorem dL_listen_13 : decode cL_listen 13 = .ok (.iconst 1, 1) := by decide +kernel
theorem dL_listen_14 : decode cL_listen 14 = .ok (.ireturn, 1) := by decide +kernel
theorem dL_listen_15 : decode cL_listen 15 = .ok (.iconst 0, 1) := by decide +kernel
theorem dL_listen_16 : decode cL_listen 16 = .ok (.ireturn, 1) := by decide +kernel
theorem dL_game_0 : decode cL_game 0 = .ok (.aload 4, 2) := by decide +kernel
theorem dL_game_2 : decode cL_game 2 = .ok (.iconst 0, 1) := by decide +kernel
theorem dL_game_3 : decode cL_game 3 = .ok (.aload_n 0, 1) := by decide +kernel
theorem dL_game_4 : decode cL_game 4 = .ok (.iload_n 1, 1) := by decide +kernel
theorem dL_game_5 : decode cL_game 5 = .ok (.iload_n 2, 1) := by decide +kernel
theorem dL_game_6 : decode cL_game 6 = .ok (.iload_n 3, 1) := by decide +kernel
theorem dL_game_7 : decode cL_game 7 = .ok (.invokevirtual 81, 3) := by decide +kernel
theorem dL_game_10 : decode cL_game 10 = .ok (.i2l, 1) := by decide +kernel
theorem dL_game_11 : decode cL_game 11 = .ok (.lastore, 1) := by decide +kernel
theorem dL_game_12 : decode cL_game 12 = .ok (.goto 11, 3) := by decide +kernel
theorem dL_game_15 : decode cL_game 15 = .ok (.astore 5, 2) := by decide +kernel
theorem dL_game_17 : decode cL_game 17 = .ok (.iconst 1, 1) := by decide +kernel
theorem dL_game_18 : decode cL_game 18 = .ok (.ireturn, 1) := by decide +kernel
theorem dL_game_19 : decode cL_game 19 = .ok (.astore 5, 2) := by decide +kernel
theorem dL_game_21 : decode cL_game 21 = .ok (.iconst 2, 1) := by decide +kernel
theorem dL_game_22 : decode cL_game 22 = .ok (.ireturn, 1) := by decide +kernel
theorem dL_game_23 : decode cL_game 23 = .ok (.iconst 0, 1) := by decide +kernel
theorem dL_game_24 : decode cL_game 24 = .ok (.ireturn, 1) := by decide +kernel
theorem dL_century_0 : decode cL_century 0 = .ok (.aload 4, 2) := by decide +kernel
theorem dL_century_2 : decode cL_century 2 = .ok (.iconst 0, 1) := by decide +kernel
theorem dL_century_3 : decode cL_century 3 = .ok (.aload_n 0, 1) := by decide +kernel
theorem dL_century_4 : decode cL_century 4 = .ok (.iload_n 1, 1) := by decide +kernel
theorem dL_century_5 : decode cL_century 5 = .ok (.iload_n 2, 1) := by decide +kernel
theorem dL_century_6 : decode cL_century 6 = .ok (.iload_n 3, 1) := by decide +kernel
theorem dL_century_7 : decode cL_century 7 = .ok (.invokevirtual 84, 3) := by decide +kernel
theorem dL_century_10 : decode cL_century 10 = .ok (.i2l, 1) := by decide +kernel
theorem dL_century_11 : decode cL_century 11 = .ok (.lastore, 1) := by decide +kernel
theorem dL_century_12 : decode cL_century 12 = .ok (.goto 11, 3) := by decide +kernel
theorem dL_century_15 : decode cL_century 15 = .ok (.astore 5, 2) := by decide +kernel
theorem dL_century_17 : decode cL_century 17 = .ok (.iconst 1, 1) := by decide +kernel
theorem dL_century_18 : decode cL_century 18 = .ok (.ireturn, 1) := by decide +kernel
theorem dL_century_19 : decode cL_century 19 = .ok (.astore 5, 2) := by decide +kernel
theorem dL_century_21 : decode cL_century 21 = .ok (.iconst 2, 1) := by decide +kernel
theorem dL_century_22 : decode cL_century 22 = .ok (.ireturn, 1) := by decide +kernel
theorem dL_century_23 : decode cL_century 23 = .ok (.iconst 0, 1) := by decide +kernel
theorem dL_century_24 : decode cL_century 24 = .ok (.ireturn, 1) := by decide +kernel
