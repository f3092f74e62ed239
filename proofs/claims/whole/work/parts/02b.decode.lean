theorem dS_bringWhatIsLedTo_0 : decode cS_bringWhatIsLedTo 0 = .ok (.iconst 0, 1) := by decide +kernel
theorem dS_bringWhatIsLedTo_1 : decode cS_bringWhatIsLedTo 1 = .ok (.istore_n 1, 1) := by decide +kernel
theorem dS_bringWhatIsLedTo_2 : decode cS_bringWhatIsLedTo 2 = .ok (.aload_n 0, 1) := by decide +kernel
theorem dS_bringWhatIsLedTo_3 : decode cS_bringWhatIsLedTo 3 = .ok (.getfield 17, 3) := by decide +kernel
theorem dS_bringWhatIsLedTo_6 : decode cS_bringWhatIsLedTo 6 = .ok (.astore_n 2, 1) := by decide +kernel
theorem dS_bringWhatIsLedTo_7 : decode cS_bringWhatIsLedTo 7 = .ok (.aload_n 2, 1) := by decide +kernel
theorem dS_bringWhatIsLedTo_8 : decode cS_bringWhatIsLedTo 8 = .ok (.arraylength, 1) := by decide +kernel
theorem dS_bringWhatIsLedTo_9 : decode cS_bringWhatIsLedTo 9 = .ok (.istore_n 3, 1) := by decide +kernel
theorem dS_bringWhatIsLedTo_10 : decode cS_bringWhatIsLedTo 10 = .ok (.iconst 0, 1) := by decide +kernel
theorem dS_bringWhatIsLedTo_11 : decode cS_bringWhatIsLedTo 11 = .ok (.istore 4, 2) := by decide +kernel
theorem dS_bringWhatIsLedTo_13 : decode cS_bringWhatIsLedTo 13 = .ok (.iload 4, 2) := by decide +kernel
theorem dS_bringWhatIsLedTo_15 : decode cS_bringWhatIsLedTo 15 = .ok (.iload_n 3, 1) := by decide +kernel
theorem dS_bringWhatIsLedTo_16 : decode cS_bringWhatIsLedTo 16 = .ok (.if_icmp .ge (62), 3) := by decide +kernel
theorem dS_bringWhatIsLedTo_19 : decode cS_bringWhatIsLedTo 19 = .ok (.aload_n 2, 1) := by decide +kernel
theorem dS_bringWhatIsLedTo_20 : decode cS_bringWhatIsLedTo 20 = .ok (.iload 4, 2) := by decide +kernel
theorem dS_bringWhatIsLedTo_22 : decode cS_bringWhatIsLedTo 22 = .ok (.aaload, 1) := by decide +kernel
theorem dS_bringWhatIsLedTo_23 : decode cS_bringWhatIsLedTo 23 = .ok (.astore 5, 2) := by decide +kernel
theorem dS_bringWhatIsLedTo_25 : decode cS_bringWhatIsLedTo 25 = .ok (.aload 5, 2) := by decide +kernel
theorem dS_bringWhatIsLedTo_27 : decode cS_bringWhatIsLedTo 27 = .ok (.ifnonnull (6), 3) := by decide +kernel
theorem dS_bringWhatIsLedTo_30 : decode cS_bringWhatIsLedTo 30 = .ok (.goto (48), 3) := by decide +kernel
theorem dS_bringWhatIsLedTo_33 : decode cS_bringWhatIsLedTo 33 = .ok (.aload 5, 2) := by decide +kernel
theorem dS_bringWhatIsLedTo_35 : decode cS_bringWhatIsLedTo 35 = .ok (.invokestatic 193, 3) := by decide +kernel
theorem dS_bringWhatIsLedTo_38 : decode cS_bringWhatIsLedTo 38 = .ok (.astore 6, 2) := by decide +kernel
theorem dS_bringWhatIsLedTo_40 : decode cS_bringWhatIsLedTo 40 = .ok (.aload 6, 2) := by decide +kernel
theorem dS_bringWhatIsLedTo_42 : decode cS_bringWhatIsLedTo 42 = .ok (.ifnull (30), 3) := by decide +kernel
theorem dS_bringWhatIsLedTo_45 : decode cS_bringWhatIsLedTo 45 = .ok (.aload 6, 2) := by decide +kernel
theorem dS_bringWhatIsLedTo_47 : decode cS_bringWhatIsLedTo 47 = .ok (.getfield 108, 3) := by decide +kernel
theorem dS_bringWhatIsLedTo_50 : decode cS_bringWhatIsLedTo 50 = .ok (.ifCond .eq (22), 3) := by decide +kernel
theorem dS_bringWhatIsLedTo_53 : decode cS_bringWhatIsLedTo 53 = .ok (.aload 5, 2) := by decide +kernel
theorem dS_bringWhatIsLedTo_55 : decode cS_bringWhatIsLedTo 55 = .ok (.getfield 144, 3) := by decide +kernel
theorem dS_bringWhatIsLedTo_58 : decode cS_bringWhatIsLedTo 58 = .ok (.getfield 108, 3) := by decide +kernel
theorem dS_bringWhatIsLedTo_61 : decode cS_bringWhatIsLedTo 61 = .ok (.ifCond .ne (11), 3) := by decide +kernel
theorem dS_bringWhatIsLedTo_64 : decode cS_bringWhatIsLedTo 64 = .ok (.aload 6, 2) := by decide +kernel
theorem dS_bringWhatIsLedTo_66 : decode cS_bringWhatIsLedTo 66 = .ok (.iconst 0, 1) := by decide +kernel
theorem dS_bringWhatIsLedTo_67 : decode cS_bringWhatIsLedTo 67 = .ok (.putfield 108, 3) := by decide +kernel
theorem dS_bringWhatIsLedTo_70 : decode cS_bringWhatIsLedTo 70 = .ok (.iconst 1, 1) := by decide +kernel
theorem dS_bringWhatIsLedTo_71 : decode cS_bringWhatIsLedTo 71 = .ok (.istore_n 1, 1) := by decide +kernel
theorem dS_bringWhatIsLedTo_72 : decode cS_bringWhatIsLedTo 72 = .ok (.iinc 4 (1), 3) := by decide +kernel
theorem dS_bringWhatIsLedTo_75 : decode cS_bringWhatIsLedTo 75 = .ok (.goto (-62), 3) := by decide +kernel
theorem dS_bringWhatIsLedTo_78 : decode cS_bringWhatIsLedTo 78 = .ok (.iload_n 1, 1) := by decide +kernel
theorem dS_bringWhatIsLedTo_79 : decode cS_bringWhatIsLedTo 79 = .ok (.ireturn, 1) := by decide +kernel
theorem dS_countGone_0 : decode cS_countGone 0 = .ok (.iconst 0, 1) := by decide +kernel
theorem dS_countGone_1 : decode cS_countGone 1 = .ok (.istore_n 1, 1) := by decide +kernel
theorem dS_countGone_2 : decode cS_countGone 2 = .ok (.aload_n 0, 1) := by decide +kernel
theorem dS_countGone_3 : decode cS_countGone 3 = .ok (.getfield 11, 3) := by decide +kernel
theorem dS_countGone_6 : decode cS_countGone 6 = .ok (.astore_n 2, 1) := by decide +kernel
theorem dS_countGone_7 : decode cS_countGone 7 = .ok (.aload_n 2, 1) := by decide +kernel
theorem dS_countGone_8 : decode cS_countGone 8 = .ok (.arraylength, 1) := by decide +kernel
theorem dS_countGone_9 : decode cS_countGone 9 = .ok (.istore_n 3, 1) := by decide +kernel
theorem dS_countGone_10 : decode cS_countGone 10 = .ok (.iconst 0, 1) := by decide +kernel
theorem dS_countGone_11 : decode cS_countGone 11 = .ok (.istore 4, 2) := by decide +kernel
theorem dS_countGone_13 : decode cS_countGone 13 = .ok (.iload 4, 2) := by decide +kernel
theorem dS_countGone_15 : decode cS_countGone 15 = .ok (.iload_n 3, 1) := by decide +kernel
theorem dS_countGone_16 : decode cS_countGone 16 = .ok (.if_icmp .ge (34), 3) := by decide +kernel
theorem dS_countGone_19 : decode cS_countGone 19 = .ok (.aload_n 2, 1) := by decide +kernel
theorem dS_countGone_20 : decode cS_countGone 20 = .ok (.iload 4, 2) := by decide +kernel
theorem dS_countGone_22 : decode cS_countGone 22 = .ok (.aaload, 1) := by decide +kernel
theorem dS_countGone_23 : decode cS_countGone 23 = .ok (.astore 5, 2) := by decide +kernel
theorem dS_countGone_25 : decode cS_countGone 25 = .ok (.aload 5, 2) := by decide +kernel
theorem dS_countGone_27 : decode cS_countGone 27 = .ok (.ifnonnull (6), 3) := by decide +kernel
theorem dS_countGone_30 : decode cS_countGone 30 = .ok (.goto (20), 3) := by decide +kernel
theorem dS_countGone_33 : decode cS_countGone 33 = .ok (.aload 5, 2) := by decide +kernel
theorem dS_countGone_35 : decode cS_countGone 35 = .ok (.getfield 108, 3) := by decide +kernel
theorem dS_countGone_38 : decode cS_countGone 38 = .ok (.ifCond .eq (6), 3) := by decide +kernel
theorem dS_countGone_41 : decode cS_countGone 41 = .ok (.iinc 1 (1), 3) := by decide +kernel
theorem dS_countGone_44 : decode cS_countGone 44 = .ok (.iinc 4 (1), 3) := by decide +kernel
theorem dS_countGone_47 : decode cS_countGone 47 = .ok (.goto (-34), 3) := by decide +kernel
theorem dS_countGone_50 : decode cS_countGone 50 = .ok (.iload_n 1, 1) := by decide +kernel
theorem dS_countGone_51 : decode cS_countGone 51 = .ok (.ireturn, 1) := by decide +kernel
theorem dS_back_0 : decode cS_back 0 = .ok (.aload_n 0, 1) := by decide +kernel
theorem dS_back_1 : decode cS_back 1 = .ok (.getfield 11, 3) := by decide +kernel
theorem dS_back_4 : decode cS_back 4 = .ok (.astore_n 1, 1) := by decide +kernel
theorem dS_back_5 : decode cS_back 5 = .ok (.aload_n 1, 1) := by decide +kernel
theorem dS_back_6 : decode cS_back 6 = .ok (.arraylength, 1) := by decide +kernel
theorem dS_back_7 : decode cS_back 7 = .ok (.istore_n 2, 1) := by decide +kernel
theorem dS_back_8 : decode cS_back 8 = .ok (.iconst 0, 1) := by decide +kernel
theorem dS_back_9 : decode cS_back 9 = .ok (.istore_n 3, 1) := by decide +kernel
theorem dS_back_10 : decode cS_back 10 = .ok (.iload_n 3, 1) := by decide +kernel
theorem dS_back_11 : decode cS_back 11 = .ok (.iload_n 2, 1) := by decide +kernel
theorem dS_back_12 : decode cS_back 12 = .ok (.if_icmp .ge (28), 3) := by decide +kernel
theorem dS_back_15 : decode cS_back 15 = .ok (.aload_n 1, 1) := by decide +kernel
theorem dS_back_16 : decode cS_back 16 = .ok (.iload_n 3, 1) := by decide +kernel
theorem dS_back_17 : decode cS_back 17 = .ok (.aaload, 1) := by decide +kernel
theorem dS_back_18 : decode cS_back 18 = .ok (.astore 4, 2) := by decide +kernel
theorem dS_back_20 : decode cS_back 20 = .ok (.aload 4, 2) := by decide +kernel
theorem dS_back_22 : decode cS_back 22 = .ok (.ifnonnull (6), 3) := by decide +kernel
theorem dS_back_25 : decode cS_back 25 = .ok (.goto (15), 3) := by decide +kernel
theorem dS_back_28 : decode cS_back 28 = .ok (.aload 4, 2) := by decide +kernel
theorem dS_back_30 : decode cS_back 30 = .ok (.iconst 0, 1) := by decide +kernel
theorem dS_back_31 : decode cS_back 31 = .ok (.putfield 108, 3) := by decide +kernel
theorem dS_back_34 : decode cS_back 34 = .ok (.iinc 3 (1), 3) := by decide +kernel
theorem dS_back_37 : decode cS_back 37 = .ok (.goto (-27), 3) := by decide +kernel
theorem dS_back_40 : decode cS_back 40 = .ok (.return_, 1) := by decide +kernel
theorem dS_pass_0 : decode cS_pass 0 = .ok (.aload_n 0, 1) := by decide +kernel
theorem dS_pass_1 : decode cS_pass 1 = .ok (.invokevirtual 119, 3) := by decide +kernel
theorem dS_pass_4 : decode cS_pass 4 = .ok (.ireturn, 1) := by decide +kernel
theorem dS_makePass_0 : decode cS_makePass 0 = .ok (.aload_n 0, 1) := by decide +kernel
theorem dS_makePass_1 : decode cS_makePass 1 = .ok (.invokevirtual 141, 3) := by decide +kernel
theorem dS_makePass_4 : decode cS_makePass 4 = .ok (.iconst 0, 1) := by decide +kernel
theorem dS_makePass_5 : decode cS_makePass 5 = .ok (.istore_n 1, 1) := by decide +kernel
theorem dS_makePass_6 : decode cS_makePass 6 = .ok (.aload_n 0, 1) := by decide +kernel
theorem dS_makePass_7 : decode cS_makePass 7 = .ok (.getfield 17, 3) := by decide +kernel
theorem dS_makePass_10 : decode cS_makePass 10 = .ok (.astore_n 2, 1) := by decide +kernel
theorem dS_makePass_11 : decode cS_makePass 11 = .ok (.aload_n 2, 1) := by decide +kernel
theorem dS_makePass_12 : decode cS_makePass 12 = .ok (.arraylength, 1) := by decide +kernel
theorem dS_makePass_13 : decode cS_makePass 13 = .ok (.istore_n 3, 1) := by decide +kernel
theorem dS_makePass_14 : decode cS_makePass 14 = .ok (.iconst 0, 1) := by decide +kernel
theorem dS_makePass_15 : decode cS_makePass 15 = .ok (.istore 4, 2) := by decide +kernel
theorem dS_makePass_17 : decode cS_makePass 17 = .ok (.iload 4, 2) := by decide +kernel
theorem dS_makePass_19 : decode cS_makePass 19 = .ok (.iload_n 3, 1) := by decide +kernel
theorem dS_makePass_20 : decode cS_makePass 20 = .ok (.if_icmp .ge (68), 3) := by decide +kernel
theorem dS_makePass_23 : decode cS_makePass 23 = .ok (.aload_n 2, 1) := by decide +kernel
theorem dS_makePass_24 : decode cS_makePass 24 = .ok (.iload 4, 2) := by decide +kernel
theorem dS_makePass_26 : decode cS_makePass 26 = .ok (.aaload, 1) := by decide +kernel
theorem dS_makePass_27 : decode cS_makePass 27 = .ok (.astore 5, 2) := by decide +kernel
theorem dS_makePass_29 : decode cS_makePass 29 = .ok (.aload 5, 2) := by decide +kernel
theorem dS_makePass_31 : decode cS_makePass 31 = .ok (.ifnonnull (6), 3) := by decide +kernel
theorem dS_makePass_34 : decode cS_makePass 34 = .ok (.goto (54), 3) := by decide +kernel
theorem dS_makePass_37 : decode cS_makePass 37 = .ok (.aload 5, 2) := by decide +kernel
theorem dS_makePass_39 : decode cS_makePass 39 = .ok (.getfield 138, 3) := by decide +kernel
theorem dS_makePass_42 : decode cS_makePass 42 = .ok (.ifCond .ne (40), 3) := by decide +kernel
theorem dS_makePass_45 : decode cS_makePass 45 = .ok (.aload 5, 2) := by decide +kernel
theorem dS_makePass_47 : decode cS_makePass 47 = .ok (.getfield 144, 3) := by decide +kernel
theorem dS_makePass_50 : decode cS_makePass 50 = .ok (.getfield 108, 3) := by decide +kernel
theorem dS_makePass_53 : decode cS_makePass 53 = .ok (.ifCond .ne (29), 3) := by decide +kernel
theorem dS_makePass_56 : decode cS_makePass 56 = .ok (.aload 5, 2) := by decide +kernel
theorem dS_makePass_58 : decode cS_makePass 58 = .ok (.getfield 148, 3) := by decide +kernel
theorem dS_makePass_61 : decode cS_makePass 61 = .ok (.aload 5, 2) := by decide +kernel
theorem dS_makePass_63 : decode cS_makePass 63 = .ok (.getfield 135, 3) := by decide +kernel
theorem dS_makePass_66 : decode cS_makePass 66 = .ok (.if_icmp .ge (16), 3) := by decide +kernel
theorem dS_makePass_69 : decode cS_makePass 69 = .ok (.aload 5, 2) := by decide +kernel
theorem dS_makePass_71 : decode cS_makePass 71 = .ok (.aload 5, 2) := by decide +kernel
theorem dS_makePass_73 : decode cS_makePass 73 = .ok (.getfield 148, 3) := by decide +kernel
theorem dS_makePass_76 : decode cS_makePass 76 = .ok (.putfield 135, 3) := by decide +kernel
theorem dS_makePass_79 : decode cS_makePass 79 = .ok (.iinc 1 (1), 3) := by decide +kernel
theorem dS_makePass_82 : decode cS_makePass 82 = .ok (.iinc 4 (1), 3) := by decide +kernel
theorem dS_makePass_85 : decode cS_makePass 85 = .ok (.goto (-68), 3) := by decide +kernel
theorem dS_makePass_88 : decode cS_makePass 88 = .ok (.iload_n 1, 1) := by decide +kernel
theorem dS_makePass_89 : decode cS_makePass 89 = .ok (.ireturn, 1) := by decide +kernel
theorem dS_survey_0 : decode cS_survey 0 = .ok (.aload_n 0, 1) := by decide +kernel
theorem dS_survey_1 : decode cS_survey 1 = .ok (.getfield 101, 3) := by decide +kernel
theorem dS_survey_4 : decode cS_survey 4 = .ok (.istore_n 1, 1) := by decide +kernel
theorem dS_survey_5 : decode cS_survey 5 = .ok (.iconst 0, 1) := by decide +kernel
theorem dS_survey_6 : decode cS_survey 6 = .ok (.istore_n 2, 1) := by decide +kernel
theorem dS_survey_7 : decode cS_survey 7 = .ok (.iload_n 2, 1) := by decide +kernel
theorem dS_survey_8 : decode cS_survey 8 = .ok (.iconst 4, 1) := by decide +kernel
theorem dS_survey_9 : decode cS_survey 9 = .ok (.if_icmp .ge (16), 3) := by decide +kernel
theorem dS_survey_12 : decode cS_survey 12 = .ok (.aload_n 0, 1) := by decide +kernel
theorem dS_survey_13 : decode cS_survey 13 = .ok (.iload_n 2, 1) := by decide +kernel
theorem dS_survey_14 : decode cS_survey 14 = .ok (.iload_n 1, 1) := by decide +kernel
theorem dS_survey_15 : decode cS_survey 15 = .ok (.invokevirtual 197, 3) := by decide +kernel
theorem dS_survey_18 : decode cS_survey 18 = .ok (.istore_n 1, 1) := by decide +kernel
theorem dS_survey_19 : decode cS_survey 19 = .ok (.iinc 2 (1), 3) := by decide +kernel
theorem dS_survey_22 : decode cS_survey 22 = .ok (.goto (-15), 3) := by decide +kernel
theorem dS_survey_25 : decode cS_survey 25 = .ok (.aload_n 0, 1) := by decide +kernel
theorem dS_survey_26 : decode cS_survey 26 = .ok (.getfield 17, 3) := by decide +kernel
theorem dS_survey_29 : decode cS_survey 29 = .ok (.astore_n 2, 1) := by decide +kernel
theorem dS_survey_30 : decode cS_survey 30 = .ok (.aload_n 2, 1) := by decide +kernel
theorem dS_survey_31 : decode cS_survey 31 = .ok (.arraylength, 1) := by decide +kernel
theorem dS_survey_32 : decode cS_survey 32 = .ok (.istore_n 3, 1) := by decide +kernel
theorem dS_survey_33 : decode cS_survey 33 = .ok (.iconst 0, 1) := by decide +kernel
theorem dS_survey_34 : decode cS_survey 34 = .ok (.istore 4, 2) := by decide +kernel
theorem dS_survey_36 : decode cS_survey 36 = .ok (.iload 4, 2) := by decide +kernel
theorem dS_survey_38 : decode cS_survey 38 = .ok (.iload_n 3, 1) := by decide +kernel
theorem dS_survey_39 : decode cS_survey 39 = .ok (.if_icmp .ge (45), 3) := by decide +kernel
theorem dS_survey_42 : decode cS_survey 42 = .ok (.aload_n 2, 1) := by decide +kernel
theorem dS_survey_43 : decode cS_survey 43 = .ok (.iload 4, 2) := by decide +kernel
theorem dS_survey_45 : decode cS_survey 45 = .ok (.aaload, 1) := by decide +kernel
theorem dS_survey_46 : decode cS_survey 46 = .ok (.astore 5, 2) := by decide +kernel
theorem dS_survey_48 : decode cS_survey 48 = .ok (.aload 5, 2) := by decide +kernel
theorem dS_survey_50 : decode cS_survey 50 = .ok (.ifnonnull (6), 3) := by decide +kernel
theorem dS_survey_53 : decode cS_survey 53 = .ok (.goto (31), 3) := by decide +kernel
theorem dS_survey_56 : decode cS_survey 56 = .ok (.aload 5, 2) := by decide +kernel
theorem dS_survey_58 : decode cS_survey 58 = .ok (.getfield 144, 3) := by decide +kernel
theorem dS_survey_61 : decode cS_survey 61 = .ok (.getfield 108, 3) := by decide +kernel
theorem dS_survey_64 : decode cS_survey 64 = .ok (.ifCond .ne (14), 3) := by decide +kernel
theorem dS_survey_67 : decode cS_survey 67 = .ok (.aload 5, 2) := by decide +kernel
theorem dS_survey_69 : decode cS_survey 69 = .ok (.aload_n 0, 1) := by decide +kernel
theorem dS_survey_70 : decode cS_survey 70 = .ok (.aload 5, 2) := by decide +kernel
theorem dS_survey_72 : decode cS_survey 72 = .ok (.invokevirtual 200, 3) := by decide +kernel
theorem dS_survey_75 : decode cS_survey 75 = .ok (.putfield 148, 3) := by decide +kernel
theorem dS_survey_78 : decode cS_survey 78 = .ok (.iinc 4 (1), 3) := by decide +kernel
theorem dS_survey_81 : decode cS_survey 81 = .ok (.goto (-45), 3) := by decide +kernel
theorem dS_survey_84 : decode cS_survey 84 = .ok (.return_, 1) := by decide +kernel
theorem dS_placeOutput_0 : decode cS_placeOutput 0 = .ok (.iload_n 2, 1) := by decide +kernel
theorem dS_placeOutput_1 : decode cS_placeOutput 1 = .ok (.iload_n 2, 1) := by decide +kernel
theorem dS_placeOutput_2 : decode cS_placeOutput 2 = .ok (.aload_n 0, 1) := by decide +kernel
theorem dS_placeOutput_3 : decode cS_placeOutput 3 = .ok (.getfield 27, 3) := by decide +kernel
theorem dS_placeOutput_6 : decode cS_placeOutput 6 = .ok (.iload_n 1, 1) := by decide +kernel
theorem dS_placeOutput_7 : decode cS_placeOutput 7 = .ok (.iaload, 1) := by decide +kernel
theorem dS_placeOutput_8 : decode cS_placeOutput 8 = .ok (.invokestatic 157, 3) := by decide +kernel
theorem dS_placeOutput_11 : decode cS_placeOutput 11 = .ok (.iadd, 1) := by decide +kernel
theorem dS_placeOutput_12 : decode cS_placeOutput 12 = .ok (.istore_n 3, 1) := by decide +kernel
theorem dS_placeOutput_13 : decode cS_placeOutput 13 = .ok (.aload_n 0, 1) := by decide +kernel
theorem dS_placeOutput_14 : decode cS_placeOutput 14 = .ok (.getfield 31, 3) := by decide +kernel
theorem dS_placeOutput_17 : decode cS_placeOutput 17 = .ok (.iload_n 1, 1) := by decide +kernel
theorem dS_placeOutput_18 : decode cS_placeOutput 18 = .ok (.iload_n 3, 1) := by decide +kernel
theorem dS_placeOutput_19 : decode cS_placeOutput 19 = .ok (.iastore, 1) := by decide +kernel
theorem dS_placeOutput_20 : decode cS_placeOutput 20 = .ok (.aload_n 0, 1) := by decide +kernel
theorem dS_placeOutput_21 : decode cS_placeOutput 21 = .ok (.getfield 11, 3) := by decide +kernel
theorem dS_placeOutput_24 : decode cS_placeOutput 24 = .ok (.astore 4, 2) := by decide +kernel
theorem dS_placeOutput_26 : decode cS_placeOutput 26 = .ok (.aload 4, 2) := by decide +kernel
theorem dS_placeOutput_28 : decode cS_placeOutput 28 = .ok (.arraylength, 1) := by decide +kernel
theorem dS_placeOutput_29 : decode cS_placeOutput 29 = .ok (.istore 5, 2) := by decide +kernel
theorem dS_placeOutput_31 : decode cS_placeOutput 31 = .ok (.iconst 0, 1) := by decide +kernel
theorem dS_placeOutput_32 : decode cS_placeOutput 32 = .ok (.istore 6, 2) := by decide +kernel
theorem dS_placeOutput_34 : decode cS_placeOutput 34 = .ok (.iload 6, 2) := by decide +kernel
theorem dS_placeOutput_36 : decode cS_placeOutput 36 = .ok (.iload 5, 2) := by decide +kernel
theorem dS_placeOutput_38 : decode cS_placeOutput 38 = .ok (.if_icmp .ge (48), 3) := by decide +kernel
theorem dS_placeOutput_41 : decode cS_placeOutput 41 = .ok (.aload 4, 2) := by decide +kernel
theorem dS_placeOutput_43 : decode cS_placeOutput 43 = .ok (.iload 6, 2) := by decide +kernel
theorem dS_placeOutput_45 : decode cS_placeOutput 45 = .ok (.aaload, 1) := by decide +kernel
theorem dS_placeOutput_46 : decode cS_placeOutput 46 = .ok (.astore 7, 2) := by decide +kernel
theorem dS_placeOutput_48 : decode cS_placeOutput 48 = .ok (.aload 7, 2) := by decide +kernel
theorem dS_placeOutput_50 : decode cS_placeOutput 50 = .ok (.ifnonnull (6), 3) := by decide +kernel
theorem dS_placeOutput_53 : decode cS_placeOutput 53 = .ok (.goto (33), 3) := by decide +kernel
theorem dS_placeOutput_56 : decode cS_placeOutput 56 = .ok (.aload 7, 2) := by decide +kernel
theorem dS_placeOutput_58 : decode cS_placeOutput 58 = .ok (.getfield 174, 3) := by decide +kernel
theorem dS_placeOutput_61 : decode cS_placeOutput 61 = .ok (.iload_n 1, 1) := by decide +kernel
theorem dS_placeOutput_62 : decode cS_placeOutput 62 = .ok (.if_icmp .ne (18), 3) := by decide +kernel
theorem dS_placeOutput_65 : decode cS_placeOutput 65 = .ok (.aload 7, 2) := by decide +kernel
theorem dS_placeOutput_67 : decode cS_placeOutput 67 = .ok (.getfield 108, 3) := by decide +kernel
theorem dS_placeOutput_70 : decode cS_placeOutput 70 = .ok (.ifCond .ne (10), 3) := by decide +kernel
theorem dS_placeOutput_73 : decode cS_placeOutput 73 = .ok (.aload 7, 2) := by decide +kernel
theorem dS_placeOutput_75 : decode cS_placeOutput 75 = .ok (.iload_n 3, 1) := by decide +kernel
theorem dS_placeOutput_76 : decode cS_placeOutput 76 = .ok (.invokestatic 203, 3) := by decide +kernel
theorem dS_placeOutput_79 : decode cS_placeOutput 79 = .ok (.istore_n 3, 1) := by decide +kernel
theorem dS_placeOutput_80 : decode cS_placeOutput 80 = .ok (.iinc 6 (1), 3) := by decide +kernel
theorem dS_placeOutput_83 : decode cS_placeOutput 83 = .ok (.goto (-49), 3) := by decide +kernel
theorem dS_placeOutput_86 : decode cS_placeOutput 86 = .ok (.aload_n 0, 1) := by decide +kernel
theorem dS_placeOutput_87 : decode cS_placeOutput 87 = .ok (.getfield 34, 3) := by decide +kernel
theorem dS_placeOutput_90 : decode cS_placeOutput 90 = .ok (.iload_n 1, 1) := by decide +kernel
theorem dS_placeOutput_91 : decode cS_placeOutput 91 = .ok (.iload_n 3, 1) := by decide +kernel
theorem dS_placeOutput_92 : decode cS_placeOutput 92 = .ok (.iastore, 1) := by decide +kernel
theorem dS_placeOutput_93 : decode cS_placeOutput 93 = .ok (.iload_n 3, 1) := by decide +kernel
theorem dS_placeOutput_94 : decode cS_placeOutput 94 = .ok (.ireturn, 1) := by decide +kernel
theorem dS_bytesToMultiple_0 : decode cS_bytesToMultiple 0 = .ok (.iload_n 0, 1) := by decide +kernel
theorem dS_bytesToMultiple_1 : decode cS_bytesToMultiple 1 = .ok (.ineg, 1) := by decide +kernel
theorem dS_bytesToMultiple_2 : decode cS_bytesToMultiple 2 = .ok (.iconst 1, 1) := by decide +kernel
theorem dS_bytesToMultiple_3 : decode cS_bytesToMultiple 3 = .ok (.iload_n 1, 1) := by decide +kernel
theorem dS_bytesToMultiple_4 : decode cS_bytesToMultiple 4 = .ok (.ishl, 1) := by decide +kernel
theorem dS_bytesToMultiple_5 : decode cS_bytesToMultiple 5 = .ok (.iconst 1, 1) := by decide +kernel
theorem dS_bytesToMultiple_6 : decode cS_bytesToMultiple 6 = .ok (.isub, 1) := by decide +kernel
theorem dS_bytesToMultiple_7 : decode cS_bytesToMultiple 7 = .ok (.iand, 1) := by decide +kernel
theorem dS_bytesToMultiple_8 : decode cS_bytesToMultiple 8 = .ok (.ireturn, 1) := by decide +kernel
theorem dS_placePart_0 : decode cS_placePart 0 = .ok (.iload_n 1, 1) := by decide +kernel
theorem dS_placePart_1 : decode cS_placePart 1 = .ok (.iload_n 1, 1) := by decide +kernel
theorem dS_placePart_2 : decode cS_placePart 2 = .ok (.aload_n 0, 1) := by decide +kernel
theorem dS_placePart_3 : decode cS_placePart 3 = .ok (.getfield 207, 3) := by decide +kernel
theorem dS_placePart_6 : decode cS_placePart 6 = .ok (.invokestatic 157, 3) := by decide +kernel
theorem dS_placePart_9 : decode cS_placePart 9 = .ok (.iadd, 1) := by decide +kernel
theorem dS_placePart_10 : decode cS_placePart 10 = .ok (.istore_n 2, 1) := by decide +kernel
theorem dS_placePart_11 : decode cS_placePart 11 = .ok (.aload_n 0, 1) := by decide +kernel
theorem dS_placePart_12 : decode cS_placePart 12 = .ok (.iload_n 2, 1) := by decide +kernel
theorem dS_placePart_13 : decode cS_placePart 13 = .ok (.putfield 177, 3) := by decide +kernel
theorem dS_placePart_16 : decode cS_placePart 16 = .ok (.aload_n 0, 1) := by decide +kernel
theorem dS_placePart_17 : decode cS_placePart 17 = .ok (.getfield 208, 3) := by decide +kernel
theorem dS_placePart_20 : decode cS_placePart 20 = .ok (.astore_n 3, 1) := by decide +kernel
theorem dS_placePart_21 : decode cS_placePart 21 = .ok (.aload_n 3, 1) := by decide +kernel
theorem dS_placePart_22 : decode cS_placePart 22 = .ok (.ifnull (50), 3) := by decide +kernel
theorem dS_placePart_25 : decode cS_placePart 25 = .ok (.aload_n 3, 1) := by decide +kernel
theorem dS_placePart_26 : decode cS_placePart 26 = .ok (.iload_n 2, 1) := by decide +kernel
theorem dS_placePart_27 : decode cS_placePart 27 = .ok (.putfield 151, 3) := by decide +kernel
theorem dS_placePart_30 : decode cS_placePart 30 = .ok (.aload_n 3, 1) := by decide +kernel
theorem dS_placePart_31 : decode cS_placePart 31 = .ok (.getfield 86, 3) := by decide +kernel
theorem dS_placePart_34 : decode cS_placePart 34 = .ok (.iconst 4, 1) := by decide +kernel
theorem dS_placePart_35 : decode cS_placePart 35 = .ok (.if_icmp .ne (22), 3) := by decide +kernel
theorem dS_placePart_38 : decode cS_placePart 38 = .ok (.aload_n 3, 1) := by decide +kernel
theorem dS_placePart_39 : decode cS_placePart 39 = .ok (.iload_n 2, 1) := by decide +kernel
theorem dS_placePart_40 : decode cS_placePart 40 = .ok (.aload_n 3, 1) := by decide +kernel
theorem dS_placePart_41 : decode cS_placePart 41 = .ok (.getfield 154, 3) := by decide +kernel
theorem dS_placePart_44 : decode cS_placePart 44 = .ok (.invokestatic 157, 3) := by decide +kernel
theorem dS_placePart_47 : decode cS_placePart 47 = .ok (.aload_n 3, 1) := by decide +kernel
theorem dS_placePart_48 : decode cS_placePart 48 = .ok (.getfield 89, 3) := by decide +kernel
theorem dS_placePart_51 : decode cS_placePart 51 = .ok (.invokestatic 211, 3) := by decide +kernel
theorem dS_placePart_54 : decode cS_placePart 54 = .ok (.putfield 135, 3) := by decide +kernel
theorem dS_placePart_57 : decode cS_placePart 57 = .ok (.iload_n 2, 1) := by decide +kernel
theorem dS_placePart_58 : decode cS_placePart 58 = .ok (.aload_n 3, 1) := by decide +kernel
theorem dS_placePart_59 : decode cS_placePart 59 = .ok (.getfield 135, 3) := by decide +kernel
theorem dS_placePart_62 : decode cS_placePart 62 = .ok (.iadd, 1) := by decide +kernel
theorem dS_placePart_63 : decode cS_placePart 63 = .ok (.istore_n 2, 1) := by decide +kernel
theorem dS_placePart_64 : decode cS_placePart 64 = .ok (.aload_n 3, 1) := by decide +kernel
theorem dS_placePart_65 : decode cS_placePart 65 = .ok (.getfield 216, 3) := by decide +kernel
theorem dS_placePart_68 : decode cS_placePart 68 = .ok (.astore_n 3, 1) := by decide +kernel
theorem dS_placePart_69 : decode cS_placePart 69 = .ok (.goto (-48), 3) := by decide +kernel
theorem dS_placePart_72 : decode cS_placePart 72 = .ok (.aload_n 0, 1) := by decide +kernel
theorem dS_placePart_73 : decode cS_placePart 73 = .ok (.iload_n 2, 1) := by decide +kernel
theorem dS_placePart_74 : decode cS_placePart 74 = .ok (.putfield 180, 3) := by decide +kernel
theorem dS_placePart_77 : decode cS_placePart 77 = .ok (.iload_n 2, 1) := by decide +kernel
theorem dS_placePart_78 : decode cS_placePart 78 = .ok (.ireturn, 1) := by decide +kernel
theorem dS_leastSize_0 : decode cS_leastSize 0 = .ok (.aload_n 1, 1) := by decide +kernel
theorem dS_leastSize_1 : decode cS_leastSize 1 = .ok (.getfield 128, 3) := by decide +kernel
theorem dS_leastSize_4 : decode cS_leastSize 4 = .ok (.ifnonnull (8), 3) := by decide +kernel
theorem dS_leastSize_7 : decode cS_leastSize 7 = .ok (.aload_n 1, 1) := by decide +kernel
theorem dS_leastSize_8 : decode cS_leastSize 8 = .ok (.getfield 135, 3) := by decide +kernel
theorem dS_leastSize_11 : decode cS_leastSize 11 = .ok (.ireturn, 1) := by decide +kernel
theorem dS_leastSize_12 : decode cS_leastSize 12 = .ok (.aload_n 1, 1) := by decide +kernel
theorem dS_leastSize_13 : decode cS_leastSize 13 = .ok (.invokestatic 166, 3) := by decide +kernel
theorem dS_leastSize_16 : decode cS_leastSize 16 = .ok (.lstore_n 2, 1) := by decide +kernel
theorem dS_leastSize_17 : decode cS_leastSize 17 = .ok (.lload_n 2, 1) := by decide +kernel
theorem dS_leastSize_18 : decode cS_leastSize 18 = .ok (.ldc2_w 164, 3) := by decide +kernel
theorem dS_leastSize_21 : decode cS_leastSize 21 = .ok (.lcmp, 1) := by decide +kernel
theorem dS_leastSize_22 : decode cS_leastSize 22 = .ok (.ifCond .ne (8), 3) := by decide +kernel
theorem dS_leastSize_25 : decode cS_leastSize 25 = .ok (.aload_n 1, 1) := by decide +kernel
theorem dS_leastSize_26 : decode cS_leastSize 26 = .ok (.getfield 132, 3) := by decide +kernel
theorem dS_leastSize_29 : decode cS_leastSize 29 = .ok (.ireturn, 1) := by decide +kernel
theorem dS_leastSize_30 : decode cS_leastSize 30 = .ok (.aload_n 1, 1) := by decide +kernel
theorem dS_leastSize_31 : decode cS_leastSize 31 = .ok (.getfield 86, 3) := by decide +kernel
theorem dS_leastSize_34 : decode cS_leastSize 34 = .ok (.iconst 1, 1) := by decide +kernel
theorem dS_leastSize_35 : decode cS_leastSize 35 = .ok (.if_icmp .ne (18), 3) := by decide +kernel
theorem dS_leastSize_38 : decode cS_leastSize 38 = .ok (.lload_n 2, 1) := by decide +kernel
theorem dS_leastSize_39 : decode cS_leastSize 39 = .ok (.aload_n 1, 1) := by decide +kernel
theorem dS_leastSize_40 : decode cS_leastSize 40 = .ok (.getfield 151, 3) := by decide +kernel
theorem dS_leastSize_43 : decode cS_leastSize 43 = .ok (.i2l, 1) := by decide +kernel
theorem dS_leastSize_44 : decode cS_leastSize 44 = .ok (.lsub, 1) := by decide +kernel
theorem dS_leastSize_45 : decode cS_leastSize 45 = .ok (.aload_n 1, 1) := by decide +kernel
theorem dS_leastSize_46 : decode cS_leastSize 46 = .ok (.getfield 219, 3) := by decide +kernel
theorem dS_leastSize_49 : decode cS_leastSize 49 = .ok (.invokestatic 222, 3) := by decide +kernel
theorem dS_leastSize_52 : decode cS_leastSize 52 = .ok (.ireturn, 1) := by decide +kernel
theorem dS_leastSize_53 : decode cS_leastSize 53 = .ok (.lload_n 2, 1) := by decide +kernel
theorem dS_leastSize_54 : decode cS_leastSize 54 = .ok (.aload_n 0, 1) := by decide +kernel
theorem dS_leastSize_55 : decode cS_leastSize 55 = .ok (.getfield 31, 3) := by decide +kernel
theorem dS_leastSize_58 : decode cS_leastSize 58 = .ok (.iconst 2, 1) := by decide +kernel
theorem dS_leastSize_59 : decode cS_leastSize 59 = .ok (.iaload, 1) := by decide +kernel
theorem dS_leastSize_60 : decode cS_leastSize 60 = .ok (.sipush (2048), 3) := by decide +kernel
theorem dS_leastSize_63 : decode cS_leastSize 63 = .ok (.iadd, 1) := by decide +kernel
theorem dS_leastSize_64 : decode cS_leastSize 64 = .ok (.i2l, 1) := by decide +kernel
theorem dS_leastSize_65 : decode cS_leastSize 65 = .ok (.aload_n 1, 1) := by decide +kernel
theorem dS_leastSize_66 : decode cS_leastSize 66 = .ok (.getfield 219, 3) := by decide +kernel
theorem dS_leastSize_69 : decode cS_leastSize 69 = .ok (.invokestatic 226, 3) := by decide +kernel
theorem dS_leastSize_72 : decode cS_leastSize 72 = .ok (.ireturn, 1) := by decide +kernel
theorem dS_aimOf_0 : decode cS_aimOf 0 = .ok (.aload_n 0, 1) := by decide +kernel
theorem dS_aimOf_1 : decode cS_aimOf 1 = .ok (.getfield 128, 3) := by decide +kernel
theorem dS_aimOf_4 : decode cS_aimOf 4 = .ok (.ifnonnull (7), 3) := by decide +kernel
theorem dS_aimOf_7 : decode cS_aimOf 7 = .ok (.ldc2_w 164, 3) := by decide +kernel
theorem dS_aimOf_10 : decode cS_aimOf 10 = .ok (.lreturn, 1) := by decide +kernel
theorem dS_aimOf_11 : decode cS_aimOf 11 = .ok (.aload_n 0, 1) := by decide +kernel
theorem dS_aimOf_12 : decode cS_aimOf 12 = .ok (.getfield 128, 3) := by decide +kernel
theorem dS_aimOf_15 : decode cS_aimOf 15 = .ok (.invokestatic 170, 3) := by decide +kernel
theorem dS_aimOf_18 : decode cS_aimOf 18 = .ok (.istore_n 1, 1) := by decide +kernel
theorem dS_aimOf_19 : decode cS_aimOf 19 = .ok (.iload_n 1, 1) := by decide +kernel
theorem dS_aimOf_20 : decode cS_aimOf 20 = .ok (.iconst (-1), 1) := by decide +kernel
theorem dS_aimOf_21 : decode cS_aimOf 21 = .ok (.if_icmp .ne (9), 3) := by decide +kernel
theorem dS_aimOf_24 : decode cS_aimOf 24 = .ok (.ldc2_w 164, 3) := by decide +kernel
theorem dS_aimOf_27 : decode cS_aimOf 27 = .ok (.goto (11), 3) := by decide +kernel
theorem dS_aimOf_30 : decode cS_aimOf 30 = .ok (.iload_n 1, 1) := by decide +kernel
theorem dS_aimOf_31 : decode cS_aimOf 31 = .ok (.i2l, 1) := by decide +kernel
theorem dS_aimOf_32 : decode cS_aimOf 32 = .ok (.aload_n 0, 1) := by decide +kernel
theorem dS_aimOf_33 : decode cS_aimOf 33 = .ok (.getfield 248, 3) := by decide +kernel
theorem dS_aimOf_36 : decode cS_aimOf 36 = .ok (.i2l, 1) := by decide +kernel
theorem dS_aimOf_37 : decode cS_aimOf 37 = .ok (.ladd, 1) := by decide +kernel
theorem dS_aimOf_38 : decode cS_aimOf 38 = .ok (.lreturn, 1) := by decide +kernel
theorem dS_valueOf_0 : decode cS_valueOf 0 = .ok (.aload_n 0, 1) := by decide +kernel
theorem dS_valueOf_1 : decode cS_valueOf 1 = .ok (.getfield 92, 3) := by decide +kernel
theorem dS_valueOf_4 : decode cS_valueOf 4 = .ok (.astore_n 1, 1) := by decide +kernel
theorem dS_valueOf_5 : decode cS_valueOf 5 = .ok (.aload_n 1, 1) := by decide +kernel
theorem dS_valueOf_6 : decode cS_valueOf 6 = .ok (.ifnull (13), 3) := by decide +kernel
theorem dS_valueOf_9 : decode cS_valueOf 9 = .ok (.aload_n 1, 1) := by decide +kernel
theorem dS_valueOf_10 : decode cS_valueOf 10 = .ok (.getfield 144, 3) := by decide +kernel
theorem dS_valueOf_13 : decode cS_valueOf 13 = .ok (.getfield 108, 3) := by decide +kernel
theorem dS_valueOf_16 : decode cS_valueOf 16 = .ok (.ifCond .eq (5), 3) := by decide +kernel
theorem dS_valueOf_19 : decode cS_valueOf 19 = .ok (.iconst (-1), 1) := by decide +kernel
theorem dS_valueOf_20 : decode cS_valueOf 20 = .ok (.ireturn, 1) := by decide +kernel
theorem dS_valueOf_21 : decode cS_valueOf 21 = .ok (.aload_n 1, 1) := by decide +kernel
theorem dS_valueOf_22 : decode cS_valueOf 22 = .ok (.getfield 86, 3) := by decide +kernel
theorem dS_valueOf_25 : decode cS_valueOf 25 = .ok (.ifCond .ne (13), 3) := by decide +kernel
theorem dS_valueOf_28 : decode cS_valueOf 28 = .ok (.aload_n 1, 1) := by decide +kernel
theorem dS_valueOf_29 : decode cS_valueOf 29 = .ok (.getfield 151, 3) := by decide +kernel
theorem dS_valueOf_32 : decode cS_valueOf 32 = .ok (.aload_n 0, 1) := by decide +kernel
theorem dS_valueOf_33 : decode cS_valueOf 33 = .ok (.getfield 96, 3) := by decide +kernel
theorem dS_valueOf_36 : decode cS_valueOf 36 = .ok (.iadd, 1) := by decide +kernel
theorem dS_valueOf_37 : decode cS_valueOf 37 = .ok (.ireturn, 1) := by decide +kernel
theorem dS_valueOf_38 : decode cS_valueOf 38 = .ok (.aload_n 0, 1) := by decide +kernel
theorem dS_valueOf_39 : decode cS_valueOf 39 = .ok (.getfield 96, 3) := by decide +kernel
theorem dS_valueOf_42 : decode cS_valueOf 42 = .ok (.ifCond .ne (10), 3) := by decide +kernel
theorem dS_valueOf_45 : decode cS_valueOf 45 = .ok (.aload_n 1, 1) := by decide +kernel
theorem dS_valueOf_46 : decode cS_valueOf 46 = .ok (.getfield 151, 3) := by decide +kernel
theorem dS_valueOf_49 : decode cS_valueOf 49 = .ok (.goto (12), 3) := by decide +kernel
theorem dS_valueOf_52 : decode cS_valueOf 52 = .ok (.aload_n 1, 1) := by decide +kernel
theorem dS_valueOf_53 : decode cS_valueOf 53 = .ok (.getfield 151, 3) := by decide +kernel
theorem dS_valueOf_56 : decode cS_valueOf 56 = .ok (.aload_n 1, 1) := by decide +kernel
theorem dS_valueOf_57 : decode cS_valueOf 57 = .ok (.getfield 135, 3) := by decide +kernel
theorem dS_valueOf_60 : decode cS_valueOf 60 = .ok (.iadd, 1) := by decide +kernel
theorem dS_valueOf_61 : decode cS_valueOf 61 = .ok (.ireturn, 1) := by decide +kernel
theorem dS_leastCall_0 : decode cS_leastCall 0 = .ok (.lload_n 0, 1) := by decide +kernel
theorem dS_leastCall_1 : decode cS_leastCall 1 = .ok (.lconst 1, 1) := by decide +kernel
theorem dS_leastCall_2 : decode cS_leastCall 2 = .ok (.land, 1) := by decide +kernel
theorem dS_leastCall_3 : decode cS_leastCall 3 = .ok (.lconst 0, 1) := by decide +kernel
theorem dS_leastCall_4 : decode cS_leastCall 4 = .ok (.lcmp, 1) := by decide +kernel
theorem dS_leastCall_5 : decode cS_leastCall 5 = .ok (.ifCond .ne (7), 3) := by decide +kernel
theorem dS_leastCall_8 : decode cS_leastCall 8 = .ok (.iconst 1, 1) := by decide +kernel
theorem dS_leastCall_9 : decode cS_leastCall 9 = .ok (.goto (4), 3) := by decide +kernel
theorem dS_leastCall_12 : decode cS_leastCall 12 = .ok (.iconst 0, 1) := by decide +kernel
theorem dS_leastCall_13 : decode cS_leastCall 13 = .ok (.istore_n 3, 1) := by decide +kernel
theorem dS_leastCall_14 : decode cS_leastCall 14 = .ok (.iload_n 2, 1) := by decide +kernel
theorem dS_leastCall_15 : decode cS_leastCall 15 = .ok (.ifCond .eq (22), 3) := by decide +kernel
theorem dS_leastCall_18 : decode cS_leastCall 18 = .ok (.iload_n 3, 1) := by decide +kernel
theorem dS_leastCall_19 : decode cS_leastCall 19 = .ok (.ifCond .eq (18), 3) := by decide +kernel
theorem dS_leastCall_22 : decode cS_leastCall 22 = .ok (.lload_n 0, 1) := by decide +kernel
theorem dS_leastCall_23 : decode cS_leastCall 23 = .ok (.ldc2_w 230, 3) := by decide +kernel
theorem dS_leastCall_26 : decode cS_leastCall 26 = .ok (.ldc2_w 232, 3) := by decide +kernel
theorem dS_leastCall_29 : decode cS_leastCall 29 = .ok (.invokestatic 57, 3) := by decide +kernel
theorem dS_leastCall_32 : decode cS_leastCall 32 = .ok (.ifCond .eq (5), 3) := by decide +kernel
theorem dS_leastCall_35 : decode cS_leastCall 35 = .ok (.iconst 2, 1) := by decide +kernel
theorem dS_leastCall_36 : decode cS_leastCall 36 = .ok (.ireturn, 1) := by decide +kernel
theorem dS_leastCall_37 : decode cS_leastCall 37 = .ok (.iload_n 3, 1) := by decide +kernel
theorem dS_leastCall_38 : decode cS_leastCall 38 = .ok (.ifCond .eq (20), 3) := by decide +kernel
theorem dS_leastCall_41 : decode cS_leastCall 41 = .ok (.lload_n 0, 1) := by decide +kernel
theorem dS_leastCall_42 : decode cS_leastCall 42 = .ok (.ldc2_w 234, 3) := by decide +kernel
theorem dS_leastCall_45 : decode cS_leastCall 45 = .ok (.ldc2_w 236, 3) := by decide +kernel
theorem dS_leastCall_48 : decode cS_leastCall 48 = .ok (.invokestatic 57, 3) := by decide +kernel
theorem dS_leastCall_51 : decode cS_leastCall 51 = .ok (.ifCond .eq (7), 3) := by decide +kernel
theorem dS_leastCall_54 : decode cS_leastCall 54 = .ok (.iconst 4, 1) := by decide +kernel
theorem dS_leastCall_55 : decode cS_leastCall 55 = .ok (.goto (5), 3) := by decide +kernel
theorem dS_leastCall_58 : decode cS_leastCall 58 = .ok (.bipush (8), 2) := by decide +kernel
theorem dS_leastCall_60 : decode cS_leastCall 60 = .ok (.ireturn, 1) := by decide +kernel
theorem dS_leastLoad_0 : decode cS_leastLoad 0 = .ok (.lload_n 0, 1) := by decide +kernel
theorem dS_leastLoad_1 : decode cS_leastLoad 1 = .ok (.ldc2_w 230, 3) := by decide +kernel
theorem dS_leastLoad_4 : decode cS_leastLoad 4 = .ok (.ldc2_w 238, 3) := by decide +kernel
theorem dS_leastLoad_7 : decode cS_leastLoad 7 = .ok (.invokestatic 57, 3) := by decide +kernel
theorem dS_leastLoad_10 : decode cS_leastLoad 10 = .ok (.ifCond .ne (18), 3) := by decide +kernel
theorem dS_leastLoad_13 : decode cS_leastLoad 13 = .ok (.lload_n 0, 1) := by decide +kernel
theorem dS_leastLoad_14 : decode cS_leastLoad 14 = .ok (.lload_n 2, 1) := by decide +kernel
theorem dS_leastLoad_15 : decode cS_leastLoad 15 = .ok (.lsub, 1) := by decide +kernel
theorem dS_leastLoad_16 : decode cS_leastLoad 16 = .ok (.ldc2_w 230, 3) := by decide +kernel
theorem dS_leastLoad_19 : decode cS_leastLoad 19 = .ok (.ldc2_w 238, 3) := by decide +kernel
theorem dS_leastLoad_22 : decode cS_leastLoad 22 = .ok (.invokestatic 57, 3) := by decide +kernel
theorem dS_leastLoad_25 : decode cS_leastLoad 25 = .ok (.ifCond .eq (5), 3) := by decide +kernel
theorem dS_leastLoad_28 : decode cS_leastLoad 28 = .ok (.iconst 0, 1) := by decide +kernel
theorem dS_leastLoad_29 : decode cS_leastLoad 29 = .ok (.ireturn, 1) := by decide +kernel
theorem dS_leastLoad_30 : decode cS_leastLoad 30 = .ok (.iload 4, 2) := by decide +kernel
theorem dS_leastLoad_32 : decode cS_leastLoad 32 = .ok (.ifCond .eq (28), 3) := by decide +kernel
theorem dS_leastLoad_35 : decode cS_leastLoad 35 = .ok (.lload_n 0, 1) := by decide +kernel
theorem dS_leastLoad_36 : decode cS_leastLoad 36 = .ok (.ldc2_w 240, 3) := by decide +kernel
theorem dS_leastLoad_39 : decode cS_leastLoad 39 = .ok (.ladd, 1) := by decide +kernel
theorem dS_leastLoad_40 : decode cS_leastLoad 40 = .ok (.ldc2_w 72, 3) := by decide +kernel
theorem dS_leastLoad_43 : decode cS_leastLoad 43 = .ok (.invokestatic 242, 3) := by decide +kernel
theorem dS_leastLoad_46 : decode cS_leastLoad 46 = .ok (.lconst 1, 1) := by decide +kernel
theorem dS_leastLoad_47 : decode cS_leastLoad 47 = .ok (.ldc2_w 246, 3) := by decide +kernel
theorem dS_leastLoad_50 : decode cS_leastLoad 50 = .ok (.invokestatic 57, 3) := by decide +kernel
theorem dS_leastLoad_53 : decode cS_leastLoad 53 = .ok (.ifCond .eq (7), 3) := by decide +kernel
theorem dS_leastLoad_56 : decode cS_leastLoad 56 = .ok (.iconst 2, 1) := by decide +kernel
theorem dS_leastLoad_57 : decode cS_leastLoad 57 = .ok (.goto (4), 3) := by decide +kernel
theorem dS_leastLoad_60 : decode cS_leastLoad 60 = .ok (.iconst 4, 1) := by decide +kernel
theorem dS_leastLoad_61 : decode cS_leastLoad 61 = .ok (.ireturn, 1) := by decide +kernel
theorem dS_shrink_0 : decode cS_shrink 0 = .ok (.aload_n 0, 1) := by decide +kernel
theorem dS_shrink_1 : decode cS_shrink 1 = .ok (.invokevirtual 122, 3) := by decide +kernel
theorem dS_shrink_4 : decode cS_shrink 4 = .ok (.ireturn, 1) := by decide +kernel
theorem dS_makePasses_0 : decode cS_makePasses 0 = .ok (.iconst 0, 1) := by decide +kernel
theorem dS_makePasses_1 : decode cS_makePasses 1 = .ok (.istore_n 1, 1) := by decide +kernel
theorem dS_makePasses_2 : decode cS_makePasses 2 = .ok (.iconst 1, 1) := by decide +kernel
theorem dS_makePasses_3 : decode cS_makePasses 3 = .ok (.istore_n 2, 1) := by decide +kernel
theorem dS_makePasses_4 : decode cS_makePasses 4 = .ok (.iload_n 2, 1) := by decide +kernel
theorem dS_makePasses_5 : decode cS_makePasses 5 = .ok (.ifCond .le (21), 3) := by decide +kernel
theorem dS_makePasses_8 : decode cS_makePasses 8 = .ok (.iload_n 1, 1) := by decide +kernel
theorem dS_makePasses_9 : decode cS_makePasses 9 = .ok (.sipush (513), 3) := by decide +kernel
theorem dS_makePasses_12 : decode cS_makePasses 12 = .ok (.if_icmp .ge (14), 3) := by decide +kernel
theorem dS_makePasses_15 : decode cS_makePasses 15 = .ok (.aload_n 0, 1) := by decide +kernel
theorem dS_makePasses_16 : decode cS_makePasses 16 = .ok (.invokevirtual 119, 3) := by decide +kernel
theorem dS_makePasses_19 : decode cS_makePasses 19 = .ok (.istore_n 2, 1) := by decide +kernel
theorem dS_makePasses_20 : decode cS_makePasses 20 = .ok (.iinc 1 (1), 3) := by decide +kernel
theorem dS_makePasses_23 : decode cS_makePasses 23 = .ok (.goto (-19), 3) := by decide +kernel
theorem dS_makePasses_26 : decode cS_makePasses 26 = .ok (.iload_n 1, 1) := by decide +kernel
theorem dS_makePasses_27 : decode cS_makePasses 27 = .ok (.ireturn, 1) := by decide +kernel
theorem dS_settle_0 : decode cS_settle 0 = .ok (.iconst 0, 1) := by decide +kernel
theorem dS_settle_1 : decode cS_settle 1 = .ok (.istore_n 1, 1) := by decide +kernel
theorem dS_settle_2 : decode cS_settle 2 = .ok (.iconst 0, 1) := by decide +kernel
theorem dS_settle_3 : decode cS_settle 3 = .ok (.istore_n 2, 1) := by decide +kernel
theorem dS_settle_4 : decode cS_settle 4 = .ok (.iload_n 2, 1) := by decide +kernel
theorem dS_settle_5 : decode cS_settle 5 = .ok (.sipush (256), 3) := by decide +kernel
theorem dS_settle_8 : decode cS_settle 8 = .ok (.if_icmp .gt (30), 3) := by decide +kernel
theorem dS_settle_11 : decode cS_settle 11 = .ok (.aload_n 0, 1) := by decide +kernel
theorem dS_settle_12 : decode cS_settle 12 = .ok (.invokevirtual 122, 3) := by decide +kernel
theorem dS_settle_15 : decode cS_settle 15 = .ok (.pop, 1) := by decide +kernel
theorem dS_settle_16 : decode cS_settle 16 = .ok (.aload_n 0, 1) := by decide +kernel
theorem dS_settle_17 : decode cS_settle 17 = .ok (.invokevirtual 125, 3) := by decide +kernel
theorem dS_settle_20 : decode cS_settle 20 = .ok (.istore_n 3, 1) := by decide +kernel
theorem dS_settle_21 : decode cS_settle 21 = .ok (.iload_n 3, 1) := by decide +kernel
theorem dS_settle_22 : decode cS_settle 22 = .ok (.ifCond .ne (6), 3) := by decide +kernel
theorem dS_settle_25 : decode cS_settle 25 = .ok (.goto (13), 3) := by decide +kernel
theorem dS_settle_28 : decode cS_settle 28 = .ok (.iload_n 1, 1) := by decide +kernel
theorem dS_settle_29 : decode cS_settle 29 = .ok (.iload_n 3, 1) := by decide +kernel
theorem dS_settle_30 : decode cS_settle 30 = .ok (.iadd, 1) := by decide +kernel
theorem dS_settle_31 : decode cS_settle 31 = .ok (.istore_n 1, 1) := by decide +kernel
theorem dS_settle_32 : decode cS_settle 32 = .ok (.iinc 2 (1), 3) := by decide +kernel
theorem dS_settle_35 : decode cS_settle 35 = .ok (.goto (-31), 3) := by decide +kernel
theorem dS_settle_38 : decode cS_settle 38 = .ok (.iload_n 1, 1) := by decide +kernel
theorem dS_settle_39 : decode cS_settle 39 = .ok (.ireturn, 1) := by decide +kernel
theorem dS_fixWhatDoesNotHold_0 : decode cS_fixWhatDoesNotHold 0 = .ok (.aload_n 0, 1) := by decide +kernel
theorem dS_fixWhatDoesNotHold_1 : decode cS_fixWhatDoesNotHold 1 = .ok (.invokevirtual 141, 3) := by decide +kernel
theorem dS_fixWhatDoesNotHold_4 : decode cS_fixWhatDoesNotHold 4 = .ok (.iconst 0, 1) := by decide +kernel
theorem dS_fixWhatDoesNotHold_5 : decode cS_fixWhatDoesNotHold 5 = .ok (.istore_n 1, 1) := by decide +kernel
theorem dS_fixWhatDoesNotHold_6 : decode cS_fixWhatDoesNotHold 6 = .ok (.aload_n 0, 1) := by decide +kernel
theorem dS_fixWhatDoesNotHold_7 : decode cS_fixWhatDoesNotHold 7 = .ok (.getfield 17, 3) := by decide +kernel
theorem dS_fixWhatDoesNotHold_10 : decode cS_fixWhatDoesNotHold 10 = .ok (.astore_n 2, 1) := by decide +kernel
theorem dS_fixWhatDoesNotHold_11 : decode cS_fixWhatDoesNotHold 11 = .ok (.aload_n 2, 1) := by decide +kernel
theorem dS_fixWhatDoesNotHold_12 : decode cS_fixWhatDoesNotHold 12 = .ok (.arraylength, 1) := by decide +kernel
theorem dS_fixWhatDoesNotHold_13 : decode cS_fixWhatDoesNotHold 13 = .ok (.istore_n 3, 1) := by decide +kernel
theorem dS_fixWhatDoesNotHold_14 : decode cS_fixWhatDoesNotHold 14 = .ok (.iconst 0, 1) := by decide +kernel
theorem dS_fixWhatDoesNotHold_15 : decode cS_fixWhatDoesNotHold 15 = .ok (.istore 4, 2) := by decide +kernel
theorem dS_fixWhatDoesNotHold_17 : decode cS_fixWhatDoesNotHold 17 = .ok (.iload 4, 2) := by decide +kernel
theorem dS_fixWhatDoesNotHold_19 : decode cS_fixWhatDoesNotHold 19 = .ok (.iload_n 3, 1) := by decide +kernel
theorem dS_fixWhatDoesNotHold_20 : decode cS_fixWhatDoesNotHold 20 = .ok (.if_icmp .ge (66), 3) := by decide +kernel
theorem dS_fixWhatDoesNotHold_23 : decode cS_fixWhatDoesNotHold 23 = .ok (.aload_n 2, 1) := by decide +kernel
theorem dS_fixWhatDoesNotHold_24 : decode cS_fixWhatDoesNotHold 24 = .ok (.iload 4, 2) := by decide +kernel
theorem dS_fixWhatDoesNotHold_26 : decode cS_fixWhatDoesNotHold 26 = .ok (.aaload, 1) := by decide +kernel
theorem dS_fixWhatDoesNotHold_27 : decode cS_fixWhatDoesNotHold 27 = .ok (.astore 5, 2) := by decide +kernel
theorem dS_fixWhatDoesNotHold_29 : decode cS_fixWhatDoesNotHold 29 = .ok (.aload 5, 2) := by decide +kernel
theorem dS_fixWhatDoesNotHold_31 : decode cS_fixWhatDoesNotHold 31 = .ok (.ifnonnull (6), 3) := by decide +kernel
theorem dS_fixWhatDoesNotHold_34 : decode cS_fixWhatDoesNotHold 34 = .ok (.goto (52), 3) := by decide +kernel
theorem dS_fixWhatDoesNotHold_37 : decode cS_fixWhatDoesNotHold 37 = .ok (.aload 5, 2) := by decide +kernel
theorem dS_fixWhatDoesNotHold_39 : decode cS_fixWhatDoesNotHold 39 = .ok (.getfield 144, 3) := by decide +kernel
theorem dS_fixWhatDoesNotHold_42 : decode cS_fixWhatDoesNotHold 42 = .ok (.getfield 108, 3) := by decide +kernel
theorem dS_fixWhatDoesNotHold_45 : decode cS_fixWhatDoesNotHold 45 = .ok (.ifCond .ne (35), 3) := by decide +kernel
theorem dS_fixWhatDoesNotHold_48 : decode cS_fixWhatDoesNotHold 48 = .ok (.aload 5, 2) := by decide +kernel
theorem dS_fixWhatDoesNotHold_50 : decode cS_fixWhatDoesNotHold 50 = .ok (.getfield 135, 3) := by decide +kernel
theorem dS_fixWhatDoesNotHold_53 : decode cS_fixWhatDoesNotHold 53 = .ok (.aload 5, 2) := by decide +kernel
theorem dS_fixWhatDoesNotHold_55 : decode cS_fixWhatDoesNotHold 55 = .ok (.getfield 148, 3) := by decide +kernel
theorem dS_fixWhatDoesNotHold_58 : decode cS_fixWhatDoesNotHold 58 = .ok (.if_icmp .ge (22), 3) := by decide +kernel
theorem dS_fixWhatDoesNotHold_61 : decode cS_fixWhatDoesNotHold 61 = .ok (.aload 5, 2) := by decide +kernel
theorem dS_fixWhatDoesNotHold_63 : decode cS_fixWhatDoesNotHold 63 = .ok (.aload 5, 2) := by decide +kernel
theorem dS_fixWhatDoesNotHold_65 : decode cS_fixWhatDoesNotHold 65 = .ok (.getfield 132, 3) := by decide +kernel
theorem dS_fixWhatDoesNotHold_68 : decode cS_fixWhatDoesNotHold 68 = .ok (.putfield 135, 3) := by decide +kernel
theorem dS_fixWhatDoesNotHold_71 : decode cS_fixWhatDoesNotHold 71 = .ok (.aload 5, 2) := by decide +kernel
theorem dS_fixWhatDoesNotHold_73 : decode cS_fixWhatDoesNotHold 73 = .ok (.iconst 1, 1) := by decide +kernel
theorem dS_fixWhatDoesNotHold_74 : decode cS_fixWhatDoesNotHold 74 = .ok (.putfield 138, 3) := by decide +kernel
theorem dS_fixWhatDoesNotHold_77 : decode cS_fixWhatDoesNotHold 77 = .ok (.iinc 1 (1), 3) := by decide +kernel
theorem dS_fixWhatDoesNotHold_80 : decode cS_fixWhatDoesNotHold 80 = .ok (.iinc 4 (1), 3) := by decide +kernel
theorem dS_fixWhatDoesNotHold_83 : decode cS_fixWhatDoesNotHold 83 = .ok (.goto (-66), 3) := by decide +kernel
theorem dS_fixWhatDoesNotHold_86 : decode cS_fixWhatDoesNotHold 86 = .ok (.iload_n 1, 1) := by decide +kernel
theorem dS_fixWhatDoesNotHold_87 : decode cS_fixWhatDoesNotHold 87 = .ok (.ireturn, 1) := by decide +kernel
theorem dS_reset_0 : decode cS_reset 0 = .ok (.aload_n 0, 1) := by decide +kernel
theorem dS_reset_1 : decode cS_reset 1 = .ok (.getfield 17, 3) := by decide +kernel
theorem dS_reset_4 : decode cS_reset 4 = .ok (.astore_n 1, 1) := by decide +kernel
theorem dS_reset_5 : decode cS_reset 5 = .ok (.aload_n 1, 1) := by decide +kernel
theorem dS_reset_6 : decode cS_reset 6 = .ok (.arraylength, 1) := by decide +kernel
theorem dS_reset_7 : decode cS_reset 7 = .ok (.istore_n 2, 1) := by decide +kernel
theorem dS_reset_8 : decode cS_reset 8 = .ok (.iconst 0, 1) := by decide +kernel
theorem dS_reset_9 : decode cS_reset 9 = .ok (.istore_n 3, 1) := by decide +kernel
theorem dS_reset_10 : decode cS_reset 10 = .ok (.iload_n 3, 1) := by decide +kernel
theorem dS_reset_11 : decode cS_reset 11 = .ok (.iload_n 2, 1) := by decide +kernel
theorem dS_reset_12 : decode cS_reset 12 = .ok (.if_icmp .ge (46), 3) := by decide +kernel
theorem dS_reset_15 : decode cS_reset 15 = .ok (.aload_n 1, 1) := by decide +kernel
theorem dS_reset_16 : decode cS_reset 16 = .ok (.iload_n 3, 1) := by decide +kernel
theorem dS_reset_17 : decode cS_reset 17 = .ok (.aaload, 1) := by decide +kernel
theorem dS_reset_18 : decode cS_reset 18 = .ok (.astore 4, 2) := by decide +kernel
theorem dS_reset_20 : decode cS_reset 20 = .ok (.aload 4, 2) := by decide +kernel
theorem dS_reset_22 : decode cS_reset 22 = .ok (.ifnonnull (6), 3) := by decide +kernel
theorem dS_reset_25 : decode cS_reset 25 = .ok (.goto (33), 3) := by decide +kernel
theorem dS_reset_28 : decode cS_reset 28 = .ok (.aload 4, 2) := by decide +kernel
theorem dS_reset_30 : decode cS_reset 30 = .ok (.getfield 128, 3) := by decide +kernel
theorem dS_reset_33 : decode cS_reset 33 = .ok (.ifnull (19), 3) := by decide +kernel
theorem dS_reset_36 : decode cS_reset 36 = .ok (.aload 4, 2) := by decide +kernel
theorem dS_reset_38 : decode cS_reset 38 = .ok (.aload 4, 2) := by decide +kernel
theorem dS_reset_40 : decode cS_reset 40 = .ok (.getfield 132, 3) := by decide +kernel
theorem dS_reset_43 : decode cS_reset 43 = .ok (.putfield 135, 3) := by decide +kernel
theorem dS_reset_46 : decode cS_reset 46 = .ok (.aload 4, 2) := by decide +kernel
theorem dS_reset_48 : decode cS_reset 48 = .ok (.iconst 0, 1) := by decide +kernel
theorem dS_reset_49 : decode cS_reset 49 = .ok (.putfield 138, 3) := by decide +kernel
theorem dS_reset_52 : decode cS_reset 52 = .ok (.iinc 3 (1), 3) := by decide +kernel
theorem dS_reset_55 : decode cS_reset 55 = .ok (.goto (-45), 3) := by decide +kernel
theorem dS_reset_58 : decode cS_reset 58 = .ok (.return_, 1) := by decide +kernel
theorem dS_holds_0 : decode cS_holds 0 = .ok (.aload_n 0, 1) := by decide +kernel
theorem dS_holds_1 : decode cS_holds 1 = .ok (.invokevirtual 141, 3) := by decide +kernel
theorem dS_holds_4 : decode cS_holds 4 = .ok (.iconst 0, 1) := by decide +kernel
theorem dS_holds_5 : decode cS_holds 5 = .ok (.istore_n 1, 1) := by decide +kernel
theorem dS_holds_6 : decode cS_holds 6 = .ok (.iload_n 1, 1) := by decide +kernel
theorem dS_holds_7 : decode cS_holds 7 = .ok (.aload_n 0, 1) := by decide +kernel
theorem dS_holds_8 : decode cS_holds 8 = .ok (.getfield 17, 3) := by decide +kernel
theorem dS_holds_11 : decode cS_holds 11 = .ok (.arraylength, 1) := by decide +kernel
theorem dS_holds_12 : decode cS_holds 12 = .ok (.if_icmp .ge (46), 3) := by decide +kernel
theorem dS_holds_15 : decode cS_holds 15 = .ok (.aload_n 0, 1) := by decide +kernel
theorem dS_holds_16 : decode cS_holds 16 = .ok (.getfield 17, 3) := by decide +kernel
theorem dS_holds_19 : decode cS_holds 19 = .ok (.iload_n 1, 1) := by decide +kernel
theorem dS_holds_20 : decode cS_holds 20 = .ok (.aaload, 1) := by decide +kernel
theorem dS_holds_21 : decode cS_holds 21 = .ok (.astore_n 2, 1) := by decide +kernel
theorem dS_holds_22 : decode cS_holds 22 = .ok (.aload_n 2, 1) := by decide +kernel
theorem dS_holds_23 : decode cS_holds 23 = .ok (.ifnonnull (6), 3) := by decide +kernel
theorem dS_holds_26 : decode cS_holds 26 = .ok (.goto (32), 3) := by decide +kernel
theorem dS_holds_29 : decode cS_holds 29 = .ok (.aload_n 2, 1) := by decide +kernel
theorem dS_holds_30 : decode cS_holds 30 = .ok (.getfield 144, 3) := by decide +kernel
theorem dS_holds_33 : decode cS_holds 33 = .ok (.getfield 108, 3) := by decide +kernel
theorem dS_holds_36 : decode cS_holds 36 = .ok (.ifCond .ne (16), 3) := by decide +kernel
theorem dS_holds_39 : decode cS_holds 39 = .ok (.aload_n 2, 1) := by decide +kernel
theorem dS_holds_40 : decode cS_holds 40 = .ok (.getfield 135, 3) := by decide +kernel
theorem dS_holds_43 : decode cS_holds 43 = .ok (.aload_n 2, 1) := by decide +kernel
theorem dS_holds_44 : decode cS_holds 44 = .ok (.getfield 148, 3) := by decide +kernel
theorem dS_holds_47 : decode cS_holds 47 = .ok (.if_icmp .ge (5), 3) := by decide +kernel
theorem dS_holds_50 : decode cS_holds 50 = .ok (.iload_n 1, 1) := by decide +kernel
theorem dS_holds_51 : decode cS_holds 51 = .ok (.ireturn, 1) := by decide +kernel
theorem dS_holds_52 : decode cS_holds 52 = .ok (.iinc 1 (1), 3) := by decide +kernel
theorem dS_holds_55 : decode cS_holds 55 = .ok (.goto (-49), 3) := by decide +kernel
theorem dS_holds_58 : decode cS_holds 58 = .ok (.iconst (-1), 1) := by decide +kernel
theorem dS_holds_59 : decode cS_holds 59 = .ok (.ireturn, 1) := by decide +kernel
theorem dS_lacks_0 : decode cS_lacks 0 = .ok (.aload_n 0, 1) := by decide +kernel
theorem dS_lacks_1 : decode cS_lacks 1 = .ok (.invokevirtual 141, 3) := by decide +kernel
theorem dS_lacks_4 : decode cS_lacks 4 = .ok (.iconst 0, 1) := by decide +kernel
theorem dS_lacks_5 : decode cS_lacks 5 = .ok (.istore_n 1, 1) := by decide +kernel
theorem dS_lacks_6 : decode cS_lacks 6 = .ok (.iload_n 1, 1) := by decide +kernel
theorem dS_lacks_7 : decode cS_lacks 7 = .ok (.aload_n 0, 1) := by decide +kernel
theorem dS_lacks_8 : decode cS_lacks 8 = .ok (.getfield 17, 3) := by decide +kernel
theorem dS_lacks_11 : decode cS_lacks 11 = .ok (.arraylength, 1) := by decide +kernel
theorem dS_lacks_12 : decode cS_lacks 12 = .ok (.if_icmp .ge (61), 3) := by decide +kernel
theorem dS_lacks_15 : decode cS_lacks 15 = .ok (.aload_n 0, 1) := by decide +kernel
theorem dS_lacks_16 : decode cS_lacks 16 = .ok (.getfield 17, 3) := by decide +kernel
theorem dS_lacks_19 : decode cS_lacks 19 = .ok (.iload_n 1, 1) := by decide +kernel
theorem dS_lacks_20 : decode cS_lacks 20 = .ok (.aaload, 1) := by decide +kernel
theorem dS_lacks_21 : decode cS_lacks 21 = .ok (.astore_n 2, 1) := by decide +kernel
theorem dS_lacks_22 : decode cS_lacks 22 = .ok (.aload_n 2, 1) := by decide +kernel
theorem dS_lacks_23 : decode cS_lacks 23 = .ok (.ifnonnull (6), 3) := by decide +kernel
theorem dS_lacks_26 : decode cS_lacks 26 = .ok (.goto (47), 3) := by decide +kernel
theorem dS_lacks_29 : decode cS_lacks 29 = .ok (.aload_n 2, 1) := by decide +kernel
theorem dS_lacks_30 : decode cS_lacks 30 = .ok (.getfield 86, 3) := by decide +kernel
theorem dS_lacks_33 : decode cS_lacks 33 = .ok (.iconst 4, 1) := by decide +kernel
theorem dS_lacks_34 : decode cS_lacks 34 = .ok (.if_icmp .ne (33), 3) := by decide +kernel
theorem dS_lacks_37 : decode cS_lacks 37 = .ok (.aload_n 2, 1) := by decide +kernel
theorem dS_lacks_38 : decode cS_lacks 38 = .ok (.getfield 144, 3) := by decide +kernel
theorem dS_lacks_41 : decode cS_lacks 41 = .ok (.getfield 108, 3) := by decide +kernel
theorem dS_lacks_44 : decode cS_lacks 44 = .ok (.ifCond .ne (23), 3) := by decide +kernel
theorem dS_lacks_47 : decode cS_lacks 47 = .ok (.aload_n 2, 1) := by decide +kernel
theorem dS_lacks_48 : decode cS_lacks 48 = .ok (.getfield 151, 3) := by decide +kernel
theorem dS_lacks_51 : decode cS_lacks 51 = .ok (.aload_n 2, 1) := by decide +kernel
theorem dS_lacks_52 : decode cS_lacks 52 = .ok (.getfield 154, 3) := by decide +kernel
theorem dS_lacks_55 : decode cS_lacks 55 = .ok (.invokestatic 157, 3) := by decide +kernel
theorem dS_lacks_58 : decode cS_lacks 58 = .ok (.aload_n 2, 1) := by decide +kernel
theorem dS_lacks_59 : decode cS_lacks 59 = .ok (.getfield 89, 3) := by decide +kernel
theorem dS_lacks_62 : decode cS_lacks 62 = .ok (.if_icmp .le (5), 3) := by decide +kernel
theorem dS_lacks_65 : decode cS_lacks 65 = .ok (.iload_n 1, 1) := by decide +kernel
theorem dS_lacks_66 : decode cS_lacks 66 = .ok (.ireturn, 1) := by decide +kernel
theorem dS_lacks_67 : decode cS_lacks 67 = .ok (.iinc 1 (1), 3) := by decide +kernel
theorem dS_lacks_70 : decode cS_lacks 70 = .ok (.goto (-64), 3) := by decide +kernel
theorem dS_lacks_73 : decode cS_lacks 73 = .ok (.iconst (-1), 1) := by decide +kernel
theorem dS_lacks_74 : decode cS_lacks 74 = .ok (.ireturn, 1) := by decide +kernel
theorem dS_piece_0 : decode cS_piece 0 = .ok (.aload_n 0, 1) := by decide +kernel
theorem dS_piece_1 : decode cS_piece 1 = .ok (.iload_n 1, 1) := by decide +kernel
theorem dS_piece_2 : decode cS_piece 2 = .ok (.invokevirtual 82, 3) := by decide +kernel
theorem dS_piece_5 : decode cS_piece 5 = .ok (.astore_n 3, 1) := by decide +kernel
theorem dS_piece_6 : decode cS_piece 6 = .ok (.aload_n 3, 1) := by decide +kernel
theorem dS_piece_7 : decode cS_piece 7 = .ok (.ifnonnull (5), 3) := by decide +kernel
theorem dS_piece_10 : decode cS_piece 10 = .ok (.iconst (-1), 1) := by decide +kernel
theorem dS_piece_11 : decode cS_piece 11 = .ok (.ireturn, 1) := by decide +kernel
theorem dS_piece_12 : decode cS_piece 12 = .ok (.aload_n 0, 1) := by decide +kernel
theorem dS_piece_13 : decode cS_piece 13 = .ok (.invokevirtual 141, 3) := by decide +kernel
theorem dS_piece_16 : decode cS_piece 16 = .ok (.aload_n 3, 1) := by decide +kernel
theorem dS_piece_17 : decode cS_piece 17 = .ok (.getfield 144, 3) := by decide +kernel
theorem dS_piece_20 : decode cS_piece 20 = .ok (.getfield 108, 3) := by decide +kernel
theorem dS_piece_23 : decode cS_piece 23 = .ok (.istore 4, 2) := by decide +kernel
theorem dS_piece_25 : decode cS_piece 25 = .ok (.iload_n 2, 1) := by decide +kernel
theorem dS_piece_26 : decode cS_piece 26 = .ok (.tableswitch (106) (0) (5) #[38, 43, 51, 65, 79, 93], 38) := by decide +kernel
theorem dS_piece_64 : decode cS_piece 64 = .ok (.aload_n 3, 1) := by decide +kernel
theorem dS_piece_65 : decode cS_piece 65 = .ok (.getfield 86, 3) := by decide +kernel
theorem dS_piece_68 : decode cS_piece 68 = .ok (.ireturn, 1) := by decide +kernel
theorem dS_piece_69 : decode cS_piece 69 = .ok (.aload_n 3, 1) := by decide +kernel
theorem dS_piece_70 : decode cS_piece 70 = .ok (.getfield 144, 3) := by decide +kernel
theorem dS_piece_73 : decode cS_piece 73 = .ok (.getfield 161, 3) := by decide +kernel
theorem dS_piece_76 : decode cS_piece 76 = .ok (.ireturn, 1) := by decide +kernel
theorem dS_piece_77 : decode cS_piece 77 = .ok (.iload 4, 2) := by decide +kernel
theorem dS_piece_79 : decode cS_piece 79 = .ok (.ifCond .eq (7), 3) := by decide +kernel
theorem dS_piece_82 : decode cS_piece 82 = .ok (.iconst (-1), 1) := by decide +kernel
theorem dS_piece_83 : decode cS_piece 83 = .ok (.goto (7), 3) := by decide +kernel
theorem dS_piece_86 : decode cS_piece 86 = .ok (.aload_n 3, 1) := by decide +kernel
theorem dS_piece_87 : decode cS_piece 87 = .ok (.getfield 135, 3) := by decide +kernel
theorem dS_piece_90 : decode cS_piece 90 = .ok (.ireturn, 1) := by decide +kernel
theorem dS_piece_91 : decode cS_piece 91 = .ok (.iload 4, 2) := by decide +kernel
theorem dS_piece_93 : decode cS_piece 93 = .ok (.ifCond .eq (7), 3) := by decide +kernel
theorem dS_piece_96 : decode cS_piece 96 = .ok (.iconst (-1), 1) := by decide +kernel
theorem dS_piece_97 : decode cS_piece 97 = .ok (.goto (7), 3) := by decide +kernel
theorem dS_piece_100 : decode cS_piece 100 = .ok (.aload_n 3, 1) := by decide +kernel
theorem dS_piece_101 : decode cS_piece 101 = .ok (.getfield 151, 3) := by decide +kernel
theorem dS_piece_104 : decode cS_piece 104 = .ok (.ireturn, 1) := by decide +kernel
theorem dS_piece_105 : decode cS_piece 105 = .ok (.iload 4, 2) := by decide +kernel
theorem dS_piece_107 : decode cS_piece 107 = .ok (.ifCond .eq (7), 3) := by decide +kernel
theorem dS_piece_110 : decode cS_piece 110 = .ok (.iconst (-1), 1) := by decide +kernel
theorem dS_piece_111 : decode cS_piece 111 = .ok (.goto (7), 3) := by decide +kernel
theorem dS_piece_114 : decode cS_piece 114 = .ok (.aload_n 3, 1) := by decide +kernel
theorem dS_piece_115 : decode cS_piece 115 = .ok (.getfield 148, 3) := by decide +kernel
theorem dS_piece_118 : decode cS_piece 118 = .ok (.ireturn, 1) := by decide +kernel
theorem dS_piece_119 : decode cS_piece 119 = .ok (.aload_n 3, 1) := by decide +kernel
theorem dS_piece_120 : decode cS_piece 120 = .ok (.getfield 138, 3) := by decide +kernel
theorem dS_piece_123 : decode cS_piece 123 = .ok (.ifCond .eq (7), 3) := by decide +kernel
theorem dS_piece_126 : decode cS_piece 126 = .ok (.iconst 1, 1) := by decide +kernel
theorem dS_piece_127 : decode cS_piece 127 = .ok (.goto (4), 3) := by decide +kernel
theorem dS_piece_130 : decode cS_piece 130 = .ok (.iconst 0, 1) := by decide +kernel
theorem dS_piece_131 : decode cS_piece 131 = .ok (.ireturn, 1) := by decide +kernel
theorem dS_piece_132 : decode cS_piece 132 = .ok (.iconst (-1), 1) := by decide +kernel
theorem dS_piece_133 : decode cS_piece 133 = .ok (.ireturn, 1) := by decide +kernel
theorem dS_aim_0 : decode cS_aim 0 = .ok (.aload_n 0, 1) := by decide +kernel
theorem dS_aim_1 : decode cS_aim 1 = .ok (.iload_n 1, 1) := by decide +kernel
theorem dS_aim_2 : decode cS_aim 2 = .ok (.invokevirtual 82, 3) := by decide +kernel
theorem dS_aim_5 : decode cS_aim 5 = .ok (.astore_n 2, 1) := by decide +kernel
theorem dS_aim_6 : decode cS_aim 6 = .ok (.aload_n 2, 1) := by decide +kernel
theorem dS_aim_7 : decode cS_aim 7 = .ok (.ifnonnull (7), 3) := by decide +kernel
theorem dS_aim_10 : decode cS_aim 10 = .ok (.ldc2_w 164, 3) := by decide +kernel
theorem dS_aim_13 : decode cS_aim 13 = .ok (.lreturn, 1) := by decide +kernel
theorem dS_aim_14 : decode cS_aim 14 = .ok (.aload_n 0, 1) := by decide +kernel
theorem dS_aim_15 : decode cS_aim 15 = .ok (.invokevirtual 141, 3) := by decide +kernel
theorem dS_aim_18 : decode cS_aim 18 = .ok (.aload_n 2, 1) := by decide +kernel
theorem dS_aim_19 : decode cS_aim 19 = .ok (.invokestatic 166, 3) := by decide +kernel
theorem dS_aim_22 : decode cS_aim 22 = .ok (.lreturn, 1) := by decide +kernel
theorem dS_value_0 : decode cS_value 0 = .ok (.aload_n 0, 1) := by decide +kernel
theorem dS_value_1 : decode cS_value 1 = .ok (.iload_n 1, 1) := by decide +kernel
theorem dS_value_2 : decode cS_value 2 = .ok (.invokevirtual 78, 3) := by decide +kernel
theorem dS_value_5 : decode cS_value 5 = .ok (.astore_n 2, 1) := by decide +kernel
theorem dS_value_6 : decode cS_value 6 = .ok (.aload_n 2, 1) := by decide +kernel
theorem dS_value_7 : decode cS_value 7 = .ok (.ifnonnull (5), 3) := by decide +kernel
theorem dS_value_10 : decode cS_value 10 = .ok (.iconst (-1), 1) := by decide +kernel
theorem dS_value_11 : decode cS_value 11 = .ok (.ireturn, 1) := by decide +kernel
theorem dS_value_12 : decode cS_value 12 = .ok (.aload_n 0, 1) := by decide +kernel
theorem dS_value_13 : decode cS_value 13 = .ok (.invokevirtual 141, 3) := by decide +kernel
theorem dS_value_16 : decode cS_value 16 = .ok (.aload_n 2, 1) := by decide +kernel
theorem dS_value_17 : decode cS_value 17 = .ok (.invokestatic 170, 3) := by decide +kernel
theorem dS_value_20 : decode cS_value 20 = .ok (.ireturn, 1) := by decide +kernel
theorem dS_span_0 : decode cS_span 0 = .ok (.aload_n 0, 1) := by decide +kernel
theorem dS_span_1 : decode cS_span 1 = .ok (.iload_n 1, 1) := by decide +kernel
theorem dS_span_2 : decode cS_span 2 = .ok (.invokevirtual 51, 3) := by decide +kernel
theorem dS_span_5 : decode cS_span 5 = .ok (.astore_n 3, 1) := by decide +kernel
theorem dS_span_6 : decode cS_span 6 = .ok (.aload_n 3, 1) := by decide +kernel
theorem dS_span_7 : decode cS_span 7 = .ok (.ifnonnull (5), 3) := by decide +kernel
theorem dS_span_10 : decode cS_span 10 = .ok (.iconst (-1), 1) := by decide +kernel
theorem dS_span_11 : decode cS_span 11 = .ok (.ireturn, 1) := by decide +kernel
theorem dS_span_12 : decode cS_span 12 = .ok (.aload_n 0, 1) := by decide +kernel
theorem dS_span_13 : decode cS_span 13 = .ok (.invokevirtual 141, 3) := by decide +kernel
theorem dS_span_16 : decode cS_span 16 = .ok (.iload_n 2, 1) := by decide +kernel
theorem dS_span_17 : decode cS_span 17 = .ok (.tableswitch (98) (0) (4) #[35, 40, 56, 72, 85], 35) := by decide +kernel
theorem dS_span_52 : decode cS_span 52 = .ok (.aload_n 3, 1) := by decide +kernel
theorem dS_span_53 : decode cS_span 53 = .ok (.getfield 174, 3) := by decide +kernel
theorem dS_span_56 : decode cS_span 56 = .ok (.ireturn, 1) := by decide +kernel
theorem dS_span_57 : decode cS_span 57 = .ok (.aload_n 3, 1) := by decide +kernel
theorem dS_span_58 : decode cS_span 58 = .ok (.getfield 108, 3) := by decide +kernel
theorem dS_span_61 : decode cS_span 61 = .ok (.ifCond .eq (7), 3) := by decide +kernel
theorem dS_span_64 : decode cS_span 64 = .ok (.iconst (-1), 1) := by decide +kernel
theorem dS_span_65 : decode cS_span 65 = .ok (.goto (7), 3) := by decide +kernel
theorem dS_span_68 : decode cS_span 68 = .ok (.aload_n 3, 1) := by decide +kernel
theorem dS_span_69 : decode cS_span 69 = .ok (.getfield 177, 3) := by decide +kernel
theorem dS_span_72 : decode cS_span 72 = .ok (.ireturn, 1) := by decide +kernel
theorem dS_span_73 : decode cS_span 73 = .ok (.aload_n 3, 1) := by decide +kernel
theorem dS_span_74 : decode cS_span 74 = .ok (.getfield 108, 3) := by decide +kernel
theorem dS_span_77 : decode cS_span 77 = .ok (.ifCond .eq (7), 3) := by decide +kernel
theorem dS_span_80 : decode cS_span 80 = .ok (.iconst (-1), 1) := by decide +kernel
theorem dS_span_81 : decode cS_span 81 = .ok (.goto (7), 3) := by decide +kernel
theorem dS_span_84 : decode cS_span 84 = .ok (.aload_n 3, 1) := by decide +kernel
theorem dS_span_85 : decode cS_span 85 = .ok (.getfield 180, 3) := by decide +kernel
theorem dS_span_88 : decode cS_span 88 = .ok (.ireturn, 1) := by decide +kernel
theorem dS_span_89 : decode cS_span 89 = .ok (.aload_n 3, 1) := by decide +kernel
theorem dS_span_90 : decode cS_span 90 = .ok (.getfield 108, 3) := by decide +kernel
theorem dS_span_93 : decode cS_span 93 = .ok (.ifCond .eq (7), 3) := by decide +kernel
theorem dS_span_96 : decode cS_span 96 = .ok (.iconst 1, 1) := by decide +kernel
theorem dS_span_97 : decode cS_span 97 = .ok (.goto (4), 3) := by decide +kernel
theorem dS_span_100 : decode cS_span 100 = .ok (.iconst 0, 1) := by decide +kernel
theorem dS_span_101 : decode cS_span 101 = .ok (.ireturn, 1) := by decide +kernel
theorem dS_span_102 : decode cS_span 102 = .ok (.aload_n 3, 1) := by decide +kernel
theorem dS_span_103 : decode cS_span 103 = .ok (.getfield 104, 3) := by decide +kernel
theorem dS_span_106 : decode cS_span 106 = .ok (.ifCond .eq (7), 3) := by decide +kernel
theorem dS_span_109 : decode cS_span 109 = .ok (.iconst 1, 1) := by decide +kernel
theorem dS_span_110 : decode cS_span 110 = .ok (.goto (4), 3) := by decide +kernel
theorem dS_span_113 : decode cS_span 113 = .ok (.iconst 0, 1) := by decide +kernel
theorem dS_span_114 : decode cS_span 114 = .ok (.ireturn, 1) := by decide +kernel
theorem dS_span_115 : decode cS_span 115 = .ok (.iconst (-1), 1) := by decide +kernel
theorem dS_span_116 : decode cS_span 116 = .ok (.ireturn, 1) := by decide +kernel
theorem dS_output_0 : decode cS_output 0 = .ok (.iload_n 1, 1) := by decide +kernel
theorem dS_output_1 : decode cS_output 1 = .ok (.invokestatic 41, 3) := by decide +kernel
theorem dS_output_4 : decode cS_output 4 = .ok (.ifCond .ne (5), 3) := by decide +kernel
theorem dS_output_7 : decode cS_output 7 = .ok (.iconst (-1), 1) := by decide +kernel
theorem dS_output_8 : decode cS_output 8 = .ok (.ireturn, 1) := by decide +kernel
theorem dS_output_9 : decode cS_output 9 = .ok (.aload_n 0, 1) := by decide +kernel
theorem dS_output_10 : decode cS_output 10 = .ok (.invokevirtual 141, 3) := by decide +kernel
theorem dS_output_13 : decode cS_output 13 = .ok (.iload_n 2, 1) := by decide +kernel
theorem dS_output_14 : decode cS_output 14 = .ok (.lookupswitch (40) #[(0, 26), (1, 33)], 26) := by decide +kernel
theorem dS_output_40 : decode cS_output 40 = .ok (.aload_n 0, 1) := by decide +kernel
theorem dS_output_41 : decode cS_output 41 = .ok (.getfield 31, 3) := by decide +kernel
theorem dS_output_44 : decode cS_output 44 = .ok (.iload_n 1, 1) := by decide +kernel
theorem dS_output_45 : decode cS_output 45 = .ok (.iaload, 1) := by decide +kernel
theorem dS_output_46 : decode cS_output 46 = .ok (.ireturn, 1) := by decide +kernel
theorem dS_output_47 : decode cS_output 47 = .ok (.aload_n 0, 1) := by decide +kernel
theorem dS_output_48 : decode cS_output 48 = .ok (.getfield 34, 3) := by decide +kernel
theorem dS_output_51 : decode cS_output 51 = .ok (.iload_n 1, 1) := by decide +kernel
theorem dS_output_52 : decode cS_output 52 = .ok (.iaload, 1) := by decide +kernel
theorem dS_output_53 : decode cS_output 53 = .ok (.ireturn, 1) := by decide +kernel
theorem dS_output_54 : decode cS_output 54 = .ok (.iconst (-1), 1) := by decide +kernel
theorem dS_output_55 : decode cS_output 55 = .ok (.ireturn, 1) := by decide +kernel
theorem dS_saved_0 : decode cS_saved 0 = .ok (.iconst 0, 1) := by decide +kernel
theorem dS_saved_1 : decode cS_saved 1 = .ok (.istore_n 1, 1) := by decide +kernel
theorem dS_saved_2 : decode cS_saved 2 = .ok (.aload_n 0, 1) := by decide +kernel
theorem dS_saved_3 : decode cS_saved 3 = .ok (.getfield 17, 3) := by decide +kernel
theorem dS_saved_6 : decode cS_saved 6 = .ok (.astore_n 2, 1) := by decide +kernel
theorem dS_saved_7 : decode cS_saved 7 = .ok (.aload_n 2, 1) := by decide +kernel
theorem dS_saved_8 : decode cS_saved 8 = .ok (.arraylength, 1) := by decide +kernel
theorem dS_saved_9 : decode cS_saved 9 = .ok (.istore_n 3, 1) := by decide +kernel
theorem dS_saved_10 : decode cS_saved 10 = .ok (.iconst 0, 1) := by decide +kernel
theorem dS_saved_11 : decode cS_saved 11 = .ok (.istore 4, 2) := by decide +kernel
theorem dS_saved_13 : decode cS_saved 13 = .ok (.iload 4, 2) := by decide +kernel
theorem dS_saved_15 : decode cS_saved 15 = .ok (.iload_n 3, 1) := by decide +kernel
theorem dS_saved_16 : decode cS_saved 16 = .ok (.if_icmp .ge (56), 3) := by decide +kernel
theorem dS_saved_19 : decode cS_saved 19 = .ok (.aload_n 2, 1) := by decide +kernel
theorem dS_saved_20 : decode cS_saved 20 = .ok (.iload 4, 2) := by decide +kernel
theorem dS_saved_22 : decode cS_saved 22 = .ok (.aaload, 1) := by decide +kernel
theorem dS_saved_23 : decode cS_saved 23 = .ok (.astore 5, 2) := by decide +kernel
theorem dS_saved_25 : decode cS_saved 25 = .ok (.aload 5, 2) := by decide +kernel
theorem dS_saved_27 : decode cS_saved 27 = .ok (.ifnonnull (6), 3) := by decide +kernel
theorem dS_saved_30 : decode cS_saved 30 = .ok (.goto (42), 3) := by decide +kernel
theorem dS_saved_33 : decode cS_saved 33 = .ok (.aload 5, 2) := by decide +kernel
theorem dS_saved_35 : decode cS_saved 35 = .ok (.getfield 128, 3) := by decide +kernel
theorem dS_saved_38 : decode cS_saved 38 = .ok (.ifnull (28), 3) := by decide +kernel
theorem dS_saved_41 : decode cS_saved 41 = .ok (.aload 5, 2) := by decide +kernel
theorem dS_saved_43 : decode cS_saved 43 = .ok (.getfield 144, 3) := by decide +kernel
theorem dS_saved_46 : decode cS_saved 46 = .ok (.getfield 108, 3) := by decide +kernel
theorem dS_saved_49 : decode cS_saved 49 = .ok (.ifCond .ne (17), 3) := by decide +kernel
theorem dS_saved_52 : decode cS_saved 52 = .ok (.iload_n 1, 1) := by decide +kernel
theorem dS_saved_53 : decode cS_saved 53 = .ok (.aload 5, 2) := by decide +kernel
theorem dS_saved_55 : decode cS_saved 55 = .ok (.getfield 132, 3) := by decide +kernel
theorem dS_saved_58 : decode cS_saved 58 = .ok (.aload 5, 2) := by decide +kernel
theorem dS_saved_60 : decode cS_saved 60 = .ok (.getfield 135, 3) := by decide +kernel
theorem dS_saved_63 : decode cS_saved 63 = .ok (.isub, 1) := by decide +kernel
theorem dS_saved_64 : decode cS_saved 64 = .ok (.iadd, 1) := by decide +kernel
theorem dS_saved_65 : decode cS_saved 65 = .ok (.istore_n 1, 1) := by decide +kernel
theorem dS_saved_66 : decode cS_saved 66 = .ok (.iinc 4 (1), 3) := by decide +kernel
theorem dS_saved_69 : decode cS_saved 69 = .ok (.goto (-56), 3) := by decide +kernel
theorem dS_saved_72 : decode cS_saved 72 = .ok (.iload_n 1, 1) := by decide +kernel
theorem dS_saved_73 : decode cS_saved 73 = .ok (.ireturn, 1) := by decide +kernel
theorem dS_partAt_0 : decode cS_partAt 0 = .ok (.iload_n 1, 1) := by decide +kernel
theorem dS_partAt_1 : decode cS_partAt 1 = .ok (.ifCond .lt (21), 3) := by decide +kernel
theorem dS_partAt_4 : decode cS_partAt 4 = .ok (.iload_n 1, 1) := by decide +kernel
theorem dS_partAt_5 : decode cS_partAt 5 = .ok (.aload_n 0, 1) := by decide +kernel
theorem dS_partAt_6 : decode cS_partAt 6 = .ok (.getfield 11, 3) := by decide +kernel
theorem dS_partAt_9 : decode cS_partAt 9 = .ok (.arraylength, 1) := by decide +kernel
theorem dS_partAt_10 : decode cS_partAt 10 = .ok (.if_icmp .ge (12), 3) := by decide +kernel
theorem dS_partAt_13 : decode cS_partAt 13 = .ok (.aload_n 0, 1) := by decide +kernel
theorem dS_partAt_14 : decode cS_partAt 14 = .ok (.getfield 11, 3) := by decide +kernel
theorem dS_partAt_17 : decode cS_partAt 17 = .ok (.iload_n 1, 1) := by decide +kernel
theorem dS_partAt_18 : decode cS_partAt 18 = .ok (.aaload, 1) := by decide +kernel
theorem dS_partAt_19 : decode cS_partAt 19 = .ok (.goto (4), 3) := by decide +kernel
theorem dS_partAt_22 : decode cS_partAt 22 = .ok (.aconst_null, 1) := by decide +kernel
theorem dS_partAt_23 : decode cS_partAt 23 = .ok (.areturn, 1) := by decide +kernel
theorem dS_labelAt_0 : decode cS_labelAt 0 = .ok (.iload_n 1, 1) := by decide +kernel
theorem dS_labelAt_1 : decode cS_labelAt 1 = .ok (.ifCond .lt (21), 3) := by decide +kernel
theorem dS_labelAt_4 : decode cS_labelAt 4 = .ok (.iload_n 1, 1) := by decide +kernel
theorem dS_labelAt_5 : decode cS_labelAt 5 = .ok (.aload_n 0, 1) := by decide +kernel
theorem dS_labelAt_6 : decode cS_labelAt 6 = .ok (.getfield 23, 3) := by decide +kernel
theorem dS_labelAt_9 : decode cS_labelAt 9 = .ok (.arraylength, 1) := by decide +kernel
theorem dS_labelAt_10 : decode cS_labelAt 10 = .ok (.if_icmp .ge (12), 3) := by decide +kernel
theorem dS_labelAt_13 : decode cS_labelAt 13 = .ok (.aload_n 0, 1) := by decide +kernel
theorem dS_labelAt_14 : decode cS_labelAt 14 = .ok (.getfield 23, 3) := by decide +kernel
theorem dS_labelAt_17 : decode cS_labelAt 17 = .ok (.iload_n 1, 1) := by decide +kernel
theorem dS_labelAt_18 : decode cS_labelAt 18 = .ok (.aaload, 1) := by decide +kernel
theorem dS_labelAt_19 : decode cS_labelAt 19 = .ok (.goto (4), 3) := by decide +kernel
theorem dS_labelAt_22 : decode cS_labelAt 22 = .ok (.aconst_null, 1) := by decide +kernel
theorem dS_labelAt_23 : decode cS_labelAt 23 = .ok (.areturn, 1) := by decide +kernel
theorem dS_pieceAt_0 : decode cS_pieceAt 0 = .ok (.iload_n 1, 1) := by decide +kernel
theorem dS_pieceAt_1 : decode cS_pieceAt 1 = .ok (.ifCond .lt (21), 3) := by decide +kernel
theorem dS_pieceAt_4 : decode cS_pieceAt 4 = .ok (.iload_n 1, 1) := by decide +kernel
theorem dS_pieceAt_5 : decode cS_pieceAt 5 = .ok (.aload_n 0, 1) := by decide +kernel
theorem dS_pieceAt_6 : decode cS_pieceAt 6 = .ok (.getfield 17, 3) := by decide +kernel
theorem dS_pieceAt_9 : decode cS_pieceAt 9 = .ok (.arraylength, 1) := by decide +kernel
theorem dS_pieceAt_10 : decode cS_pieceAt 10 = .ok (.if_icmp .ge (12), 3) := by decide +kernel
theorem dS_pieceAt_13 : decode cS_pieceAt 13 = .ok (.aload_n 0, 1) := by decide +kernel
theorem dS_pieceAt_14 : decode cS_pieceAt 14 = .ok (.getfield 17, 3) := by decide +kernel
theorem dS_pieceAt_17 : decode cS_pieceAt 17 = .ok (.iload_n 1, 1) := by decide +kernel
theorem dS_pieceAt_18 : decode cS_pieceAt 18 = .ok (.aaload, 1) := by decide +kernel
theorem dS_pieceAt_19 : decode cS_pieceAt 19 = .ok (.goto (4), 3) := by decide +kernel
theorem dS_pieceAt_22 : decode cS_pieceAt 22 = .ok (.aconst_null, 1) := by decide +kernel
theorem dS_pieceAt_23 : decode cS_pieceAt 23 = .ok (.areturn, 1) := by decide +kernel
theorem dS_partLedTo_0 : decode cS_partLedTo 0 = .ok (.aload_n 0, 1) := by decide +kernel
theorem dS_partLedTo_1 : decode cS_partLedTo 1 = .ok (.getfield 128, 3) := by decide +kernel
theorem dS_partLedTo_4 : decode cS_partLedTo 4 = .ok (.ifnull (13), 3) := by decide +kernel
theorem dS_partLedTo_7 : decode cS_partLedTo 7 = .ok (.aload_n 0, 1) := by decide +kernel
theorem dS_partLedTo_8 : decode cS_partLedTo 8 = .ok (.getfield 128, 3) := by decide +kernel
theorem dS_partLedTo_11 : decode cS_partLedTo 11 = .ok (.getfield 92, 3) := by decide +kernel
theorem dS_partLedTo_14 : decode cS_partLedTo 14 = .ok (.ifnonnull (5), 3) := by decide +kernel
theorem dS_partLedTo_17 : decode cS_partLedTo 17 = .ok (.aconst_null, 1) := by decide +kernel
theorem dS_partLedTo_18 : decode cS_partLedTo 18 = .ok (.areturn, 1) := by decide +kernel
theorem dS_partLedTo_19 : decode cS_partLedTo 19 = .ok (.aload_n 0, 1) := by decide +kernel
theorem dS_partLedTo_20 : decode cS_partLedTo 20 = .ok (.getfield 128, 3) := by decide +kernel
theorem dS_partLedTo_23 : decode cS_partLedTo 23 = .ok (.getfield 92, 3) := by decide +kernel
theorem dS_partLedTo_26 : decode cS_partLedTo 26 = .ok (.getfield 144, 3) := by decide +kernel
theorem dS_partLedTo_29 : decode cS_partLedTo 29 = .ok (.areturn, 1) := by decide +kernel
