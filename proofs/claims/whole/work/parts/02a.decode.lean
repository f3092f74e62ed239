theorem dP_init_0 : decode cP_init 0 = .ok (.aload_n 0, 1) := by decide +kernel
theorem dP_init_1 : decode cP_init 1 = .ok (.invokespecial 1, 3) := by decide +kernel
theorem dP_init_4 : decode cP_init 4 = .ok (.aload_n 0, 1) := by decide +kernel
theorem dP_init_5 : decode cP_init 5 = .ok (.iload_n 1, 1) := by decide +kernel
theorem dP_init_6 : decode cP_init 6 = .ok (.putfield 7, 3) := by decide +kernel
theorem dP_init_9 : decode cP_init 9 = .ok (.aload_n 0, 1) := by decide +kernel
theorem dP_init_10 : decode cP_init 10 = .ok (.iload_n 2, 1) := by decide +kernel
theorem dP_init_11 : decode cP_init 11 = .ok (.putfield 13, 3) := by decide +kernel
theorem dP_init_14 : decode cP_init 14 = .ok (.aload_n 0, 1) := by decide +kernel
theorem dP_init_15 : decode cP_init 15 = .ok (.iload_n 3, 1) := by decide +kernel
theorem dP_init_16 : decode cP_init 16 = .ok (.putfield 16, 3) := by decide +kernel
theorem dP_init_19 : decode cP_init 19 = .ok (.return_, 1) := by decide +kernel
theorem dQ_init_0 : decode cQ_init 0 = .ok (.aload_n 0, 1) := by decide +kernel
theorem dQ_init_1 : decode cQ_init 1 = .ok (.invokespecial 3, 3) := by decide +kernel
theorem dQ_init_4 : decode cQ_init 4 = .ok (.aload_n 0, 1) := by decide +kernel
theorem dQ_init_5 : decode cQ_init 5 = .ok (.iload_n 1, 1) := by decide +kernel
theorem dQ_init_6 : decode cQ_init 6 = .ok (.putfield 9, 3) := by decide +kernel
theorem dQ_init_9 : decode cQ_init 9 = .ok (.aload_n 0, 1) := by decide +kernel
theorem dQ_init_10 : decode cQ_init 10 = .ok (.aload_n 2, 1) := by decide +kernel
theorem dQ_init_11 : decode cQ_init 11 = .ok (.putfield 15, 3) := by decide +kernel
theorem dQ_init_14 : decode cQ_init 14 = .ok (.aload_n 0, 1) := by decide +kernel
theorem dQ_init_15 : decode cQ_init 15 = .ok (.aconst_null, 1) := by decide +kernel
theorem dQ_init_16 : decode cQ_init 16 = .ok (.putfield 19, 3) := by decide +kernel
theorem dQ_init_19 : decode cQ_init 19 = .ok (.aload_n 0, 1) := by decide +kernel
theorem dQ_init_20 : decode cQ_init 20 = .ok (.iconst 0, 1) := by decide +kernel
theorem dQ_init_21 : decode cQ_init 21 = .ok (.putfield 23, 3) := by decide +kernel
theorem dQ_init_24 : decode cQ_init 24 = .ok (.aload_n 0, 1) := by decide +kernel
theorem dQ_init_25 : decode cQ_init 25 = .ok (.iconst 0, 1) := by decide +kernel
theorem dQ_init_26 : decode cQ_init 26 = .ok (.putfield 26, 3) := by decide +kernel
theorem dQ_init_29 : decode cQ_init 29 = .ok (.aload_n 0, 1) := by decide +kernel
theorem dQ_init_30 : decode cQ_init 30 = .ok (.iload_n 3, 1) := by decide +kernel
theorem dQ_init_31 : decode cQ_init 31 = .ok (.putfield 30, 3) := by decide +kernel
theorem dQ_init_34 : decode cQ_init 34 = .ok (.aload_n 0, 1) := by decide +kernel
theorem dQ_init_35 : decode cQ_init 35 = .ok (.iload 4, 2) := by decide +kernel
theorem dQ_init_37 : decode cQ_init 37 = .ok (.putfield 33, 3) := by decide +kernel
theorem dQ_init_40 : decode cQ_init 40 = .ok (.aload_n 0, 1) := by decide +kernel
theorem dQ_init_41 : decode cQ_init 41 = .ok (.iload 4, 2) := by decide +kernel
theorem dQ_init_43 : decode cQ_init 43 = .ok (.putfield 36, 3) := by decide +kernel
theorem dQ_init_46 : decode cQ_init 46 = .ok (.aload_n 0, 1) := by decide +kernel
theorem dQ_init_47 : decode cQ_init 47 = .ok (.iload 4, 2) := by decide +kernel
theorem dQ_init_49 : decode cQ_init 49 = .ok (.putfield 39, 3) := by decide +kernel
theorem dQ_init_52 : decode cQ_init 52 = .ok (.return_, 1) := by decide +kernel
theorem dP_append_0 : decode cP_append 0 = .ok (.aload_n 0, 1) := by decide +kernel
theorem dP_append_1 : decode cP_append 1 = .ok (.getfield 19, 3) := by decide +kernel
theorem dP_append_4 : decode cP_append 4 = .ok (.ifnonnull (11), 3) := by decide +kernel
theorem dP_append_7 : decode cP_append 7 = .ok (.aload_n 0, 1) := by decide +kernel
theorem dP_append_8 : decode cP_append 8 = .ok (.aload_n 1, 1) := by decide +kernel
theorem dP_append_9 : decode cP_append 9 = .ok (.putfield 23, 3) := by decide +kernel
theorem dP_append_12 : decode cP_append 12 = .ok (.goto (11), 3) := by decide +kernel
theorem dP_append_15 : decode cP_append 15 = .ok (.aload_n 0, 1) := by decide +kernel
theorem dP_append_16 : decode cP_append 16 = .ok (.getfield 19, 3) := by decide +kernel
theorem dP_append_19 : decode cP_append 19 = .ok (.aload_n 1, 1) := by decide +kernel
theorem dP_append_20 : decode cP_append 20 = .ok (.putfield 26, 3) := by decide +kernel
theorem dP_append_23 : decode cP_append 23 = .ok (.aload_n 0, 1) := by decide +kernel
theorem dP_append_24 : decode cP_append 24 = .ok (.aload_n 1, 1) := by decide +kernel
theorem dP_append_25 : decode cP_append 25 = .ok (.putfield 19, 3) := by decide +kernel
theorem dP_append_28 : decode cP_append 28 = .ok (.return_, 1) := by decide +kernel
theorem dQ_init2_0 : decode cQ_init2 0 = .ok (.aload_n 0, 1) := by decide +kernel
theorem dQ_init2_1 : decode cQ_init2 1 = .ok (.invokespecial 3, 3) := by decide +kernel
theorem dQ_init2_4 : decode cQ_init2 4 = .ok (.aload_n 0, 1) := by decide +kernel
theorem dQ_init2_5 : decode cQ_init2 5 = .ok (.iload_n 1, 1) := by decide +kernel
theorem dQ_init2_6 : decode cQ_init2 6 = .ok (.putfield 9, 3) := by decide +kernel
theorem dQ_init2_9 : decode cQ_init2 9 = .ok (.aload_n 0, 1) := by decide +kernel
theorem dQ_init2_10 : decode cQ_init2 10 = .ok (.aload_n 2, 1) := by decide +kernel
theorem dQ_init2_11 : decode cQ_init2 11 = .ok (.putfield 15, 3) := by decide +kernel
theorem dQ_init2_14 : decode cQ_init2 14 = .ok (.aload_n 0, 1) := by decide +kernel
theorem dQ_init2_15 : decode cQ_init2 15 = .ok (.aload_n 3, 1) := by decide +kernel
theorem dQ_init2_16 : decode cQ_init2 16 = .ok (.putfield 19, 3) := by decide +kernel
theorem dQ_init2_19 : decode cQ_init2 19 = .ok (.aload_n 0, 1) := by decide +kernel
theorem dQ_init2_20 : decode cQ_init2 20 = .ok (.iload 4, 2) := by decide +kernel
theorem dQ_init2_22 : decode cQ_init2 22 = .ok (.putfield 23, 3) := by decide +kernel
theorem dQ_init2_25 : decode cQ_init2 25 = .ok (.aload_n 0, 1) := by decide +kernel
theorem dQ_init2_26 : decode cQ_init2 26 = .ok (.iload 5, 2) := by decide +kernel
theorem dQ_init2_28 : decode cQ_init2 28 = .ok (.putfield 26, 3) := by decide +kernel
theorem dQ_init2_31 : decode cQ_init2 31 = .ok (.aload_n 0, 1) := by decide +kernel
theorem dQ_init2_32 : decode cQ_init2 32 = .ok (.iconst 0, 1) := by decide +kernel
theorem dQ_init2_33 : decode cQ_init2 33 = .ok (.putfield 30, 3) := by decide +kernel
theorem dQ_init2_36 : decode cQ_init2 36 = .ok (.aload_n 0, 1) := by decide +kernel
theorem dQ_init2_37 : decode cQ_init2 37 = .ok (.iconst 0, 1) := by decide +kernel
theorem dQ_init2_38 : decode cQ_init2 38 = .ok (.putfield 33, 3) := by decide +kernel
theorem dQ_init2_41 : decode cQ_init2 41 = .ok (.aload_n 0, 1) := by decide +kernel
theorem dQ_init2_42 : decode cQ_init2 42 = .ok (.iload_n 1, 1) := by decide +kernel
theorem dQ_init2_43 : decode cQ_init2 43 = .ok (.iconst 1, 1) := by decide +kernel
theorem dQ_init2_44 : decode cQ_init2 44 = .ok (.if_icmp .ne (8), 3) := by decide +kernel
theorem dQ_init2_47 : decode cQ_init2 47 = .ok (.bipush (8), 2) := by decide +kernel
theorem dQ_init2_49 : decode cQ_init2 49 = .ok (.goto (4), 3) := by decide +kernel
theorem dQ_init2_52 : decode cQ_init2 52 = .ok (.iconst 4, 1) := by decide +kernel
theorem dQ_init2_53 : decode cQ_init2 53 = .ok (.putfield 36, 3) := by decide +kernel
theorem dQ_init2_56 : decode cQ_init2 56 = .ok (.aload_n 0, 1) := by decide +kernel
theorem dQ_init2_57 : decode cQ_init2 57 = .ok (.aload_n 0, 1) := by decide +kernel
theorem dQ_init2_58 : decode cQ_init2 58 = .ok (.getfield 36, 3) := by decide +kernel
theorem dQ_init2_61 : decode cQ_init2 61 = .ok (.putfield 39, 3) := by decide +kernel
theorem dQ_init2_64 : decode cQ_init2 64 = .ok (.return_, 1) := by decide +kernel
theorem dB_init_0 : decode cB_init 0 = .ok (.aload_n 0, 1) := by decide +kernel
theorem dB_init_1 : decode cB_init 1 = .ok (.invokespecial 1, 3) := by decide +kernel
theorem dB_init_4 : decode cB_init 4 = .ok (.return_, 1) := by decide +kernel
theorem dA_min_0 : decode cA_min 0 = .ok (.iload_n 0, 1) := by decide +kernel
theorem dA_min_1 : decode cA_min 1 = .ok (.iload_n 1, 1) := by decide +kernel
theorem dA_min_2 : decode cA_min 2 = .ok (.if_icmp .gt (7), 3) := by decide +kernel
theorem dA_min_5 : decode cA_min 5 = .ok (.iload_n 0, 1) := by decide +kernel
theorem dA_min_6 : decode cA_min 6 = .ok (.goto (4), 3) := by decide +kernel
theorem dA_min_9 : decode cA_min 9 = .ok (.iload_n 1, 1) := by decide +kernel
theorem dA_min_10 : decode cA_min 10 = .ok (.ireturn, 1) := by decide +kernel
theorem dA_floorDiv_0 : decode cA_floorDiv 0 = .ok (.lload_n 0, 1) := by decide +kernel
theorem dA_floorDiv_1 : decode cA_floorDiv 1 = .ok (.lload_n 2, 1) := by decide +kernel
theorem dA_floorDiv_2 : decode cA_floorDiv 2 = .ok (.ldiv, 1) := by decide +kernel
theorem dA_floorDiv_3 : decode cA_floorDiv 3 = .ok (.lstore 4, 2) := by decide +kernel
theorem dA_floorDiv_5 : decode cA_floorDiv 5 = .ok (.lload_n 0, 1) := by decide +kernel
theorem dA_floorDiv_6 : decode cA_floorDiv 6 = .ok (.lload_n 2, 1) := by decide +kernel
theorem dA_floorDiv_7 : decode cA_floorDiv 7 = .ok (.lxor, 1) := by decide +kernel
theorem dA_floorDiv_8 : decode cA_floorDiv 8 = .ok (.lconst 0, 1) := by decide +kernel
theorem dA_floorDiv_9 : decode cA_floorDiv 9 = .ok (.lcmp, 1) := by decide +kernel
theorem dA_floorDiv_10 : decode cA_floorDiv 10 = .ok (.ifCond .ge (17), 3) := by decide +kernel
theorem dA_floorDiv_13 : decode cA_floorDiv 13 = .ok (.lload 4, 2) := by decide +kernel
theorem dA_floorDiv_15 : decode cA_floorDiv 15 = .ok (.lload_n 2, 1) := by decide +kernel
theorem dA_floorDiv_16 : decode cA_floorDiv 16 = .ok (.lmul, 1) := by decide +kernel
theorem dA_floorDiv_17 : decode cA_floorDiv 17 = .ok (.lload_n 0, 1) := by decide +kernel
theorem dA_floorDiv_18 : decode cA_floorDiv 18 = .ok (.lcmp, 1) := by decide +kernel
theorem dA_floorDiv_19 : decode cA_floorDiv 19 = .ok (.ifCond .eq (8), 3) := by decide +kernel
theorem dA_floorDiv_22 : decode cA_floorDiv 22 = .ok (.lload 4, 2) := by decide +kernel
theorem dA_floorDiv_24 : decode cA_floorDiv 24 = .ok (.lconst 1, 1) := by decide +kernel
theorem dA_floorDiv_25 : decode cA_floorDiv 25 = .ok (.lsub, 1) := by decide +kernel
theorem dA_floorDiv_26 : decode cA_floorDiv 26 = .ok (.lreturn, 1) := by decide +kernel
theorem dA_floorDiv_27 : decode cA_floorDiv 27 = .ok (.lload 4, 2) := by decide +kernel
theorem dA_floorDiv_29 : decode cA_floorDiv 29 = .ok (.lreturn, 1) := by decide +kernel
theorem dS_init_0 : decode cS_init 0 = .ok (.aload_n 0, 1) := by decide +kernel
theorem dS_init_1 : decode cS_init 1 = .ok (.invokespecial 3, 3) := by decide +kernel
theorem dS_init_4 : decode cS_init 4 = .ok (.aload_n 0, 1) := by decide +kernel
theorem dS_init_5 : decode cS_init 5 = .ok (.bipush (32), 2) := by decide +kernel
theorem dS_init_7 : decode cS_init 7 = .ok (.anewarray 9, 3) := by decide +kernel
theorem dS_init_10 : decode cS_init 10 = .ok (.putfield 11, 3) := by decide +kernel
theorem dS_init_13 : decode cS_init 13 = .ok (.aload_n 0, 1) := by decide +kernel
theorem dS_init_14 : decode cS_init 14 = .ok (.sipush (256), 3) := by decide +kernel
theorem dS_init_17 : decode cS_init 17 = .ok (.anewarray 15, 3) := by decide +kernel
theorem dS_init_20 : decode cS_init 20 = .ok (.putfield 17, 3) := by decide +kernel
theorem dS_init_23 : decode cS_init 23 = .ok (.aload_n 0, 1) := by decide +kernel
theorem dS_init_24 : decode cS_init 24 = .ok (.bipush (64), 2) := by decide +kernel
theorem dS_init_26 : decode cS_init 26 = .ok (.anewarray 21, 3) := by decide +kernel
theorem dS_init_29 : decode cS_init 29 = .ok (.putfield 23, 3) := by decide +kernel
theorem dS_init_32 : decode cS_init 32 = .ok (.aload_n 0, 1) := by decide +kernel
theorem dS_init_33 : decode cS_init 33 = .ok (.iconst 4, 1) := by decide +kernel
theorem dS_init_34 : decode cS_init 34 = .ok (.newarray .int, 2) := by decide +kernel
theorem dS_init_36 : decode cS_init 36 = .ok (.putfield 27, 3) := by decide +kernel
theorem dS_init_39 : decode cS_init 39 = .ok (.aload_n 0, 1) := by decide +kernel
theorem dS_init_40 : decode cS_init 40 = .ok (.iconst 4, 1) := by decide +kernel
theorem dS_init_41 : decode cS_init 41 = .ok (.newarray .int, 2) := by decide +kernel
theorem dS_init_43 : decode cS_init 43 = .ok (.putfield 31, 3) := by decide +kernel
theorem dS_init_46 : decode cS_init 46 = .ok (.aload_n 0, 1) := by decide +kernel
theorem dS_init_47 : decode cS_init 47 = .ok (.iconst 4, 1) := by decide +kernel
theorem dS_init_48 : decode cS_init 48 = .ok (.newarray .int, 2) := by decide +kernel
theorem dS_init_50 : decode cS_init 50 = .ok (.putfield 34, 3) := by decide +kernel
theorem dS_init_53 : decode cS_init 53 = .ok (.return_, 1) := by decide +kernel
theorem dS_part_0 : decode cS_part 0 = .ok (.aload_n 0, 1) := by decide +kernel
theorem dS_part_1 : decode cS_part 1 = .ok (.getfield 37, 3) := by decide +kernel
theorem dS_part_4 : decode cS_part 4 = .ok (.aload_n 0, 1) := by decide +kernel
theorem dS_part_5 : decode cS_part 5 = .ok (.getfield 11, 3) := by decide +kernel
theorem dS_part_8 : decode cS_part 8 = .ok (.arraylength, 1) := by decide +kernel
theorem dS_part_9 : decode cS_part 9 = .ok (.if_icmp .ge (17), 3) := by decide +kernel
theorem dS_part_12 : decode cS_part 12 = .ok (.iload_n 1, 1) := by decide +kernel
theorem dS_part_13 : decode cS_part 13 = .ok (.invokestatic 41, 3) := by decide +kernel
theorem dS_part_16 : decode cS_part 16 = .ok (.ifCond .eq (10), 3) := by decide +kernel
theorem dS_part_19 : decode cS_part 19 = .ok (.iload_n 2, 1) := by decide +kernel
theorem dS_part_20 : decode cS_part 20 = .ok (.invokestatic 45, 3) := by decide +kernel
theorem dS_part_23 : decode cS_part 23 = .ok (.ifCond .ne (5), 3) := by decide +kernel
theorem dS_part_26 : decode cS_part 26 = .ok (.iconst (-1), 1) := by decide +kernel
theorem dS_part_27 : decode cS_part 27 = .ok (.ireturn, 1) := by decide +kernel
theorem dS_part_28 : decode cS_part 28 = .ok (.aload_n 0, 1) := by decide +kernel
theorem dS_part_29 : decode cS_part 29 = .ok (.getfield 11, 3) := by decide +kernel
theorem dS_part_32 : decode cS_part 32 = .ok (.aload_n 0, 1) := by decide +kernel
theorem dS_part_33 : decode cS_part 33 = .ok (.getfield 37, 3) := by decide +kernel
theorem dS_part_36 : decode cS_part 36 = .ok (.new 9, 3) := by decide +kernel
theorem dS_part_39 : decode cS_part 39 = .ok (.dup, 1) := by decide +kernel
theorem dS_part_40 : decode cS_part 40 = .ok (.aload_n 0, 1) := by decide +kernel
theorem dS_part_41 : decode cS_part 41 = .ok (.getfield 37, 3) := by decide +kernel
theorem dS_part_44 : decode cS_part 44 = .ok (.iload_n 1, 1) := by decide +kernel
theorem dS_part_45 : decode cS_part 45 = .ok (.iload_n 2, 1) := by decide +kernel
theorem dS_part_46 : decode cS_part 46 = .ok (.invokespecial 48, 3) := by decide +kernel
theorem dS_part_49 : decode cS_part 49 = .ok (.aastore, 1) := by decide +kernel
theorem dS_part_50 : decode cS_part 50 = .ok (.aload_n 0, 1) := by decide +kernel
theorem dS_part_51 : decode cS_part 51 = .ok (.dup, 1) := by decide +kernel
theorem dS_part_52 : decode cS_part 52 = .ok (.getfield 37, 3) := by decide +kernel
theorem dS_part_55 : decode cS_part 55 = .ok (.iconst 1, 1) := by decide +kernel
theorem dS_part_56 : decode cS_part 56 = .ok (.iadd, 1) := by decide +kernel
theorem dS_part_57 : decode cS_part 57 = .ok (.putfield 37, 3) := by decide +kernel
theorem dS_part_60 : decode cS_part 60 = .ok (.aload_n 0, 1) := by decide +kernel
theorem dS_part_61 : decode cS_part 61 = .ok (.getfield 37, 3) := by decide +kernel
theorem dS_part_64 : decode cS_part 64 = .ok (.iconst 1, 1) := by decide +kernel
theorem dS_part_65 : decode cS_part 65 = .ok (.isub, 1) := by decide +kernel
theorem dS_part_66 : decode cS_part 66 = .ok (.ireturn, 1) := by decide +kernel
theorem dS_isOutput_0 : decode cS_isOutput 0 = .ok (.iload_n 0, 1) := by decide +kernel
theorem dS_isOutput_1 : decode cS_isOutput 1 = .ok (.i2l, 1) := by decide +kernel
theorem dS_isOutput_2 : decode cS_isOutput 2 = .ok (.lconst 0, 1) := by decide +kernel
theorem dS_isOutput_3 : decode cS_isOutput 3 = .ok (.ldc2_w 251, 3) := by decide +kernel
theorem dS_isOutput_6 : decode cS_isOutput 6 = .ok (.invokestatic 57, 3) := by decide +kernel
theorem dS_isOutput_9 : decode cS_isOutput 9 = .ok (.ireturn, 1) := by decide +kernel
theorem dS_isWithin_0 : decode cS_isWithin 0 = .ok (.lload_n 0, 1) := by decide +kernel
theorem dS_isWithin_1 : decode cS_isWithin 1 = .ok (.lload_n 2, 1) := by decide +kernel
theorem dS_isWithin_2 : decode cS_isWithin 2 = .ok (.lcmp, 1) := by decide +kernel
theorem dS_isWithin_3 : decode cS_isWithin 3 = .ok (.ifCond .lt (14), 3) := by decide +kernel
theorem dS_isWithin_6 : decode cS_isWithin 6 = .ok (.lload_n 0, 1) := by decide +kernel
theorem dS_isWithin_7 : decode cS_isWithin 7 = .ok (.lload 4, 2) := by decide +kernel
theorem dS_isWithin_9 : decode cS_isWithin 9 = .ok (.lcmp, 1) := by decide +kernel
theorem dS_isWithin_10 : decode cS_isWithin 10 = .ok (.ifCond .gt (7), 3) := by decide +kernel
theorem dS_isWithin_13 : decode cS_isWithin 13 = .ok (.iconst 1, 1) := by decide +kernel
theorem dS_isWithin_14 : decode cS_isWithin 14 = .ok (.goto (4), 3) := by decide +kernel
theorem dS_isWithin_17 : decode cS_isWithin 17 = .ok (.iconst 0, 1) := by decide +kernel
theorem dS_isWithin_18 : decode cS_isWithin 18 = .ok (.ireturn, 1) := by decide +kernel
theorem dS_isPower_0 : decode cS_isPower 0 = .ok (.iload_n 0, 1) := by decide +kernel
theorem dS_isPower_1 : decode cS_isPower 1 = .ok (.i2l, 1) := by decide +kernel
theorem dS_isPower_2 : decode cS_isPower 2 = .ok (.lconst 0, 1) := by decide +kernel
theorem dS_isPower_3 : decode cS_isPower 3 = .ok (.ldc2_w 253, 3) := by decide +kernel
theorem dS_isPower_6 : decode cS_isPower 6 = .ok (.invokestatic 57, 3) := by decide +kernel
theorem dS_isPower_9 : decode cS_isPower 9 = .ok (.ireturn, 1) := by decide +kernel
theorem dS_plain_0 : decode cS_plain 0 = .ok (.aload_n 0, 1) := by decide +kernel
theorem dS_plain_1 : decode cS_plain 1 = .ok (.iload_n 1, 1) := by decide +kernel
theorem dS_plain_2 : decode cS_plain 2 = .ok (.invokevirtual 51, 3) := by decide +kernel
theorem dS_plain_5 : decode cS_plain 5 = .ok (.astore_n 3, 1) := by decide +kernel
theorem dS_plain_6 : decode cS_plain 6 = .ok (.aload_n 3, 1) := by decide +kernel
theorem dS_plain_7 : decode cS_plain 7 = .ok (.ifnull (15), 3) := by decide +kernel
theorem dS_plain_10 : decode cS_plain 10 = .ok (.iload_n 2, 1) := by decide +kernel
theorem dS_plain_11 : decode cS_plain 11 = .ok (.i2l, 1) := by decide +kernel
theorem dS_plain_12 : decode cS_plain 12 = .ok (.lconst 0, 1) := by decide +kernel
theorem dS_plain_13 : decode cS_plain 13 = .ok (.ldc2_w 55, 3) := by decide +kernel
theorem dS_plain_16 : decode cS_plain 16 = .ok (.invokestatic 57, 3) := by decide +kernel
theorem dS_plain_19 : decode cS_plain 19 = .ok (.ifCond .ne (5), 3) := by decide +kernel
theorem dS_plain_22 : decode cS_plain 22 = .ok (.iconst (-1), 1) := by decide +kernel
theorem dS_plain_23 : decode cS_plain 23 = .ok (.ireturn, 1) := by decide +kernel
theorem dS_plain_24 : decode cS_plain 24 = .ok (.aload_n 0, 1) := by decide +kernel
theorem dS_plain_25 : decode cS_plain 25 = .ok (.new 15, 3) := by decide +kernel
theorem dS_plain_28 : decode cS_plain 28 = .ok (.dup, 1) := by decide +kernel
theorem dS_plain_29 : decode cS_plain 29 = .ok (.iconst 0, 1) := by decide +kernel
theorem dS_plain_30 : decode cS_plain 30 = .ok (.aload_n 3, 1) := by decide +kernel
theorem dS_plain_31 : decode cS_plain 31 = .ok (.iconst 0, 1) := by decide +kernel
theorem dS_plain_32 : decode cS_plain 32 = .ok (.iload_n 2, 1) := by decide +kernel
theorem dS_plain_33 : decode cS_plain 33 = .ok (.invokespecial 61, 3) := by decide +kernel
theorem dS_plain_36 : decode cS_plain 36 = .ok (.invokevirtual 64, 3) := by decide +kernel
theorem dS_plain_39 : decode cS_plain 39 = .ok (.ireturn, 1) := by decide +kernel
theorem dS_addPiece_0 : decode cS_addPiece 0 = .ok (.aload_n 0, 1) := by decide +kernel
theorem dS_addPiece_1 : decode cS_addPiece 1 = .ok (.getfield 186, 3) := by decide +kernel
theorem dS_addPiece_4 : decode cS_addPiece 4 = .ok (.aload_n 0, 1) := by decide +kernel
theorem dS_addPiece_5 : decode cS_addPiece 5 = .ok (.getfield 17, 3) := by decide +kernel
theorem dS_addPiece_8 : decode cS_addPiece 8 = .ok (.arraylength, 1) := by decide +kernel
theorem dS_addPiece_9 : decode cS_addPiece 9 = .ok (.if_icmp .lt (5), 3) := by decide +kernel
theorem dS_addPiece_12 : decode cS_addPiece 12 = .ok (.iconst (-1), 1) := by decide +kernel
theorem dS_addPiece_13 : decode cS_addPiece 13 = .ok (.ireturn, 1) := by decide +kernel
theorem dS_addPiece_14 : decode cS_addPiece 14 = .ok (.aload_n 0, 1) := by decide +kernel
theorem dS_addPiece_15 : decode cS_addPiece 15 = .ok (.getfield 17, 3) := by decide +kernel
theorem dS_addPiece_18 : decode cS_addPiece 18 = .ok (.aload_n 0, 1) := by decide +kernel
theorem dS_addPiece_19 : decode cS_addPiece 19 = .ok (.getfield 186, 3) := by decide +kernel
theorem dS_addPiece_22 : decode cS_addPiece 22 = .ok (.aload_n 1, 1) := by decide +kernel
theorem dS_addPiece_23 : decode cS_addPiece 23 = .ok (.aastore, 1) := by decide +kernel
theorem dS_addPiece_24 : decode cS_addPiece 24 = .ok (.aload_n 1, 1) := by decide +kernel
theorem dS_addPiece_25 : decode cS_addPiece 25 = .ok (.getfield 144, 3) := by decide +kernel
theorem dS_addPiece_28 : decode cS_addPiece 28 = .ok (.aload_n 1, 1) := by decide +kernel
theorem dS_addPiece_29 : decode cS_addPiece 29 = .ok (.invokevirtual 189, 3) := by decide +kernel
theorem dS_addPiece_32 : decode cS_addPiece 32 = .ok (.aload_n 0, 1) := by decide +kernel
theorem dS_addPiece_33 : decode cS_addPiece 33 = .ok (.dup, 1) := by decide +kernel
theorem dS_addPiece_34 : decode cS_addPiece 34 = .ok (.getfield 186, 3) := by decide +kernel
theorem dS_addPiece_37 : decode cS_addPiece 37 = .ok (.iconst 1, 1) := by decide +kernel
theorem dS_addPiece_38 : decode cS_addPiece 38 = .ok (.iadd, 1) := by decide +kernel
theorem dS_addPiece_39 : decode cS_addPiece 39 = .ok (.putfield 186, 3) := by decide +kernel
theorem dS_addPiece_42 : decode cS_addPiece 42 = .ok (.aload_n 0, 1) := by decide +kernel
theorem dS_addPiece_43 : decode cS_addPiece 43 = .ok (.getfield 186, 3) := by decide +kernel
theorem dS_addPiece_46 : decode cS_addPiece 46 = .ok (.iconst 1, 1) := by decide +kernel
theorem dS_addPiece_47 : decode cS_addPiece 47 = .ok (.isub, 1) := by decide +kernel
theorem dS_addPiece_48 : decode cS_addPiece 48 = .ok (.ireturn, 1) := by decide +kernel
theorem dS_call_0 : decode cS_call 0 = .ok (.aload_n 0, 1) := by decide +kernel
theorem dS_call_1 : decode cS_call 1 = .ok (.iconst 1, 1) := by decide +kernel
theorem dS_call_2 : decode cS_call 2 = .ok (.iload_n 1, 1) := by decide +kernel
theorem dS_call_3 : decode cS_call 3 = .ok (.iload_n 2, 1) := by decide +kernel
theorem dS_call_4 : decode cS_call 4 = .ok (.iload_n 3, 1) := by decide +kernel
theorem dS_call_5 : decode cS_call 5 = .ok (.iload 4, 2) := by decide +kernel
theorem dS_call_7 : decode cS_call 7 = .ok (.invokevirtual 68, 3) := by decide +kernel
theorem dS_call_10 : decode cS_call 10 = .ok (.ireturn, 1) := by decide +kernel
theorem dS_addAimed_0 : decode cS_addAimed 0 = .ok (.aload_n 0, 1) := by decide +kernel
theorem dS_addAimed_1 : decode cS_addAimed 1 = .ok (.iload_n 2, 1) := by decide +kernel
theorem dS_addAimed_2 : decode cS_addAimed 2 = .ok (.invokevirtual 51, 3) := by decide +kernel
theorem dS_addAimed_5 : decode cS_addAimed 5 = .ok (.astore 6, 2) := by decide +kernel
theorem dS_addAimed_7 : decode cS_addAimed 7 = .ok (.aload_n 0, 1) := by decide +kernel
theorem dS_addAimed_8 : decode cS_addAimed 8 = .ok (.iload_n 3, 1) := by decide +kernel
theorem dS_addAimed_9 : decode cS_addAimed 9 = .ok (.invokevirtual 78, 3) := by decide +kernel
theorem dS_addAimed_12 : decode cS_addAimed 12 = .ok (.astore 7, 2) := by decide +kernel
theorem dS_addAimed_14 : decode cS_addAimed 14 = .ok (.aload 6, 2) := by decide +kernel
theorem dS_addAimed_16 : decode cS_addAimed 16 = .ok (.ifnull (8), 3) := by decide +kernel
theorem dS_addAimed_19 : decode cS_addAimed 19 = .ok (.aload 7, 2) := by decide +kernel
theorem dS_addAimed_21 : decode cS_addAimed 21 = .ok (.ifnonnull (5), 3) := by decide +kernel
theorem dS_addAimed_24 : decode cS_addAimed 24 = .ok (.iconst (-1), 1) := by decide +kernel
theorem dS_addAimed_25 : decode cS_addAimed 25 = .ok (.ireturn, 1) := by decide +kernel
theorem dS_addAimed_26 : decode cS_addAimed 26 = .ok (.aload_n 0, 1) := by decide +kernel
theorem dS_addAimed_27 : decode cS_addAimed 27 = .ok (.new 15, 3) := by decide +kernel
theorem dS_addAimed_30 : decode cS_addAimed 30 = .ok (.dup, 1) := by decide +kernel
theorem dS_addAimed_31 : decode cS_addAimed 31 = .ok (.iload_n 1, 1) := by decide +kernel
theorem dS_addAimed_32 : decode cS_addAimed 32 = .ok (.aload 6, 2) := by decide +kernel
theorem dS_addAimed_34 : decode cS_addAimed 34 = .ok (.aload 7, 2) := by decide +kernel
theorem dS_addAimed_36 : decode cS_addAimed 36 = .ok (.iload 4, 2) := by decide +kernel
theorem dS_addAimed_38 : decode cS_addAimed 38 = .ok (.iload 5, 2) := by decide +kernel
theorem dS_addAimed_40 : decode cS_addAimed 40 = .ok (.invokespecial 183, 3) := by decide +kernel
theorem dS_addAimed_43 : decode cS_addAimed 43 = .ok (.invokevirtual 64, 3) := by decide +kernel
theorem dS_addAimed_46 : decode cS_addAimed 46 = .ok (.ireturn, 1) := by decide +kernel
theorem dS_upper_0 : decode cS_upper 0 = .ok (.aload_n 0, 1) := by decide +kernel
theorem dS_upper_1 : decode cS_upper 1 = .ok (.iconst 2, 1) := by decide +kernel
theorem dS_upper_2 : decode cS_upper 2 = .ok (.iload_n 1, 1) := by decide +kernel
theorem dS_upper_3 : decode cS_upper 3 = .ok (.iload_n 2, 1) := by decide +kernel
theorem dS_upper_4 : decode cS_upper 4 = .ok (.iload_n 3, 1) := by decide +kernel
theorem dS_upper_5 : decode cS_upper 5 = .ok (.iload 4, 2) := by decide +kernel
theorem dS_upper_7 : decode cS_upper 7 = .ok (.invokevirtual 68, 3) := by decide +kernel
theorem dS_upper_10 : decode cS_upper 10 = .ok (.ireturn, 1) := by decide +kernel
theorem dS_near_0 : decode cS_near 0 = .ok (.aload_n 0, 1) := by decide +kernel
theorem dS_near_1 : decode cS_near 1 = .ok (.iconst 3, 1) := by decide +kernel
theorem dS_near_2 : decode cS_near 2 = .ok (.iload_n 1, 1) := by decide +kernel
theorem dS_near_3 : decode cS_near 3 = .ok (.iload_n 2, 1) := by decide +kernel
theorem dS_near_4 : decode cS_near 4 = .ok (.iload_n 3, 1) := by decide +kernel
theorem dS_near_5 : decode cS_near 5 = .ok (.iconst 0, 1) := by decide +kernel
theorem dS_near_6 : decode cS_near 6 = .ok (.invokevirtual 68, 3) := by decide +kernel
theorem dS_near_9 : decode cS_near 9 = .ok (.ireturn, 1) := by decide +kernel
theorem dS_fill_0 : decode cS_fill 0 = .ok (.aload_n 0, 1) := by decide +kernel
theorem dS_fill_1 : decode cS_fill 1 = .ok (.iload_n 1, 1) := by decide +kernel
theorem dS_fill_2 : decode cS_fill 2 = .ok (.invokevirtual 51, 3) := by decide +kernel
theorem dS_fill_5 : decode cS_fill 5 = .ok (.astore 4, 2) := by decide +kernel
theorem dS_fill_7 : decode cS_fill 7 = .ok (.aload 4, 2) := by decide +kernel
theorem dS_fill_9 : decode cS_fill 9 = .ok (.ifnull (22), 3) := by decide +kernel
theorem dS_fill_12 : decode cS_fill 12 = .ok (.iload_n 2, 1) := by decide +kernel
theorem dS_fill_13 : decode cS_fill 13 = .ok (.invokestatic 45, 3) := by decide +kernel
theorem dS_fill_16 : decode cS_fill 16 = .ok (.ifCond .eq (15), 3) := by decide +kernel
theorem dS_fill_19 : decode cS_fill 19 = .ok (.iload_n 3, 1) := by decide +kernel
theorem dS_fill_20 : decode cS_fill 20 = .ok (.i2l, 1) := by decide +kernel
theorem dS_fill_21 : decode cS_fill 21 = .ok (.lconst 0, 1) := by decide +kernel
theorem dS_fill_22 : decode cS_fill 22 = .ok (.ldc2_w 72, 3) := by decide +kernel
theorem dS_fill_25 : decode cS_fill 25 = .ok (.invokestatic 57, 3) := by decide +kernel
theorem dS_fill_28 : decode cS_fill 28 = .ok (.ifCond .ne (5), 3) := by decide +kernel
theorem dS_fill_31 : decode cS_fill 31 = .ok (.iconst (-1), 1) := by decide +kernel
theorem dS_fill_32 : decode cS_fill 32 = .ok (.ireturn, 1) := by decide +kernel
theorem dS_fill_33 : decode cS_fill 33 = .ok (.aload_n 0, 1) := by decide +kernel
theorem dS_fill_34 : decode cS_fill 34 = .ok (.new 15, 3) := by decide +kernel
theorem dS_fill_37 : decode cS_fill 37 = .ok (.dup, 1) := by decide +kernel
theorem dS_fill_38 : decode cS_fill 38 = .ok (.iconst 4, 1) := by decide +kernel
theorem dS_fill_39 : decode cS_fill 39 = .ok (.aload 4, 2) := by decide +kernel
theorem dS_fill_41 : decode cS_fill 41 = .ok (.iload_n 2, 1) := by decide +kernel
theorem dS_fill_42 : decode cS_fill 42 = .ok (.iload_n 3, 1) := by decide +kernel
theorem dS_fill_43 : decode cS_fill 43 = .ok (.invokespecial 61, 3) := by decide +kernel
theorem dS_fill_46 : decode cS_fill 46 = .ok (.invokevirtual 64, 3) := by decide +kernel
theorem dS_fill_49 : decode cS_fill 49 = .ok (.ireturn, 1) := by decide +kernel
theorem dS_label_0 : decode cS_label 0 = .ok (.aload_n 0, 1) := by decide +kernel
theorem dS_label_1 : decode cS_label 1 = .ok (.getfield 74, 3) := by decide +kernel
theorem dS_label_4 : decode cS_label 4 = .ok (.aload_n 0, 1) := by decide +kernel
theorem dS_label_5 : decode cS_label 5 = .ok (.getfield 23, 3) := by decide +kernel
theorem dS_label_8 : decode cS_label 8 = .ok (.arraylength, 1) := by decide +kernel
theorem dS_label_9 : decode cS_label 9 = .ok (.if_icmp .lt (5), 3) := by decide +kernel
theorem dS_label_12 : decode cS_label 12 = .ok (.iconst (-1), 1) := by decide +kernel
theorem dS_label_13 : decode cS_label 13 = .ok (.ireturn, 1) := by decide +kernel
theorem dS_label_14 : decode cS_label 14 = .ok (.aload_n 0, 1) := by decide +kernel
theorem dS_label_15 : decode cS_label 15 = .ok (.getfield 23, 3) := by decide +kernel
theorem dS_label_18 : decode cS_label 18 = .ok (.aload_n 0, 1) := by decide +kernel
theorem dS_label_19 : decode cS_label 19 = .ok (.getfield 74, 3) := by decide +kernel
theorem dS_label_22 : decode cS_label 22 = .ok (.new 21, 3) := by decide +kernel
theorem dS_label_25 : decode cS_label 25 = .ok (.dup, 1) := by decide +kernel
theorem dS_label_26 : decode cS_label 26 = .ok (.invokespecial 77, 3) := by decide +kernel
theorem dS_label_29 : decode cS_label 29 = .ok (.aastore, 1) := by decide +kernel
theorem dS_label_30 : decode cS_label 30 = .ok (.aload_n 0, 1) := by decide +kernel
theorem dS_label_31 : decode cS_label 31 = .ok (.dup, 1) := by decide +kernel
theorem dS_label_32 : decode cS_label 32 = .ok (.getfield 74, 3) := by decide +kernel
theorem dS_label_35 : decode cS_label 35 = .ok (.iconst 1, 1) := by decide +kernel
theorem dS_label_36 : decode cS_label 36 = .ok (.iadd, 1) := by decide +kernel
theorem dS_label_37 : decode cS_label 37 = .ok (.putfield 74, 3) := by decide +kernel
theorem dS_label_40 : decode cS_label 40 = .ok (.aload_n 0, 1) := by decide +kernel
theorem dS_label_41 : decode cS_label 41 = .ok (.getfield 74, 3) := by decide +kernel
theorem dS_label_44 : decode cS_label 44 = .ok (.iconst 1, 1) := by decide +kernel
theorem dS_label_45 : decode cS_label 45 = .ok (.isub, 1) := by decide +kernel
theorem dS_label_46 : decode cS_label 46 = .ok (.ireturn, 1) := by decide +kernel
theorem dS_put_0 : decode cS_put 0 = .ok (.aload_n 0, 1) := by decide +kernel
theorem dS_put_1 : decode cS_put 1 = .ok (.iload_n 1, 1) := by decide +kernel
theorem dS_put_2 : decode cS_put 2 = .ok (.invokevirtual 78, 3) := by decide +kernel
theorem dS_put_5 : decode cS_put 5 = .ok (.astore 4, 2) := by decide +kernel
theorem dS_put_7 : decode cS_put 7 = .ok (.aload_n 0, 1) := by decide +kernel
theorem dS_put_8 : decode cS_put 8 = .ok (.iload_n 2, 1) := by decide +kernel
theorem dS_put_9 : decode cS_put 9 = .ok (.invokevirtual 82, 3) := by decide +kernel
theorem dS_put_12 : decode cS_put 12 = .ok (.astore 5, 2) := by decide +kernel
theorem dS_put_14 : decode cS_put 14 = .ok (.aload 4, 2) := by decide +kernel
theorem dS_put_16 : decode cS_put 16 = .ok (.ifnull (8), 3) := by decide +kernel
theorem dS_put_19 : decode cS_put 19 = .ok (.aload 5, 2) := by decide +kernel
theorem dS_put_21 : decode cS_put 21 = .ok (.ifnonnull (5), 3) := by decide +kernel
theorem dS_put_24 : decode cS_put 24 = .ok (.iconst 0, 1) := by decide +kernel
theorem dS_put_25 : decode cS_put 25 = .ok (.ireturn, 1) := by decide +kernel
theorem dS_put_26 : decode cS_put 26 = .ok (.aload 5, 2) := by decide +kernel
theorem dS_put_28 : decode cS_put 28 = .ok (.getfield 86, 3) := by decide +kernel
theorem dS_put_31 : decode cS_put 31 = .ok (.ifCond .ne (11), 3) := by decide +kernel
theorem dS_put_34 : decode cS_put 34 = .ok (.aload 5, 2) := by decide +kernel
theorem dS_put_36 : decode cS_put 36 = .ok (.getfield 89, 3) := by decide +kernel
theorem dS_put_39 : decode cS_put 39 = .ok (.goto (4), 3) := by decide +kernel
theorem dS_put_42 : decode cS_put 42 = .ok (.iconst 1, 1) := by decide +kernel
theorem dS_put_43 : decode cS_put 43 = .ok (.istore 6, 2) := by decide +kernel
theorem dS_put_45 : decode cS_put 45 = .ok (.iload_n 3, 1) := by decide +kernel
theorem dS_put_46 : decode cS_put 46 = .ok (.i2l, 1) := by decide +kernel
theorem dS_put_47 : decode cS_put 47 = .ok (.lconst 0, 1) := by decide +kernel
theorem dS_put_48 : decode cS_put 48 = .ok (.iload 6, 2) := by decide +kernel
theorem dS_put_50 : decode cS_put 50 = .ok (.i2l, 1) := by decide +kernel
theorem dS_put_51 : decode cS_put 51 = .ok (.invokestatic 57, 3) := by decide +kernel
theorem dS_put_54 : decode cS_put 54 = .ok (.ifCond .ne (5), 3) := by decide +kernel
theorem dS_put_57 : decode cS_put 57 = .ok (.iconst 0, 1) := by decide +kernel
theorem dS_put_58 : decode cS_put 58 = .ok (.ireturn, 1) := by decide +kernel
theorem dS_put_59 : decode cS_put 59 = .ok (.aload 4, 2) := by decide +kernel
theorem dS_put_61 : decode cS_put 61 = .ok (.aload 5, 2) := by decide +kernel
theorem dS_put_63 : decode cS_put 63 = .ok (.putfield 92, 3) := by decide +kernel
theorem dS_put_66 : decode cS_put 66 = .ok (.aload 4, 2) := by decide +kernel
theorem dS_put_68 : decode cS_put 68 = .ok (.iload_n 3, 1) := by decide +kernel
theorem dS_put_69 : decode cS_put 69 = .ok (.putfield 96, 3) := by decide +kernel
theorem dS_put_72 : decode cS_put 72 = .ok (.iconst 1, 1) := by decide +kernel
theorem dS_put_73 : decode cS_put 73 = .ok (.ireturn, 1) := by decide +kernel
theorem dS_base_0 : decode cS_base 0 = .ok (.iload_n 1, 1) := by decide +kernel
theorem dS_base_1 : decode cS_base 1 = .ok (.i2l, 1) := by decide +kernel
theorem dS_base_2 : decode cS_base 2 = .ok (.lconst 0, 1) := by decide +kernel
theorem dS_base_3 : decode cS_base 3 = .ok (.ldc2_w 99, 3) := by decide +kernel
theorem dS_base_6 : decode cS_base 6 = .ok (.invokestatic 57, 3) := by decide +kernel
theorem dS_base_9 : decode cS_base 9 = .ok (.ifCond .ne (5), 3) := by decide +kernel
theorem dS_base_12 : decode cS_base 12 = .ok (.iconst 0, 1) := by decide +kernel
theorem dS_base_13 : decode cS_base 13 = .ok (.ireturn, 1) := by decide +kernel
theorem dS_base_14 : decode cS_base 14 = .ok (.aload_n 0, 1) := by decide +kernel
theorem dS_base_15 : decode cS_base 15 = .ok (.iload_n 1, 1) := by decide +kernel
theorem dS_base_16 : decode cS_base 16 = .ok (.putfield 101, 3) := by decide +kernel
theorem dS_base_19 : decode cS_base 19 = .ok (.iconst 1, 1) := by decide +kernel
theorem dS_base_20 : decode cS_base 20 = .ok (.ireturn, 1) := by decide +kernel
theorem dS_align_0 : decode cS_align 0 = .ok (.iload_n 1, 1) := by decide +kernel
theorem dS_align_1 : decode cS_align 1 = .ok (.invokestatic 41, 3) := by decide +kernel
theorem dS_align_4 : decode cS_align 4 = .ok (.ifCond .eq (10), 3) := by decide +kernel
theorem dS_align_7 : decode cS_align 7 = .ok (.iload_n 2, 1) := by decide +kernel
theorem dS_align_8 : decode cS_align 8 = .ok (.invokestatic 45, 3) := by decide +kernel
theorem dS_align_11 : decode cS_align 11 = .ok (.ifCond .ne (5), 3) := by decide +kernel
theorem dS_align_14 : decode cS_align 14 = .ok (.iconst 0, 1) := by decide +kernel
theorem dS_align_15 : decode cS_align 15 = .ok (.ireturn, 1) := by decide +kernel
theorem dS_align_16 : decode cS_align 16 = .ok (.aload_n 0, 1) := by decide +kernel
theorem dS_align_17 : decode cS_align 17 = .ok (.getfield 27, 3) := by decide +kernel
theorem dS_align_20 : decode cS_align 20 = .ok (.iload_n 1, 1) := by decide +kernel
theorem dS_align_21 : decode cS_align 21 = .ok (.iload_n 2, 1) := by decide +kernel
theorem dS_align_22 : decode cS_align 22 = .ok (.iastore, 1) := by decide +kernel
theorem dS_align_23 : decode cS_align 23 = .ok (.iconst 1, 1) := by decide +kernel
theorem dS_align_24 : decode cS_align 24 = .ok (.ireturn, 1) := by decide +kernel
theorem dS_root_0 : decode cS_root 0 = .ok (.aload_n 0, 1) := by decide +kernel
theorem dS_root_1 : decode cS_root 1 = .ok (.iload_n 1, 1) := by decide +kernel
theorem dS_root_2 : decode cS_root 2 = .ok (.invokevirtual 51, 3) := by decide +kernel
theorem dS_root_5 : decode cS_root 5 = .ok (.astore_n 3, 1) := by decide +kernel
theorem dS_root_6 : decode cS_root 6 = .ok (.aload_n 3, 1) := by decide +kernel
theorem dS_root_7 : decode cS_root 7 = .ok (.ifnull (11), 3) := by decide +kernel
theorem dS_root_10 : decode cS_root 10 = .ok (.aload_n 3, 1) := by decide +kernel
theorem dS_root_11 : decode cS_root 11 = .ok (.getfield 104, 3) := by decide +kernel
theorem dS_root_14 : decode cS_root 14 = .ok (.iload_n 2, 1) := by decide +kernel
theorem dS_root_15 : decode cS_root 15 = .ok (.if_icmp .ne (5), 3) := by decide +kernel
theorem dS_root_18 : decode cS_root 18 = .ok (.iconst 0, 1) := by decide +kernel
theorem dS_root_19 : decode cS_root 19 = .ok (.ireturn, 1) := by decide +kernel
theorem dS_root_20 : decode cS_root 20 = .ok (.aload_n 3, 1) := by decide +kernel
theorem dS_root_21 : decode cS_root 21 = .ok (.iload_n 2, 1) := by decide +kernel
theorem dS_root_22 : decode cS_root 22 = .ok (.putfield 104, 3) := by decide +kernel
theorem dS_root_25 : decode cS_root 25 = .ok (.iconst 1, 1) := by decide +kernel
theorem dS_root_26 : decode cS_root 26 = .ok (.ireturn, 1) := by decide +kernel
theorem dS_sweep_0 : decode cS_sweep 0 = .ok (.aload_n 0, 1) := by decide +kernel
theorem dS_sweep_1 : decode cS_sweep 1 = .ok (.getfield 11, 3) := by decide +kernel
theorem dS_sweep_4 : decode cS_sweep 4 = .ok (.astore_n 1, 1) := by decide +kernel
theorem dS_sweep_5 : decode cS_sweep 5 = .ok (.aload_n 1, 1) := by decide +kernel
theorem dS_sweep_6 : decode cS_sweep 6 = .ok (.arraylength, 1) := by decide +kernel
theorem dS_sweep_7 : decode cS_sweep 7 = .ok (.istore_n 2, 1) := by decide +kernel
theorem dS_sweep_8 : decode cS_sweep 8 = .ok (.iconst 0, 1) := by decide +kernel
theorem dS_sweep_9 : decode cS_sweep 9 = .ok (.istore_n 3, 1) := by decide +kernel
theorem dS_sweep_10 : decode cS_sweep 10 = .ok (.iload_n 3, 1) := by decide +kernel
theorem dS_sweep_11 : decode cS_sweep 11 = .ok (.iload_n 2, 1) := by decide +kernel
theorem dS_sweep_12 : decode cS_sweep 12 = .ok (.if_icmp .ge (40), 3) := by decide +kernel
theorem dS_sweep_15 : decode cS_sweep 15 = .ok (.aload_n 1, 1) := by decide +kernel
theorem dS_sweep_16 : decode cS_sweep 16 = .ok (.iload_n 3, 1) := by decide +kernel
theorem dS_sweep_17 : decode cS_sweep 17 = .ok (.aaload, 1) := by decide +kernel
theorem dS_sweep_18 : decode cS_sweep 18 = .ok (.astore 4, 2) := by decide +kernel
theorem dS_sweep_20 : decode cS_sweep 20 = .ok (.aload 4, 2) := by decide +kernel
theorem dS_sweep_22 : decode cS_sweep 22 = .ok (.ifnonnull (6), 3) := by decide +kernel
theorem dS_sweep_25 : decode cS_sweep 25 = .ok (.goto (27), 3) := by decide +kernel
theorem dS_sweep_28 : decode cS_sweep 28 = .ok (.aload 4, 2) := by decide +kernel
theorem dS_sweep_30 : decode cS_sweep 30 = .ok (.aload 4, 2) := by decide +kernel
theorem dS_sweep_32 : decode cS_sweep 32 = .ok (.getfield 104, 3) := by decide +kernel
theorem dS_sweep_35 : decode cS_sweep 35 = .ok (.ifCond .ne (7), 3) := by decide +kernel
theorem dS_sweep_38 : decode cS_sweep 38 = .ok (.iconst 1, 1) := by decide +kernel
theorem dS_sweep_39 : decode cS_sweep 39 = .ok (.goto (4), 3) := by decide +kernel
theorem dS_sweep_42 : decode cS_sweep 42 = .ok (.iconst 0, 1) := by decide +kernel
theorem dS_sweep_43 : decode cS_sweep 43 = .ok (.putfield 108, 3) := by decide +kernel
theorem dS_sweep_46 : decode cS_sweep 46 = .ok (.iinc 3 (1), 3) := by decide +kernel
theorem dS_sweep_49 : decode cS_sweep 49 = .ok (.goto (-39), 3) := by decide +kernel
theorem dS_sweep_52 : decode cS_sweep 52 = .ok (.iconst 0, 1) := by decide +kernel
theorem dS_sweep_53 : decode cS_sweep 53 = .ok (.istore_n 1, 1) := by decide +kernel
theorem dS_sweep_54 : decode cS_sweep 54 = .ok (.iload_n 1, 1) := by decide +kernel
theorem dS_sweep_55 : decode cS_sweep 55 = .ok (.bipush (32), 2) := by decide +kernel
theorem dS_sweep_57 : decode cS_sweep 57 = .ok (.if_icmp .ge (19), 3) := by decide +kernel
theorem dS_sweep_60 : decode cS_sweep 60 = .ok (.aload_n 0, 1) := by decide +kernel
theorem dS_sweep_61 : decode cS_sweep 61 = .ok (.invokevirtual 111, 3) := by decide +kernel
theorem dS_sweep_64 : decode cS_sweep 64 = .ok (.ifCond .ne (6), 3) := by decide +kernel
theorem dS_sweep_67 : decode cS_sweep 67 = .ok (.goto (9), 3) := by decide +kernel
theorem dS_sweep_70 : decode cS_sweep 70 = .ok (.iinc 1 (1), 3) := by decide +kernel
theorem dS_sweep_73 : decode cS_sweep 73 = .ok (.goto (-19), 3) := by decide +kernel
theorem dS_sweep_76 : decode cS_sweep 76 = .ok (.aload_n 0, 1) := by decide +kernel
theorem dS_sweep_77 : decode cS_sweep 77 = .ok (.invokevirtual 115, 3) := by decide +kernel
theorem dS_sweep_80 : decode cS_sweep 80 = .ok (.ireturn, 1) := by decide +kernel
