theorem dM_init_0 : decode cM_init 0 = .ok (.aload_n 0, 1) := by decide +kernel
theorem dM_init_1 : decode cM_init 1 = .ok (.invokespecial 1, 3) := by decide +kernel
theorem dM_init_4 : decode cM_init 4 = .ok (.aload_n 0, 1) := by decide +kernel
theorem dM_init_5 : decode cM_init 5 = .ok (.iconst 4, 1) := by decide +kernel
theorem dM_init_6 : decode cM_init 6 = .ok (.newarray .int, 2) := by decide +kernel
theorem dM_init_8 : decode cM_init 8 = .ok (.dup, 1) := by decide +kernel
theorem dM_init_9 : decode cM_init 9 = .ok (.iconst 0, 1) := by decide +kernel
theorem dM_init_10 : decode cM_init 10 = .ok (.iconst 1, 1) := by decide +kernel
theorem dM_init_11 : decode cM_init 11 = .ok (.iastore, 1) := by decide +kernel
theorem dM_init_12 : decode cM_init 12 = .ok (.dup, 1) := by decide +kernel
theorem dM_init_13 : decode cM_init 13 = .ok (.iconst 1, 1) := by decide +kernel
theorem dM_init_14 : decode cM_init 14 = .ok (.iconst 1, 1) := by decide +kernel
theorem dM_init_15 : decode cM_init 15 = .ok (.iastore, 1) := by decide +kernel
theorem dM_init_16 : decode cM_init 16 = .ok (.dup, 1) := by decide +kernel
theorem dM_init_17 : decode cM_init 17 = .ok (.iconst 2, 1) := by decide +kernel
theorem dM_init_18 : decode cM_init 18 = .ok (.iconst 1, 1) := by decide +kernel
theorem dM_init_19 : decode cM_init 19 = .ok (.iastore, 1) := by decide +kernel
theorem dM_init_20 : decode cM_init 20 = .ok (.dup, 1) := by decide +kernel
theorem dM_init_21 : decode cM_init 21 = .ok (.iconst 3, 1) := by decide +kernel
theorem dM_init_22 : decode cM_init 22 = .ok (.iconst 1, 1) := by decide +kernel
theorem dM_init_23 : decode cM_init 23 = .ok (.iastore, 1) := by decide +kernel
theorem dM_init_24 : decode cM_init 24 = .ok (.putfield 7, 3) := by decide +kernel
theorem dM_init_27 : decode cM_init 27 = .ok (.aload_n 0, 1) := by decide +kernel
theorem dM_init_28 : decode cM_init 28 = .ok (.iconst 4, 1) := by decide +kernel
theorem dM_init_29 : decode cM_init 29 = .ok (.newarray .int, 2) := by decide +kernel
theorem dM_init_31 : decode cM_init 31 = .ok (.putfield 13, 3) := by decide +kernel
theorem dM_init_34 : decode cM_init 34 = .ok (.aload_n 0, 1) := by decide +kernel
theorem dM_init_35 : decode cM_init 35 = .ok (.iconst 4, 1) := by decide +kernel
theorem dM_init_36 : decode cM_init 36 = .ok (.newarray .int, 2) := by decide +kernel
theorem dM_init_38 : decode cM_init 38 = .ok (.putfield 16, 3) := by decide +kernel
theorem dM_init_41 : decode cM_init 41 = .ok (.aload_n 0, 1) := by decide +kernel
theorem dM_init_42 : decode cM_init 42 = .ok (.bipush (32), 2) := by decide +kernel
theorem dM_init_44 : decode cM_init 44 = .ok (.newarray .int, 2) := by decide +kernel
theorem dM_init_46 : decode cM_init 46 = .ok (.putfield 19, 3) := by decide +kernel
theorem dM_init_49 : decode cM_init 49 = .ok (.aload_n 0, 1) := by decide +kernel
theorem dM_init_50 : decode cM_init 50 = .ok (.bipush (32), 2) := by decide +kernel
theorem dM_init_52 : decode cM_init 52 = .ok (.newarray .int, 2) := by decide +kernel
theorem dM_init_54 : decode cM_init 54 = .ok (.putfield 22, 3) := by decide +kernel
theorem dM_init_57 : decode cM_init 57 = .ok (.aload_n 0, 1) := by decide +kernel
theorem dM_init_58 : decode cM_init 58 = .ok (.bipush (32), 2) := by decide +kernel
theorem dM_init_60 : decode cM_init 60 = .ok (.newarray .boolean, 2) := by decide +kernel
theorem dM_init_62 : decode cM_init 62 = .ok (.putfield 25, 3) := by decide +kernel
theorem dM_init_65 : decode cM_init 65 = .ok (.aload_n 0, 1) := by decide +kernel
theorem dM_init_66 : decode cM_init 66 = .ok (.bipush (32), 2) := by decide +kernel
theorem dM_init_68 : decode cM_init 68 = .ok (.newarray .boolean, 2) := by decide +kernel
theorem dM_init_70 : decode cM_init 70 = .ok (.putfield 29, 3) := by decide +kernel
theorem dM_init_73 : decode cM_init 73 = .ok (.aload_n 0, 1) := by decide +kernel
theorem dM_init_74 : decode cM_init 74 = .ok (.bipush (32), 2) := by decide +kernel
theorem dM_init_76 : decode cM_init 76 = .ok (.newarray .boolean, 2) := by decide +kernel
theorem dM_init_78 : decode cM_init 78 = .ok (.putfield 32, 3) := by decide +kernel
theorem dM_init_81 : decode cM_init 81 = .ok (.aload_n 0, 1) := by decide +kernel
theorem dM_init_82 : decode cM_init 82 = .ok (.bipush (32), 2) := by decide +kernel
theorem dM_init_84 : decode cM_init 84 = .ok (.newarray .int, 2) := by decide +kernel
theorem dM_init_86 : decode cM_init 86 = .ok (.putfield 35, 3) := by decide +kernel
theorem dM_init_89 : decode cM_init 89 = .ok (.aload_n 0, 1) := by decide +kernel
theorem dM_init_90 : decode cM_init 90 = .ok (.bipush (32), 2) := by decide +kernel
theorem dM_init_92 : decode cM_init 92 = .ok (.newarray .int, 2) := by decide +kernel
theorem dM_init_94 : decode cM_init 94 = .ok (.putfield 38, 3) := by decide +kernel
theorem dM_init_97 : decode cM_init 97 = .ok (.aload_n 0, 1) := by decide +kernel
theorem dM_init_98 : decode cM_init 98 = .ok (.sipush (256), 3) := by decide +kernel
theorem dM_init_101 : decode cM_init 101 = .ok (.newarray .int, 2) := by decide +kernel
theorem dM_init_103 : decode cM_init 103 = .ok (.putfield 41, 3) := by decide +kernel
theorem dM_init_106 : decode cM_init 106 = .ok (.aload_n 0, 1) := by decide +kernel
theorem dM_init_107 : decode cM_init 107 = .ok (.sipush (256), 3) := by decide +kernel
theorem dM_init_110 : decode cM_init 110 = .ok (.newarray .int, 2) := by decide +kernel
theorem dM_init_112 : decode cM_init 112 = .ok (.putfield 44, 3) := by decide +kernel
theorem dM_init_115 : decode cM_init 115 = .ok (.aload_n 0, 1) := by decide +kernel
theorem dM_init_116 : decode cM_init 116 = .ok (.sipush (256), 3) := by decide +kernel
theorem dM_init_119 : decode cM_init 119 = .ok (.newarray .int, 2) := by decide +kernel
theorem dM_init_121 : decode cM_init 121 = .ok (.putfield 47, 3) := by decide +kernel
theorem dM_init_124 : decode cM_init 124 = .ok (.aload_n 0, 1) := by decide +kernel
theorem dM_init_125 : decode cM_init 125 = .ok (.sipush (256), 3) := by decide +kernel
theorem dM_init_128 : decode cM_init 128 = .ok (.newarray .int, 2) := by decide +kernel
theorem dM_init_130 : decode cM_init 130 = .ok (.putfield 50, 3) := by decide +kernel
theorem dM_init_133 : decode cM_init 133 = .ok (.aload_n 0, 1) := by decide +kernel
theorem dM_init_134 : decode cM_init 134 = .ok (.sipush (256), 3) := by decide +kernel
theorem dM_init_137 : decode cM_init 137 = .ok (.newarray .int, 2) := by decide +kernel
theorem dM_init_139 : decode cM_init 139 = .ok (.putfield 53, 3) := by decide +kernel
theorem dM_init_142 : decode cM_init 142 = .ok (.aload_n 0, 1) := by decide +kernel
theorem dM_init_143 : decode cM_init 143 = .ok (.sipush (256), 3) := by decide +kernel
theorem dM_init_146 : decode cM_init 146 = .ok (.newarray .int, 2) := by decide +kernel
theorem dM_init_148 : decode cM_init 148 = .ok (.putfield 56, 3) := by decide +kernel
theorem dM_init_151 : decode cM_init 151 = .ok (.aload_n 0, 1) := by decide +kernel
theorem dM_init_152 : decode cM_init 152 = .ok (.sipush (256), 3) := by decide +kernel
theorem dM_init_155 : decode cM_init 155 = .ok (.newarray .int, 2) := by decide +kernel
theorem dM_init_157 : decode cM_init 157 = .ok (.putfield 59, 3) := by decide +kernel
theorem dM_init_160 : decode cM_init 160 = .ok (.aload_n 0, 1) := by decide +kernel
theorem dM_init_161 : decode cM_init 161 = .ok (.sipush (256), 3) := by decide +kernel
theorem dM_init_164 : decode cM_init 164 = .ok (.newarray .boolean, 2) := by decide +kernel
theorem dM_init_166 : decode cM_init 166 = .ok (.putfield 62, 3) := by decide +kernel
theorem dM_init_169 : decode cM_init 169 = .ok (.aload_n 0, 1) := by decide +kernel
theorem dM_init_170 : decode cM_init 170 = .ok (.sipush (256), 3) := by decide +kernel
theorem dM_init_173 : decode cM_init 173 = .ok (.newarray .boolean, 2) := by decide +kernel
theorem dM_init_175 : decode cM_init 175 = .ok (.putfield 65, 3) := by decide +kernel
theorem dM_init_178 : decode cM_init 178 = .ok (.aload_n 0, 1) := by decide +kernel
theorem dM_init_179 : decode cM_init 179 = .ok (.sipush (256), 3) := by decide +kernel
theorem dM_init_182 : decode cM_init 182 = .ok (.newarray .int, 2) := by decide +kernel
theorem dM_init_184 : decode cM_init 184 = .ok (.putfield 68, 3) := by decide +kernel
theorem dM_init_187 : decode cM_init 187 = .ok (.aload_n 0, 1) := by decide +kernel
theorem dM_init_188 : decode cM_init 188 = .ok (.sipush (256), 3) := by decide +kernel
theorem dM_init_191 : decode cM_init 191 = .ok (.newarray .int, 2) := by decide +kernel
theorem dM_init_193 : decode cM_init 193 = .ok (.putfield 71, 3) := by decide +kernel
theorem dM_init_196 : decode cM_init 196 = .ok (.aload_n 0, 1) := by decide +kernel
theorem dM_init_197 : decode cM_init 197 = .ok (.sipush (256), 3) := by decide +kernel
theorem dM_init_200 : decode cM_init 200 = .ok (.newarray .int, 2) := by decide +kernel
theorem dM_init_202 : decode cM_init 202 = .ok (.putfield 74, 3) := by decide +kernel
theorem dM_init_205 : decode cM_init 205 = .ok (.aload_n 0, 1) := by decide +kernel
theorem dM_init_206 : decode cM_init 206 = .ok (.bipush (64), 2) := by decide +kernel
theorem dM_init_208 : decode cM_init 208 = .ok (.newarray .int, 2) := by decide +kernel
theorem dM_init_210 : decode cM_init 210 = .ok (.putfield 77, 3) := by decide +kernel
theorem dM_init_213 : decode cM_init 213 = .ok (.aload_n 0, 1) := by decide +kernel
theorem dM_init_214 : decode cM_init 214 = .ok (.bipush (64), 2) := by decide +kernel
theorem dM_init_216 : decode cM_init 216 = .ok (.newarray .int, 2) := by decide +kernel
theorem dM_init_218 : decode cM_init 218 = .ok (.putfield 80, 3) := by decide +kernel
theorem dM_init_221 : decode cM_init 221 = .ok (.return_, 1) := by decide +kernel
theorem dM_part_0 : decode cM_part 0 = .ok (.aload_n 0, 1) := by decide +kernel
theorem dM_part_1 : decode cM_part 1 = .ok (.getfield 83, 3) := by decide +kernel
theorem dM_part_4 : decode cM_part 4 = .ok (.bipush (32), 2) := by decide +kernel
theorem dM_part_6 : decode cM_part 6 = .ok (.if_icmp .eq (22), 3) := by decide +kernel
theorem dM_part_9 : decode cM_part 9 = .ok (.iload_n 1, 1) := by decide +kernel
theorem dM_part_10 : decode cM_part 10 = .ok (.iconst 0, 1) := by decide +kernel
theorem dM_part_11 : decode cM_part 11 = .ok (.iconst 3, 1) := by decide +kernel
theorem dM_part_12 : decode cM_part 12 = .ok (.invokestatic 87, 3) := by decide +kernel
theorem dM_part_15 : decode cM_part 15 = .ok (.ifCond .eq (13), 3) := by decide +kernel
theorem dM_part_18 : decode cM_part 18 = .ok (.iload_n 2, 1) := by decide +kernel
theorem dM_part_19 : decode cM_part 19 = .ok (.iconst 0, 1) := by decide +kernel
theorem dM_part_20 : decode cM_part 20 = .ok (.bipush (12), 2) := by decide +kernel
theorem dM_part_22 : decode cM_part 22 = .ok (.invokestatic 87, 3) := by decide +kernel
theorem dM_part_25 : decode cM_part 25 = .ok (.ifCond .ne (5), 3) := by decide +kernel
theorem dM_part_28 : decode cM_part 28 = .ok (.iconst (-1), 1) := by decide +kernel
theorem dM_part_29 : decode cM_part 29 = .ok (.ireturn, 1) := by decide +kernel
theorem dM_part_30 : decode cM_part 30 = .ok (.aload_n 0, 1) := by decide +kernel
theorem dM_part_31 : decode cM_part 31 = .ok (.getfield 19, 3) := by decide +kernel
theorem dM_part_34 : decode cM_part 34 = .ok (.aload_n 0, 1) := by decide +kernel
theorem dM_part_35 : decode cM_part 35 = .ok (.getfield 83, 3) := by decide +kernel
theorem dM_part_38 : decode cM_part 38 = .ok (.iload_n 1, 1) := by decide +kernel
theorem dM_part_39 : decode cM_part 39 = .ok (.iastore, 1) := by decide +kernel
theorem dM_part_40 : decode cM_part 40 = .ok (.aload_n 0, 1) := by decide +kernel
theorem dM_part_41 : decode cM_part 41 = .ok (.getfield 22, 3) := by decide +kernel
theorem dM_part_44 : decode cM_part 44 = .ok (.aload_n 0, 1) := by decide +kernel
theorem dM_part_45 : decode cM_part 45 = .ok (.getfield 83, 3) := by decide +kernel
theorem dM_part_48 : decode cM_part 48 = .ok (.iconst 1, 1) := by decide +kernel
theorem dM_part_49 : decode cM_part 49 = .ok (.iload_n 2, 1) := by decide +kernel
theorem dM_part_50 : decode cM_part 50 = .ok (.ishl, 1) := by decide +kernel
theorem dM_part_51 : decode cM_part 51 = .ok (.iastore, 1) := by decide +kernel
theorem dM_part_52 : decode cM_part 52 = .ok (.aload_n 0, 1) := by decide +kernel
theorem dM_part_53 : decode cM_part 53 = .ok (.dup, 1) := by decide +kernel
theorem dM_part_54 : decode cM_part 54 = .ok (.getfield 83, 3) := by decide +kernel
theorem dM_part_57 : decode cM_part 57 = .ok (.iconst 1, 1) := by decide +kernel
theorem dM_part_58 : decode cM_part 58 = .ok (.iadd, 1) := by decide +kernel
theorem dM_part_59 : decode cM_part 59 = .ok (.putfield 83, 3) := by decide +kernel
theorem dM_part_62 : decode cM_part 62 = .ok (.aload_n 0, 1) := by decide +kernel
theorem dM_part_63 : decode cM_part 63 = .ok (.getfield 83, 3) := by decide +kernel
theorem dM_part_66 : decode cM_part 66 = .ok (.iconst 1, 1) := by decide +kernel
theorem dM_part_67 : decode cM_part 67 = .ok (.isub, 1) := by decide +kernel
theorem dM_part_68 : decode cM_part 68 = .ok (.ireturn, 1) := by decide +kernel
theorem dM_within_0 : decode cM_within 0 = .ok (.iload_n 0, 1) := by decide +kernel
theorem dM_within_1 : decode cM_within 1 = .ok (.iload_n 1, 1) := by decide +kernel
theorem dM_within_2 : decode cM_within 2 = .ok (.if_icmp .lt (12), 3) := by decide +kernel
theorem dM_within_5 : decode cM_within 5 = .ok (.iload_n 0, 1) := by decide +kernel
theorem dM_within_6 : decode cM_within 6 = .ok (.iload_n 2, 1) := by decide +kernel
theorem dM_within_7 : decode cM_within 7 = .ok (.if_icmp .gt (7), 3) := by decide +kernel
theorem dM_within_10 : decode cM_within 10 = .ok (.iconst 1, 1) := by decide +kernel
theorem dM_within_11 : decode cM_within 11 = .ok (.goto (4), 3) := by decide +kernel
theorem dM_within_14 : decode cM_within 14 = .ok (.iconst 0, 1) := by decide +kernel
theorem dM_within_15 : decode cM_within 15 = .ok (.ireturn, 1) := by decide +kernel
theorem dM_plain_0 : decode cM_plain 0 = .ok (.aload_n 0, 1) := by decide +kernel
theorem dM_plain_1 : decode cM_plain 1 = .ok (.getfield 91, 3) := by decide +kernel
theorem dM_plain_4 : decode cM_plain 4 = .ok (.sipush (256), 3) := by decide +kernel
theorem dM_plain_7 : decode cM_plain 7 = .ok (.if_icmp .eq (21), 3) := by decide +kernel
theorem dM_plain_10 : decode cM_plain 10 = .ok (.aload_n 0, 1) := by decide +kernel
theorem dM_plain_11 : decode cM_plain 11 = .ok (.iload_n 1, 1) := by decide +kernel
theorem dM_plain_12 : decode cM_plain 12 = .ok (.invokevirtual 154, 3) := by decide +kernel
theorem dM_plain_15 : decode cM_plain 15 = .ok (.ifCond .eq (13), 3) := by decide +kernel
theorem dM_plain_18 : decode cM_plain 18 = .ok (.iload_n 2, 1) := by decide +kernel
theorem dM_plain_19 : decode cM_plain 19 = .ok (.iconst 0, 1) := by decide +kernel
theorem dM_plain_20 : decode cM_plain 20 = .ok (.ldc 157, 2) := by decide +kernel
theorem dM_plain_22 : decode cM_plain 22 = .ok (.invokestatic 87, 3) := by decide +kernel
theorem dM_plain_25 : decode cM_plain 25 = .ok (.ifCond .ne (7), 3) := by decide +kernel
theorem dM_plain_28 : decode cM_plain 28 = .ok (.iconst (-1), 1) := by decide +kernel
theorem dM_plain_29 : decode cM_plain 29 = .ok (.goto (10), 3) := by decide +kernel
theorem dM_plain_32 : decode cM_plain 32 = .ok (.aload_n 0, 1) := by decide +kernel
theorem dM_plain_33 : decode cM_plain 33 = .ok (.iload_n 1, 1) := by decide +kernel
theorem dM_plain_34 : decode cM_plain 34 = .ok (.iconst 0, 1) := by decide +kernel
theorem dM_plain_35 : decode cM_plain 35 = .ok (.iload_n 2, 1) := by decide +kernel
theorem dM_plain_36 : decode cM_plain 36 = .ok (.invokevirtual 158, 3) := by decide +kernel
theorem dM_plain_39 : decode cM_plain 39 = .ok (.ireturn, 1) := by decide +kernel
theorem dM_isPart_0 : decode cM_isPart 0 = .ok (.iload_n 1, 1) := by decide +kernel
theorem dM_isPart_1 : decode cM_isPart 1 = .ok (.iconst 0, 1) := by decide +kernel
theorem dM_isPart_2 : decode cM_isPart 2 = .ok (.aload_n 0, 1) := by decide +kernel
theorem dM_isPart_3 : decode cM_isPart 3 = .ok (.getfield 83, 3) := by decide +kernel
theorem dM_isPart_6 : decode cM_isPart 6 = .ok (.iconst 1, 1) := by decide +kernel
theorem dM_isPart_7 : decode cM_isPart 7 = .ok (.isub, 1) := by decide +kernel
theorem dM_isPart_8 : decode cM_isPart 8 = .ok (.invokestatic 87, 3) := by decide +kernel
theorem dM_isPart_11 : decode cM_isPart 11 = .ok (.ireturn, 1) := by decide +kernel
theorem dM_added_0 : decode cM_added 0 = .ok (.aload_n 0, 1) := by decide +kernel
theorem dM_added_1 : decode cM_added 1 = .ok (.getfield 41, 3) := by decide +kernel
theorem dM_added_4 : decode cM_added 4 = .ok (.aload_n 0, 1) := by decide +kernel
theorem dM_added_5 : decode cM_added 5 = .ok (.getfield 91, 3) := by decide +kernel
theorem dM_added_8 : decode cM_added 8 = .ok (.iload_n 2, 1) := by decide +kernel
theorem dM_added_9 : decode cM_added 9 = .ok (.iastore, 1) := by decide +kernel
theorem dM_added_10 : decode cM_added 10 = .ok (.aload_n 0, 1) := by decide +kernel
theorem dM_added_11 : decode cM_added 11 = .ok (.getfield 44, 3) := by decide +kernel
theorem dM_added_14 : decode cM_added 14 = .ok (.aload_n 0, 1) := by decide +kernel
theorem dM_added_15 : decode cM_added 15 = .ok (.getfield 91, 3) := by decide +kernel
theorem dM_added_18 : decode cM_added 18 = .ok (.iload_n 1, 1) := by decide +kernel
theorem dM_added_19 : decode cM_added 19 = .ok (.iastore, 1) := by decide +kernel
theorem dM_added_20 : decode cM_added 20 = .ok (.aload_n 0, 1) := by decide +kernel
theorem dM_added_21 : decode cM_added 21 = .ok (.getfield 47, 3) := by decide +kernel
theorem dM_added_24 : decode cM_added 24 = .ok (.aload_n 0, 1) := by decide +kernel
theorem dM_added_25 : decode cM_added 25 = .ok (.getfield 91, 3) := by decide +kernel
theorem dM_added_28 : decode cM_added 28 = .ok (.iload_n 3, 1) := by decide +kernel
theorem dM_added_29 : decode cM_added 29 = .ok (.iastore, 1) := by decide +kernel
theorem dM_added_30 : decode cM_added 30 = .ok (.aload_n 0, 1) := by decide +kernel
theorem dM_added_31 : decode cM_added 31 = .ok (.getfield 50, 3) := by decide +kernel
theorem dM_added_34 : decode cM_added 34 = .ok (.aload_n 0, 1) := by decide +kernel
theorem dM_added_35 : decode cM_added 35 = .ok (.getfield 91, 3) := by decide +kernel
theorem dM_added_38 : decode cM_added 38 = .ok (.iload_n 3, 1) := by decide +kernel
theorem dM_added_39 : decode cM_added 39 = .ok (.iastore, 1) := by decide +kernel
theorem dM_added_40 : decode cM_added 40 = .ok (.aload_n 0, 1) := by decide +kernel
theorem dM_added_41 : decode cM_added 41 = .ok (.dup, 1) := by decide +kernel
theorem dM_added_42 : decode cM_added 42 = .ok (.getfield 91, 3) := by decide +kernel
theorem dM_added_45 : decode cM_added 45 = .ok (.iconst 1, 1) := by decide +kernel
theorem dM_added_46 : decode cM_added 46 = .ok (.iadd, 1) := by decide +kernel
theorem dM_added_47 : decode cM_added 47 = .ok (.putfield 91, 3) := by decide +kernel
theorem dM_added_50 : decode cM_added 50 = .ok (.aload_n 0, 1) := by decide +kernel
theorem dM_added_51 : decode cM_added 51 = .ok (.getfield 91, 3) := by decide +kernel
theorem dM_added_54 : decode cM_added 54 = .ok (.iconst 1, 1) := by decide +kernel
theorem dM_added_55 : decode cM_added 55 = .ok (.isub, 1) := by decide +kernel
theorem dM_added_56 : decode cM_added 56 = .ok (.ireturn, 1) := by decide +kernel
theorem dM_call_0 : decode cM_call 0 = .ok (.aload_n 0, 1) := by decide +kernel
theorem dM_call_1 : decode cM_call 1 = .ok (.iload_n 1, 1) := by decide +kernel
theorem dM_call_2 : decode cM_call 2 = .ok (.iconst 1, 1) := by decide +kernel
theorem dM_call_3 : decode cM_call 3 = .ok (.iload_n 2, 1) := by decide +kernel
theorem dM_call_4 : decode cM_call 4 = .ok (.iload_n 3, 1) := by decide +kernel
theorem dM_call_5 : decode cM_call 5 = .ok (.iload 4, 2) := by decide +kernel
theorem dM_call_7 : decode cM_call 7 = .ok (.invokevirtual 162, 3) := by decide +kernel
theorem dM_call_10 : decode cM_call 10 = .ok (.ireturn, 1) := by decide +kernel
theorem dM_aimed_0 : decode cM_aimed 0 = .ok (.aload_n 0, 1) := by decide +kernel
theorem dM_aimed_1 : decode cM_aimed 1 = .ok (.getfield 91, 3) := by decide +kernel
theorem dM_aimed_4 : decode cM_aimed 4 = .ok (.sipush (256), 3) := by decide +kernel
theorem dM_aimed_7 : decode cM_aimed 7 = .ok (.if_icmp .eq (19), 3) := by decide +kernel
theorem dM_aimed_10 : decode cM_aimed 10 = .ok (.aload_n 0, 1) := by decide +kernel
theorem dM_aimed_11 : decode cM_aimed 11 = .ok (.iload_n 1, 1) := by decide +kernel
theorem dM_aimed_12 : decode cM_aimed 12 = .ok (.invokevirtual 154, 3) := by decide +kernel
theorem dM_aimed_15 : decode cM_aimed 15 = .ok (.ifCond .eq (11), 3) := by decide +kernel
theorem dM_aimed_18 : decode cM_aimed 18 = .ok (.aload_n 0, 1) := by decide +kernel
theorem dM_aimed_19 : decode cM_aimed 19 = .ok (.iload_n 3, 1) := by decide +kernel
theorem dM_aimed_20 : decode cM_aimed 20 = .ok (.invokevirtual 107, 3) := by decide +kernel
theorem dM_aimed_23 : decode cM_aimed 23 = .ok (.ifCond .ne (5), 3) := by decide +kernel
theorem dM_aimed_26 : decode cM_aimed 26 = .ok (.iconst (-1), 1) := by decide +kernel
theorem dM_aimed_27 : decode cM_aimed 27 = .ok (.ireturn, 1) := by decide +kernel
theorem dM_aimed_28 : decode cM_aimed 28 = .ok (.aload_n 0, 1) := by decide +kernel
theorem dM_aimed_29 : decode cM_aimed 29 = .ok (.getfield 56, 3) := by decide +kernel
theorem dM_aimed_32 : decode cM_aimed 32 = .ok (.aload_n 0, 1) := by decide +kernel
theorem dM_aimed_33 : decode cM_aimed 33 = .ok (.getfield 91, 3) := by decide +kernel
theorem dM_aimed_36 : decode cM_aimed 36 = .ok (.iload_n 3, 1) := by decide +kernel
theorem dM_aimed_37 : decode cM_aimed 37 = .ok (.iastore, 1) := by decide +kernel
theorem dM_aimed_38 : decode cM_aimed 38 = .ok (.aload_n 0, 1) := by decide +kernel
theorem dM_aimed_39 : decode cM_aimed 39 = .ok (.getfield 59, 3) := by decide +kernel
theorem dM_aimed_42 : decode cM_aimed 42 = .ok (.aload_n 0, 1) := by decide +kernel
theorem dM_aimed_43 : decode cM_aimed 43 = .ok (.getfield 91, 3) := by decide +kernel
theorem dM_aimed_46 : decode cM_aimed 46 = .ok (.iload 4, 2) := by decide +kernel
theorem dM_aimed_48 : decode cM_aimed 48 = .ok (.iastore, 1) := by decide +kernel
theorem dM_aimed_49 : decode cM_aimed 49 = .ok (.aload_n 0, 1) := by decide +kernel
theorem dM_aimed_50 : decode cM_aimed 50 = .ok (.getfield 62, 3) := by decide +kernel
theorem dM_aimed_53 : decode cM_aimed 53 = .ok (.aload_n 0, 1) := by decide +kernel
theorem dM_aimed_54 : decode cM_aimed 54 = .ok (.getfield 91, 3) := by decide +kernel
theorem dM_aimed_57 : decode cM_aimed 57 = .ok (.iload 5, 2) := by decide +kernel
theorem dM_aimed_59 : decode cM_aimed 59 = .ok (.bastore, 1) := by decide +kernel
theorem dM_aimed_60 : decode cM_aimed 60 = .ok (.aload_n 0, 1) := by decide +kernel
theorem dM_aimed_61 : decode cM_aimed 61 = .ok (.iload_n 1, 1) := by decide +kernel
theorem dM_aimed_62 : decode cM_aimed 62 = .ok (.iload_n 2, 1) := by decide +kernel
theorem dM_aimed_63 : decode cM_aimed 63 = .ok (.iload_n 2, 1) := by decide +kernel
theorem dM_aimed_64 : decode cM_aimed 64 = .ok (.invokestatic 131, 3) := by decide +kernel
theorem dM_aimed_67 : decode cM_aimed 67 = .ok (.invokevirtual 158, 3) := by decide +kernel
theorem dM_aimed_70 : decode cM_aimed 70 = .ok (.ireturn, 1) := by decide +kernel
theorem dM_isLabel_0 : decode cM_isLabel 0 = .ok (.iload_n 1, 1) := by decide +kernel
theorem dM_isLabel_1 : decode cM_isLabel 1 = .ok (.iconst 0, 1) := by decide +kernel
theorem dM_isLabel_2 : decode cM_isLabel 2 = .ok (.aload_n 0, 1) := by decide +kernel
theorem dM_isLabel_3 : decode cM_isLabel 3 = .ok (.getfield 94, 3) := by decide +kernel
theorem dM_isLabel_6 : decode cM_isLabel 6 = .ok (.iconst 1, 1) := by decide +kernel
theorem dM_isLabel_7 : decode cM_isLabel 7 = .ok (.isub, 1) := by decide +kernel
theorem dM_isLabel_8 : decode cM_isLabel 8 = .ok (.invokestatic 87, 3) := by decide +kernel
theorem dM_isLabel_11 : decode cM_isLabel 11 = .ok (.ireturn, 1) := by decide +kernel
theorem dM_greatest_0 : decode cM_greatest 0 = .ok (.iload_n 0, 1) := by decide +kernel
theorem dM_greatest_1 : decode cM_greatest 1 = .ok (.iconst 1, 1) := by decide +kernel
theorem dM_greatest_2 : decode cM_greatest 2 = .ok (.if_icmp .ne (8), 3) := by decide +kernel
theorem dM_greatest_5 : decode cM_greatest 5 = .ok (.bipush (8), 2) := by decide +kernel
theorem dM_greatest_7 : decode cM_greatest 7 = .ok (.goto (4), 3) := by decide +kernel
theorem dM_greatest_10 : decode cM_greatest 10 = .ok (.iconst 4, 1) := by decide +kernel
theorem dM_greatest_11 : decode cM_greatest 11 = .ok (.ireturn, 1) := by decide +kernel
theorem dM_upper_0 : decode cM_upper 0 = .ok (.aload_n 0, 1) := by decide +kernel
theorem dM_upper_1 : decode cM_upper 1 = .ok (.iload_n 1, 1) := by decide +kernel
theorem dM_upper_2 : decode cM_upper 2 = .ok (.iconst 2, 1) := by decide +kernel
theorem dM_upper_3 : decode cM_upper 3 = .ok (.iload_n 2, 1) := by decide +kernel
theorem dM_upper_4 : decode cM_upper 4 = .ok (.iload_n 3, 1) := by decide +kernel
theorem dM_upper_5 : decode cM_upper 5 = .ok (.iload 4, 2) := by decide +kernel
theorem dM_upper_7 : decode cM_upper 7 = .ok (.invokevirtual 162, 3) := by decide +kernel
theorem dM_upper_10 : decode cM_upper 10 = .ok (.ireturn, 1) := by decide +kernel
theorem dM_near_0 : decode cM_near 0 = .ok (.aload_n 0, 1) := by decide +kernel
theorem dM_near_1 : decode cM_near 1 = .ok (.iload_n 1, 1) := by decide +kernel
theorem dM_near_2 : decode cM_near 2 = .ok (.iconst 3, 1) := by decide +kernel
theorem dM_near_3 : decode cM_near 3 = .ok (.iload_n 2, 1) := by decide +kernel
theorem dM_near_4 : decode cM_near 4 = .ok (.iload_n 3, 1) := by decide +kernel
theorem dM_near_5 : decode cM_near 5 = .ok (.iconst 0, 1) := by decide +kernel
theorem dM_near_6 : decode cM_near 6 = .ok (.invokevirtual 162, 3) := by decide +kernel
theorem dM_near_9 : decode cM_near 9 = .ok (.ireturn, 1) := by decide +kernel
theorem dM_fill_0 : decode cM_fill 0 = .ok (.aload_n 0, 1) := by decide +kernel
theorem dM_fill_1 : decode cM_fill 1 = .ok (.getfield 91, 3) := by decide +kernel
theorem dM_fill_4 : decode cM_fill 4 = .ok (.sipush (256), 3) := by decide +kernel
theorem dM_fill_7 : decode cM_fill 7 = .ok (.if_icmp .eq (32), 3) := by decide +kernel
theorem dM_fill_10 : decode cM_fill 10 = .ok (.aload_n 0, 1) := by decide +kernel
theorem dM_fill_11 : decode cM_fill 11 = .ok (.iload_n 1, 1) := by decide +kernel
theorem dM_fill_12 : decode cM_fill 12 = .ok (.invokevirtual 154, 3) := by decide +kernel
theorem dM_fill_15 : decode cM_fill 15 = .ok (.ifCond .eq (24), 3) := by decide +kernel
theorem dM_fill_18 : decode cM_fill 18 = .ok (.iload_n 2, 1) := by decide +kernel
theorem dM_fill_19 : decode cM_fill 19 = .ok (.iconst 0, 1) := by decide +kernel
theorem dM_fill_20 : decode cM_fill 20 = .ok (.bipush (12), 2) := by decide +kernel
theorem dM_fill_22 : decode cM_fill 22 = .ok (.invokestatic 87, 3) := by decide +kernel
theorem dM_fill_25 : decode cM_fill 25 = .ok (.ifCond .eq (14), 3) := by decide +kernel
theorem dM_fill_28 : decode cM_fill 28 = .ok (.iload_n 3, 1) := by decide +kernel
theorem dM_fill_29 : decode cM_fill 29 = .ok (.iconst 0, 1) := by decide +kernel
theorem dM_fill_30 : decode cM_fill 30 = .ok (.sipush (4096), 3) := by decide +kernel
theorem dM_fill_33 : decode cM_fill 33 = .ok (.invokestatic 87, 3) := by decide +kernel
theorem dM_fill_36 : decode cM_fill 36 = .ok (.ifCond .ne (5), 3) := by decide +kernel
theorem dM_fill_39 : decode cM_fill 39 = .ok (.iconst (-1), 1) := by decide +kernel
theorem dM_fill_40 : decode cM_fill 40 = .ok (.ireturn, 1) := by decide +kernel
theorem dM_fill_41 : decode cM_fill 41 = .ok (.aload_n 0, 1) := by decide +kernel
theorem dM_fill_42 : decode cM_fill 42 = .ok (.getfield 53, 3) := by decide +kernel
theorem dM_fill_45 : decode cM_fill 45 = .ok (.aload_n 0, 1) := by decide +kernel
theorem dM_fill_46 : decode cM_fill 46 = .ok (.getfield 91, 3) := by decide +kernel
theorem dM_fill_49 : decode cM_fill 49 = .ok (.iload_n 2, 1) := by decide +kernel
theorem dM_fill_50 : decode cM_fill 50 = .ok (.iastore, 1) := by decide +kernel
theorem dM_fill_51 : decode cM_fill 51 = .ok (.aload_n 0, 1) := by decide +kernel
theorem dM_fill_52 : decode cM_fill 52 = .ok (.iload_n 1, 1) := by decide +kernel
theorem dM_fill_53 : decode cM_fill 53 = .ok (.iconst 4, 1) := by decide +kernel
theorem dM_fill_54 : decode cM_fill 54 = .ok (.iload_n 3, 1) := by decide +kernel
theorem dM_fill_55 : decode cM_fill 55 = .ok (.invokevirtual 158, 3) := by decide +kernel
theorem dM_fill_58 : decode cM_fill 58 = .ok (.ireturn, 1) := by decide +kernel
theorem dM_label_0 : decode cM_label 0 = .ok (.aload_n 0, 1) := by decide +kernel
theorem dM_label_1 : decode cM_label 1 = .ok (.getfield 94, 3) := by decide +kernel
theorem dM_label_4 : decode cM_label 4 = .ok (.bipush (64), 2) := by decide +kernel
theorem dM_label_6 : decode cM_label 6 = .ok (.if_icmp .ne (5), 3) := by decide +kernel
theorem dM_label_9 : decode cM_label 9 = .ok (.iconst (-1), 1) := by decide +kernel
theorem dM_label_10 : decode cM_label 10 = .ok (.ireturn, 1) := by decide +kernel
theorem dM_label_11 : decode cM_label 11 = .ok (.aload_n 0, 1) := by decide +kernel
theorem dM_label_12 : decode cM_label 12 = .ok (.getfield 77, 3) := by decide +kernel
theorem dM_label_15 : decode cM_label 15 = .ok (.aload_n 0, 1) := by decide +kernel
theorem dM_label_16 : decode cM_label 16 = .ok (.getfield 94, 3) := by decide +kernel
theorem dM_label_19 : decode cM_label 19 = .ok (.iconst (-1), 1) := by decide +kernel
theorem dM_label_20 : decode cM_label 20 = .ok (.iastore, 1) := by decide +kernel
theorem dM_label_21 : decode cM_label 21 = .ok (.aload_n 0, 1) := by decide +kernel
theorem dM_label_22 : decode cM_label 22 = .ok (.dup, 1) := by decide +kernel
theorem dM_label_23 : decode cM_label 23 = .ok (.getfield 94, 3) := by decide +kernel
theorem dM_label_26 : decode cM_label 26 = .ok (.iconst 1, 1) := by decide +kernel
theorem dM_label_27 : decode cM_label 27 = .ok (.iadd, 1) := by decide +kernel
theorem dM_label_28 : decode cM_label 28 = .ok (.putfield 94, 3) := by decide +kernel
theorem dM_label_31 : decode cM_label 31 = .ok (.aload_n 0, 1) := by decide +kernel
theorem dM_label_32 : decode cM_label 32 = .ok (.getfield 94, 3) := by decide +kernel
theorem dM_label_35 : decode cM_label 35 = .ok (.iconst 1, 1) := by decide +kernel
theorem dM_label_36 : decode cM_label 36 = .ok (.isub, 1) := by decide +kernel
theorem dM_label_37 : decode cM_label 37 = .ok (.ireturn, 1) := by decide +kernel
theorem dM_put_0 : decode cM_put 0 = .ok (.aload_n 0, 1) := by decide +kernel
theorem dM_put_1 : decode cM_put 1 = .ok (.iload_n 1, 1) := by decide +kernel
theorem dM_put_2 : decode cM_put 2 = .ok (.invokevirtual 107, 3) := by decide +kernel
theorem dM_put_5 : decode cM_put 5 = .ok (.ifCond .eq (38), 3) := by decide +kernel
theorem dM_put_8 : decode cM_put 8 = .ok (.aload_n 0, 1) := by decide +kernel
theorem dM_put_9 : decode cM_put 9 = .ok (.iload_n 2, 1) := by decide +kernel
theorem dM_put_10 : decode cM_put 10 = .ok (.invokevirtual 166, 3) := by decide +kernel
theorem dM_put_13 : decode cM_put 13 = .ok (.ifCond .eq (30), 3) := by decide +kernel
theorem dM_put_16 : decode cM_put 16 = .ok (.iload_n 3, 1) := by decide +kernel
theorem dM_put_17 : decode cM_put 17 = .ok (.iconst 0, 1) := by decide +kernel
theorem dM_put_18 : decode cM_put 18 = .ok (.aload_n 0, 1) := by decide +kernel
theorem dM_put_19 : decode cM_put 19 = .ok (.getfield 41, 3) := by decide +kernel
theorem dM_put_22 : decode cM_put 22 = .ok (.iload_n 2, 1) := by decide +kernel
theorem dM_put_23 : decode cM_put 23 = .ok (.iaload, 1) := by decide +kernel
theorem dM_put_24 : decode cM_put 24 = .ok (.ifCond .ne (12), 3) := by decide +kernel
theorem dM_put_27 : decode cM_put 27 = .ok (.aload_n 0, 1) := by decide +kernel
theorem dM_put_28 : decode cM_put 28 = .ok (.getfield 50, 3) := by decide +kernel
theorem dM_put_31 : decode cM_put 31 = .ok (.iload_n 2, 1) := by decide +kernel
theorem dM_put_32 : decode cM_put 32 = .ok (.iaload, 1) := by decide +kernel
theorem dM_put_33 : decode cM_put 33 = .ok (.goto (4), 3) := by decide +kernel
theorem dM_put_36 : decode cM_put 36 = .ok (.iconst 1, 1) := by decide +kernel
theorem dM_put_37 : decode cM_put 37 = .ok (.invokestatic 87, 3) := by decide +kernel
theorem dM_put_40 : decode cM_put 40 = .ok (.ifCond .ne (5), 3) := by decide +kernel
theorem dM_put_43 : decode cM_put 43 = .ok (.iconst 0, 1) := by decide +kernel
theorem dM_put_44 : decode cM_put 44 = .ok (.ireturn, 1) := by decide +kernel
theorem dM_put_45 : decode cM_put 45 = .ok (.aload_n 0, 1) := by decide +kernel
theorem dM_put_46 : decode cM_put 46 = .ok (.getfield 77, 3) := by decide +kernel
theorem dM_put_49 : decode cM_put 49 = .ok (.iload_n 1, 1) := by decide +kernel
theorem dM_put_50 : decode cM_put 50 = .ok (.iload_n 2, 1) := by decide +kernel
theorem dM_put_51 : decode cM_put 51 = .ok (.iastore, 1) := by decide +kernel
theorem dM_put_52 : decode cM_put 52 = .ok (.aload_n 0, 1) := by decide +kernel
theorem dM_put_53 : decode cM_put 53 = .ok (.getfield 80, 3) := by decide +kernel
theorem dM_put_56 : decode cM_put 56 = .ok (.iload_n 1, 1) := by decide +kernel
theorem dM_put_57 : decode cM_put 57 = .ok (.iload_n 3, 1) := by decide +kernel
theorem dM_put_58 : decode cM_put 58 = .ok (.iastore, 1) := by decide +kernel
theorem dM_put_59 : decode cM_put 59 = .ok (.iconst 1, 1) := by decide +kernel
theorem dM_put_60 : decode cM_put 60 = .ok (.ireturn, 1) := by decide +kernel
theorem dM_isPiece_0 : decode cM_isPiece 0 = .ok (.iload_n 1, 1) := by decide +kernel
theorem dM_isPiece_1 : decode cM_isPiece 1 = .ok (.iconst 0, 1) := by decide +kernel
theorem dM_isPiece_2 : decode cM_isPiece 2 = .ok (.aload_n 0, 1) := by decide +kernel
theorem dM_isPiece_3 : decode cM_isPiece 3 = .ok (.getfield 91, 3) := by decide +kernel
theorem dM_isPiece_6 : decode cM_isPiece 6 = .ok (.iconst 1, 1) := by decide +kernel
theorem dM_isPiece_7 : decode cM_isPiece 7 = .ok (.isub, 1) := by decide +kernel
theorem dM_isPiece_8 : decode cM_isPiece 8 = .ok (.invokestatic 87, 3) := by decide +kernel
theorem dM_isPiece_11 : decode cM_isPiece 11 = .ok (.ireturn, 1) := by decide +kernel
theorem dM_base_0 : decode cM_base 0 = .ok (.iload_n 1, 1) := by decide +kernel
theorem dM_base_1 : decode cM_base 1 = .ok (.iconst 0, 1) := by decide +kernel
theorem dM_base_2 : decode cM_base 2 = .ok (.ldc 169, 2) := by decide +kernel
theorem dM_base_4 : decode cM_base 4 = .ok (.invokestatic 87, 3) := by decide +kernel
theorem dM_base_7 : decode cM_base 7 = .ok (.ifCond .ne (5), 3) := by decide +kernel
theorem dM_base_10 : decode cM_base 10 = .ok (.iconst 0, 1) := by decide +kernel
theorem dM_base_11 : decode cM_base 11 = .ok (.ireturn, 1) := by decide +kernel
theorem dM_base_12 : decode cM_base 12 = .ok (.aload_n 0, 1) := by decide +kernel
theorem dM_base_13 : decode cM_base 13 = .ok (.iload_n 1, 1) := by decide +kernel
theorem dM_base_14 : decode cM_base 14 = .ok (.putfield 97, 3) := by decide +kernel
theorem dM_base_17 : decode cM_base 17 = .ok (.iconst 1, 1) := by decide +kernel
theorem dM_base_18 : decode cM_base 18 = .ok (.ireturn, 1) := by decide +kernel
theorem dM_align_0 : decode cM_align 0 = .ok (.iload_n 1, 1) := by decide +kernel
theorem dM_align_1 : decode cM_align 1 = .ok (.iconst 0, 1) := by decide +kernel
theorem dM_align_2 : decode cM_align 2 = .ok (.iconst 3, 1) := by decide +kernel
theorem dM_align_3 : decode cM_align 3 = .ok (.invokestatic 87, 3) := by decide +kernel
theorem dM_align_6 : decode cM_align 6 = .ok (.ifCond .eq (13), 3) := by decide +kernel
theorem dM_align_9 : decode cM_align 9 = .ok (.iload_n 2, 1) := by decide +kernel
theorem dM_align_10 : decode cM_align 10 = .ok (.iconst 0, 1) := by decide +kernel
theorem dM_align_11 : decode cM_align 11 = .ok (.bipush (12), 2) := by decide +kernel
theorem dM_align_13 : decode cM_align 13 = .ok (.invokestatic 87, 3) := by decide +kernel
theorem dM_align_16 : decode cM_align 16 = .ok (.ifCond .ne (5), 3) := by decide +kernel
theorem dM_align_19 : decode cM_align 19 = .ok (.iconst 0, 1) := by decide +kernel
theorem dM_align_20 : decode cM_align 20 = .ok (.ireturn, 1) := by decide +kernel
theorem dM_align_21 : decode cM_align 21 = .ok (.aload_n 0, 1) := by decide +kernel
theorem dM_align_22 : decode cM_align 22 = .ok (.getfield 7, 3) := by decide +kernel
theorem dM_align_25 : decode cM_align 25 = .ok (.iload_n 1, 1) := by decide +kernel
theorem dM_align_26 : decode cM_align 26 = .ok (.iconst 1, 1) := by decide +kernel
theorem dM_align_27 : decode cM_align 27 = .ok (.iload_n 2, 1) := by decide +kernel
theorem dM_align_28 : decode cM_align 28 = .ok (.ishl, 1) := by decide +kernel
theorem dM_align_29 : decode cM_align 29 = .ok (.iastore, 1) := by decide +kernel
theorem dM_align_30 : decode cM_align 30 = .ok (.iconst 1, 1) := by decide +kernel
theorem dM_align_31 : decode cM_align 31 = .ok (.ireturn, 1) := by decide +kernel
theorem dM_root_0 : decode cM_root 0 = .ok (.aload_n 0, 1) := by decide +kernel
theorem dM_root_1 : decode cM_root 1 = .ok (.iload_n 1, 1) := by decide +kernel
theorem dM_root_2 : decode cM_root 2 = .ok (.invokevirtual 154, 3) := by decide +kernel
theorem dM_root_5 : decode cM_root 5 = .ok (.ifCond .eq (13), 3) := by decide +kernel
theorem dM_root_8 : decode cM_root 8 = .ok (.aload_n 0, 1) := by decide +kernel
theorem dM_root_9 : decode cM_root 9 = .ok (.getfield 25, 3) := by decide +kernel
theorem dM_root_12 : decode cM_root 12 = .ok (.iload_n 1, 1) := by decide +kernel
theorem dM_root_13 : decode cM_root 13 = .ok (.baload, 1) := by decide +kernel
theorem dM_root_14 : decode cM_root 14 = .ok (.iload_n 2, 1) := by decide +kernel
theorem dM_root_15 : decode cM_root 15 = .ok (.if_icmp .ne (5), 3) := by decide +kernel
theorem dM_root_18 : decode cM_root 18 = .ok (.iconst 0, 1) := by decide +kernel
theorem dM_root_19 : decode cM_root 19 = .ok (.ireturn, 1) := by decide +kernel
theorem dM_root_20 : decode cM_root 20 = .ok (.aload_n 0, 1) := by decide +kernel
theorem dM_root_21 : decode cM_root 21 = .ok (.getfield 25, 3) := by decide +kernel
theorem dM_root_24 : decode cM_root 24 = .ok (.iload_n 1, 1) := by decide +kernel
theorem dM_root_25 : decode cM_root 25 = .ok (.iload_n 2, 1) := by decide +kernel
theorem dM_root_26 : decode cM_root 26 = .ok (.bastore, 1) := by decide +kernel
theorem dM_root_27 : decode cM_root 27 = .ok (.iconst 1, 1) := by decide +kernel
theorem dM_root_28 : decode cM_root 28 = .ok (.ireturn, 1) := by decide +kernel
theorem dM_sweep_0 : decode cM_sweep 0 = .ok (.iconst 0, 1) := by decide +kernel
theorem dM_sweep_1 : decode cM_sweep 1 = .ok (.istore_n 1, 1) := by decide +kernel
theorem dM_sweep_2 : decode cM_sweep 2 = .ok (.iload_n 1, 1) := by decide +kernel
theorem dM_sweep_3 : decode cM_sweep 3 = .ok (.aload_n 0, 1) := by decide +kernel
theorem dM_sweep_4 : decode cM_sweep 4 = .ok (.getfield 83, 3) := by decide +kernel
theorem dM_sweep_7 : decode cM_sweep 7 = .ok (.if_icmp .ge (21), 3) := by decide +kernel
theorem dM_sweep_10 : decode cM_sweep 10 = .ok (.aload_n 0, 1) := by decide +kernel
theorem dM_sweep_11 : decode cM_sweep 11 = .ok (.getfield 32, 3) := by decide +kernel
theorem dM_sweep_14 : decode cM_sweep 14 = .ok (.iload_n 1, 1) := by decide +kernel
theorem dM_sweep_15 : decode cM_sweep 15 = .ok (.aload_n 0, 1) := by decide +kernel
theorem dM_sweep_16 : decode cM_sweep 16 = .ok (.getfield 25, 3) := by decide +kernel
theorem dM_sweep_19 : decode cM_sweep 19 = .ok (.iload_n 1, 1) := by decide +kernel
theorem dM_sweep_20 : decode cM_sweep 20 = .ok (.baload, 1) := by decide +kernel
theorem dM_sweep_21 : decode cM_sweep 21 = .ok (.bastore, 1) := by decide +kernel
theorem dM_sweep_22 : decode cM_sweep 22 = .ok (.iinc 1 (1), 3) := by decide +kernel
theorem dM_sweep_25 : decode cM_sweep 25 = .ok (.goto (-23), 3) := by decide +kernel
theorem dM_sweep_28 : decode cM_sweep 28 = .ok (.iconst 0, 1) := by decide +kernel
theorem dM_sweep_29 : decode cM_sweep 29 = .ok (.istore_n 1, 1) := by decide +kernel
theorem dM_sweep_30 : decode cM_sweep 30 = .ok (.iload_n 1, 1) := by decide +kernel
theorem dM_sweep_31 : decode cM_sweep 31 = .ok (.aload_n 0, 1) := by decide +kernel
theorem dM_sweep_32 : decode cM_sweep 32 = .ok (.getfield 83, 3) := by decide +kernel
theorem dM_sweep_35 : decode cM_sweep 35 = .ok (.if_icmp .ge (94), 3) := by decide +kernel
theorem dM_sweep_38 : decode cM_sweep 38 = .ok (.iconst 0, 1) := by decide +kernel
theorem dM_sweep_39 : decode cM_sweep 39 = .ok (.istore_n 2, 1) := by decide +kernel
theorem dM_sweep_40 : decode cM_sweep 40 = .ok (.iload_n 2, 1) := by decide +kernel
theorem dM_sweep_41 : decode cM_sweep 41 = .ok (.aload_n 0, 1) := by decide +kernel
theorem dM_sweep_42 : decode cM_sweep 42 = .ok (.getfield 91, 3) := by decide +kernel
theorem dM_sweep_45 : decode cM_sweep 45 = .ok (.if_icmp .ge (78), 3) := by decide +kernel
theorem dM_sweep_48 : decode cM_sweep 48 = .ok (.aload_n 0, 1) := by decide +kernel
theorem dM_sweep_49 : decode cM_sweep 49 = .ok (.iload_n 2, 1) := by decide +kernel
theorem dM_sweep_50 : decode cM_sweep 50 = .ok (.invokevirtual 114, 3) := by decide +kernel
theorem dM_sweep_53 : decode cM_sweep 53 = .ok (.ifCond .eq (36), 3) := by decide +kernel
theorem dM_sweep_56 : decode cM_sweep 56 = .ok (.aload_n 0, 1) := by decide +kernel
theorem dM_sweep_57 : decode cM_sweep 57 = .ok (.getfield 32, 3) := by decide +kernel
theorem dM_sweep_60 : decode cM_sweep 60 = .ok (.aload_n 0, 1) := by decide +kernel
theorem dM_sweep_61 : decode cM_sweep 61 = .ok (.getfield 44, 3) := by decide +kernel
theorem dM_sweep_64 : decode cM_sweep 64 = .ok (.iload_n 2, 1) := by decide +kernel
theorem dM_sweep_65 : decode cM_sweep 65 = .ok (.iaload, 1) := by decide +kernel
theorem dM_sweep_66 : decode cM_sweep 66 = .ok (.baload, 1) := by decide +kernel
theorem dM_sweep_67 : decode cM_sweep 67 = .ok (.ifCond .eq (22), 3) := by decide +kernel
theorem dM_sweep_70 : decode cM_sweep 70 = .ok (.aload_n 0, 1) := by decide +kernel
theorem dM_sweep_71 : decode cM_sweep 71 = .ok (.getfield 77, 3) := by decide +kernel
theorem dM_sweep_74 : decode cM_sweep 74 = .ok (.aload_n 0, 1) := by decide +kernel
theorem dM_sweep_75 : decode cM_sweep 75 = .ok (.getfield 56, 3) := by decide +kernel
theorem dM_sweep_78 : decode cM_sweep 78 = .ok (.iload_n 2, 1) := by decide +kernel
theorem dM_sweep_79 : decode cM_sweep 79 = .ok (.iaload, 1) := by decide +kernel
theorem dM_sweep_80 : decode cM_sweep 80 = .ok (.iaload, 1) := by decide +kernel
theorem dM_sweep_81 : decode cM_sweep 81 = .ok (.iconst (-1), 1) := by decide +kernel
theorem dM_sweep_82 : decode cM_sweep 82 = .ok (.if_icmp .eq (7), 3) := by decide +kernel
theorem dM_sweep_85 : decode cM_sweep 85 = .ok (.iconst 1, 1) := by decide +kernel
theorem dM_sweep_86 : decode cM_sweep 86 = .ok (.goto (4), 3) := by decide +kernel
theorem dM_sweep_89 : decode cM_sweep 89 = .ok (.iconst 0, 1) := by decide +kernel
theorem dM_sweep_90 : decode cM_sweep 90 = .ok (.istore_n 3, 1) := by decide +kernel
theorem dM_sweep_91 : decode cM_sweep 91 = .ok (.iload_n 3, 1) := by decide +kernel
theorem dM_sweep_92 : decode cM_sweep 92 = .ok (.ifCond .eq (25), 3) := by decide +kernel
theorem dM_sweep_95 : decode cM_sweep 95 = .ok (.aload_n 0, 1) := by decide +kernel
theorem dM_sweep_96 : decode cM_sweep 96 = .ok (.getfield 32, 3) := by decide +kernel
theorem dM_sweep_99 : decode cM_sweep 99 = .ok (.aload_n 0, 1) := by decide +kernel
theorem dM_sweep_100 : decode cM_sweep 100 = .ok (.getfield 44, 3) := by decide +kernel
theorem dM_sweep_103 : decode cM_sweep 103 = .ok (.aload_n 0, 1) := by decide +kernel
theorem dM_sweep_104 : decode cM_sweep 104 = .ok (.getfield 77, 3) := by decide +kernel
theorem dM_sweep_107 : decode cM_sweep 107 = .ok (.aload_n 0, 1) := by decide +kernel
theorem dM_sweep_108 : decode cM_sweep 108 = .ok (.getfield 56, 3) := by decide +kernel
theorem dM_sweep_111 : decode cM_sweep 111 = .ok (.iload_n 2, 1) := by decide +kernel
theorem dM_sweep_112 : decode cM_sweep 112 = .ok (.iaload, 1) := by decide +kernel
theorem dM_sweep_113 : decode cM_sweep 113 = .ok (.iaload, 1) := by decide +kernel
theorem dM_sweep_114 : decode cM_sweep 114 = .ok (.iaload, 1) := by decide +kernel
theorem dM_sweep_115 : decode cM_sweep 115 = .ok (.iconst 1, 1) := by decide +kernel
theorem dM_sweep_116 : decode cM_sweep 116 = .ok (.bastore, 1) := by decide +kernel
theorem dM_sweep_117 : decode cM_sweep 117 = .ok (.iinc 2 (1), 3) := by decide +kernel
theorem dM_sweep_120 : decode cM_sweep 120 = .ok (.goto (-80), 3) := by decide +kernel
theorem dM_sweep_123 : decode cM_sweep 123 = .ok (.iinc 1 (1), 3) := by decide +kernel
theorem dM_sweep_126 : decode cM_sweep 126 = .ok (.goto (-96), 3) := by decide +kernel
theorem dM_sweep_129 : decode cM_sweep 129 = .ok (.iconst 0, 1) := by decide +kernel
theorem dM_sweep_130 : decode cM_sweep 130 = .ok (.istore_n 1, 1) := by decide +kernel
theorem dM_sweep_131 : decode cM_sweep 131 = .ok (.iconst 0, 1) := by decide +kernel
theorem dM_sweep_132 : decode cM_sweep 132 = .ok (.istore_n 2, 1) := by decide +kernel
theorem dM_sweep_133 : decode cM_sweep 133 = .ok (.iload_n 2, 1) := by decide +kernel
theorem dM_sweep_134 : decode cM_sweep 134 = .ok (.aload_n 0, 1) := by decide +kernel
theorem dM_sweep_135 : decode cM_sweep 135 = .ok (.getfield 83, 3) := by decide +kernel
theorem dM_sweep_138 : decode cM_sweep 138 = .ok (.if_icmp .ge (46), 3) := by decide +kernel
theorem dM_sweep_141 : decode cM_sweep 141 = .ok (.aload_n 0, 1) := by decide +kernel
theorem dM_sweep_142 : decode cM_sweep 142 = .ok (.getfield 29, 3) := by decide +kernel
theorem dM_sweep_145 : decode cM_sweep 145 = .ok (.iload_n 2, 1) := by decide +kernel
theorem dM_sweep_146 : decode cM_sweep 146 = .ok (.aload_n 0, 1) := by decide +kernel
theorem dM_sweep_147 : decode cM_sweep 147 = .ok (.getfield 32, 3) := by decide +kernel
theorem dM_sweep_150 : decode cM_sweep 150 = .ok (.iload_n 2, 1) := by decide +kernel
theorem dM_sweep_151 : decode cM_sweep 151 = .ok (.baload, 1) := by decide +kernel
theorem dM_sweep_152 : decode cM_sweep 152 = .ok (.ifCond .ne (7), 3) := by decide +kernel
theorem dM_sweep_155 : decode cM_sweep 155 = .ok (.iconst 1, 1) := by decide +kernel
theorem dM_sweep_156 : decode cM_sweep 156 = .ok (.goto (4), 3) := by decide +kernel
theorem dM_sweep_159 : decode cM_sweep 159 = .ok (.iconst 0, 1) := by decide +kernel
theorem dM_sweep_160 : decode cM_sweep 160 = .ok (.bastore, 1) := by decide +kernel
theorem dM_sweep_161 : decode cM_sweep 161 = .ok (.iload_n 1, 1) := by decide +kernel
theorem dM_sweep_162 : decode cM_sweep 162 = .ok (.aload_n 0, 1) := by decide +kernel
theorem dM_sweep_163 : decode cM_sweep 163 = .ok (.getfield 32, 3) := by decide +kernel
theorem dM_sweep_166 : decode cM_sweep 166 = .ok (.iload_n 2, 1) := by decide +kernel
theorem dM_sweep_167 : decode cM_sweep 167 = .ok (.baload, 1) := by decide +kernel
theorem dM_sweep_168 : decode cM_sweep 168 = .ok (.ifCond .eq (7), 3) := by decide +kernel
theorem dM_sweep_171 : decode cM_sweep 171 = .ok (.iconst 0, 1) := by decide +kernel
theorem dM_sweep_172 : decode cM_sweep 172 = .ok (.goto (4), 3) := by decide +kernel
theorem dM_sweep_175 : decode cM_sweep 175 = .ok (.iconst 1, 1) := by decide +kernel
theorem dM_sweep_176 : decode cM_sweep 176 = .ok (.iadd, 1) := by decide +kernel
theorem dM_sweep_177 : decode cM_sweep 177 = .ok (.istore_n 1, 1) := by decide +kernel
theorem dM_sweep_178 : decode cM_sweep 178 = .ok (.iinc 2 (1), 3) := by decide +kernel
theorem dM_sweep_181 : decode cM_sweep 181 = .ok (.goto (-48), 3) := by decide +kernel
theorem dM_sweep_184 : decode cM_sweep 184 = .ok (.iload_n 1, 1) := by decide +kernel
theorem dM_sweep_185 : decode cM_sweep 185 = .ok (.ireturn, 1) := by decide +kernel
theorem dM_shrinks_0 : decode cM_shrinks 0 = .ok (.aload_n 0, 1) := by decide +kernel
theorem dM_shrinks_1 : decode cM_shrinks 1 = .ok (.getfield 41, 3) := by decide +kernel
theorem dM_shrinks_4 : decode cM_shrinks 4 = .ok (.iload_n 1, 1) := by decide +kernel
theorem dM_shrinks_5 : decode cM_shrinks 5 = .ok (.iaload, 1) := by decide +kernel
theorem dM_shrinks_6 : decode cM_shrinks 6 = .ok (.iconst 1, 1) := by decide +kernel
theorem dM_shrinks_7 : decode cM_shrinks 7 = .ok (.if_icmp .lt (17), 3) := by decide +kernel
theorem dM_shrinks_10 : decode cM_shrinks 10 = .ok (.aload_n 0, 1) := by decide +kernel
theorem dM_shrinks_11 : decode cM_shrinks 11 = .ok (.getfield 41, 3) := by decide +kernel
theorem dM_shrinks_14 : decode cM_shrinks 14 = .ok (.iload_n 1, 1) := by decide +kernel
theorem dM_shrinks_15 : decode cM_shrinks 15 = .ok (.iaload, 1) := by decide +kernel
theorem dM_shrinks_16 : decode cM_shrinks 16 = .ok (.iconst 4, 1) := by decide +kernel
theorem dM_shrinks_17 : decode cM_shrinks 17 = .ok (.if_icmp .ge (7), 3) := by decide +kernel
theorem dM_shrinks_20 : decode cM_shrinks 20 = .ok (.iconst 1, 1) := by decide +kernel
theorem dM_shrinks_21 : decode cM_shrinks 21 = .ok (.goto (4), 3) := by decide +kernel
theorem dM_shrinks_24 : decode cM_shrinks 24 = .ok (.iconst 0, 1) := by decide +kernel
theorem dM_shrinks_25 : decode cM_shrinks 25 = .ok (.ireturn, 1) := by decide +kernel
theorem dM_back_0 : decode cM_back 0 = .ok (.iconst 0, 1) := by decide +kernel
theorem dM_back_1 : decode cM_back 1 = .ok (.istore_n 1, 1) := by decide +kernel
theorem dM_back_2 : decode cM_back 2 = .ok (.iload_n 1, 1) := by decide +kernel
theorem dM_back_3 : decode cM_back 3 = .ok (.aload_n 0, 1) := by decide +kernel
theorem dM_back_4 : decode cM_back 4 = .ok (.getfield 83, 3) := by decide +kernel
theorem dM_back_7 : decode cM_back 7 = .ok (.if_icmp .ge (16), 3) := by decide +kernel
theorem dM_back_10 : decode cM_back 10 = .ok (.aload_n 0, 1) := by decide +kernel
theorem dM_back_11 : decode cM_back 11 = .ok (.getfield 29, 3) := by decide +kernel
theorem dM_back_14 : decode cM_back 14 = .ok (.iload_n 1, 1) := by decide +kernel
theorem dM_back_15 : decode cM_back 15 = .ok (.iconst 0, 1) := by decide +kernel
theorem dM_back_16 : decode cM_back 16 = .ok (.bastore, 1) := by decide +kernel
theorem dM_back_17 : decode cM_back 17 = .ok (.iinc 1 (1), 3) := by decide +kernel
theorem dM_back_20 : decode cM_back 20 = .ok (.goto (-18), 3) := by decide +kernel
theorem dM_back_23 : decode cM_back 23 = .ok (.return_, 1) := by decide +kernel
