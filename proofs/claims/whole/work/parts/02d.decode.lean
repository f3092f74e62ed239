theorem dM_pass_0 : decode cM_pass 0 = .ok (.aload_n 0, 1) := by decide +kernel
theorem dM_pass_1 : decode cM_pass 1 = .ok (.invokevirtual 170, 3) := by decide +kernel
theorem dM_pass_4 : decode cM_pass 4 = .ok (.iconst 0, 1) := by decide +kernel
theorem dM_pass_5 : decode cM_pass 5 = .ok (.istore_n 1, 1) := by decide +kernel
theorem dM_pass_6 : decode cM_pass 6 = .ok (.iload_n 1, 1) := by decide +kernel
theorem dM_pass_7 : decode cM_pass 7 = .ok (.aload_n 0, 1) := by decide +kernel
theorem dM_pass_8 : decode cM_pass 8 = .ok (.getfield 91, 3) := by decide +kernel
theorem dM_pass_11 : decode cM_pass 11 = .ok (.if_icmp .ge (20), 3) := by decide +kernel
theorem dM_pass_14 : decode cM_pass 14 = .ok (.aload_n 0, 1) := by decide +kernel
theorem dM_pass_15 : decode cM_pass 15 = .ok (.getfield 74, 3) := by decide +kernel
theorem dM_pass_18 : decode cM_pass 18 = .ok (.iload_n 1, 1) := by decide +kernel
theorem dM_pass_19 : decode cM_pass 19 = .ok (.aload_n 0, 1) := by decide +kernel
theorem dM_pass_20 : decode cM_pass 20 = .ok (.iload_n 1, 1) := by decide +kernel
theorem dM_pass_21 : decode cM_pass 21 = .ok (.invokevirtual 173, 3) := by decide +kernel
theorem dM_pass_24 : decode cM_pass 24 = .ok (.iastore, 1) := by decide +kernel
theorem dM_pass_25 : decode cM_pass 25 = .ok (.iinc 1 (1), 3) := by decide +kernel
theorem dM_pass_28 : decode cM_pass 28 = .ok (.goto (-22), 3) := by decide +kernel
theorem dM_pass_31 : decode cM_pass 31 = .ok (.iconst 0, 1) := by decide +kernel
theorem dM_pass_32 : decode cM_pass 32 = .ok (.istore_n 1, 1) := by decide +kernel
theorem dM_pass_33 : decode cM_pass 33 = .ok (.iconst 0, 1) := by decide +kernel
theorem dM_pass_34 : decode cM_pass 34 = .ok (.istore_n 2, 1) := by decide +kernel
theorem dM_pass_35 : decode cM_pass 35 = .ok (.iload_n 2, 1) := by decide +kernel
theorem dM_pass_36 : decode cM_pass 36 = .ok (.aload_n 0, 1) := by decide +kernel
theorem dM_pass_37 : decode cM_pass 37 = .ok (.getfield 91, 3) := by decide +kernel
theorem dM_pass_40 : decode cM_pass 40 = .ok (.if_icmp .ge (67), 3) := by decide +kernel
theorem dM_pass_43 : decode cM_pass 43 = .ok (.aload_n 0, 1) := by decide +kernel
theorem dM_pass_44 : decode cM_pass 44 = .ok (.iload_n 2, 1) := by decide +kernel
theorem dM_pass_45 : decode cM_pass 45 = .ok (.invokevirtual 114, 3) := by decide +kernel
theorem dM_pass_48 : decode cM_pass 48 = .ok (.ifCond .eq (53), 3) := by decide +kernel
theorem dM_pass_51 : decode cM_pass 51 = .ok (.aload_n 0, 1) := by decide +kernel
theorem dM_pass_52 : decode cM_pass 52 = .ok (.iload_n 2, 1) := by decide +kernel
theorem dM_pass_53 : decode cM_pass 53 = .ok (.invokevirtual 111, 3) := by decide +kernel
theorem dM_pass_56 : decode cM_pass 56 = .ok (.ifCond .ne (45), 3) := by decide +kernel
theorem dM_pass_59 : decode cM_pass 59 = .ok (.aload_n 0, 1) := by decide +kernel
theorem dM_pass_60 : decode cM_pass 60 = .ok (.getfield 65, 3) := by decide +kernel
theorem dM_pass_63 : decode cM_pass 63 = .ok (.iload_n 2, 1) := by decide +kernel
theorem dM_pass_64 : decode cM_pass 64 = .ok (.baload, 1) := by decide +kernel
theorem dM_pass_65 : decode cM_pass 65 = .ok (.ifCond .ne (36), 3) := by decide +kernel
theorem dM_pass_68 : decode cM_pass 68 = .ok (.aload_n 0, 1) := by decide +kernel
theorem dM_pass_69 : decode cM_pass 69 = .ok (.getfield 74, 3) := by decide +kernel
theorem dM_pass_72 : decode cM_pass 72 = .ok (.iload_n 2, 1) := by decide +kernel
theorem dM_pass_73 : decode cM_pass 73 = .ok (.iaload, 1) := by decide +kernel
theorem dM_pass_74 : decode cM_pass 74 = .ok (.aload_n 0, 1) := by decide +kernel
theorem dM_pass_75 : decode cM_pass 75 = .ok (.getfield 47, 3) := by decide +kernel
theorem dM_pass_78 : decode cM_pass 78 = .ok (.iload_n 2, 1) := by decide +kernel
theorem dM_pass_79 : decode cM_pass 79 = .ok (.iaload, 1) := by decide +kernel
theorem dM_pass_80 : decode cM_pass 80 = .ok (.if_icmp .lt (6), 3) := by decide +kernel
theorem dM_pass_83 : decode cM_pass 83 = .ok (.goto (18), 3) := by decide +kernel
theorem dM_pass_86 : decode cM_pass 86 = .ok (.aload_n 0, 1) := by decide +kernel
theorem dM_pass_87 : decode cM_pass 87 = .ok (.getfield 47, 3) := by decide +kernel
theorem dM_pass_90 : decode cM_pass 90 = .ok (.iload_n 2, 1) := by decide +kernel
theorem dM_pass_91 : decode cM_pass 91 = .ok (.aload_n 0, 1) := by decide +kernel
theorem dM_pass_92 : decode cM_pass 92 = .ok (.getfield 74, 3) := by decide +kernel
theorem dM_pass_95 : decode cM_pass 95 = .ok (.iload_n 2, 1) := by decide +kernel
theorem dM_pass_96 : decode cM_pass 96 = .ok (.iaload, 1) := by decide +kernel
theorem dM_pass_97 : decode cM_pass 97 = .ok (.iastore, 1) := by decide +kernel
theorem dM_pass_98 : decode cM_pass 98 = .ok (.iinc 1 (1), 3) := by decide +kernel
theorem dM_pass_101 : decode cM_pass 101 = .ok (.iinc 2 (1), 3) := by decide +kernel
theorem dM_pass_104 : decode cM_pass 104 = .ok (.goto (-69), 3) := by decide +kernel
theorem dM_pass_107 : decode cM_pass 107 = .ok (.iload_n 1, 1) := by decide +kernel
theorem dM_pass_108 : decode cM_pass 108 = .ok (.ireturn, 1) := by decide +kernel
theorem dM_reckon_0 : decode cM_reckon 0 = .ok (.aload_n 0, 1) := by decide +kernel
theorem dM_reckon_1 : decode cM_reckon 1 = .ok (.getfield 97, 3) := by decide +kernel
theorem dM_reckon_4 : decode cM_reckon 4 = .ok (.istore_n 1, 1) := by decide +kernel
theorem dM_reckon_5 : decode cM_reckon 5 = .ok (.iconst 0, 1) := by decide +kernel
theorem dM_reckon_6 : decode cM_reckon 6 = .ok (.istore_n 2, 1) := by decide +kernel
theorem dM_reckon_7 : decode cM_reckon 7 = .ok (.iload_n 2, 1) := by decide +kernel
theorem dM_reckon_8 : decode cM_reckon 8 = .ok (.iconst 4, 1) := by decide +kernel
theorem dM_reckon_9 : decode cM_reckon 9 = .ok (.if_icmp .ge (85), 3) := by decide +kernel
theorem dM_reckon_12 : decode cM_reckon 12 = .ok (.iload_n 1, 1) := by decide +kernel
theorem dM_reckon_13 : decode cM_reckon 13 = .ok (.aload_n 0, 1) := by decide +kernel
theorem dM_reckon_14 : decode cM_reckon 14 = .ok (.getfield 7, 3) := by decide +kernel
theorem dM_reckon_17 : decode cM_reckon 17 = .ok (.iload_n 2, 1) := by decide +kernel
theorem dM_reckon_18 : decode cM_reckon 18 = .ok (.iaload, 1) := by decide +kernel
theorem dM_reckon_19 : decode cM_reckon 19 = .ok (.invokestatic 100, 3) := by decide +kernel
theorem dM_reckon_22 : decode cM_reckon 22 = .ok (.istore_n 1, 1) := by decide +kernel
theorem dM_reckon_23 : decode cM_reckon 23 = .ok (.aload_n 0, 1) := by decide +kernel
theorem dM_reckon_24 : decode cM_reckon 24 = .ok (.getfield 13, 3) := by decide +kernel
theorem dM_reckon_27 : decode cM_reckon 27 = .ok (.iload_n 2, 1) := by decide +kernel
theorem dM_reckon_28 : decode cM_reckon 28 = .ok (.iload_n 1, 1) := by decide +kernel
theorem dM_reckon_29 : decode cM_reckon 29 = .ok (.iastore, 1) := by decide +kernel
theorem dM_reckon_30 : decode cM_reckon 30 = .ok (.iconst 0, 1) := by decide +kernel
theorem dM_reckon_31 : decode cM_reckon 31 = .ok (.istore_n 3, 1) := by decide +kernel
theorem dM_reckon_32 : decode cM_reckon 32 = .ok (.iload_n 3, 1) := by decide +kernel
theorem dM_reckon_33 : decode cM_reckon 33 = .ok (.aload_n 0, 1) := by decide +kernel
theorem dM_reckon_34 : decode cM_reckon 34 = .ok (.getfield 83, 3) := by decide +kernel
theorem dM_reckon_37 : decode cM_reckon 37 = .ok (.if_icmp .ge (44), 3) := by decide +kernel
theorem dM_reckon_40 : decode cM_reckon 40 = .ok (.aload_n 0, 1) := by decide +kernel
theorem dM_reckon_41 : decode cM_reckon 41 = .ok (.getfield 19, 3) := by decide +kernel
theorem dM_reckon_44 : decode cM_reckon 44 = .ok (.iload_n 3, 1) := by decide +kernel
theorem dM_reckon_45 : decode cM_reckon 45 = .ok (.iaload, 1) := by decide +kernel
theorem dM_reckon_46 : decode cM_reckon 46 = .ok (.iload_n 2, 1) := by decide +kernel
theorem dM_reckon_47 : decode cM_reckon 47 = .ok (.if_icmp .ne (28), 3) := by decide +kernel
theorem dM_reckon_50 : decode cM_reckon 50 = .ok (.aload_n 0, 1) := by decide +kernel
theorem dM_reckon_51 : decode cM_reckon 51 = .ok (.getfield 29, 3) := by decide +kernel
theorem dM_reckon_54 : decode cM_reckon 54 = .ok (.iload_n 3, 1) := by decide +kernel
theorem dM_reckon_55 : decode cM_reckon 55 = .ok (.baload, 1) := by decide +kernel
theorem dM_reckon_56 : decode cM_reckon 56 = .ok (.ifCond .ne (19), 3) := by decide +kernel
theorem dM_reckon_59 : decode cM_reckon 59 = .ok (.aload_n 0, 1) := by decide +kernel
theorem dM_reckon_60 : decode cM_reckon 60 = .ok (.iload_n 3, 1) := by decide +kernel
theorem dM_reckon_61 : decode cM_reckon 61 = .ok (.iload_n 1, 1) := by decide +kernel
theorem dM_reckon_62 : decode cM_reckon 62 = .ok (.aload_n 0, 1) := by decide +kernel
theorem dM_reckon_63 : decode cM_reckon 63 = .ok (.getfield 22, 3) := by decide +kernel
theorem dM_reckon_66 : decode cM_reckon 66 = .ok (.iload_n 3, 1) := by decide +kernel
theorem dM_reckon_67 : decode cM_reckon 67 = .ok (.iaload, 1) := by decide +kernel
theorem dM_reckon_68 : decode cM_reckon 68 = .ok (.invokestatic 100, 3) := by decide +kernel
theorem dM_reckon_71 : decode cM_reckon 71 = .ok (.invokevirtual 104, 3) := by decide +kernel
theorem dM_reckon_74 : decode cM_reckon 74 = .ok (.istore_n 1, 1) := by decide +kernel
theorem dM_reckon_75 : decode cM_reckon 75 = .ok (.iinc 3 (1), 3) := by decide +kernel
theorem dM_reckon_78 : decode cM_reckon 78 = .ok (.goto (-46), 3) := by decide +kernel
theorem dM_reckon_81 : decode cM_reckon 81 = .ok (.aload_n 0, 1) := by decide +kernel
theorem dM_reckon_82 : decode cM_reckon 82 = .ok (.getfield 16, 3) := by decide +kernel
theorem dM_reckon_85 : decode cM_reckon 85 = .ok (.iload_n 2, 1) := by decide +kernel
theorem dM_reckon_86 : decode cM_reckon 86 = .ok (.iload_n 1, 1) := by decide +kernel
theorem dM_reckon_87 : decode cM_reckon 87 = .ok (.iastore, 1) := by decide +kernel
theorem dM_reckon_88 : decode cM_reckon 88 = .ok (.iinc 2 (1), 3) := by decide +kernel
theorem dM_reckon_91 : decode cM_reckon 91 = .ok (.goto (-84), 3) := by decide +kernel
theorem dM_reckon_94 : decode cM_reckon 94 = .ok (.return_, 1) := by decide +kernel
theorem dM_roundUp_0 : decode cM_roundUp 0 = .ok (.iload_n 0, 1) := by decide +kernel
theorem dM_roundUp_1 : decode cM_roundUp 1 = .ok (.iload_n 1, 1) := by decide +kernel
theorem dM_roundUp_2 : decode cM_roundUp 2 = .ok (.iadd, 1) := by decide +kernel
theorem dM_roundUp_3 : decode cM_roundUp 3 = .ok (.iconst 1, 1) := by decide +kernel
theorem dM_roundUp_4 : decode cM_roundUp 4 = .ok (.isub, 1) := by decide +kernel
theorem dM_roundUp_5 : decode cM_roundUp 5 = .ok (.iload_n 1, 1) := by decide +kernel
theorem dM_roundUp_6 : decode cM_roundUp 6 = .ok (.idiv, 1) := by decide +kernel
theorem dM_roundUp_7 : decode cM_roundUp 7 = .ok (.iload_n 1, 1) := by decide +kernel
theorem dM_roundUp_8 : decode cM_roundUp 8 = .ok (.imul, 1) := by decide +kernel
theorem dM_roundUp_9 : decode cM_roundUp 9 = .ok (.ireturn, 1) := by decide +kernel
theorem dM_lay_0 : decode cM_lay 0 = .ok (.iload_n 2, 1) := by decide +kernel
theorem dM_lay_1 : decode cM_lay 1 = .ok (.istore_n 3, 1) := by decide +kernel
theorem dM_lay_2 : decode cM_lay 2 = .ok (.aload_n 0, 1) := by decide +kernel
theorem dM_lay_3 : decode cM_lay 3 = .ok (.getfield 35, 3) := by decide +kernel
theorem dM_lay_6 : decode cM_lay 6 = .ok (.iload_n 1, 1) := by decide +kernel
theorem dM_lay_7 : decode cM_lay 7 = .ok (.iload_n 3, 1) := by decide +kernel
theorem dM_lay_8 : decode cM_lay 8 = .ok (.iastore, 1) := by decide +kernel
theorem dM_lay_9 : decode cM_lay 9 = .ok (.iconst 0, 1) := by decide +kernel
theorem dM_lay_10 : decode cM_lay 10 = .ok (.istore 4, 2) := by decide +kernel
theorem dM_lay_12 : decode cM_lay 12 = .ok (.iload 4, 2) := by decide +kernel
theorem dM_lay_14 : decode cM_lay 14 = .ok (.aload_n 0, 1) := by decide +kernel
theorem dM_lay_15 : decode cM_lay 15 = .ok (.getfield 91, 3) := by decide +kernel
theorem dM_lay_18 : decode cM_lay 18 = .ok (.if_icmp .ge (121), 3) := by decide +kernel
theorem dM_lay_21 : decode cM_lay 21 = .ok (.aload_n 0, 1) := by decide +kernel
theorem dM_lay_22 : decode cM_lay 22 = .ok (.getfield 44, 3) := by decide +kernel
theorem dM_lay_25 : decode cM_lay 25 = .ok (.iload 4, 2) := by decide +kernel
theorem dM_lay_27 : decode cM_lay 27 = .ok (.iaload, 1) := by decide +kernel
theorem dM_lay_28 : decode cM_lay 28 = .ok (.iload_n 1, 1) := by decide +kernel
theorem dM_lay_29 : decode cM_lay 29 = .ok (.if_icmp .eq (6), 3) := by decide +kernel
theorem dM_lay_32 : decode cM_lay 32 = .ok (.goto (101), 3) := by decide +kernel
theorem dM_lay_35 : decode cM_lay 35 = .ok (.aload_n 0, 1) := by decide +kernel
theorem dM_lay_36 : decode cM_lay 36 = .ok (.getfield 68, 3) := by decide +kernel
theorem dM_lay_39 : decode cM_lay 39 = .ok (.iload 4, 2) := by decide +kernel
theorem dM_lay_41 : decode cM_lay 41 = .ok (.iload_n 3, 1) := by decide +kernel
theorem dM_lay_42 : decode cM_lay 42 = .ok (.iastore, 1) := by decide +kernel
theorem dM_lay_43 : decode cM_lay 43 = .ok (.aload_n 0, 1) := by decide +kernel
theorem dM_lay_44 : decode cM_lay 44 = .ok (.getfield 41, 3) := by decide +kernel
theorem dM_lay_47 : decode cM_lay 47 = .ok (.iload 4, 2) := by decide +kernel
theorem dM_lay_49 : decode cM_lay 49 = .ok (.iaload, 1) := by decide +kernel
theorem dM_lay_50 : decode cM_lay 50 = .ok (.iconst 4, 1) := by decide +kernel
theorem dM_lay_51 : decode cM_lay 51 = .ok (.if_icmp .ne (72), 3) := by decide +kernel
theorem dM_lay_54 : decode cM_lay 54 = .ok (.iconst 1, 1) := by decide +kernel
theorem dM_lay_55 : decode cM_lay 55 = .ok (.aload_n 0, 1) := by decide +kernel
theorem dM_lay_56 : decode cM_lay 56 = .ok (.getfield 53, 3) := by decide +kernel
theorem dM_lay_59 : decode cM_lay 59 = .ok (.iload 4, 2) := by decide +kernel
theorem dM_lay_61 : decode cM_lay 61 = .ok (.iaload, 1) := by decide +kernel
theorem dM_lay_62 : decode cM_lay 62 = .ok (.ishl, 1) := by decide +kernel
theorem dM_lay_63 : decode cM_lay 63 = .ok (.istore 5, 2) := by decide +kernel
theorem dM_lay_65 : decode cM_lay 65 = .ok (.aload_n 0, 1) := by decide +kernel
theorem dM_lay_66 : decode cM_lay 66 = .ok (.getfield 71, 3) := by decide +kernel
theorem dM_lay_69 : decode cM_lay 69 = .ok (.iload 4, 2) := by decide +kernel
theorem dM_lay_71 : decode cM_lay 71 = .ok (.iload 5, 2) := by decide +kernel
theorem dM_lay_73 : decode cM_lay 73 = .ok (.iload_n 3, 1) := by decide +kernel
theorem dM_lay_74 : decode cM_lay 74 = .ok (.iload 5, 2) := by decide +kernel
theorem dM_lay_76 : decode cM_lay 76 = .ok (.irem, 1) := by decide +kernel
theorem dM_lay_77 : decode cM_lay 77 = .ok (.isub, 1) := by decide +kernel
theorem dM_lay_78 : decode cM_lay 78 = .ok (.iload 5, 2) := by decide +kernel
theorem dM_lay_80 : decode cM_lay 80 = .ok (.irem, 1) := by decide +kernel
theorem dM_lay_81 : decode cM_lay 81 = .ok (.iastore, 1) := by decide +kernel
theorem dM_lay_82 : decode cM_lay 82 = .ok (.aload_n 0, 1) := by decide +kernel
theorem dM_lay_83 : decode cM_lay 83 = .ok (.getfield 47, 3) := by decide +kernel
theorem dM_lay_86 : decode cM_lay 86 = .ok (.iload 4, 2) := by decide +kernel
theorem dM_lay_88 : decode cM_lay 88 = .ok (.aload_n 0, 1) := by decide +kernel
theorem dM_lay_89 : decode cM_lay 89 = .ok (.getfield 71, 3) := by decide +kernel
theorem dM_lay_92 : decode cM_lay 92 = .ok (.iload 4, 2) := by decide +kernel
theorem dM_lay_94 : decode cM_lay 94 = .ok (.iaload, 1) := by decide +kernel
theorem dM_lay_95 : decode cM_lay 95 = .ok (.aload_n 0, 1) := by decide +kernel
theorem dM_lay_96 : decode cM_lay 96 = .ok (.getfield 50, 3) := by decide +kernel
theorem dM_lay_99 : decode cM_lay 99 = .ok (.iload 4, 2) := by decide +kernel
theorem dM_lay_101 : decode cM_lay 101 = .ok (.iaload, 1) := by decide +kernel
theorem dM_lay_102 : decode cM_lay 102 = .ok (.if_icmp .ge (13), 3) := by decide +kernel
theorem dM_lay_105 : decode cM_lay 105 = .ok (.aload_n 0, 1) := by decide +kernel
theorem dM_lay_106 : decode cM_lay 106 = .ok (.getfield 71, 3) := by decide +kernel
theorem dM_lay_109 : decode cM_lay 109 = .ok (.iload 4, 2) := by decide +kernel
theorem dM_lay_111 : decode cM_lay 111 = .ok (.iaload, 1) := by decide +kernel
theorem dM_lay_112 : decode cM_lay 112 = .ok (.goto (10), 3) := by decide +kernel
theorem dM_lay_115 : decode cM_lay 115 = .ok (.aload_n 0, 1) := by decide +kernel
theorem dM_lay_116 : decode cM_lay 116 = .ok (.getfield 50, 3) := by decide +kernel
theorem dM_lay_119 : decode cM_lay 119 = .ok (.iload 4, 2) := by decide +kernel
theorem dM_lay_121 : decode cM_lay 121 = .ok (.iaload, 1) := by decide +kernel
theorem dM_lay_122 : decode cM_lay 122 = .ok (.iastore, 1) := by decide +kernel
theorem dM_lay_123 : decode cM_lay 123 = .ok (.iload_n 3, 1) := by decide +kernel
theorem dM_lay_124 : decode cM_lay 124 = .ok (.aload_n 0, 1) := by decide +kernel
theorem dM_lay_125 : decode cM_lay 125 = .ok (.getfield 47, 3) := by decide +kernel
theorem dM_lay_128 : decode cM_lay 128 = .ok (.iload 4, 2) := by decide +kernel
theorem dM_lay_130 : decode cM_lay 130 = .ok (.iaload, 1) := by decide +kernel
theorem dM_lay_131 : decode cM_lay 131 = .ok (.iadd, 1) := by decide +kernel
theorem dM_lay_132 : decode cM_lay 132 = .ok (.istore_n 3, 1) := by decide +kernel
theorem dM_lay_133 : decode cM_lay 133 = .ok (.iinc 4 (1), 3) := by decide +kernel
theorem dM_lay_136 : decode cM_lay 136 = .ok (.goto (-124), 3) := by decide +kernel
theorem dM_lay_139 : decode cM_lay 139 = .ok (.aload_n 0, 1) := by decide +kernel
theorem dM_lay_140 : decode cM_lay 140 = .ok (.getfield 38, 3) := by decide +kernel
theorem dM_lay_143 : decode cM_lay 143 = .ok (.iload_n 1, 1) := by decide +kernel
theorem dM_lay_144 : decode cM_lay 144 = .ok (.iload_n 3, 1) := by decide +kernel
theorem dM_lay_145 : decode cM_lay 145 = .ok (.iastore, 1) := by decide +kernel
theorem dM_lay_146 : decode cM_lay 146 = .ok (.iload_n 3, 1) := by decide +kernel
theorem dM_lay_147 : decode cM_lay 147 = .ok (.ireturn, 1) := by decide +kernel
theorem dM_leastOf_0 : decode cM_leastOf 0 = .ok (.aload_n 0, 1) := by decide +kernel
theorem dM_leastOf_1 : decode cM_leastOf 1 = .ok (.iload_n 1, 1) := by decide +kernel
theorem dM_leastOf_2 : decode cM_leastOf 2 = .ok (.invokevirtual 128, 3) := by decide +kernel
theorem dM_leastOf_5 : decode cM_leastOf 5 = .ok (.ifCond .ne (30), 3) := by decide +kernel
theorem dM_leastOf_8 : decode cM_leastOf 8 = .ok (.aload_n 0, 1) := by decide +kernel
theorem dM_leastOf_9 : decode cM_leastOf 9 = .ok (.iload_n 1, 1) := by decide +kernel
theorem dM_leastOf_10 : decode cM_leastOf 10 = .ok (.invokevirtual 114, 3) := by decide +kernel
theorem dM_leastOf_13 : decode cM_leastOf 13 = .ok (.ifCond .eq (15), 3) := by decide +kernel
theorem dM_leastOf_16 : decode cM_leastOf 16 = .ok (.aload_n 0, 1) := by decide +kernel
theorem dM_leastOf_17 : decode cM_leastOf 17 = .ok (.getfield 41, 3) := by decide +kernel
theorem dM_leastOf_20 : decode cM_leastOf 20 = .ok (.iload_n 1, 1) := by decide +kernel
theorem dM_leastOf_21 : decode cM_leastOf 21 = .ok (.iaload, 1) := by decide +kernel
theorem dM_leastOf_22 : decode cM_leastOf 22 = .ok (.invokestatic 131, 3) := by decide +kernel
theorem dM_leastOf_25 : decode cM_leastOf 25 = .ok (.goto (9), 3) := by decide +kernel
theorem dM_leastOf_28 : decode cM_leastOf 28 = .ok (.aload_n 0, 1) := by decide +kernel
theorem dM_leastOf_29 : decode cM_leastOf 29 = .ok (.getfield 47, 3) := by decide +kernel
theorem dM_leastOf_32 : decode cM_leastOf 32 = .ok (.iload_n 1, 1) := by decide +kernel
theorem dM_leastOf_33 : decode cM_leastOf 33 = .ok (.iaload, 1) := by decide +kernel
theorem dM_leastOf_34 : decode cM_leastOf 34 = .ok (.ireturn, 1) := by decide +kernel
theorem dM_leastOf_35 : decode cM_leastOf 35 = .ok (.aload_n 0, 1) := by decide +kernel
theorem dM_leastOf_36 : decode cM_leastOf 36 = .ok (.iload_n 1, 1) := by decide +kernel
theorem dM_leastOf_37 : decode cM_leastOf 37 = .ok (.invokevirtual 134, 3) := by decide +kernel
theorem dM_leastOf_40 : decode cM_leastOf 40 = .ok (.lstore_n 2, 1) := by decide +kernel
theorem dM_leastOf_41 : decode cM_leastOf 41 = .ok (.aload_n 0, 1) := by decide +kernel
theorem dM_leastOf_42 : decode cM_leastOf 42 = .ok (.getfield 41, 3) := by decide +kernel
theorem dM_leastOf_45 : decode cM_leastOf 45 = .ok (.iload_n 1, 1) := by decide +kernel
theorem dM_leastOf_46 : decode cM_leastOf 46 = .ok (.iaload, 1) := by decide +kernel
theorem dM_leastOf_47 : decode cM_leastOf 47 = .ok (.iconst 1, 1) := by decide +kernel
theorem dM_leastOf_48 : decode cM_leastOf 48 = .ok (.if_icmp .ne (86), 3) := by decide +kernel
theorem dM_leastOf_51 : decode cM_leastOf 51 = .ok (.lload_n 2, 1) := by decide +kernel
theorem dM_leastOf_52 : decode cM_leastOf 52 = .ok (.aload_n 0, 1) := by decide +kernel
theorem dM_leastOf_53 : decode cM_leastOf 53 = .ok (.getfield 68, 3) := by decide +kernel
theorem dM_leastOf_56 : decode cM_leastOf 56 = .ok (.iload_n 1, 1) := by decide +kernel
theorem dM_leastOf_57 : decode cM_leastOf 57 = .ok (.iaload, 1) := by decide +kernel
theorem dM_leastOf_58 : decode cM_leastOf 58 = .ok (.i2l, 1) := by decide +kernel
theorem dM_leastOf_59 : decode cM_leastOf 59 = .ok (.lsub, 1) := by decide +kernel
theorem dM_leastOf_60 : decode cM_leastOf 60 = .ok (.lstore 4, 2) := by decide +kernel
theorem dM_leastOf_62 : decode cM_leastOf 62 = .ok (.lload 4, 2) := by decide +kernel
theorem dM_leastOf_64 : decode cM_leastOf 64 = .ok (.ldc2_w 138, 3) := by decide +kernel
theorem dM_leastOf_67 : decode cM_leastOf 67 = .ok (.lrem, 1) := by decide +kernel
theorem dM_leastOf_68 : decode cM_leastOf 68 = .ok (.lconst 0, 1) := by decide +kernel
theorem dM_leastOf_69 : decode cM_leastOf 69 = .ok (.lcmp, 1) := by decide +kernel
theorem dM_leastOf_70 : decode cM_leastOf 70 = .ok (.ifCond .ne (7), 3) := by decide +kernel
theorem dM_leastOf_73 : decode cM_leastOf 73 = .ok (.iconst 1, 1) := by decide +kernel
theorem dM_leastOf_74 : decode cM_leastOf 74 = .ok (.goto (4), 3) := by decide +kernel
theorem dM_leastOf_77 : decode cM_leastOf 77 = .ok (.iconst 0, 1) := by decide +kernel
theorem dM_leastOf_78 : decode cM_leastOf 78 = .ok (.istore 6, 2) := by decide +kernel
theorem dM_leastOf_80 : decode cM_leastOf 80 = .ok (.aload_n 0, 1) := by decide +kernel
theorem dM_leastOf_81 : decode cM_leastOf 81 = .ok (.getfield 62, 3) := by decide +kernel
theorem dM_leastOf_84 : decode cM_leastOf 84 = .ok (.iload_n 1, 1) := by decide +kernel
theorem dM_leastOf_85 : decode cM_leastOf 85 = .ok (.baload, 1) := by decide +kernel
theorem dM_leastOf_86 : decode cM_leastOf 86 = .ok (.ifCond .eq (18), 3) := by decide +kernel
theorem dM_leastOf_89 : decode cM_leastOf 89 = .ok (.iload 6, 2) := by decide +kernel
theorem dM_leastOf_91 : decode cM_leastOf 91 = .ok (.ifCond .eq (13), 3) := by decide +kernel
theorem dM_leastOf_94 : decode cM_leastOf 94 = .ok (.lload 4, 2) := by decide +kernel
theorem dM_leastOf_96 : decode cM_leastOf 96 = .ok (.invokestatic 140, 3) := by decide +kernel
theorem dM_leastOf_99 : decode cM_leastOf 99 = .ok (.ifCond .eq (5), 3) := by decide +kernel
theorem dM_leastOf_102 : decode cM_leastOf 102 = .ok (.iconst 2, 1) := by decide +kernel
theorem dM_leastOf_103 : decode cM_leastOf 103 = .ok (.ireturn, 1) := by decide +kernel
theorem dM_leastOf_104 : decode cM_leastOf 104 = .ok (.iload 6, 2) := by decide +kernel
theorem dM_leastOf_106 : decode cM_leastOf 106 = .ok (.ifCond .eq (25), 3) := by decide +kernel
theorem dM_leastOf_109 : decode cM_leastOf 109 = .ok (.lload 4, 2) := by decide +kernel
theorem dM_leastOf_111 : decode cM_leastOf 111 = .ok (.ldc2_w 144, 3) := by decide +kernel
theorem dM_leastOf_114 : decode cM_leastOf 114 = .ok (.lcmp, 1) := by decide +kernel
theorem dM_leastOf_115 : decode cM_leastOf 115 = .ok (.ifCond .lt (16), 3) := by decide +kernel
theorem dM_leastOf_118 : decode cM_leastOf 118 = .ok (.lload 4, 2) := by decide +kernel
theorem dM_leastOf_120 : decode cM_leastOf 120 = .ok (.ldc2_w 146, 3) := by decide +kernel
theorem dM_leastOf_123 : decode cM_leastOf 123 = .ok (.lcmp, 1) := by decide +kernel
theorem dM_leastOf_124 : decode cM_leastOf 124 = .ok (.ifCond .gt (7), 3) := by decide +kernel
theorem dM_leastOf_127 : decode cM_leastOf 127 = .ok (.iconst 4, 1) := by decide +kernel
theorem dM_leastOf_128 : decode cM_leastOf 128 = .ok (.goto (5), 3) := by decide +kernel
theorem dM_leastOf_131 : decode cM_leastOf 131 = .ok (.bipush (8), 2) := by decide +kernel
theorem dM_leastOf_133 : decode cM_leastOf 133 = .ok (.ireturn, 1) := by decide +kernel
theorem dM_leastOf_134 : decode cM_leastOf 134 = .ok (.lload_n 2, 1) := by decide +kernel
theorem dM_leastOf_135 : decode cM_leastOf 135 = .ok (.invokestatic 140, 3) := by decide +kernel
theorem dM_leastOf_138 : decode cM_leastOf 138 = .ok (.ifCond .ne (22), 3) := by decide +kernel
theorem dM_leastOf_141 : decode cM_leastOf 141 = .ok (.lload_n 2, 1) := by decide +kernel
theorem dM_leastOf_142 : decode cM_leastOf 142 = .ok (.aload_n 0, 1) := by decide +kernel
theorem dM_leastOf_143 : decode cM_leastOf 143 = .ok (.getfield 13, 3) := by decide +kernel
theorem dM_leastOf_146 : decode cM_leastOf 146 = .ok (.iconst 2, 1) := by decide +kernel
theorem dM_leastOf_147 : decode cM_leastOf 147 = .ok (.iaload, 1) := by decide +kernel
theorem dM_leastOf_148 : decode cM_leastOf 148 = .ok (.i2l, 1) := by decide +kernel
theorem dM_leastOf_149 : decode cM_leastOf 149 = .ok (.lsub, 1) := by decide +kernel
theorem dM_leastOf_150 : decode cM_leastOf 150 = .ok (.ldc2_w 148, 3) := by decide +kernel
theorem dM_leastOf_153 : decode cM_leastOf 153 = .ok (.lsub, 1) := by decide +kernel
theorem dM_leastOf_154 : decode cM_leastOf 154 = .ok (.invokestatic 140, 3) := by decide +kernel
theorem dM_leastOf_157 : decode cM_leastOf 157 = .ok (.ifCond .eq (5), 3) := by decide +kernel
theorem dM_leastOf_160 : decode cM_leastOf 160 = .ok (.iconst 0, 1) := by decide +kernel
theorem dM_leastOf_161 : decode cM_leastOf 161 = .ok (.ireturn, 1) := by decide +kernel
theorem dM_leastOf_162 : decode cM_leastOf 162 = .ok (.lload_n 2, 1) := by decide +kernel
theorem dM_leastOf_163 : decode cM_leastOf 163 = .ok (.ldc2_w 148, 3) := by decide +kernel
theorem dM_leastOf_166 : decode cM_leastOf 166 = .ok (.ladd, 1) := by decide +kernel
theorem dM_leastOf_167 : decode cM_leastOf 167 = .ok (.lstore 4, 2) := by decide +kernel
theorem dM_leastOf_169 : decode cM_leastOf 169 = .ok (.aload_n 0, 1) := by decide +kernel
theorem dM_leastOf_170 : decode cM_leastOf 170 = .ok (.getfield 41, 3) := by decide +kernel
theorem dM_leastOf_173 : decode cM_leastOf 173 = .ok (.iload_n 1, 1) := by decide +kernel
theorem dM_leastOf_174 : decode cM_leastOf 174 = .ok (.iaload, 1) := by decide +kernel
theorem dM_leastOf_175 : decode cM_leastOf 175 = .ok (.iconst 2, 1) := by decide +kernel
theorem dM_leastOf_176 : decode cM_leastOf 176 = .ok (.if_icmp .ne (34), 3) := by decide +kernel
theorem dM_leastOf_179 : decode cM_leastOf 179 = .ok (.aload_n 0, 1) := by decide +kernel
theorem dM_leastOf_180 : decode cM_leastOf 180 = .ok (.getfield 62, 3) := by decide +kernel
theorem dM_leastOf_183 : decode cM_leastOf 183 = .ok (.iload_n 1, 1) := by decide +kernel
theorem dM_leastOf_184 : decode cM_leastOf 184 = .ok (.baload, 1) := by decide +kernel
theorem dM_leastOf_185 : decode cM_leastOf 185 = .ok (.ifCond .eq (25), 3) := by decide +kernel
theorem dM_leastOf_188 : decode cM_leastOf 188 = .ok (.lload 4, 2) := by decide +kernel
theorem dM_leastOf_190 : decode cM_leastOf 190 = .ok (.ldc2_w 150, 3) := by decide +kernel
theorem dM_leastOf_193 : decode cM_leastOf 193 = .ok (.lcmp, 1) := by decide +kernel
theorem dM_leastOf_194 : decode cM_leastOf 194 = .ok (.ifCond .lt (16), 3) := by decide +kernel
theorem dM_leastOf_197 : decode cM_leastOf 197 = .ok (.lload 4, 2) := by decide +kernel
theorem dM_leastOf_199 : decode cM_leastOf 199 = .ok (.ldc2_w 152, 3) := by decide +kernel
theorem dM_leastOf_202 : decode cM_leastOf 202 = .ok (.lcmp, 1) := by decide +kernel
theorem dM_leastOf_203 : decode cM_leastOf 203 = .ok (.ifCond .ge (7), 3) := by decide +kernel
theorem dM_leastOf_206 : decode cM_leastOf 206 = .ok (.iconst 2, 1) := by decide +kernel
theorem dM_leastOf_207 : decode cM_leastOf 207 = .ok (.goto (4), 3) := by decide +kernel
theorem dM_leastOf_210 : decode cM_leastOf 210 = .ok (.iconst 4, 1) := by decide +kernel
theorem dM_leastOf_211 : decode cM_leastOf 211 = .ok (.ireturn, 1) := by decide +kernel
theorem dM_hasAim_0 : decode cM_hasAim 0 = .ok (.aload_n 0, 1) := by decide +kernel
theorem dM_hasAim_1 : decode cM_hasAim 1 = .ok (.iload_n 1, 1) := by decide +kernel
theorem dM_hasAim_2 : decode cM_hasAim 2 = .ok (.invokevirtual 114, 3) := by decide +kernel
theorem dM_hasAim_5 : decode cM_hasAim 5 = .ok (.ifCond .eq (20), 3) := by decide +kernel
theorem dM_hasAim_8 : decode cM_hasAim 8 = .ok (.aload_n 0, 1) := by decide +kernel
theorem dM_hasAim_9 : decode cM_hasAim 9 = .ok (.aload_n 0, 1) := by decide +kernel
theorem dM_hasAim_10 : decode cM_hasAim 10 = .ok (.getfield 56, 3) := by decide +kernel
theorem dM_hasAim_13 : decode cM_hasAim 13 = .ok (.iload_n 1, 1) := by decide +kernel
theorem dM_hasAim_14 : decode cM_hasAim 14 = .ok (.iaload, 1) := by decide +kernel
theorem dM_hasAim_15 : decode cM_hasAim 15 = .ok (.invokevirtual 117, 3) := by decide +kernel
theorem dM_hasAim_18 : decode cM_hasAim 18 = .ok (.ifCond .eq (7), 3) := by decide +kernel
theorem dM_hasAim_21 : decode cM_hasAim 21 = .ok (.iconst 1, 1) := by decide +kernel
theorem dM_hasAim_22 : decode cM_hasAim 22 = .ok (.goto (4), 3) := by decide +kernel
theorem dM_hasAim_25 : decode cM_hasAim 25 = .ok (.iconst 0, 1) := by decide +kernel
theorem dM_hasAim_26 : decode cM_hasAim 26 = .ok (.ireturn, 1) := by decide +kernel
theorem dM_hasValue_0 : decode cM_hasValue 0 = .ok (.aload_n 0, 1) := by decide +kernel
theorem dM_hasValue_1 : decode cM_hasValue 1 = .ok (.iload_n 1, 1) := by decide +kernel
theorem dM_hasValue_2 : decode cM_hasValue 2 = .ok (.invokevirtual 107, 3) := by decide +kernel
theorem dM_hasValue_5 : decode cM_hasValue 5 = .ok (.ifCond .eq (30), 3) := by decide +kernel
theorem dM_hasValue_8 : decode cM_hasValue 8 = .ok (.aload_n 0, 1) := by decide +kernel
theorem dM_hasValue_9 : decode cM_hasValue 9 = .ok (.getfield 77, 3) := by decide +kernel
theorem dM_hasValue_12 : decode cM_hasValue 12 = .ok (.iload_n 1, 1) := by decide +kernel
theorem dM_hasValue_13 : decode cM_hasValue 13 = .ok (.iaload, 1) := by decide +kernel
theorem dM_hasValue_14 : decode cM_hasValue 14 = .ok (.iconst (-1), 1) := by decide +kernel
theorem dM_hasValue_15 : decode cM_hasValue 15 = .ok (.if_icmp .eq (20), 3) := by decide +kernel
theorem dM_hasValue_18 : decode cM_hasValue 18 = .ok (.aload_n 0, 1) := by decide +kernel
theorem dM_hasValue_19 : decode cM_hasValue 19 = .ok (.aload_n 0, 1) := by decide +kernel
theorem dM_hasValue_20 : decode cM_hasValue 20 = .ok (.getfield 77, 3) := by decide +kernel
theorem dM_hasValue_23 : decode cM_hasValue 23 = .ok (.iload_n 1, 1) := by decide +kernel
theorem dM_hasValue_24 : decode cM_hasValue 24 = .ok (.iaload, 1) := by decide +kernel
theorem dM_hasValue_25 : decode cM_hasValue 25 = .ok (.invokevirtual 111, 3) := by decide +kernel
theorem dM_hasValue_28 : decode cM_hasValue 28 = .ok (.ifCond .ne (7), 3) := by decide +kernel
theorem dM_hasValue_31 : decode cM_hasValue 31 = .ok (.iconst 1, 1) := by decide +kernel
theorem dM_hasValue_32 : decode cM_hasValue 32 = .ok (.goto (4), 3) := by decide +kernel
theorem dM_hasValue_35 : decode cM_hasValue 35 = .ok (.iconst 0, 1) := by decide +kernel
theorem dM_hasValue_36 : decode cM_hasValue 36 = .ok (.ireturn, 1) := by decide +kernel
theorem dM_isGone_0 : decode cM_isGone 0 = .ok (.aload_n 0, 1) := by decide +kernel
theorem dM_isGone_1 : decode cM_isGone 1 = .ok (.getfield 29, 3) := by decide +kernel
theorem dM_isGone_4 : decode cM_isGone 4 = .ok (.aload_n 0, 1) := by decide +kernel
theorem dM_isGone_5 : decode cM_isGone 5 = .ok (.getfield 44, 3) := by decide +kernel
theorem dM_isGone_8 : decode cM_isGone 8 = .ok (.iload_n 1, 1) := by decide +kernel
theorem dM_isGone_9 : decode cM_isGone 9 = .ok (.iaload, 1) := by decide +kernel
theorem dM_isGone_10 : decode cM_isGone 10 = .ok (.baload, 1) := by decide +kernel
theorem dM_isGone_11 : decode cM_isGone 11 = .ok (.ireturn, 1) := by decide +kernel
theorem dM_aimOf_0 : decode cM_aimOf 0 = .ok (.aload_n 0, 1) := by decide +kernel
theorem dM_aimOf_1 : decode cM_aimOf 1 = .ok (.aload_n 0, 1) := by decide +kernel
theorem dM_aimOf_2 : decode cM_aimOf 2 = .ok (.getfield 56, 3) := by decide +kernel
theorem dM_aimOf_5 : decode cM_aimOf 5 = .ok (.iload_n 1, 1) := by decide +kernel
theorem dM_aimOf_6 : decode cM_aimOf 6 = .ok (.iaload, 1) := by decide +kernel
theorem dM_aimOf_7 : decode cM_aimOf 7 = .ok (.invokevirtual 120, 3) := by decide +kernel
theorem dM_aimOf_10 : decode cM_aimOf 10 = .ok (.i2l, 1) := by decide +kernel
theorem dM_aimOf_11 : decode cM_aimOf 11 = .ok (.aload_n 0, 1) := by decide +kernel
theorem dM_aimOf_12 : decode cM_aimOf 12 = .ok (.getfield 59, 3) := by decide +kernel
theorem dM_aimOf_15 : decode cM_aimOf 15 = .ok (.iload_n 1, 1) := by decide +kernel
theorem dM_aimOf_16 : decode cM_aimOf 16 = .ok (.iaload, 1) := by decide +kernel
theorem dM_aimOf_17 : decode cM_aimOf 17 = .ok (.i2l, 1) := by decide +kernel
theorem dM_aimOf_18 : decode cM_aimOf 18 = .ok (.ladd, 1) := by decide +kernel
theorem dM_aimOf_19 : decode cM_aimOf 19 = .ok (.lreturn, 1) := by decide +kernel
theorem dM_valueOf_0 : decode cM_valueOf 0 = .ok (.aload_n 0, 1) := by decide +kernel
theorem dM_valueOf_1 : decode cM_valueOf 1 = .ok (.getfield 77, 3) := by decide +kernel
theorem dM_valueOf_4 : decode cM_valueOf 4 = .ok (.iload_n 1, 1) := by decide +kernel
theorem dM_valueOf_5 : decode cM_valueOf 5 = .ok (.iaload, 1) := by decide +kernel
theorem dM_valueOf_6 : decode cM_valueOf 6 = .ok (.istore_n 2, 1) := by decide +kernel
theorem dM_valueOf_7 : decode cM_valueOf 7 = .ok (.aload_n 0, 1) := by decide +kernel
theorem dM_valueOf_8 : decode cM_valueOf 8 = .ok (.getfield 41, 3) := by decide +kernel
theorem dM_valueOf_11 : decode cM_valueOf 11 = .ok (.iload_n 2, 1) := by decide +kernel
theorem dM_valueOf_12 : decode cM_valueOf 12 = .ok (.iaload, 1) := by decide +kernel
theorem dM_valueOf_13 : decode cM_valueOf 13 = .ok (.ifCond .eq (12), 3) := by decide +kernel
theorem dM_valueOf_16 : decode cM_valueOf 16 = .ok (.aload_n 0, 1) := by decide +kernel
theorem dM_valueOf_17 : decode cM_valueOf 17 = .ok (.getfield 80, 3) := by decide +kernel
theorem dM_valueOf_20 : decode cM_valueOf 20 = .ok (.iload_n 1, 1) := by decide +kernel
theorem dM_valueOf_21 : decode cM_valueOf 21 = .ok (.iaload, 1) := by decide +kernel
theorem dM_valueOf_22 : decode cM_valueOf 22 = .ok (.ifCond .ne (19), 3) := by decide +kernel
theorem dM_valueOf_25 : decode cM_valueOf 25 = .ok (.aload_n 0, 1) := by decide +kernel
theorem dM_valueOf_26 : decode cM_valueOf 26 = .ok (.getfield 68, 3) := by decide +kernel
theorem dM_valueOf_29 : decode cM_valueOf 29 = .ok (.iload_n 2, 1) := by decide +kernel
theorem dM_valueOf_30 : decode cM_valueOf 30 = .ok (.iaload, 1) := by decide +kernel
theorem dM_valueOf_31 : decode cM_valueOf 31 = .ok (.aload_n 0, 1) := by decide +kernel
theorem dM_valueOf_32 : decode cM_valueOf 32 = .ok (.getfield 80, 3) := by decide +kernel
theorem dM_valueOf_35 : decode cM_valueOf 35 = .ok (.iload_n 1, 1) := by decide +kernel
theorem dM_valueOf_36 : decode cM_valueOf 36 = .ok (.iaload, 1) := by decide +kernel
theorem dM_valueOf_37 : decode cM_valueOf 37 = .ok (.iadd, 1) := by decide +kernel
theorem dM_valueOf_38 : decode cM_valueOf 38 = .ok (.goto (16), 3) := by decide +kernel
theorem dM_valueOf_41 : decode cM_valueOf 41 = .ok (.aload_n 0, 1) := by decide +kernel
theorem dM_valueOf_42 : decode cM_valueOf 42 = .ok (.getfield 68, 3) := by decide +kernel
theorem dM_valueOf_45 : decode cM_valueOf 45 = .ok (.iload_n 2, 1) := by decide +kernel
theorem dM_valueOf_46 : decode cM_valueOf 46 = .ok (.iaload, 1) := by decide +kernel
theorem dM_valueOf_47 : decode cM_valueOf 47 = .ok (.aload_n 0, 1) := by decide +kernel
theorem dM_valueOf_48 : decode cM_valueOf 48 = .ok (.getfield 47, 3) := by decide +kernel
theorem dM_valueOf_51 : decode cM_valueOf 51 = .ok (.iload_n 2, 1) := by decide +kernel
theorem dM_valueOf_52 : decode cM_valueOf 52 = .ok (.iaload, 1) := by decide +kernel
theorem dM_valueOf_53 : decode cM_valueOf 53 = .ok (.iadd, 1) := by decide +kernel
theorem dM_valueOf_54 : decode cM_valueOf 54 = .ok (.ireturn, 1) := by decide +kernel
theorem dM_isNear_0 : decode cM_isNear 0 = .ok (.lload_n 0, 1) := by decide +kernel
theorem dM_isNear_1 : decode cM_isNear 1 = .ok (.ldc2_w 124, 3) := by decide +kernel
theorem dM_isNear_4 : decode cM_isNear 4 = .ok (.lcmp, 1) := by decide +kernel
theorem dM_isNear_5 : decode cM_isNear 5 = .ok (.ifCond .lt (15), 3) := by decide +kernel
theorem dM_isNear_8 : decode cM_isNear 8 = .ok (.lload_n 0, 1) := by decide +kernel
theorem dM_isNear_9 : decode cM_isNear 9 = .ok (.ldc2_w 126, 3) := by decide +kernel
theorem dM_isNear_12 : decode cM_isNear 12 = .ok (.lcmp, 1) := by decide +kernel
theorem dM_isNear_13 : decode cM_isNear 13 = .ok (.ifCond .gt (7), 3) := by decide +kernel
theorem dM_isNear_16 : decode cM_isNear 16 = .ok (.iconst 1, 1) := by decide +kernel
theorem dM_isNear_17 : decode cM_isNear 17 = .ok (.goto (4), 3) := by decide +kernel
theorem dM_isNear_20 : decode cM_isNear 20 = .ok (.iconst 0, 1) := by decide +kernel
theorem dM_isNear_21 : decode cM_isNear 21 = .ok (.ireturn, 1) := by decide +kernel
theorem dM_shrink_0 : decode cM_shrink 0 = .ok (.iconst 1, 1) := by decide +kernel
theorem dM_shrink_1 : decode cM_shrink 1 = .ok (.istore_n 1, 1) := by decide +kernel
theorem dM_shrink_2 : decode cM_shrink 2 = .ok (.aload_n 0, 1) := by decide +kernel
theorem dM_shrink_3 : decode cM_shrink 3 = .ok (.invokevirtual 176, 3) := by decide +kernel
theorem dM_shrink_6 : decode cM_shrink 6 = .ok (.ifCond .le (9), 3) := by decide +kernel
theorem dM_shrink_9 : decode cM_shrink 9 = .ok (.iinc 1 (1), 3) := by decide +kernel
theorem dM_shrink_12 : decode cM_shrink 12 = .ok (.goto (-10), 3) := by decide +kernel
theorem dM_shrink_15 : decode cM_shrink 15 = .ok (.iload_n 1, 1) := by decide +kernel
theorem dM_shrink_16 : decode cM_shrink 16 = .ok (.ireturn, 1) := by decide +kernel
theorem dM_settle_0 : decode cM_settle 0 = .ok (.iconst 0, 1) := by decide +kernel
theorem dM_settle_1 : decode cM_settle 1 = .ok (.istore_n 1, 1) := by decide +kernel
theorem dM_settle_2 : decode cM_settle 2 = .ok (.iconst 1, 1) := by decide +kernel
theorem dM_settle_3 : decode cM_settle 3 = .ok (.istore_n 2, 1) := by decide +kernel
theorem dM_settle_4 : decode cM_settle 4 = .ok (.aload_n 0, 1) := by decide +kernel
theorem dM_settle_5 : decode cM_settle 5 = .ok (.invokevirtual 180, 3) := by decide +kernel
theorem dM_settle_8 : decode cM_settle 8 = .ok (.istore_n 3, 1) := by decide +kernel
theorem dM_settle_9 : decode cM_settle 9 = .ok (.iload_n 2, 1) := by decide +kernel
theorem dM_settle_10 : decode cM_settle 10 = .ok (.ifCond .le (127), 3) := by decide +kernel
theorem dM_settle_13 : decode cM_settle 13 = .ok (.aload_n 0, 1) := by decide +kernel
theorem dM_settle_14 : decode cM_settle 14 = .ok (.invokevirtual 170, 3) := by decide +kernel
theorem dM_settle_17 : decode cM_settle 17 = .ok (.iconst 0, 1) := by decide +kernel
theorem dM_settle_18 : decode cM_settle 18 = .ok (.istore_n 2, 1) := by decide +kernel
theorem dM_settle_19 : decode cM_settle 19 = .ok (.iconst 0, 1) := by decide +kernel
theorem dM_settle_20 : decode cM_settle 20 = .ok (.istore 4, 2) := by decide +kernel
theorem dM_settle_22 : decode cM_settle 22 = .ok (.iload 4, 2) := by decide +kernel
theorem dM_settle_24 : decode cM_settle 24 = .ok (.aload_n 0, 1) := by decide +kernel
theorem dM_settle_25 : decode cM_settle 25 = .ok (.getfield 91, 3) := by decide +kernel
theorem dM_settle_28 : decode cM_settle 28 = .ok (.if_icmp .ge (30), 3) := by decide +kernel
theorem dM_settle_31 : decode cM_settle 31 = .ok (.aload_n 0, 1) := by decide +kernel
theorem dM_settle_32 : decode cM_settle 32 = .ok (.getfield 74, 3) := by decide +kernel
theorem dM_settle_35 : decode cM_settle 35 = .ok (.iload 4, 2) := by decide +kernel
theorem dM_settle_37 : decode cM_settle 37 = .ok (.aload_n 0, 1) := by decide +kernel
theorem dM_settle_38 : decode cM_settle 38 = .ok (.iload 4, 2) := by decide +kernel
theorem dM_settle_40 : decode cM_settle 40 = .ok (.invokevirtual 183, 3) := by decide +kernel
theorem dM_settle_43 : decode cM_settle 43 = .ok (.ifCond .eq (7), 3) := by decide +kernel
theorem dM_settle_46 : decode cM_settle 46 = .ok (.iconst 1, 1) := by decide +kernel
theorem dM_settle_47 : decode cM_settle 47 = .ok (.goto (4), 3) := by decide +kernel
theorem dM_settle_50 : decode cM_settle 50 = .ok (.iconst 0, 1) := by decide +kernel
theorem dM_settle_51 : decode cM_settle 51 = .ok (.iastore, 1) := by decide +kernel
theorem dM_settle_52 : decode cM_settle 52 = .ok (.iinc 4 (1), 3) := by decide +kernel
theorem dM_settle_55 : decode cM_settle 55 = .ok (.goto (-33), 3) := by decide +kernel
theorem dM_settle_58 : decode cM_settle 58 = .ok (.iconst 0, 1) := by decide +kernel
theorem dM_settle_59 : decode cM_settle 59 = .ok (.istore 4, 2) := by decide +kernel
theorem dM_settle_61 : decode cM_settle 61 = .ok (.iload 4, 2) := by decide +kernel
theorem dM_settle_63 : decode cM_settle 63 = .ok (.aload_n 0, 1) := by decide +kernel
theorem dM_settle_64 : decode cM_settle 64 = .ok (.getfield 91, 3) := by decide +kernel
theorem dM_settle_67 : decode cM_settle 67 = .ok (.if_icmp .ge (50), 3) := by decide +kernel
theorem dM_settle_70 : decode cM_settle 70 = .ok (.aload_n 0, 1) := by decide +kernel
theorem dM_settle_71 : decode cM_settle 71 = .ok (.getfield 74, 3) := by decide +kernel
theorem dM_settle_74 : decode cM_settle 74 = .ok (.iload 4, 2) := by decide +kernel
theorem dM_settle_76 : decode cM_settle 76 = .ok (.iaload, 1) := by decide +kernel
theorem dM_settle_77 : decode cM_settle 77 = .ok (.ifCond .ne (6), 3) := by decide +kernel
theorem dM_settle_80 : decode cM_settle 80 = .ok (.goto (31), 3) := by decide +kernel
theorem dM_settle_83 : decode cM_settle 83 = .ok (.aload_n 0, 1) := by decide +kernel
theorem dM_settle_84 : decode cM_settle 84 = .ok (.getfield 47, 3) := by decide +kernel
theorem dM_settle_87 : decode cM_settle 87 = .ok (.iload 4, 2) := by decide +kernel
theorem dM_settle_89 : decode cM_settle 89 = .ok (.aload_n 0, 1) := by decide +kernel
theorem dM_settle_90 : decode cM_settle 90 = .ok (.getfield 41, 3) := by decide +kernel
theorem dM_settle_93 : decode cM_settle 93 = .ok (.iload 4, 2) := by decide +kernel
theorem dM_settle_95 : decode cM_settle 95 = .ok (.iaload, 1) := by decide +kernel
theorem dM_settle_96 : decode cM_settle 96 = .ok (.invokestatic 131, 3) := by decide +kernel
theorem dM_settle_99 : decode cM_settle 99 = .ok (.iastore, 1) := by decide +kernel
theorem dM_settle_100 : decode cM_settle 100 = .ok (.aload_n 0, 1) := by decide +kernel
theorem dM_settle_101 : decode cM_settle 101 = .ok (.getfield 65, 3) := by decide +kernel
theorem dM_settle_104 : decode cM_settle 104 = .ok (.iload 4, 2) := by decide +kernel
theorem dM_settle_106 : decode cM_settle 106 = .ok (.iconst 1, 1) := by decide +kernel
theorem dM_settle_107 : decode cM_settle 107 = .ok (.bastore, 1) := by decide +kernel
theorem dM_settle_108 : decode cM_settle 108 = .ok (.iinc 2 (1), 3) := by decide +kernel
theorem dM_settle_111 : decode cM_settle 111 = .ok (.iinc 4 (1), 3) := by decide +kernel
theorem dM_settle_114 : decode cM_settle 114 = .ok (.goto (-53), 3) := by decide +kernel
theorem dM_settle_117 : decode cM_settle 117 = .ok (.iload_n 1, 1) := by decide +kernel
theorem dM_settle_118 : decode cM_settle 118 = .ok (.iload_n 2, 1) := by decide +kernel
theorem dM_settle_119 : decode cM_settle 119 = .ok (.iadd, 1) := by decide +kernel
theorem dM_settle_120 : decode cM_settle 120 = .ok (.istore_n 1, 1) := by decide +kernel
theorem dM_settle_121 : decode cM_settle 121 = .ok (.iload_n 2, 1) := by decide +kernel
theorem dM_settle_122 : decode cM_settle 122 = .ok (.ifCond .le (10), 3) := by decide +kernel
theorem dM_settle_125 : decode cM_settle 125 = .ok (.aload_n 0, 1) := by decide +kernel
theorem dM_settle_126 : decode cM_settle 126 = .ok (.invokevirtual 180, 3) := by decide +kernel
theorem dM_settle_129 : decode cM_settle 129 = .ok (.goto (4), 3) := by decide +kernel
theorem dM_settle_132 : decode cM_settle 132 = .ok (.iload_n 3, 1) := by decide +kernel
theorem dM_settle_133 : decode cM_settle 133 = .ok (.istore_n 3, 1) := by decide +kernel
theorem dM_settle_134 : decode cM_settle 134 = .ok (.goto (-125), 3) := by decide +kernel
theorem dM_settle_137 : decode cM_settle 137 = .ok (.iload_n 1, 1) := by decide +kernel
theorem dM_settle_138 : decode cM_settle 138 = .ok (.ireturn, 1) := by decide +kernel
theorem dM_isTight_0 : decode cM_isTight 0 = .ok (.aload_n 0, 1) := by decide +kernel
theorem dM_isTight_1 : decode cM_isTight 1 = .ok (.iload_n 1, 1) := by decide +kernel
theorem dM_isTight_2 : decode cM_isTight 2 = .ok (.invokevirtual 114, 3) := by decide +kernel
theorem dM_isTight_5 : decode cM_isTight 5 = .ok (.ifCond .eq (29), 3) := by decide +kernel
theorem dM_isTight_8 : decode cM_isTight 8 = .ok (.aload_n 0, 1) := by decide +kernel
theorem dM_isTight_9 : decode cM_isTight 9 = .ok (.iload_n 1, 1) := by decide +kernel
theorem dM_isTight_10 : decode cM_isTight 10 = .ok (.invokevirtual 111, 3) := by decide +kernel
theorem dM_isTight_13 : decode cM_isTight 13 = .ok (.ifCond .ne (21), 3) := by decide +kernel
theorem dM_isTight_16 : decode cM_isTight 16 = .ok (.aload_n 0, 1) := by decide +kernel
theorem dM_isTight_17 : decode cM_isTight 17 = .ok (.getfield 47, 3) := by decide +kernel
theorem dM_isTight_20 : decode cM_isTight 20 = .ok (.iload_n 1, 1) := by decide +kernel
theorem dM_isTight_21 : decode cM_isTight 21 = .ok (.iaload, 1) := by decide +kernel
theorem dM_isTight_22 : decode cM_isTight 22 = .ok (.aload_n 0, 1) := by decide +kernel
theorem dM_isTight_23 : decode cM_isTight 23 = .ok (.iload_n 1, 1) := by decide +kernel
theorem dM_isTight_24 : decode cM_isTight 24 = .ok (.invokevirtual 173, 3) := by decide +kernel
theorem dM_isTight_27 : decode cM_isTight 27 = .ok (.if_icmp .ge (7), 3) := by decide +kernel
theorem dM_isTight_30 : decode cM_isTight 30 = .ok (.iconst 1, 1) := by decide +kernel
theorem dM_isTight_31 : decode cM_isTight 31 = .ok (.goto (4), 3) := by decide +kernel
theorem dM_isTight_34 : decode cM_isTight 34 = .ok (.iconst 0, 1) := by decide +kernel
theorem dM_isTight_35 : decode cM_isTight 35 = .ok (.ireturn, 1) := by decide +kernel
theorem dM_reset_0 : decode cM_reset 0 = .ok (.iconst 0, 1) := by decide +kernel
theorem dM_reset_1 : decode cM_reset 1 = .ok (.istore_n 1, 1) := by decide +kernel
theorem dM_reset_2 : decode cM_reset 2 = .ok (.iload_n 1, 1) := by decide +kernel
theorem dM_reset_3 : decode cM_reset 3 = .ok (.aload_n 0, 1) := by decide +kernel
theorem dM_reset_4 : decode cM_reset 4 = .ok (.getfield 91, 3) := by decide +kernel
theorem dM_reset_7 : decode cM_reset 7 = .ok (.if_icmp .ge (42), 3) := by decide +kernel
theorem dM_reset_10 : decode cM_reset 10 = .ok (.aload_n 0, 1) := by decide +kernel
theorem dM_reset_11 : decode cM_reset 11 = .ok (.iload_n 1, 1) := by decide +kernel
theorem dM_reset_12 : decode cM_reset 12 = .ok (.invokevirtual 114, 3) := by decide +kernel
theorem dM_reset_15 : decode cM_reset 15 = .ok (.ifCond .ne (6), 3) := by decide +kernel
theorem dM_reset_18 : decode cM_reset 18 = .ok (.goto (25), 3) := by decide +kernel
theorem dM_reset_21 : decode cM_reset 21 = .ok (.aload_n 0, 1) := by decide +kernel
theorem dM_reset_22 : decode cM_reset 22 = .ok (.getfield 47, 3) := by decide +kernel
theorem dM_reset_25 : decode cM_reset 25 = .ok (.iload_n 1, 1) := by decide +kernel
theorem dM_reset_26 : decode cM_reset 26 = .ok (.aload_n 0, 1) := by decide +kernel
theorem dM_reset_27 : decode cM_reset 27 = .ok (.getfield 41, 3) := by decide +kernel
theorem dM_reset_30 : decode cM_reset 30 = .ok (.iload_n 1, 1) := by decide +kernel
theorem dM_reset_31 : decode cM_reset 31 = .ok (.iaload, 1) := by decide +kernel
theorem dM_reset_32 : decode cM_reset 32 = .ok (.invokestatic 131, 3) := by decide +kernel
theorem dM_reset_35 : decode cM_reset 35 = .ok (.iastore, 1) := by decide +kernel
theorem dM_reset_36 : decode cM_reset 36 = .ok (.aload_n 0, 1) := by decide +kernel
theorem dM_reset_37 : decode cM_reset 37 = .ok (.getfield 65, 3) := by decide +kernel
theorem dM_reset_40 : decode cM_reset 40 = .ok (.iload_n 1, 1) := by decide +kernel
theorem dM_reset_41 : decode cM_reset 41 = .ok (.iconst 0, 1) := by decide +kernel
theorem dM_reset_42 : decode cM_reset 42 = .ok (.bastore, 1) := by decide +kernel
theorem dM_reset_43 : decode cM_reset 43 = .ok (.iinc 1 (1), 3) := by decide +kernel
theorem dM_reset_46 : decode cM_reset 46 = .ok (.goto (-44), 3) := by decide +kernel
theorem dM_reset_49 : decode cM_reset 49 = .ok (.return_, 1) := by decide +kernel
theorem dM_holds_0 : decode cM_holds 0 = .ok (.aload_n 0, 1) := by decide +kernel
theorem dM_holds_1 : decode cM_holds 1 = .ok (.invokevirtual 170, 3) := by decide +kernel
theorem dM_holds_4 : decode cM_holds 4 = .ok (.iconst 0, 1) := by decide +kernel
theorem dM_holds_5 : decode cM_holds 5 = .ok (.istore_n 1, 1) := by decide +kernel
theorem dM_holds_6 : decode cM_holds 6 = .ok (.iload_n 1, 1) := by decide +kernel
theorem dM_holds_7 : decode cM_holds 7 = .ok (.aload_n 0, 1) := by decide +kernel
theorem dM_holds_8 : decode cM_holds 8 = .ok (.getfield 91, 3) := by decide +kernel
theorem dM_holds_11 : decode cM_holds 11 = .ok (.if_icmp .ge (19), 3) := by decide +kernel
theorem dM_holds_14 : decode cM_holds 14 = .ok (.aload_n 0, 1) := by decide +kernel
theorem dM_holds_15 : decode cM_holds 15 = .ok (.iload_n 1, 1) := by decide +kernel
theorem dM_holds_16 : decode cM_holds 16 = .ok (.invokevirtual 183, 3) := by decide +kernel
theorem dM_holds_19 : decode cM_holds 19 = .ok (.ifCond .eq (5), 3) := by decide +kernel
theorem dM_holds_22 : decode cM_holds 22 = .ok (.iload_n 1, 1) := by decide +kernel
theorem dM_holds_23 : decode cM_holds 23 = .ok (.ireturn, 1) := by decide +kernel
theorem dM_holds_24 : decode cM_holds 24 = .ok (.iinc 1 (1), 3) := by decide +kernel
theorem dM_holds_27 : decode cM_holds 27 = .ok (.goto (-21), 3) := by decide +kernel
theorem dM_holds_30 : decode cM_holds 30 = .ok (.iconst (-1), 1) := by decide +kernel
theorem dM_holds_31 : decode cM_holds 31 = .ok (.ireturn, 1) := by decide +kernel
theorem dM_lacks_0 : decode cM_lacks 0 = .ok (.aload_n 0, 1) := by decide +kernel
theorem dM_lacks_1 : decode cM_lacks 1 = .ok (.invokevirtual 170, 3) := by decide +kernel
theorem dM_lacks_4 : decode cM_lacks 4 = .ok (.iconst 0, 1) := by decide +kernel
theorem dM_lacks_5 : decode cM_lacks 5 = .ok (.istore_n 1, 1) := by decide +kernel
theorem dM_lacks_6 : decode cM_lacks 6 = .ok (.iload_n 1, 1) := by decide +kernel
theorem dM_lacks_7 : decode cM_lacks 7 = .ok (.aload_n 0, 1) := by decide +kernel
theorem dM_lacks_8 : decode cM_lacks 8 = .ok (.getfield 91, 3) := by decide +kernel
theorem dM_lacks_11 : decode cM_lacks 11 = .ok (.if_icmp .ge (44), 3) := by decide +kernel
theorem dM_lacks_14 : decode cM_lacks 14 = .ok (.aload_n 0, 1) := by decide +kernel
theorem dM_lacks_15 : decode cM_lacks 15 = .ok (.getfield 41, 3) := by decide +kernel
theorem dM_lacks_18 : decode cM_lacks 18 = .ok (.iload_n 1, 1) := by decide +kernel
theorem dM_lacks_19 : decode cM_lacks 19 = .ok (.iaload, 1) := by decide +kernel
theorem dM_lacks_20 : decode cM_lacks 20 = .ok (.iconst 4, 1) := by decide +kernel
theorem dM_lacks_21 : decode cM_lacks 21 = .ok (.if_icmp .ne (28), 3) := by decide +kernel
theorem dM_lacks_24 : decode cM_lacks 24 = .ok (.aload_n 0, 1) := by decide +kernel
theorem dM_lacks_25 : decode cM_lacks 25 = .ok (.iload_n 1, 1) := by decide +kernel
theorem dM_lacks_26 : decode cM_lacks 26 = .ok (.invokevirtual 111, 3) := by decide +kernel
theorem dM_lacks_29 : decode cM_lacks 29 = .ok (.ifCond .ne (20), 3) := by decide +kernel
theorem dM_lacks_32 : decode cM_lacks 32 = .ok (.aload_n 0, 1) := by decide +kernel
theorem dM_lacks_33 : decode cM_lacks 33 = .ok (.getfield 71, 3) := by decide +kernel
theorem dM_lacks_36 : decode cM_lacks 36 = .ok (.iload_n 1, 1) := by decide +kernel
theorem dM_lacks_37 : decode cM_lacks 37 = .ok (.iaload, 1) := by decide +kernel
theorem dM_lacks_38 : decode cM_lacks 38 = .ok (.aload_n 0, 1) := by decide +kernel
theorem dM_lacks_39 : decode cM_lacks 39 = .ok (.getfield 50, 3) := by decide +kernel
theorem dM_lacks_42 : decode cM_lacks 42 = .ok (.iload_n 1, 1) := by decide +kernel
theorem dM_lacks_43 : decode cM_lacks 43 = .ok (.iaload, 1) := by decide +kernel
theorem dM_lacks_44 : decode cM_lacks 44 = .ok (.if_icmp .le (5), 3) := by decide +kernel
theorem dM_lacks_47 : decode cM_lacks 47 = .ok (.iload_n 1, 1) := by decide +kernel
theorem dM_lacks_48 : decode cM_lacks 48 = .ok (.ireturn, 1) := by decide +kernel
theorem dM_lacks_49 : decode cM_lacks 49 = .ok (.iinc 1 (1), 3) := by decide +kernel
theorem dM_lacks_52 : decode cM_lacks 52 = .ok (.goto (-46), 3) := by decide +kernel
theorem dM_lacks_55 : decode cM_lacks 55 = .ok (.iconst (-1), 1) := by decide +kernel
theorem dM_lacks_56 : decode cM_lacks 56 = .ok (.ireturn, 1) := by decide +kernel
theorem dM_piece_0 : decode cM_piece 0 = .ok (.aload_n 0, 1) := by decide +kernel
theorem dM_piece_1 : decode cM_piece 1 = .ok (.iload_n 1, 1) := by decide +kernel
theorem dM_piece_2 : decode cM_piece 2 = .ok (.invokevirtual 166, 3) := by decide +kernel
theorem dM_piece_5 : decode cM_piece 5 = .ok (.ifCond .ne (5), 3) := by decide +kernel
theorem dM_piece_8 : decode cM_piece 8 = .ok (.iconst (-1), 1) := by decide +kernel
theorem dM_piece_9 : decode cM_piece 9 = .ok (.ireturn, 1) := by decide +kernel
theorem dM_piece_10 : decode cM_piece 10 = .ok (.aload_n 0, 1) := by decide +kernel
theorem dM_piece_11 : decode cM_piece 11 = .ok (.invokevirtual 170, 3) := by decide +kernel
theorem dM_piece_14 : decode cM_piece 14 = .ok (.aload_n 0, 1) := by decide +kernel
theorem dM_piece_15 : decode cM_piece 15 = .ok (.iload_n 1, 1) := by decide +kernel
theorem dM_piece_16 : decode cM_piece 16 = .ok (.invokevirtual 111, 3) := by decide +kernel
theorem dM_piece_19 : decode cM_piece 19 = .ok (.istore_n 3, 1) := by decide +kernel
theorem dM_piece_20 : decode cM_piece 20 = .ok (.iload_n 2, 1) := by decide +kernel
theorem dM_piece_21 : decode cM_piece 21 = .ok (.tableswitch (112) (0) (5) #[39, 46, 53, 68, 83, 97], 39) := by decide +kernel
theorem dM_piece_60 : decode cM_piece 60 = .ok (.aload_n 0, 1) := by decide +kernel
theorem dM_piece_61 : decode cM_piece 61 = .ok (.getfield 41, 3) := by decide +kernel
theorem dM_piece_64 : decode cM_piece 64 = .ok (.iload_n 1, 1) := by decide +kernel
theorem dM_piece_65 : decode cM_piece 65 = .ok (.iaload, 1) := by decide +kernel
theorem dM_piece_66 : decode cM_piece 66 = .ok (.ireturn, 1) := by decide +kernel
theorem dM_piece_67 : decode cM_piece 67 = .ok (.aload_n 0, 1) := by decide +kernel
theorem dM_piece_68 : decode cM_piece 68 = .ok (.getfield 44, 3) := by decide +kernel
theorem dM_piece_71 : decode cM_piece 71 = .ok (.iload_n 1, 1) := by decide +kernel
theorem dM_piece_72 : decode cM_piece 72 = .ok (.iaload, 1) := by decide +kernel
theorem dM_piece_73 : decode cM_piece 73 = .ok (.ireturn, 1) := by decide +kernel
theorem dM_piece_74 : decode cM_piece 74 = .ok (.iload_n 3, 1) := by decide +kernel
theorem dM_piece_75 : decode cM_piece 75 = .ok (.ifCond .eq (7), 3) := by decide +kernel
theorem dM_piece_78 : decode cM_piece 78 = .ok (.iconst (-1), 1) := by decide +kernel
theorem dM_piece_79 : decode cM_piece 79 = .ok (.goto (9), 3) := by decide +kernel
theorem dM_piece_82 : decode cM_piece 82 = .ok (.aload_n 0, 1) := by decide +kernel
theorem dM_piece_83 : decode cM_piece 83 = .ok (.getfield 47, 3) := by decide +kernel
theorem dM_piece_86 : decode cM_piece 86 = .ok (.iload_n 1, 1) := by decide +kernel
theorem dM_piece_87 : decode cM_piece 87 = .ok (.iaload, 1) := by decide +kernel
theorem dM_piece_88 : decode cM_piece 88 = .ok (.ireturn, 1) := by decide +kernel
theorem dM_piece_89 : decode cM_piece 89 = .ok (.iload_n 3, 1) := by decide +kernel
theorem dM_piece_90 : decode cM_piece 90 = .ok (.ifCond .eq (7), 3) := by decide +kernel
theorem dM_piece_93 : decode cM_piece 93 = .ok (.iconst (-1), 1) := by decide +kernel
theorem dM_piece_94 : decode cM_piece 94 = .ok (.goto (9), 3) := by decide +kernel
theorem dM_piece_97 : decode cM_piece 97 = .ok (.aload_n 0, 1) := by decide +kernel
theorem dM_piece_98 : decode cM_piece 98 = .ok (.getfield 68, 3) := by decide +kernel
theorem dM_piece_101 : decode cM_piece 101 = .ok (.iload_n 1, 1) := by decide +kernel
theorem dM_piece_102 : decode cM_piece 102 = .ok (.iaload, 1) := by decide +kernel
theorem dM_piece_103 : decode cM_piece 103 = .ok (.ireturn, 1) := by decide +kernel
theorem dM_piece_104 : decode cM_piece 104 = .ok (.iload_n 3, 1) := by decide +kernel
theorem dM_piece_105 : decode cM_piece 105 = .ok (.ifCond .eq (7), 3) := by decide +kernel
theorem dM_piece_108 : decode cM_piece 108 = .ok (.iconst (-1), 1) := by decide +kernel
theorem dM_piece_109 : decode cM_piece 109 = .ok (.goto (8), 3) := by decide +kernel
theorem dM_piece_112 : decode cM_piece 112 = .ok (.aload_n 0, 1) := by decide +kernel
theorem dM_piece_113 : decode cM_piece 113 = .ok (.iload_n 1, 1) := by decide +kernel
theorem dM_piece_114 : decode cM_piece 114 = .ok (.invokevirtual 173, 3) := by decide +kernel
theorem dM_piece_117 : decode cM_piece 117 = .ok (.ireturn, 1) := by decide +kernel
theorem dM_piece_118 : decode cM_piece 118 = .ok (.aload_n 0, 1) := by decide +kernel
theorem dM_piece_119 : decode cM_piece 119 = .ok (.getfield 65, 3) := by decide +kernel
theorem dM_piece_122 : decode cM_piece 122 = .ok (.iload_n 1, 1) := by decide +kernel
theorem dM_piece_123 : decode cM_piece 123 = .ok (.baload, 1) := by decide +kernel
theorem dM_piece_124 : decode cM_piece 124 = .ok (.ifCond .eq (7), 3) := by decide +kernel
theorem dM_piece_127 : decode cM_piece 127 = .ok (.iconst 1, 1) := by decide +kernel
theorem dM_piece_128 : decode cM_piece 128 = .ok (.goto (4), 3) := by decide +kernel
theorem dM_piece_131 : decode cM_piece 131 = .ok (.iconst 0, 1) := by decide +kernel
theorem dM_piece_132 : decode cM_piece 132 = .ok (.ireturn, 1) := by decide +kernel
theorem dM_piece_133 : decode cM_piece 133 = .ok (.iconst (-1), 1) := by decide +kernel
theorem dM_piece_134 : decode cM_piece 134 = .ok (.ireturn, 1) := by decide +kernel
theorem dM_aim_0 : decode cM_aim 0 = .ok (.aload_n 0, 1) := by decide +kernel
theorem dM_aim_1 : decode cM_aim 1 = .ok (.invokevirtual 170, 3) := by decide +kernel
theorem dM_aim_4 : decode cM_aim 4 = .ok (.aload_n 0, 1) := by decide +kernel
theorem dM_aim_5 : decode cM_aim 5 = .ok (.iload_n 1, 1) := by decide +kernel
theorem dM_aim_6 : decode cM_aim 6 = .ok (.invokevirtual 166, 3) := by decide +kernel
theorem dM_aim_9 : decode cM_aim 9 = .ok (.ifCond .eq (19), 3) := by decide +kernel
theorem dM_aim_12 : decode cM_aim 12 = .ok (.aload_n 0, 1) := by decide +kernel
theorem dM_aim_13 : decode cM_aim 13 = .ok (.iload_n 1, 1) := by decide +kernel
theorem dM_aim_14 : decode cM_aim 14 = .ok (.invokevirtual 128, 3) := by decide +kernel
theorem dM_aim_17 : decode cM_aim 17 = .ok (.ifCond .eq (11), 3) := by decide +kernel
theorem dM_aim_20 : decode cM_aim 20 = .ok (.aload_n 0, 1) := by decide +kernel
theorem dM_aim_21 : decode cM_aim 21 = .ok (.iload_n 1, 1) := by decide +kernel
theorem dM_aim_22 : decode cM_aim 22 = .ok (.invokevirtual 134, 3) := by decide +kernel
theorem dM_aim_25 : decode cM_aim 25 = .ok (.goto (6), 3) := by decide +kernel
theorem dM_aim_28 : decode cM_aim 28 = .ok (.ldc2_w 186, 3) := by decide +kernel
theorem dM_aim_31 : decode cM_aim 31 = .ok (.lreturn, 1) := by decide +kernel
theorem dM_value_0 : decode cM_value 0 = .ok (.aload_n 0, 1) := by decide +kernel
theorem dM_value_1 : decode cM_value 1 = .ok (.invokevirtual 170, 3) := by decide +kernel
theorem dM_value_4 : decode cM_value 4 = .ok (.aload_n 0, 1) := by decide +kernel
theorem dM_value_5 : decode cM_value 5 = .ok (.iload_n 1, 1) := by decide +kernel
theorem dM_value_6 : decode cM_value 6 = .ok (.invokevirtual 117, 3) := by decide +kernel
theorem dM_value_9 : decode cM_value 9 = .ok (.ifCond .eq (11), 3) := by decide +kernel
theorem dM_value_12 : decode cM_value 12 = .ok (.aload_n 0, 1) := by decide +kernel
theorem dM_value_13 : decode cM_value 13 = .ok (.iload_n 1, 1) := by decide +kernel
theorem dM_value_14 : decode cM_value 14 = .ok (.invokevirtual 120, 3) := by decide +kernel
theorem dM_value_17 : decode cM_value 17 = .ok (.goto (4), 3) := by decide +kernel
theorem dM_value_20 : decode cM_value 20 = .ok (.iconst (-1), 1) := by decide +kernel
theorem dM_value_21 : decode cM_value 21 = .ok (.ireturn, 1) := by decide +kernel
theorem dM_span_0 : decode cM_span 0 = .ok (.aload_n 0, 1) := by decide +kernel
theorem dM_span_1 : decode cM_span 1 = .ok (.iload_n 1, 1) := by decide +kernel
theorem dM_span_2 : decode cM_span 2 = .ok (.invokevirtual 154, 3) := by decide +kernel
theorem dM_span_5 : decode cM_span 5 = .ok (.ifCond .ne (5), 3) := by decide +kernel
theorem dM_span_8 : decode cM_span 8 = .ok (.iconst (-1), 1) := by decide +kernel
theorem dM_span_9 : decode cM_span 9 = .ok (.ireturn, 1) := by decide +kernel
theorem dM_span_10 : decode cM_span 10 = .ok (.aload_n 0, 1) := by decide +kernel
theorem dM_span_11 : decode cM_span 11 = .ok (.invokevirtual 170, 3) := by decide +kernel
theorem dM_span_14 : decode cM_span 14 = .ok (.iload_n 2, 1) := by decide +kernel
theorem dM_span_15 : decode cM_span 15 = .ok (.tableswitch (110) (0) (4) #[33, 40, 60, 80, 95], 33) := by decide +kernel
theorem dM_span_48 : decode cM_span 48 = .ok (.aload_n 0, 1) := by decide +kernel
theorem dM_span_49 : decode cM_span 49 = .ok (.getfield 19, 3) := by decide +kernel
theorem dM_span_52 : decode cM_span 52 = .ok (.iload_n 1, 1) := by decide +kernel
theorem dM_span_53 : decode cM_span 53 = .ok (.iaload, 1) := by decide +kernel
theorem dM_span_54 : decode cM_span 54 = .ok (.ireturn, 1) := by decide +kernel
theorem dM_span_55 : decode cM_span 55 = .ok (.aload_n 0, 1) := by decide +kernel
theorem dM_span_56 : decode cM_span 56 = .ok (.getfield 29, 3) := by decide +kernel
theorem dM_span_59 : decode cM_span 59 = .ok (.iload_n 1, 1) := by decide +kernel
theorem dM_span_60 : decode cM_span 60 = .ok (.baload, 1) := by decide +kernel
theorem dM_span_61 : decode cM_span 61 = .ok (.ifCond .eq (7), 3) := by decide +kernel
theorem dM_span_64 : decode cM_span 64 = .ok (.iconst (-1), 1) := by decide +kernel
theorem dM_span_65 : decode cM_span 65 = .ok (.goto (9), 3) := by decide +kernel
theorem dM_span_68 : decode cM_span 68 = .ok (.aload_n 0, 1) := by decide +kernel
theorem dM_span_69 : decode cM_span 69 = .ok (.getfield 35, 3) := by decide +kernel
theorem dM_span_72 : decode cM_span 72 = .ok (.iload_n 1, 1) := by decide +kernel
theorem dM_span_73 : decode cM_span 73 = .ok (.iaload, 1) := by decide +kernel
theorem dM_span_74 : decode cM_span 74 = .ok (.ireturn, 1) := by decide +kernel
theorem dM_span_75 : decode cM_span 75 = .ok (.aload_n 0, 1) := by decide +kernel
theorem dM_span_76 : decode cM_span 76 = .ok (.getfield 29, 3) := by decide +kernel
theorem dM_span_79 : decode cM_span 79 = .ok (.iload_n 1, 1) := by decide +kernel
theorem dM_span_80 : decode cM_span 80 = .ok (.baload, 1) := by decide +kernel
theorem dM_span_81 : decode cM_span 81 = .ok (.ifCond .eq (7), 3) := by decide +kernel
theorem dM_span_84 : decode cM_span 84 = .ok (.iconst (-1), 1) := by decide +kernel
theorem dM_span_85 : decode cM_span 85 = .ok (.goto (9), 3) := by decide +kernel
theorem dM_span_88 : decode cM_span 88 = .ok (.aload_n 0, 1) := by decide +kernel
theorem dM_span_89 : decode cM_span 89 = .ok (.getfield 38, 3) := by decide +kernel
theorem dM_span_92 : decode cM_span 92 = .ok (.iload_n 1, 1) := by decide +kernel
theorem dM_span_93 : decode cM_span 93 = .ok (.iaload, 1) := by decide +kernel
theorem dM_span_94 : decode cM_span 94 = .ok (.ireturn, 1) := by decide +kernel
theorem dM_span_95 : decode cM_span 95 = .ok (.aload_n 0, 1) := by decide +kernel
theorem dM_span_96 : decode cM_span 96 = .ok (.getfield 29, 3) := by decide +kernel
theorem dM_span_99 : decode cM_span 99 = .ok (.iload_n 1, 1) := by decide +kernel
theorem dM_span_100 : decode cM_span 100 = .ok (.baload, 1) := by decide +kernel
theorem dM_span_101 : decode cM_span 101 = .ok (.ifCond .eq (7), 3) := by decide +kernel
theorem dM_span_104 : decode cM_span 104 = .ok (.iconst 1, 1) := by decide +kernel
theorem dM_span_105 : decode cM_span 105 = .ok (.goto (4), 3) := by decide +kernel
theorem dM_span_108 : decode cM_span 108 = .ok (.iconst 0, 1) := by decide +kernel
theorem dM_span_109 : decode cM_span 109 = .ok (.ireturn, 1) := by decide +kernel
theorem dM_span_110 : decode cM_span 110 = .ok (.aload_n 0, 1) := by decide +kernel
theorem dM_span_111 : decode cM_span 111 = .ok (.getfield 25, 3) := by decide +kernel
theorem dM_span_114 : decode cM_span 114 = .ok (.iload_n 1, 1) := by decide +kernel
theorem dM_span_115 : decode cM_span 115 = .ok (.baload, 1) := by decide +kernel
theorem dM_span_116 : decode cM_span 116 = .ok (.ifCond .eq (7), 3) := by decide +kernel
theorem dM_span_119 : decode cM_span 119 = .ok (.iconst 1, 1) := by decide +kernel
theorem dM_span_120 : decode cM_span 120 = .ok (.goto (4), 3) := by decide +kernel
theorem dM_span_123 : decode cM_span 123 = .ok (.iconst 0, 1) := by decide +kernel
theorem dM_span_124 : decode cM_span 124 = .ok (.ireturn, 1) := by decide +kernel
theorem dM_span_125 : decode cM_span 125 = .ok (.iconst (-1), 1) := by decide +kernel
theorem dM_span_126 : decode cM_span 126 = .ok (.ireturn, 1) := by decide +kernel
theorem dM_output_0 : decode cM_output 0 = .ok (.iload_n 1, 1) := by decide +kernel
theorem dM_output_1 : decode cM_output 1 = .ok (.iconst 0, 1) := by decide +kernel
theorem dM_output_2 : decode cM_output 2 = .ok (.iconst 3, 1) := by decide +kernel
theorem dM_output_3 : decode cM_output 3 = .ok (.invokestatic 87, 3) := by decide +kernel
theorem dM_output_6 : decode cM_output 6 = .ok (.ifCond .eq (12), 3) := by decide +kernel
theorem dM_output_9 : decode cM_output 9 = .ok (.iload_n 2, 1) := by decide +kernel
theorem dM_output_10 : decode cM_output 10 = .ok (.iconst 0, 1) := by decide +kernel
theorem dM_output_11 : decode cM_output 11 = .ok (.iconst 1, 1) := by decide +kernel
theorem dM_output_12 : decode cM_output 12 = .ok (.invokestatic 87, 3) := by decide +kernel
theorem dM_output_15 : decode cM_output 15 = .ok (.ifCond .ne (5), 3) := by decide +kernel
theorem dM_output_18 : decode cM_output 18 = .ok (.iconst (-1), 1) := by decide +kernel
theorem dM_output_19 : decode cM_output 19 = .ok (.ireturn, 1) := by decide +kernel
theorem dM_output_20 : decode cM_output 20 = .ok (.aload_n 0, 1) := by decide +kernel
theorem dM_output_21 : decode cM_output 21 = .ok (.invokevirtual 170, 3) := by decide +kernel
theorem dM_output_24 : decode cM_output 24 = .ok (.iload_n 2, 1) := by decide +kernel
theorem dM_output_25 : decode cM_output 25 = .ok (.ifCond .ne (12), 3) := by decide +kernel
theorem dM_output_28 : decode cM_output 28 = .ok (.aload_n 0, 1) := by decide +kernel
theorem dM_output_29 : decode cM_output 29 = .ok (.getfield 13, 3) := by decide +kernel
theorem dM_output_32 : decode cM_output 32 = .ok (.iload_n 1, 1) := by decide +kernel
theorem dM_output_33 : decode cM_output 33 = .ok (.iaload, 1) := by decide +kernel
theorem dM_output_34 : decode cM_output 34 = .ok (.goto (9), 3) := by decide +kernel
theorem dM_output_37 : decode cM_output 37 = .ok (.aload_n 0, 1) := by decide +kernel
theorem dM_output_38 : decode cM_output 38 = .ok (.getfield 16, 3) := by decide +kernel
theorem dM_output_41 : decode cM_output 41 = .ok (.iload_n 1, 1) := by decide +kernel
theorem dM_output_42 : decode cM_output 42 = .ok (.iaload, 1) := by decide +kernel
theorem dM_output_43 : decode cM_output 43 = .ok (.ireturn, 1) := by decide +kernel
theorem dM_saved_0 : decode cM_saved 0 = .ok (.iconst 0, 1) := by decide +kernel
theorem dM_saved_1 : decode cM_saved 1 = .ok (.istore_n 1, 1) := by decide +kernel
theorem dM_saved_2 : decode cM_saved 2 = .ok (.iconst 0, 1) := by decide +kernel
theorem dM_saved_3 : decode cM_saved 3 = .ok (.istore_n 2, 1) := by decide +kernel
theorem dM_saved_4 : decode cM_saved 4 = .ok (.iload_n 2, 1) := by decide +kernel
theorem dM_saved_5 : decode cM_saved 5 = .ok (.aload_n 0, 1) := by decide +kernel
theorem dM_saved_6 : decode cM_saved 6 = .ok (.getfield 91, 3) := by decide +kernel
theorem dM_saved_9 : decode cM_saved 9 = .ok (.if_icmp .ge (48), 3) := by decide +kernel
theorem dM_saved_12 : decode cM_saved 12 = .ok (.iload_n 1, 1) := by decide +kernel
theorem dM_saved_13 : decode cM_saved 13 = .ok (.aload_n 0, 1) := by decide +kernel
theorem dM_saved_14 : decode cM_saved 14 = .ok (.iload_n 2, 1) := by decide +kernel
theorem dM_saved_15 : decode cM_saved 15 = .ok (.invokevirtual 114, 3) := by decide +kernel
theorem dM_saved_18 : decode cM_saved 18 = .ok (.ifCond .eq (30), 3) := by decide +kernel
theorem dM_saved_21 : decode cM_saved 21 = .ok (.aload_n 0, 1) := by decide +kernel
theorem dM_saved_22 : decode cM_saved 22 = .ok (.iload_n 2, 1) := by decide +kernel
theorem dM_saved_23 : decode cM_saved 23 = .ok (.invokevirtual 111, 3) := by decide +kernel
theorem dM_saved_26 : decode cM_saved 26 = .ok (.ifCond .ne (22), 3) := by decide +kernel
theorem dM_saved_29 : decode cM_saved 29 = .ok (.aload_n 0, 1) := by decide +kernel
theorem dM_saved_30 : decode cM_saved 30 = .ok (.getfield 41, 3) := by decide +kernel
theorem dM_saved_33 : decode cM_saved 33 = .ok (.iload_n 2, 1) := by decide +kernel
theorem dM_saved_34 : decode cM_saved 34 = .ok (.iaload, 1) := by decide +kernel
theorem dM_saved_35 : decode cM_saved 35 = .ok (.invokestatic 131, 3) := by decide +kernel
theorem dM_saved_38 : decode cM_saved 38 = .ok (.aload_n 0, 1) := by decide +kernel
theorem dM_saved_39 : decode cM_saved 39 = .ok (.getfield 47, 3) := by decide +kernel
theorem dM_saved_42 : decode cM_saved 42 = .ok (.iload_n 2, 1) := by decide +kernel
theorem dM_saved_43 : decode cM_saved 43 = .ok (.iaload, 1) := by decide +kernel
theorem dM_saved_44 : decode cM_saved 44 = .ok (.isub, 1) := by decide +kernel
theorem dM_saved_45 : decode cM_saved 45 = .ok (.goto (4), 3) := by decide +kernel
theorem dM_saved_48 : decode cM_saved 48 = .ok (.iconst 0, 1) := by decide +kernel
theorem dM_saved_49 : decode cM_saved 49 = .ok (.iadd, 1) := by decide +kernel
theorem dM_saved_50 : decode cM_saved 50 = .ok (.istore_n 1, 1) := by decide +kernel
theorem dM_saved_51 : decode cM_saved 51 = .ok (.iinc 2 (1), 3) := by decide +kernel
theorem dM_saved_54 : decode cM_saved 54 = .ok (.goto (-50), 3) := by decide +kernel
theorem dM_saved_57 : decode cM_saved 57 = .ok (.iload_n 1, 1) := by decide +kernel
theorem dM_saved_58 : decode cM_saved 58 = .ok (.ireturn, 1) := by decide +kernel
