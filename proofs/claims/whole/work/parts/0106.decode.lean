theorem dX12_sign_126 : decode cX12_sign 126 = .ok (.bipush 42, 2) := by decide +kernel
theorem dX12_sign_128 : decode cX12_sign 128 = .ok (.if_icmp .ne 10, 3) := by decide +kernel
theorem dX12_sign_131 : decode cX12_sign 131 = .ok (.bipush 10, 2) := by decide +kernel
theorem dX12_sign_133 : decode cX12_sign 133 = .ok (.istore 5, 2) := by decide +kernel
theorem dX12_sign_135 : decode cX12_sign 135 = .ok (.goto 13, 3) := by decide +kernel
theorem dX12_sign_138 : decode cX12_sign 138 = .ok (.iload_n 2, 1) := by decide +kernel
theorem dX12_sign_139 : decode cX12_sign 139 = .ok (.bipush 60, 2) := by decide +kernel
theorem dX12_sign_141 : decode cX12_sign 141 = .ok (.if_icmp .ne 7, 3) := by decide +kernel
theorem dX12_sign_144 : decode cX12_sign 144 = .ok (.bipush 13, 2) := by decide +kernel
theorem dX12_sign_146 : decode cX12_sign 146 = .ok (.istore 5, 2) := by decide +kernel
theorem dX12_sign_148 : decode cX12_sign 148 = .ok (.aload_n 0, 1) := by decide +kernel
theorem dX12_sign_149 : decode cX12_sign 149 = .ok (.iload 5, 2) := by decide +kernel
theorem dX12_sign_151 : decode cX12_sign 151 = .ok (.iload_n 1, 1) := by decide +kernel
theorem dX12_sign_152 : decode cX12_sign 152 = .ok (.iconst 0, 1) := by decide +kernel
theorem dX12_sign_153 : decode cX12_sign 153 = .ok (.lconst 0, 1) := by decide +kernel
theorem dX12_sign_154 : decode cX12_sign 154 = .ok (.invokevirtual 221, 3) := by decide +kernel
theorem dX12_sign_157 : decode cX12_sign 157 = .ok (.iload 4, 2) := by decide +kernel
theorem dX12_sign_159 : decode cX12_sign 159 = .ok (.ifCond .le 7, 3) := by decide +kernel
theorem dX12_sign_162 : decode cX12_sign 162 = .ok (.iconst 2, 1) := by decide +kernel
theorem dX12_sign_163 : decode cX12_sign 163 = .ok (.goto 4, 3) := by decide +kernel
theorem dX12_sign_166 : decode cX12_sign 166 = .ok (.iconst 1, 1) := by decide +kernel
theorem dX12_sign_167 : decode cX12_sign 167 = .ok (.ireturn, 1) := by decide +kernel
theorem dX12_is_0 : decode cX12_is 0 = .ok (.aload_n 0, 1) := by decide +kernel
theorem dX12_is_1 : decode cX12_is 1 = .ok (.getfield 236, 3) := by decide +kernel
theorem dX12_is_4 : decode cX12_is 4 = .ok (.ifCond .ne 20, 3) := by decide +kernel
theorem dX12_is_7 : decode cX12_is 7 = .ok (.aload_n 0, 1) := by decide +kernel
theorem dX12_is_8 : decode cX12_is 8 = .ok (.getfield 20, 3) := by decide +kernel
theorem dX12_is_11 : decode cX12_is 11 = .ok (.aload_n 0, 1) := by decide +kernel
theorem dX12_is_12 : decode cX12_is 12 = .ok (.getfield 239, 3) := by decide +kernel
theorem dX12_is_15 : decode cX12_is 15 = .ok (.iaload, 1) := by decide +kernel
theorem dX12_is_16 : decode cX12_is 16 = .ok (.iload_n 1, 1) := by decide +kernel
theorem dX12_is_17 : decode cX12_is 17 = .ok (.if_icmp .ne 7, 3) := by decide +kernel
theorem dX12_is_20 : decode cX12_is 20 = .ok (.iconst 1, 1) := by decide +kernel
theorem dX12_is_21 : decode cX12_is 21 = .ok (.goto 4, 3) := by decide +kernel
theorem dX12_is_24 : decode cX12_is 24 = .ok (.iconst 0, 1) := by decide +kernel
theorem dX12_is_25 : decode cX12_is 25 = .ok (.ireturn, 1) := by decide +kernel
theorem dX12_fail_0 : decode cX12_fail 0 = .ok (.aload_n 0, 1) := by decide +kernel
theorem dX12_fail_1 : decode cX12_fail 1 = .ok (.getfield 236, 3) := by decide +kernel
theorem dX12_fail_4 : decode cX12_fail 4 = .ok (.ifCond .le 4, 3) := by decide +kernel
theorem dX12_fail_7 : decode cX12_fail 7 = .ok (.return_, 1) := by decide +kernel
theorem dX12_fail_8 : decode cX12_fail 8 = .ok (.aload_n 0, 1) := by decide +kernel
theorem dX12_fail_9 : decode cX12_fail 9 = .ok (.iload_n 1, 1) := by decide +kernel
theorem dX12_fail_10 : decode cX12_fail 10 = .ok (.putfield 236, 3) := by decide +kernel
theorem dX12_fail_13 : decode cX12_fail 13 = .ok (.aload_n 0, 1) := by decide +kernel
theorem dX12_fail_14 : decode cX12_fail 14 = .ok (.aload_n 0, 1) := by decide +kernel
theorem dX12_fail_15 : decode cX12_fail 15 = .ok (.getfield 24, 3) := by decide +kernel
theorem dX12_fail_18 : decode cX12_fail 18 = .ok (.aload_n 0, 1) := by decide +kernel
theorem dX12_fail_19 : decode cX12_fail 19 = .ok (.getfield 239, 3) := by decide +kernel
theorem dX12_fail_22 : decode cX12_fail 22 = .ok (.iaload, 1) := by decide +kernel
theorem dX12_fail_23 : decode cX12_fail 23 = .ok (.putfield 242, 3) := by decide +kernel
theorem dX12_fail_26 : decode cX12_fail 26 = .ok (.return_, 1) := by decide +kernel
theorem dX12_next_0 : decode cX12_next 0 = .ok (.aload_n 0, 1) := by decide +kernel
theorem dX12_next_1 : decode cX12_next 1 = .ok (.getfield 239, 3) := by decide +kernel
theorem dX12_next_4 : decode cX12_next 4 = .ok (.sipush 400, 3) := by decide +kernel
theorem dX12_next_7 : decode cX12_next 7 = .ok (.if_icmp .ne 11, 3) := by decide +kernel
theorem dX12_next_10 : decode cX12_next 10 = .ok (.aload_n 0, 1) := by decide +kernel
theorem dX12_next_11 : decode cX12_next 11 = .ok (.iconst 2, 1) := by decide +kernel
theorem dX12_next_12 : decode cX12_next 12 = .ok (.invokevirtual 251, 3) := by decide +kernel
theorem dX12_next_15 : decode cX12_next 15 = .ok (.goto 13, 3) := by decide +kernel
theorem dX12_next_18 : decode cX12_next 18 = .ok (.aload_n 0, 1) := by decide +kernel
theorem dX12_next_19 : decode cX12_next 19 = .ok (.dup, 1) := by decide +kernel
theorem dX12_next_20 : decode cX12_next 20 = .ok (.getfield 239, 3) := by decide +kernel
theorem dX12_next_23 : decode cX12_next 23 = .ok (.iconst 1, 1) := by decide +kernel
theorem dX12_next_24 : decode cX12_next 24 = .ok (.iadd, 1) := by decide +kernel
theorem dX12_next_25 : decode cX12_next 25 = .ok (.putfield 239, 3) := by decide +kernel
theorem dX12_next_28 : decode cX12_next 28 = .ok (.return_, 1) := by decide +kernel
theorem dX12_must_0 : decode cX12_must 0 = .ok (.aload_n 0, 1) := by decide +kernel
theorem dX12_must_1 : decode cX12_must 1 = .ok (.iload_n 1, 1) := by decide +kernel
theorem dX12_must_2 : decode cX12_must 2 = .ok (.invokevirtual 254, 3) := by decide +kernel
theorem dX12_must_5 : decode cX12_must 5 = .ok (.ifCond .eq 10, 3) := by decide +kernel
theorem dX12_must_8 : decode cX12_must 8 = .ok (.aload_n 0, 1) := by decide +kernel
theorem dX12_must_9 : decode cX12_must 9 = .ok (.invokevirtual 257, 3) := by decide +kernel
theorem dX12_must_12 : decode cX12_must 12 = .ok (.goto 8, 3) := by decide +kernel
theorem dX12_must_15 : decode cX12_must 15 = .ok (.aload_n 0, 1) := by decide +kernel
theorem dX12_must_16 : decode cX12_must 16 = .ok (.iconst 1, 1) := by decide +kernel
theorem dX12_must_17 : decode cX12_must 17 = .ok (.invokevirtual 251, 3) := by decide +kernel
theorem dX12_must_20 : decode cX12_must 20 = .ok (.return_, 1) := by decide +kernel
theorem dX12_read_0 : decode cX12_read 0 = .ok (.aload_n 0, 1) := by decide +kernel
theorem dX12_read_1 : decode cX12_read 1 = .ok (.aload_n 0, 1) := by decide +kernel
theorem dX12_read_2 : decode cX12_read 2 = .ok (.getfield 198, 3) := by decide +kernel
theorem dX12_read_5 : decode cX12_read 5 = .ok (.putfield 205, 3) := by decide +kernel
theorem dX12_read_8 : decode cX12_read 8 = .ok (.iconst 0, 1) := by decide +kernel
theorem dX12_read_9 : decode cX12_read 9 = .ok (.istore_n 1, 1) := by decide +kernel
theorem dX12_read_10 : decode cX12_read 10 = .ok (.iload_n 1, 1) := by decide +kernel
theorem dX12_read_11 : decode cX12_read 11 = .ok (.aload_n 0, 1) := by decide +kernel
theorem dX12_read_12 : decode cX12_read 12 = .ok (.getfield 205, 3) := by decide +kernel
theorem dX12_read_15 : decode cX12_read 15 = .ok (.if_icmp .ge 21, 3) := by decide +kernel
theorem dX12_read_18 : decode cX12_read 18 = .ok (.aload_n 0, 1) := by decide +kernel
theorem dX12_read_19 : decode cX12_read 19 = .ok (.getfield 17, 3) := by decide +kernel
theorem dX12_read_22 : decode cX12_read 22 = .ok (.iload_n 1, 1) := by decide +kernel
theorem dX12_read_23 : decode cX12_read 23 = .ok (.aload_n 0, 1) := by decide +kernel
theorem dX12_read_24 : decode cX12_read 24 = .ok (.getfield 13, 3) := by decide +kernel
theorem dX12_read_27 : decode cX12_read 27 = .ok (.iload_n 1, 1) := by decide +kernel
theorem dX12_read_28 : decode cX12_read 28 = .ok (.baload, 1) := by decide +kernel
theorem dX12_read_29 : decode cX12_read 29 = .ok (.bastore, 1) := by decide +kernel
theorem dX12_read_30 : decode cX12_read 30 = .ok (.iinc 1 1, 3) := by decide +kernel
theorem dX12_read_33 : decode cX12_read 33 = .ok (.goto (-23), 3) := by decide +kernel
theorem dX12_read_36 : decode cX12_read 36 = .ok (.aload_n 0, 1) := by decide +kernel
theorem dX12_read_37 : decode cX12_read 37 = .ok (.iconst 0, 1) := by decide +kernel
theorem dX12_read_38 : decode cX12_read 38 = .ok (.putfield 198, 3) := by decide +kernel
theorem dX12_read_41 : decode cX12_read 41 = .ok (.aload_n 0, 1) := by decide +kernel
theorem dX12_read_42 : decode cX12_read 42 = .ok (.invokevirtual 260, 3) := by decide +kernel
theorem dX12_read_45 : decode cX12_read 45 = .ok (.aload_n 0, 1) := by decide +kernel
theorem dX12_read_46 : decode cX12_read 46 = .ok (.iconst 0, 1) := by decide +kernel
theorem dX12_read_47 : decode cX12_read 47 = .ok (.putfield 239, 3) := by decide +kernel
theorem dX12_read_50 : decode cX12_read 50 = .ok (.aload_n 0, 1) := by decide +kernel
theorem dX12_read_51 : decode cX12_read 51 = .ok (.iconst 0, 1) := by decide +kernel
theorem dX12_read_52 : decode cX12_read 52 = .ok (.putfield 263, 3) := by decide +kernel
theorem dX12_read_55 : decode cX12_read 55 = .ok (.aload_n 0, 1) := by decide +kernel
theorem dX12_read_56 : decode cX12_read 56 = .ok (.iconst 0, 1) := by decide +kernel
theorem dX12_read_57 : decode cX12_read 57 = .ok (.putfield 236, 3) := by decide +kernel
theorem dX12_read_60 : decode cX12_read 60 = .ok (.aload_n 0, 1) := by decide +kernel
theorem dX12_read_61 : decode cX12_read 61 = .ok (.iconst 0, 1) := by decide +kernel
theorem dX12_read_62 : decode cX12_read 62 = .ok (.putfield 245, 3) := by decide +kernel
theorem dX12_read_65 : decode cX12_read 65 = .ok (.aload_n 0, 1) := by decide +kernel
theorem dX12_read_66 : decode cX12_read 66 = .ok (.iconst 1, 1) := by decide +kernel
theorem dX12_read_67 : decode cX12_read 67 = .ok (.aload_n 0, 1) := by decide +kernel
theorem dX12_read_68 : decode cX12_read 68 = .ok (.getfield 266, 3) := by decide +kernel
theorem dX12_read_71 : decode cX12_read 71 = .ok (.isub, 1) := by decide +kernel
theorem dX12_read_72 : decode cX12_read 72 = .ok (.putfield 269, 3) := by decide +kernel
theorem dX12_read_75 : decode cX12_read 75 = .ok (.aload_n 0, 1) := by decide +kernel
theorem dX12_read_76 : decode cX12_read 76 = .ok (.getfield 40, 3) := by decide +kernel
theorem dX12_read_79 : decode cX12_read 79 = .ok (.aload_n 0, 1) := by decide +kernel
theorem dX12_read_80 : decode cX12_read 80 = .ok (.getfield 269, 3) := by decide +kernel
theorem dX12_read_83 : decode cX12_read 83 = .ok (.iconst 0, 1) := by decide +kernel
theorem dX12_read_84 : decode cX12_read 84 = .ok (.iastore, 1) := by decide +kernel
theorem dX12_read_85 : decode cX12_read 85 = .ok (.aload_n 0, 1) := by decide +kernel
theorem dX12_read_86 : decode cX12_read 86 = .ok (.getfield 64, 3) := by decide +kernel
theorem dX12_read_89 : decode cX12_read 89 = .ok (.aload_n 0, 1) := by decide +kernel
theorem dX12_read_90 : decode cX12_read 90 = .ok (.getfield 269, 3) := by decide +kernel
theorem dX12_read_93 : decode cX12_read 93 = .ok (.iconst 0, 1) := by decide +kernel
theorem dX12_read_94 : decode cX12_read 94 = .ok (.iastore, 1) := by decide +kernel
theorem dX12_read_95 : decode cX12_read 95 = .ok (.aload_n 0, 1) := by decide +kernel
theorem dX12_read_96 : decode cX12_read 96 = .ok (.sipush 500, 3) := by decide +kernel
theorem dX12_read_99 : decode cX12_read 99 = .ok (.aload_n 0, 1) := by decide +kernel
theorem dX12_read_100 : decode cX12_read 100 = .ok (.getfield 269, 3) := by decide +kernel
theorem dX12_read_103 : decode cX12_read 103 = .ok (.imul, 1) := by decide +kernel
theorem dX12_read_104 : decode cX12_read 104 = .ok (.putfield 272, 3) := by decide +kernel
theorem dX12_read_107 : decode cX12_read 107 = .ok (.aload_n 0, 1) := by decide +kernel
theorem dX12_read_108 : decode cX12_read 108 = .ok (.getfield 236, 3) := by decide +kernel
theorem dX12_read_111 : decode cX12_read 111 = .ok (.ifCond .ne 18, 3) := by decide +kernel
theorem dX12_read_114 : decode cX12_read 114 = .ok (.aload_n 0, 1) := by decide +kernel
theorem dX12_read_115 : decode cX12_read 115 = .ok (.iconst 0, 1) := by decide +kernel
theorem dX12_read_116 : decode cX12_read 116 = .ok (.invokevirtual 254, 3) := by decide +kernel
theorem dX12_read_119 : decode cX12_read 119 = .ok (.ifCond .ne 10, 3) := by decide +kernel
theorem dX12_read_122 : decode cX12_read 122 = .ok (.aload_n 0, 1) := by decide +kernel
theorem dX12_read_123 : decode cX12_read 123 = .ok (.invokevirtual 275, 3) := by decide +kernel
theorem dX12_read_126 : decode cX12_read 126 = .ok (.goto (-19), 3) := by decide +kernel
theorem dX12_read_129 : decode cX12_read 129 = .ok (.aload_n 0, 1) := by decide +kernel
theorem dX12_read_130 : decode cX12_read 130 = .ok (.aload_n 0, 1) := by decide +kernel
theorem dX12_read_131 : decode cX12_read 131 = .ok (.getfield 236, 3) := by decide +kernel
theorem dX12_read_134 : decode cX12_read 134 = .ok (.ifCond .le 10, 3) := by decide +kernel
theorem dX12_read_137 : decode cX12_read 137 = .ok (.aload_n 0, 1) := by decide +kernel
theorem dX12_read_138 : decode cX12_read 138 = .ok (.getfield 242, 3) := by decide +kernel
theorem dX12_read_141 : decode cX12_read 141 = .ok (.goto 4, 3) := by decide +kernel
theorem dX12_read_144 : decode cX12_read 144 = .ok (.iconst (-1), 1) := by decide +kernel
theorem dX12_read_145 : decode cX12_read 145 = .ok (.putfield 37, 3) := by decide +kernel
theorem dX12_read_148 : decode cX12_read 148 = .ok (.aload_n 0, 1) := by decide +kernel
theorem dX12_read_149 : decode cX12_read 149 = .ok (.getfield 236, 3) := by decide +kernel
theorem dX12_read_152 : decode cX12_read 152 = .ok (.ifCond .le 8, 3) := by decide +kernel
theorem dX12_read_155 : decode cX12_read 155 = .ok (.aload_n 0, 1) := by decide +kernel
theorem dX12_read_156 : decode cX12_read 156 = .ok (.getfield 236, 3) := by decide +kernel
theorem dX12_read_159 : decode cX12_read 159 = .ok (.ireturn, 1) := by decide +kernel
theorem dX12_read_160 : decode cX12_read 160 = .ok (.aload_n 0, 1) := by decide +kernel
theorem dX12_read_161 : decode cX12_read 161 = .ok (.aload_n 0, 1) := by decide +kernel
theorem dX12_read_162 : decode cX12_read 162 = .ok (.getfield 269, 3) := by decide +kernel
theorem dX12_read_165 : decode cX12_read 165 = .ok (.putfield 266, 3) := by decide +kernel
theorem dX12_read_168 : decode cX12_read 168 = .ok (.iconst 0, 1) := by decide +kernel
theorem dX12_read_169 : decode cX12_read 169 = .ok (.ireturn, 1) := by decide +kernel
theorem dX12_place_0 : decode cX12_place 0 = .ok (.aload_n 0, 1) := by decide +kernel
theorem dX12_place_1 : decode cX12_place 1 = .ok (.getfield 37, 3) := by decide +kernel
theorem dX12_place_4 : decode cX12_place 4 = .ok (.ireturn, 1) := by decide +kernel
theorem dX12_number_0 : decode cX12_number 0 = .ok (.aload_n 0, 1) := by decide +kernel
theorem dX12_number_1 : decode cX12_number 1 = .ok (.iconst 2, 1) := by decide +kernel
theorem dX12_number_2 : decode cX12_number 2 = .ok (.invokevirtual 254, 3) := by decide +kernel
theorem dX12_number_5 : decode cX12_number 5 = .ok (.ifCond .eq 15, 3) := by decide +kernel
theorem dX12_number_8 : decode cX12_number 8 = .ok (.aload_n 0, 1) := by decide +kernel
theorem dX12_number_9 : decode cX12_number 9 = .ok (.getfield 27, 3) := by decide +kernel
theorem dX12_number_12 : decode cX12_number 12 = .ok (.aload_n 0, 1) := by decide +kernel
theorem dX12_number_13 : decode cX12_number 13 = .ok (.getfield 239, 3) := by decide +kernel
theorem dX12_number_16 : decode cX12_number 16 = .ok (.iaload, 1) := by decide +kernel
theorem dX12_number_17 : decode cX12_number 17 = .ok (.goto 4, 3) := by decide +kernel
theorem dX12_number_20 : decode cX12_number 20 = .ok (.iconst 0, 1) := by decide +kernel
theorem dX12_number_21 : decode cX12_number 21 = .ok (.istore_n 1, 1) := by decide +kernel
theorem dX12_number_22 : decode cX12_number 22 = .ok (.aload_n 0, 1) := by decide +kernel
theorem dX12_number_23 : decode cX12_number 23 = .ok (.iconst 2, 1) := by decide +kernel
theorem dX12_number_24 : decode cX12_number 24 = .ok (.invokevirtual 278, 3) := by decide +kernel
theorem dX12_number_27 : decode cX12_number 27 = .ok (.iload_n 1, 1) := by decide +kernel
theorem dX12_number_28 : decode cX12_number 28 = .ok (.ireturn, 1) := by decide +kernel
theorem dX12_tellRule_0 : decode cX12_tellRule 0 = .ok (.aload_n 0, 1) := by decide +kernel
theorem dX12_tellRule_1 : decode cX12_tellRule 1 = .ok (.bipush 20, 2) := by decide +kernel
theorem dX12_tellRule_3 : decode cX12_tellRule 3 = .ok (.invokevirtual 254, 3) := by decide +kernel
theorem dX12_tellRule_6 : decode cX12_tellRule 6 = .ok (.ifCond .ne 30, 3) := by decide +kernel
theorem dX12_tellRule_9 : decode cX12_tellRule 9 = .ok (.aload_n 0, 1) := by decide +kernel
theorem dX12_tellRule_10 : decode cX12_tellRule 10 = .ok (.bipush 31, 2) := by decide +kernel
theorem dX12_tellRule_12 : decode cX12_tellRule 12 = .ok (.invokevirtual 254, 3) := by decide +kernel
theorem dX12_tellRule_15 : decode cX12_tellRule 15 = .ok (.ifCond .ne 21, 3) := by decide +kernel
theorem dX12_tellRule_18 : decode cX12_tellRule 18 = .ok (.aload_n 0, 1) := by decide +kernel
theorem dX12_tellRule_19 : decode cX12_tellRule 19 = .ok (.bipush 22, 2) := by decide +kernel
theorem dX12_tellRule_21 : decode cX12_tellRule 21 = .ok (.invokevirtual 254, 3) := by decide +kernel
theorem dX12_tellRule_24 : decode cX12_tellRule 24 = .ok (.ifCond .ne 12, 3) := by decide +kernel
theorem dX12_tellRule_27 : decode cX12_tellRule 27 = .ok (.aload_n 0, 1) := by decide +kernel
theorem dX12_tellRule_28 : decode cX12_tellRule 28 = .ok (.bipush 23, 2) := by decide +kernel
theorem dX12_tellRule_30 : decode cX12_tellRule 30 = .ok (.invokevirtual 254, 3) := by decide +kernel
theorem dX12_tellRule_33 : decode cX12_tellRule 33 = .ok (.ifCond .eq 7, 3) := by decide +kernel
theorem dX12_tellRule_36 : decode cX12_tellRule 36 = .ok (.iconst 1, 1) := by decide +kernel
theorem dX12_tellRule_37 : decode cX12_tellRule 37 = .ok (.goto 4, 3) := by decide +kernel
theorem dX12_tellRule_40 : decode cX12_tellRule 40 = .ok (.iconst 0, 1) := by decide +kernel
theorem dX12_tellRule_41 : decode cX12_tellRule 41 = .ok (.istore_n 1, 1) := by decide +kernel
theorem dX12_tellRule_42 : decode cX12_tellRule 42 = .ok (.iload_n 1, 1) := by decide +kernel
theorem dX12_tellRule_43 : decode cX12_tellRule 43 = .ok (.ifCond .ne 11, 3) := by decide +kernel
theorem dX12_tellRule_46 : decode cX12_tellRule 46 = .ok (.aload_n 0, 1) := by decide +kernel
theorem dX12_tellRule_47 : decode cX12_tellRule 47 = .ok (.iconst 1, 1) := by decide +kernel
theorem dX12_tellRule_48 : decode cX12_tellRule 48 = .ok (.invokevirtual 251, 3) := by decide +kernel
theorem dX12_tellRule_51 : decode cX12_tellRule 51 = .ok (.goto 22, 3) := by decide +kernel
theorem dX12_tellRule_54 : decode cX12_tellRule 54 = .ok (.aload_n 0, 1) := by decide +kernel
theorem dX12_tellRule_55 : decode cX12_tellRule 55 = .ok (.getfield 40, 3) := by decide +kernel
theorem dX12_tellRule_58 : decode cX12_tellRule 58 = .ok (.aload_n 0, 1) := by decide +kernel
theorem dX12_tellRule_59 : decode cX12_tellRule 59 = .ok (.getfield 269, 3) := by decide +kernel
theorem dX12_tellRule_62 : decode cX12_tellRule 62 = .ok (.iaload, 1) := by decide +kernel
theorem dX12_tellRule_63 : decode cX12_tellRule 63 = .ok (.bipush 16, 2) := by decide +kernel
theorem dX12_tellRule_65 : decode cX12_tellRule 65 = .ok (.if_icmp .ne 8, 3) := by decide +kernel
theorem dX12_tellRule_68 : decode cX12_tellRule 68 = .ok (.aload_n 0, 1) := by decide +kernel
theorem dX12_tellRule_69 : decode cX12_tellRule 69 = .ok (.iconst 2, 1) := by decide +kernel
theorem dX12_tellRule_70 : decode cX12_tellRule 70 = .ok (.invokevirtual 251, 3) := by decide +kernel
theorem dX12_tellRule_73 : decode cX12_tellRule 73 = .ok (.aload_n 0, 1) := by decide +kernel
theorem dX12_tellRule_74 : decode cX12_tellRule 74 = .ok (.getfield 236, 3) := by decide +kernel
theorem dX12_tellRule_77 : decode cX12_tellRule 77 = .ok (.ifCond .le 4, 3) := by decide +kernel
theorem dX12_tellRule_80 : decode cX12_tellRule 80 = .ok (.return_, 1) := by decide +kernel
theorem dX12_tellRule_81 : decode cX12_tellRule 81 = .ok (.bipush 16, 2) := by decide +kernel
theorem dX12_tellRule_83 : decode cX12_tellRule 83 = .ok (.aload_n 0, 1) := by decide +kernel
theorem dX12_tellRule_84 : decode cX12_tellRule 84 = .ok (.getfield 269, 3) := by decide +kernel
theorem dX12_tellRule_87 : decode cX12_tellRule 87 = .ok (.imul, 1) := by decide +kernel
theorem dX12_tellRule_88 : decode cX12_tellRule 88 = .ok (.aload_n 0, 1) := by decide +kernel
theorem dX12_tellRule_89 : decode cX12_tellRule 89 = .ok (.getfield 40, 3) := by decide +kernel
theorem dX12_tellRule_92 : decode cX12_tellRule 92 = .ok (.aload_n 0, 1) := by decide +kernel
theorem dX12_tellRule_93 : decode cX12_tellRule 93 = .ok (.getfield 269, 3) := by decide +kernel
theorem dX12_tellRule_96 : decode cX12_tellRule 96 = .ok (.iaload, 1) := by decide +kernel
theorem dX12_tellRule_97 : decode cX12_tellRule 97 = .ok (.iadd, 1) := by decide +kernel
theorem dX12_tellRule_98 : decode cX12_tellRule 98 = .ok (.istore_n 2, 1) := by decide +kernel
theorem dX12_tellRule_99 : decode cX12_tellRule 99 = .ok (.aload_n 0, 1) := by decide +kernel
theorem dX12_tellRule_100 : decode cX12_tellRule 100 = .ok (.getfield 43, 3) := by decide +kernel
theorem dX12_tellRule_103 : decode cX12_tellRule 103 = .ok (.iload_n 2, 1) := by decide +kernel
theorem dX12_tellRule_104 : decode cX12_tellRule 104 = .ok (.aload_n 0, 1) := by decide +kernel
theorem dX12_tellRule_105 : decode cX12_tellRule 105 = .ok (.bipush 20, 2) := by decide +kernel
theorem dX12_tellRule_107 : decode cX12_tellRule 107 = .ok (.invokevirtual 254, 3) := by decide +kernel
theorem dX12_tellRule_110 : decode cX12_tellRule 110 = .ok (.ifCond .eq 7, 3) := by decide +kernel
theorem dX12_tellRule_113 : decode cX12_tellRule 113 = .ok (.iconst 0, 1) := by decide +kernel
theorem dX12_tellRule_114 : decode cX12_tellRule 114 = .ok (.goto 30, 3) := by decide +kernel
theorem dX12_tellRule_117 : decode cX12_tellRule 117 = .ok (.aload_n 0, 1) := by decide +kernel
theorem dX12_tellRule_118 : decode cX12_tellRule 118 = .ok (.bipush 31, 2) := by decide +kernel
theorem dX12_tellRule_120 : decode cX12_tellRule 120 = .ok (.invokevirtual 254, 3) := by decide +kernel
theorem dX12_tellRule_123 : decode cX12_tellRule 123 = .ok (.ifCond .eq 7, 3) := by decide +kernel
theorem dX12_tellRule_126 : decode cX12_tellRule 126 = .ok (.iconst 1, 1) := by decide +kernel
theorem dX12_tellRule_127 : decode cX12_tellRule 127 = .ok (.goto 17, 3) := by decide +kernel
theorem dX12_tellRule_130 : decode cX12_tellRule 130 = .ok (.aload_n 0, 1) := by decide +kernel
theorem dX12_tellRule_131 : decode cX12_tellRule 131 = .ok (.bipush 22, 2) := by decide +kernel
theorem dX12_tellRule_133 : decode cX12_tellRule 133 = .ok (.invokevirtual 254, 3) := by decide +kernel
theorem dX12_tellRule_136 : decode cX12_tellRule 136 = .ok (.ifCond .eq 7, 3) := by decide +kernel
theorem dX12_tellRule_139 : decode cX12_tellRule 139 = .ok (.iconst 2, 1) := by decide +kernel
theorem dX12_tellRule_140 : decode cX12_tellRule 140 = .ok (.goto 4, 3) := by decide +kernel
theorem dX12_tellRule_143 : decode cX12_tellRule 143 = .ok (.iconst 3, 1) := by decide +kernel
theorem dX12_tellRule_144 : decode cX12_tellRule 144 = .ok (.iastore, 1) := by decide +kernel
theorem dX12_tellRule_145 : decode cX12_tellRule 145 = .ok (.aload_n 0, 1) := by decide +kernel
theorem dX12_tellRule_146 : decode cX12_tellRule 146 = .ok (.getfield 46, 3) := by decide +kernel
theorem dX12_tellRule_149 : decode cX12_tellRule 149 = .ok (.iload_n 2, 1) := by decide +kernel
theorem dX12_tellRule_150 : decode cX12_tellRule 150 = .ok (.iconst 0, 1) := by decide +kernel
theorem dX12_tellRule_151 : decode cX12_tellRule 151 = .ok (.iastore, 1) := by decide +kernel
theorem dX12_tellRule_152 : decode cX12_tellRule 152 = .ok (.aload_n 0, 1) := by decide +kernel
theorem dX12_tellRule_153 : decode cX12_tellRule 153 = .ok (.getfield 49, 3) := by decide +kernel
theorem dX12_tellRule_156 : decode cX12_tellRule 156 = .ok (.iload_n 2, 1) := by decide +kernel
theorem dX12_tellRule_157 : decode cX12_tellRule 157 = .ok (.iconst 0, 1) := by decide +kernel
theorem dX12_tellRule_158 : decode cX12_tellRule 158 = .ok (.iastore, 1) := by decide +kernel
theorem dX12_tellRule_159 : decode cX12_tellRule 159 = .ok (.aload_n 0, 1) := by decide +kernel
theorem dX12_tellRule_160 : decode cX12_tellRule 160 = .ok (.invokevirtual 257, 3) := by decide +kernel
theorem dX12_tellRule_163 : decode cX12_tellRule 163 = .ok (.aload_n 0, 1) := by decide +kernel
theorem dX12_tellRule_164 : decode cX12_tellRule 164 = .ok (.getfield 52, 3) := by decide +kernel
theorem dX12_tellRule_167 : decode cX12_tellRule 167 = .ok (.iload_n 2, 1) := by decide +kernel
theorem dX12_tellRule_168 : decode cX12_tellRule 168 = .ok (.aload_n 0, 1) := by decide +kernel
theorem dX12_tellRule_169 : decode cX12_tellRule 169 = .ok (.getfield 272, 3) := by decide +kernel
theorem dX12_tellRule_172 : decode cX12_tellRule 172 = .ok (.iastore, 1) := by decide +kernel
theorem dX12_tellRule_173 : decode cX12_tellRule 173 = .ok (.aload_n 0, 1) := by decide +kernel
theorem dX12_tellRule_174 : decode cX12_tellRule 174 = .ok (.getfield 43, 3) := by decide +kernel
theorem dX12_tellRule_177 : decode cX12_tellRule 177 = .ok (.iload_n 2, 1) := by decide +kernel
theorem dX12_tellRule_178 : decode cX12_tellRule 178 = .ok (.iaload, 1) := by decide +kernel
theorem dX12_tellRule_179 : decode cX12_tellRule 179 = .ok (.iconst 1, 1) := by decide +kernel
theorem dX12_tellRule_180 : decode cX12_tellRule 180 = .ok (.if_icmp .eq 13, 3) := by decide +kernel
theorem dX12_tellRule_183 : decode cX12_tellRule 183 = .ok (.aload_n 0, 1) := by decide +kernel
theorem dX12_tellRule_184 : decode cX12_tellRule 184 = .ok (.getfield 43, 3) := by decide +kernel
theorem dX12_tellRule_187 : decode cX12_tellRule 187 = .ok (.iload_n 2, 1) := by decide +kernel
theorem dX12_tellRule_188 : decode cX12_tellRule 188 = .ok (.iaload, 1) := by decide +kernel
theorem dX12_tellRule_189 : decode cX12_tellRule 189 = .ok (.iconst 3, 1) := by decide +kernel
theorem dX12_tellRule_190 : decode cX12_tellRule 190 = .ok (.if_icmp .ne 13, 3) := by decide +kernel
theorem dX12_tellRule_193 : decode cX12_tellRule 193 = .ok (.aload_n 0, 1) := by decide +kernel
theorem dX12_tellRule_194 : decode cX12_tellRule 194 = .ok (.getfield 46, 3) := by decide +kernel
theorem dX12_tellRule_197 : decode cX12_tellRule 197 = .ok (.iload_n 2, 1) := by decide +kernel
theorem dX12_tellRule_198 : decode cX12_tellRule 198 = .ok (.aload_n 0, 1) := by decide +kernel
theorem dX12_tellRule_199 : decode cX12_tellRule 199 = .ok (.invokevirtual 281, 3) := by decide +kernel
theorem dX12_tellRule_202 : decode cX12_tellRule 202 = .ok (.iastore, 1) := by decide +kernel
theorem dX12_tellRule_203 : decode cX12_tellRule 203 = .ok (.aload_n 0, 1) := by decide +kernel
theorem dX12_tellRule_204 : decode cX12_tellRule 204 = .ok (.getfield 43, 3) := by decide +kernel
theorem dX12_tellRule_207 : decode cX12_tellRule 207 = .ok (.iload_n 2, 1) := by decide +kernel
theorem dX12_tellRule_208 : decode cX12_tellRule 208 = .ok (.iaload, 1) := by decide +kernel
theorem dX12_tellRule_209 : decode cX12_tellRule 209 = .ok (.iconst 3, 1) := by decide +kernel
theorem dX12_tellRule_210 : decode cX12_tellRule 210 = .ok (.if_icmp .ne 19, 3) := by decide +kernel
theorem dX12_tellRule_213 : decode cX12_tellRule 213 = .ok (.aload_n 0, 1) := by decide +kernel
theorem dX12_tellRule_214 : decode cX12_tellRule 214 = .ok (.bipush 24, 2) := by decide +kernel
theorem dX12_tellRule_216 : decode cX12_tellRule 216 = .ok (.invokevirtual 278, 3) := by decide +kernel
theorem dX12_tellRule_219 : decode cX12_tellRule 219 = .ok (.aload_n 0, 1) := by decide +kernel
theorem dX12_tellRule_220 : decode cX12_tellRule 220 = .ok (.getfield 49, 3) := by decide +kernel
theorem dX12_tellRule_223 : decode cX12_tellRule 223 = .ok (.iload_n 2, 1) := by decide +kernel
theorem dX12_tellRule_224 : decode cX12_tellRule 224 = .ok (.aload_n 0, 1) := by decide +kernel
theorem dX12_tellRule_225 : decode cX12_tellRule 225 = .ok (.invokevirtual 281, 3) := by decide +kernel
theorem dX12_tellRule_228 : decode cX12_tellRule 228 = .ok (.iastore, 1) := by decide +kernel
theorem dX12_tellRule_229 : decode cX12_tellRule 229 = .ok (.aload_n 0, 1) := by decide +kernel
theorem dX12_tellRule_230 : decode cX12_tellRule 230 = .ok (.getfield 43, 3) := by decide +kernel
theorem dX12_tellRule_233 : decode cX12_tellRule 233 = .ok (.iload_n 2, 1) := by decide +kernel
theorem dX12_tellRule_234 : decode cX12_tellRule 234 = .ok (.iaload, 1) := by decide +kernel
theorem dX12_tellRule_235 : decode cX12_tellRule 235 = .ok (.iconst 2, 1) := by decide +kernel
theorem dX12_tellRule_236 : decode cX12_tellRule 236 = .ok (.if_icmp .ne 7, 3) := by decide +kernel
theorem dX12_tellRule_239 : decode cX12_tellRule 239 = .ok (.aload_n 0, 1) := by decide +kernel
theorem dX12_tellRule_240 : decode cX12_tellRule 240 = .ok (.invokevirtual 285, 3) := by decide +kernel
theorem dX12_tellRule_243 : decode cX12_tellRule 243 = .ok (.aload_n 0, 1) := by decide +kernel
theorem dX12_tellRule_244 : decode cX12_tellRule 244 = .ok (.getfield 55, 3) := by decide +kernel
theorem dX12_tellRule_247 : decode cX12_tellRule 247 = .ok (.iload_n 2, 1) := by decide +kernel
theorem dX12_tellRule_248 : decode cX12_tellRule 248 = .ok (.aload_n 0, 1) := by decide +kernel
theorem dX12_tellRule_249 : decode cX12_tellRule 249 = .ok (.getfield 272, 3) := by decide +kernel
theorem dX12_tellRule_252 : decode cX12_tellRule 252 = .ok (.iastore, 1) := by decide +kernel
theorem dX12_tellRule_253 : decode cX12_tellRule 253 = .ok (.aload_n 0, 1) := by decide +kernel
theorem dX12_tellRule_254 : decode cX12_tellRule 254 = .ok (.getfield 58, 3) := by decide +kernel
theorem dX12_tellRule_257 : decode cX12_tellRule 257 = .ok (.iload_n 2, 1) := by decide +kernel
theorem dX12_tellRule_258 : decode cX12_tellRule 258 = .ok (.aload_n 0, 1) := by decide +kernel
theorem dX12_tellRule_259 : decode cX12_tellRule 259 = .ok (.getfield 64, 3) := by decide +kernel
theorem dX12_tellRule_262 : decode cX12_tellRule 262 = .ok (.aload_n 0, 1) := by decide +kernel
theorem dX12_tellRule_263 : decode cX12_tellRule 263 = .ok (.getfield 269, 3) := by decide +kernel
theorem dX12_tellRule_266 : decode cX12_tellRule 266 = .ok (.iaload, 1) := by decide +kernel
theorem dX12_tellRule_267 : decode cX12_tellRule 267 = .ok (.iastore, 1) := by decide +kernel
theorem dX12_tellRule_268 : decode cX12_tellRule 268 = .ok (.aload_n 0, 1) := by decide +kernel
theorem dX12_tellRule_269 : decode cX12_tellRule 269 = .ok (.getfield 43, 3) := by decide +kernel
theorem dX12_tellRule_272 : decode cX12_tellRule 272 = .ok (.iload_n 2, 1) := by decide +kernel
theorem dX12_tellRule_273 : decode cX12_tellRule 273 = .ok (.iaload, 1) := by decide +kernel
theorem dX12_tellRule_274 : decode cX12_tellRule 274 = .ok (.iconst 2, 1) := by decide +kernel
theorem dX12_tellRule_275 : decode cX12_tellRule 275 = .ok (.if_icmp .lt 22, 3) := by decide +kernel
theorem dX12_tellRule_278 : decode cX12_tellRule 278 = .ok (.aload_n 0, 1) := by decide +kernel
theorem dX12_tellRule_279 : decode cX12_tellRule 279 = .ok (.getfield 43, 3) := by decide +kernel
theorem dX12_tellRule_282 : decode cX12_tellRule 282 = .ok (.iload_n 2, 1) := by decide +kernel
theorem dX12_tellRule_283 : decode cX12_tellRule 283 = .ok (.iaload, 1) := by decide +kernel
theorem dX12_tellRule_284 : decode cX12_tellRule 284 = .ok (.iconst 2, 1) := by decide +kernel
theorem dX12_tellRule_285 : decode cX12_tellRule 285 = .ok (.if_icmp .ne 16, 3) := by decide +kernel
theorem dX12_tellRule_288 : decode cX12_tellRule 288 = .ok (.aload_n 0, 1) := by decide +kernel
theorem dX12_tellRule_289 : decode cX12_tellRule 289 = .ok (.bipush 21, 2) := by decide +kernel
theorem dX12_tellRule_291 : decode cX12_tellRule 291 = .ok (.invokevirtual 254, 3) := by decide +kernel
theorem dX12_tellRule_294 : decode cX12_tellRule 294 = .ok (.ifCond .eq 7, 3) := by decide +kernel
theorem dX12_tellRule_297 : decode cX12_tellRule 297 = .ok (.iconst 1, 1) := by decide +kernel
theorem dX12_tellRule_298 : decode cX12_tellRule 298 = .ok (.goto 4, 3) := by decide +kernel
theorem dX12_tellRule_301 : decode cX12_tellRule 301 = .ok (.iconst 0, 1) := by decide +kernel
theorem dX12_tellRule_302 : decode cX12_tellRule 302 = .ok (.istore_n 3, 1) := by decide +kernel
theorem dX12_tellRule_303 : decode cX12_tellRule 303 = .ok (.iload_n 3, 1) := by decide +kernel
theorem dX12_tellRule_304 : decode cX12_tellRule 304 = .ok (.ifCond .eq 9, 3) := by decide +kernel
theorem dX12_tellRule_307 : decode cX12_tellRule 307 = .ok (.aload_n 0, 1) := by decide +kernel
theorem dX12_tellRule_308 : decode cX12_tellRule 308 = .ok (.bipush 21, 2) := by decide +kernel
theorem dX12_tellRule_310 : decode cX12_tellRule 310 = .ok (.invokevirtual 278, 3) := by decide +kernel
theorem dX12_tellRule_313 : decode cX12_tellRule 313 = .ok (.iconst 1, 1) := by decide +kernel
theorem dX12_tellRule_314 : decode cX12_tellRule 314 = .ok (.istore 4, 2) := by decide +kernel
theorem dX12_tellRule_316 : decode cX12_tellRule 316 = .ok (.iload_n 3, 1) := by decide +kernel
theorem dX12_tellRule_317 : decode cX12_tellRule 317 = .ok (.ifCond .eq 55, 3) := by decide +kernel
theorem dX12_tellRule_320 : decode cX12_tellRule 320 = .ok (.aload_n 0, 1) := by decide +kernel
theorem dX12_tellRule_321 : decode cX12_tellRule 321 = .ok (.getfield 236, 3) := by decide +kernel
theorem dX12_tellRule_324 : decode cX12_tellRule 324 = .ok (.ifCond .ne 48, 3) := by decide +kernel
theorem dX12_tellRule_327 : decode cX12_tellRule 327 = .ok (.aload_n 0, 1) := by decide +kernel
theorem dX12_tellRule_328 : decode cX12_tellRule 328 = .ok (.iload 4, 2) := by decide +kernel
theorem dX12_tellRule_330 : decode cX12_tellRule 330 = .ok (.invokevirtual 288, 3) := by decide +kernel
theorem dX12_tellRule_333 : decode cX12_tellRule 333 = .ok (.aload_n 0, 1) := by decide +kernel
theorem dX12_tellRule_334 : decode cX12_tellRule 334 = .ok (.bipush 25, 2) := by decide +kernel
theorem dX12_tellRule_336 : decode cX12_tellRule 336 = .ok (.invokevirtual 254, 3) := by decide +kernel
theorem dX12_tellRule_339 : decode cX12_tellRule 339 = .ok (.istore 4, 2) := by decide +kernel
theorem dX12_tellRule_341 : decode cX12_tellRule 341 = .ok (.iload 4, 2) := by decide +kernel
theorem dX12_tellRule_343 : decode cX12_tellRule 343 = .ok (.ifCond .ne 12, 3) := by decide +kernel
theorem dX12_tellRule_346 : decode cX12_tellRule 346 = .ok (.aload_n 0, 1) := by decide +kernel
theorem dX12_tellRule_347 : decode cX12_tellRule 347 = .ok (.bipush 26, 2) := by decide +kernel
theorem dX12_tellRule_349 : decode cX12_tellRule 349 = .ok (.invokevirtual 254, 3) := by decide +kernel
theorem dX12_tellRule_352 : decode cX12_tellRule 352 = .ok (.ifCond .eq 7, 3) := by decide +kernel
theorem dX12_tellRule_355 : decode cX12_tellRule 355 = .ok (.iconst 1, 1) := by decide +kernel
theorem dX12_tellRule_356 : decode cX12_tellRule 356 = .ok (.goto 4, 3) := by decide +kernel
theorem dX12_tellRule_359 : decode cX12_tellRule 359 = .ok (.iconst 0, 1) := by decide +kernel
theorem dX12_tellRule_360 : decode cX12_tellRule 360 = .ok (.istore_n 3, 1) := by decide +kernel
theorem dX12_tellRule_361 : decode cX12_tellRule 361 = .ok (.iload_n 3, 1) := by decide +kernel
theorem dX12_tellRule_362 : decode cX12_tellRule 362 = .ok (.ifCond .eq (-46), 3) := by decide +kernel
theorem dX12_tellRule_365 : decode cX12_tellRule 365 = .ok (.aload_n 0, 1) := by decide +kernel
theorem dX12_tellRule_366 : decode cX12_tellRule 366 = .ok (.invokevirtual 257, 3) := by decide +kernel
theorem dX12_tellRule_369 : decode cX12_tellRule 369 = .ok (.goto (-53), 3) := by decide +kernel
theorem dX12_tellRule_372 : decode cX12_tellRule 372 = .ok (.aload_n 0, 1) := by decide +kernel
theorem dX12_tellRule_373 : decode cX12_tellRule 373 = .ok (.iconst 4, 1) := by decide +kernel
theorem dX12_tellRule_374 : decode cX12_tellRule 374 = .ok (.invokevirtual 278, 3) := by decide +kernel
theorem dX12_tellRule_377 : decode cX12_tellRule 377 = .ok (.aload_n 0, 1) := by decide +kernel
theorem dX12_tellRule_378 : decode cX12_tellRule 378 = .ok (.getfield 236, 3) := by decide +kernel
theorem dX12_tellRule_381 : decode cX12_tellRule 381 = .ok (.ifCond .le 4, 3) := by decide +kernel
theorem dX12_tellRule_384 : decode cX12_tellRule 384 = .ok (.return_, 1) := by decide +kernel
theorem dX12_tellRule_385 : decode cX12_tellRule 385 = .ok (.aload_n 0, 1) := by decide +kernel
theorem dX12_tellRule_386 : decode cX12_tellRule 386 = .ok (.getfield 61, 3) := by decide +kernel
theorem dX12_tellRule_389 : decode cX12_tellRule 389 = .ok (.iload_n 2, 1) := by decide +kernel
theorem dX12_tellRule_390 : decode cX12_tellRule 390 = .ok (.aload_n 0, 1) := by decide +kernel
theorem dX12_tellRule_391 : decode cX12_tellRule 391 = .ok (.getfield 64, 3) := by decide +kernel
theorem dX12_tellRule_394 : decode cX12_tellRule 394 = .ok (.aload_n 0, 1) := by decide +kernel
theorem dX12_tellRule_395 : decode cX12_tellRule 395 = .ok (.getfield 269, 3) := by decide +kernel
theorem dX12_tellRule_398 : decode cX12_tellRule 398 = .ok (.iaload, 1) := by decide +kernel
theorem dX12_tellRule_399 : decode cX12_tellRule 399 = .ok (.iastore, 1) := by decide +kernel
theorem dX12_tellRule_400 : decode cX12_tellRule 400 = .ok (.aload_n 0, 1) := by decide +kernel
theorem dX12_tellRule_401 : decode cX12_tellRule 401 = .ok (.getfield 40, 3) := by decide +kernel
theorem dX12_tellRule_404 : decode cX12_tellRule 404 = .ok (.aload_n 0, 1) := by decide +kernel
theorem dX12_tellRule_405 : decode cX12_tellRule 405 = .ok (.getfield 269, 3) := by decide +kernel
theorem dX12_tellRule_408 : decode cX12_tellRule 408 = .ok (.dup2, 1) := by decide +kernel
theorem dX12_tellRule_409 : decode cX12_tellRule 409 = .ok (.iaload, 1) := by decide +kernel
theorem dX12_tellRule_410 : decode cX12_tellRule 410 = .ok (.iconst 1, 1) := by decide +kernel
theorem dX12_tellRule_411 : decode cX12_tellRule 411 = .ok (.iadd, 1) := by decide +kernel
theorem dX12_tellRule_412 : decode cX12_tellRule 412 = .ok (.iastore, 1) := by decide +kernel
theorem dX12_tellRule_413 : decode cX12_tellRule 413 = .ok (.return_, 1) := by decide +kernel
theorem dX12_relation_0 : decode cX12_relation 0 = .ok (.aload_n 0, 1) := by decide +kernel
theorem dX12_relation_1 : decode cX12_relation 1 = .ok (.getfield 272, 3) := by decide +kernel
theorem dX12_relation_4 : decode cX12_relation 4 = .ok (.istore_n 2, 1) := by decide +kernel
theorem dX12_relation_5 : decode cX12_relation 5 = .ok (.aload_n 0, 1) := by decide +kernel
theorem dX12_relation_6 : decode cX12_relation 6 = .ok (.invokevirtual 285, 3) := by decide +kernel
theorem dX12_relation_9 : decode cX12_relation 9 = .ok (.aload_n 0, 1) := by decide +kernel
theorem dX12_relation_10 : decode cX12_relation 10 = .ok (.getfield 236, 3) := by decide +kernel
theorem dX12_relation_13 : decode cX12_relation 13 = .ok (.ifCond .le 7, 3) := by decide +kernel
theorem dX12_relation_16 : decode cX12_relation 16 = .ok (.iconst 0, 1) := by decide +kernel
theorem dX12_relation_17 : decode cX12_relation 17 = .ok (.goto 15, 3) := by decide +kernel
theorem dX12_relation_20 : decode cX12_relation 20 = .ok (.aload_n 0, 1) := by decide +kernel
theorem dX12_relation_21 : decode cX12_relation 21 = .ok (.getfield 20, 3) := by decide +kernel
theorem dX12_relation_24 : decode cX12_relation 24 = .ok (.aload_n 0, 1) := by decide +kernel
theorem dX12_relation_25 : decode cX12_relation 25 = .ok (.getfield 239, 3) := by decide +kernel
theorem dX12_relation_28 : decode cX12_relation 28 = .ok (.iaload, 1) := by decide +kernel
theorem dX12_relation_29 : decode cX12_relation 29 = .ok (.bipush 11, 2) := by decide +kernel
theorem dX12_relation_31 : decode cX12_relation 31 = .ok (.isub, 1) := by decide +kernel
theorem dX12_relation_32 : decode cX12_relation 32 = .ok (.istore_n 3, 1) := by decide +kernel
theorem dX12_relation_33 : decode cX12_relation 33 = .ok (.aload_n 0, 1) := by decide +kernel
theorem dX12_relation_34 : decode cX12_relation 34 = .ok (.getfield 236, 3) := by decide +kernel
theorem dX12_relation_37 : decode cX12_relation 37 = .ok (.ifCond .ne 17, 3) := by decide +kernel
theorem dX12_relation_40 : decode cX12_relation 40 = .ok (.iload_n 3, 1) := by decide +kernel
theorem dX12_relation_41 : decode cX12_relation 41 = .ok (.ifCond .lt 8, 3) := by decide +kernel
theorem dX12_relation_44 : decode cX12_relation 44 = .ok (.iload_n 3, 1) := by decide +kernel
theorem dX12_relation_45 : decode cX12_relation 45 = .ok (.iconst 3, 1) := by decide +kernel
theorem dX12_relation_46 : decode cX12_relation 46 = .ok (.if_icmp .le 8, 3) := by decide +kernel
theorem dX12_relation_49 : decode cX12_relation 49 = .ok (.aload_n 0, 1) := by decide +kernel
theorem dX12_relation_50 : decode cX12_relation 50 = .ok (.iconst 1, 1) := by decide +kernel
theorem dX12_relation_51 : decode cX12_relation 51 = .ok (.invokevirtual 251, 3) := by decide +kernel
theorem dX12_relation_54 : decode cX12_relation 54 = .ok (.aload_n 0, 1) := by decide +kernel
theorem dX12_relation_55 : decode cX12_relation 55 = .ok (.invokevirtual 257, 3) := by decide +kernel
theorem dX12_relation_58 : decode cX12_relation 58 = .ok (.aload_n 0, 1) := by decide +kernel
theorem dX12_relation_59 : decode cX12_relation 59 = .ok (.getfield 272, 3) := by decide +kernel
theorem dX12_relation_62 : decode cX12_relation 62 = .ok (.istore 4, 2) := by decide +kernel
theorem dX12_relation_64 : decode cX12_relation 64 = .ok (.aload_n 0, 1) := by decide +kernel
theorem dX12_relation_65 : decode cX12_relation 65 = .ok (.invokevirtual 285, 3) := by decide +kernel
theorem dX12_relation_68 : decode cX12_relation 68 = .ok (.aload_n 0, 1) := by decide +kernel
theorem dX12_relation_69 : decode cX12_relation 69 = .ok (.getfield 236, 3) := by decide +kernel
theorem dX12_relation_72 : decode cX12_relation 72 = .ok (.ifCond .le 4, 3) := by decide +kernel
theorem dX12_relation_75 : decode cX12_relation 75 = .ok (.return_, 1) := by decide +kernel
theorem dX12_relation_76 : decode cX12_relation 76 = .ok (.sipush 200, 3) := by decide +kernel
theorem dX12_relation_79 : decode cX12_relation 79 = .ok (.aload_n 0, 1) := by decide +kernel
theorem dX12_relation_80 : decode cX12_relation 80 = .ok (.getfield 269, 3) := by decide +kernel
theorem dX12_relation_83 : decode cX12_relation 83 = .ok (.imul, 1) := by decide +kernel
theorem dX12_relation_84 : decode cX12_relation 84 = .ok (.aload_n 0, 1) := by decide +kernel
theorem dX12_relation_85 : decode cX12_relation 85 = .ok (.getfield 64, 3) := by decide +kernel
theorem dX12_relation_88 : decode cX12_relation 88 = .ok (.aload_n 0, 1) := by decide +kernel
theorem dX12_relation_89 : decode cX12_relation 89 = .ok (.getfield 269, 3) := by decide +kernel
theorem dX12_relation_92 : decode cX12_relation 92 = .ok (.iaload, 1) := by decide +kernel
theorem dX12_relation_93 : decode cX12_relation 93 = .ok (.iadd, 1) := by decide +kernel
theorem dX12_relation_94 : decode cX12_relation 94 = .ok (.istore 5, 2) := by decide +kernel
theorem dX12_relation_96 : decode cX12_relation 96 = .ok (.aload_n 0, 1) := by decide +kernel
theorem dX12_relation_97 : decode cX12_relation 97 = .ok (.getfield 67, 3) := by decide +kernel
theorem dX12_relation_100 : decode cX12_relation 100 = .ok (.iload 5, 2) := by decide +kernel
theorem dX12_relation_102 : decode cX12_relation 102 = .ok (.iload_n 3, 1) := by decide +kernel
theorem dX12_relation_103 : decode cX12_relation 103 = .ok (.iastore, 1) := by decide +kernel
theorem dX12_relation_104 : decode cX12_relation 104 = .ok (.aload_n 0, 1) := by decide +kernel
theorem dX12_relation_105 : decode cX12_relation 105 = .ok (.getfield 70, 3) := by decide +kernel
theorem dX12_relation_108 : decode cX12_relation 108 = .ok (.iload 5, 2) := by decide +kernel
theorem dX12_relation_110 : decode cX12_relation 110 = .ok (.iload_n 2, 1) := by decide +kernel
theorem dX12_relation_111 : decode cX12_relation 111 = .ok (.iastore, 1) := by decide +kernel
theorem dX12_relation_112 : decode cX12_relation 112 = .ok (.aload_n 0, 1) := by decide +kernel
theorem dX12_relation_113 : decode cX12_relation 113 = .ok (.getfield 73, 3) := by decide +kernel
theorem dX12_relation_116 : decode cX12_relation 116 = .ok (.iload 5, 2) := by decide +kernel
theorem dX12_relation_118 : decode cX12_relation 118 = .ok (.iload 4, 2) := by decide +kernel
theorem dX12_relation_120 : decode cX12_relation 120 = .ok (.iastore, 1) := by decide +kernel
theorem dX12_relation_121 : decode cX12_relation 121 = .ok (.aload_n 0, 1) := by decide +kernel
theorem dX12_relation_122 : decode cX12_relation 122 = .ok (.getfield 76, 3) := by decide +kernel
theorem dX12_relation_125 : decode cX12_relation 125 = .ok (.iload 5, 2) := by decide +kernel
theorem dX12_relation_127 : decode cX12_relation 127 = .ok (.aload_n 0, 1) := by decide +kernel
theorem dX12_relation_128 : decode cX12_relation 128 = .ok (.getfield 272, 3) := by decide +kernel
theorem dX12_relation_131 : decode cX12_relation 131 = .ok (.iastore, 1) := by decide +kernel
theorem dX12_relation_132 : decode cX12_relation 132 = .ok (.aload_n 0, 1) := by decide +kernel
theorem dX12_relation_133 : decode cX12_relation 133 = .ok (.getfield 79, 3) := by decide +kernel
theorem dX12_relation_136 : decode cX12_relation 136 = .ok (.iload 5, 2) := by decide +kernel
theorem dX12_relation_138 : decode cX12_relation 138 = .ok (.iload_n 1, 1) := by decide +kernel
theorem dX12_relation_139 : decode cX12_relation 139 = .ok (.bastore, 1) := by decide +kernel
theorem dX12_relation_140 : decode cX12_relation 140 = .ok (.aload_n 0, 1) := by decide +kernel
theorem dX12_relation_141 : decode cX12_relation 141 = .ok (.getfield 64, 3) := by decide +kernel
theorem dX12_relation_144 : decode cX12_relation 144 = .ok (.aload_n 0, 1) := by decide +kernel
theorem dX12_relation_145 : decode cX12_relation 145 = .ok (.getfield 269, 3) := by decide +kernel
theorem dX12_relation_148 : decode cX12_relation 148 = .ok (.dup2, 1) := by decide +kernel
theorem dX12_relation_149 : decode cX12_relation 149 = .ok (.iaload, 1) := by decide +kernel
theorem dX12_relation_150 : decode cX12_relation 150 = .ok (.iconst 1, 1) := by decide +kernel
theorem dX12_relation_151 : decode cX12_relation 151 = .ok (.iadd, 1) := by decide +kernel
theorem dX12_relation_152 : decode cX12_relation 152 = .ok (.iastore, 1) := by decide +kernel
theorem dX12_relation_153 : decode cX12_relation 153 = .ok (.return_, 1) := by decide +kernel
theorem dX12_emit_0 : decode cX12_emit 0 = .ok (.aload_n 0, 1) := by decide +kernel
theorem dX12_emit_1 : decode cX12_emit 1 = .ok (.getfield 83, 3) := by decide +kernel
theorem dX12_emit_4 : decode cX12_emit 4 = .ok (.aload_n 0, 1) := by decide +kernel
theorem dX12_emit_5 : decode cX12_emit 5 = .ok (.getfield 272, 3) := by decide +kernel
theorem dX12_emit_8 : decode cX12_emit 8 = .ok (.iload_n 1, 1) := by decide +kernel
theorem dX12_emit_9 : decode cX12_emit 9 = .ok (.iastore, 1) := by decide +kernel
theorem dX12_emit_10 : decode cX12_emit 10 = .ok (.aload_n 0, 1) := by decide +kernel
theorem dX12_emit_11 : decode cX12_emit 11 = .ok (.getfield 86, 3) := by decide +kernel
theorem dX12_emit_14 : decode cX12_emit 14 = .ok (.aload_n 0, 1) := by decide +kernel
theorem dX12_emit_15 : decode cX12_emit 15 = .ok (.getfield 272, 3) := by decide +kernel
theorem dX12_emit_18 : decode cX12_emit 18 = .ok (.iload_n 2, 1) := by decide +kernel
theorem dX12_emit_19 : decode cX12_emit 19 = .ok (.iastore, 1) := by decide +kernel
theorem dX12_emit_20 : decode cX12_emit 20 = .ok (.aload_n 0, 1) := by decide +kernel
theorem dX12_emit_21 : decode cX12_emit 21 = .ok (.dup, 1) := by decide +kernel
theorem dX12_emit_22 : decode cX12_emit 22 = .ok (.getfield 272, 3) := by decide +kernel
theorem dX12_emit_25 : decode cX12_emit 25 = .ok (.iconst 1, 1) := by decide +kernel
theorem dX12_emit_26 : decode cX12_emit 26 = .ok (.iadd, 1) := by decide +kernel
theorem dX12_emit_27 : decode cX12_emit 27 = .ok (.putfield 272, 3) := by decide +kernel
theorem dX12_emit_30 : decode cX12_emit 30 = .ok (.return_, 1) := by decide +kernel
theorem dX12_comesOut_0 : decode cX12_comesOut 0 = .ok (.aload_n 0, 1) := by decide +kernel
theorem dX12_comesOut_1 : decode cX12_comesOut 1 = .ok (.getfield 292, 3) := by decide +kernel
theorem dX12_comesOut_4 : decode cX12_comesOut 4 = .ok (.ifCond .le 88, 3) := by decide +kernel
theorem dX12_comesOut_7 : decode cX12_comesOut 7 = .ok (.aload_n 0, 1) := by decide +kernel
theorem dX12_comesOut_8 : decode cX12_comesOut 8 = .ok (.getfield 89, 3) := by decide +kernel
theorem dX12_comesOut_11 : decode cX12_comesOut 11 = .ok (.aload_n 0, 1) := by decide +kernel
theorem dX12_comesOut_12 : decode cX12_comesOut 12 = .ok (.getfield 292, 3) := by decide +kernel
theorem dX12_comesOut_15 : decode cX12_comesOut 15 = .ok (.iconst 1, 1) := by decide +kernel
theorem dX12_comesOut_16 : decode cX12_comesOut 16 = .ok (.isub, 1) := by decide +kernel
theorem dX12_comesOut_17 : decode cX12_comesOut 17 = .ok (.iaload, 1) := by decide +kernel
theorem dX12_comesOut_18 : decode cX12_comesOut 18 = .ok (.bipush 6, 2) := by decide +kernel
theorem dX12_comesOut_20 : decode cX12_comesOut 20 = .ok (.if_icmp .eq 72, 3) := by decide +kernel
theorem dX12_comesOut_23 : decode cX12_comesOut 23 = .ok (.iload_n 1, 1) := by decide +kernel
theorem dX12_comesOut_24 : decode cX12_comesOut 24 = .ok (.ifCond .eq 19, 3) := by decide +kernel
theorem dX12_comesOut_27 : decode cX12_comesOut 27 = .ok (.aload_n 0, 1) := by decide +kernel
theorem dX12_comesOut_28 : decode cX12_comesOut 28 = .ok (.getfield 89, 3) := by decide +kernel
theorem dX12_comesOut_31 : decode cX12_comesOut 31 = .ok (.aload_n 0, 1) := by decide +kernel
theorem dX12_comesOut_32 : decode cX12_comesOut 32 = .ok (.getfield 292, 3) := by decide +kernel
theorem dX12_comesOut_35 : decode cX12_comesOut 35 = .ok (.iconst 1, 1) := by decide +kernel
theorem dX12_comesOut_36 : decode cX12_comesOut 36 = .ok (.isub, 1) := by decide +kernel
theorem dX12_comesOut_37 : decode cX12_comesOut 37 = .ok (.iaload, 1) := by decide +kernel
theorem dX12_comesOut_38 : decode cX12_comesOut 38 = .ok (.bipush 10, 2) := by decide +kernel
theorem dX12_comesOut_40 : decode cX12_comesOut 40 = .ok (.if_icmp .ne 52, 3) := by decide +kernel
theorem dX12_comesOut_43 : decode cX12_comesOut 43 = .ok (.aload_n 0, 1) := by decide +kernel
theorem dX12_comesOut_44 : decode cX12_comesOut 44 = .ok (.dup, 1) := by decide +kernel
theorem dX12_comesOut_45 : decode cX12_comesOut 45 = .ok (.getfield 292, 3) := by decide +kernel
theorem dX12_comesOut_48 : decode cX12_comesOut 48 = .ok (.iconst 1, 1) := by decide +kernel
theorem dX12_comesOut_49 : decode cX12_comesOut 49 = .ok (.isub, 1) := by decide +kernel
theorem dX12_comesOut_50 : decode cX12_comesOut 50 = .ok (.putfield 292, 3) := by decide +kernel
theorem dX12_comesOut_53 : decode cX12_comesOut 53 = .ok (.aload_n 0, 1) := by decide +kernel
theorem dX12_comesOut_54 : decode cX12_comesOut 54 = .ok (.getfield 89, 3) := by decide +kernel
theorem dX12_comesOut_57 : decode cX12_comesOut 57 = .ok (.aload_n 0, 1) := by decide +kernel
theorem dX12_comesOut_58 : decode cX12_comesOut 58 = .ok (.getfield 292, 3) := by decide +kernel
theorem dX12_comesOut_61 : decode cX12_comesOut 61 = .ok (.iaload, 1) := by decide +kernel
theorem dX12_comesOut_62 : decode cX12_comesOut 62 = .ok (.istore_n 2, 1) := by decide +kernel
theorem dX12_comesOut_63 : decode cX12_comesOut 63 = .ok (.aload_n 0, 1) := by decide +kernel
theorem dX12_comesOut_64 : decode cX12_comesOut 64 = .ok (.iload_n 2, 1) := by decide +kernel
theorem dX12_comesOut_65 : decode cX12_comesOut 65 = .ok (.bipush 8, 2) := by decide +kernel
theorem dX12_comesOut_67 : decode cX12_comesOut 67 = .ok (.if_icmp .ne 7, 3) := by decide +kernel
theorem dX12_comesOut_70 : decode cX12_comesOut 70 = .ok (.iconst 2, 1) := by decide +kernel
theorem dX12_comesOut_71 : decode cX12_comesOut 71 = .ok (.goto 14, 3) := by decide +kernel
theorem dX12_comesOut_74 : decode cX12_comesOut 74 = .ok (.iload_n 2, 1) := by decide +kernel
theorem dX12_comesOut_75 : decode cX12_comesOut 75 = .ok (.bipush 9, 2) := by decide +kernel
theorem dX12_comesOut_77 : decode cX12_comesOut 77 = .ok (.if_icmp .ne 7, 3) := by decide +kernel
theorem dX12_comesOut_80 : decode cX12_comesOut 80 = .ok (.iconst 3, 1) := by decide +kernel
theorem dX12_comesOut_81 : decode cX12_comesOut 81 = .ok (.goto 4, 3) := by decide +kernel
theorem dX12_comesOut_84 : decode cX12_comesOut 84 = .ok (.iconst 4, 1) := by decide +kernel
theorem dX12_comesOut_85 : decode cX12_comesOut 85 = .ok (.iconst 0, 1) := by decide +kernel
theorem dX12_comesOut_86 : decode cX12_comesOut 86 = .ok (.invokevirtual 295, 3) := by decide +kernel
theorem dX12_comesOut_89 : decode cX12_comesOut 89 = .ok (.goto (-89), 3) := by decide +kernel
theorem dX12_comesOut_92 : decode cX12_comesOut 92 = .ok (.return_, 1) := by decide +kernel
theorem dX12_expression_0 : decode cX12_expression 0 = .ok (.aload_n 0, 1) := by decide +kernel
theorem dX12_expression_1 : decode cX12_expression 1 = .ok (.iconst 0, 1) := by decide +kernel
theorem dX12_expression_2 : decode cX12_expression 2 = .ok (.putfield 292, 3) := by decide +kernel
theorem dX12_expression_5 : decode cX12_expression 5 = .ok (.aload_n 0, 1) := by decide +kernel
theorem dX12_expression_6 : decode cX12_expression 6 = .ok (.getfield 263, 3) := by decide +kernel
theorem dX12_expression_9 : decode cX12_expression 9 = .ok (.istore_n 1, 1) := by decide +kernel
theorem dX12_expression_10 : decode cX12_expression 10 = .ok (.iconst 1, 1) := by decide +kernel
theorem dX12_expression_11 : decode cX12_expression 11 = .ok (.istore_n 2, 1) := by decide +kernel
theorem dX12_expression_12 : decode cX12_expression 12 = .ok (.iload_n 2, 1) := by decide +kernel
theorem dX12_expression_13 : decode cX12_expression 13 = .ok (.ifCond .eq 347, 3) := by decide +kernel
theorem dX12_expression_16 : decode cX12_expression 16 = .ok (.aload_n 0, 1) := by decide +kernel
theorem dX12_expression_17 : decode cX12_expression 17 = .ok (.getfield 236, 3) := by decide +kernel
theorem dX12_expression_20 : decode cX12_expression 20 = .ok (.ifCond .ne 340, 3) := by decide +kernel
theorem dX12_expression_23 : decode cX12_expression 23 = .ok (.aload_n 0, 1) := by decide +kernel
theorem dX12_expression_24 : decode cX12_expression 24 = .ok (.bipush 6, 2) := by decide +kernel
theorem dX12_expression_26 : decode cX12_expression 26 = .ok (.invokevirtual 254, 3) := by decide +kernel
theorem dX12_expression_29 : decode cX12_expression 29 = .ok (.ifCond .eq 63, 3) := by decide +kernel
theorem dX12_expression_32 : decode cX12_expression 32 = .ok (.aload_n 0, 1) := by decide +kernel
theorem dX12_expression_33 : decode cX12_expression 33 = .ok (.getfield 263, 3) := by decide +kernel
theorem dX12_expression_36 : decode cX12_expression 36 = .ok (.bipush 6, 2) := by decide +kernel
theorem dX12_expression_38 : decode cX12_expression 38 = .ok (.if_icmp .ne 8, 3) := by decide +kernel
theorem dX12_expression_41 : decode cX12_expression 41 = .ok (.aload_n 0, 1) := by decide +kernel
theorem dX12_expression_42 : decode cX12_expression 42 = .ok (.iconst 2, 1) := by decide +kernel
theorem dX12_expression_43 : decode cX12_expression 43 = .ok (.invokevirtual 251, 3) := by decide +kernel
theorem dX12_expression_46 : decode cX12_expression 46 = .ok (.aload_n 0, 1) := by decide +kernel
theorem dX12_expression_47 : decode cX12_expression 47 = .ok (.getfield 236, 3) := by decide +kernel
theorem dX12_expression_50 : decode cX12_expression 50 = .ok (.ifCond .le 4, 3) := by decide +kernel
theorem dX12_expression_53 : decode cX12_expression 53 = .ok (.return_, 1) := by decide +kernel
theorem dX12_expression_54 : decode cX12_expression 54 = .ok (.aload_n 0, 1) := by decide +kernel
theorem dX12_expression_55 : decode cX12_expression 55 = .ok (.dup, 1) := by decide +kernel
theorem dX12_expression_56 : decode cX12_expression 56 = .ok (.getfield 263, 3) := by decide +kernel
theorem dX12_expression_59 : decode cX12_expression 59 = .ok (.iconst 1, 1) := by decide +kernel
theorem dX12_expression_60 : decode cX12_expression 60 = .ok (.iadd, 1) := by decide +kernel
theorem dX12_expression_61 : decode cX12_expression 61 = .ok (.putfield 263, 3) := by decide +kernel
theorem dX12_expression_64 : decode cX12_expression 64 = .ok (.aload_n 0, 1) := by decide +kernel
theorem dX12_expression_65 : decode cX12_expression 65 = .ok (.invokevirtual 257, 3) := by decide +kernel
theorem dX12_expression_68 : decode cX12_expression 68 = .ok (.aload_n 0, 1) := by decide +kernel
theorem dX12_expression_69 : decode cX12_expression 69 = .ok (.getfield 89, 3) := by decide +kernel
theorem dX12_expression_72 : decode cX12_expression 72 = .ok (.aload_n 0, 1) := by decide +kernel
theorem dX12_expression_73 : decode cX12_expression 73 = .ok (.getfield 292, 3) := by decide +kernel
theorem dX12_expression_76 : decode cX12_expression 76 = .ok (.bipush 6, 2) := by decide +kernel
theorem dX12_expression_78 : decode cX12_expression 78 = .ok (.iastore, 1) := by decide +kernel
theorem dX12_expression_79 : decode cX12_expression 79 = .ok (.aload_n 0, 1) := by decide +kernel
theorem dX12_expression_80 : decode cX12_expression 80 = .ok (.dup, 1) := by decide +kernel
theorem dX12_expression_81 : decode cX12_expression 81 = .ok (.getfield 292, 3) := by decide +kernel
theorem dX12_expression_84 : decode cX12_expression 84 = .ok (.iconst 1, 1) := by decide +kernel
theorem dX12_expression_85 : decode cX12_expression 85 = .ok (.iadd, 1) := by decide +kernel
theorem dX12_expression_86 : decode cX12_expression 86 = .ok (.putfield 292, 3) := by decide +kernel
theorem dX12_expression_89 : decode cX12_expression 89 = .ok (.goto (-77), 3) := by decide +kernel
theorem dX12_expression_92 : decode cX12_expression 92 = .ok (.aload_n 0, 1) := by decide +kernel
theorem dX12_expression_93 : decode cX12_expression 93 = .ok (.getfield 236, 3) := by decide +kernel
theorem dX12_expression_96 : decode cX12_expression 96 = .ok (.ifCond .ne 35, 3) := by decide +kernel
theorem dX12_expression_99 : decode cX12_expression 99 = .ok (.aload_n 0, 1) := by decide +kernel
theorem dX12_expression_100 : decode cX12_expression 100 = .ok (.getfield 20, 3) := by decide +kernel
theorem dX12_expression_103 : decode cX12_expression 103 = .ok (.aload_n 0, 1) := by decide +kernel
theorem dX12_expression_104 : decode cX12_expression 104 = .ok (.getfield 239, 3) := by decide +kernel
theorem dX12_expression_107 : decode cX12_expression 107 = .ok (.iaload, 1) := by decide +kernel
theorem dX12_expression_108 : decode cX12_expression 108 = .ok (.bipush 27, 2) := by decide +kernel
theorem dX12_expression_110 : decode cX12_expression 110 = .ok (.if_icmp .lt 21, 3) := by decide +kernel
theorem dX12_expression_113 : decode cX12_expression 113 = .ok (.aload_n 0, 1) := by decide +kernel
theorem dX12_expression_114 : decode cX12_expression 114 = .ok (.getfield 20, 3) := by decide +kernel
theorem dX12_expression_117 : decode cX12_expression 117 = .ok (.aload_n 0, 1) := by decide +kernel
theorem dX12_expression_118 : decode cX12_expression 118 = .ok (.getfield 239, 3) := by decide +kernel
theorem dX12_expression_121 : decode cX12_expression 121 = .ok (.iaload, 1) := by decide +kernel
theorem dX12_expression_122 : decode cX12_expression 122 = .ok (.bipush 35, 2) := by decide +kernel
theorem dX12_expression_124 : decode cX12_expression 124 = .ok (.if_icmp .gt 7, 3) := by decide +kernel
theorem dX12_expression_127 : decode cX12_expression 127 = .ok (.iconst 1, 1) := by decide +kernel
theorem dX12_expression_128 : decode cX12_expression 128 = .ok (.goto 4, 3) := by decide +kernel
theorem dX12_expression_131 : decode cX12_expression 131 = .ok (.iconst 0, 1) := by decide +kernel
theorem dX12_expression_132 : decode cX12_expression 132 = .ok (.istore_n 3, 1) := by decide +kernel
theorem dX12_expression_133 : decode cX12_expression 133 = .ok (.aload_n 0, 1) := by decide +kernel
theorem dX12_expression_134 : decode cX12_expression 134 = .ok (.iconst 2, 1) := by decide +kernel
theorem dX12_expression_135 : decode cX12_expression 135 = .ok (.invokevirtual 254, 3) := by decide +kernel
theorem dX12_expression_138 : decode cX12_expression 138 = .ok (.ifCond .ne 12, 3) := by decide +kernel
theorem dX12_expression_141 : decode cX12_expression 141 = .ok (.iload_n 3, 1) := by decide +kernel
theorem dX12_expression_142 : decode cX12_expression 142 = .ok (.ifCond .ne 8, 3) := by decide +kernel
theorem dX12_expression_145 : decode cX12_expression 145 = .ok (.aload_n 0, 1) := by decide +kernel
theorem dX12_expression_146 : decode cX12_expression 146 = .ok (.iconst 1, 1) := by decide +kernel
theorem dX12_expression_147 : decode cX12_expression 147 = .ok (.invokevirtual 251, 3) := by decide +kernel
theorem dX12_expression_150 : decode cX12_expression 150 = .ok (.aload_n 0, 1) := by decide +kernel
theorem dX12_expression_151 : decode cX12_expression 151 = .ok (.getfield 236, 3) := by decide +kernel
theorem dX12_expression_154 : decode cX12_expression 154 = .ok (.ifCond .le 4, 3) := by decide +kernel
theorem dX12_expression_157 : decode cX12_expression 157 = .ok (.return_, 1) := by decide +kernel
theorem dX12_expression_158 : decode cX12_expression 158 = .ok (.iload_n 3, 1) := by decide +kernel
theorem dX12_expression_159 : decode cX12_expression 159 = .ok (.ifCond .eq 23, 3) := by decide +kernel
theorem dX12_expression_162 : decode cX12_expression 162 = .ok (.aload_n 0, 1) := by decide +kernel
theorem dX12_expression_163 : decode cX12_expression 163 = .ok (.iconst 1, 1) := by decide +kernel
theorem dX12_expression_164 : decode cX12_expression 164 = .ok (.aload_n 0, 1) := by decide +kernel
theorem dX12_expression_165 : decode cX12_expression 165 = .ok (.getfield 20, 3) := by decide +kernel
theorem dX12_expression_168 : decode cX12_expression 168 = .ok (.aload_n 0, 1) := by decide +kernel
theorem dX12_expression_169 : decode cX12_expression 169 = .ok (.getfield 239, 3) := by decide +kernel
theorem dX12_expression_172 : decode cX12_expression 172 = .ok (.iaload, 1) := by decide +kernel
theorem dX12_expression_173 : decode cX12_expression 173 = .ok (.bipush 27, 2) := by decide +kernel
theorem dX12_expression_175 : decode cX12_expression 175 = .ok (.isub, 1) := by decide +kernel
theorem dX12_expression_176 : decode cX12_expression 176 = .ok (.invokevirtual 295, 3) := by decide +kernel
theorem dX12_expression_179 : decode cX12_expression 179 = .ok (.goto 17, 3) := by decide +kernel
theorem dX12_expression_182 : decode cX12_expression 182 = .ok (.aload_n 0, 1) := by decide +kernel
theorem dX12_expression_183 : decode cX12_expression 183 = .ok (.iconst 0, 1) := by decide +kernel
theorem dX12_expression_184 : decode cX12_expression 184 = .ok (.aload_n 0, 1) := by decide +kernel
theorem dX12_expression_185 : decode cX12_expression 185 = .ok (.getfield 27, 3) := by decide +kernel
theorem dX12_expression_188 : decode cX12_expression 188 = .ok (.aload_n 0, 1) := by decide +kernel
theorem dX12_expression_189 : decode cX12_expression 189 = .ok (.getfield 239, 3) := by decide +kernel
theorem dX12_expression_192 : decode cX12_expression 192 = .ok (.iaload, 1) := by decide +kernel
theorem dX12_expression_193 : decode cX12_expression 193 = .ok (.invokevirtual 295, 3) := by decide +kernel
theorem dX12_expression_196 : decode cX12_expression 196 = .ok (.aload_n 0, 1) := by decide +kernel
theorem dX12_expression_197 : decode cX12_expression 197 = .ok (.invokevirtual 257, 3) := by decide +kernel
theorem dX12_expression_200 : decode cX12_expression 200 = .ok (.aload_n 0, 1) := by decide +kernel
theorem dX12_expression_201 : decode cX12_expression 201 = .ok (.bipush 7, 2) := by decide +kernel
theorem dX12_expression_203 : decode cX12_expression 203 = .ok (.invokevirtual 254, 3) := by decide +kernel
theorem dX12_expression_206 : decode cX12_expression 206 = .ok (.ifCond .eq 43, 3) := by decide +kernel
theorem dX12_expression_209 : decode cX12_expression 209 = .ok (.aload_n 0, 1) := by decide +kernel
theorem dX12_expression_210 : decode cX12_expression 210 = .ok (.getfield 263, 3) := by decide +kernel
theorem dX12_expression_213 : decode cX12_expression 213 = .ok (.iload_n 1, 1) := by decide +kernel
theorem dX12_expression_214 : decode cX12_expression 214 = .ok (.if_icmp .le 35, 3) := by decide +kernel
theorem dX12_expression_217 : decode cX12_expression 217 = .ok (.aload_n 0, 1) := by decide +kernel
theorem dX12_expression_218 : decode cX12_expression 218 = .ok (.iconst 0, 1) := by decide +kernel
theorem dX12_expression_219 : decode cX12_expression 219 = .ok (.invokevirtual 299, 3) := by decide +kernel
theorem dX12_expression_222 : decode cX12_expression 222 = .ok (.aload_n 0, 1) := by decide +kernel
theorem dX12_expression_223 : decode cX12_expression 223 = .ok (.dup, 1) := by decide +kernel
theorem dX12_expression_224 : decode cX12_expression 224 = .ok (.getfield 292, 3) := by decide +kernel
theorem dX12_expression_227 : decode cX12_expression 227 = .ok (.iconst 1, 1) := by decide +kernel
theorem dX12_expression_228 : decode cX12_expression 228 = .ok (.isub, 1) := by decide +kernel
theorem dX12_expression_229 : decode cX12_expression 229 = .ok (.putfield 292, 3) := by decide +kernel
theorem dX12_expression_232 : decode cX12_expression 232 = .ok (.aload_n 0, 1) := by decide +kernel
theorem dX12_expression_233 : decode cX12_expression 233 = .ok (.dup, 1) := by decide +kernel
theorem dX12_expression_234 : decode cX12_expression 234 = .ok (.getfield 263, 3) := by decide +kernel
theorem dX12_expression_237 : decode cX12_expression 237 = .ok (.iconst 1, 1) := by decide +kernel
theorem dX12_expression_238 : decode cX12_expression 238 = .ok (.isub, 1) := by decide +kernel
theorem dX12_expression_239 : decode cX12_expression 239 = .ok (.putfield 263, 3) := by decide +kernel
theorem dX12_expression_242 : decode cX12_expression 242 = .ok (.aload_n 0, 1) := by decide +kernel
theorem dX12_expression_243 : decode cX12_expression 243 = .ok (.invokevirtual 257, 3) := by decide +kernel
theorem dX12_expression_246 : decode cX12_expression 246 = .ok (.goto (-46), 3) := by decide +kernel
theorem dX12_expression_249 : decode cX12_expression 249 = .ok (.aload_n 0, 1) := by decide +kernel
theorem dX12_expression_250 : decode cX12_expression 250 = .ok (.bipush 8, 2) := by decide +kernel
theorem dX12_expression_252 : decode cX12_expression 252 = .ok (.invokevirtual 254, 3) := by decide +kernel
theorem dX12_expression_255 : decode cX12_expression 255 = .ok (.ifCond .ne 21, 3) := by decide +kernel
theorem dX12_expression_258 : decode cX12_expression 258 = .ok (.aload_n 0, 1) := by decide +kernel
theorem dX12_expression_259 : decode cX12_expression 259 = .ok (.bipush 9, 2) := by decide +kernel
theorem dX12_expression_261 : decode cX12_expression 261 = .ok (.invokevirtual 254, 3) := by decide +kernel
theorem dX12_expression_264 : decode cX12_expression 264 = .ok (.ifCond .ne 12, 3) := by decide +kernel
theorem dX12_expression_267 : decode cX12_expression 267 = .ok (.aload_n 0, 1) := by decide +kernel
theorem dX12_expression_268 : decode cX12_expression 268 = .ok (.bipush 10, 2) := by decide +kernel
theorem dX12_expression_270 : decode cX12_expression 270 = .ok (.invokevirtual 254, 3) := by decide +kernel
theorem dX12_expression_273 : decode cX12_expression 273 = .ok (.ifCond .eq 7, 3) := by decide +kernel
theorem dX12_expression_276 : decode cX12_expression 276 = .ok (.iconst 1, 1) := by decide +kernel
theorem dX12_expression_277 : decode cX12_expression 277 = .ok (.goto 4, 3) := by decide +kernel
theorem dX12_expression_280 : decode cX12_expression 280 = .ok (.iconst 0, 1) := by decide +kernel
theorem dX12_expression_281 : decode cX12_expression 281 = .ok (.istore_n 2, 1) := by decide +kernel
theorem dX12_expression_282 : decode cX12_expression 282 = .ok (.iload_n 2, 1) := by decide +kernel
theorem dX12_expression_283 : decode cX12_expression 283 = .ok (.ifCond .ne 22, 3) := by decide +kernel
theorem dX12_expression_286 : decode cX12_expression 286 = .ok (.aload_n 0, 1) := by decide +kernel
theorem dX12_expression_287 : decode cX12_expression 287 = .ok (.getfield 263, 3) := by decide +kernel
theorem dX12_expression_290 : decode cX12_expression 290 = .ok (.iload_n 1, 1) := by decide +kernel
theorem dX12_expression_291 : decode cX12_expression 291 = .ok (.if_icmp .le 8, 3) := by decide +kernel
theorem dX12_expression_294 : decode cX12_expression 294 = .ok (.aload_n 0, 1) := by decide +kernel
theorem dX12_expression_295 : decode cX12_expression 295 = .ok (.iconst 1, 1) := by decide +kernel
theorem dX12_expression_296 : decode cX12_expression 296 = .ok (.invokevirtual 251, 3) := by decide +kernel
theorem dX12_expression_299 : decode cX12_expression 299 = .ok (.aload_n 0, 1) := by decide +kernel
theorem dX12_expression_300 : decode cX12_expression 300 = .ok (.iconst 0, 1) := by decide +kernel
theorem dX12_expression_301 : decode cX12_expression 301 = .ok (.invokevirtual 299, 3) := by decide +kernel
theorem dX12_expression_304 : decode cX12_expression 304 = .ok (.return_, 1) := by decide +kernel
theorem dX12_expression_305 : decode cX12_expression 305 = .ok (.aload_n 0, 1) := by decide +kernel
theorem dX12_expression_306 : decode cX12_expression 306 = .ok (.getfield 20, 3) := by decide +kernel
theorem dX12_expression_309 : decode cX12_expression 309 = .ok (.aload_n 0, 1) := by decide +kernel
theorem dX12_expression_310 : decode cX12_expression 310 = .ok (.getfield 239, 3) := by decide +kernel
theorem dX12_expression_313 : decode cX12_expression 313 = .ok (.iaload, 1) := by decide +kernel
theorem dX12_expression_314 : decode cX12_expression 314 = .ok (.istore 4, 2) := by decide +kernel
theorem dX12_expression_316 : decode cX12_expression 316 = .ok (.aload_n 0, 1) := by decide +kernel
theorem dX12_expression_317 : decode cX12_expression 317 = .ok (.iload 4, 2) := by decide +kernel
theorem dX12_expression_319 : decode cX12_expression 319 = .ok (.bipush 10, 2) := by decide +kernel
theorem dX12_expression_321 : decode cX12_expression 321 = .ok (.if_icmp .ne 7, 3) := by decide +kernel
theorem dX12_expression_324 : decode cX12_expression 324 = .ok (.iconst 1, 1) := by decide +kernel
theorem dX12_expression_325 : decode cX12_expression 325 = .ok (.goto 4, 3) := by decide +kernel
theorem dX12_expression_328 : decode cX12_expression 328 = .ok (.iconst 0, 1) := by decide +kernel
theorem dX12_expression_329 : decode cX12_expression 329 = .ok (.invokevirtual 299, 3) := by decide +kernel
theorem dX12_expression_332 : decode cX12_expression 332 = .ok (.aload_n 0, 1) := by decide +kernel
theorem dX12_expression_333 : decode cX12_expression 333 = .ok (.getfield 89, 3) := by decide +kernel
theorem dX12_expression_336 : decode cX12_expression 336 = .ok (.aload_n 0, 1) := by decide +kernel
theorem dX12_expression_337 : decode cX12_expression 337 = .ok (.getfield 292, 3) := by decide +kernel
theorem dX12_expression_340 : decode cX12_expression 340 = .ok (.iload 4, 2) := by decide +kernel
theorem dX12_expression_342 : decode cX12_expression 342 = .ok (.iastore, 1) := by decide +kernel
theorem dX12_expression_343 : decode cX12_expression 343 = .ok (.aload_n 0, 1) := by decide +kernel
theorem dX12_expression_344 : decode cX12_expression 344 = .ok (.dup, 1) := by decide +kernel
theorem dX12_expression_345 : decode cX12_expression 345 = .ok (.getfield 292, 3) := by decide +kernel
theorem dX12_expression_348 : decode cX12_expression 348 = .ok (.iconst 1, 1) := by decide +kernel
theorem dX12_expression_349 : decode cX12_expression 349 = .ok (.iadd, 1) := by decide +kernel
theorem dX12_expression_350 : decode cX12_expression 350 = .ok (.putfield 292, 3) := by decide +kernel
theorem dX12_expression_353 : decode cX12_expression 353 = .ok (.aload_n 0, 1) := by decide +kernel
theorem dX12_expression_354 : decode cX12_expression 354 = .ok (.invokevirtual 257, 3) := by decide +kernel
theorem dX12_expression_357 : decode cX12_expression 357 = .ok (.goto (-345), 3) := by decide +kernel
theorem dX12_expression_360 : decode cX12_expression 360 = .ok (.return_, 1) := by decide +kernel
theorem dX12_isPerson_0 : decode cX12_isPerson 0 = .ok (.iload_n 0, 1) := by decide +kernel
theorem dX12_isPerson_1 : decode cX12_isPerson 1 = .ok (.ifCond .lt 13, 3) := by decide +kernel
theorem dX12_isPerson_4 : decode cX12_isPerson 4 = .ok (.iload_n 0, 1) := by decide +kernel
theorem dX12_isPerson_5 : decode cX12_isPerson 5 = .ok (.bipush 12, 2) := by decide +kernel
theorem dX12_isPerson_7 : decode cX12_isPerson 7 = .ok (.if_icmp .ge 7, 3) := by decide +kernel
theorem dX12_isPerson_10 : decode cX12_isPerson 10 = .ok (.iconst 1, 1) := by decide +kernel
theorem dX12_isPerson_11 : decode cX12_isPerson 11 = .ok (.goto 4, 3) := by decide +kernel
theorem dX12_isPerson_14 : decode cX12_isPerson 14 = .ok (.iconst 0, 1) := by decide +kernel
theorem dX12_isPerson_15 : decode cX12_isPerson 15 = .ok (.ireturn, 1) := by decide +kernel
theorem dX12_isBreed_0 : decode cX12_isBreed 0 = .ok (.iload_n 1, 1) := by decide +kernel
theorem dX12_isBreed_1 : decode cX12_isBreed 1 = .ok (.ifCond .lt 15, 3) := by decide +kernel
theorem dX12_isBreed_4 : decode cX12_isBreed 4 = .ok (.iload_n 1, 1) := by decide +kernel
theorem dX12_isBreed_5 : decode cX12_isBreed 5 = .ok (.aload_n 0, 1) := by decide +kernel
theorem dX12_isBreed_6 : decode cX12_isBreed 6 = .ok (.getfield 302, 3) := by decide +kernel
theorem dX12_isBreed_9 : decode cX12_isBreed 9 = .ok (.if_icmp .ge 7, 3) := by decide +kernel
theorem dX12_isBreed_12 : decode cX12_isBreed 12 = .ok (.iconst 1, 1) := by decide +kernel
theorem dX12_isBreed_13 : decode cX12_isBreed 13 = .ok (.goto 4, 3) := by decide +kernel
theorem dX12_isBreed_16 : decode cX12_isBreed 16 = .ok (.iconst 0, 1) := by decide +kernel
theorem dX12_isBreed_17 : decode cX12_isBreed 17 = .ok (.ireturn, 1) := by decide +kernel
theorem dX12_isDog_0 : decode cX12_isDog 0 = .ok (.iload_n 1, 1) := by decide +kernel
theorem dX12_isDog_1 : decode cX12_isDog 1 = .ok (.ifCond .lt 15, 3) := by decide +kernel
theorem dX12_isDog_4 : decode cX12_isDog 4 = .ok (.iload_n 1, 1) := by decide +kernel
theorem dX12_isDog_5 : decode cX12_isDog 5 = .ok (.aload_n 0, 1) := by decide +kernel
theorem dX12_isDog_6 : decode cX12_isDog 6 = .ok (.getfield 305, 3) := by decide +kernel
theorem dX12_isDog_9 : decode cX12_isDog 9 = .ok (.if_icmp .ge 7, 3) := by decide +kernel
theorem dX12_isDog_12 : decode cX12_isDog 12 = .ok (.iconst 1, 1) := by decide +kernel
theorem dX12_isDog_13 : decode cX12_isDog 13 = .ok (.goto 4, 3) := by decide +kernel
theorem dX12_isDog_16 : decode cX12_isDog 16 = .ok (.iconst 0, 1) := by decide +kernel
theorem dX12_isDog_17 : decode cX12_isDog 17 = .ok (.ireturn, 1) := by decide +kernel
theorem dX12_isShow_0 : decode cX12_isShow 0 = .ok (.iload_n 1, 1) := by decide +kernel
theorem dX12_isShow_1 : decode cX12_isShow 1 = .ok (.ifCond .lt 15, 3) := by decide +kernel
theorem dX12_isShow_4 : decode cX12_isShow 4 = .ok (.iload_n 1, 1) := by decide +kernel
theorem dX12_isShow_5 : decode cX12_isShow 5 = .ok (.aload_n 0, 1) := by decide +kernel
theorem dX12_isShow_6 : decode cX12_isShow 6 = .ok (.getfield 308, 3) := by decide +kernel
theorem dX12_isShow_9 : decode cX12_isShow 9 = .ok (.if_icmp .ge 7, 3) := by decide +kernel
theorem dX12_isShow_12 : decode cX12_isShow 12 = .ok (.iconst 1, 1) := by decide +kernel
theorem dX12_isShow_13 : decode cX12_isShow 13 = .ok (.goto 4, 3) := by decide +kernel
theorem dX12_isShow_16 : decode cX12_isShow 16 = .ok (.iconst 0, 1) := by decide +kernel
theorem dX12_isShow_17 : decode cX12_isShow 17 = .ok (.ireturn, 1) := by decide +kernel
theorem dX12_isDay_0 : decode cX12_isDay 0 = .ok (.iload_n 0, 1) := by decide +kernel
theorem dX12_isDay_1 : decode cX12_isDay 1 = .ok (.ifCond .lt 14, 3) := by decide +kernel
theorem dX12_isDay_4 : decode cX12_isDay 4 = .ok (.iload_n 0, 1) := by decide +kernel
theorem dX12_isDay_5 : decode cX12_isDay 5 = .ok (.sipush 9999, 3) := by decide +kernel
theorem dX12_isDay_8 : decode cX12_isDay 8 = .ok (.if_icmp .gt 7, 3) := by decide +kernel
theorem dX12_isDay_11 : decode cX12_isDay 11 = .ok (.iconst 1, 1) := by decide +kernel
theorem dX12_isDay_12 : decode cX12_isDay 12 = .ok (.goto 4, 3) := by decide +kernel
theorem dX12_isDay_15 : decode cX12_isDay 15 = .ok (.iconst 0, 1) := by decide +kernel
theorem dX12_isDay_16 : decode cX12_isDay 16 = .ok (.ireturn, 1) := by decide +kernel
theorem dX12_isKnown_0 : decode cX12_isKnown 0 = .ok (.iload_n 1, 1) := by decide +kernel
theorem dX12_isKnown_1 : decode cX12_isKnown 1 = .ok (.ifCond .lt 15, 3) := by decide +kernel
theorem dX12_isKnown_4 : decode cX12_isKnown 4 = .ok (.iload_n 1, 1) := by decide +kernel
theorem dX12_isKnown_5 : decode cX12_isKnown 5 = .ok (.aload_n 0, 1) := by decide +kernel
theorem dX12_isKnown_6 : decode cX12_isKnown 6 = .ok (.getfield 311, 3) := by decide +kernel
theorem dX12_isKnown_9 : decode cX12_isKnown 9 = .ok (.if_icmp .gt 7, 3) := by decide +kernel
theorem dX12_isKnown_12 : decode cX12_isKnown 12 = .ok (.iconst 1, 1) := by decide +kernel
theorem dX12_isKnown_13 : decode cX12_isKnown 13 = .ok (.goto 4, 3) := by decide +kernel
theorem dX12_isKnown_16 : decode cX12_isKnown 16 = .ok (.iconst 0, 1) := by decide +kernel
theorem dX12_isKnown_17 : decode cX12_isKnown 17 = .ok (.ireturn, 1) := by decide +kernel
theorem dX12_kin_0 : decode cX12_kin 0 = .ok (.iload_n 1, 1) := by decide +kernel
theorem dX12_kin_1 : decode cX12_kin 1 = .ok (.invokestatic 314, 3) := by decide +kernel
theorem dX12_kin_4 : decode cX12_kin 4 = .ok (.ifCond .eq 29, 3) := by decide +kernel
theorem dX12_kin_7 : decode cX12_kin 7 = .ok (.iload_n 2, 1) := by decide +kernel
theorem dX12_kin_8 : decode cX12_kin 8 = .ok (.invokestatic 314, 3) := by decide +kernel
theorem dX12_kin_11 : decode cX12_kin 11 = .ok (.ifCond .eq 22, 3) := by decide +kernel
theorem dX12_kin_14 : decode cX12_kin 14 = .ok (.iload_n 1, 1) := by decide +kernel
theorem dX12_kin_15 : decode cX12_kin 15 = .ok (.iload_n 2, 1) := by decide +kernel
theorem dX12_kin_16 : decode cX12_kin 16 = .ok (.if_icmp .eq 17, 3) := by decide +kernel
theorem dX12_kin_19 : decode cX12_kin 19 = .ok (.aload_n 0, 1) := by decide +kernel
theorem dX12_kin_20 : decode cX12_kin 20 = .ok (.getfield 92, 3) := by decide +kernel
theorem dX12_kin_23 : decode cX12_kin 23 = .ok (.bipush 12, 2) := by decide +kernel
theorem dX12_kin_25 : decode cX12_kin 25 = .ok (.iload_n 1, 1) := by decide +kernel
theorem dX12_kin_26 : decode cX12_kin 26 = .ok (.imul, 1) := by decide +kernel
theorem dX12_kin_27 : decode cX12_kin 27 = .ok (.iload_n 2, 1) := by decide +kernel
theorem dX12_kin_28 : decode cX12_kin 28 = .ok (.iadd, 1) := by decide +kernel
theorem dX12_kin_29 : decode cX12_kin 29 = .ok (.baload, 1) := by decide +kernel
theorem dX12_kin_30 : decode cX12_kin 30 = .ok (.ifCond .eq 5, 3) := by decide +kernel
theorem dX12_kin_33 : decode cX12_kin 33 = .ok (.iconst 0, 1) := by decide +kernel
theorem dX12_kin_34 : decode cX12_kin 34 = .ok (.ireturn, 1) := by decide +kernel
theorem dX12_kin_35 : decode cX12_kin 35 = .ok (.aload_n 0, 1) := by decide +kernel
theorem dX12_kin_36 : decode cX12_kin 36 = .ok (.getfield 92, 3) := by decide +kernel
theorem dX12_kin_39 : decode cX12_kin 39 = .ok (.bipush 12, 2) := by decide +kernel
theorem dX12_kin_41 : decode cX12_kin 41 = .ok (.iload_n 1, 1) := by decide +kernel
theorem dX12_kin_42 : decode cX12_kin 42 = .ok (.imul, 1) := by decide +kernel
theorem dX12_kin_43 : decode cX12_kin 43 = .ok (.iload_n 2, 1) := by decide +kernel
theorem dX12_kin_44 : decode cX12_kin 44 = .ok (.iadd, 1) := by decide +kernel
theorem dX12_kin_45 : decode cX12_kin 45 = .ok (.iconst 1, 1) := by decide +kernel
theorem dX12_kin_46 : decode cX12_kin 46 = .ok (.bastore, 1) := by decide +kernel
theorem dX12_kin_47 : decode cX12_kin 47 = .ok (.aload_n 0, 1) := by decide +kernel
theorem dX12_kin_48 : decode cX12_kin 48 = .ok (.getfield 92, 3) := by decide +kernel
theorem dX12_kin_51 : decode cX12_kin 51 = .ok (.bipush 12, 2) := by decide +kernel
theorem dX12_kin_53 : decode cX12_kin 53 = .ok (.iload_n 2, 1) := by decide +kernel
theorem dX12_kin_54 : decode cX12_kin 54 = .ok (.imul, 1) := by decide +kernel
theorem dX12_kin_55 : decode cX12_kin 55 = .ok (.iload_n 1, 1) := by decide +kernel
theorem dX12_kin_56 : decode cX12_kin 56 = .ok (.iadd, 1) := by decide +kernel
theorem dX12_kin_57 : decode cX12_kin 57 = .ok (.iconst 1, 1) := by decide +kernel
theorem dX12_kin_58 : decode cX12_kin 58 = .ok (.bastore, 1) := by decide +kernel
theorem dX12_kin_59 : decode cX12_kin 59 = .ok (.iconst 1, 1) := by decide +kernel
theorem dX12_kin_60 : decode cX12_kin 60 = .ok (.ireturn, 1) := by decide +kernel
theorem dX12_breed_0 : decode cX12_breed 0 = .ok (.aload_n 0, 1) := by decide +kernel
theorem dX12_breed_1 : decode cX12_breed 1 = .ok (.getfield 302, 3) := by decide +kernel
theorem dX12_breed_4 : decode cX12_breed 4 = .ok (.bipush 6, 2) := by decide +kernel
theorem dX12_breed_6 : decode cX12_breed 6 = .ok (.if_icmp .eq 40, 3) := by decide +kernel
theorem dX12_breed_9 : decode cX12_breed 9 = .ok (.iload_n 1, 1) := by decide +kernel
theorem dX12_breed_10 : decode cX12_breed 10 = .ok (.ifCond .lt 36, 3) := by decide +kernel
theorem dX12_breed_13 : decode cX12_breed 13 = .ok (.iload_n 1, 1) := by decide +kernel
theorem dX12_breed_14 : decode cX12_breed 14 = .ok (.iconst 2, 1) := by decide +kernel
theorem dX12_breed_15 : decode cX12_breed 15 = .ok (.if_icmp .gt 31, 3) := by decide +kernel
theorem dX12_breed_18 : decode cX12_breed 18 = .ok (.iload_n 2, 1) := by decide +kernel
theorem dX12_breed_19 : decode cX12_breed 19 = .ok (.iconst 1, 1) := by decide +kernel
theorem dX12_breed_20 : decode cX12_breed 20 = .ok (.if_icmp .lt 26, 3) := by decide +kernel
theorem dX12_breed_23 : decode cX12_breed 23 = .ok (.iload_n 2, 1) := by decide +kernel
theorem dX12_breed_24 : decode cX12_breed 24 = .ok (.bipush 9, 2) := by decide +kernel
theorem dX12_breed_26 : decode cX12_breed 26 = .ok (.if_icmp .gt 20, 3) := by decide +kernel
theorem dX12_breed_29 : decode cX12_breed 29 = .ok (.iload_n 3, 1) := by decide +kernel
theorem dX12_breed_30 : decode cX12_breed 30 = .ok (.ifCond .lt 16, 3) := by decide +kernel
theorem dX12_breed_33 : decode cX12_breed 33 = .ok (.iload_n 3, 1) := by decide +kernel
theorem dX12_breed_34 : decode cX12_breed 34 = .ok (.iload 4, 2) := by decide +kernel
theorem dX12_breed_36 : decode cX12_breed 36 = .ok (.if_icmp .gt 10, 3) := by decide +kernel
theorem dX12_breed_39 : decode cX12_breed 39 = .ok (.iload 4, 2) := by decide +kernel
theorem dX12_breed_41 : decode cX12_breed 41 = .ok (.bipush 99, 2) := by decide +kernel
theorem dX12_breed_43 : decode cX12_breed 43 = .ok (.if_icmp .le 5, 3) := by decide +kernel
theorem dX12_breed_46 : decode cX12_breed 46 = .ok (.iconst (-1), 1) := by decide +kernel
theorem dX12_breed_47 : decode cX12_breed 47 = .ok (.ireturn, 1) := by decide +kernel
theorem dX12_breed_48 : decode cX12_breed 48 = .ok (.aload_n 0, 1) := by decide +kernel
theorem dX12_breed_49 : decode cX12_breed 49 = .ok (.getfield 98, 3) := by decide +kernel
theorem dX12_breed_52 : decode cX12_breed 52 = .ok (.aload_n 0, 1) := by decide +kernel
theorem dX12_breed_53 : decode cX12_breed 53 = .ok (.getfield 302, 3) := by decide +kernel
theorem dX12_breed_56 : decode cX12_breed 56 = .ok (.iload_n 1, 1) := by decide +kernel
theorem dX12_breed_57 : decode cX12_breed 57 = .ok (.iastore, 1) := by decide +kernel
theorem dX12_breed_58 : decode cX12_breed 58 = .ok (.aload_n 0, 1) := by decide +kernel
theorem dX12_breed_59 : decode cX12_breed 59 = .ok (.getfield 101, 3) := by decide +kernel
theorem dX12_breed_62 : decode cX12_breed 62 = .ok (.aload_n 0, 1) := by decide +kernel
theorem dX12_breed_63 : decode cX12_breed 63 = .ok (.getfield 302, 3) := by decide +kernel
theorem dX12_breed_66 : decode cX12_breed 66 = .ok (.iload_n 2, 1) := by decide +kernel
theorem dX12_breed_67 : decode cX12_breed 67 = .ok (.iastore, 1) := by decide +kernel
theorem dX12_breed_68 : decode cX12_breed 68 = .ok (.aload_n 0, 1) := by decide +kernel
theorem dX12_breed_69 : decode cX12_breed 69 = .ok (.getfield 104, 3) := by decide +kernel
theorem dX12_breed_72 : decode cX12_breed 72 = .ok (.aload_n 0, 1) := by decide +kernel
theorem dX12_breed_73 : decode cX12_breed 73 = .ok (.getfield 302, 3) := by decide +kernel
theorem dX12_breed_76 : decode cX12_breed 76 = .ok (.iload_n 3, 1) := by decide +kernel
theorem dX12_breed_77 : decode cX12_breed 77 = .ok (.iastore, 1) := by decide +kernel
theorem dX12_breed_78 : decode cX12_breed 78 = .ok (.aload_n 0, 1) := by decide +kernel
theorem dX12_breed_79 : decode cX12_breed 79 = .ok (.getfield 107, 3) := by decide +kernel
theorem dX12_breed_82 : decode cX12_breed 82 = .ok (.aload_n 0, 1) := by decide +kernel
theorem dX12_breed_83 : decode cX12_breed 83 = .ok (.getfield 302, 3) := by decide +kernel
theorem dX12_breed_86 : decode cX12_breed 86 = .ok (.iload 4, 2) := by decide +kernel
theorem dX12_breed_88 : decode cX12_breed 88 = .ok (.iastore, 1) := by decide +kernel
theorem dX12_breed_89 : decode cX12_breed 89 = .ok (.aload_n 0, 1) := by decide +kernel
theorem dX12_breed_90 : decode cX12_breed 90 = .ok (.dup, 1) := by decide +kernel
theorem dX12_breed_91 : decode cX12_breed 91 = .ok (.getfield 302, 3) := by decide +kernel
theorem dX12_breed_94 : decode cX12_breed 94 = .ok (.iconst 1, 1) := by decide +kernel
theorem dX12_breed_95 : decode cX12_breed 95 = .ok (.iadd, 1) := by decide +kernel
theorem dX12_breed_96 : decode cX12_breed 96 = .ok (.putfield 302, 3) := by decide +kernel
theorem dX12_breed_99 : decode cX12_breed 99 = .ok (.aload_n 0, 1) := by decide +kernel
theorem dX12_breed_100 : decode cX12_breed 100 = .ok (.getfield 302, 3) := by decide +kernel
theorem dX12_breed_103 : decode cX12_breed 103 = .ok (.iconst 1, 1) := by decide +kernel
theorem dX12_breed_104 : decode cX12_breed 104 = .ok (.isub, 1) := by decide +kernel
theorem dX12_breed_105 : decode cX12_breed 105 = .ok (.ireturn, 1) := by decide +kernel
theorem dX12_dog_0 : decode cX12_dog 0 = .ok (.aload_n 0, 1) := by decide +kernel
theorem dX12_dog_1 : decode cX12_dog 1 = .ok (.getfield 305, 3) := by decide +kernel
theorem dX12_dog_4 : decode cX12_dog 4 = .ok (.bipush 20, 2) := by decide +kernel
theorem dX12_dog_6 : decode cX12_dog 6 = .ok (.if_icmp .eq 43, 3) := by decide +kernel
theorem dX12_dog_9 : decode cX12_dog 9 = .ok (.aload_n 0, 1) := by decide +kernel
theorem dX12_dog_10 : decode cX12_dog 10 = .ok (.iload_n 1, 1) := by decide +kernel
theorem dX12_dog_11 : decode cX12_dog 11 = .ok (.invokevirtual 317, 3) := by decide +kernel
theorem dX12_dog_14 : decode cX12_dog 14 = .ok (.ifCond .eq 35, 3) := by decide +kernel
theorem dX12_dog_17 : decode cX12_dog 17 = .ok (.iload_n 2, 1) := by decide +kernel
theorem dX12_dog_18 : decode cX12_dog 18 = .ok (.invokestatic 320, 3) := by decide +kernel
theorem dX12_dog_21 : decode cX12_dog 21 = .ok (.ifCond .eq 28, 3) := by decide +kernel
theorem dX12_dog_24 : decode cX12_dog 24 = .ok (.iload_n 3, 1) := by decide +kernel
theorem dX12_dog_25 : decode cX12_dog 25 = .ok (.ifCond .lt 24, 3) := by decide +kernel
theorem dX12_dog_28 : decode cX12_dog 28 = .ok (.iload_n 3, 1) := by decide +kernel
theorem dX12_dog_29 : decode cX12_dog 29 = .ok (.iconst 1, 1) := by decide +kernel
theorem dX12_dog_30 : decode cX12_dog 30 = .ok (.if_icmp .gt 19, 3) := by decide +kernel
theorem dX12_dog_33 : decode cX12_dog 33 = .ok (.iload 4, 2) := by decide +kernel
theorem dX12_dog_35 : decode cX12_dog 35 = .ok (.invokestatic 314, 3) := by decide +kernel
theorem dX12_dog_38 : decode cX12_dog 38 = .ok (.ifCond .eq 11, 3) := by decide +kernel
theorem dX12_dog_41 : decode cX12_dog 41 = .ok (.iload 5, 2) := by decide +kernel
theorem dX12_dog_43 : decode cX12_dog 43 = .ok (.invokestatic 314, 3) := by decide +kernel
theorem dX12_dog_46 : decode cX12_dog 46 = .ok (.ifCond .ne 5, 3) := by decide +kernel
theorem dX12_dog_49 : decode cX12_dog 49 = .ok (.iconst (-1), 1) := by decide +kernel
theorem dX12_dog_50 : decode cX12_dog 50 = .ok (.ireturn, 1) := by decide +kernel
theorem dX12_dog_51 : decode cX12_dog 51 = .ok (.aload_n 0, 1) := by decide +kernel
theorem dX12_dog_52 : decode cX12_dog 52 = .ok (.getfield 110, 3) := by decide +kernel
theorem dX12_dog_55 : decode cX12_dog 55 = .ok (.aload_n 0, 1) := by decide +kernel
theorem dX12_dog_56 : decode cX12_dog 56 = .ok (.getfield 305, 3) := by decide +kernel
theorem dX12_dog_59 : decode cX12_dog 59 = .ok (.iload_n 1, 1) := by decide +kernel
theorem dX12_dog_60 : decode cX12_dog 60 = .ok (.iastore, 1) := by decide +kernel
theorem dX12_dog_61 : decode cX12_dog 61 = .ok (.aload_n 0, 1) := by decide +kernel
theorem dX12_dog_62 : decode cX12_dog 62 = .ok (.getfield 113, 3) := by decide +kernel
theorem dX12_dog_65 : decode cX12_dog 65 = .ok (.aload_n 0, 1) := by decide +kernel
theorem dX12_dog_66 : decode cX12_dog 66 = .ok (.getfield 305, 3) := by decide +kernel
theorem dX12_dog_69 : decode cX12_dog 69 = .ok (.iload_n 2, 1) := by decide +kernel
theorem dX12_dog_70 : decode cX12_dog 70 = .ok (.iastore, 1) := by decide +kernel
theorem dX12_dog_71 : decode cX12_dog 71 = .ok (.aload_n 0, 1) := by decide +kernel
theorem dX12_dog_72 : decode cX12_dog 72 = .ok (.getfield 116, 3) := by decide +kernel
theorem dX12_dog_75 : decode cX12_dog 75 = .ok (.aload_n 0, 1) := by decide +kernel
theorem dX12_dog_76 : decode cX12_dog 76 = .ok (.getfield 305, 3) := by decide +kernel
theorem dX12_dog_79 : decode cX12_dog 79 = .ok (.iload_n 3, 1) := by decide +kernel
theorem dX12_dog_80 : decode cX12_dog 80 = .ok (.iastore, 1) := by decide +kernel
theorem dX12_dog_81 : decode cX12_dog 81 = .ok (.aload_n 0, 1) := by decide +kernel
theorem dX12_dog_82 : decode cX12_dog 82 = .ok (.getfield 119, 3) := by decide +kernel
theorem dX12_dog_85 : decode cX12_dog 85 = .ok (.aload_n 0, 1) := by decide +kernel
theorem dX12_dog_86 : decode cX12_dog 86 = .ok (.getfield 305, 3) := by decide +kernel
theorem dX12_dog_89 : decode cX12_dog 89 = .ok (.iload 4, 2) := by decide +kernel
theorem dX12_dog_91 : decode cX12_dog 91 = .ok (.iastore, 1) := by decide +kernel
theorem dX12_dog_92 : decode cX12_dog 92 = .ok (.aload_n 0, 1) := by decide +kernel
theorem dX12_dog_93 : decode cX12_dog 93 = .ok (.getfield 122, 3) := by decide +kernel
theorem dX12_dog_96 : decode cX12_dog 96 = .ok (.aload_n 0, 1) := by decide +kernel
theorem dX12_dog_97 : decode cX12_dog 97 = .ok (.getfield 305, 3) := by decide +kernel
theorem dX12_dog_100 : decode cX12_dog 100 = .ok (.iload 5, 2) := by decide +kernel
theorem dX12_dog_102 : decode cX12_dog 102 = .ok (.iastore, 1) := by decide +kernel
theorem dX12_dog_103 : decode cX12_dog 103 = .ok (.aload_n 0, 1) := by decide +kernel
theorem dX12_dog_104 : decode cX12_dog 104 = .ok (.dup, 1) := by decide +kernel
theorem dX12_dog_105 : decode cX12_dog 105 = .ok (.getfield 305, 3) := by decide +kernel
theorem dX12_dog_108 : decode cX12_dog 108 = .ok (.iconst 1, 1) := by decide +kernel
theorem dX12_dog_109 : decode cX12_dog 109 = .ok (.iadd, 1) := by decide +kernel
theorem dX12_dog_110 : decode cX12_dog 110 = .ok (.putfield 305, 3) := by decide +kernel
theorem dX12_dog_113 : decode cX12_dog 113 = .ok (.aload_n 0, 1) := by decide +kernel
theorem dX12_dog_114 : decode cX12_dog 114 = .ok (.getfield 305, 3) := by decide +kernel
theorem dX12_dog_117 : decode cX12_dog 117 = .ok (.iconst 1, 1) := by decide +kernel
theorem dX12_dog_118 : decode cX12_dog 118 = .ok (.isub, 1) := by decide +kernel
theorem dX12_dog_119 : decode cX12_dog 119 = .ok (.ireturn, 1) := by decide +kernel
theorem dX12_permits_0 : decode cX12_permits 0 = .ok (.iload_n 1, 1) := by decide +kernel
theorem dX12_permits_1 : decode cX12_permits 1 = .ok (.invokestatic 314, 3) := by decide +kernel
theorem dX12_permits_4 : decode cX12_permits 4 = .ok (.ifCond .eq 13, 3) := by decide +kernel
theorem dX12_permits_7 : decode cX12_permits 7 = .ok (.iload_n 2, 1) := by decide +kernel
theorem dX12_permits_8 : decode cX12_permits 8 = .ok (.ifCond .lt 9, 3) := by decide +kernel
theorem dX12_permits_11 : decode cX12_permits 11 = .ok (.iload_n 2, 1) := by decide +kernel
theorem dX12_permits_12 : decode cX12_permits 12 = .ok (.bipush 63, 2) := by decide +kernel
theorem dX12_permits_14 : decode cX12_permits 14 = .ok (.if_icmp .le 5, 3) := by decide +kernel
theorem dX12_permits_17 : decode cX12_permits 17 = .ok (.iconst 0, 1) := by decide +kernel
theorem dX12_permits_18 : decode cX12_permits 18 = .ok (.ireturn, 1) := by decide +kernel
theorem dX12_permits_19 : decode cX12_permits 19 = .ok (.aload_n 0, 1) := by decide +kernel
theorem dX12_permits_20 : decode cX12_permits 20 = .ok (.getfield 95, 3) := by decide +kernel
theorem dX12_permits_23 : decode cX12_permits 23 = .ok (.iload_n 1, 1) := by decide +kernel
theorem dX12_permits_24 : decode cX12_permits 24 = .ok (.iload_n 2, 1) := by decide +kernel
theorem dX12_permits_25 : decode cX12_permits 25 = .ok (.iastore, 1) := by decide +kernel
theorem dX12_permits_26 : decode cX12_permits 26 = .ok (.iconst 1, 1) := by decide +kernel
theorem dX12_permits_27 : decode cX12_permits 27 = .ok (.ireturn, 1) := by decide +kernel
theorem dX12_rings_0 : decode cX12_rings 0 = .ok (.iload_n 1, 1) := by decide +kernel
theorem dX12_rings_1 : decode cX12_rings 1 = .ok (.iconst 1, 1) := by decide +kernel
theorem dX12_rings_2 : decode cX12_rings 2 = .ok (.if_icmp .lt 8, 3) := by decide +kernel
theorem dX12_rings_5 : decode cX12_rings 5 = .ok (.iload_n 1, 1) := by decide +kernel
theorem dX12_rings_6 : decode cX12_rings 6 = .ok (.iconst 3, 1) := by decide +kernel
theorem dX12_rings_7 : decode cX12_rings 7 = .ok (.if_icmp .le 5, 3) := by decide +kernel
theorem dX12_rings_10 : decode cX12_rings 10 = .ok (.iconst 0, 1) := by decide +kernel
theorem dX12_rings_11 : decode cX12_rings 11 = .ok (.ireturn, 1) := by decide +kernel
theorem dX12_rings_12 : decode cX12_rings 12 = .ok (.aload_n 0, 1) := by decide +kernel
theorem dX12_rings_13 : decode cX12_rings 13 = .ok (.iload_n 1, 1) := by decide +kernel
theorem dX12_rings_14 : decode cX12_rings 14 = .ok (.putfield 195, 3) := by decide +kernel
theorem dX12_rings_17 : decode cX12_rings 17 = .ok (.iconst 1, 1) := by decide +kernel
theorem dX12_rings_18 : decode cX12_rings 18 = .ok (.ireturn, 1) := by decide +kernel
theorem dX12_show_0 : decode cX12_show 0 = .ok (.aload_n 0, 1) := by decide +kernel
theorem dX12_show_1 : decode cX12_show 1 = .ok (.getfield 308, 3) := by decide +kernel
theorem dX12_show_4 : decode cX12_show 4 = .ok (.iconst 5, 1) := by decide +kernel
theorem dX12_show_5 : decode cX12_show 5 = .ok (.if_icmp .eq 32, 3) := by decide +kernel
theorem dX12_show_8 : decode cX12_show 8 = .ok (.iload_n 1, 1) := by decide +kernel
theorem dX12_show_9 : decode cX12_show 9 = .ok (.invokestatic 320, 3) := by decide +kernel
theorem dX12_show_12 : decode cX12_show 12 = .ok (.ifCond .eq 25, 3) := by decide +kernel
theorem dX12_show_15 : decode cX12_show 15 = .ok (.aload_n 0, 1) := by decide +kernel
theorem dX12_show_16 : decode cX12_show 16 = .ok (.getfield 308, 3) := by decide +kernel
theorem dX12_show_19 : decode cX12_show 19 = .ok (.ifCond .le 20, 3) := by decide +kernel
theorem dX12_show_22 : decode cX12_show 22 = .ok (.iload_n 1, 1) := by decide +kernel
theorem dX12_show_23 : decode cX12_show 23 = .ok (.aload_n 0, 1) := by decide +kernel
theorem dX12_show_24 : decode cX12_show 24 = .ok (.getfield 125, 3) := by decide +kernel
theorem dX12_show_27 : decode cX12_show 27 = .ok (.aload_n 0, 1) := by decide +kernel
theorem dX12_show_28 : decode cX12_show 28 = .ok (.getfield 308, 3) := by decide +kernel
theorem dX12_show_31 : decode cX12_show 31 = .ok (.iconst 1, 1) := by decide +kernel
theorem dX12_show_32 : decode cX12_show 32 = .ok (.isub, 1) := by decide +kernel
theorem dX12_show_33 : decode cX12_show 33 = .ok (.iaload, 1) := by decide +kernel
theorem dX12_show_34 : decode cX12_show 34 = .ok (.if_icmp .gt 5, 3) := by decide +kernel
theorem dX12_show_37 : decode cX12_show 37 = .ok (.iconst (-1), 1) := by decide +kernel
theorem dX12_show_38 : decode cX12_show 38 = .ok (.ireturn, 1) := by decide +kernel
theorem dX12_show_39 : decode cX12_show 39 = .ok (.aload_n 0, 1) := by decide +kernel
theorem dX12_show_40 : decode cX12_show 40 = .ok (.getfield 125, 3) := by decide +kernel
theorem dX12_show_43 : decode cX12_show 43 = .ok (.aload_n 0, 1) := by decide +kernel
theorem dX12_show_44 : decode cX12_show 44 = .ok (.getfield 308, 3) := by decide +kernel
theorem dX12_show_47 : decode cX12_show 47 = .ok (.iload_n 1, 1) := by decide +kernel
theorem dX12_show_48 : decode cX12_show 48 = .ok (.iastore, 1) := by decide +kernel
theorem dX12_show_49 : decode cX12_show 49 = .ok (.aload_n 0, 1) := by decide +kernel
theorem dX12_show_50 : decode cX12_show 50 = .ok (.dup, 1) := by decide +kernel
theorem dX12_show_51 : decode cX12_show 51 = .ok (.getfield 308, 3) := by decide +kernel
theorem dX12_show_54 : decode cX12_show 54 = .ok (.iconst 1, 1) := by decide +kernel
theorem dX12_show_55 : decode cX12_show 55 = .ok (.iadd, 1) := by decide +kernel
theorem dX12_show_56 : decode cX12_show 56 = .ok (.putfield 308, 3) := by decide +kernel
theorem dX12_show_59 : decode cX12_show 59 = .ok (.aload_n 0, 1) := by decide +kernel
theorem dX12_show_60 : decode cX12_show 60 = .ok (.getfield 308, 3) := by decide +kernel
theorem dX12_show_63 : decode cX12_show 63 = .ok (.iconst 1, 1) := by decide +kernel
theorem dX12_show_64 : decode cX12_show 64 = .ok (.isub, 1) := by decide +kernel
theorem dX12_show_65 : decode cX12_show 65 = .ok (.ireturn, 1) := by decide +kernel
theorem dX12_tells_0 : decode cX12_tells 0 = .ok (.iload 5, 2) := by decide +kernel
theorem dX12_tells_2 : decode cX12_tells 2 = .ok (.ifCond .ne 5, 3) := by decide +kernel
theorem dX12_tells_5 : decode cX12_tells 5 = .ok (.iconst (-1), 1) := by decide +kernel
theorem dX12_tells_6 : decode cX12_tells 6 = .ok (.ireturn, 1) := by decide +kernel
theorem dX12_tells_7 : decode cX12_tells 7 = .ok (.aload_n 0, 1) := by decide +kernel
theorem dX12_tells_8 : decode cX12_tells 8 = .ok (.getfield 131, 3) := by decide +kernel
theorem dX12_tells_11 : decode cX12_tells 11 = .ok (.aload_n 0, 1) := by decide +kernel
theorem dX12_tells_12 : decode cX12_tells 12 = .ok (.getfield 311, 3) := by decide +kernel
theorem dX12_tells_15 : decode cX12_tells 15 = .ok (.iload_n 1, 1) := by decide +kernel
theorem dX12_tells_16 : decode cX12_tells 16 = .ok (.iastore, 1) := by decide +kernel
theorem dX12_tells_17 : decode cX12_tells 17 = .ok (.aload_n 0, 1) := by decide +kernel
theorem dX12_tells_18 : decode cX12_tells 18 = .ok (.getfield 134, 3) := by decide +kernel
theorem dX12_tells_21 : decode cX12_tells 21 = .ok (.aload_n 0, 1) := by decide +kernel
theorem dX12_tells_22 : decode cX12_tells 22 = .ok (.getfield 311, 3) := by decide +kernel
theorem dX12_tells_25 : decode cX12_tells 25 = .ok (.iload_n 2, 1) := by decide +kernel
theorem dX12_tells_26 : decode cX12_tells 26 = .ok (.iastore, 1) := by decide +kernel
theorem dX12_tells_27 : decode cX12_tells 27 = .ok (.aload_n 0, 1) := by decide +kernel
theorem dX12_tells_28 : decode cX12_tells 28 = .ok (.getfield 137, 3) := by decide +kernel
theorem dX12_tells_31 : decode cX12_tells 31 = .ok (.aload_n 0, 1) := by decide +kernel
theorem dX12_tells_32 : decode cX12_tells 32 = .ok (.getfield 311, 3) := by decide +kernel
theorem dX12_tells_35 : decode cX12_tells 35 = .ok (.iload_n 3, 1) := by decide +kernel
theorem dX12_tells_36 : decode cX12_tells 36 = .ok (.iastore, 1) := by decide +kernel
theorem dX12_tells_37 : decode cX12_tells 37 = .ok (.aload_n 0, 1) := by decide +kernel
theorem dX12_tells_38 : decode cX12_tells 38 = .ok (.getfield 140, 3) := by decide +kernel
theorem dX12_tells_41 : decode cX12_tells 41 = .ok (.aload_n 0, 1) := by decide +kernel
theorem dX12_tells_42 : decode cX12_tells 42 = .ok (.getfield 311, 3) := by decide +kernel
theorem dX12_tells_45 : decode cX12_tells 45 = .ok (.iload 4, 2) := by decide +kernel
theorem dX12_tells_47 : decode cX12_tells 47 = .ok (.iastore, 1) := by decide +kernel
theorem dX12_tells_48 : decode cX12_tells 48 = .ok (.aload_n 0, 1) := by decide +kernel
theorem dX12_tells_49 : decode cX12_tells 49 = .ok (.dup, 1) := by decide +kernel
theorem dX12_tells_50 : decode cX12_tells 50 = .ok (.getfield 311, 3) := by decide +kernel
theorem dX12_tells_53 : decode cX12_tells 53 = .ok (.iconst 1, 1) := by decide +kernel
theorem dX12_tells_54 : decode cX12_tells 54 = .ok (.iadd, 1) := by decide +kernel
theorem dX12_tells_55 : decode cX12_tells 55 = .ok (.putfield 311, 3) := by decide +kernel
theorem dX12_tells_58 : decode cX12_tells 58 = .ok (.aload_n 0, 1) := by decide +kernel
theorem dX12_tells_59 : decode cX12_tells 59 = .ok (.getfield 311, 3) := by decide +kernel
theorem dX12_tells_62 : decode cX12_tells 62 = .ok (.iconst 1, 1) := by decide +kernel
theorem dX12_tells_63 : decode cX12_tells 63 = .ok (.isub, 1) := by decide +kernel
theorem dX12_tells_64 : decode cX12_tells 64 = .ok (.ireturn, 1) := by decide +kernel
theorem dX12_fact_0 : decode cX12_fact 0 = .ok (.aload_n 0, 1) := by decide +kernel
theorem dX12_fact_1 : decode cX12_fact 1 = .ok (.getfield 311, 3) := by decide +kernel
theorem dX12_fact_4 : decode cX12_fact 4 = .ok (.sipush 200, 3) := by decide +kernel
theorem dX12_fact_7 : decode cX12_fact 7 = .ok (.if_icmp .eq 28, 3) := by decide +kernel
theorem dX12_fact_10 : decode cX12_fact 10 = .ok (.iload_n 1, 1) := by decide +kernel
theorem dX12_fact_11 : decode cX12_fact 11 = .ok (.ifCond .lt 24, 3) := by decide +kernel
theorem dX12_fact_14 : decode cX12_fact 14 = .ok (.iload_n 1, 1) := by decide +kernel
theorem dX12_fact_15 : decode cX12_fact 15 = .ok (.iconst 3, 1) := by decide +kernel
theorem dX12_fact_16 : decode cX12_fact 16 = .ok (.if_icmp .gt 19, 3) := by decide +kernel
theorem dX12_fact_19 : decode cX12_fact 19 = .ok (.aload_n 0, 1) := by decide +kernel
theorem dX12_fact_20 : decode cX12_fact 20 = .ok (.iload_n 2, 1) := by decide +kernel
theorem dX12_fact_21 : decode cX12_fact 21 = .ok (.invokevirtual 323, 3) := by decide +kernel
theorem dX12_fact_24 : decode cX12_fact 24 = .ok (.ifCond .eq 11, 3) := by decide +kernel
theorem dX12_fact_27 : decode cX12_fact 27 = .ok (.aload_n 0, 1) := by decide +kernel
theorem dX12_fact_28 : decode cX12_fact 28 = .ok (.iload_n 3, 1) := by decide +kernel
theorem dX12_fact_29 : decode cX12_fact 29 = .ok (.invokevirtual 326, 3) := by decide +kernel
theorem dX12_fact_32 : decode cX12_fact 32 = .ok (.ifCond .ne 5, 3) := by decide +kernel
theorem dX12_fact_35 : decode cX12_fact 35 = .ok (.iconst (-1), 1) := by decide +kernel
theorem dX12_fact_36 : decode cX12_fact 36 = .ok (.ireturn, 1) := by decide +kernel
theorem dX12_fact_37 : decode cX12_fact 37 = .ok (.aload_n 0, 1) := by decide +kernel
theorem dX12_fact_38 : decode cX12_fact 38 = .ok (.iload_n 1, 1) := by decide +kernel
theorem dX12_fact_39 : decode cX12_fact 39 = .ok (.iload_n 2, 1) := by decide +kernel
theorem dX12_fact_40 : decode cX12_fact 40 = .ok (.iload_n 3, 1) := by decide +kernel
theorem dX12_fact_41 : decode cX12_fact 41 = .ok (.iload 4, 2) := by decide +kernel
theorem dX12_fact_43 : decode cX12_fact 43 = .ok (.iload_n 1, 1) := by decide +kernel
theorem dX12_fact_44 : decode cX12_fact 44 = .ok (.ifCond .ne 24, 3) := by decide +kernel
theorem dX12_fact_47 : decode cX12_fact 47 = .ok (.iload 4, 2) := by decide +kernel
theorem dX12_fact_49 : decode cX12_fact 49 = .ok (.iconst 1, 1) := by decide +kernel
theorem dX12_fact_50 : decode cX12_fact 50 = .ok (.if_icmp .lt 14, 3) := by decide +kernel
theorem dX12_fact_53 : decode cX12_fact 53 = .ok (.iload 4, 2) := by decide +kernel
theorem dX12_fact_55 : decode cX12_fact 55 = .ok (.bipush 20, 2) := by decide +kernel
theorem dX12_fact_57 : decode cX12_fact 57 = .ok (.if_icmp .gt 7, 3) := by decide +kernel
theorem dX12_fact_60 : decode cX12_fact 60 = .ok (.iconst 1, 1) := by decide +kernel
theorem dX12_fact_61 : decode cX12_fact 61 = .ok (.goto 42, 3) := by decide +kernel
theorem dX12_fact_64 : decode cX12_fact 64 = .ok (.iconst 0, 1) := by decide +kernel
theorem dX12_fact_65 : decode cX12_fact 65 = .ok (.goto 38, 3) := by decide +kernel
theorem dX12_fact_68 : decode cX12_fact 68 = .ok (.iload_n 1, 1) := by decide +kernel
theorem dX12_fact_69 : decode cX12_fact 69 = .ok (.iconst 3, 1) := by decide +kernel
theorem dX12_fact_70 : decode cX12_fact 70 = .ok (.if_icmp .ne 23, 3) := by decide +kernel
theorem dX12_fact_73 : decode cX12_fact 73 = .ok (.iload 4, 2) := by decide +kernel
theorem dX12_fact_75 : decode cX12_fact 75 = .ok (.ifCond .lt 14, 3) := by decide +kernel
theorem dX12_fact_78 : decode cX12_fact 78 = .ok (.iload 4, 2) := by decide +kernel
theorem dX12_fact_80 : decode cX12_fact 80 = .ok (.bipush 99, 2) := by decide +kernel
theorem dX12_fact_82 : decode cX12_fact 82 = .ok (.if_icmp .gt 7, 3) := by decide +kernel
theorem dX12_fact_85 : decode cX12_fact 85 = .ok (.iconst 1, 1) := by decide +kernel
theorem dX12_fact_86 : decode cX12_fact 86 = .ok (.goto 17, 3) := by decide +kernel
theorem dX12_fact_89 : decode cX12_fact 89 = .ok (.iconst 0, 1) := by decide +kernel
theorem dX12_fact_90 : decode cX12_fact 90 = .ok (.goto 13, 3) := by decide +kernel
theorem dX12_fact_93 : decode cX12_fact 93 = .ok (.iload 4, 2) := by decide +kernel
theorem dX12_fact_95 : decode cX12_fact 95 = .ok (.ifCond .ne 7, 3) := by decide +kernel
theorem dX12_fact_98 : decode cX12_fact 98 = .ok (.iconst 1, 1) := by decide +kernel
theorem dX12_fact_99 : decode cX12_fact 99 = .ok (.goto 4, 3) := by decide +kernel
theorem dX12_fact_102 : decode cX12_fact 102 = .ok (.iconst 0, 1) := by decide +kernel
theorem dX12_fact_103 : decode cX12_fact 103 = .ok (.invokevirtual 329, 3) := by decide +kernel
theorem dX12_fact_106 : decode cX12_fact 106 = .ok (.ireturn, 1) := by decide +kernel
theorem dX12_owned_0 : decode cX12_owned 0 = .ok (.aload_n 0, 1) := by decide +kernel
theorem dX12_owned_1 : decode cX12_owned 1 = .ok (.getfield 311, 3) := by decide +kernel
theorem dX12_owned_4 : decode cX12_owned 4 = .ok (.sipush 200, 3) := by decide +kernel
theorem dX12_owned_7 : decode cX12_owned 7 = .ok (.if_icmp .eq 25, 3) := by decide +kernel
theorem dX12_owned_10 : decode cX12_owned 10 = .ok (.aload_n 0, 1) := by decide +kernel
theorem dX12_owned_11 : decode cX12_owned 11 = .ok (.iload_n 1, 1) := by decide +kernel
theorem dX12_owned_12 : decode cX12_owned 12 = .ok (.invokevirtual 326, 3) := by decide +kernel
theorem dX12_owned_15 : decode cX12_owned 15 = .ok (.ifCond .eq 17, 3) := by decide +kernel
theorem dX12_owned_18 : decode cX12_owned 18 = .ok (.iload_n 2, 1) := by decide +kernel
theorem dX12_owned_19 : decode cX12_owned 19 = .ok (.invokestatic 314, 3) := by decide +kernel
theorem dX12_owned_22 : decode cX12_owned 22 = .ok (.ifCond .eq 10, 3) := by decide +kernel
theorem dX12_owned_25 : decode cX12_owned 25 = .ok (.iload_n 3, 1) := by decide +kernel
theorem dX12_owned_26 : decode cX12_owned 26 = .ok (.invokestatic 320, 3) := by decide +kernel
theorem dX12_owned_29 : decode cX12_owned 29 = .ok (.ifCond .ne 5, 3) := by decide +kernel
theorem dX12_owned_32 : decode cX12_owned 32 = .ok (.iconst (-1), 1) := by decide +kernel
theorem dX12_owned_33 : decode cX12_owned 33 = .ok (.ireturn, 1) := by decide +kernel
theorem dX12_owned_34 : decode cX12_owned 34 = .ok (.aload_n 0, 1) := by decide +kernel
theorem dX12_owned_35 : decode cX12_owned 35 = .ok (.iconst 4, 1) := by decide +kernel
theorem dX12_owned_36 : decode cX12_owned 36 = .ok (.iload_n 3, 1) := by decide +kernel
theorem dX12_owned_37 : decode cX12_owned 37 = .ok (.iload_n 1, 1) := by decide +kernel
theorem dX12_owned_38 : decode cX12_owned 38 = .ok (.iload_n 2, 1) := by decide +kernel
theorem dX12_owned_39 : decode cX12_owned 39 = .ok (.iconst 1, 1) := by decide +kernel
theorem dX12_owned_40 : decode cX12_owned 40 = .ok (.invokevirtual 329, 3) := by decide +kernel
theorem dX12_owned_43 : decode cX12_owned 43 = .ok (.ireturn, 1) := by decide +kernel
theorem dX12_ownedBy_0 : decode cX12_ownedBy 0 = .ok (.iconst (-1), 1) := by decide +kernel
theorem dX12_ownedBy_1 : decode cX12_ownedBy 1 = .ok (.istore 4, 2) := by decide +kernel
theorem dX12_ownedBy_3 : decode cX12_ownedBy 3 = .ok (.iconst 0, 1) := by decide +kernel
theorem dX12_ownedBy_4 : decode cX12_ownedBy 4 = .ok (.istore 5, 2) := by decide +kernel
theorem dX12_ownedBy_6 : decode cX12_ownedBy 6 = .ok (.iload 5, 2) := by decide +kernel
theorem dX12_ownedBy_8 : decode cX12_ownedBy 8 = .ok (.iload_n 3, 1) := by decide +kernel
theorem dX12_ownedBy_9 : decode cX12_ownedBy 9 = .ok (.if_icmp .ge 69, 3) := by decide +kernel
theorem dX12_ownedBy_12 : decode cX12_ownedBy 12 = .ok (.aload_n 0, 1) := by decide +kernel
theorem dX12_ownedBy_13 : decode cX12_ownedBy 13 = .ok (.getfield 131, 3) := by decide +kernel
theorem dX12_ownedBy_16 : decode cX12_ownedBy 16 = .ok (.iload 5, 2) := by decide +kernel
theorem dX12_ownedBy_18 : decode cX12_ownedBy 18 = .ok (.iaload, 1) := by decide +kernel
theorem dX12_ownedBy_19 : decode cX12_ownedBy 19 = .ok (.iconst 4, 1) := by decide +kernel
theorem dX12_ownedBy_20 : decode cX12_ownedBy 20 = .ok (.if_icmp .ne 52, 3) := by decide +kernel
theorem dX12_ownedBy_23 : decode cX12_ownedBy 23 = .ok (.aload_n 0, 1) := by decide +kernel
theorem dX12_ownedBy_24 : decode cX12_ownedBy 24 = .ok (.getfield 137, 3) := by decide +kernel
theorem dX12_ownedBy_27 : decode cX12_ownedBy 27 = .ok (.iload 5, 2) := by decide +kernel
theorem dX12_ownedBy_29 : decode cX12_ownedBy 29 = .ok (.iaload, 1) := by decide +kernel
theorem dX12_ownedBy_30 : decode cX12_ownedBy 30 = .ok (.iload_n 1, 1) := by decide +kernel
theorem dX12_ownedBy_31 : decode cX12_ownedBy 31 = .ok (.if_icmp .ne 41, 3) := by decide +kernel
theorem dX12_ownedBy_34 : decode cX12_ownedBy 34 = .ok (.aload_n 0, 1) := by decide +kernel
theorem dX12_ownedBy_35 : decode cX12_ownedBy 35 = .ok (.getfield 134, 3) := by decide +kernel
theorem dX12_ownedBy_38 : decode cX12_ownedBy 38 = .ok (.iload 5, 2) := by decide +kernel
theorem dX12_ownedBy_40 : decode cX12_ownedBy 40 = .ok (.iaload, 1) := by decide +kernel
theorem dX12_ownedBy_41 : decode cX12_ownedBy 41 = .ok (.iload_n 2, 1) := by decide +kernel
theorem dX12_ownedBy_42 : decode cX12_ownedBy 42 = .ok (.if_icmp .gt 30, 3) := by decide +kernel
theorem dX12_ownedBy_45 : decode cX12_ownedBy 45 = .ok (.iload 4, 2) := by decide +kernel
