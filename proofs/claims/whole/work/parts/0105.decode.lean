theorem dX11_title_9 : decode cX11_title 9 = .ok (.istore_n 3, 1) := by decide +kernel
theorem dX11_title_10 : decode cX11_title 10 = .ok (.aload_n 0, 1) := by decide +kernel
theorem dX11_title_11 : decode cX11_title 11 = .ok (.iload_n 1, 1) := by decide +kernel
theorem dX11_title_12 : decode cX11_title 12 = .ok (.invokevirtual 167, 3) := by decide +kernel
theorem dX11_title_15 : decode cX11_title 15 = .ok (.ifCond .eq 21, 3) := by decide +kernel
theorem dX11_title_18 : decode cX11_title 18 = .ok (.aload_n 0, 1) := by decide +kernel
theorem dX11_title_19 : decode cX11_title 19 = .ok (.iload_n 2, 1) := by decide +kernel
theorem dX11_title_20 : decode cX11_title 20 = .ok (.invokevirtual 201, 3) := by decide +kernel
theorem dX11_title_23 : decode cX11_title 23 = .ok (.ifCond .eq 13, 3) := by decide +kernel
theorem dX11_title_26 : decode cX11_title 26 = .ok (.iload_n 3, 1) := by decide +kernel
theorem dX11_title_27 : decode cX11_title 27 = .ok (.iconst 0, 1) := by decide +kernel
theorem dX11_title_28 : decode cX11_title 28 = .ok (.bipush 15, 2) := by decide +kernel
theorem dX11_title_30 : decode cX11_title 30 = .ok (.invokestatic 133, 3) := by decide +kernel
theorem dX11_title_33 : decode cX11_title 33 = .ok (.ifCond .ne 5, 3) := by decide +kernel
theorem dX11_title_36 : decode cX11_title 36 = .ok (.iconst (-1), 1) := by decide +kernel
theorem dX11_title_37 : decode cX11_title 37 = .ok (.ireturn, 1) := by decide +kernel
theorem dX11_title_38 : decode cX11_title 38 = .ok (.aload_n 0, 1) := by decide +kernel
theorem dX11_title_39 : decode cX11_title 39 = .ok (.getfield 40, 3) := by decide +kernel
theorem dX11_title_42 : decode cX11_title 42 = .ok (.getfield 181, 3) := by decide +kernel
theorem dX11_title_45 : decode cX11_title 45 = .ok (.iload_n 1, 1) := by decide +kernel
theorem dX11_title_46 : decode cX11_title 46 = .ok (.iaload, 1) := by decide +kernel
theorem dX11_title_47 : decode cX11_title 47 = .ok (.istore 4, 2) := by decide +kernel
theorem dX11_title_49 : decode cX11_title 49 = .ok (.iconst 0, 1) := by decide +kernel
theorem dX11_title_50 : decode cX11_title 50 = .ok (.istore 5, 2) := by decide +kernel
theorem dX11_title_52 : decode cX11_title 52 = .ok (.iconst 0, 1) := by decide +kernel
theorem dX11_title_53 : decode cX11_title 53 = .ok (.istore 6, 2) := by decide +kernel
theorem dX11_title_55 : decode cX11_title 55 = .ok (.iconst 0, 1) := by decide +kernel
theorem dX11_title_56 : decode cX11_title 56 = .ok (.istore 7, 2) := by decide +kernel
theorem dX11_title_58 : decode cX11_title 58 = .ok (.iload 7, 2) := by decide +kernel
theorem dX11_title_60 : decode cX11_title 60 = .ok (.aload_n 0, 1) := by decide +kernel
theorem dX11_title_61 : decode cX11_title 61 = .ok (.getfield 89, 3) := by decide +kernel
theorem dX11_title_64 : decode cX11_title 64 = .ok (.if_icmp .ge 108, 3) := by decide +kernel
theorem dX11_title_67 : decode cX11_title 67 = .ok (.aload_n 0, 1) := by decide +kernel
theorem dX11_title_68 : decode cX11_title 68 = .ok (.getfield 76, 3) := by decide +kernel
theorem dX11_title_71 : decode cX11_title 71 = .ok (.aload_n 0, 1) := by decide +kernel
theorem dX11_title_72 : decode cX11_title 72 = .ok (.getfield 82, 3) := by decide +kernel
theorem dX11_title_75 : decode cX11_title 75 = .ok (.iload 7, 2) := by decide +kernel
theorem dX11_title_77 : decode cX11_title 77 = .ok (.aaload, 1) := by decide +kernel
theorem dX11_title_78 : decode cX11_title 78 = .ok (.iload 4, 2) := by decide +kernel
theorem dX11_title_80 : decode cX11_title 80 = .ok (.iload_n 2, 1) := by decide +kernel
theorem dX11_title_81 : decode cX11_title 81 = .ok (.invokevirtual 238, 3) := by decide +kernel
theorem dX11_title_84 : decode cX11_title 84 = .ok (.iload_n 1, 1) := by decide +kernel
theorem dX11_title_85 : decode cX11_title 85 = .ok (.if_icmp .ne 47, 3) := by decide +kernel
theorem dX11_title_88 : decode cX11_title 88 = .ok (.iload 5, 2) := by decide +kernel
theorem dX11_title_90 : decode cX11_title 90 = .ok (.aload_n 0, 1) := by decide +kernel
theorem dX11_title_91 : decode cX11_title 91 = .ok (.getfield 76, 3) := by decide +kernel
theorem dX11_title_94 : decode cX11_title 94 = .ok (.aload_n 0, 1) := by decide +kernel
theorem dX11_title_95 : decode cX11_title 95 = .ok (.getfield 82, 3) := by decide +kernel
theorem dX11_title_98 : decode cX11_title 98 = .ok (.iload 7, 2) := by decide +kernel
theorem dX11_title_100 : decode cX11_title 100 = .ok (.aaload, 1) := by decide +kernel
theorem dX11_title_101 : decode cX11_title 101 = .ok (.iload_n 1, 1) := by decide +kernel
theorem dX11_title_102 : decode cX11_title 102 = .ok (.iload_n 2, 1) := by decide +kernel
theorem dX11_title_103 : decode cX11_title 103 = .ok (.invokevirtual 241, 3) := by decide +kernel
theorem dX11_title_106 : decode cX11_title 106 = .ok (.iadd, 1) := by decide +kernel
theorem dX11_title_107 : decode cX11_title 107 = .ok (.istore 5, 2) := by decide +kernel
theorem dX11_title_109 : decode cX11_title 109 = .ok (.iload 6, 2) := by decide +kernel
theorem dX11_title_111 : decode cX11_title 111 = .ok (.iconst 1, 1) := by decide +kernel
theorem dX11_title_112 : decode cX11_title 112 = .ok (.aload_n 0, 1) := by decide +kernel
theorem dX11_title_113 : decode cX11_title 113 = .ok (.getfield 82, 3) := by decide +kernel
theorem dX11_title_116 : decode cX11_title 116 = .ok (.iload 7, 2) := by decide +kernel
theorem dX11_title_118 : decode cX11_title 118 = .ok (.aaload, 1) := by decide +kernel
theorem dX11_title_119 : decode cX11_title 119 = .ok (.getfield 177, 3) := by decide +kernel
theorem dX11_title_122 : decode cX11_title 122 = .ok (.iload 4, 2) := by decide +kernel
theorem dX11_title_124 : decode cX11_title 124 = .ok (.iconst 1, 1) := by decide +kernel
theorem dX11_title_125 : decode cX11_title 125 = .ok (.invokevirtual 217, 3) := by decide +kernel
theorem dX11_title_128 : decode cX11_title 128 = .ok (.ishl, 1) := by decide +kernel
theorem dX11_title_129 : decode cX11_title 129 = .ok (.ior, 1) := by decide +kernel
theorem dX11_title_130 : decode cX11_title 130 = .ok (.istore 6, 2) := by decide +kernel
theorem dX11_title_132 : decode cX11_title 132 = .ok (.iload 5, 2) := by decide +kernel
theorem dX11_title_134 : decode cX11_title 134 = .ok (.aload_n 0, 1) := by decide +kernel
theorem dX11_title_135 : decode cX11_title 135 = .ok (.getfield 19, 3) := by decide +kernel
theorem dX11_title_138 : decode cX11_title 138 = .ok (.getfield 247, 3) := by decide +kernel
theorem dX11_title_141 : decode cX11_title 141 = .ok (.iload_n 3, 1) := by decide +kernel
theorem dX11_title_142 : decode cX11_title 142 = .ok (.iaload, 1) := by decide +kernel
theorem dX11_title_143 : decode cX11_title 143 = .ok (.if_icmp .lt 23, 3) := by decide +kernel
theorem dX11_title_146 : decode cX11_title 146 = .ok (.iload 6, 2) := by decide +kernel
theorem dX11_title_148 : decode cX11_title 148 = .ok (.invokestatic 250, 3) := by decide +kernel
theorem dX11_title_151 : decode cX11_title 151 = .ok (.aload_n 0, 1) := by decide +kernel
theorem dX11_title_152 : decode cX11_title 152 = .ok (.getfield 19, 3) := by decide +kernel
theorem dX11_title_155 : decode cX11_title 155 = .ok (.getfield 253, 3) := by decide +kernel
theorem dX11_title_158 : decode cX11_title 158 = .ok (.iload_n 3, 1) := by decide +kernel
theorem dX11_title_159 : decode cX11_title 159 = .ok (.iaload, 1) := by decide +kernel
theorem dX11_title_160 : decode cX11_title 160 = .ok (.if_icmp .lt 6, 3) := by decide +kernel
theorem dX11_title_163 : decode cX11_title 163 = .ok (.iload 7, 2) := by decide +kernel
theorem dX11_title_165 : decode cX11_title 165 = .ok (.ireturn, 1) := by decide +kernel
theorem dX11_title_166 : decode cX11_title 166 = .ok (.iinc 7 1, 3) := by decide +kernel
theorem dX11_title_169 : decode cX11_title 169 = .ok (.goto (-111), 3) := by decide +kernel
theorem dX11_title_172 : decode cX11_title 172 = .ok (.iconst (-1), 1) := by decide +kernel
theorem dX11_title_173 : decode cX11_title 173 = .ok (.ireturn, 1) := by decide +kernel
theorem dX11_owner_0 : decode cX11_owner 0 = .ok (.aload_n 0, 1) := by decide +kernel
theorem dX11_owner_1 : decode cX11_owner 1 = .ok (.iload_n 1, 1) := by decide +kernel
theorem dX11_owner_2 : decode cX11_owner 2 = .ok (.invokevirtual 167, 3) := by decide +kernel
theorem dX11_owner_5 : decode cX11_owner 5 = .ok (.ifCond .eq 18, 3) := by decide +kernel
theorem dX11_owner_8 : decode cX11_owner 8 = .ok (.iload_n 2, 1) := by decide +kernel
theorem dX11_owner_9 : decode cX11_owner 9 = .ok (.invokestatic 147, 3) := by decide +kernel
theorem dX11_owner_12 : decode cX11_owner 12 = .ok (.ifCond .eq 11, 3) := by decide +kernel
theorem dX11_owner_15 : decode cX11_owner 15 = .ok (.aload_n 0, 1) := by decide +kernel
theorem dX11_owner_16 : decode cX11_owner 16 = .ok (.iload_n 3, 1) := by decide +kernel
theorem dX11_owner_17 : decode cX11_owner 17 = .ok (.invokevirtual 201, 3) := by decide +kernel
theorem dX11_owner_20 : decode cX11_owner 20 = .ok (.ifCond .ne 5, 3) := by decide +kernel
theorem dX11_owner_23 : decode cX11_owner 23 = .ok (.iconst (-1), 1) := by decide +kernel
theorem dX11_owner_24 : decode cX11_owner 24 = .ok (.ireturn, 1) := by decide +kernel
theorem dX11_owner_25 : decode cX11_owner 25 = .ok (.aload_n 0, 1) := by decide +kernel
theorem dX11_owner_26 : decode cX11_owner 26 = .ok (.getfield 49, 3) := by decide +kernel
theorem dX11_owner_29 : decode cX11_owner 29 = .ok (.iload_n 1, 1) := by decide +kernel
theorem dX11_owner_30 : decode cX11_owner 30 = .ok (.iload_n 2, 1) := by decide +kernel
theorem dX11_owner_31 : decode cX11_owner 31 = .ok (.iload_n 3, 1) := by decide +kernel
theorem dX11_owner_32 : decode cX11_owner 32 = .ok (.invokevirtual 256, 3) := by decide +kernel
theorem dX11_owner_35 : decode cX11_owner 35 = .ok (.ireturn, 1) := by decide +kernel
theorem dX11_parted_0 : decode cX11_parted 0 = .ok (.iload_n 1, 1) := by decide +kernel
theorem dX11_parted_1 : decode cX11_parted 1 = .ok (.invokestatic 121, 3) := by decide +kernel
theorem dX11_parted_4 : decode cX11_parted 4 = .ok (.ifCond .eq 27, 3) := by decide +kernel
theorem dX11_parted_7 : decode cX11_parted 7 = .ok (.aload_n 0, 1) := by decide +kernel
theorem dX11_parted_8 : decode cX11_parted 8 = .ok (.iload_n 2, 1) := by decide +kernel
theorem dX11_parted_9 : decode cX11_parted 9 = .ok (.invokevirtual 167, 3) := by decide +kernel
theorem dX11_parted_12 : decode cX11_parted 12 = .ok (.ifCond .eq 19, 3) := by decide +kernel
theorem dX11_parted_15 : decode cX11_parted 15 = .ok (.iload_n 3, 1) := by decide +kernel
theorem dX11_parted_16 : decode cX11_parted 16 = .ok (.invokestatic 147, 3) := by decide +kernel
theorem dX11_parted_19 : decode cX11_parted 19 = .ok (.ifCond .eq 12, 3) := by decide +kernel
theorem dX11_parted_22 : decode cX11_parted 22 = .ok (.aload_n 0, 1) := by decide +kernel
theorem dX11_parted_23 : decode cX11_parted 23 = .ok (.iload 4, 2) := by decide +kernel
theorem dX11_parted_25 : decode cX11_parted 25 = .ok (.invokevirtual 201, 3) := by decide +kernel
theorem dX11_parted_28 : decode cX11_parted 28 = .ok (.ifCond .ne 6, 3) := by decide +kernel
theorem dX11_parted_31 : decode cX11_parted 31 = .ok (.bipush (-2), 2) := by decide +kernel
theorem dX11_parted_33 : decode cX11_parted 33 = .ok (.ireturn, 1) := by decide +kernel
theorem dX11_parted_34 : decode cX11_parted 34 = .ok (.aload_n 0, 1) := by decide +kernel
theorem dX11_parted_35 : decode cX11_parted 35 = .ok (.getfield 49, 3) := by decide +kernel
theorem dX11_parted_38 : decode cX11_parted 38 = .ok (.iload_n 1, 1) := by decide +kernel
theorem dX11_parted_39 : decode cX11_parted 39 = .ok (.iload_n 2, 1) := by decide +kernel
theorem dX11_parted_40 : decode cX11_parted 40 = .ok (.iload_n 3, 1) := by decide +kernel
theorem dX11_parted_41 : decode cX11_parted 41 = .ok (.iload 4, 2) := by decide +kernel
theorem dX11_parted_43 : decode cX11_parted 43 = .ok (.invokevirtual 260, 3) := by decide +kernel
theorem dX11_parted_46 : decode cX11_parted 46 = .ok (.ireturn, 1) := by decide +kernel
theorem dX11_changed_0 : decode cX11_changed 0 = .ok (.aload_n 0, 1) := by decide +kernel
theorem dX11_changed_1 : decode cX11_changed 1 = .ok (.iload_n 1, 1) := by decide +kernel
theorem dX11_changed_2 : decode cX11_changed 2 = .ok (.invokevirtual 164, 3) := by decide +kernel
theorem dX11_changed_5 : decode cX11_changed 5 = .ok (.ifCond .eq 19, 3) := by decide +kernel
theorem dX11_changed_8 : decode cX11_changed 8 = .ok (.aload_n 0, 1) := by decide +kernel
theorem dX11_changed_9 : decode cX11_changed 9 = .ok (.iload_n 2, 1) := by decide +kernel
theorem dX11_changed_10 : decode cX11_changed 10 = .ok (.invokevirtual 201, 3) := by decide +kernel
theorem dX11_changed_13 : decode cX11_changed 13 = .ok (.ifCond .eq 11, 3) := by decide +kernel
theorem dX11_changed_16 : decode cX11_changed 16 = .ok (.aload_n 0, 1) := by decide +kernel
theorem dX11_changed_17 : decode cX11_changed 17 = .ok (.iload_n 3, 1) := by decide +kernel
theorem dX11_changed_18 : decode cX11_changed 18 = .ok (.invokevirtual 201, 3) := by decide +kernel
theorem dX11_changed_21 : decode cX11_changed 21 = .ok (.ifCond .ne 5, 3) := by decide +kernel
theorem dX11_changed_24 : decode cX11_changed 24 = .ok (.iconst (-1), 1) := by decide +kernel
theorem dX11_changed_25 : decode cX11_changed 25 = .ok (.ireturn, 1) := by decide +kernel
theorem dX11_changed_26 : decode cX11_changed 26 = .ok (.iconst 0, 1) := by decide +kernel
theorem dX11_changed_27 : decode cX11_changed 27 = .ok (.istore 4, 2) := by decide +kernel
theorem dX11_changed_29 : decode cX11_changed 29 = .ok (.iload 4, 2) := by decide +kernel
theorem dX11_changed_31 : decode cX11_changed 31 = .ok (.aload_n 0, 1) := by decide +kernel
theorem dX11_changed_32 : decode cX11_changed 32 = .ok (.getfield 40, 3) := by decide +kernel
theorem dX11_changed_35 : decode cX11_changed 35 = .ok (.getfield 137, 3) := by decide +kernel
theorem dX11_changed_38 : decode cX11_changed 38 = .ok (.if_icmp .ge 47, 3) := by decide +kernel
theorem dX11_changed_41 : decode cX11_changed 41 = .ok (.aload_n 0, 1) := by decide +kernel
theorem dX11_changed_42 : decode cX11_changed 42 = .ok (.getfield 76, 3) := by decide +kernel
theorem dX11_changed_45 : decode cX11_changed 45 = .ok (.aload_n 0, 1) := by decide +kernel
theorem dX11_changed_46 : decode cX11_changed 46 = .ok (.getfield 82, 3) := by decide +kernel
theorem dX11_changed_49 : decode cX11_changed 49 = .ok (.iload_n 1, 1) := by decide +kernel
theorem dX11_changed_50 : decode cX11_changed 50 = .ok (.aaload, 1) := by decide +kernel
theorem dX11_changed_51 : decode cX11_changed 51 = .ok (.iload 4, 2) := by decide +kernel
theorem dX11_changed_53 : decode cX11_changed 53 = .ok (.iload_n 2, 1) := by decide +kernel
theorem dX11_changed_54 : decode cX11_changed 54 = .ok (.invokevirtual 238, 3) := by decide +kernel
theorem dX11_changed_57 : decode cX11_changed 57 = .ok (.aload_n 0, 1) := by decide +kernel
theorem dX11_changed_58 : decode cX11_changed 58 = .ok (.getfield 76, 3) := by decide +kernel
theorem dX11_changed_61 : decode cX11_changed 61 = .ok (.aload_n 0, 1) := by decide +kernel
theorem dX11_changed_62 : decode cX11_changed 62 = .ok (.getfield 82, 3) := by decide +kernel
theorem dX11_changed_65 : decode cX11_changed 65 = .ok (.iload_n 1, 1) := by decide +kernel
theorem dX11_changed_66 : decode cX11_changed 66 = .ok (.aaload, 1) := by decide +kernel
theorem dX11_changed_67 : decode cX11_changed 67 = .ok (.iload 4, 2) := by decide +kernel
theorem dX11_changed_69 : decode cX11_changed 69 = .ok (.iload_n 3, 1) := by decide +kernel
theorem dX11_changed_70 : decode cX11_changed 70 = .ok (.invokevirtual 238, 3) := by decide +kernel
theorem dX11_changed_73 : decode cX11_changed 73 = .ok (.if_icmp .eq 6, 3) := by decide +kernel
theorem dX11_changed_76 : decode cX11_changed 76 = .ok (.iload 4, 2) := by decide +kernel
theorem dX11_changed_78 : decode cX11_changed 78 = .ok (.ireturn, 1) := by decide +kernel
theorem dX11_changed_79 : decode cX11_changed 79 = .ok (.iinc 4 1, 3) := by decide +kernel
theorem dX11_changed_82 : decode cX11_changed 82 = .ok (.goto (-53), 3) := by decide +kernel
theorem dX11_changed_85 : decode cX11_changed 85 = .ok (.iconst (-1), 1) := by decide +kernel
theorem dX11_changed_86 : decode cX11_changed 86 = .ok (.ireturn, 1) := by decide +kernel
theorem dX11_count_0 : decode cX11_count 0 = .ok (.iload_n 1, 1) := by decide +kernel
theorem dX11_count_1 : decode cX11_count 1 = .ok (.bipush 10, 2) := by decide +kernel
theorem dX11_count_3 : decode cX11_count 3 = .ok (.if_icmp .lt 30, 3) := by decide +kernel
theorem dX11_count_6 : decode cX11_count 6 = .ok (.aload_n 0, 1) := by decide +kernel
theorem dX11_count_7 : decode cX11_count 7 = .ok (.iload_n 1, 1) := by decide +kernel
theorem dX11_count_8 : decode cX11_count 8 = .ok (.bipush 10, 2) := by decide +kernel
theorem dX11_count_10 : decode cX11_count 10 = .ok (.isub, 1) := by decide +kernel
theorem dX11_count_11 : decode cX11_count 11 = .ok (.invokevirtual 164, 3) := by decide +kernel
theorem dX11_count_14 : decode cX11_count 14 = .ok (.ifCond .eq 19, 3) := by decide +kernel
theorem dX11_count_17 : decode cX11_count 17 = .ok (.aload_n 0, 1) := by decide +kernel
theorem dX11_count_18 : decode cX11_count 18 = .ok (.getfield 82, 3) := by decide +kernel
theorem dX11_count_21 : decode cX11_count 21 = .ok (.iload_n 1, 1) := by decide +kernel
theorem dX11_count_22 : decode cX11_count 22 = .ok (.bipush 10, 2) := by decide +kernel
theorem dX11_count_24 : decode cX11_count 24 = .ok (.isub, 1) := by decide +kernel
theorem dX11_count_25 : decode cX11_count 25 = .ok (.aaload, 1) := by decide +kernel
theorem dX11_count_26 : decode cX11_count 26 = .ok (.getfield 263, 3) := by decide +kernel
theorem dX11_count_29 : decode cX11_count 29 = .ok (.invokestatic 250, 3) := by decide +kernel
theorem dX11_count_32 : decode cX11_count 32 = .ok (.ireturn, 1) := by decide +kernel
theorem dX11_count_33 : decode cX11_count 33 = .ok (.iload_n 1, 1) := by decide +kernel
theorem dX11_count_34 : decode cX11_count 34 = .ok (.tableswitch 92 0 6 #[42, 50, 58, 63, 71, 79, 84], 42) := by decide +kernel
theorem dX11_count_76 : decode cX11_count 76 = .ok (.aload_n 0, 1) := by decide +kernel
theorem dX11_count_77 : decode cX11_count 77 = .ok (.getfield 40, 3) := by decide +kernel
theorem dX11_count_80 : decode cX11_count 80 = .ok (.getfield 137, 3) := by decide +kernel
theorem dX11_count_83 : decode cX11_count 83 = .ok (.ireturn, 1) := by decide +kernel
theorem dX11_count_84 : decode cX11_count 84 = .ok (.aload_n 0, 1) := by decide +kernel
theorem dX11_count_85 : decode cX11_count 85 = .ok (.getfield 40, 3) := by decide +kernel
theorem dX11_count_88 : decode cX11_count 88 = .ok (.getfield 150, 3) := by decide +kernel
theorem dX11_count_91 : decode cX11_count 91 = .ok (.ireturn, 1) := by decide +kernel
theorem dX11_count_92 : decode cX11_count 92 = .ok (.aload_n 0, 1) := by decide +kernel
theorem dX11_count_93 : decode cX11_count 93 = .ok (.getfield 89, 3) := by decide +kernel
theorem dX11_count_96 : decode cX11_count 96 = .ok (.ireturn, 1) := by decide +kernel
theorem dX11_count_97 : decode cX11_count 97 = .ok (.aload_n 0, 1) := by decide +kernel
theorem dX11_count_98 : decode cX11_count 98 = .ok (.getfield 49, 3) := by decide +kernel
theorem dX11_count_101 : decode cX11_count 101 = .ok (.getfield 195, 3) := by decide +kernel
theorem dX11_count_104 : decode cX11_count 104 = .ok (.ireturn, 1) := by decide +kernel
theorem dX11_count_105 : decode cX11_count 105 = .ok (.aload_n 0, 1) := by decide +kernel
theorem dX11_count_106 : decode cX11_count 106 = .ok (.getfield 19, 3) := by decide +kernel
theorem dX11_count_109 : decode cX11_count 109 = .ok (.getfield 266, 3) := by decide +kernel
theorem dX11_count_112 : decode cX11_count 112 = .ok (.ireturn, 1) := by decide +kernel
theorem dX11_count_113 : decode cX11_count 113 = .ok (.aload_n 0, 1) := by decide +kernel
theorem dX11_count_114 : decode cX11_count 114 = .ok (.getfield 93, 3) := by decide +kernel
theorem dX11_count_117 : decode cX11_count 117 = .ok (.ireturn, 1) := by decide +kernel
theorem dX11_count_118 : decode cX11_count 118 = .ok (.aload_n 0, 1) := by decide +kernel
theorem dX11_count_119 : decode cX11_count 119 = .ok (.getfield 10, 3) := by decide +kernel
theorem dX11_count_122 : decode cX11_count 122 = .ok (.getfield 99, 3) := by decide +kernel
theorem dX11_count_125 : decode cX11_count 125 = .ok (.ireturn, 1) := by decide +kernel
theorem dX11_count_126 : decode cX11_count 126 = .ok (.iconst (-1), 1) := by decide +kernel
theorem dX11_count_127 : decode cX11_count 127 = .ok (.ireturn, 1) := by decide +kernel
theorem dX11_isWithin_0 : decode cX11_isWithin 0 = .ok (.iload_n 0, 1) := by decide +kernel
theorem dX11_isWithin_1 : decode cX11_isWithin 1 = .ok (.iload_n 1, 1) := by decide +kernel
theorem dX11_isWithin_2 : decode cX11_isWithin 2 = .ok (.if_icmp .lt 12, 3) := by decide +kernel
theorem dX11_isWithin_5 : decode cX11_isWithin 5 = .ok (.iload_n 0, 1) := by decide +kernel
theorem dX11_isWithin_6 : decode cX11_isWithin 6 = .ok (.iload_n 2, 1) := by decide +kernel
theorem dX11_isWithin_7 : decode cX11_isWithin 7 = .ok (.if_icmp .gt 7, 3) := by decide +kernel
theorem dX11_isWithin_10 : decode cX11_isWithin 10 = .ok (.iconst 1, 1) := by decide +kernel
theorem dX11_isWithin_11 : decode cX11_isWithin 11 = .ok (.goto 4, 3) := by decide +kernel
theorem dX11_isWithin_14 : decode cX11_isWithin 14 = .ok (.iconst 0, 1) := by decide +kernel
theorem dX11_isWithin_15 : decode cX11_isWithin 15 = .ok (.ireturn, 1) := by decide +kernel
theorem dX11_isPerson_0 : decode cX11_isPerson 0 = .ok (.iload_n 0, 1) := by decide +kernel
theorem dX11_isPerson_1 : decode cX11_isPerson 1 = .ok (.iconst 0, 1) := by decide +kernel
theorem dX11_isPerson_2 : decode cX11_isPerson 2 = .ok (.bipush 11, 2) := by decide +kernel
theorem dX11_isPerson_4 : decode cX11_isPerson 4 = .ok (.invokestatic 133, 3) := by decide +kernel
theorem dX11_isPerson_7 : decode cX11_isPerson 7 = .ok (.ireturn, 1) := by decide +kernel
theorem dX11_isDay_0 : decode cX11_isDay 0 = .ok (.iload_n 0, 1) := by decide +kernel
theorem dX11_isDay_1 : decode cX11_isDay 1 = .ok (.iconst 0, 1) := by decide +kernel
theorem dX11_isDay_2 : decode cX11_isDay 2 = .ok (.sipush 9999, 3) := by decide +kernel
theorem dX11_isDay_5 : decode cX11_isDay 5 = .ok (.invokestatic 133, 3) := by decide +kernel
theorem dX11_isDay_8 : decode cX11_isDay 8 = .ok (.ireturn, 1) := by decide +kernel
theorem dX11_isBreed_0 : decode cX11_isBreed 0 = .ok (.iload_n 1, 1) := by decide +kernel
theorem dX11_isBreed_1 : decode cX11_isBreed 1 = .ok (.iconst 0, 1) := by decide +kernel
theorem dX11_isBreed_2 : decode cX11_isBreed 2 = .ok (.aload_n 0, 1) := by decide +kernel
theorem dX11_isBreed_3 : decode cX11_isBreed 3 = .ok (.getfield 40, 3) := by decide +kernel
theorem dX11_isBreed_6 : decode cX11_isBreed 6 = .ok (.getfield 137, 3) := by decide +kernel
theorem dX11_isBreed_9 : decode cX11_isBreed 9 = .ok (.iconst 1, 1) := by decide +kernel
theorem dX11_isBreed_10 : decode cX11_isBreed 10 = .ok (.isub, 1) := by decide +kernel
theorem dX11_isBreed_11 : decode cX11_isBreed 11 = .ok (.invokestatic 133, 3) := by decide +kernel
theorem dX11_isBreed_14 : decode cX11_isBreed 14 = .ok (.ireturn, 1) := by decide +kernel
theorem dX11_isDog_0 : decode cX11_isDog 0 = .ok (.iload_n 1, 1) := by decide +kernel
theorem dX11_isDog_1 : decode cX11_isDog 1 = .ok (.iconst 0, 1) := by decide +kernel
theorem dX11_isDog_2 : decode cX11_isDog 2 = .ok (.aload_n 0, 1) := by decide +kernel
theorem dX11_isDog_3 : decode cX11_isDog 3 = .ok (.getfield 40, 3) := by decide +kernel
theorem dX11_isDog_6 : decode cX11_isDog 6 = .ok (.getfield 150, 3) := by decide +kernel
theorem dX11_isDog_9 : decode cX11_isDog 9 = .ok (.iconst 1, 1) := by decide +kernel
theorem dX11_isDog_10 : decode cX11_isDog 10 = .ok (.isub, 1) := by decide +kernel
theorem dX11_isDog_11 : decode cX11_isDog 11 = .ok (.invokestatic 133, 3) := by decide +kernel
theorem dX11_isDog_14 : decode cX11_isDog 14 = .ok (.ireturn, 1) := by decide +kernel
theorem dX11_isShow_0 : decode cX11_isShow 0 = .ok (.iload_n 1, 1) := by decide +kernel
theorem dX11_isShow_1 : decode cX11_isShow 1 = .ok (.iconst 0, 1) := by decide +kernel
theorem dX11_isShow_2 : decode cX11_isShow 2 = .ok (.aload_n 0, 1) := by decide +kernel
theorem dX11_isShow_3 : decode cX11_isShow 3 = .ok (.getfield 89, 3) := by decide +kernel
theorem dX11_isShow_6 : decode cX11_isShow 6 = .ok (.iconst 1, 1) := by decide +kernel
theorem dX11_isShow_7 : decode cX11_isShow 7 = .ok (.isub, 1) := by decide +kernel
theorem dX11_isShow_8 : decode cX11_isShow 8 = .ok (.invokestatic 133, 3) := by decide +kernel
theorem dX11_isShow_11 : decode cX11_isShow 11 = .ok (.ireturn, 1) := by decide +kernel
theorem dX11_isKnown_0 : decode cX11_isKnown 0 = .ok (.iload_n 1, 1) := by decide +kernel
theorem dX11_isKnown_1 : decode cX11_isKnown 1 = .ok (.iconst 0, 1) := by decide +kernel
theorem dX11_isKnown_2 : decode cX11_isKnown 2 = .ok (.aload_n 0, 1) := by decide +kernel
theorem dX11_isKnown_3 : decode cX11_isKnown 3 = .ok (.getfield 49, 3) := by decide +kernel
theorem dX11_isKnown_6 : decode cX11_isKnown 6 = .ok (.getfield 195, 3) := by decide +kernel
theorem dX11_isKnown_9 : decode cX11_isKnown 9 = .ok (.invokestatic 133, 3) := by decide +kernel
theorem dX11_isKnown_12 : decode cX11_isKnown 12 = .ok (.ireturn, 1) := by decide +kernel
theorem dX11_isFactValue_0 : decode cX11_isFactValue 0 = .ok (.iload_n 0, 1) := by decide +kernel
theorem dX11_isFactValue_1 : decode cX11_isFactValue 1 = .ok (.tableswitch 67 0 3 #[31, 39, 49, 59], 31) := by decide +kernel
theorem dX11_isFactValue_32 : decode cX11_isFactValue 32 = .ok (.iload_n 1, 1) := by decide +kernel
theorem dX11_isFactValue_33 : decode cX11_isFactValue 33 = .ok (.iconst 1, 1) := by decide +kernel
theorem dX11_isFactValue_34 : decode cX11_isFactValue 34 = .ok (.bipush 20, 2) := by decide +kernel
theorem dX11_isFactValue_36 : decode cX11_isFactValue 36 = .ok (.invokestatic 133, 3) := by decide +kernel
theorem dX11_isFactValue_39 : decode cX11_isFactValue 39 = .ok (.ireturn, 1) := by decide +kernel
theorem dX11_isFactValue_40 : decode cX11_isFactValue 40 = .ok (.iload_n 1, 1) := by decide +kernel
theorem dX11_isFactValue_41 : decode cX11_isFactValue 41 = .ok (.ifCond .ne 7, 3) := by decide +kernel
theorem dX11_isFactValue_44 : decode cX11_isFactValue 44 = .ok (.iconst 1, 1) := by decide +kernel
theorem dX11_isFactValue_45 : decode cX11_isFactValue 45 = .ok (.goto 4, 3) := by decide +kernel
theorem dX11_isFactValue_48 : decode cX11_isFactValue 48 = .ok (.iconst 0, 1) := by decide +kernel
theorem dX11_isFactValue_49 : decode cX11_isFactValue 49 = .ok (.ireturn, 1) := by decide +kernel
theorem dX11_isFactValue_50 : decode cX11_isFactValue 50 = .ok (.iload_n 1, 1) := by decide +kernel
theorem dX11_isFactValue_51 : decode cX11_isFactValue 51 = .ok (.ifCond .ne 7, 3) := by decide +kernel
theorem dX11_isFactValue_54 : decode cX11_isFactValue 54 = .ok (.iconst 1, 1) := by decide +kernel
theorem dX11_isFactValue_55 : decode cX11_isFactValue 55 = .ok (.goto 4, 3) := by decide +kernel
theorem dX11_isFactValue_58 : decode cX11_isFactValue 58 = .ok (.iconst 0, 1) := by decide +kernel
theorem dX11_isFactValue_59 : decode cX11_isFactValue 59 = .ok (.ireturn, 1) := by decide +kernel
theorem dX11_isFactValue_60 : decode cX11_isFactValue 60 = .ok (.iload_n 1, 1) := by decide +kernel
theorem dX11_isFactValue_61 : decode cX11_isFactValue 61 = .ok (.iconst 0, 1) := by decide +kernel
theorem dX11_isFactValue_62 : decode cX11_isFactValue 62 = .ok (.bipush 99, 2) := by decide +kernel
theorem dX11_isFactValue_64 : decode cX11_isFactValue 64 = .ok (.invokestatic 133, 3) := by decide +kernel
theorem dX11_isFactValue_67 : decode cX11_isFactValue 67 = .ok (.ireturn, 1) := by decide +kernel
theorem dX11_isFactValue_68 : decode cX11_isFactValue 68 = .ok (.iconst 0, 1) := by decide +kernel
theorem dX11_isFactValue_69 : decode cX11_isFactValue 69 = .ok (.ireturn, 1) := by decide +kernel
theorem dX11_handlersInTwoRings_0 : decode cX11_handlersInTwoRings 0 = .ok (.aload_n 1, 1) := by decide +kernel
theorem dX11_handlersInTwoRings_1 : decode cX11_handlersInTwoRings 1 = .ok (.getfield 177, 3) := by decide +kernel
theorem dX11_handlersInTwoRings_4 : decode cX11_handlersInTwoRings 4 = .ok (.astore 4, 2) := by decide +kernel
theorem dX11_handlersInTwoRings_6 : decode cX11_handlersInTwoRings 6 = .ok (.aload 4, 2) := by decide +kernel
theorem dX11_handlersInTwoRings_8 : decode cX11_handlersInTwoRings 8 = .ok (.iload_n 2, 1) := by decide +kernel
theorem dX11_handlersInTwoRings_9 : decode cX11_handlersInTwoRings 9 = .ok (.invokevirtual 184, 3) := by decide +kernel
theorem dX11_handlersInTwoRings_12 : decode cX11_handlersInTwoRings 12 = .ok (.ifCond .ne 5, 3) := by decide +kernel
theorem dX11_handlersInTwoRings_15 : decode cX11_handlersInTwoRings 15 = .ok (.iconst 0, 1) := by decide +kernel
theorem dX11_handlersInTwoRings_16 : decode cX11_handlersInTwoRings 16 = .ok (.ireturn, 1) := by decide +kernel
theorem dX11_handlersInTwoRings_17 : decode cX11_handlersInTwoRings 17 = .ok (.iload_n 3, 1) := by decide +kernel
theorem dX11_handlersInTwoRings_18 : decode cX11_handlersInTwoRings 18 = .ok (.aload 4, 2) := by decide +kernel
theorem dX11_handlersInTwoRings_20 : decode cX11_handlersInTwoRings 20 = .ok (.iload_n 2, 1) := by decide +kernel
theorem dX11_handlersInTwoRings_21 : decode cX11_handlersInTwoRings 21 = .ok (.iconst 3, 1) := by decide +kernel
theorem dX11_handlersInTwoRings_22 : decode cX11_handlersInTwoRings 22 = .ok (.invokevirtual 217, 3) := by decide +kernel
theorem dX11_handlersInTwoRings_25 : decode cX11_handlersInTwoRings 25 = .ok (.iadd, 1) := by decide +kernel
theorem dX11_handlersInTwoRings_26 : decode cX11_handlersInTwoRings 26 = .ok (.aload 4, 2) := by decide +kernel
theorem dX11_handlersInTwoRings_28 : decode cX11_handlersInTwoRings 28 = .ok (.iload_n 2, 1) := by decide +kernel
theorem dX11_handlersInTwoRings_29 : decode cX11_handlersInTwoRings 29 = .ok (.iconst 2, 1) := by decide +kernel
theorem dX11_handlersInTwoRings_30 : decode cX11_handlersInTwoRings 30 = .ok (.invokevirtual 217, 3) := by decide +kernel
theorem dX11_handlersInTwoRings_33 : decode cX11_handlersInTwoRings 33 = .ok (.isub, 1) := by decide +kernel
theorem dX11_handlersInTwoRings_34 : decode cX11_handlersInTwoRings 34 = .ok (.istore 5, 2) := by decide +kernel
theorem dX11_handlersInTwoRings_36 : decode cX11_handlersInTwoRings 36 = .ok (.aload_n 0, 1) := by decide +kernel
theorem dX11_handlersInTwoRings_37 : decode cX11_handlersInTwoRings 37 = .ok (.getfield 40, 3) := by decide +kernel
theorem dX11_handlersInTwoRings_40 : decode cX11_handlersInTwoRings 40 = .ok (.aload_n 0, 1) := by decide +kernel
theorem dX11_handlersInTwoRings_41 : decode cX11_handlersInTwoRings 41 = .ok (.getfield 40, 3) := by decide +kernel
theorem dX11_handlersInTwoRings_44 : decode cX11_handlersInTwoRings 44 = .ok (.aload_n 1, 1) := by decide +kernel
theorem dX11_handlersInTwoRings_45 : decode cX11_handlersInTwoRings 45 = .ok (.getfield 263, 3) := by decide +kernel
theorem dX11_handlersInTwoRings_48 : decode cX11_handlersInTwoRings 48 = .ok (.iload_n 2, 1) := by decide +kernel
theorem dX11_handlersInTwoRings_49 : decode cX11_handlersInTwoRings 49 = .ok (.invokevirtual 269, 3) := by decide +kernel
theorem dX11_handlersInTwoRings_52 : decode cX11_handlersInTwoRings 52 = .ok (.invokevirtual 272, 3) := by decide +kernel
theorem dX11_handlersInTwoRings_55 : decode cX11_handlersInTwoRings 55 = .ok (.istore 6, 2) := by decide +kernel
theorem dX11_handlersInTwoRings_57 : decode cX11_handlersInTwoRings 57 = .ok (.iconst 0, 1) := by decide +kernel
theorem dX11_handlersInTwoRings_58 : decode cX11_handlersInTwoRings 58 = .ok (.istore 7, 2) := by decide +kernel
theorem dX11_handlersInTwoRings_60 : decode cX11_handlersInTwoRings 60 = .ok (.iconst 0, 1) := by decide +kernel
theorem dX11_handlersInTwoRings_61 : decode cX11_handlersInTwoRings 61 = .ok (.istore 8, 2) := by decide +kernel
theorem dX11_handlersInTwoRings_63 : decode cX11_handlersInTwoRings 63 = .ok (.iload 8, 2) := by decide +kernel
theorem dX11_handlersInTwoRings_65 : decode cX11_handlersInTwoRings 65 = .ok (.aload_n 0, 1) := by decide +kernel
theorem dX11_handlersInTwoRings_66 : decode cX11_handlersInTwoRings 66 = .ok (.getfield 40, 3) := by decide +kernel
theorem dX11_handlersInTwoRings_69 : decode cX11_handlersInTwoRings 69 = .ok (.getfield 137, 3) := by decide +kernel
theorem dX11_handlersInTwoRings_72 : decode cX11_handlersInTwoRings 72 = .ok (.if_icmp .ge 53, 3) := by decide +kernel
theorem dX11_handlersInTwoRings_75 : decode cX11_handlersInTwoRings 75 = .ok (.iload 8, 2) := by decide +kernel
theorem dX11_handlersInTwoRings_77 : decode cX11_handlersInTwoRings 77 = .ok (.iload_n 2, 1) := by decide +kernel
theorem dX11_handlersInTwoRings_78 : decode cX11_handlersInTwoRings 78 = .ok (.if_icmp .eq 41, 3) := by decide +kernel
theorem dX11_handlersInTwoRings_81 : decode cX11_handlersInTwoRings 81 = .ok (.aload 4, 2) := by decide +kernel
theorem dX11_handlersInTwoRings_83 : decode cX11_handlersInTwoRings 83 = .ok (.iload 8, 2) := by decide +kernel
theorem dX11_handlersInTwoRings_85 : decode cX11_handlersInTwoRings 85 = .ok (.iload_n 3, 1) := by decide +kernel
theorem dX11_handlersInTwoRings_86 : decode cX11_handlersInTwoRings 86 = .ok (.iload 5, 2) := by decide +kernel
theorem dX11_handlersInTwoRings_88 : decode cX11_handlersInTwoRings 88 = .ok (.invokevirtual 275, 3) := by decide +kernel
theorem dX11_handlersInTwoRings_91 : decode cX11_handlersInTwoRings 91 = .ok (.ifCond .eq 28, 3) := by decide +kernel
theorem dX11_handlersInTwoRings_94 : decode cX11_handlersInTwoRings 94 = .ok (.iload 7, 2) := by decide +kernel
theorem dX11_handlersInTwoRings_96 : decode cX11_handlersInTwoRings 96 = .ok (.aload_n 0, 1) := by decide +kernel
theorem dX11_handlersInTwoRings_97 : decode cX11_handlersInTwoRings 97 = .ok (.getfield 40, 3) := by decide +kernel
theorem dX11_handlersInTwoRings_100 : decode cX11_handlersInTwoRings 100 = .ok (.aload_n 0, 1) := by decide +kernel
theorem dX11_handlersInTwoRings_101 : decode cX11_handlersInTwoRings 101 = .ok (.getfield 40, 3) := by decide +kernel
theorem dX11_handlersInTwoRings_104 : decode cX11_handlersInTwoRings 104 = .ok (.aload_n 1, 1) := by decide +kernel
theorem dX11_handlersInTwoRings_105 : decode cX11_handlersInTwoRings 105 = .ok (.getfield 263, 3) := by decide +kernel
theorem dX11_handlersInTwoRings_108 : decode cX11_handlersInTwoRings 108 = .ok (.iload 8, 2) := by decide +kernel
theorem dX11_handlersInTwoRings_110 : decode cX11_handlersInTwoRings 110 = .ok (.invokevirtual 269, 3) := by decide +kernel
theorem dX11_handlersInTwoRings_113 : decode cX11_handlersInTwoRings 113 = .ok (.invokevirtual 272, 3) := by decide +kernel
theorem dX11_handlersInTwoRings_116 : decode cX11_handlersInTwoRings 116 = .ok (.ior, 1) := by decide +kernel
theorem dX11_handlersInTwoRings_117 : decode cX11_handlersInTwoRings 117 = .ok (.istore 7, 2) := by decide +kernel
theorem dX11_handlersInTwoRings_119 : decode cX11_handlersInTwoRings 119 = .ok (.iinc 8 1, 3) := by decide +kernel
theorem dX11_handlersInTwoRings_122 : decode cX11_handlersInTwoRings 122 = .ok (.goto (-59), 3) := by decide +kernel
theorem dX11_handlersInTwoRings_125 : decode cX11_handlersInTwoRings 125 = .ok (.iload 6, 2) := by decide +kernel
theorem dX11_handlersInTwoRings_127 : decode cX11_handlersInTwoRings 127 = .ok (.iload 7, 2) := by decide +kernel
theorem dX11_handlersInTwoRings_129 : decode cX11_handlersInTwoRings 129 = .ok (.iand, 1) := by decide +kernel
theorem dX11_handlersInTwoRings_130 : decode cX11_handlersInTwoRings 130 = .ok (.ireturn, 1) := by decide +kernel
theorem dX12_init_0 : decode cX12_init 0 = .ok (.aload_n 0, 1) := by decide +kernel
theorem dX12_init_1 : decode cX12_init 1 = .ok (.invokespecial 7, 3) := by decide +kernel
theorem dX12_init_4 : decode cX12_init 4 = .ok (.aload_n 0, 1) := by decide +kernel
theorem dX12_init_5 : decode cX12_init 5 = .ok (.sipush 2000, 3) := by decide +kernel
theorem dX12_init_8 : decode cX12_init 8 = .ok (.newarray .byte, 2) := by decide +kernel
theorem dX12_init_10 : decode cX12_init 10 = .ok (.putfield 13, 3) := by decide +kernel
theorem dX12_init_13 : decode cX12_init 13 = .ok (.aload_n 0, 1) := by decide +kernel
theorem dX12_init_14 : decode cX12_init 14 = .ok (.sipush 2000, 3) := by decide +kernel
theorem dX12_init_17 : decode cX12_init 17 = .ok (.newarray .byte, 2) := by decide +kernel
theorem dX12_init_19 : decode cX12_init 19 = .ok (.putfield 17, 3) := by decide +kernel
theorem dX12_init_22 : decode cX12_init 22 = .ok (.aload_n 0, 1) := by decide +kernel
theorem dX12_init_23 : decode cX12_init 23 = .ok (.sipush 403, 3) := by decide +kernel
theorem dX12_init_26 : decode cX12_init 26 = .ok (.newarray .int, 2) := by decide +kernel
theorem dX12_init_28 : decode cX12_init 28 = .ok (.putfield 20, 3) := by decide +kernel
theorem dX12_init_31 : decode cX12_init 31 = .ok (.aload_n 0, 1) := by decide +kernel
theorem dX12_init_32 : decode cX12_init 32 = .ok (.sipush 403, 3) := by decide +kernel
theorem dX12_init_35 : decode cX12_init 35 = .ok (.newarray .int, 2) := by decide +kernel
theorem dX12_init_37 : decode cX12_init 37 = .ok (.putfield 24, 3) := by decide +kernel
theorem dX12_init_40 : decode cX12_init 40 = .ok (.aload_n 0, 1) := by decide +kernel
theorem dX12_init_41 : decode cX12_init 41 = .ok (.sipush 403, 3) := by decide +kernel
theorem dX12_init_44 : decode cX12_init 44 = .ok (.newarray .int, 2) := by decide +kernel
theorem dX12_init_46 : decode cX12_init 46 = .ok (.putfield 27, 3) := by decide +kernel
theorem dX12_init_49 : decode cX12_init 49 = .ok (.aload_n 0, 1) := by decide +kernel
theorem dX12_init_50 : decode cX12_init 50 = .ok (.sipush 403, 3) := by decide +kernel
theorem dX12_init_53 : decode cX12_init 53 = .ok (.newarray .long, 2) := by decide +kernel
theorem dX12_init_55 : decode cX12_init 55 = .ok (.putfield 30, 3) := by decide +kernel
theorem dX12_init_58 : decode cX12_init 58 = .ok (.aload_n 0, 1) := by decide +kernel
theorem dX12_init_59 : decode cX12_init 59 = .ok (.bipush 16, 2) := by decide +kernel
theorem dX12_init_61 : decode cX12_init 61 = .ok (.newarray .long, 2) := by decide +kernel
theorem dX12_init_63 : decode cX12_init 63 = .ok (.putfield 34, 3) := by decide +kernel
theorem dX12_init_66 : decode cX12_init 66 = .ok (.aload_n 0, 1) := by decide +kernel
theorem dX12_init_67 : decode cX12_init 67 = .ok (.iconst (-1), 1) := by decide +kernel
theorem dX12_init_68 : decode cX12_init 68 = .ok (.putfield 37, 3) := by decide +kernel
theorem dX12_init_71 : decode cX12_init 71 = .ok (.aload_n 0, 1) := by decide +kernel
theorem dX12_init_72 : decode cX12_init 72 = .ok (.iconst 2, 1) := by decide +kernel
theorem dX12_init_73 : decode cX12_init 73 = .ok (.newarray .int, 2) := by decide +kernel
theorem dX12_init_75 : decode cX12_init 75 = .ok (.putfield 40, 3) := by decide +kernel
theorem dX12_init_78 : decode cX12_init 78 = .ok (.aload_n 0, 1) := by decide +kernel
theorem dX12_init_79 : decode cX12_init 79 = .ok (.bipush 32, 2) := by decide +kernel
theorem dX12_init_81 : decode cX12_init 81 = .ok (.newarray .int, 2) := by decide +kernel
theorem dX12_init_83 : decode cX12_init 83 = .ok (.putfield 43, 3) := by decide +kernel
theorem dX12_init_86 : decode cX12_init 86 = .ok (.aload_n 0, 1) := by decide +kernel
theorem dX12_init_87 : decode cX12_init 87 = .ok (.bipush 32, 2) := by decide +kernel
theorem dX12_init_89 : decode cX12_init 89 = .ok (.newarray .int, 2) := by decide +kernel
theorem dX12_init_91 : decode cX12_init 91 = .ok (.putfield 46, 3) := by decide +kernel
theorem dX12_init_94 : decode cX12_init 94 = .ok (.aload_n 0, 1) := by decide +kernel
theorem dX12_init_95 : decode cX12_init 95 = .ok (.bipush 32, 2) := by decide +kernel
theorem dX12_init_97 : decode cX12_init 97 = .ok (.newarray .int, 2) := by decide +kernel
theorem dX12_init_99 : decode cX12_init 99 = .ok (.putfield 49, 3) := by decide +kernel
theorem dX12_init_102 : decode cX12_init 102 = .ok (.aload_n 0, 1) := by decide +kernel
theorem dX12_init_103 : decode cX12_init 103 = .ok (.bipush 32, 2) := by decide +kernel
theorem dX12_init_105 : decode cX12_init 105 = .ok (.newarray .int, 2) := by decide +kernel
theorem dX12_init_107 : decode cX12_init 107 = .ok (.putfield 52, 3) := by decide +kernel
theorem dX12_init_110 : decode cX12_init 110 = .ok (.aload_n 0, 1) := by decide +kernel
theorem dX12_init_111 : decode cX12_init 111 = .ok (.bipush 32, 2) := by decide +kernel
theorem dX12_init_113 : decode cX12_init 113 = .ok (.newarray .int, 2) := by decide +kernel
theorem dX12_init_115 : decode cX12_init 115 = .ok (.putfield 55, 3) := by decide +kernel
theorem dX12_init_118 : decode cX12_init 118 = .ok (.aload_n 0, 1) := by decide +kernel
theorem dX12_init_119 : decode cX12_init 119 = .ok (.bipush 32, 2) := by decide +kernel
theorem dX12_init_121 : decode cX12_init 121 = .ok (.newarray .int, 2) := by decide +kernel
theorem dX12_init_123 : decode cX12_init 123 = .ok (.putfield 58, 3) := by decide +kernel
theorem dX12_init_126 : decode cX12_init 126 = .ok (.aload_n 0, 1) := by decide +kernel
theorem dX12_init_127 : decode cX12_init 127 = .ok (.bipush 32, 2) := by decide +kernel
theorem dX12_init_129 : decode cX12_init 129 = .ok (.newarray .int, 2) := by decide +kernel
theorem dX12_init_131 : decode cX12_init 131 = .ok (.putfield 61, 3) := by decide +kernel
theorem dX12_init_134 : decode cX12_init 134 = .ok (.aload_n 0, 1) := by decide +kernel
theorem dX12_init_135 : decode cX12_init 135 = .ok (.iconst 2, 1) := by decide +kernel
theorem dX12_init_136 : decode cX12_init 136 = .ok (.newarray .int, 2) := by decide +kernel
theorem dX12_init_138 : decode cX12_init 138 = .ok (.putfield 64, 3) := by decide +kernel
theorem dX12_init_141 : decode cX12_init 141 = .ok (.aload_n 0, 1) := by decide +kernel
theorem dX12_init_142 : decode cX12_init 142 = .ok (.sipush 400, 3) := by decide +kernel
theorem dX12_init_145 : decode cX12_init 145 = .ok (.newarray .int, 2) := by decide +kernel
theorem dX12_init_147 : decode cX12_init 147 = .ok (.putfield 67, 3) := by decide +kernel
theorem dX12_init_150 : decode cX12_init 150 = .ok (.aload_n 0, 1) := by decide +kernel
theorem dX12_init_151 : decode cX12_init 151 = .ok (.sipush 400, 3) := by decide +kernel
theorem dX12_init_154 : decode cX12_init 154 = .ok (.newarray .int, 2) := by decide +kernel
theorem dX12_init_156 : decode cX12_init 156 = .ok (.putfield 70, 3) := by decide +kernel
theorem dX12_init_159 : decode cX12_init 159 = .ok (.aload_n 0, 1) := by decide +kernel
theorem dX12_init_160 : decode cX12_init 160 = .ok (.sipush 400, 3) := by decide +kernel
theorem dX12_init_163 : decode cX12_init 163 = .ok (.newarray .int, 2) := by decide +kernel
theorem dX12_init_165 : decode cX12_init 165 = .ok (.putfield 73, 3) := by decide +kernel
theorem dX12_init_168 : decode cX12_init 168 = .ok (.aload_n 0, 1) := by decide +kernel
theorem dX12_init_169 : decode cX12_init 169 = .ok (.sipush 400, 3) := by decide +kernel
theorem dX12_init_172 : decode cX12_init 172 = .ok (.newarray .int, 2) := by decide +kernel
theorem dX12_init_174 : decode cX12_init 174 = .ok (.putfield 76, 3) := by decide +kernel
theorem dX12_init_177 : decode cX12_init 177 = .ok (.aload_n 0, 1) := by decide +kernel
theorem dX12_init_178 : decode cX12_init 178 = .ok (.sipush 400, 3) := by decide +kernel
theorem dX12_init_181 : decode cX12_init 181 = .ok (.newarray .boolean, 2) := by decide +kernel
theorem dX12_init_183 : decode cX12_init 183 = .ok (.putfield 79, 3) := by decide +kernel
theorem dX12_init_186 : decode cX12_init 186 = .ok (.aload_n 0, 1) := by decide +kernel
theorem dX12_init_187 : decode cX12_init 187 = .ok (.sipush 1000, 3) := by decide +kernel
theorem dX12_init_190 : decode cX12_init 190 = .ok (.newarray .int, 2) := by decide +kernel
theorem dX12_init_192 : decode cX12_init 192 = .ok (.putfield 83, 3) := by decide +kernel
theorem dX12_init_195 : decode cX12_init 195 = .ok (.aload_n 0, 1) := by decide +kernel
theorem dX12_init_196 : decode cX12_init 196 = .ok (.sipush 1000, 3) := by decide +kernel
theorem dX12_init_199 : decode cX12_init 199 = .ok (.newarray .int, 2) := by decide +kernel
theorem dX12_init_201 : decode cX12_init 201 = .ok (.putfield 86, 3) := by decide +kernel
theorem dX12_init_204 : decode cX12_init 204 = .ok (.aload_n 0, 1) := by decide +kernel
theorem dX12_init_205 : decode cX12_init 205 = .ok (.bipush 48, 2) := by decide +kernel
theorem dX12_init_207 : decode cX12_init 207 = .ok (.newarray .int, 2) := by decide +kernel
theorem dX12_init_209 : decode cX12_init 209 = .ok (.putfield 89, 3) := by decide +kernel
theorem dX12_init_212 : decode cX12_init 212 = .ok (.aload_n 0, 1) := by decide +kernel
theorem dX12_init_213 : decode cX12_init 213 = .ok (.sipush 144, 3) := by decide +kernel
theorem dX12_init_216 : decode cX12_init 216 = .ok (.newarray .boolean, 2) := by decide +kernel
theorem dX12_init_218 : decode cX12_init 218 = .ok (.putfield 92, 3) := by decide +kernel
theorem dX12_init_221 : decode cX12_init 221 = .ok (.aload_n 0, 1) := by decide +kernel
theorem dX12_init_222 : decode cX12_init 222 = .ok (.bipush 12, 2) := by decide +kernel
theorem dX12_init_224 : decode cX12_init 224 = .ok (.newarray .int, 2) := by decide +kernel
theorem dX12_init_226 : decode cX12_init 226 = .ok (.putfield 95, 3) := by decide +kernel
theorem dX12_init_229 : decode cX12_init 229 = .ok (.aload_n 0, 1) := by decide +kernel
theorem dX12_init_230 : decode cX12_init 230 = .ok (.bipush 6, 2) := by decide +kernel
theorem dX12_init_232 : decode cX12_init 232 = .ok (.newarray .int, 2) := by decide +kernel
theorem dX12_init_234 : decode cX12_init 234 = .ok (.putfield 98, 3) := by decide +kernel
theorem dX12_init_237 : decode cX12_init 237 = .ok (.aload_n 0, 1) := by decide +kernel
theorem dX12_init_238 : decode cX12_init 238 = .ok (.bipush 6, 2) := by decide +kernel
theorem dX12_init_240 : decode cX12_init 240 = .ok (.newarray .int, 2) := by decide +kernel
theorem dX12_init_242 : decode cX12_init 242 = .ok (.putfield 101, 3) := by decide +kernel
theorem dX12_init_245 : decode cX12_init 245 = .ok (.aload_n 0, 1) := by decide +kernel
theorem dX12_init_246 : decode cX12_init 246 = .ok (.bipush 6, 2) := by decide +kernel
theorem dX12_init_248 : decode cX12_init 248 = .ok (.newarray .int, 2) := by decide +kernel
theorem dX12_init_250 : decode cX12_init 250 = .ok (.putfield 104, 3) := by decide +kernel
theorem dX12_init_253 : decode cX12_init 253 = .ok (.aload_n 0, 1) := by decide +kernel
theorem dX12_init_254 : decode cX12_init 254 = .ok (.bipush 6, 2) := by decide +kernel
theorem dX12_init_256 : decode cX12_init 256 = .ok (.newarray .int, 2) := by decide +kernel
theorem dX12_init_258 : decode cX12_init 258 = .ok (.putfield 107, 3) := by decide +kernel
theorem dX12_init_261 : decode cX12_init 261 = .ok (.aload_n 0, 1) := by decide +kernel
theorem dX12_init_262 : decode cX12_init 262 = .ok (.bipush 20, 2) := by decide +kernel
theorem dX12_init_264 : decode cX12_init 264 = .ok (.newarray .int, 2) := by decide +kernel
theorem dX12_init_266 : decode cX12_init 266 = .ok (.putfield 110, 3) := by decide +kernel
theorem dX12_init_269 : decode cX12_init 269 = .ok (.aload_n 0, 1) := by decide +kernel
theorem dX12_init_270 : decode cX12_init 270 = .ok (.bipush 20, 2) := by decide +kernel
theorem dX12_init_272 : decode cX12_init 272 = .ok (.newarray .int, 2) := by decide +kernel
theorem dX12_init_274 : decode cX12_init 274 = .ok (.putfield 113, 3) := by decide +kernel
theorem dX12_init_277 : decode cX12_init 277 = .ok (.aload_n 0, 1) := by decide +kernel
theorem dX12_init_278 : decode cX12_init 278 = .ok (.bipush 20, 2) := by decide +kernel
theorem dX12_init_280 : decode cX12_init 280 = .ok (.newarray .int, 2) := by decide +kernel
theorem dX12_init_282 : decode cX12_init 282 = .ok (.putfield 116, 3) := by decide +kernel
theorem dX12_init_285 : decode cX12_init 285 = .ok (.aload_n 0, 1) := by decide +kernel
theorem dX12_init_286 : decode cX12_init 286 = .ok (.bipush 20, 2) := by decide +kernel
theorem dX12_init_288 : decode cX12_init 288 = .ok (.newarray .int, 2) := by decide +kernel
theorem dX12_init_290 : decode cX12_init 290 = .ok (.putfield 119, 3) := by decide +kernel
theorem dX12_init_293 : decode cX12_init 293 = .ok (.aload_n 0, 1) := by decide +kernel
theorem dX12_init_294 : decode cX12_init 294 = .ok (.bipush 20, 2) := by decide +kernel
theorem dX12_init_296 : decode cX12_init 296 = .ok (.newarray .int, 2) := by decide +kernel
theorem dX12_init_298 : decode cX12_init 298 = .ok (.putfield 122, 3) := by decide +kernel
theorem dX12_init_301 : decode cX12_init 301 = .ok (.aload_n 0, 1) := by decide +kernel
theorem dX12_init_302 : decode cX12_init 302 = .ok (.iconst 5, 1) := by decide +kernel
theorem dX12_init_303 : decode cX12_init 303 = .ok (.newarray .int, 2) := by decide +kernel
theorem dX12_init_305 : decode cX12_init 305 = .ok (.putfield 125, 3) := by decide +kernel
theorem dX12_init_308 : decode cX12_init 308 = .ok (.aload_n 0, 1) := by decide +kernel
theorem dX12_init_309 : decode cX12_init 309 = .ok (.bipush 100, 2) := by decide +kernel
theorem dX12_init_311 : decode cX12_init 311 = .ok (.newarray .boolean, 2) := by decide +kernel
theorem dX12_init_313 : decode cX12_init 313 = .ok (.putfield 128, 3) := by decide +kernel
theorem dX12_init_316 : decode cX12_init 316 = .ok (.aload_n 0, 1) := by decide +kernel
theorem dX12_init_317 : decode cX12_init 317 = .ok (.sipush 200, 3) := by decide +kernel
theorem dX12_init_320 : decode cX12_init 320 = .ok (.newarray .int, 2) := by decide +kernel
theorem dX12_init_322 : decode cX12_init 322 = .ok (.putfield 131, 3) := by decide +kernel
theorem dX12_init_325 : decode cX12_init 325 = .ok (.aload_n 0, 1) := by decide +kernel
theorem dX12_init_326 : decode cX12_init 326 = .ok (.sipush 200, 3) := by decide +kernel
theorem dX12_init_329 : decode cX12_init 329 = .ok (.newarray .int, 2) := by decide +kernel
theorem dX12_init_331 : decode cX12_init 331 = .ok (.putfield 134, 3) := by decide +kernel
theorem dX12_init_334 : decode cX12_init 334 = .ok (.aload_n 0, 1) := by decide +kernel
theorem dX12_init_335 : decode cX12_init 335 = .ok (.sipush 200, 3) := by decide +kernel
theorem dX12_init_338 : decode cX12_init 338 = .ok (.newarray .int, 2) := by decide +kernel
theorem dX12_init_340 : decode cX12_init 340 = .ok (.putfield 137, 3) := by decide +kernel
theorem dX12_init_343 : decode cX12_init 343 = .ok (.aload_n 0, 1) := by decide +kernel
theorem dX12_init_344 : decode cX12_init 344 = .ok (.sipush 200, 3) := by decide +kernel
theorem dX12_init_347 : decode cX12_init 347 = .ok (.newarray .int, 2) := by decide +kernel
theorem dX12_init_349 : decode cX12_init 349 = .ok (.putfield 140, 3) := by decide +kernel
theorem dX12_init_352 : decode cX12_init 352 = .ok (.aload_n 0, 1) := by decide +kernel
theorem dX12_init_353 : decode cX12_init 353 = .ok (.bipush 9, 2) := by decide +kernel
theorem dX12_init_355 : decode cX12_init 355 = .ok (.newarray .int, 2) := by decide +kernel
theorem dX12_init_357 : decode cX12_init 357 = .ok (.putfield 143, 3) := by decide +kernel
theorem dX12_init_360 : decode cX12_init 360 = .ok (.aload_n 0, 1) := by decide +kernel
theorem dX12_init_361 : decode cX12_init 361 = .ok (.sipush 500, 3) := by decide +kernel
theorem dX12_init_364 : decode cX12_init 364 = .ok (.newarray .int, 2) := by decide +kernel
theorem dX12_init_366 : decode cX12_init 366 = .ok (.putfield 146, 3) := by decide +kernel
theorem dX12_init_369 : decode cX12_init 369 = .ok (.aload_n 0, 1) := by decide +kernel
theorem dX12_init_370 : decode cX12_init 370 = .ok (.bipush 30, 2) := by decide +kernel
theorem dX12_init_372 : decode cX12_init 372 = .ok (.newarray .int, 2) := by decide +kernel
theorem dX12_init_374 : decode cX12_init 374 = .ok (.putfield 149, 3) := by decide +kernel
theorem dX12_init_377 : decode cX12_init 377 = .ok (.aload_n 0, 1) := by decide +kernel
theorem dX12_init_378 : decode cX12_init 378 = .ok (.bipush 30, 2) := by decide +kernel
theorem dX12_init_380 : decode cX12_init 380 = .ok (.newarray .int, 2) := by decide +kernel
theorem dX12_init_382 : decode cX12_init 382 = .ok (.putfield 152, 3) := by decide +kernel
theorem dX12_init_385 : decode cX12_init 385 = .ok (.aload_n 0, 1) := by decide +kernel
theorem dX12_init_386 : decode cX12_init 386 = .ok (.bipush 30, 2) := by decide +kernel
theorem dX12_init_388 : decode cX12_init 388 = .ok (.newarray .int, 2) := by decide +kernel
theorem dX12_init_390 : decode cX12_init 390 = .ok (.putfield 155, 3) := by decide +kernel
theorem dX12_init_393 : decode cX12_init 393 = .ok (.aload_n 0, 1) := by decide +kernel
theorem dX12_init_394 : decode cX12_init 394 = .ok (.bipush 30, 2) := by decide +kernel
theorem dX12_init_396 : decode cX12_init 396 = .ok (.newarray .int, 2) := by decide +kernel
theorem dX12_init_398 : decode cX12_init 398 = .ok (.putfield 158, 3) := by decide +kernel
theorem dX12_init_401 : decode cX12_init 401 = .ok (.aload_n 0, 1) := by decide +kernel
theorem dX12_init_402 : decode cX12_init 402 = .ok (.bipush 6, 2) := by decide +kernel
theorem dX12_init_404 : decode cX12_init 404 = .ok (.newarray .int, 2) := by decide +kernel
theorem dX12_init_406 : decode cX12_init 406 = .ok (.putfield 161, 3) := by decide +kernel
theorem dX12_init_409 : decode cX12_init 409 = .ok (.aload_n 0, 1) := by decide +kernel
theorem dX12_init_410 : decode cX12_init 410 = .ok (.bipush 6, 2) := by decide +kernel
theorem dX12_init_412 : decode cX12_init 412 = .ok (.newarray .int, 2) := by decide +kernel
theorem dX12_init_414 : decode cX12_init 414 = .ok (.putfield 164, 3) := by decide +kernel
theorem dX12_init_417 : decode cX12_init 417 = .ok (.aload_n 0, 1) := by decide +kernel
theorem dX12_init_418 : decode cX12_init 418 = .ok (.bipush 6, 2) := by decide +kernel
theorem dX12_init_420 : decode cX12_init 420 = .ok (.newarray .int, 2) := by decide +kernel
theorem dX12_init_422 : decode cX12_init 422 = .ok (.putfield 167, 3) := by decide +kernel
theorem dX12_init_425 : decode cX12_init 425 = .ok (.aload_n 0, 1) := by decide +kernel
theorem dX12_init_426 : decode cX12_init 426 = .ok (.bipush 6, 2) := by decide +kernel
theorem dX12_init_428 : decode cX12_init 428 = .ok (.newarray .int, 2) := by decide +kernel
theorem dX12_init_430 : decode cX12_init 430 = .ok (.putfield 170, 3) := by decide +kernel
theorem dX12_init_433 : decode cX12_init 433 = .ok (.aload_n 0, 1) := by decide +kernel
theorem dX12_init_434 : decode cX12_init 434 = .ok (.bipush 6, 2) := by decide +kernel
theorem dX12_init_436 : decode cX12_init 436 = .ok (.newarray .int, 2) := by decide +kernel
theorem dX12_init_438 : decode cX12_init 438 = .ok (.putfield 173, 3) := by decide +kernel
theorem dX12_init_441 : decode cX12_init 441 = .ok (.aload_n 0, 1) := by decide +kernel
theorem dX12_init_442 : decode cX12_init 442 = .ok (.bipush 6, 2) := by decide +kernel
theorem dX12_init_444 : decode cX12_init 444 = .ok (.newarray .int, 2) := by decide +kernel
theorem dX12_init_446 : decode cX12_init 446 = .ok (.putfield 176, 3) := by decide +kernel
theorem dX12_init_449 : decode cX12_init 449 = .ok (.aload_n 0, 1) := by decide +kernel
theorem dX12_init_450 : decode cX12_init 450 = .ok (.bipush 6, 2) := by decide +kernel
theorem dX12_init_452 : decode cX12_init 452 = .ok (.newarray .int, 2) := by decide +kernel
theorem dX12_init_454 : decode cX12_init 454 = .ok (.putfield 179, 3) := by decide +kernel
theorem dX12_init_457 : decode cX12_init 457 = .ok (.aload_n 0, 1) := by decide +kernel
theorem dX12_init_458 : decode cX12_init 458 = .ok (.bipush 6, 2) := by decide +kernel
theorem dX12_init_460 : decode cX12_init 460 = .ok (.newarray .int, 2) := by decide +kernel
theorem dX12_init_462 : decode cX12_init 462 = .ok (.putfield 182, 3) := by decide +kernel
theorem dX12_init_465 : decode cX12_init 465 = .ok (.aload_n 0, 1) := by decide +kernel
theorem dX12_init_466 : decode cX12_init 466 = .ok (.bipush 6, 2) := by decide +kernel
theorem dX12_init_468 : decode cX12_init 468 = .ok (.newarray .int, 2) := by decide +kernel
theorem dX12_init_470 : decode cX12_init 470 = .ok (.putfield 185, 3) := by decide +kernel
theorem dX12_init_473 : decode cX12_init 473 = .ok (.aload_n 0, 1) := by decide +kernel
theorem dX12_init_474 : decode cX12_init 474 = .ok (.bipush 6, 2) := by decide +kernel
theorem dX12_init_476 : decode cX12_init 476 = .ok (.newarray .int, 2) := by decide +kernel
theorem dX12_init_478 : decode cX12_init 478 = .ok (.putfield 188, 3) := by decide +kernel
theorem dX12_init_481 : decode cX12_init 481 = .ok (.aload_n 0, 1) := by decide +kernel
theorem dX12_init_482 : decode cX12_init 482 = .ok (.getfield 34, 3) := by decide +kernel
theorem dX12_init_485 : decode cX12_init 485 = .ok (.iconst 0, 1) := by decide +kernel
theorem dX12_init_486 : decode cX12_init 486 = .ok (.bipush 98, 2) := by decide +kernel
theorem dX12_init_488 : decode cX12_init 488 = .ok (.bipush 97, 2) := by decide +kernel
theorem dX12_init_490 : decode cX12_init 490 = .ok (.bipush 114, 2) := by decide +kernel
theorem dX12_init_492 : decode cX12_init 492 = .ok (.iconst 0, 1) := by decide +kernel
theorem dX12_init_493 : decode cX12_init 493 = .ok (.iconst 0, 1) := by decide +kernel
theorem dX12_init_494 : decode cX12_init 494 = .ok (.iconst 0, 1) := by decide +kernel
theorem dX12_init_495 : decode cX12_init 495 = .ok (.iconst 0, 1) := by decide +kernel
theorem dX12_init_496 : decode cX12_init 496 = .ok (.invokestatic 191, 3) := by decide +kernel
theorem dX12_init_499 : decode cX12_init 499 = .ok (.lastore, 1) := by decide +kernel
theorem dX12_init_500 : decode cX12_init 500 = .ok (.aload_n 0, 1) := by decide +kernel
theorem dX12_init_501 : decode cX12_init 501 = .ok (.getfield 34, 3) := by decide +kernel
theorem dX12_init_504 : decode cX12_init 504 = .ok (.iconst 1, 1) := by decide +kernel
theorem dX12_init_505 : decode cX12_init 505 = .ok (.bipush 105, 2) := by decide +kernel
theorem dX12_init_507 : decode cX12_init 507 = .ok (.bipush 102, 2) := by decide +kernel
theorem dX12_init_509 : decode cX12_init 509 = .ok (.iconst 0, 1) := by decide +kernel
theorem dX12_init_510 : decode cX12_init 510 = .ok (.iconst 0, 1) := by decide +kernel
theorem dX12_init_511 : decode cX12_init 511 = .ok (.iconst 0, 1) := by decide +kernel
theorem dX12_init_512 : decode cX12_init 512 = .ok (.iconst 0, 1) := by decide +kernel
theorem dX12_init_513 : decode cX12_init 513 = .ok (.iconst 0, 1) := by decide +kernel
theorem dX12_init_514 : decode cX12_init 514 = .ok (.invokestatic 191, 3) := by decide +kernel
theorem dX12_init_517 : decode cX12_init 517 = .ok (.lastore, 1) := by decide +kernel
theorem dX12_init_518 : decode cX12_init 518 = .ok (.aload_n 0, 1) := by decide +kernel
theorem dX12_init_519 : decode cX12_init 519 = .ok (.getfield 34, 3) := by decide +kernel
theorem dX12_init_522 : decode cX12_init 522 = .ok (.iconst 2, 1) := by decide +kernel
theorem dX12_init_523 : decode cX12_init 523 = .ok (.bipush 112, 2) := by decide +kernel
theorem dX12_init_525 : decode cX12_init 525 = .ok (.bipush 111, 2) := by decide +kernel
theorem dX12_init_527 : decode cX12_init 527 = .ok (.bipush 105, 2) := by decide +kernel
theorem dX12_init_529 : decode cX12_init 529 = .ok (.bipush 110, 2) := by decide +kernel
theorem dX12_init_531 : decode cX12_init 531 = .ok (.bipush 116, 2) := by decide +kernel
theorem dX12_init_533 : decode cX12_init 533 = .ok (.bipush 115, 2) := by decide +kernel
theorem dX12_init_535 : decode cX12_init 535 = .ok (.iconst 0, 1) := by decide +kernel
theorem dX12_init_536 : decode cX12_init 536 = .ok (.invokestatic 191, 3) := by decide +kernel
theorem dX12_init_539 : decode cX12_init 539 = .ok (.lastore, 1) := by decide +kernel
theorem dX12_init_540 : decode cX12_init 540 = .ok (.aload_n 0, 1) := by decide +kernel
theorem dX12_init_541 : decode cX12_init 541 = .ok (.getfield 34, 3) := by decide +kernel
theorem dX12_init_544 : decode cX12_init 544 = .ok (.iconst 3, 1) := by decide +kernel
theorem dX12_init_545 : decode cX12_init 545 = .ok (.bipush 116, 2) := by decide +kernel
theorem dX12_init_547 : decode cX12_init 547 = .ok (.bipush 105, 2) := by decide +kernel
theorem dX12_init_549 : decode cX12_init 549 = .ok (.bipush 116, 2) := by decide +kernel
theorem dX12_init_551 : decode cX12_init 551 = .ok (.bipush 108, 2) := by decide +kernel
theorem dX12_init_553 : decode cX12_init 553 = .ok (.bipush 101, 2) := by decide +kernel
theorem dX12_init_555 : decode cX12_init 555 = .ok (.iconst 0, 1) := by decide +kernel
theorem dX12_init_556 : decode cX12_init 556 = .ok (.iconst 0, 1) := by decide +kernel
theorem dX12_init_557 : decode cX12_init 557 = .ok (.invokestatic 191, 3) := by decide +kernel
theorem dX12_init_560 : decode cX12_init 560 = .ok (.lastore, 1) := by decide +kernel
theorem dX12_init_561 : decode cX12_init 561 = .ok (.aload_n 0, 1) := by decide +kernel
theorem dX12_init_562 : decode cX12_init 562 = .ok (.getfield 34, 3) := by decide +kernel
theorem dX12_init_565 : decode cX12_init 565 = .ok (.iconst 4, 1) := by decide +kernel
theorem dX12_init_566 : decode cX12_init 566 = .ok (.bipush 117, 2) := by decide +kernel
theorem dX12_init_568 : decode cX12_init 568 = .ok (.bipush 110, 2) := by decide +kernel
theorem dX12_init_570 : decode cX12_init 570 = .ok (.bipush 100, 2) := by decide +kernel
theorem dX12_init_572 : decode cX12_init 572 = .ok (.bipush 101, 2) := by decide +kernel
theorem dX12_init_574 : decode cX12_init 574 = .ok (.bipush 114, 2) := by decide +kernel
theorem dX12_init_576 : decode cX12_init 576 = .ok (.iconst 0, 1) := by decide +kernel
theorem dX12_init_577 : decode cX12_init 577 = .ok (.iconst 0, 1) := by decide +kernel
theorem dX12_init_578 : decode cX12_init 578 = .ok (.invokestatic 191, 3) := by decide +kernel
theorem dX12_init_581 : decode cX12_init 581 = .ok (.lastore, 1) := by decide +kernel
theorem dX12_init_582 : decode cX12_init 582 = .ok (.aload_n 0, 1) := by decide +kernel
theorem dX12_init_583 : decode cX12_init 583 = .ok (.getfield 34, 3) := by decide +kernel
theorem dX12_init_586 : decode cX12_init 586 = .ok (.iconst 5, 1) := by decide +kernel
theorem dX12_init_587 : decode cX12_init 587 = .ok (.bipush 111, 2) := by decide +kernel
theorem dX12_init_589 : decode cX12_init 589 = .ok (.bipush 114, 2) := by decide +kernel
theorem dX12_init_591 : decode cX12_init 591 = .ok (.iconst 0, 1) := by decide +kernel
theorem dX12_init_592 : decode cX12_init 592 = .ok (.iconst 0, 1) := by decide +kernel
theorem dX12_init_593 : decode cX12_init 593 = .ok (.iconst 0, 1) := by decide +kernel
theorem dX12_init_594 : decode cX12_init 594 = .ok (.iconst 0, 1) := by decide +kernel
theorem dX12_init_595 : decode cX12_init 595 = .ok (.iconst 0, 1) := by decide +kernel
theorem dX12_init_596 : decode cX12_init 596 = .ok (.invokestatic 191, 3) := by decide +kernel
theorem dX12_init_599 : decode cX12_init 599 = .ok (.lastore, 1) := by decide +kernel
theorem dX12_init_600 : decode cX12_init 600 = .ok (.aload_n 0, 1) := by decide +kernel
theorem dX12_init_601 : decode cX12_init 601 = .ok (.getfield 34, 3) := by decide +kernel
theorem dX12_init_604 : decode cX12_init 604 = .ok (.bipush 6, 2) := by decide +kernel
theorem dX12_init_606 : decode cX12_init 606 = .ok (.bipush 97, 2) := by decide +kernel
theorem dX12_init_608 : decode cX12_init 608 = .ok (.bipush 110, 2) := by decide +kernel
theorem dX12_init_610 : decode cX12_init 610 = .ok (.bipush 100, 2) := by decide +kernel
theorem dX12_init_612 : decode cX12_init 612 = .ok (.iconst 0, 1) := by decide +kernel
theorem dX12_init_613 : decode cX12_init 613 = .ok (.iconst 0, 1) := by decide +kernel
theorem dX12_init_614 : decode cX12_init 614 = .ok (.iconst 0, 1) := by decide +kernel
theorem dX12_init_615 : decode cX12_init 615 = .ok (.iconst 0, 1) := by decide +kernel
theorem dX12_init_616 : decode cX12_init 616 = .ok (.invokestatic 191, 3) := by decide +kernel
theorem dX12_init_619 : decode cX12_init 619 = .ok (.lastore, 1) := by decide +kernel
theorem dX12_init_620 : decode cX12_init 620 = .ok (.aload_n 0, 1) := by decide +kernel
theorem dX12_init_621 : decode cX12_init 621 = .ok (.getfield 34, 3) := by decide +kernel
theorem dX12_init_624 : decode cX12_init 624 = .ok (.bipush 7, 2) := by decide +kernel
theorem dX12_init_626 : decode cX12_init 626 = .ok (.bipush 97, 2) := by decide +kernel
theorem dX12_init_628 : decode cX12_init 628 = .ok (.bipush 103, 2) := by decide +kernel
theorem dX12_init_630 : decode cX12_init 630 = .ok (.bipush 101, 2) := by decide +kernel
theorem dX12_init_632 : decode cX12_init 632 = .ok (.iconst 0, 1) := by decide +kernel
theorem dX12_init_633 : decode cX12_init 633 = .ok (.iconst 0, 1) := by decide +kernel
theorem dX12_init_634 : decode cX12_init 634 = .ok (.iconst 0, 1) := by decide +kernel
theorem dX12_init_635 : decode cX12_init 635 = .ok (.iconst 0, 1) := by decide +kernel
theorem dX12_init_636 : decode cX12_init 636 = .ok (.invokestatic 191, 3) := by decide +kernel
theorem dX12_init_639 : decode cX12_init 639 = .ok (.lastore, 1) := by decide +kernel
theorem dX12_init_640 : decode cX12_init 640 = .ok (.aload_n 0, 1) := by decide +kernel
theorem dX12_init_641 : decode cX12_init 641 = .ok (.getfield 34, 3) := by decide +kernel
theorem dX12_init_644 : decode cX12_init 644 = .ok (.bipush 8, 2) := by decide +kernel
theorem dX12_init_646 : decode cX12_init 646 = .ok (.bipush 115, 2) := by decide +kernel
theorem dX12_init_648 : decode cX12_init 648 = .ok (.bipush 101, 2) := by decide +kernel
theorem dX12_init_650 : decode cX12_init 650 = .ok (.bipush 120, 2) := by decide +kernel
theorem dX12_init_652 : decode cX12_init 652 = .ok (.iconst 0, 1) := by decide +kernel
theorem dX12_init_653 : decode cX12_init 653 = .ok (.iconst 0, 1) := by decide +kernel
theorem dX12_init_654 : decode cX12_init 654 = .ok (.iconst 0, 1) := by decide +kernel
theorem dX12_init_655 : decode cX12_init 655 = .ok (.iconst 0, 1) := by decide +kernel
theorem dX12_init_656 : decode cX12_init 656 = .ok (.invokestatic 191, 3) := by decide +kernel
theorem dX12_init_659 : decode cX12_init 659 = .ok (.lastore, 1) := by decide +kernel
theorem dX12_init_660 : decode cX12_init 660 = .ok (.aload_n 0, 1) := by decide +kernel
theorem dX12_init_661 : decode cX12_init 661 = .ok (.getfield 34, 3) := by decide +kernel
theorem dX12_init_664 : decode cX12_init 664 = .ok (.bipush 9, 2) := by decide +kernel
theorem dX12_init_666 : decode cX12_init 666 = .ok (.bipush 98, 2) := by decide +kernel
theorem dX12_init_668 : decode cX12_init 668 = .ok (.bipush 114, 2) := by decide +kernel
theorem dX12_init_670 : decode cX12_init 670 = .ok (.bipush 101, 2) := by decide +kernel
theorem dX12_init_672 : decode cX12_init 672 = .ok (.bipush 101, 2) := by decide +kernel
theorem dX12_init_674 : decode cX12_init 674 = .ok (.bipush 100, 2) := by decide +kernel
theorem dX12_init_676 : decode cX12_init 676 = .ok (.iconst 0, 1) := by decide +kernel
theorem dX12_init_677 : decode cX12_init 677 = .ok (.iconst 0, 1) := by decide +kernel
theorem dX12_init_678 : decode cX12_init 678 = .ok (.invokestatic 191, 3) := by decide +kernel
theorem dX12_init_681 : decode cX12_init 681 = .ok (.lastore, 1) := by decide +kernel
theorem dX12_init_682 : decode cX12_init 682 = .ok (.aload_n 0, 1) := by decide +kernel
theorem dX12_init_683 : decode cX12_init 683 = .ok (.getfield 34, 3) := by decide +kernel
theorem dX12_init_686 : decode cX12_init 686 = .ok (.bipush 10, 2) := by decide +kernel
theorem dX12_init_688 : decode cX12_init 688 = .ok (.bipush 103, 2) := by decide +kernel
theorem dX12_init_690 : decode cX12_init 690 = .ok (.bipush 114, 2) := by decide +kernel
theorem dX12_init_692 : decode cX12_init 692 = .ok (.bipush 111, 2) := by decide +kernel
theorem dX12_init_694 : decode cX12_init 694 = .ok (.bipush 117, 2) := by decide +kernel
theorem dX12_init_696 : decode cX12_init 696 = .ok (.bipush 112, 2) := by decide +kernel
theorem dX12_init_698 : decode cX12_init 698 = .ok (.iconst 0, 1) := by decide +kernel
theorem dX12_init_699 : decode cX12_init 699 = .ok (.iconst 0, 1) := by decide +kernel
theorem dX12_init_700 : decode cX12_init 700 = .ok (.invokestatic 191, 3) := by decide +kernel
theorem dX12_init_703 : decode cX12_init 703 = .ok (.lastore, 1) := by decide +kernel
theorem dX12_init_704 : decode cX12_init 704 = .ok (.aload_n 0, 1) := by decide +kernel
theorem dX12_init_705 : decode cX12_init 705 = .ok (.getfield 34, 3) := by decide +kernel
theorem dX12_init_708 : decode cX12_init 708 = .ok (.bipush 11, 2) := by decide +kernel
theorem dX12_init_710 : decode cX12_init 710 = .ok (.bipush 99, 2) := by decide +kernel
theorem dX12_init_712 : decode cX12_init 712 = .ok (.bipush 108, 2) := by decide +kernel
theorem dX12_init_714 : decode cX12_init 714 = .ok (.bipush 97, 2) := by decide +kernel
theorem dX12_init_716 : decode cX12_init 716 = .ok (.bipush 115, 2) := by decide +kernel
theorem dX12_init_718 : decode cX12_init 718 = .ok (.bipush 115, 2) := by decide +kernel
theorem dX12_init_720 : decode cX12_init 720 = .ok (.iconst 0, 1) := by decide +kernel
theorem dX12_init_721 : decode cX12_init 721 = .ok (.iconst 0, 1) := by decide +kernel
theorem dX12_init_722 : decode cX12_init 722 = .ok (.invokestatic 191, 3) := by decide +kernel
theorem dX12_init_725 : decode cX12_init 725 = .ok (.lastore, 1) := by decide +kernel
theorem dX12_init_726 : decode cX12_init 726 = .ok (.aload_n 0, 1) := by decide +kernel
theorem dX12_init_727 : decode cX12_init 727 = .ok (.getfield 34, 3) := by decide +kernel
theorem dX12_init_730 : decode cX12_init 730 = .ok (.bipush 12, 2) := by decide +kernel
theorem dX12_init_732 : decode cX12_init 732 = .ok (.bipush 111, 2) := by decide +kernel
theorem dX12_init_734 : decode cX12_init 734 = .ok (.bipush 119, 2) := by decide +kernel
theorem dX12_init_736 : decode cX12_init 736 = .ok (.bipush 110, 2) := by decide +kernel
theorem dX12_init_738 : decode cX12_init 738 = .ok (.iconst 0, 1) := by decide +kernel
theorem dX12_init_739 : decode cX12_init 739 = .ok (.iconst 0, 1) := by decide +kernel
theorem dX12_init_740 : decode cX12_init 740 = .ok (.iconst 0, 1) := by decide +kernel
theorem dX12_init_741 : decode cX12_init 741 = .ok (.iconst 0, 1) := by decide +kernel
theorem dX12_init_742 : decode cX12_init 742 = .ok (.invokestatic 191, 3) := by decide +kernel
theorem dX12_init_745 : decode cX12_init 745 = .ok (.lastore, 1) := by decide +kernel
theorem dX12_init_746 : decode cX12_init 746 = .ok (.aload_n 0, 1) := by decide +kernel
theorem dX12_init_747 : decode cX12_init 747 = .ok (.getfield 34, 3) := by decide +kernel
theorem dX12_init_750 : decode cX12_init 750 = .ok (.bipush 13, 2) := by decide +kernel
theorem dX12_init_752 : decode cX12_init 752 = .ok (.bipush 107, 2) := by decide +kernel
theorem dX12_init_754 : decode cX12_init 754 = .ok (.bipush 105, 2) := by decide +kernel
theorem dX12_init_756 : decode cX12_init 756 = .ok (.bipush 110, 2) := by decide +kernel
theorem dX12_init_758 : decode cX12_init 758 = .ok (.iconst 0, 1) := by decide +kernel
theorem dX12_init_759 : decode cX12_init 759 = .ok (.iconst 0, 1) := by decide +kernel
theorem dX12_init_760 : decode cX12_init 760 = .ok (.iconst 0, 1) := by decide +kernel
theorem dX12_init_761 : decode cX12_init 761 = .ok (.iconst 0, 1) := by decide +kernel
theorem dX12_init_762 : decode cX12_init 762 = .ok (.invokestatic 191, 3) := by decide +kernel
theorem dX12_init_765 : decode cX12_init 765 = .ok (.lastore, 1) := by decide +kernel
theorem dX12_init_766 : decode cX12_init 766 = .ok (.aload_n 0, 1) := by decide +kernel
theorem dX12_init_767 : decode cX12_init 767 = .ok (.getfield 34, 3) := by decide +kernel
theorem dX12_init_770 : decode cX12_init 770 = .ok (.bipush 14, 2) := by decide +kernel
theorem dX12_init_772 : decode cX12_init 772 = .ok (.bipush 112, 2) := by decide +kernel
theorem dX12_init_774 : decode cX12_init 774 = .ok (.bipush 97, 2) := by decide +kernel
theorem dX12_init_776 : decode cX12_init 776 = .ok (.bipush 114, 2) := by decide +kernel
theorem dX12_init_778 : decode cX12_init 778 = .ok (.bipush 116, 2) := by decide +kernel
theorem dX12_init_780 : decode cX12_init 780 = .ok (.bipush 101, 2) := by decide +kernel
theorem dX12_init_782 : decode cX12_init 782 = .ok (.bipush 100, 2) := by decide +kernel
theorem dX12_init_784 : decode cX12_init 784 = .ok (.iconst 0, 1) := by decide +kernel
theorem dX12_init_785 : decode cX12_init 785 = .ok (.invokestatic 191, 3) := by decide +kernel
theorem dX12_init_788 : decode cX12_init 788 = .ok (.lastore, 1) := by decide +kernel
theorem dX12_init_789 : decode cX12_init 789 = .ok (.aload_n 0, 1) := by decide +kernel
theorem dX12_init_790 : decode cX12_init 790 = .ok (.getfield 34, 3) := by decide +kernel
theorem dX12_init_793 : decode cX12_init 793 = .ok (.bipush 15, 2) := by decide +kernel
theorem dX12_init_795 : decode cX12_init 795 = .ok (.bipush 98, 2) := by decide +kernel
theorem dX12_init_797 : decode cX12_init 797 = .ok (.bipush 101, 2) := by decide +kernel
theorem dX12_init_799 : decode cX12_init 799 = .ok (.bipush 97, 2) := by decide +kernel
theorem dX12_init_801 : decode cX12_init 801 = .ok (.bipush 116, 2) := by decide +kernel
theorem dX12_init_803 : decode cX12_init 803 = .ok (.bipush 101, 2) := by decide +kernel
theorem dX12_init_805 : decode cX12_init 805 = .ok (.bipush 110, 2) := by decide +kernel
theorem dX12_init_807 : decode cX12_init 807 = .ok (.iconst 0, 1) := by decide +kernel
theorem dX12_init_808 : decode cX12_init 808 = .ok (.invokestatic 191, 3) := by decide +kernel
theorem dX12_init_811 : decode cX12_init 811 = .ok (.lastore, 1) := by decide +kernel
theorem dX12_init_812 : decode cX12_init 812 = .ok (.aload_n 0, 1) := by decide +kernel
theorem dX12_init_813 : decode cX12_init 813 = .ok (.iconst 1, 1) := by decide +kernel
theorem dX12_init_814 : decode cX12_init 814 = .ok (.putfield 195, 3) := by decide +kernel
theorem dX12_init_817 : decode cX12_init 817 = .ok (.iconst 0, 1) := by decide +kernel
theorem dX12_init_818 : decode cX12_init 818 = .ok (.istore_n 1, 1) := by decide +kernel
theorem dX12_init_819 : decode cX12_init 819 = .ok (.iload_n 1, 1) := by decide +kernel
theorem dX12_init_820 : decode cX12_init 820 = .ok (.bipush 30, 2) := by decide +kernel
theorem dX12_init_822 : decode cX12_init 822 = .ok (.if_icmp .ge 16, 3) := by decide +kernel
theorem dX12_init_825 : decode cX12_init 825 = .ok (.aload_n 0, 1) := by decide +kernel
theorem dX12_init_826 : decode cX12_init 826 = .ok (.getfield 152, 3) := by decide +kernel
theorem dX12_init_829 : decode cX12_init 829 = .ok (.iload_n 1, 1) := by decide +kernel
theorem dX12_init_830 : decode cX12_init 830 = .ok (.iconst (-1), 1) := by decide +kernel
theorem dX12_init_831 : decode cX12_init 831 = .ok (.iastore, 1) := by decide +kernel
theorem dX12_init_832 : decode cX12_init 832 = .ok (.iinc 1 1, 3) := by decide +kernel
theorem dX12_init_835 : decode cX12_init 835 = .ok (.goto (-16), 3) := by decide +kernel
theorem dX12_init_838 : decode cX12_init 838 = .ok (.return_, 1) := by decide +kernel
theorem dX12_feed_0 : decode cX12_feed 0 = .ok (.aload_n 0, 1) := by decide +kernel
theorem dX12_feed_1 : decode cX12_feed 1 = .ok (.getfield 198, 3) := by decide +kernel
theorem dX12_feed_4 : decode cX12_feed 4 = .ok (.bipush 20, 2) := by decide +kernel
theorem dX12_feed_6 : decode cX12_feed 6 = .ok (.iadd, 1) := by decide +kernel
theorem dX12_feed_7 : decode cX12_feed 7 = .ok (.sipush 2000, 3) := by decide +kernel
theorem dX12_feed_10 : decode cX12_feed 10 = .ok (.if_icmp .le 5, 3) := by decide +kernel
theorem dX12_feed_13 : decode cX12_feed 13 = .ok (.iconst (-1), 1) := by decide +kernel
theorem dX12_feed_14 : decode cX12_feed 14 = .ok (.ireturn, 1) := by decide +kernel
theorem dX12_feed_15 : decode cX12_feed 15 = .ok (.aload_n 0, 1) := by decide +kernel
theorem dX12_feed_16 : decode cX12_feed 16 = .ok (.iload_n 1, 1) := by decide +kernel
theorem dX12_feed_17 : decode cX12_feed 17 = .ok (.invokevirtual 201, 3) := by decide +kernel
theorem dX12_feed_20 : decode cX12_feed 20 = .ok (.aload_n 0, 1) := by decide +kernel
theorem dX12_feed_21 : decode cX12_feed 21 = .ok (.iload_n 2, 1) := by decide +kernel
theorem dX12_feed_22 : decode cX12_feed 22 = .ok (.invokevirtual 201, 3) := by decide +kernel
theorem dX12_feed_25 : decode cX12_feed 25 = .ok (.aload_n 0, 1) := by decide +kernel
theorem dX12_feed_26 : decode cX12_feed 26 = .ok (.iload_n 3, 1) := by decide +kernel
theorem dX12_feed_27 : decode cX12_feed 27 = .ok (.invokevirtual 201, 3) := by decide +kernel
theorem dX12_feed_30 : decode cX12_feed 30 = .ok (.aload_n 0, 1) := by decide +kernel
theorem dX12_feed_31 : decode cX12_feed 31 = .ok (.iload 4, 2) := by decide +kernel
theorem dX12_feed_33 : decode cX12_feed 33 = .ok (.invokevirtual 201, 3) := by decide +kernel
theorem dX12_feed_36 : decode cX12_feed 36 = .ok (.aload_n 0, 1) := by decide +kernel
theorem dX12_feed_37 : decode cX12_feed 37 = .ok (.iload 5, 2) := by decide +kernel
theorem dX12_feed_39 : decode cX12_feed 39 = .ok (.invokevirtual 201, 3) := by decide +kernel
theorem dX12_feed_42 : decode cX12_feed 42 = .ok (.aload_n 0, 1) := by decide +kernel
theorem dX12_feed_43 : decode cX12_feed 43 = .ok (.getfield 198, 3) := by decide +kernel
theorem dX12_feed_46 : decode cX12_feed 46 = .ok (.ireturn, 1) := by decide +kernel
theorem dX12_put_0 : decode cX12_put 0 = .ok (.bipush 24, 2) := by decide +kernel
theorem dX12_put_2 : decode cX12_put 2 = .ok (.istore_n 2, 1) := by decide +kernel
theorem dX12_put_3 : decode cX12_put 3 = .ok (.iload_n 2, 1) := by decide +kernel
theorem dX12_put_4 : decode cX12_put 4 = .ok (.ifCond .lt 32, 3) := by decide +kernel
theorem dX12_put_7 : decode cX12_put 7 = .ok (.aload_n 0, 1) := by decide +kernel
theorem dX12_put_8 : decode cX12_put 8 = .ok (.getfield 13, 3) := by decide +kernel
theorem dX12_put_11 : decode cX12_put 11 = .ok (.aload_n 0, 1) := by decide +kernel
theorem dX12_put_12 : decode cX12_put 12 = .ok (.getfield 198, 3) := by decide +kernel
theorem dX12_put_15 : decode cX12_put 15 = .ok (.iload_n 1, 1) := by decide +kernel
theorem dX12_put_16 : decode cX12_put 16 = .ok (.iload_n 2, 1) := by decide +kernel
theorem dX12_put_17 : decode cX12_put 17 = .ok (.ishr, 1) := by decide +kernel
theorem dX12_put_18 : decode cX12_put 18 = .ok (.i2b, 1) := by decide +kernel
theorem dX12_put_19 : decode cX12_put 19 = .ok (.bastore, 1) := by decide +kernel
theorem dX12_put_20 : decode cX12_put 20 = .ok (.aload_n 0, 1) := by decide +kernel
theorem dX12_put_21 : decode cX12_put 21 = .ok (.dup, 1) := by decide +kernel
theorem dX12_put_22 : decode cX12_put 22 = .ok (.getfield 198, 3) := by decide +kernel
theorem dX12_put_25 : decode cX12_put 25 = .ok (.iconst 1, 1) := by decide +kernel
theorem dX12_put_26 : decode cX12_put 26 = .ok (.iadd, 1) := by decide +kernel
theorem dX12_put_27 : decode cX12_put 27 = .ok (.putfield 198, 3) := by decide +kernel
theorem dX12_put_30 : decode cX12_put 30 = .ok (.iinc 2 (-8), 3) := by decide +kernel
theorem dX12_put_33 : decode cX12_put 33 = .ok (.goto (-30), 3) := by decide +kernel
theorem dX12_put_36 : decode cX12_put 36 = .ok (.return_, 1) := by decide +kernel
theorem dX12_back_0 : decode cX12_back 0 = .ok (.iload_n 1, 1) := by decide +kernel
theorem dX12_back_1 : decode cX12_back 1 = .ok (.ifCond .lt 11, 3) := by decide +kernel
theorem dX12_back_4 : decode cX12_back 4 = .ok (.iload_n 1, 1) := by decide +kernel
theorem dX12_back_5 : decode cX12_back 5 = .ok (.aload_n 0, 1) := by decide +kernel
theorem dX12_back_6 : decode cX12_back 6 = .ok (.getfield 198, 3) := by decide +kernel
theorem dX12_back_9 : decode cX12_back 9 = .ok (.if_icmp .le 5, 3) := by decide +kernel
theorem dX12_back_12 : decode cX12_back 12 = .ok (.iconst (-1), 1) := by decide +kernel
theorem dX12_back_13 : decode cX12_back 13 = .ok (.ireturn, 1) := by decide +kernel
theorem dX12_back_14 : decode cX12_back 14 = .ok (.aload_n 0, 1) := by decide +kernel
theorem dX12_back_15 : decode cX12_back 15 = .ok (.dup, 1) := by decide +kernel
theorem dX12_back_16 : decode cX12_back 16 = .ok (.getfield 198, 3) := by decide +kernel
theorem dX12_back_19 : decode cX12_back 19 = .ok (.iload_n 1, 1) := by decide +kernel
theorem dX12_back_20 : decode cX12_back 20 = .ok (.isub, 1) := by decide +kernel
theorem dX12_back_21 : decode cX12_back 21 = .ok (.putfield 198, 3) := by decide +kernel
theorem dX12_back_24 : decode cX12_back 24 = .ok (.aload_n 0, 1) := by decide +kernel
theorem dX12_back_25 : decode cX12_back 25 = .ok (.getfield 198, 3) := by decide +kernel
theorem dX12_back_28 : decode cX12_back 28 = .ok (.ireturn, 1) := by decide +kernel
theorem dX12_at_0 : decode cX12_at 0 = .ok (.iload_n 1, 1) := by decide +kernel
theorem dX12_at_1 : decode cX12_at 1 = .ok (.aload_n 0, 1) := by decide +kernel
theorem dX12_at_2 : decode cX12_at 2 = .ok (.getfield 205, 3) := by decide +kernel
theorem dX12_at_5 : decode cX12_at 5 = .ok (.if_icmp .ge 16, 3) := by decide +kernel
theorem dX12_at_8 : decode cX12_at 8 = .ok (.aload_n 0, 1) := by decide +kernel
theorem dX12_at_9 : decode cX12_at 9 = .ok (.getfield 17, 3) := by decide +kernel
theorem dX12_at_12 : decode cX12_at 12 = .ok (.iload_n 1, 1) := by decide +kernel
theorem dX12_at_13 : decode cX12_at 13 = .ok (.baload, 1) := by decide +kernel
theorem dX12_at_14 : decode cX12_at 14 = .ok (.sipush 255, 3) := by decide +kernel
theorem dX12_at_17 : decode cX12_at 17 = .ok (.iand, 1) := by decide +kernel
theorem dX12_at_18 : decode cX12_at 18 = .ok (.goto 4, 3) := by decide +kernel
theorem dX12_at_21 : decode cX12_at 21 = .ok (.iconst 0, 1) := by decide +kernel
theorem dX12_at_22 : decode cX12_at 22 = .ok (.ireturn, 1) := by decide +kernel
theorem dX12_isDigit_0 : decode cX12_isDigit 0 = .ok (.iload_n 0, 1) := by decide +kernel
theorem dX12_isDigit_1 : decode cX12_isDigit 1 = .ok (.bipush 48, 2) := by decide +kernel
theorem dX12_isDigit_3 : decode cX12_isDigit 3 = .ok (.if_icmp .lt 13, 3) := by decide +kernel
theorem dX12_isDigit_6 : decode cX12_isDigit 6 = .ok (.iload_n 0, 1) := by decide +kernel
theorem dX12_isDigit_7 : decode cX12_isDigit 7 = .ok (.bipush 57, 2) := by decide +kernel
theorem dX12_isDigit_9 : decode cX12_isDigit 9 = .ok (.if_icmp .gt 7, 3) := by decide +kernel
theorem dX12_isDigit_12 : decode cX12_isDigit 12 = .ok (.iconst 1, 1) := by decide +kernel
theorem dX12_isDigit_13 : decode cX12_isDigit 13 = .ok (.goto 4, 3) := by decide +kernel
theorem dX12_isDigit_16 : decode cX12_isDigit 16 = .ok (.iconst 0, 1) := by decide +kernel
theorem dX12_isDigit_17 : decode cX12_isDigit 17 = .ok (.ireturn, 1) := by decide +kernel
theorem dX12_isLetter_0 : decode cX12_isLetter 0 = .ok (.iload_n 0, 1) := by decide +kernel
theorem dX12_isLetter_1 : decode cX12_isLetter 1 = .ok (.bipush 97, 2) := by decide +kernel
theorem dX12_isLetter_3 : decode cX12_isLetter 3 = .ok (.if_icmp .lt 13, 3) := by decide +kernel
theorem dX12_isLetter_6 : decode cX12_isLetter 6 = .ok (.iload_n 0, 1) := by decide +kernel
theorem dX12_isLetter_7 : decode cX12_isLetter 7 = .ok (.bipush 122, 2) := by decide +kernel
theorem dX12_isLetter_9 : decode cX12_isLetter 9 = .ok (.if_icmp .gt 7, 3) := by decide +kernel
theorem dX12_isLetter_12 : decode cX12_isLetter 12 = .ok (.iconst 1, 1) := by decide +kernel
theorem dX12_isLetter_13 : decode cX12_isLetter 13 = .ok (.goto 4, 3) := by decide +kernel
theorem dX12_isLetter_16 : decode cX12_isLetter 16 = .ok (.iconst 0, 1) := by decide +kernel
theorem dX12_isLetter_17 : decode cX12_isLetter 17 = .ok (.ireturn, 1) := by decide +kernel
theorem dX12_more_0 : decode cX12_more 0 = .ok (.iload_n 2, 1) := by decide +kernel
theorem dX12_more_1 : decode cX12_more 1 = .ok (.ifCond .ne 7, 3) := by decide +kernel
theorem dX12_more_4 : decode cX12_more 4 = .ok (.lload_n 0, 1) := by decide +kernel
theorem dX12_more_5 : decode cX12_more 5 = .ok (.goto 16, 3) := by decide +kernel
theorem dX12_more_8 : decode cX12_more 8 = .ok (.ldc2_w 208, 3) := by decide +kernel
theorem dX12_more_11 : decode cX12_more 11 = .ok (.lload_n 0, 1) := by decide +kernel
theorem dX12_more_12 : decode cX12_more 12 = .ok (.lmul, 1) := by decide +kernel
theorem dX12_more_13 : decode cX12_more 13 = .ok (.iload_n 2, 1) := by decide +kernel
theorem dX12_more_14 : decode cX12_more 14 = .ok (.bipush 97, 2) := by decide +kernel
theorem dX12_more_16 : decode cX12_more 16 = .ok (.isub, 1) := by decide +kernel
theorem dX12_more_17 : decode cX12_more 17 = .ok (.iconst 1, 1) := by decide +kernel
theorem dX12_more_18 : decode cX12_more 18 = .ok (.iadd, 1) := by decide +kernel
theorem dX12_more_19 : decode cX12_more 19 = .ok (.i2l, 1) := by decide +kernel
theorem dX12_more_20 : decode cX12_more 20 = .ok (.ladd, 1) := by decide +kernel
theorem dX12_more_21 : decode cX12_more 21 = .ok (.lreturn, 1) := by decide +kernel
theorem dX12_word_0 : decode cX12_word 0 = .ok (.lconst 0, 1) := by decide +kernel
theorem dX12_word_1 : decode cX12_word 1 = .ok (.iload_n 0, 1) := by decide +kernel
theorem dX12_word_2 : decode cX12_word 2 = .ok (.invokestatic 210, 3) := by decide +kernel
theorem dX12_word_5 : decode cX12_word 5 = .ok (.iload_n 1, 1) := by decide +kernel
theorem dX12_word_6 : decode cX12_word 6 = .ok (.invokestatic 210, 3) := by decide +kernel
theorem dX12_word_9 : decode cX12_word 9 = .ok (.iload_n 2, 1) := by decide +kernel
theorem dX12_word_10 : decode cX12_word 10 = .ok (.invokestatic 210, 3) := by decide +kernel
theorem dX12_word_13 : decode cX12_word 13 = .ok (.iload_n 3, 1) := by decide +kernel
theorem dX12_word_14 : decode cX12_word 14 = .ok (.invokestatic 210, 3) := by decide +kernel
theorem dX12_word_17 : decode cX12_word 17 = .ok (.iload 4, 2) := by decide +kernel
theorem dX12_word_19 : decode cX12_word 19 = .ok (.invokestatic 210, 3) := by decide +kernel
theorem dX12_word_22 : decode cX12_word 22 = .ok (.iload 5, 2) := by decide +kernel
theorem dX12_word_24 : decode cX12_word 24 = .ok (.invokestatic 210, 3) := by decide +kernel
theorem dX12_word_27 : decode cX12_word 27 = .ok (.iload 6, 2) := by decide +kernel
theorem dX12_word_29 : decode cX12_word 29 = .ok (.invokestatic 210, 3) := by decide +kernel
theorem dX12_word_32 : decode cX12_word 32 = .ok (.lreturn, 1) := by decide +kernel
theorem dX12_token_0 : decode cX12_token 0 = .ok (.aload_n 0, 1) := by decide +kernel
theorem dX12_token_1 : decode cX12_token 1 = .ok (.getfield 20, 3) := by decide +kernel
theorem dX12_token_4 : decode cX12_token 4 = .ok (.aload_n 0, 1) := by decide +kernel
theorem dX12_token_5 : decode cX12_token 5 = .ok (.getfield 214, 3) := by decide +kernel
theorem dX12_token_8 : decode cX12_token 8 = .ok (.iload_n 1, 1) := by decide +kernel
theorem dX12_token_9 : decode cX12_token 9 = .ok (.iastore, 1) := by decide +kernel
theorem dX12_token_10 : decode cX12_token 10 = .ok (.aload_n 0, 1) := by decide +kernel
theorem dX12_token_11 : decode cX12_token 11 = .ok (.getfield 24, 3) := by decide +kernel
theorem dX12_token_14 : decode cX12_token 14 = .ok (.aload_n 0, 1) := by decide +kernel
theorem dX12_token_15 : decode cX12_token 15 = .ok (.getfield 214, 3) := by decide +kernel
theorem dX12_token_18 : decode cX12_token 18 = .ok (.iload_n 2, 1) := by decide +kernel
theorem dX12_token_19 : decode cX12_token 19 = .ok (.iastore, 1) := by decide +kernel
theorem dX12_token_20 : decode cX12_token 20 = .ok (.aload_n 0, 1) := by decide +kernel
theorem dX12_token_21 : decode cX12_token 21 = .ok (.getfield 27, 3) := by decide +kernel
theorem dX12_token_24 : decode cX12_token 24 = .ok (.aload_n 0, 1) := by decide +kernel
theorem dX12_token_25 : decode cX12_token 25 = .ok (.getfield 214, 3) := by decide +kernel
theorem dX12_token_28 : decode cX12_token 28 = .ok (.iload_n 3, 1) := by decide +kernel
theorem dX12_token_29 : decode cX12_token 29 = .ok (.iastore, 1) := by decide +kernel
theorem dX12_token_30 : decode cX12_token 30 = .ok (.aload_n 0, 1) := by decide +kernel
theorem dX12_token_31 : decode cX12_token 31 = .ok (.getfield 30, 3) := by decide +kernel
theorem dX12_token_34 : decode cX12_token 34 = .ok (.aload_n 0, 1) := by decide +kernel
theorem dX12_token_35 : decode cX12_token 35 = .ok (.getfield 214, 3) := by decide +kernel
theorem dX12_token_38 : decode cX12_token 38 = .ok (.lload 4, 2) := by decide +kernel
theorem dX12_token_40 : decode cX12_token 40 = .ok (.lastore, 1) := by decide +kernel
theorem dX12_token_41 : decode cX12_token 41 = .ok (.aload_n 0, 1) := by decide +kernel
theorem dX12_token_42 : decode cX12_token 42 = .ok (.dup, 1) := by decide +kernel
theorem dX12_token_43 : decode cX12_token 43 = .ok (.getfield 214, 3) := by decide +kernel
theorem dX12_token_46 : decode cX12_token 46 = .ok (.iconst 1, 1) := by decide +kernel
theorem dX12_token_47 : decode cX12_token 47 = .ok (.iadd, 1) := by decide +kernel
theorem dX12_token_48 : decode cX12_token 48 = .ok (.putfield 214, 3) := by decide +kernel
theorem dX12_token_51 : decode cX12_token 51 = .ok (.return_, 1) := by decide +kernel
theorem dX12_cut_0 : decode cX12_cut 0 = .ok (.aload_n 0, 1) := by decide +kernel
theorem dX12_cut_1 : decode cX12_cut 1 = .ok (.iconst 0, 1) := by decide +kernel
theorem dX12_cut_2 : decode cX12_cut 2 = .ok (.putfield 214, 3) := by decide +kernel
theorem dX12_cut_5 : decode cX12_cut 5 = .ok (.iconst 0, 1) := by decide +kernel
theorem dX12_cut_6 : decode cX12_cut 6 = .ok (.istore_n 1, 1) := by decide +kernel
theorem dX12_cut_7 : decode cX12_cut 7 = .ok (.aload_n 0, 1) := by decide +kernel
theorem dX12_cut_8 : decode cX12_cut 8 = .ok (.getfield 214, 3) := by decide +kernel
theorem dX12_cut_11 : decode cX12_cut 11 = .ok (.sipush 400, 3) := by decide +kernel
theorem dX12_cut_14 : decode cX12_cut 14 = .ok (.if_icmp .gt 280, 3) := by decide +kernel
theorem dX12_cut_17 : decode cX12_cut 17 = .ok (.aload_n 0, 1) := by decide +kernel
theorem dX12_cut_18 : decode cX12_cut 18 = .ok (.iload_n 1, 1) := by decide +kernel
theorem dX12_cut_19 : decode cX12_cut 19 = .ok (.invokevirtual 217, 3) := by decide +kernel
theorem dX12_cut_22 : decode cX12_cut 22 = .ok (.istore_n 2, 1) := by decide +kernel
theorem dX12_cut_23 : decode cX12_cut 23 = .ok (.iload_n 1, 1) := by decide +kernel
theorem dX12_cut_24 : decode cX12_cut 24 = .ok (.aload_n 0, 1) := by decide +kernel
theorem dX12_cut_25 : decode cX12_cut 25 = .ok (.getfield 205, 3) := by decide +kernel
theorem dX12_cut_28 : decode cX12_cut 28 = .ok (.if_icmp .lt 15, 3) := by decide +kernel
theorem dX12_cut_31 : decode cX12_cut 31 = .ok (.aload_n 0, 1) := by decide +kernel
theorem dX12_cut_32 : decode cX12_cut 32 = .ok (.iconst 0, 1) := by decide +kernel
theorem dX12_cut_33 : decode cX12_cut 33 = .ok (.aload_n 0, 1) := by decide +kernel
theorem dX12_cut_34 : decode cX12_cut 34 = .ok (.getfield 205, 3) := by decide +kernel
theorem dX12_cut_37 : decode cX12_cut 37 = .ok (.iconst 0, 1) := by decide +kernel
theorem dX12_cut_38 : decode cX12_cut 38 = .ok (.lconst 0, 1) := by decide +kernel
theorem dX12_cut_39 : decode cX12_cut 39 = .ok (.invokevirtual 221, 3) := by decide +kernel
theorem dX12_cut_42 : decode cX12_cut 42 = .ok (.return_, 1) := by decide +kernel
theorem dX12_cut_43 : decode cX12_cut 43 = .ok (.iload_n 2, 1) := by decide +kernel
theorem dX12_cut_44 : decode cX12_cut 44 = .ok (.bipush 9, 2) := by decide +kernel
theorem dX12_cut_46 : decode cX12_cut 46 = .ok (.if_icmp .eq 21, 3) := by decide +kernel
theorem dX12_cut_49 : decode cX12_cut 49 = .ok (.iload_n 2, 1) := by decide +kernel
theorem dX12_cut_50 : decode cX12_cut 50 = .ok (.bipush 10, 2) := by decide +kernel
theorem dX12_cut_52 : decode cX12_cut 52 = .ok (.if_icmp .eq 15, 3) := by decide +kernel
theorem dX12_cut_55 : decode cX12_cut 55 = .ok (.iload_n 2, 1) := by decide +kernel
theorem dX12_cut_56 : decode cX12_cut 56 = .ok (.bipush 13, 2) := by decide +kernel
theorem dX12_cut_58 : decode cX12_cut 58 = .ok (.if_icmp .eq 9, 3) := by decide +kernel
theorem dX12_cut_61 : decode cX12_cut 61 = .ok (.iload_n 2, 1) := by decide +kernel
theorem dX12_cut_62 : decode cX12_cut 62 = .ok (.bipush 32, 2) := by decide +kernel
theorem dX12_cut_64 : decode cX12_cut 64 = .ok (.if_icmp .ne 9, 3) := by decide +kernel
theorem dX12_cut_67 : decode cX12_cut 67 = .ok (.iinc 1 1, 3) := by decide +kernel
theorem dX12_cut_70 : decode cX12_cut 70 = .ok (.goto 221, 3) := by decide +kernel
theorem dX12_cut_73 : decode cX12_cut 73 = .ok (.iload_n 2, 1) := by decide +kernel
theorem dX12_cut_74 : decode cX12_cut 74 = .ok (.invokestatic 225, 3) := by decide +kernel
theorem dX12_cut_77 : decode cX12_cut 77 = .ok (.ifCond .eq 119, 3) := by decide +kernel
theorem dX12_cut_80 : decode cX12_cut 80 = .ok (.iconst 0, 1) := by decide +kernel
theorem dX12_cut_81 : decode cX12_cut 81 = .ok (.istore_n 3, 1) := by decide +kernel
theorem dX12_cut_82 : decode cX12_cut 82 = .ok (.lconst 0, 1) := by decide +kernel
theorem dX12_cut_83 : decode cX12_cut 83 = .ok (.lstore 4, 2) := by decide +kernel
theorem dX12_cut_85 : decode cX12_cut 85 = .ok (.aload_n 0, 1) := by decide +kernel
theorem dX12_cut_86 : decode cX12_cut 86 = .ok (.iload_n 1, 1) := by decide +kernel
theorem dX12_cut_87 : decode cX12_cut 87 = .ok (.iload_n 3, 1) := by decide +kernel
theorem dX12_cut_88 : decode cX12_cut 88 = .ok (.iadd, 1) := by decide +kernel
theorem dX12_cut_89 : decode cX12_cut 89 = .ok (.invokevirtual 217, 3) := by decide +kernel
theorem dX12_cut_92 : decode cX12_cut 92 = .ok (.invokestatic 225, 3) := by decide +kernel
theorem dX12_cut_95 : decode cX12_cut 95 = .ok (.ifCond .eq 29, 3) := by decide +kernel
theorem dX12_cut_98 : decode cX12_cut 98 = .ok (.iload_n 3, 1) := by decide +kernel
theorem dX12_cut_99 : decode cX12_cut 99 = .ok (.bipush 8, 2) := by decide +kernel
theorem dX12_cut_101 : decode cX12_cut 101 = .ok (.if_icmp .ge 17, 3) := by decide +kernel
theorem dX12_cut_104 : decode cX12_cut 104 = .ok (.lload 4, 2) := by decide +kernel
theorem dX12_cut_106 : decode cX12_cut 106 = .ok (.aload_n 0, 1) := by decide +kernel
theorem dX12_cut_107 : decode cX12_cut 107 = .ok (.iload_n 1, 1) := by decide +kernel
theorem dX12_cut_108 : decode cX12_cut 108 = .ok (.iload_n 3, 1) := by decide +kernel
theorem dX12_cut_109 : decode cX12_cut 109 = .ok (.iadd, 1) := by decide +kernel
theorem dX12_cut_110 : decode cX12_cut 110 = .ok (.invokevirtual 217, 3) := by decide +kernel
theorem dX12_cut_113 : decode cX12_cut 113 = .ok (.invokestatic 210, 3) := by decide +kernel
theorem dX12_cut_116 : decode cX12_cut 116 = .ok (.lstore 4, 2) := by decide +kernel
theorem dX12_cut_118 : decode cX12_cut 118 = .ok (.iinc 3 1, 3) := by decide +kernel
theorem dX12_cut_121 : decode cX12_cut 121 = .ok (.goto (-36), 3) := by decide +kernel
theorem dX12_cut_124 : decode cX12_cut 124 = .ok (.iload_n 3, 1) := by decide +kernel
theorem dX12_cut_125 : decode cX12_cut 125 = .ok (.bipush 8, 2) := by decide +kernel
theorem dX12_cut_127 : decode cX12_cut 127 = .ok (.if_icmp .le 7, 3) := by decide +kernel
theorem dX12_cut_130 : decode cX12_cut 130 = .ok (.iconst 3, 1) := by decide +kernel
theorem dX12_cut_131 : decode cX12_cut 131 = .ok (.goto 4, 3) := by decide +kernel
theorem dX12_cut_134 : decode cX12_cut 134 = .ok (.iconst 1, 1) := by decide +kernel
theorem dX12_cut_135 : decode cX12_cut 135 = .ok (.istore 6, 2) := by decide +kernel
theorem dX12_cut_137 : decode cX12_cut 137 = .ok (.iload_n 3, 1) := by decide +kernel
theorem dX12_cut_138 : decode cX12_cut 138 = .ok (.bipush 7, 2) := by decide +kernel
theorem dX12_cut_140 : decode cX12_cut 140 = .ok (.if_icmp .gt 39, 3) := by decide +kernel
theorem dX12_cut_143 : decode cX12_cut 143 = .ok (.iconst 0, 1) := by decide +kernel
theorem dX12_cut_144 : decode cX12_cut 144 = .ok (.istore 7, 2) := by decide +kernel
theorem dX12_cut_146 : decode cX12_cut 146 = .ok (.iload 7, 2) := by decide +kernel
theorem dX12_cut_148 : decode cX12_cut 148 = .ok (.bipush 16, 2) := by decide +kernel
theorem dX12_cut_150 : decode cX12_cut 150 = .ok (.if_icmp .ge 29, 3) := by decide +kernel
theorem dX12_cut_153 : decode cX12_cut 153 = .ok (.aload_n 0, 1) := by decide +kernel
theorem dX12_cut_154 : decode cX12_cut 154 = .ok (.getfield 34, 3) := by decide +kernel
theorem dX12_cut_157 : decode cX12_cut 157 = .ok (.iload 7, 2) := by decide +kernel
theorem dX12_cut_159 : decode cX12_cut 159 = .ok (.laload, 1) := by decide +kernel
theorem dX12_cut_160 : decode cX12_cut 160 = .ok (.lload 4, 2) := by decide +kernel
theorem dX12_cut_162 : decode cX12_cut 162 = .ok (.lcmp, 1) := by decide +kernel
theorem dX12_cut_163 : decode cX12_cut 163 = .ok (.ifCond .ne 10, 3) := by decide +kernel
theorem dX12_cut_166 : decode cX12_cut 166 = .ok (.bipush 20, 2) := by decide +kernel
theorem dX12_cut_168 : decode cX12_cut 168 = .ok (.iload 7, 2) := by decide +kernel
theorem dX12_cut_170 : decode cX12_cut 170 = .ok (.iadd, 1) := by decide +kernel
theorem dX12_cut_171 : decode cX12_cut 171 = .ok (.istore 6, 2) := by decide +kernel
theorem dX12_cut_173 : decode cX12_cut 173 = .ok (.iinc 7 1, 3) := by decide +kernel
theorem dX12_cut_176 : decode cX12_cut 176 = .ok (.goto (-30), 3) := by decide +kernel
theorem dX12_cut_179 : decode cX12_cut 179 = .ok (.aload_n 0, 1) := by decide +kernel
theorem dX12_cut_180 : decode cX12_cut 180 = .ok (.iload 6, 2) := by decide +kernel
theorem dX12_cut_182 : decode cX12_cut 182 = .ok (.iload_n 1, 1) := by decide +kernel
theorem dX12_cut_183 : decode cX12_cut 183 = .ok (.iconst 0, 1) := by decide +kernel
theorem dX12_cut_184 : decode cX12_cut 184 = .ok (.lload 4, 2) := by decide +kernel
theorem dX12_cut_186 : decode cX12_cut 186 = .ok (.invokevirtual 221, 3) := by decide +kernel
theorem dX12_cut_189 : decode cX12_cut 189 = .ok (.iload_n 1, 1) := by decide +kernel
theorem dX12_cut_190 : decode cX12_cut 190 = .ok (.iload_n 3, 1) := by decide +kernel
theorem dX12_cut_191 : decode cX12_cut 191 = .ok (.iadd, 1) := by decide +kernel
theorem dX12_cut_192 : decode cX12_cut 192 = .ok (.istore_n 1, 1) := by decide +kernel
theorem dX12_cut_193 : decode cX12_cut 193 = .ok (.goto 98, 3) := by decide +kernel
theorem dX12_cut_196 : decode cX12_cut 196 = .ok (.iload_n 2, 1) := by decide +kernel
theorem dX12_cut_197 : decode cX12_cut 197 = .ok (.invokestatic 229, 3) := by decide +kernel
theorem dX12_cut_200 : decode cX12_cut 200 = .ok (.ifCond .eq 75, 3) := by decide +kernel
theorem dX12_cut_203 : decode cX12_cut 203 = .ok (.iconst 0, 1) := by decide +kernel
theorem dX12_cut_204 : decode cX12_cut 204 = .ok (.istore_n 3, 1) := by decide +kernel
theorem dX12_cut_205 : decode cX12_cut 205 = .ok (.iconst 0, 1) := by decide +kernel
theorem dX12_cut_206 : decode cX12_cut 206 = .ok (.istore 4, 2) := by decide +kernel
theorem dX12_cut_208 : decode cX12_cut 208 = .ok (.aload_n 0, 1) := by decide +kernel
theorem dX12_cut_209 : decode cX12_cut 209 = .ok (.iload_n 1, 1) := by decide +kernel
theorem dX12_cut_210 : decode cX12_cut 210 = .ok (.iload_n 3, 1) := by decide +kernel
theorem dX12_cut_211 : decode cX12_cut 211 = .ok (.iadd, 1) := by decide +kernel
theorem dX12_cut_212 : decode cX12_cut 212 = .ok (.invokevirtual 217, 3) := by decide +kernel
theorem dX12_cut_215 : decode cX12_cut 215 = .ok (.invokestatic 229, 3) := by decide +kernel
theorem dX12_cut_218 : decode cX12_cut 218 = .ok (.ifCond .eq 32, 3) := by decide +kernel
theorem dX12_cut_221 : decode cX12_cut 221 = .ok (.iload_n 3, 1) := by decide +kernel
theorem dX12_cut_222 : decode cX12_cut 222 = .ok (.iconst 4, 1) := by decide +kernel
theorem dX12_cut_223 : decode cX12_cut 223 = .ok (.if_icmp .ge 21, 3) := by decide +kernel
theorem dX12_cut_226 : decode cX12_cut 226 = .ok (.bipush 10, 2) := by decide +kernel
theorem dX12_cut_228 : decode cX12_cut 228 = .ok (.iload 4, 2) := by decide +kernel
theorem dX12_cut_230 : decode cX12_cut 230 = .ok (.imul, 1) := by decide +kernel
theorem dX12_cut_231 : decode cX12_cut 231 = .ok (.aload_n 0, 1) := by decide +kernel
theorem dX12_cut_232 : decode cX12_cut 232 = .ok (.iload_n 1, 1) := by decide +kernel
theorem dX12_cut_233 : decode cX12_cut 233 = .ok (.iload_n 3, 1) := by decide +kernel
theorem dX12_cut_234 : decode cX12_cut 234 = .ok (.iadd, 1) := by decide +kernel
theorem dX12_cut_235 : decode cX12_cut 235 = .ok (.invokevirtual 217, 3) := by decide +kernel
theorem dX12_cut_238 : decode cX12_cut 238 = .ok (.iadd, 1) := by decide +kernel
theorem dX12_cut_239 : decode cX12_cut 239 = .ok (.bipush 48, 2) := by decide +kernel
theorem dX12_cut_241 : decode cX12_cut 241 = .ok (.isub, 1) := by decide +kernel
theorem dX12_cut_242 : decode cX12_cut 242 = .ok (.istore 4, 2) := by decide +kernel
theorem dX12_cut_244 : decode cX12_cut 244 = .ok (.iinc 3 1, 3) := by decide +kernel
theorem dX12_cut_247 : decode cX12_cut 247 = .ok (.goto (-39), 3) := by decide +kernel
theorem dX12_cut_250 : decode cX12_cut 250 = .ok (.aload_n 0, 1) := by decide +kernel
theorem dX12_cut_251 : decode cX12_cut 251 = .ok (.iload_n 3, 1) := by decide +kernel
theorem dX12_cut_252 : decode cX12_cut 252 = .ok (.iconst 4, 1) := by decide +kernel
theorem dX12_cut_253 : decode cX12_cut 253 = .ok (.if_icmp .le 7, 3) := by decide +kernel
theorem dX12_cut_256 : decode cX12_cut 256 = .ok (.iconst 3, 1) := by decide +kernel
theorem dX12_cut_257 : decode cX12_cut 257 = .ok (.goto 4, 3) := by decide +kernel
theorem dX12_cut_260 : decode cX12_cut 260 = .ok (.iconst 2, 1) := by decide +kernel
theorem dX12_cut_261 : decode cX12_cut 261 = .ok (.iload_n 1, 1) := by decide +kernel
theorem dX12_cut_262 : decode cX12_cut 262 = .ok (.iload 4, 2) := by decide +kernel
theorem dX12_cut_264 : decode cX12_cut 264 = .ok (.lconst 0, 1) := by decide +kernel
theorem dX12_cut_265 : decode cX12_cut 265 = .ok (.invokevirtual 221, 3) := by decide +kernel
theorem dX12_cut_268 : decode cX12_cut 268 = .ok (.iload_n 1, 1) := by decide +kernel
theorem dX12_cut_269 : decode cX12_cut 269 = .ok (.iload_n 3, 1) := by decide +kernel
theorem dX12_cut_270 : decode cX12_cut 270 = .ok (.iadd, 1) := by decide +kernel
theorem dX12_cut_271 : decode cX12_cut 271 = .ok (.istore_n 1, 1) := by decide +kernel
theorem dX12_cut_272 : decode cX12_cut 272 = .ok (.goto 19, 3) := by decide +kernel
theorem dX12_cut_275 : decode cX12_cut 275 = .ok (.iload_n 1, 1) := by decide +kernel
theorem dX12_cut_276 : decode cX12_cut 276 = .ok (.aload_n 0, 1) := by decide +kernel
theorem dX12_cut_277 : decode cX12_cut 277 = .ok (.iload_n 1, 1) := by decide +kernel
theorem dX12_cut_278 : decode cX12_cut 278 = .ok (.iload_n 2, 1) := by decide +kernel
theorem dX12_cut_279 : decode cX12_cut 279 = .ok (.aload_n 0, 1) := by decide +kernel
theorem dX12_cut_280 : decode cX12_cut 280 = .ok (.iload_n 1, 1) := by decide +kernel
theorem dX12_cut_281 : decode cX12_cut 281 = .ok (.iconst 1, 1) := by decide +kernel
theorem dX12_cut_282 : decode cX12_cut 282 = .ok (.iadd, 1) := by decide +kernel
theorem dX12_cut_283 : decode cX12_cut 283 = .ok (.invokevirtual 217, 3) := by decide +kernel
theorem dX12_cut_286 : decode cX12_cut 286 = .ok (.invokevirtual 232, 3) := by decide +kernel
theorem dX12_cut_289 : decode cX12_cut 289 = .ok (.iadd, 1) := by decide +kernel
theorem dX12_cut_290 : decode cX12_cut 290 = .ok (.istore_n 1, 1) := by decide +kernel
theorem dX12_cut_291 : decode cX12_cut 291 = .ok (.goto (-284), 3) := by decide +kernel
theorem dX12_cut_294 : decode cX12_cut 294 = .ok (.return_, 1) := by decide +kernel
theorem dX12_sign_0 : decode cX12_sign 0 = .ok (.iload_n 3, 1) := by decide +kernel
theorem dX12_sign_1 : decode cX12_sign 1 = .ok (.bipush 61, 2) := by decide +kernel
theorem dX12_sign_3 : decode cX12_sign 3 = .ok (.if_icmp .eq 7, 3) := by decide +kernel
theorem dX12_sign_6 : decode cX12_sign 6 = .ok (.iconst 0, 1) := by decide +kernel
theorem dX12_sign_7 : decode cX12_sign 7 = .ok (.goto 37, 3) := by decide +kernel
theorem dX12_sign_10 : decode cX12_sign 10 = .ok (.iload_n 2, 1) := by decide +kernel
theorem dX12_sign_11 : decode cX12_sign 11 = .ok (.bipush 61, 2) := by decide +kernel
theorem dX12_sign_13 : decode cX12_sign 13 = .ok (.if_icmp .ne 8, 3) := by decide +kernel
theorem dX12_sign_16 : decode cX12_sign 16 = .ok (.bipush 11, 2) := by decide +kernel
theorem dX12_sign_18 : decode cX12_sign 18 = .ok (.goto 26, 3) := by decide +kernel
theorem dX12_sign_21 : decode cX12_sign 21 = .ok (.iload_n 2, 1) := by decide +kernel
theorem dX12_sign_22 : decode cX12_sign 22 = .ok (.bipush 33, 2) := by decide +kernel
theorem dX12_sign_24 : decode cX12_sign 24 = .ok (.if_icmp .ne 8, 3) := by decide +kernel
theorem dX12_sign_27 : decode cX12_sign 27 = .ok (.bipush 12, 2) := by decide +kernel
theorem dX12_sign_29 : decode cX12_sign 29 = .ok (.goto 15, 3) := by decide +kernel
theorem dX12_sign_32 : decode cX12_sign 32 = .ok (.iload_n 2, 1) := by decide +kernel
theorem dX12_sign_33 : decode cX12_sign 33 = .ok (.bipush 60, 2) := by decide +kernel
theorem dX12_sign_35 : decode cX12_sign 35 = .ok (.if_icmp .ne 8, 3) := by decide +kernel
theorem dX12_sign_38 : decode cX12_sign 38 = .ok (.bipush 14, 2) := by decide +kernel
theorem dX12_sign_40 : decode cX12_sign 40 = .ok (.goto 4, 3) := by decide +kernel
theorem dX12_sign_43 : decode cX12_sign 43 = .ok (.iconst 0, 1) := by decide +kernel
theorem dX12_sign_44 : decode cX12_sign 44 = .ok (.istore 4, 2) := by decide +kernel
theorem dX12_sign_46 : decode cX12_sign 46 = .ok (.iconst 3, 1) := by decide +kernel
theorem dX12_sign_47 : decode cX12_sign 47 = .ok (.istore 5, 2) := by decide +kernel
theorem dX12_sign_49 : decode cX12_sign 49 = .ok (.iload 4, 2) := by decide +kernel
theorem dX12_sign_51 : decode cX12_sign 51 = .ok (.ifCond .le 10, 3) := by decide +kernel
theorem dX12_sign_54 : decode cX12_sign 54 = .ok (.iload 4, 2) := by decide +kernel
theorem dX12_sign_56 : decode cX12_sign 56 = .ok (.istore 5, 2) := by decide +kernel
theorem dX12_sign_58 : decode cX12_sign 58 = .ok (.goto 90, 3) := by decide +kernel
theorem dX12_sign_61 : decode cX12_sign 61 = .ok (.iload_n 2, 1) := by decide +kernel
theorem dX12_sign_62 : decode cX12_sign 62 = .ok (.bipush 59, 2) := by decide +kernel
theorem dX12_sign_64 : decode cX12_sign 64 = .ok (.if_icmp .ne 9, 3) := by decide +kernel
theorem dX12_sign_67 : decode cX12_sign 67 = .ok (.iconst 4, 1) := by decide +kernel
theorem dX12_sign_68 : decode cX12_sign 68 = .ok (.istore 5, 2) := by decide +kernel
theorem dX12_sign_70 : decode cX12_sign 70 = .ok (.goto 78, 3) := by decide +kernel
theorem dX12_sign_73 : decode cX12_sign 73 = .ok (.iload_n 2, 1) := by decide +kernel
theorem dX12_sign_74 : decode cX12_sign 74 = .ok (.bipush 40, 2) := by decide +kernel
theorem dX12_sign_76 : decode cX12_sign 76 = .ok (.if_icmp .ne 10, 3) := by decide +kernel
theorem dX12_sign_79 : decode cX12_sign 79 = .ok (.bipush 6, 2) := by decide +kernel
theorem dX12_sign_81 : decode cX12_sign 81 = .ok (.istore 5, 2) := by decide +kernel
theorem dX12_sign_83 : decode cX12_sign 83 = .ok (.goto 65, 3) := by decide +kernel
theorem dX12_sign_86 : decode cX12_sign 86 = .ok (.iload_n 2, 1) := by decide +kernel
theorem dX12_sign_87 : decode cX12_sign 87 = .ok (.bipush 41, 2) := by decide +kernel
theorem dX12_sign_89 : decode cX12_sign 89 = .ok (.if_icmp .ne 10, 3) := by decide +kernel
theorem dX12_sign_92 : decode cX12_sign 92 = .ok (.bipush 7, 2) := by decide +kernel
theorem dX12_sign_94 : decode cX12_sign 94 = .ok (.istore 5, 2) := by decide +kernel
theorem dX12_sign_96 : decode cX12_sign 96 = .ok (.goto 52, 3) := by decide +kernel
theorem dX12_sign_99 : decode cX12_sign 99 = .ok (.iload_n 2, 1) := by decide +kernel
theorem dX12_sign_100 : decode cX12_sign 100 = .ok (.bipush 43, 2) := by decide +kernel
theorem dX12_sign_102 : decode cX12_sign 102 = .ok (.if_icmp .ne 10, 3) := by decide +kernel
theorem dX12_sign_105 : decode cX12_sign 105 = .ok (.bipush 8, 2) := by decide +kernel
theorem dX12_sign_107 : decode cX12_sign 107 = .ok (.istore 5, 2) := by decide +kernel
theorem dX12_sign_109 : decode cX12_sign 109 = .ok (.goto 39, 3) := by decide +kernel
theorem dX12_sign_112 : decode cX12_sign 112 = .ok (.iload_n 2, 1) := by decide +kernel
theorem dX12_sign_113 : decode cX12_sign 113 = .ok (.bipush 45, 2) := by decide +kernel
theorem dX12_sign_115 : decode cX12_sign 115 = .ok (.if_icmp .ne 10, 3) := by decide +kernel
theorem dX12_sign_118 : decode cX12_sign 118 = .ok (.bipush 9, 2) := by decide +kernel
theorem dX12_sign_120 : decode cX12_sign 120 = .ok (.istore 5, 2) := by decide +kernel
theorem dX12_sign_122 : decode cX12_sign 122 = .ok (.goto 26, 3) := by decide +kernel
theorem dX12_sign_125 : decode cX12_sign 125 = .ok (.iload_n 2, 1) := by decide +kernel
