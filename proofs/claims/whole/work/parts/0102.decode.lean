theorem dX0_init_0 : decode cX0_init 0 = .ok (.aload_n 0, 1) := by decide +kernel
theorem dX0_init_1 : decode cX0_init 1 = .ok (.invokespecial 3, 3) := by decide +kernel
theorem dX0_init_4 : decode cX0_init 4 = .ok (.aload_n 0, 1) := by decide +kernel
theorem dX0_init_5 : decode cX0_init 5 = .ok (.bipush 9, 2) := by decide +kernel
theorem dX0_init_7 : decode cX0_init 7 = .ok (.newarray .int, 2) := by decide +kernel
theorem dX0_init_9 : decode cX0_init 9 = .ok (.putfield 9, 3) := by decide +kernel
theorem dX0_init_12 : decode cX0_init 12 = .ok (.aload_n 0, 1) := by decide +kernel
theorem dX0_init_13 : decode cX0_init 13 = .ok (.aload_n 1, 1) := by decide +kernel
theorem dX0_init_14 : decode cX0_init 14 = .ok (.putfield 15, 3) := by decide +kernel
theorem dX0_init_17 : decode cX0_init 17 = .ok (.aload_n 0, 1) := by decide +kernel
theorem dX0_init_18 : decode cX0_init 18 = .ok (.aload_n 2, 1) := by decide +kernel
theorem dX0_init_19 : decode cX0_init 19 = .ok (.putfield 19, 3) := by decide +kernel
theorem dX0_init_22 : decode cX0_init 22 = .ok (.aload_n 0, 1) := by decide +kernel
theorem dX0_init_23 : decode cX0_init 23 = .ok (.aload_n 3, 1) := by decide +kernel
theorem dX0_init_24 : decode cX0_init 24 = .ok (.putfield 23, 3) := by decide +kernel
theorem dX0_init_27 : decode cX0_init 27 = .ok (.return_, 1) := by decide +kernel
theorem dX0_classOf_0 : decode cX0_classOf 0 = .ok (.iconst 0, 1) := by decide +kernel
theorem dX0_classOf_1 : decode cX0_classOf 1 = .ok (.istore_n 3, 1) := by decide +kernel
theorem dX0_classOf_2 : decode cX0_classOf 2 = .ok (.iload_n 3, 1) := by decide +kernel
theorem dX0_classOf_3 : decode cX0_classOf 3 = .ok (.bipush 9, 2) := by decide +kernel
theorem dX0_classOf_5 : decode cX0_classOf 5 = .ok (.if_icmp .ge 16, 3) := by decide +kernel
theorem dX0_classOf_8 : decode cX0_classOf 8 = .ok (.aload_n 0, 1) := by decide +kernel
theorem dX0_classOf_9 : decode cX0_classOf 9 = .ok (.getfield 9, 3) := by decide +kernel
theorem dX0_classOf_12 : decode cX0_classOf 12 = .ok (.iload_n 3, 1) := by decide +kernel
theorem dX0_classOf_13 : decode cX0_classOf 13 = .ok (.iconst 0, 1) := by decide +kernel
theorem dX0_classOf_14 : decode cX0_classOf 14 = .ok (.iastore, 1) := by decide +kernel
theorem dX0_classOf_15 : decode cX0_classOf 15 = .ok (.iinc 3 1, 3) := by decide +kernel
theorem dX0_classOf_18 : decode cX0_classOf 18 = .ok (.goto (-16), 3) := by decide +kernel
theorem dX0_classOf_21 : decode cX0_classOf 21 = .ok (.iload_n 2, 1) := by decide +kernel
theorem dX0_classOf_22 : decode cX0_classOf 22 = .ok (.iconst 0, 1) := by decide +kernel
theorem dX0_classOf_23 : decode cX0_classOf 23 = .ok (.aload_n 0, 1) := by decide +kernel
theorem dX0_classOf_24 : decode cX0_classOf 24 = .ok (.getfield 19, 3) := by decide +kernel
theorem dX0_classOf_27 : decode cX0_classOf 27 = .ok (.getfield 27, 3) := by decide +kernel
theorem dX0_classOf_30 : decode cX0_classOf 30 = .ok (.iconst 1, 1) := by decide +kernel
theorem dX0_classOf_31 : decode cX0_classOf 31 = .ok (.isub, 1) := by decide +kernel
theorem dX0_classOf_32 : decode cX0_classOf 32 = .ok (.invokestatic 33, 3) := by decide +kernel
theorem dX0_classOf_35 : decode cX0_classOf 35 = .ok (.ifCond .ne 5, 3) := by decide +kernel
theorem dX0_classOf_38 : decode cX0_classOf 38 = .ok (.iconst (-1), 1) := by decide +kernel
theorem dX0_classOf_39 : decode cX0_classOf 39 = .ok (.ireturn, 1) := by decide +kernel
theorem dX0_classOf_40 : decode cX0_classOf 40 = .ok (.aload_n 0, 1) := by decide +kernel
theorem dX0_classOf_41 : decode cX0_classOf 41 = .ok (.getfield 19, 3) := by decide +kernel
theorem dX0_classOf_44 : decode cX0_classOf 44 = .ok (.getfield 37, 3) := by decide +kernel
theorem dX0_classOf_47 : decode cX0_classOf 47 = .ok (.iload_n 2, 1) := by decide +kernel
theorem dX0_classOf_48 : decode cX0_classOf 48 = .ok (.iaload, 1) := by decide +kernel
theorem dX0_classOf_49 : decode cX0_classOf 49 = .ok (.istore_n 3, 1) := by decide +kernel
theorem dX0_classOf_50 : decode cX0_classOf 50 = .ok (.aload_n 0, 1) := by decide +kernel
theorem dX0_classOf_51 : decode cX0_classOf 51 = .ok (.getfield 9, 3) := by decide +kernel
theorem dX0_classOf_54 : decode cX0_classOf 54 = .ok (.iconst 0, 1) := by decide +kernel
theorem dX0_classOf_55 : decode cX0_classOf 55 = .ok (.iconst 0, 1) := by decide +kernel
theorem dX0_classOf_56 : decode cX0_classOf 56 = .ok (.aload_n 1, 1) := by decide +kernel
theorem dX0_classOf_57 : decode cX0_classOf 57 = .ok (.getfield 40, 3) := by decide +kernel
theorem dX0_classOf_60 : decode cX0_classOf 60 = .ok (.aload_n 0, 1) := by decide +kernel
theorem dX0_classOf_61 : decode cX0_classOf 61 = .ok (.getfield 19, 3) := by decide +kernel
theorem dX0_classOf_64 : decode cX0_classOf 64 = .ok (.getfield 45, 3) := by decide +kernel
theorem dX0_classOf_67 : decode cX0_classOf 67 = .ok (.iload_n 2, 1) := by decide +kernel
theorem dX0_classOf_68 : decode cX0_classOf 68 = .ok (.iaload, 1) := by decide +kernel
theorem dX0_classOf_69 : decode cX0_classOf 69 = .ok (.isub, 1) := by decide +kernel
theorem dX0_classOf_70 : decode cX0_classOf 70 = .ok (.invokestatic 48, 3) := by decide +kernel
theorem dX0_classOf_73 : decode cX0_classOf 73 = .ok (.iastore, 1) := by decide +kernel
theorem dX0_classOf_74 : decode cX0_classOf 74 = .ok (.aload_n 0, 1) := by decide +kernel
theorem dX0_classOf_75 : decode cX0_classOf 75 = .ok (.getfield 9, 3) := by decide +kernel
theorem dX0_classOf_78 : decode cX0_classOf 78 = .ok (.iconst 1, 1) := by decide +kernel
theorem dX0_classOf_79 : decode cX0_classOf 79 = .ok (.aload_n 0, 1) := by decide +kernel
theorem dX0_classOf_80 : decode cX0_classOf 80 = .ok (.getfield 19, 3) := by decide +kernel
theorem dX0_classOf_83 : decode cX0_classOf 83 = .ok (.getfield 54, 3) := by decide +kernel
theorem dX0_classOf_86 : decode cX0_classOf 86 = .ok (.iload_n 2, 1) := by decide +kernel
theorem dX0_classOf_87 : decode cX0_classOf 87 = .ok (.iaload, 1) := by decide +kernel
theorem dX0_classOf_88 : decode cX0_classOf 88 = .ok (.iastore, 1) := by decide +kernel
theorem dX0_classOf_89 : decode cX0_classOf 89 = .ok (.aload_n 0, 1) := by decide +kernel
theorem dX0_classOf_90 : decode cX0_classOf 90 = .ok (.getfield 9, 3) := by decide +kernel
theorem dX0_classOf_93 : decode cX0_classOf 93 = .ok (.iconst 2, 1) := by decide +kernel
theorem dX0_classOf_94 : decode cX0_classOf 94 = .ok (.iload_n 3, 1) := by decide +kernel
theorem dX0_classOf_95 : decode cX0_classOf 95 = .ok (.iastore, 1) := by decide +kernel
theorem dX0_classOf_96 : decode cX0_classOf 96 = .ok (.aload_n 0, 1) := by decide +kernel
theorem dX0_classOf_97 : decode cX0_classOf 97 = .ok (.getfield 9, 3) := by decide +kernel
theorem dX0_classOf_100 : decode cX0_classOf 100 = .ok (.iconst 3, 1) := by decide +kernel
theorem dX0_classOf_101 : decode cX0_classOf 101 = .ok (.iload_n 3, 1) := by decide +kernel
theorem dX0_classOf_102 : decode cX0_classOf 102 = .ok (.iconst 0, 1) := by decide +kernel
theorem dX0_classOf_103 : decode cX0_classOf 103 = .ok (.iconst 5, 1) := by decide +kernel
theorem dX0_classOf_104 : decode cX0_classOf 104 = .ok (.invokestatic 33, 3) := by decide +kernel
theorem dX0_classOf_107 : decode cX0_classOf 107 = .ok (.ifCond .eq 15, 3) := by decide +kernel
theorem dX0_classOf_110 : decode cX0_classOf 110 = .ok (.aload_n 0, 1) := by decide +kernel
theorem dX0_classOf_111 : decode cX0_classOf 111 = .ok (.getfield 19, 3) := by decide +kernel
theorem dX0_classOf_114 : decode cX0_classOf 114 = .ok (.getfield 57, 3) := by decide +kernel
theorem dX0_classOf_117 : decode cX0_classOf 117 = .ok (.iload_n 3, 1) := by decide +kernel
theorem dX0_classOf_118 : decode cX0_classOf 118 = .ok (.iaload, 1) := by decide +kernel
theorem dX0_classOf_119 : decode cX0_classOf 119 = .ok (.goto 4, 3) := by decide +kernel
theorem dX0_classOf_122 : decode cX0_classOf 122 = .ok (.iconst 0, 1) := by decide +kernel
theorem dX0_classOf_123 : decode cX0_classOf 123 = .ok (.iastore, 1) := by decide +kernel
theorem dX0_classOf_124 : decode cX0_classOf 124 = .ok (.aload_n 0, 1) := by decide +kernel
theorem dX0_classOf_125 : decode cX0_classOf 125 = .ok (.getfield 15, 3) := by decide +kernel
theorem dX0_classOf_128 : decode cX0_classOf 128 = .ok (.iconst 4, 1) := by decide +kernel
theorem dX0_classOf_129 : decode cX0_classOf 129 = .ok (.aload_n 0, 1) := by decide +kernel
theorem dX0_classOf_130 : decode cX0_classOf 130 = .ok (.getfield 9, 3) := by decide +kernel
theorem dX0_classOf_133 : decode cX0_classOf 133 = .ok (.invokevirtual 60, 3) := by decide +kernel
theorem dX0_classOf_136 : decode cX0_classOf 136 = .ok (.istore 4, 2) := by decide +kernel
theorem dX0_classOf_138 : decode cX0_classOf 138 = .ok (.iload 4, 2) := by decide +kernel
theorem dX0_classOf_140 : decode cX0_classOf 140 = .ok (.iconst 0, 1) := by decide +kernel
theorem dX0_classOf_141 : decode cX0_classOf 141 = .ok (.bipush 15, 2) := by decide +kernel
theorem dX0_classOf_143 : decode cX0_classOf 143 = .ok (.invokestatic 33, 3) := by decide +kernel
theorem dX0_classOf_146 : decode cX0_classOf 146 = .ok (.ifCond .eq 16, 3) := by decide +kernel
theorem dX0_classOf_149 : decode cX0_classOf 149 = .ok (.aload_n 0, 1) := by decide +kernel
theorem dX0_classOf_150 : decode cX0_classOf 150 = .ok (.getfield 15, 3) := by decide +kernel
theorem dX0_classOf_153 : decode cX0_classOf 153 = .ok (.getfield 66, 3) := by decide +kernel
theorem dX0_classOf_156 : decode cX0_classOf 156 = .ok (.iload 4, 2) := by decide +kernel
theorem dX0_classOf_158 : decode cX0_classOf 158 = .ok (.iaload, 1) := by decide +kernel
theorem dX0_classOf_159 : decode cX0_classOf 159 = .ok (.goto 4, 3) := by decide +kernel
theorem dX0_classOf_162 : decode cX0_classOf 162 = .ok (.iconst (-1), 1) := by decide +kernel
theorem dX0_classOf_163 : decode cX0_classOf 163 = .ok (.ireturn, 1) := by decide +kernel
theorem dX0_firstBar_0 : decode cX0_firstBar 0 = .ok (.aload_n 0, 1) := by decide +kernel
theorem dX0_firstBar_1 : decode cX0_firstBar 1 = .ok (.aload_n 2, 1) := by decide +kernel
theorem dX0_firstBar_2 : decode cX0_firstBar 2 = .ok (.iload_n 3, 1) := by decide +kernel
theorem dX0_firstBar_3 : decode cX0_firstBar 3 = .ok (.invokevirtual 69, 3) := by decide +kernel
theorem dX0_firstBar_6 : decode cX0_firstBar 6 = .ok (.istore 5, 2) := by decide +kernel
theorem dX0_firstBar_8 : decode cX0_firstBar 8 = .ok (.aload_n 0, 1) := by decide +kernel
theorem dX0_firstBar_9 : decode cX0_firstBar 9 = .ok (.getfield 23, 3) := by decide +kernel
theorem dX0_firstBar_12 : decode cX0_firstBar 12 = .ok (.iload_n 3, 1) := by decide +kernel
theorem dX0_firstBar_13 : decode cX0_firstBar 13 = .ok (.aload_n 2, 1) := by decide +kernel
theorem dX0_firstBar_14 : decode cX0_firstBar 14 = .ok (.getfield 40, 3) := by decide +kernel
theorem dX0_firstBar_17 : decode cX0_firstBar 17 = .ok (.iload 4, 2) := by decide +kernel
theorem dX0_firstBar_19 : decode cX0_firstBar 19 = .ok (.invokevirtual 73, 3) := by decide +kernel
theorem dX0_firstBar_22 : decode cX0_firstBar 22 = .ok (.istore 6, 2) := by decide +kernel
theorem dX0_firstBar_24 : decode cX0_firstBar 24 = .ok (.aload_n 0, 1) := by decide +kernel
theorem dX0_firstBar_25 : decode cX0_firstBar 25 = .ok (.getfield 9, 3) := by decide +kernel
theorem dX0_firstBar_28 : decode cX0_firstBar 28 = .ok (.iconst 4, 1) := by decide +kernel
theorem dX0_firstBar_29 : decode cX0_firstBar 29 = .ok (.iload 5, 2) := by decide +kernel
theorem dX0_firstBar_31 : decode cX0_firstBar 31 = .ok (.iastore, 1) := by decide +kernel
theorem dX0_firstBar_32 : decode cX0_firstBar 32 = .ok (.aload_n 0, 1) := by decide +kernel
theorem dX0_firstBar_33 : decode cX0_firstBar 33 = .ok (.getfield 9, 3) := by decide +kernel
theorem dX0_firstBar_36 : decode cX0_firstBar 36 = .ok (.iconst 5, 1) := by decide +kernel
theorem dX0_firstBar_37 : decode cX0_firstBar 37 = .ok (.iload 6, 2) := by decide +kernel
theorem dX0_firstBar_39 : decode cX0_firstBar 39 = .ok (.iload_n 1, 1) := by decide +kernel
theorem dX0_firstBar_40 : decode cX0_firstBar 40 = .ok (.if_icmp .ne 7, 3) := by decide +kernel
theorem dX0_firstBar_43 : decode cX0_firstBar 43 = .ok (.iconst 1, 1) := by decide +kernel
theorem dX0_firstBar_44 : decode cX0_firstBar 44 = .ok (.goto 4, 3) := by decide +kernel
theorem dX0_firstBar_47 : decode cX0_firstBar 47 = .ok (.iconst 0, 1) := by decide +kernel
theorem dX0_firstBar_48 : decode cX0_firstBar 48 = .ok (.iastore, 1) := by decide +kernel
theorem dX0_firstBar_49 : decode cX0_firstBar 49 = .ok (.aload_n 0, 1) := by decide +kernel
theorem dX0_firstBar_50 : decode cX0_firstBar 50 = .ok (.getfield 9, 3) := by decide +kernel
theorem dX0_firstBar_53 : decode cX0_firstBar 53 = .ok (.bipush 6, 2) := by decide +kernel
theorem dX0_firstBar_55 : decode cX0_firstBar 55 = .ok (.aload_n 0, 1) := by decide +kernel
theorem dX0_firstBar_56 : decode cX0_firstBar 56 = .ok (.getfield 19, 3) := by decide +kernel
theorem dX0_firstBar_59 : decode cX0_firstBar 59 = .ok (.iload 6, 2) := by decide +kernel
theorem dX0_firstBar_61 : decode cX0_firstBar 61 = .ok (.iload_n 1, 1) := by decide +kernel
theorem dX0_firstBar_62 : decode cX0_firstBar 62 = .ok (.invokevirtual 79, 3) := by decide +kernel
theorem dX0_firstBar_65 : decode cX0_firstBar 65 = .ok (.ifCond .eq 7, 3) := by decide +kernel
theorem dX0_firstBar_68 : decode cX0_firstBar 68 = .ok (.iconst 1, 1) := by decide +kernel
theorem dX0_firstBar_69 : decode cX0_firstBar 69 = .ok (.goto 4, 3) := by decide +kernel
theorem dX0_firstBar_72 : decode cX0_firstBar 72 = .ok (.iconst 0, 1) := by decide +kernel
theorem dX0_firstBar_73 : decode cX0_firstBar 73 = .ok (.iastore, 1) := by decide +kernel
theorem dX0_firstBar_74 : decode cX0_firstBar 74 = .ok (.aload_n 0, 1) := by decide +kernel
theorem dX0_firstBar_75 : decode cX0_firstBar 75 = .ok (.getfield 9, 3) := by decide +kernel
theorem dX0_firstBar_78 : decode cX0_firstBar 78 = .ok (.bipush 7, 2) := by decide +kernel
theorem dX0_firstBar_80 : decode cX0_firstBar 80 = .ok (.aload_n 0, 1) := by decide +kernel
theorem dX0_firstBar_81 : decode cX0_firstBar 81 = .ok (.getfield 23, 3) := by decide +kernel
theorem dX0_firstBar_84 : decode cX0_firstBar 84 = .ok (.iload_n 1, 1) := by decide +kernel
theorem dX0_firstBar_85 : decode cX0_firstBar 85 = .ok (.iload_n 3, 1) := by decide +kernel
theorem dX0_firstBar_86 : decode cX0_firstBar 86 = .ok (.aload_n 2, 1) := by decide +kernel
theorem dX0_firstBar_87 : decode cX0_firstBar 87 = .ok (.getfield 40, 3) := by decide +kernel
theorem dX0_firstBar_90 : decode cX0_firstBar 90 = .ok (.iload 4, 2) := by decide +kernel
theorem dX0_firstBar_92 : decode cX0_firstBar 92 = .ok (.invokevirtual 83, 3) := by decide +kernel
theorem dX0_firstBar_95 : decode cX0_firstBar 95 = .ok (.iastore, 1) := by decide +kernel
theorem dX0_firstBar_96 : decode cX0_firstBar 96 = .ok (.aload_n 0, 1) := by decide +kernel
theorem dX0_firstBar_97 : decode cX0_firstBar 97 = .ok (.getfield 15, 3) := by decide +kernel
theorem dX0_firstBar_100 : decode cX0_firstBar 100 = .ok (.bipush 9, 2) := by decide +kernel
theorem dX0_firstBar_102 : decode cX0_firstBar 102 = .ok (.aload_n 0, 1) := by decide +kernel
theorem dX0_firstBar_103 : decode cX0_firstBar 103 = .ok (.getfield 9, 3) := by decide +kernel
theorem dX0_firstBar_106 : decode cX0_firstBar 106 = .ok (.invokevirtual 60, 3) := by decide +kernel
theorem dX0_firstBar_109 : decode cX0_firstBar 109 = .ok (.ireturn, 1) := by decide +kernel
theorem dX0_pointsFor_0 : decode cX0_pointsFor 0 = .ok (.aload_n 0, 1) := by decide +kernel
theorem dX0_pointsFor_1 : decode cX0_pointsFor 1 = .ok (.aload_n 1, 1) := by decide +kernel
theorem dX0_pointsFor_2 : decode cX0_pointsFor 2 = .ok (.iload_n 2, 1) := by decide +kernel
theorem dX0_pointsFor_3 : decode cX0_pointsFor 3 = .ok (.invokevirtual 69, 3) := by decide +kernel
theorem dX0_pointsFor_6 : decode cX0_pointsFor 6 = .ok (.istore 4, 2) := by decide +kernel
theorem dX0_pointsFor_8 : decode cX0_pointsFor 8 = .ok (.aload_n 0, 1) := by decide +kernel
theorem dX0_pointsFor_9 : decode cX0_pointsFor 9 = .ok (.getfield 9, 3) := by decide +kernel
theorem dX0_pointsFor_12 : decode cX0_pointsFor 12 = .ok (.iconst 4, 1) := by decide +kernel
theorem dX0_pointsFor_13 : decode cX0_pointsFor 13 = .ok (.iload 4, 2) := by decide +kernel
theorem dX0_pointsFor_15 : decode cX0_pointsFor 15 = .ok (.iastore, 1) := by decide +kernel
theorem dX0_pointsFor_16 : decode cX0_pointsFor 16 = .ok (.aload_n 0, 1) := by decide +kernel
theorem dX0_pointsFor_17 : decode cX0_pointsFor 17 = .ok (.getfield 9, 3) := by decide +kernel
theorem dX0_pointsFor_20 : decode cX0_pointsFor 20 = .ok (.bipush 8, 2) := by decide +kernel
theorem dX0_pointsFor_22 : decode cX0_pointsFor 22 = .ok (.iload_n 3, 1) := by decide +kernel
theorem dX0_pointsFor_23 : decode cX0_pointsFor 23 = .ok (.iastore, 1) := by decide +kernel
theorem dX0_pointsFor_24 : decode cX0_pointsFor 24 = .ok (.aload_n 0, 1) := by decide +kernel
theorem dX0_pointsFor_25 : decode cX0_pointsFor 25 = .ok (.getfield 15, 3) := by decide +kernel
theorem dX0_pointsFor_28 : decode cX0_pointsFor 28 = .ok (.aload_n 0, 1) := by decide +kernel
theorem dX0_pointsFor_29 : decode cX0_pointsFor 29 = .ok (.getfield 15, 3) := by decide +kernel
theorem dX0_pointsFor_32 : decode cX0_pointsFor 32 = .ok (.bipush 11, 2) := by decide +kernel
theorem dX0_pointsFor_34 : decode cX0_pointsFor 34 = .ok (.aload_n 0, 1) := by decide +kernel
theorem dX0_pointsFor_35 : decode cX0_pointsFor 35 = .ok (.getfield 9, 3) := by decide +kernel
theorem dX0_pointsFor_38 : decode cX0_pointsFor 38 = .ok (.invokevirtual 60, 3) := by decide +kernel
theorem dX0_pointsFor_41 : decode cX0_pointsFor 41 = .ok (.aload_n 0, 1) := by decide +kernel
theorem dX0_pointsFor_42 : decode cX0_pointsFor 42 = .ok (.getfield 9, 3) := by decide +kernel
theorem dX0_pointsFor_45 : decode cX0_pointsFor 45 = .ok (.invokevirtual 87, 3) := by decide +kernel
theorem dX0_pointsFor_48 : decode cX0_pointsFor 48 = .ok (.ireturn, 1) := by decide +kernel
theorem dX1_init_0 : decode cX1_init 0 = .ok (.aload_n 0, 1) := by decide +kernel
theorem dX1_init_1 : decode cX1_init 1 = .ok (.invokespecial 3, 3) := by decide +kernel
theorem dX1_init_4 : decode cX1_init 4 = .ok (.aload_n 0, 1) := by decide +kernel
theorem dX1_init_5 : decode cX1_init 5 = .ok (.sipush 200, 3) := by decide +kernel
theorem dX1_init_8 : decode cX1_init 8 = .ok (.newarray .int, 2) := by decide +kernel
theorem dX1_init_10 : decode cX1_init 10 = .ok (.putfield 9, 3) := by decide +kernel
theorem dX1_init_13 : decode cX1_init 13 = .ok (.aload_n 0, 1) := by decide +kernel
theorem dX1_init_14 : decode cX1_init 14 = .ok (.sipush 200, 3) := by decide +kernel
theorem dX1_init_17 : decode cX1_init 17 = .ok (.newarray .int, 2) := by decide +kernel
theorem dX1_init_19 : decode cX1_init 19 = .ok (.putfield 15, 3) := by decide +kernel
theorem dX1_init_22 : decode cX1_init 22 = .ok (.aload_n 0, 1) := by decide +kernel
theorem dX1_init_23 : decode cX1_init 23 = .ok (.sipush 200, 3) := by decide +kernel
theorem dX1_init_26 : decode cX1_init 26 = .ok (.newarray .int, 2) := by decide +kernel
theorem dX1_init_28 : decode cX1_init 28 = .ok (.putfield 18, 3) := by decide +kernel
theorem dX1_init_31 : decode cX1_init 31 = .ok (.aload_n 0, 1) := by decide +kernel
theorem dX1_init_32 : decode cX1_init 32 = .ok (.sipush 200, 3) := by decide +kernel
theorem dX1_init_35 : decode cX1_init 35 = .ok (.newarray .int, 2) := by decide +kernel
theorem dX1_init_37 : decode cX1_init 37 = .ok (.putfield 21, 3) := by decide +kernel
theorem dX1_init_40 : decode cX1_init 40 = .ok (.aload_n 0, 1) := by decide +kernel
theorem dX1_init_41 : decode cX1_init 41 = .ok (.sipush 200, 3) := by decide +kernel
theorem dX1_init_44 : decode cX1_init 44 = .ok (.newarray .int, 2) := by decide +kernel
theorem dX1_init_46 : decode cX1_init 46 = .ok (.putfield 24, 3) := by decide +kernel
theorem dX1_init_49 : decode cX1_init 49 = .ok (.aload_n 0, 1) := by decide +kernel
theorem dX1_init_50 : decode cX1_init 50 = .ok (.iconst 0, 1) := by decide +kernel
theorem dX1_init_51 : decode cX1_init 51 = .ok (.putfield 27, 3) := by decide +kernel
theorem dX1_init_54 : decode cX1_init 54 = .ok (.aload_n 0, 1) := by decide +kernel
theorem dX1_init_55 : decode cX1_init 55 = .ok (.aload_n 1, 1) := by decide +kernel
theorem dX1_init_56 : decode cX1_init 56 = .ok (.putfield 31, 3) := by decide +kernel
theorem dX1_init_59 : decode cX1_init 59 = .ok (.return_, 1) := by decide +kernel
theorem dX1_add_0 : decode cX1_add 0 = .ok (.aload_n 0, 1) := by decide +kernel
theorem dX1_add_1 : decode cX1_add 1 = .ok (.getfield 27, 3) := by decide +kernel
theorem dX1_add_4 : decode cX1_add 4 = .ok (.sipush 200, 3) := by decide +kernel
theorem dX1_add_7 : decode cX1_add 7 = .ok (.if_icmp .lt 5, 3) := by decide +kernel
theorem dX1_add_10 : decode cX1_add 10 = .ok (.iconst (-1), 1) := by decide +kernel
theorem dX1_add_11 : decode cX1_add 11 = .ok (.ireturn, 1) := by decide +kernel
theorem dX1_add_12 : decode cX1_add 12 = .ok (.aload_n 0, 1) := by decide +kernel
theorem dX1_add_13 : decode cX1_add 13 = .ok (.getfield 9, 3) := by decide +kernel
theorem dX1_add_16 : decode cX1_add 16 = .ok (.aload_n 0, 1) := by decide +kernel
theorem dX1_add_17 : decode cX1_add 17 = .ok (.getfield 27, 3) := by decide +kernel
theorem dX1_add_20 : decode cX1_add 20 = .ok (.iload_n 1, 1) := by decide +kernel
theorem dX1_add_21 : decode cX1_add 21 = .ok (.iastore, 1) := by decide +kernel
theorem dX1_add_22 : decode cX1_add 22 = .ok (.aload_n 0, 1) := by decide +kernel
theorem dX1_add_23 : decode cX1_add 23 = .ok (.getfield 15, 3) := by decide +kernel
theorem dX1_add_26 : decode cX1_add 26 = .ok (.aload_n 0, 1) := by decide +kernel
theorem dX1_add_27 : decode cX1_add 27 = .ok (.getfield 27, 3) := by decide +kernel
theorem dX1_add_30 : decode cX1_add 30 = .ok (.iload_n 2, 1) := by decide +kernel
theorem dX1_add_31 : decode cX1_add 31 = .ok (.iastore, 1) := by decide +kernel
theorem dX1_add_32 : decode cX1_add 32 = .ok (.aload_n 0, 1) := by decide +kernel
theorem dX1_add_33 : decode cX1_add 33 = .ok (.getfield 18, 3) := by decide +kernel
theorem dX1_add_36 : decode cX1_add 36 = .ok (.aload_n 0, 1) := by decide +kernel
theorem dX1_add_37 : decode cX1_add 37 = .ok (.getfield 27, 3) := by decide +kernel
theorem dX1_add_40 : decode cX1_add 40 = .ok (.iload_n 3, 1) := by decide +kernel
theorem dX1_add_41 : decode cX1_add 41 = .ok (.iastore, 1) := by decide +kernel
theorem dX1_add_42 : decode cX1_add 42 = .ok (.aload_n 0, 1) := by decide +kernel
theorem dX1_add_43 : decode cX1_add 43 = .ok (.getfield 21, 3) := by decide +kernel
theorem dX1_add_46 : decode cX1_add 46 = .ok (.aload_n 0, 1) := by decide +kernel
theorem dX1_add_47 : decode cX1_add 47 = .ok (.getfield 27, 3) := by decide +kernel
theorem dX1_add_50 : decode cX1_add 50 = .ok (.iload 4, 2) := by decide +kernel
theorem dX1_add_52 : decode cX1_add 52 = .ok (.iastore, 1) := by decide +kernel
theorem dX1_add_53 : decode cX1_add 53 = .ok (.aload_n 0, 1) := by decide +kernel
theorem dX1_add_54 : decode cX1_add 54 = .ok (.getfield 24, 3) := by decide +kernel
theorem dX1_add_57 : decode cX1_add 57 = .ok (.aload_n 0, 1) := by decide +kernel
theorem dX1_add_58 : decode cX1_add 58 = .ok (.getfield 27, 3) := by decide +kernel
theorem dX1_add_61 : decode cX1_add 61 = .ok (.iload 5, 2) := by decide +kernel
theorem dX1_add_63 : decode cX1_add 63 = .ok (.iastore, 1) := by decide +kernel
theorem dX1_add_64 : decode cX1_add 64 = .ok (.aload_n 0, 1) := by decide +kernel
theorem dX1_add_65 : decode cX1_add 65 = .ok (.dup, 1) := by decide +kernel
theorem dX1_add_66 : decode cX1_add 66 = .ok (.getfield 27, 3) := by decide +kernel
theorem dX1_add_69 : decode cX1_add 69 = .ok (.iconst 1, 1) := by decide +kernel
theorem dX1_add_70 : decode cX1_add 70 = .ok (.iadd, 1) := by decide +kernel
theorem dX1_add_71 : decode cX1_add 71 = .ok (.putfield 27, 3) := by decide +kernel
theorem dX1_add_74 : decode cX1_add 74 = .ok (.aload_n 0, 1) := by decide +kernel
theorem dX1_add_75 : decode cX1_add 75 = .ok (.getfield 27, 3) := by decide +kernel
theorem dX1_add_78 : decode cX1_add 78 = .ok (.iconst 1, 1) := by decide +kernel
theorem dX1_add_79 : decode cX1_add 79 = .ok (.isub, 1) := by decide +kernel
theorem dX1_add_80 : decode cX1_add 80 = .ok (.ireturn, 1) := by decide +kernel
theorem dX1_valueAt_0 : decode cX1_valueAt 0 = .ok (.iload_n 1, 1) := by decide +kernel
theorem dX1_valueAt_1 : decode cX1_valueAt 1 = .ok (.iconst 0, 1) := by decide +kernel
theorem dX1_valueAt_2 : decode cX1_valueAt 2 = .ok (.aload_n 0, 1) := by decide +kernel
theorem dX1_valueAt_3 : decode cX1_valueAt 3 = .ok (.getfield 27, 3) := by decide +kernel
theorem dX1_valueAt_6 : decode cX1_valueAt 6 = .ok (.iconst 1, 1) := by decide +kernel
theorem dX1_valueAt_7 : decode cX1_valueAt 7 = .ok (.isub, 1) := by decide +kernel
theorem dX1_valueAt_8 : decode cX1_valueAt 8 = .ok (.invokestatic 35, 3) := by decide +kernel
theorem dX1_valueAt_11 : decode cX1_valueAt 11 = .ok (.ifCond .eq 12, 3) := by decide +kernel
theorem dX1_valueAt_14 : decode cX1_valueAt 14 = .ok (.aload_n 0, 1) := by decide +kernel
theorem dX1_valueAt_15 : decode cX1_valueAt 15 = .ok (.getfield 21, 3) := by decide +kernel
theorem dX1_valueAt_18 : decode cX1_valueAt 18 = .ok (.iload_n 1, 1) := by decide +kernel
theorem dX1_valueAt_19 : decode cX1_valueAt 19 = .ok (.iaload, 1) := by decide +kernel
theorem dX1_valueAt_20 : decode cX1_valueAt 20 = .ok (.goto 4, 3) := by decide +kernel
theorem dX1_valueAt_23 : decode cX1_valueAt 23 = .ok (.iconst (-1), 1) := by decide +kernel
theorem dX1_valueAt_24 : decode cX1_valueAt 24 = .ok (.ireturn, 1) := by decide +kernel
theorem dX1_lastOf_0 : decode cX1_lastOf 0 = .ok (.iload 4, 2) := by decide +kernel
theorem dX1_lastOf_2 : decode cX1_lastOf 2 = .ok (.aload_n 0, 1) := by decide +kernel
theorem dX1_lastOf_3 : decode cX1_lastOf 3 = .ok (.getfield 27, 3) := by decide +kernel
theorem dX1_lastOf_6 : decode cX1_lastOf 6 = .ok (.invokestatic 39, 3) := by decide +kernel
theorem dX1_lastOf_9 : decode cX1_lastOf 9 = .ok (.iconst 1, 1) := by decide +kernel
theorem dX1_lastOf_10 : decode cX1_lastOf 10 = .ok (.isub, 1) := by decide +kernel
theorem dX1_lastOf_11 : decode cX1_lastOf 11 = .ok (.istore 5, 2) := by decide +kernel
theorem dX1_lastOf_13 : decode cX1_lastOf 13 = .ok (.iload 5, 2) := by decide +kernel
theorem dX1_lastOf_15 : decode cX1_lastOf 15 = .ok (.ifCond .lt 45, 3) := by decide +kernel
theorem dX1_lastOf_18 : decode cX1_lastOf 18 = .ok (.aload_n 0, 1) := by decide +kernel
theorem dX1_lastOf_19 : decode cX1_lastOf 19 = .ok (.getfield 9, 3) := by decide +kernel
theorem dX1_lastOf_22 : decode cX1_lastOf 22 = .ok (.iload 5, 2) := by decide +kernel
theorem dX1_lastOf_24 : decode cX1_lastOf 24 = .ok (.iaload, 1) := by decide +kernel
theorem dX1_lastOf_25 : decode cX1_lastOf 25 = .ok (.iload_n 1, 1) := by decide +kernel
theorem dX1_lastOf_26 : decode cX1_lastOf 26 = .ok (.if_icmp .ne 28, 3) := by decide +kernel
theorem dX1_lastOf_29 : decode cX1_lastOf 29 = .ok (.aload_n 0, 1) := by decide +kernel
theorem dX1_lastOf_30 : decode cX1_lastOf 30 = .ok (.getfield 15, 3) := by decide +kernel
theorem dX1_lastOf_33 : decode cX1_lastOf 33 = .ok (.iload 5, 2) := by decide +kernel
theorem dX1_lastOf_35 : decode cX1_lastOf 35 = .ok (.iaload, 1) := by decide +kernel
theorem dX1_lastOf_36 : decode cX1_lastOf 36 = .ok (.iload_n 2, 1) := by decide +kernel
theorem dX1_lastOf_37 : decode cX1_lastOf 37 = .ok (.if_icmp .ne 17, 3) := by decide +kernel
theorem dX1_lastOf_40 : decode cX1_lastOf 40 = .ok (.aload_n 0, 1) := by decide +kernel
theorem dX1_lastOf_41 : decode cX1_lastOf 41 = .ok (.getfield 18, 3) := by decide +kernel
theorem dX1_lastOf_44 : decode cX1_lastOf 44 = .ok (.iload 5, 2) := by decide +kernel
theorem dX1_lastOf_46 : decode cX1_lastOf 46 = .ok (.iaload, 1) := by decide +kernel
theorem dX1_lastOf_47 : decode cX1_lastOf 47 = .ok (.iload_n 3, 1) := by decide +kernel
theorem dX1_lastOf_48 : decode cX1_lastOf 48 = .ok (.if_icmp .ne 6, 3) := by decide +kernel
theorem dX1_lastOf_51 : decode cX1_lastOf 51 = .ok (.iload 5, 2) := by decide +kernel
theorem dX1_lastOf_53 : decode cX1_lastOf 53 = .ok (.ireturn, 1) := by decide +kernel
theorem dX1_lastOf_54 : decode cX1_lastOf 54 = .ok (.iinc 5 (-1), 3) := by decide +kernel
theorem dX1_lastOf_57 : decode cX1_lastOf 57 = .ok (.goto (-44), 3) := by decide +kernel
theorem dX1_lastOf_60 : decode cX1_lastOf 60 = .ok (.iconst (-1), 1) := by decide +kernel
theorem dX1_lastOf_61 : decode cX1_lastOf 61 = .ok (.ireturn, 1) := by decide +kernel
theorem dX1_heldMeasure_0 : decode cX1_heldMeasure 0 = .ok (.aload_n 0, 1) := by decide +kernel
theorem dX1_heldMeasure_1 : decode cX1_heldMeasure 1 = .ok (.iconst 3, 1) := by decide +kernel
theorem dX1_heldMeasure_2 : decode cX1_heldMeasure 2 = .ok (.iload_n 1, 1) := by decide +kernel
theorem dX1_heldMeasure_3 : decode cX1_heldMeasure 3 = .ok (.iload_n 2, 1) := by decide +kernel
theorem dX1_heldMeasure_4 : decode cX1_heldMeasure 4 = .ok (.iload_n 3, 1) := by decide +kernel
theorem dX1_heldMeasure_5 : decode cX1_heldMeasure 5 = .ok (.invokevirtual 45, 3) := by decide +kernel
theorem dX1_heldMeasure_8 : decode cX1_heldMeasure 8 = .ok (.istore 4, 2) := by decide +kernel
theorem dX1_heldMeasure_10 : decode cX1_heldMeasure 10 = .ok (.aload_n 0, 1) := by decide +kernel
theorem dX1_heldMeasure_11 : decode cX1_heldMeasure 11 = .ok (.iconst 3, 1) := by decide +kernel
theorem dX1_heldMeasure_12 : decode cX1_heldMeasure 12 = .ok (.iload_n 1, 1) := by decide +kernel
theorem dX1_heldMeasure_13 : decode cX1_heldMeasure 13 = .ok (.iload_n 2, 1) := by decide +kernel
theorem dX1_heldMeasure_14 : decode cX1_heldMeasure 14 = .ok (.iload 4, 2) := by decide +kernel
theorem dX1_heldMeasure_16 : decode cX1_heldMeasure 16 = .ok (.invokevirtual 45, 3) := by decide +kernel
theorem dX1_heldMeasure_19 : decode cX1_heldMeasure 19 = .ok (.istore 5, 2) := by decide +kernel
theorem dX1_heldMeasure_21 : decode cX1_heldMeasure 21 = .ok (.aload_n 0, 1) := by decide +kernel
theorem dX1_heldMeasure_22 : decode cX1_heldMeasure 22 = .ok (.iconst 3, 1) := by decide +kernel
theorem dX1_heldMeasure_23 : decode cX1_heldMeasure 23 = .ok (.iload_n 1, 1) := by decide +kernel
theorem dX1_heldMeasure_24 : decode cX1_heldMeasure 24 = .ok (.iload_n 2, 1) := by decide +kernel
theorem dX1_heldMeasure_25 : decode cX1_heldMeasure 25 = .ok (.iload 5, 2) := by decide +kernel
theorem dX1_heldMeasure_27 : decode cX1_heldMeasure 27 = .ok (.invokevirtual 45, 3) := by decide +kernel
theorem dX1_heldMeasure_30 : decode cX1_heldMeasure 30 = .ok (.istore 6, 2) := by decide +kernel
theorem dX1_heldMeasure_32 : decode cX1_heldMeasure 32 = .ok (.aload_n 0, 1) := by decide +kernel
theorem dX1_heldMeasure_33 : decode cX1_heldMeasure 33 = .ok (.iload 4, 2) := by decide +kernel
theorem dX1_heldMeasure_35 : decode cX1_heldMeasure 35 = .ok (.invokevirtual 49, 3) := by decide +kernel
theorem dX1_heldMeasure_38 : decode cX1_heldMeasure 38 = .ok (.istore 7, 2) := by decide +kernel
theorem dX1_heldMeasure_40 : decode cX1_heldMeasure 40 = .ok (.aload_n 0, 1) := by decide +kernel
theorem dX1_heldMeasure_41 : decode cX1_heldMeasure 41 = .ok (.iload 5, 2) := by decide +kernel
theorem dX1_heldMeasure_43 : decode cX1_heldMeasure 43 = .ok (.invokevirtual 49, 3) := by decide +kernel
theorem dX1_heldMeasure_46 : decode cX1_heldMeasure 46 = .ok (.istore 8, 2) := by decide +kernel
theorem dX1_heldMeasure_48 : decode cX1_heldMeasure 48 = .ok (.aload_n 0, 1) := by decide +kernel
theorem dX1_heldMeasure_49 : decode cX1_heldMeasure 49 = .ok (.iload 6, 2) := by decide +kernel
theorem dX1_heldMeasure_51 : decode cX1_heldMeasure 51 = .ok (.invokevirtual 49, 3) := by decide +kernel
theorem dX1_heldMeasure_54 : decode cX1_heldMeasure 54 = .ok (.istore 9, 2) := by decide +kernel
theorem dX1_heldMeasure_56 : decode cX1_heldMeasure 56 = .ok (.iload 5, 2) := by decide +kernel
theorem dX1_heldMeasure_58 : decode cX1_heldMeasure 58 = .ok (.iconst (-1), 1) := by decide +kernel
theorem dX1_heldMeasure_59 : decode cX1_heldMeasure 59 = .ok (.if_icmp .ne 6, 3) := by decide +kernel
theorem dX1_heldMeasure_62 : decode cX1_heldMeasure 62 = .ok (.iload 7, 2) := by decide +kernel
theorem dX1_heldMeasure_64 : decode cX1_heldMeasure 64 = .ok (.ireturn, 1) := by decide +kernel
theorem dX1_heldMeasure_65 : decode cX1_heldMeasure 65 = .ok (.iload 6, 2) := by decide +kernel
theorem dX1_heldMeasure_67 : decode cX1_heldMeasure 67 = .ok (.iconst (-1), 1) := by decide +kernel
theorem dX1_heldMeasure_68 : decode cX1_heldMeasure 68 = .ok (.if_icmp .ne 11, 3) := by decide +kernel
theorem dX1_heldMeasure_71 : decode cX1_heldMeasure 71 = .ok (.iload 7, 2) := by decide +kernel
theorem dX1_heldMeasure_73 : decode cX1_heldMeasure 73 = .ok (.iload 8, 2) := by decide +kernel
theorem dX1_heldMeasure_75 : decode cX1_heldMeasure 75 = .ok (.invokestatic 39, 3) := by decide +kernel
theorem dX1_heldMeasure_78 : decode cX1_heldMeasure 78 = .ok (.ireturn, 1) := by decide +kernel
theorem dX1_heldMeasure_79 : decode cX1_heldMeasure 79 = .ok (.iload 7, 2) := by decide +kernel
theorem dX1_heldMeasure_81 : decode cX1_heldMeasure 81 = .ok (.iload 8, 2) := by decide +kernel
theorem dX1_heldMeasure_83 : decode cX1_heldMeasure 83 = .ok (.invokestatic 39, 3) := by decide +kernel
theorem dX1_heldMeasure_86 : decode cX1_heldMeasure 86 = .ok (.iload 7, 2) := by decide +kernel
theorem dX1_heldMeasure_88 : decode cX1_heldMeasure 88 = .ok (.iload 8, 2) := by decide +kernel
theorem dX1_heldMeasure_90 : decode cX1_heldMeasure 90 = .ok (.invokestatic 53, 3) := by decide +kernel
theorem dX1_heldMeasure_93 : decode cX1_heldMeasure 93 = .ok (.iload 9, 2) := by decide +kernel
theorem dX1_heldMeasure_95 : decode cX1_heldMeasure 95 = .ok (.invokestatic 39, 3) := by decide +kernel
theorem dX1_heldMeasure_98 : decode cX1_heldMeasure 98 = .ok (.invokestatic 53, 3) := by decide +kernel
theorem dX1_heldMeasure_101 : decode cX1_heldMeasure 101 = .ok (.ireturn, 1) := by decide +kernel
theorem dX1_saleBy_0 : decode cX1_saleBy 0 = .ok (.iconst (-1), 1) := by decide +kernel
theorem dX1_saleBy_1 : decode cX1_saleBy 1 = .ok (.istore 4, 2) := by decide +kernel
theorem dX1_saleBy_3 : decode cX1_saleBy 3 = .ok (.iconst (-1), 1) := by decide +kernel
theorem dX1_saleBy_4 : decode cX1_saleBy 4 = .ok (.istore 5, 2) := by decide +kernel
theorem dX1_saleBy_6 : decode cX1_saleBy 6 = .ok (.iconst 0, 1) := by decide +kernel
theorem dX1_saleBy_7 : decode cX1_saleBy 7 = .ok (.istore 6, 2) := by decide +kernel
theorem dX1_saleBy_9 : decode cX1_saleBy 9 = .ok (.iload 6, 2) := by decide +kernel
theorem dX1_saleBy_11 : decode cX1_saleBy 11 = .ok (.iload_n 3, 1) := by decide +kernel
theorem dX1_saleBy_12 : decode cX1_saleBy 12 = .ok (.if_icmp .ge 88, 3) := by decide +kernel
theorem dX1_saleBy_15 : decode cX1_saleBy 15 = .ok (.iload 6, 2) := by decide +kernel
theorem dX1_saleBy_17 : decode cX1_saleBy 17 = .ok (.aload_n 0, 1) := by decide +kernel
theorem dX1_saleBy_18 : decode cX1_saleBy 18 = .ok (.getfield 27, 3) := by decide +kernel
theorem dX1_saleBy_21 : decode cX1_saleBy 21 = .ok (.if_icmp .ge 79, 3) := by decide +kernel
theorem dX1_saleBy_24 : decode cX1_saleBy 24 = .ok (.aload_n 0, 1) := by decide +kernel
theorem dX1_saleBy_25 : decode cX1_saleBy 25 = .ok (.getfield 9, 3) := by decide +kernel
theorem dX1_saleBy_28 : decode cX1_saleBy 28 = .ok (.iload 6, 2) := by decide +kernel
theorem dX1_saleBy_30 : decode cX1_saleBy 30 = .ok (.iaload, 1) := by decide +kernel
theorem dX1_saleBy_31 : decode cX1_saleBy 31 = .ok (.iconst 4, 1) := by decide +kernel
theorem dX1_saleBy_32 : decode cX1_saleBy 32 = .ok (.if_icmp .ne 18, 3) := by decide +kernel
theorem dX1_saleBy_35 : decode cX1_saleBy 35 = .ok (.aload_n 0, 1) := by decide +kernel
theorem dX1_saleBy_36 : decode cX1_saleBy 36 = .ok (.getfield 18, 3) := by decide +kernel
theorem dX1_saleBy_39 : decode cX1_saleBy 39 = .ok (.iload 6, 2) := by decide +kernel
theorem dX1_saleBy_41 : decode cX1_saleBy 41 = .ok (.iaload, 1) := by decide +kernel
theorem dX1_saleBy_42 : decode cX1_saleBy 42 = .ok (.iload_n 1, 1) := by decide +kernel
theorem dX1_saleBy_43 : decode cX1_saleBy 43 = .ok (.if_icmp .ne 7, 3) := by decide +kernel
theorem dX1_saleBy_46 : decode cX1_saleBy 46 = .ok (.iconst 1, 1) := by decide +kernel
theorem dX1_saleBy_47 : decode cX1_saleBy 47 = .ok (.goto 4, 3) := by decide +kernel
theorem dX1_saleBy_50 : decode cX1_saleBy 50 = .ok (.iconst 0, 1) := by decide +kernel
theorem dX1_saleBy_51 : decode cX1_saleBy 51 = .ok (.istore 7, 2) := by decide +kernel
theorem dX1_saleBy_53 : decode cX1_saleBy 53 = .ok (.iload 7, 2) := by decide +kernel
theorem dX1_saleBy_55 : decode cX1_saleBy 55 = .ok (.ifCond .eq 39, 3) := by decide +kernel
theorem dX1_saleBy_58 : decode cX1_saleBy 58 = .ok (.aload_n 0, 1) := by decide +kernel
theorem dX1_saleBy_59 : decode cX1_saleBy 59 = .ok (.getfield 24, 3) := by decide +kernel
theorem dX1_saleBy_62 : decode cX1_saleBy 62 = .ok (.iload 6, 2) := by decide +kernel
theorem dX1_saleBy_64 : decode cX1_saleBy 64 = .ok (.iaload, 1) := by decide +kernel
theorem dX1_saleBy_65 : decode cX1_saleBy 65 = .ok (.iload_n 2, 1) := by decide +kernel
theorem dX1_saleBy_66 : decode cX1_saleBy 66 = .ok (.if_icmp .gt 28, 3) := by decide +kernel
theorem dX1_saleBy_69 : decode cX1_saleBy 69 = .ok (.aload_n 0, 1) := by decide +kernel
theorem dX1_saleBy_70 : decode cX1_saleBy 70 = .ok (.getfield 24, 3) := by decide +kernel
theorem dX1_saleBy_73 : decode cX1_saleBy 73 = .ok (.iload 6, 2) := by decide +kernel
theorem dX1_saleBy_75 : decode cX1_saleBy 75 = .ok (.iaload, 1) := by decide +kernel
theorem dX1_saleBy_76 : decode cX1_saleBy 76 = .ok (.iload 5, 2) := by decide +kernel
theorem dX1_saleBy_78 : decode cX1_saleBy 78 = .ok (.if_icmp .lt 16, 3) := by decide +kernel
theorem dX1_saleBy_81 : decode cX1_saleBy 81 = .ok (.iload 6, 2) := by decide +kernel
theorem dX1_saleBy_83 : decode cX1_saleBy 83 = .ok (.istore 4, 2) := by decide +kernel
theorem dX1_saleBy_85 : decode cX1_saleBy 85 = .ok (.aload_n 0, 1) := by decide +kernel
theorem dX1_saleBy_86 : decode cX1_saleBy 86 = .ok (.getfield 24, 3) := by decide +kernel
theorem dX1_saleBy_89 : decode cX1_saleBy 89 = .ok (.iload 6, 2) := by decide +kernel
theorem dX1_saleBy_91 : decode cX1_saleBy 91 = .ok (.iaload, 1) := by decide +kernel
theorem dX1_saleBy_92 : decode cX1_saleBy 92 = .ok (.istore 5, 2) := by decide +kernel
theorem dX1_saleBy_94 : decode cX1_saleBy 94 = .ok (.iinc 6 1, 3) := by decide +kernel
theorem dX1_saleBy_97 : decode cX1_saleBy 97 = .ok (.goto (-88), 3) := by decide +kernel
theorem dX1_saleBy_100 : decode cX1_saleBy 100 = .ok (.iload 4, 2) := by decide +kernel
theorem dX1_saleBy_102 : decode cX1_saleBy 102 = .ok (.ireturn, 1) := by decide +kernel
theorem dX1_buyer_0 : decode cX1_buyer 0 = .ok (.iload_n 2, 1) := by decide +kernel
theorem dX1_buyer_1 : decode cX1_buyer 1 = .ok (.ifCond .lt 18, 3) := by decide +kernel
theorem dX1_buyer_4 : decode cX1_buyer 4 = .ok (.iload_n 2, 1) := by decide +kernel
theorem dX1_buyer_5 : decode cX1_buyer 5 = .ok (.aload_n 0, 1) := by decide +kernel
theorem dX1_buyer_6 : decode cX1_buyer 6 = .ok (.getfield 27, 3) := by decide +kernel
theorem dX1_buyer_9 : decode cX1_buyer 9 = .ok (.if_icmp .ge 10, 3) := by decide +kernel
theorem dX1_buyer_12 : decode cX1_buyer 12 = .ok (.aload_n 0, 1) := by decide +kernel
theorem dX1_buyer_13 : decode cX1_buyer 13 = .ok (.getfield 21, 3) := by decide +kernel
theorem dX1_buyer_16 : decode cX1_buyer 16 = .ok (.iload_n 2, 1) := by decide +kernel
theorem dX1_buyer_17 : decode cX1_buyer 17 = .ok (.iaload, 1) := by decide +kernel
theorem dX1_buyer_18 : decode cX1_buyer 18 = .ok (.ireturn, 1) := by decide +kernel
theorem dX1_buyer_19 : decode cX1_buyer 19 = .ok (.iload_n 1, 1) := by decide +kernel
theorem dX1_buyer_20 : decode cX1_buyer 20 = .ok (.ifCond .lt 26, 3) := by decide +kernel
theorem dX1_buyer_23 : decode cX1_buyer 23 = .ok (.iload_n 1, 1) := by decide +kernel
theorem dX1_buyer_24 : decode cX1_buyer 24 = .ok (.aload_n 0, 1) := by decide +kernel
theorem dX1_buyer_25 : decode cX1_buyer 25 = .ok (.getfield 31, 3) := by decide +kernel
theorem dX1_buyer_28 : decode cX1_buyer 28 = .ok (.getfield 56, 3) := by decide +kernel
theorem dX1_buyer_31 : decode cX1_buyer 31 = .ok (.if_icmp .ge 15, 3) := by decide +kernel
theorem dX1_buyer_34 : decode cX1_buyer 34 = .ok (.aload_n 0, 1) := by decide +kernel
theorem dX1_buyer_35 : decode cX1_buyer 35 = .ok (.getfield 31, 3) := by decide +kernel
theorem dX1_buyer_38 : decode cX1_buyer 38 = .ok (.getfield 60, 3) := by decide +kernel
theorem dX1_buyer_41 : decode cX1_buyer 41 = .ok (.iload_n 1, 1) := by decide +kernel
theorem dX1_buyer_42 : decode cX1_buyer 42 = .ok (.iaload, 1) := by decide +kernel
theorem dX1_buyer_43 : decode cX1_buyer 43 = .ok (.goto 4, 3) := by decide +kernel
theorem dX1_buyer_46 : decode cX1_buyer 46 = .ok (.iconst (-1), 1) := by decide +kernel
theorem dX1_buyer_47 : decode cX1_buyer 47 = .ok (.ireturn, 1) := by decide +kernel
theorem dX1_ownerOn_0 : decode cX1_ownerOn 0 = .ok (.aload_n 0, 1) := by decide +kernel
theorem dX1_ownerOn_1 : decode cX1_ownerOn 1 = .ok (.iload_n 1, 1) := by decide +kernel
theorem dX1_ownerOn_2 : decode cX1_ownerOn 2 = .ok (.aload_n 0, 1) := by decide +kernel
theorem dX1_ownerOn_3 : decode cX1_ownerOn 3 = .ok (.iload_n 1, 1) := by decide +kernel
theorem dX1_ownerOn_4 : decode cX1_ownerOn 4 = .ok (.iload_n 2, 1) := by decide +kernel
theorem dX1_ownerOn_5 : decode cX1_ownerOn 5 = .ok (.iload_n 3, 1) := by decide +kernel
theorem dX1_ownerOn_6 : decode cX1_ownerOn 6 = .ok (.invokevirtual 63, 3) := by decide +kernel
theorem dX1_ownerOn_9 : decode cX1_ownerOn 9 = .ok (.invokevirtual 67, 3) := by decide +kernel
theorem dX1_ownerOn_12 : decode cX1_ownerOn 12 = .ok (.ireturn, 1) := by decide +kernel
theorem dX1_daysSinceOwned_0 : decode cX1_daysSinceOwned 0 = .ok (.aload_n 0, 1) := by decide +kernel
theorem dX1_daysSinceOwned_1 : decode cX1_daysSinceOwned 1 = .ok (.iload_n 2, 1) := by decide +kernel
theorem dX1_daysSinceOwned_2 : decode cX1_daysSinceOwned 2 = .ok (.iload_n 3, 1) := by decide +kernel
theorem dX1_daysSinceOwned_3 : decode cX1_daysSinceOwned 3 = .ok (.iload 4, 2) := by decide +kernel
theorem dX1_daysSinceOwned_5 : decode cX1_daysSinceOwned 5 = .ok (.invokevirtual 70, 3) := by decide +kernel
theorem dX1_daysSinceOwned_8 : decode cX1_daysSinceOwned 8 = .ok (.iload_n 1, 1) := by decide +kernel
theorem dX1_daysSinceOwned_9 : decode cX1_daysSinceOwned 9 = .ok (.if_icmp .ne 5, 3) := by decide +kernel
theorem dX1_daysSinceOwned_12 : decode cX1_daysSinceOwned 12 = .ok (.iconst (-1), 1) := by decide +kernel
theorem dX1_daysSinceOwned_13 : decode cX1_daysSinceOwned 13 = .ok (.ireturn, 1) := by decide +kernel
theorem dX1_daysSinceOwned_14 : decode cX1_daysSinceOwned 14 = .ok (.iload_n 3, 1) := by decide +kernel
theorem dX1_daysSinceOwned_15 : decode cX1_daysSinceOwned 15 = .ok (.iconst 1, 1) := by decide +kernel
theorem dX1_daysSinceOwned_16 : decode cX1_daysSinceOwned 16 = .ok (.isub, 1) := by decide +kernel
theorem dX1_daysSinceOwned_17 : decode cX1_daysSinceOwned 17 = .ok (.istore 5, 2) := by decide +kernel
theorem dX1_daysSinceOwned_19 : decode cX1_daysSinceOwned 19 = .ok (.iconst 0, 1) := by decide +kernel
theorem dX1_daysSinceOwned_20 : decode cX1_daysSinceOwned 20 = .ok (.istore 6, 2) := by decide +kernel
theorem dX1_daysSinceOwned_22 : decode cX1_daysSinceOwned 22 = .ok (.iload 6, 2) := by decide +kernel
theorem dX1_daysSinceOwned_24 : decode cX1_daysSinceOwned 24 = .ok (.sipush 200, 3) := by decide +kernel
theorem dX1_daysSinceOwned_27 : decode cX1_daysSinceOwned 27 = .ok (.if_icmp .gt 71, 3) := by decide +kernel
theorem dX1_daysSinceOwned_30 : decode cX1_daysSinceOwned 30 = .ok (.iload 5, 2) := by decide +kernel
theorem dX1_daysSinceOwned_32 : decode cX1_daysSinceOwned 32 = .ok (.ifCond .lt 66, 3) := by decide +kernel
theorem dX1_daysSinceOwned_35 : decode cX1_daysSinceOwned 35 = .ok (.aload_n 0, 1) := by decide +kernel
theorem dX1_daysSinceOwned_36 : decode cX1_daysSinceOwned 36 = .ok (.iload_n 2, 1) := by decide +kernel
theorem dX1_daysSinceOwned_37 : decode cX1_daysSinceOwned 37 = .ok (.iload 5, 2) := by decide +kernel
theorem dX1_daysSinceOwned_39 : decode cX1_daysSinceOwned 39 = .ok (.iload 4, 2) := by decide +kernel
theorem dX1_daysSinceOwned_41 : decode cX1_daysSinceOwned 41 = .ok (.invokevirtual 63, 3) := by decide +kernel
theorem dX1_daysSinceOwned_44 : decode cX1_daysSinceOwned 44 = .ok (.istore 7, 2) := by decide +kernel
theorem dX1_daysSinceOwned_46 : decode cX1_daysSinceOwned 46 = .ok (.aload_n 0, 1) := by decide +kernel
theorem dX1_daysSinceOwned_47 : decode cX1_daysSinceOwned 47 = .ok (.iload_n 2, 1) := by decide +kernel
theorem dX1_daysSinceOwned_48 : decode cX1_daysSinceOwned 48 = .ok (.iload 7, 2) := by decide +kernel
theorem dX1_daysSinceOwned_50 : decode cX1_daysSinceOwned 50 = .ok (.invokevirtual 67, 3) := by decide +kernel
theorem dX1_daysSinceOwned_53 : decode cX1_daysSinceOwned 53 = .ok (.iload_n 1, 1) := by decide +kernel
theorem dX1_daysSinceOwned_54 : decode cX1_daysSinceOwned 54 = .ok (.if_icmp .ne 8, 3) := by decide +kernel
theorem dX1_daysSinceOwned_57 : decode cX1_daysSinceOwned 57 = .ok (.iload_n 3, 1) := by decide +kernel
theorem dX1_daysSinceOwned_58 : decode cX1_daysSinceOwned 58 = .ok (.iload 5, 2) := by decide +kernel
theorem dX1_daysSinceOwned_60 : decode cX1_daysSinceOwned 60 = .ok (.isub, 1) := by decide +kernel
theorem dX1_daysSinceOwned_61 : decode cX1_daysSinceOwned 61 = .ok (.ireturn, 1) := by decide +kernel
theorem dX1_daysSinceOwned_62 : decode cX1_daysSinceOwned 62 = .ok (.iload 7, 2) := by decide +kernel
theorem dX1_daysSinceOwned_64 : decode cX1_daysSinceOwned 64 = .ok (.iconst 0, 1) := by decide +kernel
theorem dX1_daysSinceOwned_65 : decode cX1_daysSinceOwned 65 = .ok (.aload_n 0, 1) := by decide +kernel
theorem dX1_daysSinceOwned_66 : decode cX1_daysSinceOwned 66 = .ok (.getfield 27, 3) := by decide +kernel
theorem dX1_daysSinceOwned_69 : decode cX1_daysSinceOwned 69 = .ok (.iconst 1, 1) := by decide +kernel
theorem dX1_daysSinceOwned_70 : decode cX1_daysSinceOwned 70 = .ok (.isub, 1) := by decide +kernel
theorem dX1_daysSinceOwned_71 : decode cX1_daysSinceOwned 71 = .ok (.invokestatic 35, 3) := by decide +kernel
theorem dX1_daysSinceOwned_74 : decode cX1_daysSinceOwned 74 = .ok (.ifCond .eq 15, 3) := by decide +kernel
theorem dX1_daysSinceOwned_77 : decode cX1_daysSinceOwned 77 = .ok (.aload_n 0, 1) := by decide +kernel
theorem dX1_daysSinceOwned_78 : decode cX1_daysSinceOwned 78 = .ok (.getfield 24, 3) := by decide +kernel
theorem dX1_daysSinceOwned_81 : decode cX1_daysSinceOwned 81 = .ok (.iload 7, 2) := by decide +kernel
theorem dX1_daysSinceOwned_83 : decode cX1_daysSinceOwned 83 = .ok (.iaload, 1) := by decide +kernel
theorem dX1_daysSinceOwned_84 : decode cX1_daysSinceOwned 84 = .ok (.iconst 1, 1) := by decide +kernel
theorem dX1_daysSinceOwned_85 : decode cX1_daysSinceOwned 85 = .ok (.isub, 1) := by decide +kernel
theorem dX1_daysSinceOwned_86 : decode cX1_daysSinceOwned 86 = .ok (.goto 4, 3) := by decide +kernel
theorem dX1_daysSinceOwned_89 : decode cX1_daysSinceOwned 89 = .ok (.iconst (-1), 1) := by decide +kernel
theorem dX1_daysSinceOwned_90 : decode cX1_daysSinceOwned 90 = .ok (.istore 5, 2) := by decide +kernel
theorem dX1_daysSinceOwned_92 : decode cX1_daysSinceOwned 92 = .ok (.iinc 6 1, 3) := by decide +kernel
theorem dX1_daysSinceOwned_95 : decode cX1_daysSinceOwned 95 = .ok (.goto (-73), 3) := by decide +kernel
theorem dX1_daysSinceOwned_98 : decode cX1_daysSinceOwned 98 = .ok (.iconst (-1), 1) := by decide +kernel
theorem dX1_daysSinceOwned_99 : decode cX1_daysSinceOwned 99 = .ok (.ireturn, 1) := by decide +kernel
theorem dX2_init_0 : decode cX2_init 0 = .ok (.aload_n 0, 1) := by decide +kernel
theorem dX2_init_1 : decode cX2_init 1 = .ok (.invokespecial 3, 3) := by decide +kernel
theorem dX2_init_4 : decode cX2_init 4 = .ok (.aload_n 0, 1) := by decide +kernel
theorem dX2_init_5 : decode cX2_init 5 = .ok (.bipush 12, 2) := by decide +kernel
theorem dX2_init_7 : decode cX2_init 7 = .ok (.newarray .int, 2) := by decide +kernel
theorem dX2_init_9 : decode cX2_init 9 = .ok (.putfield 9, 3) := by decide +kernel
theorem dX2_init_12 : decode cX2_init 12 = .ok (.aload_n 0, 1) := by decide +kernel
theorem dX2_init_13 : decode cX2_init 13 = .ok (.bipush 12, 2) := by decide +kernel
theorem dX2_init_15 : decode cX2_init 15 = .ok (.newarray .int, 2) := by decide +kernel
theorem dX2_init_17 : decode cX2_init 17 = .ok (.putfield 15, 3) := by decide +kernel
theorem dX2_init_20 : decode cX2_init 20 = .ok (.aload_n 0, 1) := by decide +kernel
theorem dX2_init_21 : decode cX2_init 21 = .ok (.bipush 6, 2) := by decide +kernel
theorem dX2_init_23 : decode cX2_init 23 = .ok (.newarray .int, 2) := by decide +kernel
theorem dX2_init_25 : decode cX2_init 25 = .ok (.putfield 18, 3) := by decide +kernel
theorem dX2_init_28 : decode cX2_init 28 = .ok (.aload_n 0, 1) := by decide +kernel
theorem dX2_init_29 : decode cX2_init 29 = .ok (.bipush 6, 2) := by decide +kernel
theorem dX2_init_31 : decode cX2_init 31 = .ok (.newarray .int, 2) := by decide +kernel
theorem dX2_init_33 : decode cX2_init 33 = .ok (.putfield 21, 3) := by decide +kernel
theorem dX2_init_36 : decode cX2_init 36 = .ok (.aload_n 0, 1) := by decide +kernel
theorem dX2_init_37 : decode cX2_init 37 = .ok (.bipush 6, 2) := by decide +kernel
theorem dX2_init_39 : decode cX2_init 39 = .ok (.newarray .int, 2) := by decide +kernel
theorem dX2_init_41 : decode cX2_init 41 = .ok (.putfield 24, 3) := by decide +kernel
theorem dX2_init_44 : decode cX2_init 44 = .ok (.aload_n 0, 1) := by decide +kernel
theorem dX2_init_45 : decode cX2_init 45 = .ok (.bipush 6, 2) := by decide +kernel
theorem dX2_init_47 : decode cX2_init 47 = .ok (.newarray .int, 2) := by decide +kernel
theorem dX2_init_49 : decode cX2_init 49 = .ok (.putfield 27, 3) := by decide +kernel
theorem dX2_init_52 : decode cX2_init 52 = .ok (.aload_n 0, 1) := by decide +kernel
theorem dX2_init_53 : decode cX2_init 53 = .ok (.bipush 20, 2) := by decide +kernel
theorem dX2_init_55 : decode cX2_init 55 = .ok (.newarray .int, 2) := by decide +kernel
theorem dX2_init_57 : decode cX2_init 57 = .ok (.putfield 30, 3) := by decide +kernel
theorem dX2_init_60 : decode cX2_init 60 = .ok (.aload_n 0, 1) := by decide +kernel
theorem dX2_init_61 : decode cX2_init 61 = .ok (.bipush 20, 2) := by decide +kernel
theorem dX2_init_63 : decode cX2_init 63 = .ok (.newarray .int, 2) := by decide +kernel
theorem dX2_init_65 : decode cX2_init 65 = .ok (.putfield 33, 3) := by decide +kernel
theorem dX2_init_68 : decode cX2_init 68 = .ok (.aload_n 0, 1) := by decide +kernel
theorem dX2_init_69 : decode cX2_init 69 = .ok (.bipush 20, 2) := by decide +kernel
theorem dX2_init_71 : decode cX2_init 71 = .ok (.newarray .int, 2) := by decide +kernel
theorem dX2_init_73 : decode cX2_init 73 = .ok (.putfield 36, 3) := by decide +kernel
theorem dX2_init_76 : decode cX2_init 76 = .ok (.aload_n 0, 1) := by decide +kernel
theorem dX2_init_77 : decode cX2_init 77 = .ok (.bipush 20, 2) := by decide +kernel
theorem dX2_init_79 : decode cX2_init 79 = .ok (.newarray .int, 2) := by decide +kernel
theorem dX2_init_81 : decode cX2_init 81 = .ok (.putfield 39, 3) := by decide +kernel
theorem dX2_init_84 : decode cX2_init 84 = .ok (.aload_n 0, 1) := by decide +kernel
theorem dX2_init_85 : decode cX2_init 85 = .ok (.bipush 20, 2) := by decide +kernel
theorem dX2_init_87 : decode cX2_init 87 = .ok (.newarray .int, 2) := by decide +kernel
theorem dX2_init_89 : decode cX2_init 89 = .ok (.putfield 42, 3) := by decide +kernel
theorem dX2_init_92 : decode cX2_init 92 = .ok (.aload_n 0, 1) := by decide +kernel
theorem dX2_init_93 : decode cX2_init 93 = .ok (.iconst 0, 1) := by decide +kernel
theorem dX2_init_94 : decode cX2_init 94 = .ok (.putfield 45, 3) := by decide +kernel
theorem dX2_init_97 : decode cX2_init 97 = .ok (.aload_n 0, 1) := by decide +kernel
theorem dX2_init_98 : decode cX2_init 98 = .ok (.iconst 0, 1) := by decide +kernel
theorem dX2_init_99 : decode cX2_init 99 = .ok (.putfield 49, 3) := by decide +kernel
theorem dX2_init_102 : decode cX2_init 102 = .ok (.return_, 1) := by decide +kernel
theorem dX2_areKin_0 : decode cX2_areKin 0 = .ok (.iload_n 1, 1) := by decide +kernel
theorem dX2_areKin_1 : decode cX2_areKin 1 = .ok (.invokestatic 52, 3) := by decide +kernel
theorem dX2_areKin_4 : decode cX2_areKin 4 = .ok (.ifCond .eq 28, 3) := by decide +kernel
theorem dX2_areKin_7 : decode cX2_areKin 7 = .ok (.iload_n 2, 1) := by decide +kernel
theorem dX2_areKin_8 : decode cX2_areKin 8 = .ok (.invokestatic 52, 3) := by decide +kernel
theorem dX2_areKin_11 : decode cX2_areKin 11 = .ok (.ifCond .eq 21, 3) := by decide +kernel
theorem dX2_areKin_14 : decode cX2_areKin 14 = .ok (.aload_n 0, 1) := by decide +kernel
theorem dX2_areKin_15 : decode cX2_areKin 15 = .ok (.getfield 9, 3) := by decide +kernel
theorem dX2_areKin_18 : decode cX2_areKin 18 = .ok (.iload_n 1, 1) := by decide +kernel
theorem dX2_areKin_19 : decode cX2_areKin 19 = .ok (.iaload, 1) := by decide +kernel
theorem dX2_areKin_20 : decode cX2_areKin 20 = .ok (.iload_n 2, 1) := by decide +kernel
theorem dX2_areKin_21 : decode cX2_areKin 21 = .ok (.ishr, 1) := by decide +kernel
theorem dX2_areKin_22 : decode cX2_areKin 22 = .ok (.iconst 1, 1) := by decide +kernel
theorem dX2_areKin_23 : decode cX2_areKin 23 = .ok (.iand, 1) := by decide +kernel
theorem dX2_areKin_24 : decode cX2_areKin 24 = .ok (.iconst 1, 1) := by decide +kernel
theorem dX2_areKin_25 : decode cX2_areKin 25 = .ok (.if_icmp .ne 7, 3) := by decide +kernel
theorem dX2_areKin_28 : decode cX2_areKin 28 = .ok (.iconst 1, 1) := by decide +kernel
theorem dX2_areKin_29 : decode cX2_areKin 29 = .ok (.goto 4, 3) := by decide +kernel
theorem dX2_areKin_32 : decode cX2_areKin 32 = .ok (.iconst 0, 1) := by decide +kernel
theorem dX2_areKin_33 : decode cX2_areKin 33 = .ok (.ireturn, 1) := by decide +kernel
theorem dX2_makeKin_0 : decode cX2_makeKin 0 = .ok (.iload_n 1, 1) := by decide +kernel
theorem dX2_makeKin_1 : decode cX2_makeKin 1 = .ok (.invokestatic 52, 3) := by decide +kernel
theorem dX2_makeKin_4 : decode cX2_makeKin 4 = .ok (.ifCond .eq 34, 3) := by decide +kernel
theorem dX2_makeKin_7 : decode cX2_makeKin 7 = .ok (.iload_n 2, 1) := by decide +kernel
theorem dX2_makeKin_8 : decode cX2_makeKin 8 = .ok (.invokestatic 52, 3) := by decide +kernel
theorem dX2_makeKin_11 : decode cX2_makeKin 11 = .ok (.ifCond .eq 27, 3) := by decide +kernel
theorem dX2_makeKin_14 : decode cX2_makeKin 14 = .ok (.aload_n 0, 1) := by decide +kernel
theorem dX2_makeKin_15 : decode cX2_makeKin 15 = .ok (.getfield 9, 3) := by decide +kernel
theorem dX2_makeKin_18 : decode cX2_makeKin 18 = .ok (.iload_n 1, 1) := by decide +kernel
theorem dX2_makeKin_19 : decode cX2_makeKin 19 = .ok (.dup2, 1) := by decide +kernel
theorem dX2_makeKin_20 : decode cX2_makeKin 20 = .ok (.iaload, 1) := by decide +kernel
theorem dX2_makeKin_21 : decode cX2_makeKin 21 = .ok (.iconst 1, 1) := by decide +kernel
theorem dX2_makeKin_22 : decode cX2_makeKin 22 = .ok (.iload_n 2, 1) := by decide +kernel
theorem dX2_makeKin_23 : decode cX2_makeKin 23 = .ok (.ishl, 1) := by decide +kernel
theorem dX2_makeKin_24 : decode cX2_makeKin 24 = .ok (.ior, 1) := by decide +kernel
theorem dX2_makeKin_25 : decode cX2_makeKin 25 = .ok (.iastore, 1) := by decide +kernel
theorem dX2_makeKin_26 : decode cX2_makeKin 26 = .ok (.aload_n 0, 1) := by decide +kernel
theorem dX2_makeKin_27 : decode cX2_makeKin 27 = .ok (.getfield 9, 3) := by decide +kernel
theorem dX2_makeKin_30 : decode cX2_makeKin 30 = .ok (.iload_n 2, 1) := by decide +kernel
theorem dX2_makeKin_31 : decode cX2_makeKin 31 = .ok (.dup2, 1) := by decide +kernel
theorem dX2_makeKin_32 : decode cX2_makeKin 32 = .ok (.iaload, 1) := by decide +kernel
theorem dX2_makeKin_33 : decode cX2_makeKin 33 = .ok (.iconst 1, 1) := by decide +kernel
theorem dX2_makeKin_34 : decode cX2_makeKin 34 = .ok (.iload_n 1, 1) := by decide +kernel
theorem dX2_makeKin_35 : decode cX2_makeKin 35 = .ok (.ishl, 1) := by decide +kernel
theorem dX2_makeKin_36 : decode cX2_makeKin 36 = .ok (.ior, 1) := by decide +kernel
theorem dX2_makeKin_37 : decode cX2_makeKin 37 = .ok (.iastore, 1) := by decide +kernel
theorem dX2_makeKin_38 : decode cX2_makeKin 38 = .ok (.return_, 1) := by decide +kernel
theorem dX2_addBreed_0 : decode cX2_addBreed 0 = .ok (.aload_n 0, 1) := by decide +kernel
theorem dX2_addBreed_1 : decode cX2_addBreed 1 = .ok (.getfield 45, 3) := by decide +kernel
theorem dX2_addBreed_4 : decode cX2_addBreed 4 = .ok (.bipush 6, 2) := by decide +kernel
theorem dX2_addBreed_6 : decode cX2_addBreed 6 = .ok (.if_icmp .lt 5, 3) := by decide +kernel
theorem dX2_addBreed_9 : decode cX2_addBreed 9 = .ok (.iconst (-1), 1) := by decide +kernel
theorem dX2_addBreed_10 : decode cX2_addBreed 10 = .ok (.ireturn, 1) := by decide +kernel
theorem dX2_addBreed_11 : decode cX2_addBreed 11 = .ok (.aload_n 0, 1) := by decide +kernel
theorem dX2_addBreed_12 : decode cX2_addBreed 12 = .ok (.getfield 18, 3) := by decide +kernel
theorem dX2_addBreed_15 : decode cX2_addBreed 15 = .ok (.aload_n 0, 1) := by decide +kernel
theorem dX2_addBreed_16 : decode cX2_addBreed 16 = .ok (.getfield 45, 3) := by decide +kernel
theorem dX2_addBreed_19 : decode cX2_addBreed 19 = .ok (.iload_n 1, 1) := by decide +kernel
theorem dX2_addBreed_20 : decode cX2_addBreed 20 = .ok (.iastore, 1) := by decide +kernel
theorem dX2_addBreed_21 : decode cX2_addBreed 21 = .ok (.aload_n 0, 1) := by decide +kernel
theorem dX2_addBreed_22 : decode cX2_addBreed 22 = .ok (.getfield 21, 3) := by decide +kernel
theorem dX2_addBreed_25 : decode cX2_addBreed 25 = .ok (.aload_n 0, 1) := by decide +kernel
theorem dX2_addBreed_26 : decode cX2_addBreed 26 = .ok (.getfield 45, 3) := by decide +kernel
theorem dX2_addBreed_29 : decode cX2_addBreed 29 = .ok (.iload_n 2, 1) := by decide +kernel
theorem dX2_addBreed_30 : decode cX2_addBreed 30 = .ok (.iastore, 1) := by decide +kernel
theorem dX2_addBreed_31 : decode cX2_addBreed 31 = .ok (.aload_n 0, 1) := by decide +kernel
theorem dX2_addBreed_32 : decode cX2_addBreed 32 = .ok (.getfield 24, 3) := by decide +kernel
theorem dX2_addBreed_35 : decode cX2_addBreed 35 = .ok (.aload_n 0, 1) := by decide +kernel
theorem dX2_addBreed_36 : decode cX2_addBreed 36 = .ok (.getfield 45, 3) := by decide +kernel
theorem dX2_addBreed_39 : decode cX2_addBreed 39 = .ok (.iload_n 3, 1) := by decide +kernel
theorem dX2_addBreed_40 : decode cX2_addBreed 40 = .ok (.iastore, 1) := by decide +kernel
theorem dX2_addBreed_41 : decode cX2_addBreed 41 = .ok (.aload_n 0, 1) := by decide +kernel
theorem dX2_addBreed_42 : decode cX2_addBreed 42 = .ok (.getfield 27, 3) := by decide +kernel
theorem dX2_addBreed_45 : decode cX2_addBreed 45 = .ok (.aload_n 0, 1) := by decide +kernel
theorem dX2_addBreed_46 : decode cX2_addBreed 46 = .ok (.getfield 45, 3) := by decide +kernel
theorem dX2_addBreed_49 : decode cX2_addBreed 49 = .ok (.iload 4, 2) := by decide +kernel
theorem dX2_addBreed_51 : decode cX2_addBreed 51 = .ok (.iastore, 1) := by decide +kernel
theorem dX2_addBreed_52 : decode cX2_addBreed 52 = .ok (.aload_n 0, 1) := by decide +kernel
theorem dX2_addBreed_53 : decode cX2_addBreed 53 = .ok (.dup, 1) := by decide +kernel
theorem dX2_addBreed_54 : decode cX2_addBreed 54 = .ok (.getfield 45, 3) := by decide +kernel
theorem dX2_addBreed_57 : decode cX2_addBreed 57 = .ok (.iconst 1, 1) := by decide +kernel
theorem dX2_addBreed_58 : decode cX2_addBreed 58 = .ok (.iadd, 1) := by decide +kernel
theorem dX2_addBreed_59 : decode cX2_addBreed 59 = .ok (.putfield 45, 3) := by decide +kernel
theorem dX2_addBreed_62 : decode cX2_addBreed 62 = .ok (.aload_n 0, 1) := by decide +kernel
theorem dX2_addBreed_63 : decode cX2_addBreed 63 = .ok (.getfield 45, 3) := by decide +kernel
theorem dX2_addBreed_66 : decode cX2_addBreed 66 = .ok (.iconst 1, 1) := by decide +kernel
theorem dX2_addBreed_67 : decode cX2_addBreed 67 = .ok (.isub, 1) := by decide +kernel
theorem dX2_addBreed_68 : decode cX2_addBreed 68 = .ok (.ireturn, 1) := by decide +kernel
theorem dX2_addDog_0 : decode cX2_addDog 0 = .ok (.aload_n 0, 1) := by decide +kernel
theorem dX2_addDog_1 : decode cX2_addDog 1 = .ok (.getfield 49, 3) := by decide +kernel
theorem dX2_addDog_4 : decode cX2_addDog 4 = .ok (.bipush 20, 2) := by decide +kernel
theorem dX2_addDog_6 : decode cX2_addDog 6 = .ok (.if_icmp .lt 5, 3) := by decide +kernel
theorem dX2_addDog_9 : decode cX2_addDog 9 = .ok (.iconst (-1), 1) := by decide +kernel
theorem dX2_addDog_10 : decode cX2_addDog 10 = .ok (.ireturn, 1) := by decide +kernel
theorem dX2_addDog_11 : decode cX2_addDog 11 = .ok (.aload_n 0, 1) := by decide +kernel
theorem dX2_addDog_12 : decode cX2_addDog 12 = .ok (.getfield 30, 3) := by decide +kernel
theorem dX2_addDog_15 : decode cX2_addDog 15 = .ok (.aload_n 0, 1) := by decide +kernel
theorem dX2_addDog_16 : decode cX2_addDog 16 = .ok (.getfield 49, 3) := by decide +kernel
theorem dX2_addDog_19 : decode cX2_addDog 19 = .ok (.iload_n 1, 1) := by decide +kernel
theorem dX2_addDog_20 : decode cX2_addDog 20 = .ok (.iastore, 1) := by decide +kernel
theorem dX2_addDog_21 : decode cX2_addDog 21 = .ok (.aload_n 0, 1) := by decide +kernel
theorem dX2_addDog_22 : decode cX2_addDog 22 = .ok (.getfield 33, 3) := by decide +kernel
theorem dX2_addDog_25 : decode cX2_addDog 25 = .ok (.aload_n 0, 1) := by decide +kernel
theorem dX2_addDog_26 : decode cX2_addDog 26 = .ok (.getfield 49, 3) := by decide +kernel
theorem dX2_addDog_29 : decode cX2_addDog 29 = .ok (.iload_n 2, 1) := by decide +kernel
theorem dX2_addDog_30 : decode cX2_addDog 30 = .ok (.iastore, 1) := by decide +kernel
theorem dX2_addDog_31 : decode cX2_addDog 31 = .ok (.aload_n 0, 1) := by decide +kernel
theorem dX2_addDog_32 : decode cX2_addDog 32 = .ok (.getfield 36, 3) := by decide +kernel
theorem dX2_addDog_35 : decode cX2_addDog 35 = .ok (.aload_n 0, 1) := by decide +kernel
theorem dX2_addDog_36 : decode cX2_addDog 36 = .ok (.getfield 49, 3) := by decide +kernel
theorem dX2_addDog_39 : decode cX2_addDog 39 = .ok (.iload_n 3, 1) := by decide +kernel
theorem dX2_addDog_40 : decode cX2_addDog 40 = .ok (.iastore, 1) := by decide +kernel
theorem dX2_addDog_41 : decode cX2_addDog 41 = .ok (.aload_n 0, 1) := by decide +kernel
theorem dX2_addDog_42 : decode cX2_addDog 42 = .ok (.getfield 39, 3) := by decide +kernel
theorem dX2_addDog_45 : decode cX2_addDog 45 = .ok (.aload_n 0, 1) := by decide +kernel
theorem dX2_addDog_46 : decode cX2_addDog 46 = .ok (.getfield 49, 3) := by decide +kernel
theorem dX2_addDog_49 : decode cX2_addDog 49 = .ok (.iload 4, 2) := by decide +kernel
theorem dX2_addDog_51 : decode cX2_addDog 51 = .ok (.iastore, 1) := by decide +kernel
theorem dX2_addDog_52 : decode cX2_addDog 52 = .ok (.aload_n 0, 1) := by decide +kernel
theorem dX2_addDog_53 : decode cX2_addDog 53 = .ok (.getfield 42, 3) := by decide +kernel
theorem dX2_addDog_56 : decode cX2_addDog 56 = .ok (.aload_n 0, 1) := by decide +kernel
theorem dX2_addDog_57 : decode cX2_addDog 57 = .ok (.getfield 49, 3) := by decide +kernel
theorem dX2_addDog_60 : decode cX2_addDog 60 = .ok (.iload 5, 2) := by decide +kernel
theorem dX2_addDog_62 : decode cX2_addDog 62 = .ok (.iastore, 1) := by decide +kernel
theorem dX2_addDog_63 : decode cX2_addDog 63 = .ok (.aload_n 0, 1) := by decide +kernel
theorem dX2_addDog_64 : decode cX2_addDog 64 = .ok (.dup, 1) := by decide +kernel
theorem dX2_addDog_65 : decode cX2_addDog 65 = .ok (.getfield 49, 3) := by decide +kernel
theorem dX2_addDog_68 : decode cX2_addDog 68 = .ok (.iconst 1, 1) := by decide +kernel
theorem dX2_addDog_69 : decode cX2_addDog 69 = .ok (.iadd, 1) := by decide +kernel
theorem dX2_addDog_70 : decode cX2_addDog 70 = .ok (.putfield 49, 3) := by decide +kernel
theorem dX2_addDog_73 : decode cX2_addDog 73 = .ok (.aload_n 0, 1) := by decide +kernel
theorem dX2_addDog_74 : decode cX2_addDog 74 = .ok (.getfield 49, 3) := by decide +kernel
theorem dX2_addDog_77 : decode cX2_addDog 77 = .ok (.iconst 1, 1) := by decide +kernel
theorem dX2_addDog_78 : decode cX2_addDog 78 = .ok (.isub, 1) := by decide +kernel
theorem dX2_addDog_79 : decode cX2_addDog 79 = .ok (.ireturn, 1) := by decide +kernel
theorem dX2_ofBreed_0 : decode cX2_ofBreed 0 = .ok (.iconst 0, 1) := by decide +kernel
theorem dX2_ofBreed_1 : decode cX2_ofBreed 1 = .ok (.istore_n 3, 1) := by decide +kernel
theorem dX2_ofBreed_2 : decode cX2_ofBreed 2 = .ok (.iconst 0, 1) := by decide +kernel
theorem dX2_ofBreed_3 : decode cX2_ofBreed 3 = .ok (.istore 4, 2) := by decide +kernel
theorem dX2_ofBreed_5 : decode cX2_ofBreed 5 = .ok (.iload 4, 2) := by decide +kernel
theorem dX2_ofBreed_7 : decode cX2_ofBreed 7 = .ok (.aload_n 0, 1) := by decide +kernel
theorem dX2_ofBreed_8 : decode cX2_ofBreed 8 = .ok (.getfield 49, 3) := by decide +kernel
theorem dX2_ofBreed_11 : decode cX2_ofBreed 11 = .ok (.if_icmp .ge 29, 3) := by decide +kernel
theorem dX2_ofBreed_14 : decode cX2_ofBreed 14 = .ok (.aload_n 0, 1) := by decide +kernel
theorem dX2_ofBreed_15 : decode cX2_ofBreed 15 = .ok (.getfield 30, 3) := by decide +kernel
theorem dX2_ofBreed_18 : decode cX2_ofBreed 18 = .ok (.iload 4, 2) := by decide +kernel
theorem dX2_ofBreed_20 : decode cX2_ofBreed 20 = .ok (.iaload, 1) := by decide +kernel
theorem dX2_ofBreed_21 : decode cX2_ofBreed 21 = .ok (.iload_n 2, 1) := by decide +kernel
theorem dX2_ofBreed_22 : decode cX2_ofBreed 22 = .ok (.if_icmp .ne 12, 3) := by decide +kernel
theorem dX2_ofBreed_25 : decode cX2_ofBreed 25 = .ok (.iload_n 3, 1) := by decide +kernel
theorem dX2_ofBreed_26 : decode cX2_ofBreed 26 = .ok (.iload_n 1, 1) := by decide +kernel
theorem dX2_ofBreed_27 : decode cX2_ofBreed 27 = .ok (.iconst 1, 1) := by decide +kernel
theorem dX2_ofBreed_28 : decode cX2_ofBreed 28 = .ok (.iload 4, 2) := by decide +kernel
theorem dX2_ofBreed_30 : decode cX2_ofBreed 30 = .ok (.ishl, 1) := by decide +kernel
theorem dX2_ofBreed_31 : decode cX2_ofBreed 31 = .ok (.iand, 1) := by decide +kernel
theorem dX2_ofBreed_32 : decode cX2_ofBreed 32 = .ok (.ior, 1) := by decide +kernel
theorem dX2_ofBreed_33 : decode cX2_ofBreed 33 = .ok (.istore_n 3, 1) := by decide +kernel
theorem dX2_ofBreed_34 : decode cX2_ofBreed 34 = .ok (.iinc 4 1, 3) := by decide +kernel
theorem dX2_ofBreed_37 : decode cX2_ofBreed 37 = .ok (.goto (-32), 3) := by decide +kernel
theorem dX2_ofBreed_40 : decode cX2_ofBreed 40 = .ok (.iload_n 3, 1) := by decide +kernel
theorem dX2_ofBreed_41 : decode cX2_ofBreed 41 = .ok (.ireturn, 1) := by decide +kernel
theorem dX2_handlersOf_0 : decode cX2_handlersOf 0 = .ok (.iconst 0, 1) := by decide +kernel
theorem dX2_handlersOf_1 : decode cX2_handlersOf 1 = .ok (.istore_n 2, 1) := by decide +kernel
theorem dX2_handlersOf_2 : decode cX2_handlersOf 2 = .ok (.iconst 0, 1) := by decide +kernel
theorem dX2_handlersOf_3 : decode cX2_handlersOf 3 = .ok (.istore_n 3, 1) := by decide +kernel
theorem dX2_handlersOf_4 : decode cX2_handlersOf 4 = .ok (.iload_n 3, 1) := by decide +kernel
theorem dX2_handlersOf_5 : decode cX2_handlersOf 5 = .ok (.aload_n 0, 1) := by decide +kernel
theorem dX2_handlersOf_6 : decode cX2_handlersOf 6 = .ok (.getfield 49, 3) := by decide +kernel
theorem dX2_handlersOf_9 : decode cX2_handlersOf 9 = .ok (.if_icmp .ge 29, 3) := by decide +kernel
theorem dX2_handlersOf_12 : decode cX2_handlersOf 12 = .ok (.iload_n 1, 1) := by decide +kernel
theorem dX2_handlersOf_13 : decode cX2_handlersOf 13 = .ok (.iload_n 3, 1) := by decide +kernel
theorem dX2_handlersOf_14 : decode cX2_handlersOf 14 = .ok (.ishr, 1) := by decide +kernel
theorem dX2_handlersOf_15 : decode cX2_handlersOf 15 = .ok (.iconst 1, 1) := by decide +kernel
theorem dX2_handlersOf_16 : decode cX2_handlersOf 16 = .ok (.iand, 1) := by decide +kernel
theorem dX2_handlersOf_17 : decode cX2_handlersOf 17 = .ok (.iconst 1, 1) := by decide +kernel
theorem dX2_handlersOf_18 : decode cX2_handlersOf 18 = .ok (.if_icmp .ne 14, 3) := by decide +kernel
theorem dX2_handlersOf_21 : decode cX2_handlersOf 21 = .ok (.iload_n 2, 1) := by decide +kernel
theorem dX2_handlersOf_22 : decode cX2_handlersOf 22 = .ok (.iconst 1, 1) := by decide +kernel
theorem dX2_handlersOf_23 : decode cX2_handlersOf 23 = .ok (.aload_n 0, 1) := by decide +kernel
theorem dX2_handlersOf_24 : decode cX2_handlersOf 24 = .ok (.getfield 42, 3) := by decide +kernel
theorem dX2_handlersOf_27 : decode cX2_handlersOf 27 = .ok (.iload_n 3, 1) := by decide +kernel
theorem dX2_handlersOf_28 : decode cX2_handlersOf 28 = .ok (.iaload, 1) := by decide +kernel
theorem dX2_handlersOf_29 : decode cX2_handlersOf 29 = .ok (.ishl, 1) := by decide +kernel
theorem dX2_handlersOf_30 : decode cX2_handlersOf 30 = .ok (.ior, 1) := by decide +kernel
theorem dX2_handlersOf_31 : decode cX2_handlersOf 31 = .ok (.istore_n 2, 1) := by decide +kernel
theorem dX2_handlersOf_32 : decode cX2_handlersOf 32 = .ok (.iinc 3 1, 3) := by decide +kernel
theorem dX2_handlersOf_35 : decode cX2_handlersOf 35 = .ok (.goto (-31), 3) := by decide +kernel
theorem dX2_handlersOf_38 : decode cX2_handlersOf 38 = .ok (.iload_n 2, 1) := by decide +kernel
theorem dX2_handlersOf_39 : decode cX2_handlersOf 39 = .ok (.ireturn, 1) := by decide +kernel
theorem dX2_isOfHeight_0 : decode cX2_isOfHeight 0 = .ok (.iload_n 1, 1) := by decide +kernel
theorem dX2_isOfHeight_1 : decode cX2_isOfHeight 1 = .ok (.iconst 0, 1) := by decide +kernel
theorem dX2_isOfHeight_2 : decode cX2_isOfHeight 2 = .ok (.aload_n 0, 1) := by decide +kernel
theorem dX2_isOfHeight_3 : decode cX2_isOfHeight 3 = .ok (.getfield 45, 3) := by decide +kernel
theorem dX2_isOfHeight_6 : decode cX2_isOfHeight 6 = .ok (.iconst 1, 1) := by decide +kernel
theorem dX2_isOfHeight_7 : decode cX2_isOfHeight 7 = .ok (.isub, 1) := by decide +kernel
theorem dX2_isOfHeight_8 : decode cX2_isOfHeight 8 = .ok (.invokestatic 56, 3) := by decide +kernel
theorem dX2_isOfHeight_11 : decode cX2_isOfHeight 11 = .ok (.ifCond .eq 26, 3) := by decide +kernel
theorem dX2_isOfHeight_14 : decode cX2_isOfHeight 14 = .ok (.iload_n 2, 1) := by decide +kernel
theorem dX2_isOfHeight_15 : decode cX2_isOfHeight 15 = .ok (.aload_n 0, 1) := by decide +kernel
theorem dX2_isOfHeight_16 : decode cX2_isOfHeight 16 = .ok (.getfield 24, 3) := by decide +kernel
theorem dX2_isOfHeight_19 : decode cX2_isOfHeight 19 = .ok (.iload_n 1, 1) := by decide +kernel
theorem dX2_isOfHeight_20 : decode cX2_isOfHeight 20 = .ok (.iaload, 1) := by decide +kernel
theorem dX2_isOfHeight_21 : decode cX2_isOfHeight 21 = .ok (.aload_n 0, 1) := by decide +kernel
theorem dX2_isOfHeight_22 : decode cX2_isOfHeight 22 = .ok (.getfield 27, 3) := by decide +kernel
theorem dX2_isOfHeight_25 : decode cX2_isOfHeight 25 = .ok (.iload_n 1, 1) := by decide +kernel
theorem dX2_isOfHeight_26 : decode cX2_isOfHeight 26 = .ok (.iaload, 1) := by decide +kernel
theorem dX2_isOfHeight_27 : decode cX2_isOfHeight 27 = .ok (.invokestatic 56, 3) := by decide +kernel
theorem dX2_isOfHeight_30 : decode cX2_isOfHeight 30 = .ok (.ifCond .eq 7, 3) := by decide +kernel
theorem dX2_isOfHeight_33 : decode cX2_isOfHeight 33 = .ok (.iconst 1, 1) := by decide +kernel
theorem dX2_isOfHeight_34 : decode cX2_isOfHeight 34 = .ok (.goto 4, 3) := by decide +kernel
theorem dX2_isOfHeight_37 : decode cX2_isOfHeight 37 = .ok (.iconst 0, 1) := by decide +kernel
theorem dX2_isOfHeight_38 : decode cX2_isOfHeight 38 = .ok (.ireturn, 1) := by decide +kernel
theorem dX3_init_0 : decode cX3_init 0 = .ok (.aload_n 0, 1) := by decide +kernel
theorem dX3_init_1 : decode cX3_init 1 = .ok (.invokespecial 3, 3) := by decide +kernel
theorem dX3_init_4 : decode cX3_init 4 = .ok (.aload_n 0, 1) := by decide +kernel
theorem dX3_init_5 : decode cX3_init 5 = .ok (.iconst 0, 1) := by decide +kernel
theorem dX3_init_6 : decode cX3_init 6 = .ok (.putfield 9, 3) := by decide +kernel
theorem dX3_init_9 : decode cX3_init 9 = .ok (.aload_n 0, 1) := by decide +kernel
theorem dX3_init_10 : decode cX3_init 10 = .ok (.iconst 0, 1) := by decide +kernel
theorem dX3_init_11 : decode cX3_init 11 = .ok (.putfield 15, 3) := by decide +kernel
theorem dX3_init_14 : decode cX3_init 14 = .ok (.aload_n 0, 1) := by decide +kernel
theorem dX3_init_15 : decode cX3_init 15 = .ok (.iconst (-1), 1) := by decide +kernel
theorem dX3_init_16 : decode cX3_init 16 = .ok (.putfield 18, 3) := by decide +kernel
theorem dX3_init_19 : decode cX3_init 19 = .ok (.aload_n 0, 1) := by decide +kernel
theorem dX3_init_20 : decode cX3_init 20 = .ok (.aload_n 1, 1) := by decide +kernel
theorem dX3_init_21 : decode cX3_init 21 = .ok (.putfield 21, 3) := by decide +kernel
theorem dX3_init_24 : decode cX3_init 24 = .ok (.aload_n 0, 1) := by decide +kernel
theorem dX3_init_25 : decode cX3_init 25 = .ok (.aload_n 2, 1) := by decide +kernel
theorem dX3_init_26 : decode cX3_init 26 = .ok (.putfield 25, 3) := by decide +kernel
theorem dX3_init_29 : decode cX3_init 29 = .ok (.return_, 1) := by decide +kernel
theorem dX3_parse_0 : decode cX3_parse 0 = .ok (.aload_n 0, 1) := by decide +kernel
theorem dX3_parse_1 : decode cX3_parse 1 = .ok (.getfield 25, 3) := by decide +kernel
theorem dX3_parse_4 : decode cX3_parse 4 = .ok (.invokevirtual 29, 3) := by decide +kernel
theorem dX3_parse_7 : decode cX3_parse 7 = .ok (.aload_n 0, 1) := by decide +kernel
theorem dX3_parse_8 : decode cX3_parse 8 = .ok (.iconst 0, 1) := by decide +kernel
theorem dX3_parse_9 : decode cX3_parse 9 = .ok (.putfield 9, 3) := by decide +kernel
theorem dX3_parse_12 : decode cX3_parse 12 = .ok (.aload_n 0, 1) := by decide +kernel
theorem dX3_parse_13 : decode cX3_parse 13 = .ok (.iconst 0, 1) := by decide +kernel
theorem dX3_parse_14 : decode cX3_parse 14 = .ok (.putfield 15, 3) := by decide +kernel
theorem dX3_parse_17 : decode cX3_parse 17 = .ok (.aload_n 0, 1) := by decide +kernel
theorem dX3_parse_18 : decode cX3_parse 18 = .ok (.iconst (-1), 1) := by decide +kernel
theorem dX3_parse_19 : decode cX3_parse 19 = .ok (.putfield 18, 3) := by decide +kernel
theorem dX3_parse_22 : decode cX3_parse 22 = .ok (.aload_n 0, 1) := by decide +kernel
theorem dX3_parse_23 : decode cX3_parse 23 = .ok (.getfield 21, 3) := by decide +kernel
theorem dX3_parse_26 : decode cX3_parse 26 = .ok (.invokevirtual 34, 3) := by decide +kernel
theorem dX3_parse_29 : decode cX3_parse 29 = .ok (.iconst 0, 1) := by decide +kernel
theorem dX3_parse_30 : decode cX3_parse 30 = .ok (.istore_n 1, 1) := by decide +kernel
theorem dX3_parse_31 : decode cX3_parse 31 = .ok (.iload_n 1, 1) := by decide +kernel
theorem dX3_parse_32 : decode cX3_parse 32 = .ok (.bipush 16, 2) := by decide +kernel
theorem dX3_parse_34 : decode cX3_parse 34 = .ok (.if_icmp .gt 29, 3) := by decide +kernel
theorem dX3_parse_37 : decode cX3_parse 37 = .ok (.aload_n 0, 1) := by decide +kernel
theorem dX3_parse_38 : decode cX3_parse 38 = .ok (.getfield 15, 3) := by decide +kernel
theorem dX3_parse_41 : decode cX3_parse 41 = .ok (.ifCond .ne 22, 3) := by decide +kernel
theorem dX3_parse_44 : decode cX3_parse 44 = .ok (.aload_n 0, 1) := by decide +kernel
theorem dX3_parse_45 : decode cX3_parse 45 = .ok (.invokevirtual 39, 3) := by decide +kernel
theorem dX3_parse_48 : decode cX3_parse 48 = .ok (.bipush 27, 2) := by decide +kernel
theorem dX3_parse_50 : decode cX3_parse 50 = .ok (.if_icmp .eq 13, 3) := by decide +kernel
theorem dX3_parse_53 : decode cX3_parse 53 = .ok (.aload_n 0, 1) := by decide +kernel
theorem dX3_parse_54 : decode cX3_parse 54 = .ok (.invokevirtual 43, 3) := by decide +kernel
theorem dX3_parse_57 : decode cX3_parse 57 = .ok (.iinc 1 1, 3) := by decide +kernel
theorem dX3_parse_60 : decode cX3_parse 60 = .ok (.goto (-29), 3) := by decide +kernel
theorem dX3_parse_63 : decode cX3_parse 63 = .ok (.return_, 1) := by decide +kernel
theorem dX3_seen_0 : decode cX3_seen 0 = .ok (.aload_n 0, 1) := by decide +kernel
theorem dX3_seen_1 : decode cX3_seen 1 = .ok (.getfield 15, 3) := by decide +kernel
theorem dX3_seen_4 : decode cX3_seen 4 = .ok (.ifCond .ne 24, 3) := by decide +kernel
theorem dX3_seen_7 : decode cX3_seen 7 = .ok (.aload_n 0, 1) := by decide +kernel
theorem dX3_seen_8 : decode cX3_seen 8 = .ok (.getfield 9, 3) := by decide +kernel
theorem dX3_seen_11 : decode cX3_seen 11 = .ok (.ifCond .lt 17, 3) := by decide +kernel
theorem dX3_seen_14 : decode cX3_seen 14 = .ok (.aload_n 0, 1) := by decide +kernel
theorem dX3_seen_15 : decode cX3_seen 15 = .ok (.getfield 9, 3) := by decide +kernel
theorem dX3_seen_18 : decode cX3_seen 18 = .ok (.aload_n 0, 1) := by decide +kernel
theorem dX3_seen_19 : decode cX3_seen 19 = .ok (.getfield 21, 3) := by decide +kernel
theorem dX3_seen_22 : decode cX3_seen 22 = .ok (.getfield 46, 3) := by decide +kernel
theorem dX3_seen_25 : decode cX3_seen 25 = .ok (.if_icmp .lt 8, 3) := by decide +kernel
theorem dX3_seen_28 : decode cX3_seen 28 = .ok (.bipush 28, 2) := by decide +kernel
theorem dX3_seen_30 : decode cX3_seen 30 = .ok (.goto 15, 3) := by decide +kernel
theorem dX3_seen_33 : decode cX3_seen 33 = .ok (.aload_n 0, 1) := by decide +kernel
theorem dX3_seen_34 : decode cX3_seen 34 = .ok (.getfield 21, 3) := by decide +kernel
theorem dX3_seen_37 : decode cX3_seen 37 = .ok (.getfield 49, 3) := by decide +kernel
theorem dX3_seen_40 : decode cX3_seen 40 = .ok (.aload_n 0, 1) := by decide +kernel
theorem dX3_seen_41 : decode cX3_seen 41 = .ok (.getfield 9, 3) := by decide +kernel
theorem dX3_seen_44 : decode cX3_seen 44 = .ok (.iaload, 1) := by decide +kernel
theorem dX3_seen_45 : decode cX3_seen 45 = .ok (.ireturn, 1) := by decide +kernel
theorem dX3_fail_0 : decode cX3_fail 0 = .ok (.aload_n 0, 1) := by decide +kernel
theorem dX3_fail_1 : decode cX3_fail 1 = .ok (.getfield 15, 3) := by decide +kernel
theorem dX3_fail_4 : decode cX3_fail 4 = .ok (.ifCond .ne 45, 3) := by decide +kernel
theorem dX3_fail_7 : decode cX3_fail 7 = .ok (.aload_n 0, 1) := by decide +kernel
theorem dX3_fail_8 : decode cX3_fail 8 = .ok (.getfield 9, 3) := by decide +kernel
theorem dX3_fail_11 : decode cX3_fail 11 = .ok (.ifCond .lt 38, 3) := by decide +kernel
theorem dX3_fail_14 : decode cX3_fail 14 = .ok (.aload_n 0, 1) := by decide +kernel
theorem dX3_fail_15 : decode cX3_fail 15 = .ok (.getfield 9, 3) := by decide +kernel
theorem dX3_fail_18 : decode cX3_fail 18 = .ok (.aload_n 0, 1) := by decide +kernel
theorem dX3_fail_19 : decode cX3_fail 19 = .ok (.getfield 21, 3) := by decide +kernel
theorem dX3_fail_22 : decode cX3_fail 22 = .ok (.getfield 46, 3) := by decide +kernel
theorem dX3_fail_25 : decode cX3_fail 25 = .ok (.if_icmp .ge 24, 3) := by decide +kernel
theorem dX3_fail_28 : decode cX3_fail 28 = .ok (.aload_n 0, 1) := by decide +kernel
theorem dX3_fail_29 : decode cX3_fail 29 = .ok (.iload_n 1, 1) := by decide +kernel
theorem dX3_fail_30 : decode cX3_fail 30 = .ok (.putfield 15, 3) := by decide +kernel
theorem dX3_fail_33 : decode cX3_fail 33 = .ok (.aload_n 0, 1) := by decide +kernel
theorem dX3_fail_34 : decode cX3_fail 34 = .ok (.aload_n 0, 1) := by decide +kernel
theorem dX3_fail_35 : decode cX3_fail 35 = .ok (.getfield 21, 3) := by decide +kernel
theorem dX3_fail_38 : decode cX3_fail 38 = .ok (.getfield 53, 3) := by decide +kernel
theorem dX3_fail_41 : decode cX3_fail 41 = .ok (.aload_n 0, 1) := by decide +kernel
theorem dX3_fail_42 : decode cX3_fail 42 = .ok (.getfield 9, 3) := by decide +kernel
theorem dX3_fail_45 : decode cX3_fail 45 = .ok (.iaload, 1) := by decide +kernel
theorem dX3_fail_46 : decode cX3_fail 46 = .ok (.putfield 18, 3) := by decide +kernel
theorem dX3_fail_49 : decode cX3_fail 49 = .ok (.return_, 1) := by decide +kernel
theorem dX3_take_0 : decode cX3_take 0 = .ok (.aload_n 0, 1) := by decide +kernel
theorem dX3_take_1 : decode cX3_take 1 = .ok (.invokevirtual 39, 3) := by decide +kernel
theorem dX3_take_4 : decode cX3_take 4 = .ok (.iload_n 1, 1) := by decide +kernel
theorem dX3_take_5 : decode cX3_take 5 = .ok (.if_icmp .eq 11, 3) := by decide +kernel
theorem dX3_take_8 : decode cX3_take 8 = .ok (.aload_n 0, 1) := by decide +kernel
theorem dX3_take_9 : decode cX3_take 9 = .ok (.iconst 1, 1) := by decide +kernel
theorem dX3_take_10 : decode cX3_take 10 = .ok (.invokevirtual 56, 3) := by decide +kernel
theorem dX3_take_13 : decode cX3_take 13 = .ok (.goto 31, 3) := by decide +kernel
theorem dX3_take_16 : decode cX3_take 16 = .ok (.aload_n 0, 1) := by decide +kernel
theorem dX3_take_17 : decode cX3_take 17 = .ok (.getfield 9, 3) := by decide +kernel
theorem dX3_take_20 : decode cX3_take 20 = .ok (.sipush 400, 3) := by decide +kernel
theorem dX3_take_23 : decode cX3_take 23 = .ok (.if_icmp .lt 11, 3) := by decide +kernel
theorem dX3_take_26 : decode cX3_take 26 = .ok (.aload_n 0, 1) := by decide +kernel
theorem dX3_take_27 : decode cX3_take 27 = .ok (.iconst 2, 1) := by decide +kernel
theorem dX3_take_28 : decode cX3_take 28 = .ok (.invokevirtual 56, 3) := by decide +kernel
theorem dX3_take_31 : decode cX3_take 31 = .ok (.goto 13, 3) := by decide +kernel
theorem dX3_take_34 : decode cX3_take 34 = .ok (.aload_n 0, 1) := by decide +kernel
theorem dX3_take_35 : decode cX3_take 35 = .ok (.dup, 1) := by decide +kernel
theorem dX3_take_36 : decode cX3_take 36 = .ok (.getfield 9, 3) := by decide +kernel
theorem dX3_take_39 : decode cX3_take 39 = .ok (.iconst 1, 1) := by decide +kernel
theorem dX3_take_40 : decode cX3_take 40 = .ok (.iadd, 1) := by decide +kernel
theorem dX3_take_41 : decode cX3_take 41 = .ok (.putfield 9, 3) := by decide +kernel
theorem dX3_take_44 : decode cX3_take 44 = .ok (.return_, 1) := by decide +kernel
theorem dX3_takeInt_0 : decode cX3_takeInt 0 = .ok (.aload_n 0, 1) := by decide +kernel
theorem dX3_takeInt_1 : decode cX3_takeInt 1 = .ok (.invokevirtual 39, 3) := by decide +kernel
theorem dX3_takeInt_4 : decode cX3_takeInt 4 = .ok (.bipush 16, 2) := by decide +kernel
theorem dX3_takeInt_6 : decode cX3_takeInt 6 = .ok (.if_icmp .ne 18, 3) := by decide +kernel
theorem dX3_takeInt_9 : decode cX3_takeInt 9 = .ok (.aload_n 0, 1) := by decide +kernel
theorem dX3_takeInt_10 : decode cX3_takeInt 10 = .ok (.getfield 21, 3) := by decide +kernel
theorem dX3_takeInt_13 : decode cX3_takeInt 13 = .ok (.getfield 60, 3) := by decide +kernel
theorem dX3_takeInt_16 : decode cX3_takeInt 16 = .ok (.aload_n 0, 1) := by decide +kernel
theorem dX3_takeInt_17 : decode cX3_takeInt 17 = .ok (.getfield 9, 3) := by decide +kernel
theorem dX3_takeInt_20 : decode cX3_takeInt 20 = .ok (.iaload, 1) := by decide +kernel
theorem dX3_takeInt_21 : decode cX3_takeInt 21 = .ok (.goto 4, 3) := by decide +kernel
theorem dX3_takeInt_24 : decode cX3_takeInt 24 = .ok (.iconst 0, 1) := by decide +kernel
theorem dX3_takeInt_25 : decode cX3_takeInt 25 = .ok (.istore_n 1, 1) := by decide +kernel
theorem dX3_takeInt_26 : decode cX3_takeInt 26 = .ok (.aload_n 0, 1) := by decide +kernel
theorem dX3_takeInt_27 : decode cX3_takeInt 27 = .ok (.bipush 16, 2) := by decide +kernel
theorem dX3_takeInt_29 : decode cX3_takeInt 29 = .ok (.invokevirtual 63, 3) := by decide +kernel
theorem dX3_takeInt_32 : decode cX3_takeInt 32 = .ok (.iload_n 1, 1) := by decide +kernel
theorem dX3_takeInt_33 : decode cX3_takeInt 33 = .ok (.ireturn, 1) := by decide +kernel
theorem dX3_parseRule_0 : decode cX3_parseRule 0 = .ok (.aload_n 0, 1) := by decide +kernel
theorem dX3_parseRule_1 : decode cX3_parseRule 1 = .ok (.invokevirtual 39, 3) := by decide +kernel
theorem dX3_parseRule_4 : decode cX3_parseRule 4 = .ok (.istore_n 1, 1) := by decide +kernel
theorem dX3_parseRule_5 : decode cX3_parseRule 5 = .ok (.iload_n 1, 1) := by decide +kernel
theorem dX3_parseRule_6 : decode cX3_parseRule 6 = .ok (.bipush 9, 2) := by decide +kernel
theorem dX3_parseRule_8 : decode cX3_parseRule 8 = .ok (.if_icmp .eq 26, 3) := by decide +kernel
theorem dX3_parseRule_11 : decode cX3_parseRule 11 = .ok (.iload_n 1, 1) := by decide +kernel
theorem dX3_parseRule_12 : decode cX3_parseRule 12 = .ok (.iconst 4, 1) := by decide +kernel
theorem dX3_parseRule_13 : decode cX3_parseRule 13 = .ok (.if_icmp .eq 21, 3) := by decide +kernel
theorem dX3_parseRule_16 : decode cX3_parseRule 16 = .ok (.iload_n 1, 1) := by decide +kernel
theorem dX3_parseRule_17 : decode cX3_parseRule 17 = .ok (.bipush 11, 2) := by decide +kernel
theorem dX3_parseRule_19 : decode cX3_parseRule 19 = .ok (.if_icmp .eq 15, 3) := by decide +kernel
theorem dX3_parseRule_22 : decode cX3_parseRule 22 = .ok (.iload_n 1, 1) := by decide +kernel
theorem dX3_parseRule_23 : decode cX3_parseRule 23 = .ok (.bipush 12, 2) := by decide +kernel
theorem dX3_parseRule_25 : decode cX3_parseRule 25 = .ok (.if_icmp .eq 9, 3) := by decide +kernel
theorem dX3_parseRule_28 : decode cX3_parseRule 28 = .ok (.aload_n 0, 1) := by decide +kernel
theorem dX3_parseRule_29 : decode cX3_parseRule 29 = .ok (.iconst 1, 1) := by decide +kernel
theorem dX3_parseRule_30 : decode cX3_parseRule 30 = .ok (.invokevirtual 56, 3) := by decide +kernel
theorem dX3_parseRule_33 : decode cX3_parseRule 33 = .ok (.return_, 1) := by decide +kernel
theorem dX3_parseRule_34 : decode cX3_parseRule 34 = .ok (.aload_n 0, 1) := by decide +kernel
theorem dX3_parseRule_35 : decode cX3_parseRule 35 = .ok (.getfield 25, 3) := by decide +kernel
theorem dX3_parseRule_38 : decode cX3_parseRule 38 = .ok (.getfield 66, 3) := by decide +kernel
theorem dX3_parseRule_41 : decode cX3_parseRule 41 = .ok (.bipush 16, 2) := by decide +kernel
theorem dX3_parseRule_43 : decode cX3_parseRule 43 = .ok (.if_icmp .lt 9, 3) := by decide +kernel
theorem dX3_parseRule_46 : decode cX3_parseRule 46 = .ok (.aload_n 0, 1) := by decide +kernel
theorem dX3_parseRule_47 : decode cX3_parseRule 47 = .ok (.iconst 2, 1) := by decide +kernel
theorem dX3_parseRule_48 : decode cX3_parseRule 48 = .ok (.invokevirtual 56, 3) := by decide +kernel
theorem dX3_parseRule_51 : decode cX3_parseRule 51 = .ok (.return_, 1) := by decide +kernel
theorem dX3_parseRule_52 : decode cX3_parseRule 52 = .ok (.aload_n 0, 1) := by decide +kernel
theorem dX3_parseRule_53 : decode cX3_parseRule 53 = .ok (.iload_n 1, 1) := by decide +kernel
theorem dX3_parseRule_54 : decode cX3_parseRule 54 = .ok (.invokevirtual 63, 3) := by decide +kernel
theorem dX3_parseRule_57 : decode cX3_parseRule 57 = .ok (.iload_n 1, 1) := by decide +kernel
theorem dX3_parseRule_58 : decode cX3_parseRule 58 = .ok (.iconst 4, 1) := by decide +kernel
theorem dX3_parseRule_59 : decode cX3_parseRule 59 = .ok (.if_icmp .eq 9, 3) := by decide +kernel
theorem dX3_parseRule_62 : decode cX3_parseRule 62 = .ok (.iload_n 1, 1) := by decide +kernel
theorem dX3_parseRule_63 : decode cX3_parseRule 63 = .ok (.bipush 12, 2) := by decide +kernel
theorem dX3_parseRule_65 : decode cX3_parseRule 65 = .ok (.if_icmp .ne 10, 3) := by decide +kernel
theorem dX3_parseRule_68 : decode cX3_parseRule 68 = .ok (.aload_n 0, 1) := by decide +kernel
theorem dX3_parseRule_69 : decode cX3_parseRule 69 = .ok (.invokevirtual 69, 3) := by decide +kernel
theorem dX3_parseRule_72 : decode cX3_parseRule 72 = .ok (.goto 4, 3) := by decide +kernel
theorem dX3_parseRule_75 : decode cX3_parseRule 75 = .ok (.iconst 0, 1) := by decide +kernel
theorem dX3_parseRule_76 : decode cX3_parseRule 76 = .ok (.istore_n 2, 1) := by decide +kernel
theorem dX3_parseRule_77 : decode cX3_parseRule 77 = .ok (.iconst 0, 1) := by decide +kernel
theorem dX3_parseRule_78 : decode cX3_parseRule 78 = .ok (.istore_n 3, 1) := by decide +kernel
theorem dX3_parseRule_79 : decode cX3_parseRule 79 = .ok (.iload_n 1, 1) := by decide +kernel
theorem dX3_parseRule_80 : decode cX3_parseRule 80 = .ok (.bipush 12, 2) := by decide +kernel
theorem dX3_parseRule_82 : decode cX3_parseRule 82 = .ok (.if_icmp .ne 14, 3) := by decide +kernel
theorem dX3_parseRule_85 : decode cX3_parseRule 85 = .ok (.aload_n 0, 1) := by decide +kernel
theorem dX3_parseRule_86 : decode cX3_parseRule 86 = .ok (.bipush 13, 2) := by decide +kernel
theorem dX3_parseRule_88 : decode cX3_parseRule 88 = .ok (.invokevirtual 63, 3) := by decide +kernel
theorem dX3_parseRule_91 : decode cX3_parseRule 91 = .ok (.aload_n 0, 1) := by decide +kernel
theorem dX3_parseRule_92 : decode cX3_parseRule 92 = .ok (.invokevirtual 69, 3) := by decide +kernel
theorem dX3_parseRule_95 : decode cX3_parseRule 95 = .ok (.istore_n 3, 1) := by decide +kernel
theorem dX3_parseRule_96 : decode cX3_parseRule 96 = .ok (.aload_n 0, 1) := by decide +kernel
theorem dX3_parseRule_97 : decode cX3_parseRule 97 = .ok (.getfield 25, 3) := by decide +kernel
theorem dX3_parseRule_100 : decode cX3_parseRule 100 = .ok (.getfield 72, 3) := by decide +kernel
theorem dX3_parseRule_103 : decode cX3_parseRule 103 = .ok (.istore 4, 2) := by decide +kernel
theorem dX3_parseRule_105 : decode cX3_parseRule 105 = .ok (.iload_n 1, 1) := by decide +kernel
theorem dX3_parseRule_106 : decode cX3_parseRule 106 = .ok (.bipush 11, 2) := by decide +kernel
theorem dX3_parseRule_108 : decode cX3_parseRule 108 = .ok (.if_icmp .ne 9, 3) := by decide +kernel
theorem dX3_parseRule_111 : decode cX3_parseRule 111 = .ok (.aload_n 0, 1) := by decide +kernel
theorem dX3_parseRule_112 : decode cX3_parseRule 112 = .ok (.iconst 3, 1) := by decide +kernel
theorem dX3_parseRule_113 : decode cX3_parseRule 113 = .ok (.iconst 0, 1) := by decide +kernel
theorem dX3_parseRule_114 : decode cX3_parseRule 114 = .ok (.invokevirtual 73, 3) := by decide +kernel
theorem dX3_parseRule_117 : decode cX3_parseRule 117 = .ok (.aload_n 0, 1) := by decide +kernel
theorem dX3_parseRule_118 : decode cX3_parseRule 118 = .ok (.getfield 25, 3) := by decide +kernel
theorem dX3_parseRule_121 : decode cX3_parseRule 121 = .ok (.getfield 72, 3) := by decide +kernel
theorem dX3_parseRule_124 : decode cX3_parseRule 124 = .ok (.istore 5, 2) := by decide +kernel
theorem dX3_parseRule_126 : decode cX3_parseRule 126 = .ok (.iload_n 1, 1) := by decide +kernel
theorem dX3_parseRule_127 : decode cX3_parseRule 127 = .ok (.bipush 9, 2) := by decide +kernel
theorem dX3_parseRule_129 : decode cX3_parseRule 129 = .ok (.if_icmp .eq 23, 3) := by decide +kernel
theorem dX3_parseRule_132 : decode cX3_parseRule 132 = .ok (.iload_n 1, 1) := by decide +kernel
theorem dX3_parseRule_133 : decode cX3_parseRule 133 = .ok (.iconst 4, 1) := by decide +kernel
theorem dX3_parseRule_134 : decode cX3_parseRule 134 = .ok (.if_icmp .eq 18, 3) := by decide +kernel
theorem dX3_parseRule_137 : decode cX3_parseRule 137 = .ok (.iload_n 1, 1) := by decide +kernel
theorem dX3_parseRule_138 : decode cX3_parseRule 138 = .ok (.bipush 11, 2) := by decide +kernel
theorem dX3_parseRule_140 : decode cX3_parseRule 140 = .ok (.if_icmp .ne 24, 3) := by decide +kernel
theorem dX3_parseRule_143 : decode cX3_parseRule 143 = .ok (.aload_n 0, 1) := by decide +kernel
theorem dX3_parseRule_144 : decode cX3_parseRule 144 = .ok (.invokevirtual 39, 3) := by decide +kernel
theorem dX3_parseRule_147 : decode cX3_parseRule 147 = .ok (.bipush 10, 2) := by decide +kernel
theorem dX3_parseRule_149 : decode cX3_parseRule 149 = .ok (.if_icmp .ne 15, 3) := by decide +kernel
theorem dX3_parseRule_152 : decode cX3_parseRule 152 = .ok (.aload_n 0, 1) := by decide +kernel
theorem dX3_parseRule_153 : decode cX3_parseRule 153 = .ok (.bipush 10, 2) := by decide +kernel
theorem dX3_parseRule_155 : decode cX3_parseRule 155 = .ok (.invokevirtual 63, 3) := by decide +kernel
theorem dX3_parseRule_158 : decode cX3_parseRule 158 = .ok (.aload_n 0, 1) := by decide +kernel
theorem dX3_parseRule_159 : decode cX3_parseRule 159 = .ok (.iconst 0, 1) := by decide +kernel
theorem dX3_parseRule_160 : decode cX3_parseRule 160 = .ok (.iconst 0, 1) := by decide +kernel
theorem dX3_parseRule_161 : decode cX3_parseRule 161 = .ok (.invokevirtual 73, 3) := by decide +kernel
theorem dX3_parseRule_164 : decode cX3_parseRule 164 = .ok (.aload_n 0, 1) := by decide +kernel
theorem dX3_parseRule_165 : decode cX3_parseRule 165 = .ok (.bipush 17, 2) := by decide +kernel
theorem dX3_parseRule_167 : decode cX3_parseRule 167 = .ok (.invokevirtual 63, 3) := by decide +kernel
theorem dX3_parseRule_170 : decode cX3_parseRule 170 = .ok (.aload_n 0, 1) := by decide +kernel
theorem dX3_parseRule_171 : decode cX3_parseRule 171 = .ok (.getfield 25, 3) := by decide +kernel
theorem dX3_parseRule_174 : decode cX3_parseRule 174 = .ok (.iload_n 1, 1) := by decide +kernel
theorem dX3_parseRule_175 : decode cX3_parseRule 175 = .ok (.iload_n 2, 1) := by decide +kernel
theorem dX3_parseRule_176 : decode cX3_parseRule 176 = .ok (.iload_n 3, 1) := by decide +kernel
theorem dX3_parseRule_177 : decode cX3_parseRule 177 = .ok (.iload 4, 2) := by decide +kernel
theorem dX3_parseRule_179 : decode cX3_parseRule 179 = .ok (.iload 5, 2) := by decide +kernel
theorem dX3_parseRule_181 : decode cX3_parseRule 181 = .ok (.invokevirtual 77, 3) := by decide +kernel
theorem dX3_parseRule_184 : decode cX3_parseRule 184 = .ok (.return_, 1) := by decide +kernel
theorem dX3_parseLevel_0 : decode cX3_parseLevel 0 = .ok (.iload_n 1, 1) := by decide +kernel
theorem dX3_parseLevel_1 : decode cX3_parseLevel 1 = .ok (.iconst 5, 1) := by decide +kernel
theorem dX3_parseLevel_2 : decode cX3_parseLevel 2 = .ok (.if_icmp .lt 9, 3) := by decide +kernel
theorem dX3_parseLevel_5 : decode cX3_parseLevel 5 = .ok (.aload_n 0, 1) := by decide +kernel
theorem dX3_parseLevel_6 : decode cX3_parseLevel 6 = .ok (.iload_n 2, 1) := by decide +kernel
theorem dX3_parseLevel_7 : decode cX3_parseLevel 7 = .ok (.invokevirtual 81, 3) := by decide +kernel
theorem dX3_parseLevel_10 : decode cX3_parseLevel 10 = .ok (.return_, 1) := by decide +kernel
theorem dX3_parseLevel_11 : decode cX3_parseLevel 11 = .ok (.aload_n 0, 1) := by decide +kernel
theorem dX3_parseLevel_12 : decode cX3_parseLevel 12 = .ok (.iload_n 1, 1) := by decide +kernel
theorem dX3_parseLevel_13 : decode cX3_parseLevel 13 = .ok (.iconst 1, 1) := by decide +kernel
theorem dX3_parseLevel_14 : decode cX3_parseLevel 14 = .ok (.iadd, 1) := by decide +kernel
theorem dX3_parseLevel_15 : decode cX3_parseLevel 15 = .ok (.iload_n 2, 1) := by decide +kernel
theorem dX3_parseLevel_16 : decode cX3_parseLevel 16 = .ok (.invokevirtual 73, 3) := by decide +kernel
theorem dX3_parseLevel_19 : decode cX3_parseLevel 19 = .ok (.iload_n 1, 1) := by decide +kernel
theorem dX3_parseLevel_20 : decode cX3_parseLevel 20 = .ok (.iconst 2, 1) := by decide +kernel
theorem dX3_parseLevel_21 : decode cX3_parseLevel 21 = .ok (.if_icmp .ne 19, 3) := by decide +kernel
theorem dX3_parseLevel_24 : decode cX3_parseLevel 24 = .ok (.iconst 2, 1) := by decide +kernel
theorem dX3_parseLevel_25 : decode cX3_parseLevel 25 = .ok (.aload_n 0, 1) := by decide +kernel
theorem dX3_parseLevel_26 : decode cX3_parseLevel 26 = .ok (.invokevirtual 39, 3) := by decide +kernel
theorem dX3_parseLevel_29 : decode cX3_parseLevel 29 = .ok (.invokestatic 84, 3) := by decide +kernel
theorem dX3_parseLevel_32 : decode cX3_parseLevel 32 = .ok (.ifCond .ne 8, 3) := by decide +kernel
theorem dX3_parseLevel_35 : decode cX3_parseLevel 35 = .ok (.aload_n 0, 1) := by decide +kernel
theorem dX3_parseLevel_36 : decode cX3_parseLevel 36 = .ok (.iconst 1, 1) := by decide +kernel
theorem dX3_parseLevel_37 : decode cX3_parseLevel 37 = .ok (.invokevirtual 56, 3) := by decide +kernel
theorem dX3_parseLevel_40 : decode cX3_parseLevel 40 = .ok (.iload_n 1, 1) := by decide +kernel
theorem dX3_parseLevel_41 : decode cX3_parseLevel 41 = .ok (.iconst 2, 1) := by decide +kernel
theorem dX3_parseLevel_42 : decode cX3_parseLevel 42 = .ok (.if_icmp .ne 7, 3) := by decide +kernel
theorem dX3_parseLevel_45 : decode cX3_parseLevel 45 = .ok (.iconst 1, 1) := by decide +kernel
theorem dX3_parseLevel_46 : decode cX3_parseLevel 46 = .ok (.goto 6, 3) := by decide +kernel
theorem dX3_parseLevel_49 : decode cX3_parseLevel 49 = .ok (.sipush 400, 3) := by decide +kernel
theorem dX3_parseLevel_52 : decode cX3_parseLevel 52 = .ok (.istore_n 3, 1) := by decide +kernel
theorem dX3_parseLevel_53 : decode cX3_parseLevel 53 = .ok (.iconst 0, 1) := by decide +kernel
theorem dX3_parseLevel_54 : decode cX3_parseLevel 54 = .ok (.istore 4, 2) := by decide +kernel
theorem dX3_parseLevel_56 : decode cX3_parseLevel 56 = .ok (.iload 4, 2) := by decide +kernel
theorem dX3_parseLevel_58 : decode cX3_parseLevel 58 = .ok (.iload_n 3, 1) := by decide +kernel
theorem dX3_parseLevel_59 : decode cX3_parseLevel 59 = .ok (.if_icmp .ge 50, 3) := by decide +kernel
theorem dX3_parseLevel_62 : decode cX3_parseLevel 62 = .ok (.iload_n 1, 1) := by decide +kernel
theorem dX3_parseLevel_63 : decode cX3_parseLevel 63 = .ok (.aload_n 0, 1) := by decide +kernel
theorem dX3_parseLevel_64 : decode cX3_parseLevel 64 = .ok (.invokevirtual 39, 3) := by decide +kernel
theorem dX3_parseLevel_67 : decode cX3_parseLevel 67 = .ok (.invokestatic 84, 3) := by decide +kernel
theorem dX3_parseLevel_70 : decode cX3_parseLevel 70 = .ok (.ifCond .eq 39, 3) := by decide +kernel
theorem dX3_parseLevel_73 : decode cX3_parseLevel 73 = .ok (.aload_n 0, 1) := by decide +kernel
theorem dX3_parseLevel_74 : decode cX3_parseLevel 74 = .ok (.invokevirtual 39, 3) := by decide +kernel
theorem dX3_parseLevel_77 : decode cX3_parseLevel 77 = .ok (.istore 5, 2) := by decide +kernel
theorem dX3_parseLevel_79 : decode cX3_parseLevel 79 = .ok (.aload_n 0, 1) := by decide +kernel
theorem dX3_parseLevel_80 : decode cX3_parseLevel 80 = .ok (.iload 5, 2) := by decide +kernel
theorem dX3_parseLevel_82 : decode cX3_parseLevel 82 = .ok (.invokevirtual 63, 3) := by decide +kernel
theorem dX3_parseLevel_85 : decode cX3_parseLevel 85 = .ok (.aload_n 0, 1) := by decide +kernel
theorem dX3_parseLevel_86 : decode cX3_parseLevel 86 = .ok (.iload_n 1, 1) := by decide +kernel
theorem dX3_parseLevel_87 : decode cX3_parseLevel 87 = .ok (.iconst 1, 1) := by decide +kernel
theorem dX3_parseLevel_88 : decode cX3_parseLevel 88 = .ok (.iadd, 1) := by decide +kernel
theorem dX3_parseLevel_89 : decode cX3_parseLevel 89 = .ok (.iload_n 2, 1) := by decide +kernel
theorem dX3_parseLevel_90 : decode cX3_parseLevel 90 = .ok (.invokevirtual 73, 3) := by decide +kernel
theorem dX3_parseLevel_93 : decode cX3_parseLevel 93 = .ok (.aload_n 0, 1) := by decide +kernel
theorem dX3_parseLevel_94 : decode cX3_parseLevel 94 = .ok (.getfield 25, 3) := by decide +kernel
theorem dX3_parseLevel_97 : decode cX3_parseLevel 97 = .ok (.iload 5, 2) := by decide +kernel
theorem dX3_parseLevel_99 : decode cX3_parseLevel 99 = .ok (.iconst 0, 1) := by decide +kernel
theorem dX3_parseLevel_100 : decode cX3_parseLevel 100 = .ok (.invokevirtual 88, 3) := by decide +kernel
theorem dX3_parseLevel_103 : decode cX3_parseLevel 103 = .ok (.iinc 4 1, 3) := by decide +kernel
theorem dX3_parseLevel_106 : decode cX3_parseLevel 106 = .ok (.goto (-50), 3) := by decide +kernel
theorem dX3_parseLevel_109 : decode cX3_parseLevel 109 = .ok (.return_, 1) := by decide +kernel
theorem dX3_joins_0 : decode cX3_joins 0 = .ok (.iload_n 0, 1) := by decide +kernel
theorem dX3_joins_1 : decode cX3_joins 1 = .ok (.tableswitch 107 0 4 #[35, 47, 59, 77, 95], 35) := by decide +kernel
theorem dX3_joins_36 : decode cX3_joins 36 = .ok (.iload_n 1, 1) := by decide +kernel
theorem dX3_joins_37 : decode cX3_joins 37 = .ok (.bipush 14, 2) := by decide +kernel
theorem dX3_joins_39 : decode cX3_joins 39 = .ok (.if_icmp .ne 7, 3) := by decide +kernel
theorem dX3_joins_42 : decode cX3_joins 42 = .ok (.iconst 1, 1) := by decide +kernel
theorem dX3_joins_43 : decode cX3_joins 43 = .ok (.goto 4, 3) := by decide +kernel
theorem dX3_joins_46 : decode cX3_joins 46 = .ok (.iconst 0, 1) := by decide +kernel
theorem dX3_joins_47 : decode cX3_joins 47 = .ok (.ireturn, 1) := by decide +kernel
theorem dX3_joins_48 : decode cX3_joins 48 = .ok (.iload_n 1, 1) := by decide +kernel
theorem dX3_joins_49 : decode cX3_joins 49 = .ok (.bipush 15, 2) := by decide +kernel
theorem dX3_joins_51 : decode cX3_joins 51 = .ok (.if_icmp .ne 7, 3) := by decide +kernel
theorem dX3_joins_54 : decode cX3_joins 54 = .ok (.iconst 1, 1) := by decide +kernel
theorem dX3_joins_55 : decode cX3_joins 55 = .ok (.goto 4, 3) := by decide +kernel
theorem dX3_joins_58 : decode cX3_joins 58 = .ok (.iconst 0, 1) := by decide +kernel
theorem dX3_joins_59 : decode cX3_joins 59 = .ok (.ireturn, 1) := by decide +kernel
theorem dX3_joins_60 : decode cX3_joins 60 = .ok (.iload_n 1, 1) := by decide +kernel
theorem dX3_joins_61 : decode cX3_joins 61 = .ok (.bipush 21, 2) := by decide +kernel
theorem dX3_joins_63 : decode cX3_joins 63 = .ok (.if_icmp .lt 13, 3) := by decide +kernel
theorem dX3_joins_66 : decode cX3_joins 66 = .ok (.iload_n 1, 1) := by decide +kernel
theorem dX3_joins_67 : decode cX3_joins 67 = .ok (.bipush 24, 2) := by decide +kernel
theorem dX3_joins_69 : decode cX3_joins 69 = .ok (.if_icmp .gt 7, 3) := by decide +kernel
theorem dX3_joins_72 : decode cX3_joins 72 = .ok (.iconst 1, 1) := by decide +kernel
theorem dX3_joins_73 : decode cX3_joins 73 = .ok (.goto 4, 3) := by decide +kernel
theorem dX3_joins_76 : decode cX3_joins 76 = .ok (.iconst 0, 1) := by decide +kernel
theorem dX3_joins_77 : decode cX3_joins 77 = .ok (.ireturn, 1) := by decide +kernel
theorem dX3_joins_78 : decode cX3_joins 78 = .ok (.iload_n 1, 1) := by decide +kernel
theorem dX3_joins_79 : decode cX3_joins 79 = .ok (.bipush 18, 2) := by decide +kernel
theorem dX3_joins_81 : decode cX3_joins 81 = .ok (.if_icmp .eq 9, 3) := by decide +kernel
theorem dX3_joins_84 : decode cX3_joins 84 = .ok (.iload_n 1, 1) := by decide +kernel
theorem dX3_joins_85 : decode cX3_joins 85 = .ok (.bipush 19, 2) := by decide +kernel
theorem dX3_joins_87 : decode cX3_joins 87 = .ok (.if_icmp .ne 7, 3) := by decide +kernel
theorem dX3_joins_90 : decode cX3_joins 90 = .ok (.iconst 1, 1) := by decide +kernel
theorem dX3_joins_91 : decode cX3_joins 91 = .ok (.goto 4, 3) := by decide +kernel
theorem dX3_joins_94 : decode cX3_joins 94 = .ok (.iconst 0, 1) := by decide +kernel
theorem dX3_joins_95 : decode cX3_joins 95 = .ok (.ireturn, 1) := by decide +kernel
theorem dX3_joins_96 : decode cX3_joins 96 = .ok (.iload_n 1, 1) := by decide +kernel
theorem dX3_joins_97 : decode cX3_joins 97 = .ok (.bipush 20, 2) := by decide +kernel
theorem dX3_joins_99 : decode cX3_joins 99 = .ok (.if_icmp .ne 7, 3) := by decide +kernel
theorem dX3_joins_102 : decode cX3_joins 102 = .ok (.iconst 1, 1) := by decide +kernel
theorem dX3_joins_103 : decode cX3_joins 103 = .ok (.goto 4, 3) := by decide +kernel
theorem dX3_joins_106 : decode cX3_joins 106 = .ok (.iconst 0, 1) := by decide +kernel
theorem dX3_joins_107 : decode cX3_joins 107 = .ok (.ireturn, 1) := by decide +kernel
theorem dX3_joins_108 : decode cX3_joins 108 = .ok (.iconst 0, 1) := by decide +kernel
theorem dX3_joins_109 : decode cX3_joins 109 = .ok (.ireturn, 1) := by decide +kernel
theorem dX3_parseUnit_0 : decode cX3_parseUnit 0 = .ok (.aload_n 0, 1) := by decide +kernel
theorem dX3_parseUnit_1 : decode cX3_parseUnit 1 = .ok (.invokevirtual 39, 3) := by decide +kernel
theorem dX3_parseUnit_4 : decode cX3_parseUnit 4 = .ok (.istore_n 2, 1) := by decide +kernel
theorem dX3_parseUnit_5 : decode cX3_parseUnit 5 = .ok (.iload_n 2, 1) := by decide +kernel
theorem dX3_parseUnit_6 : decode cX3_parseUnit 6 = .ok (.bipush 16, 2) := by decide +kernel
theorem dX3_parseUnit_8 : decode cX3_parseUnit 8 = .ok (.if_icmp .ne 19, 3) := by decide +kernel
theorem dX3_parseUnit_11 : decode cX3_parseUnit 11 = .ok (.aload_n 0, 1) := by decide +kernel
theorem dX3_parseUnit_12 : decode cX3_parseUnit 12 = .ok (.getfield 25, 3) := by decide +kernel
theorem dX3_parseUnit_15 : decode cX3_parseUnit 15 = .ok (.bipush 16, 2) := by decide +kernel
theorem dX3_parseUnit_17 : decode cX3_parseUnit 17 = .ok (.aload_n 0, 1) := by decide +kernel
theorem dX3_parseUnit_18 : decode cX3_parseUnit 18 = .ok (.invokevirtual 69, 3) := by decide +kernel
theorem dX3_parseUnit_21 : decode cX3_parseUnit 21 = .ok (.invokevirtual 88, 3) := by decide +kernel
theorem dX3_parseUnit_24 : decode cX3_parseUnit 24 = .ok (.goto 78, 3) := by decide +kernel
theorem dX3_parseUnit_27 : decode cX3_parseUnit 27 = .ok (.iload_n 2, 1) := by decide +kernel
theorem dX3_parseUnit_28 : decode cX3_parseUnit 28 = .ok (.ifCond .lt 26, 3) := by decide +kernel
theorem dX3_parseUnit_31 : decode cX3_parseUnit 31 = .ok (.iload_n 2, 1) := by decide +kernel
theorem dX3_parseUnit_32 : decode cX3_parseUnit 32 = .ok (.bipush 9, 2) := by decide +kernel
theorem dX3_parseUnit_34 : decode cX3_parseUnit 34 = .ok (.if_icmp .ge 20, 3) := by decide +kernel
theorem dX3_parseUnit_37 : decode cX3_parseUnit 37 = .ok (.aload_n 0, 1) := by decide +kernel
theorem dX3_parseUnit_38 : decode cX3_parseUnit 38 = .ok (.iload_n 2, 1) := by decide +kernel
theorem dX3_parseUnit_39 : decode cX3_parseUnit 39 = .ok (.invokevirtual 63, 3) := by decide +kernel
theorem dX3_parseUnit_42 : decode cX3_parseUnit 42 = .ok (.aload_n 0, 1) := by decide +kernel
theorem dX3_parseUnit_43 : decode cX3_parseUnit 43 = .ok (.getfield 25, 3) := by decide +kernel
theorem dX3_parseUnit_46 : decode cX3_parseUnit 46 = .ok (.iload_n 2, 1) := by decide +kernel
theorem dX3_parseUnit_47 : decode cX3_parseUnit 47 = .ok (.iconst 0, 1) := by decide +kernel
theorem dX3_parseUnit_48 : decode cX3_parseUnit 48 = .ok (.invokevirtual 88, 3) := by decide +kernel
theorem dX3_parseUnit_51 : decode cX3_parseUnit 51 = .ok (.goto 51, 3) := by decide +kernel
theorem dX3_parseUnit_54 : decode cX3_parseUnit 54 = .ok (.iload_n 2, 1) := by decide +kernel
theorem dX3_parseUnit_55 : decode cX3_parseUnit 55 = .ok (.bipush 25, 2) := by decide +kernel
theorem dX3_parseUnit_57 : decode cX3_parseUnit 57 = .ok (.if_icmp .eq 11, 3) := by decide +kernel
theorem dX3_parseUnit_60 : decode cX3_parseUnit 60 = .ok (.aload_n 0, 1) := by decide +kernel
theorem dX3_parseUnit_61 : decode cX3_parseUnit 61 = .ok (.iconst 1, 1) := by decide +kernel
theorem dX3_parseUnit_62 : decode cX3_parseUnit 62 = .ok (.invokevirtual 56, 3) := by decide +kernel
theorem dX3_parseUnit_65 : decode cX3_parseUnit 65 = .ok (.goto 37, 3) := by decide +kernel
theorem dX3_parseUnit_68 : decode cX3_parseUnit 68 = .ok (.iload_n 1, 1) := by decide +kernel
theorem dX3_parseUnit_69 : decode cX3_parseUnit 69 = .ok (.bipush 6, 2) := by decide +kernel
theorem dX3_parseUnit_71 : decode cX3_parseUnit 71 = .ok (.if_icmp .lt 11, 3) := by decide +kernel
theorem dX3_parseUnit_74 : decode cX3_parseUnit 74 = .ok (.aload_n 0, 1) := by decide +kernel
theorem dX3_parseUnit_75 : decode cX3_parseUnit 75 = .ok (.iconst 2, 1) := by decide +kernel
theorem dX3_parseUnit_76 : decode cX3_parseUnit 76 = .ok (.invokevirtual 56, 3) := by decide +kernel
theorem dX3_parseUnit_79 : decode cX3_parseUnit 79 = .ok (.goto 23, 3) := by decide +kernel
theorem dX3_parseUnit_82 : decode cX3_parseUnit 82 = .ok (.aload_n 0, 1) := by decide +kernel
theorem dX3_parseUnit_83 : decode cX3_parseUnit 83 = .ok (.bipush 25, 2) := by decide +kernel
theorem dX3_parseUnit_85 : decode cX3_parseUnit 85 = .ok (.invokevirtual 63, 3) := by decide +kernel
theorem dX3_parseUnit_88 : decode cX3_parseUnit 88 = .ok (.aload_n 0, 1) := by decide +kernel
theorem dX3_parseUnit_89 : decode cX3_parseUnit 89 = .ok (.iconst 3, 1) := by decide +kernel
theorem dX3_parseUnit_90 : decode cX3_parseUnit 90 = .ok (.iload_n 1, 1) := by decide +kernel
theorem dX3_parseUnit_91 : decode cX3_parseUnit 91 = .ok (.iconst 1, 1) := by decide +kernel
theorem dX3_parseUnit_92 : decode cX3_parseUnit 92 = .ok (.iadd, 1) := by decide +kernel
theorem dX3_parseUnit_93 : decode cX3_parseUnit 93 = .ok (.invokevirtual 73, 3) := by decide +kernel
theorem dX3_parseUnit_96 : decode cX3_parseUnit 96 = .ok (.aload_n 0, 1) := by decide +kernel
theorem dX3_parseUnit_97 : decode cX3_parseUnit 97 = .ok (.bipush 26, 2) := by decide +kernel
theorem dX3_parseUnit_99 : decode cX3_parseUnit 99 = .ok (.invokevirtual 63, 3) := by decide +kernel
theorem dX3_parseUnit_102 : decode cX3_parseUnit 102 = .ok (.return_, 1) := by decide +kernel
theorem dX4_init_0 : decode cX4_init 0 = .ok (.aload_n 0, 1) := by decide +kernel
theorem dX4_init_1 : decode cX4_init 1 = .ok (.invokespecial 3, 3) := by decide +kernel
theorem dX4_init_4 : decode cX4_init 4 = .ok (.aload_n 0, 1) := by decide +kernel
theorem dX4_init_5 : decode cX4_init 5 = .ok (.bipush 6, 2) := by decide +kernel
theorem dX4_init_7 : decode cX4_init 7 = .ok (.newarray .int, 2) := by decide +kernel
theorem dX4_init_9 : decode cX4_init 9 = .ok (.putfield 9, 3) := by decide +kernel
theorem dX4_init_12 : decode cX4_init 12 = .ok (.aload_n 0, 1) := by decide +kernel
theorem dX4_init_13 : decode cX4_init 13 = .ok (.bipush 6, 2) := by decide +kernel
theorem dX4_init_15 : decode cX4_init 15 = .ok (.newarray .int, 2) := by decide +kernel
theorem dX4_init_17 : decode cX4_init 17 = .ok (.putfield 15, 3) := by decide +kernel
theorem dX4_init_20 : decode cX4_init 20 = .ok (.aload_n 0, 1) := by decide +kernel
theorem dX4_init_21 : decode cX4_init 21 = .ok (.bipush 6, 2) := by decide +kernel
theorem dX4_init_23 : decode cX4_init 23 = .ok (.newarray .int, 2) := by decide +kernel
theorem dX4_init_25 : decode cX4_init 25 = .ok (.putfield 18, 3) := by decide +kernel
theorem dX4_init_28 : decode cX4_init 28 = .ok (.aload_n 0, 1) := by decide +kernel
theorem dX4_init_29 : decode cX4_init 29 = .ok (.new 21, 3) := by decide +kernel
theorem dX4_init_32 : decode cX4_init 32 = .ok (.dup, 1) := by decide +kernel
theorem dX4_init_33 : decode cX4_init 33 = .ok (.invokespecial 23, 3) := by decide +kernel
