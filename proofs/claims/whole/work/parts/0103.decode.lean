theorem dX4_init_36 : decode cX4_init 36 = .ok (.putfield 24, 3) := by decide +kernel
theorem dX4_init_39 : decode cX4_init 39 = .ok (.aload_n 0, 1) := by decide +kernel
theorem dX4_init_40 : decode cX4_init 40 = .ok (.new 21, 3) := by decide +kernel
theorem dX4_init_43 : decode cX4_init 43 = .ok (.dup, 1) := by decide +kernel
theorem dX4_init_44 : decode cX4_init 44 = .ok (.invokespecial 23, 3) := by decide +kernel
theorem dX4_init_47 : decode cX4_init 47 = .ok (.putfield 28, 3) := by decide +kernel
theorem dX4_init_50 : decode cX4_init 50 = .ok (.aload_n 0, 1) := by decide +kernel
theorem dX4_init_51 : decode cX4_init 51 = .ok (.iconst 1, 1) := by decide +kernel
theorem dX4_init_52 : decode cX4_init 52 = .ok (.putfield 31, 3) := by decide +kernel
theorem dX4_init_55 : decode cX4_init 55 = .ok (.aload_n 0, 1) := by decide +kernel
theorem dX4_init_56 : decode cX4_init 56 = .ok (.iconst 0, 1) := by decide +kernel
theorem dX4_init_57 : decode cX4_init 57 = .ok (.putfield 35, 3) := by decide +kernel
theorem dX4_init_60 : decode cX4_init 60 = .ok (.aload_n 0, 1) := by decide +kernel
theorem dX4_init_61 : decode cX4_init 61 = .ok (.iconst 0, 1) := by decide +kernel
theorem dX4_init_62 : decode cX4_init 62 = .ok (.putfield 38, 3) := by decide +kernel
theorem dX4_init_65 : decode cX4_init 65 = .ok (.aload_n 0, 1) := by decide +kernel
theorem dX4_init_66 : decode cX4_init 66 = .ok (.aload_n 1, 1) := by decide +kernel
theorem dX4_init_67 : decode cX4_init 67 = .ok (.putfield 41, 3) := by decide +kernel
theorem dX4_init_70 : decode cX4_init 70 = .ok (.aload_n 0, 1) := by decide +kernel
theorem dX4_init_71 : decode cX4_init 71 = .ok (.aload_n 2, 1) := by decide +kernel
theorem dX4_init_72 : decode cX4_init 72 = .ok (.putfield 45, 3) := by decide +kernel
theorem dX4_init_75 : decode cX4_init 75 = .ok (.return_, 1) := by decide +kernel
theorem dX4_search_0 : decode cX4_search 0 = .ok (.iconst 0, 1) := by decide +kernel
theorem dX4_search_1 : decode cX4_search 1 = .ok (.istore 4, 2) := by decide +kernel
theorem dX4_search_3 : decode cX4_search 3 = .ok (.iconst 0, 1) := by decide +kernel
theorem dX4_search_4 : decode cX4_search 4 = .ok (.istore 5, 2) := by decide +kernel
theorem dX4_search_6 : decode cX4_search 6 = .ok (.iload 5, 2) := by decide +kernel
theorem dX4_search_8 : decode cX4_search 8 = .ok (.aload_n 0, 1) := by decide +kernel
theorem dX4_search_9 : decode cX4_search 9 = .ok (.getfield 41, 3) := by decide +kernel
theorem dX4_search_12 : decode cX4_search 12 = .ok (.getfield 49, 3) := by decide +kernel
theorem dX4_search_15 : decode cX4_search 15 = .ok (.if_icmp .ge 124, 3) := by decide +kernel
theorem dX4_search_18 : decode cX4_search 18 = .ok (.aload_n 0, 1) := by decide +kernel
theorem dX4_search_19 : decode cX4_search 19 = .ok (.getfield 41, 3) := by decide +kernel
theorem dX4_search_22 : decode cX4_search 22 = .ok (.aload_n 1, 1) := by decide +kernel
theorem dX4_search_23 : decode cX4_search 23 = .ok (.getfield 54, 3) := by decide +kernel
theorem dX4_search_26 : decode cX4_search 26 = .ok (.iload 5, 2) := by decide +kernel
theorem dX4_search_28 : decode cX4_search 28 = .ok (.invokevirtual 59, 3) := by decide +kernel
theorem dX4_search_31 : decode cX4_search 31 = .ok (.istore 6, 2) := by decide +kernel
theorem dX4_search_33 : decode cX4_search 33 = .ok (.aload_n 0, 1) := by decide +kernel
theorem dX4_search_34 : decode cX4_search 34 = .ok (.getfield 9, 3) := by decide +kernel
theorem dX4_search_37 : decode cX4_search 37 = .ok (.iload 5, 2) := by decide +kernel
theorem dX4_search_39 : decode cX4_search 39 = .ok (.aload_n 0, 1) := by decide +kernel
theorem dX4_search_40 : decode cX4_search 40 = .ok (.getfield 41, 3) := by decide +kernel
theorem dX4_search_43 : decode cX4_search 43 = .ok (.getfield 63, 3) := by decide +kernel
theorem dX4_search_46 : decode cX4_search 46 = .ok (.iload 5, 2) := by decide +kernel
theorem dX4_search_48 : decode cX4_search 48 = .ok (.iaload, 1) := by decide +kernel
theorem dX4_search_49 : decode cX4_search 49 = .ok (.iload 6, 2) := by decide +kernel
theorem dX4_search_51 : decode cX4_search 51 = .ok (.invokestatic 66, 3) := by decide +kernel
theorem dX4_search_54 : decode cX4_search 54 = .ok (.imul, 1) := by decide +kernel
theorem dX4_search_55 : decode cX4_search 55 = .ok (.iastore, 1) := by decide +kernel
theorem dX4_search_56 : decode cX4_search 56 = .ok (.aload_n 0, 1) := by decide +kernel
theorem dX4_search_57 : decode cX4_search 57 = .ok (.getfield 18, 3) := by decide +kernel
theorem dX4_search_60 : decode cX4_search 60 = .ok (.iload 5, 2) := by decide +kernel
theorem dX4_search_62 : decode cX4_search 62 = .ok (.aload_n 0, 1) := by decide +kernel
theorem dX4_search_63 : decode cX4_search 63 = .ok (.getfield 41, 3) := by decide +kernel
theorem dX4_search_66 : decode cX4_search 66 = .ok (.iload 6, 2) := by decide +kernel
theorem dX4_search_68 : decode cX4_search 68 = .ok (.invokevirtual 72, 3) := by decide +kernel
theorem dX4_search_71 : decode cX4_search 71 = .ok (.iastore, 1) := by decide +kernel
theorem dX4_search_72 : decode cX4_search 72 = .ok (.aload_n 0, 1) := by decide +kernel
theorem dX4_search_73 : decode cX4_search 73 = .ok (.getfield 15, 3) := by decide +kernel
theorem dX4_search_76 : decode cX4_search 76 = .ok (.iload 5, 2) := by decide +kernel
theorem dX4_search_78 : decode cX4_search 78 = .ok (.iload 6, 2) := by decide +kernel
theorem dX4_search_80 : decode cX4_search 80 = .ok (.ifCond .ne 7, 3) := by decide +kernel
theorem dX4_search_83 : decode cX4_search 83 = .ok (.iconst 0, 1) := by decide +kernel
theorem dX4_search_84 : decode cX4_search 84 = .ok (.goto 13, 3) := by decide +kernel
theorem dX4_search_87 : decode cX4_search 87 = .ok (.aload_n 0, 1) := by decide +kernel
theorem dX4_search_88 : decode cX4_search 88 = .ok (.aload_n 1, 1) := by decide +kernel
theorem dX4_search_89 : decode cX4_search 89 = .ok (.iload 5, 2) := by decide +kernel
theorem dX4_search_91 : decode cX4_search 91 = .ok (.iload 6, 2) := by decide +kernel
theorem dX4_search_93 : decode cX4_search 93 = .ok (.iload_n 2, 1) := by decide +kernel
theorem dX4_search_94 : decode cX4_search 94 = .ok (.invokevirtual 75, 3) := by decide +kernel
theorem dX4_search_97 : decode cX4_search 97 = .ok (.iastore, 1) := by decide +kernel
theorem dX4_search_98 : decode cX4_search 98 = .ok (.iload 6, 2) := by decide +kernel
theorem dX4_search_100 : decode cX4_search 100 = .ok (.ifCond .eq 15, 3) := by decide +kernel
theorem dX4_search_103 : decode cX4_search 103 = .ok (.aload_n 0, 1) := by decide +kernel
theorem dX4_search_104 : decode cX4_search 104 = .ok (.getfield 15, 3) := by decide +kernel
theorem dX4_search_107 : decode cX4_search 107 = .ok (.iload 5, 2) := by decide +kernel
theorem dX4_search_109 : decode cX4_search 109 = .ok (.iaload, 1) := by decide +kernel
theorem dX4_search_110 : decode cX4_search 110 = .ok (.ifCond .ne 5, 3) := by decide +kernel
theorem dX4_search_113 : decode cX4_search 113 = .ok (.iconst 0, 1) := by decide +kernel
theorem dX4_search_114 : decode cX4_search 114 = .ok (.ireturn, 1) := by decide +kernel
theorem dX4_search_115 : decode cX4_search 115 = .ok (.iload 4, 2) := by decide +kernel
theorem dX4_search_117 : decode cX4_search 117 = .ok (.iload 6, 2) := by decide +kernel
theorem dX4_search_119 : decode cX4_search 119 = .ok (.ifCond .ne 7, 3) := by decide +kernel
theorem dX4_search_122 : decode cX4_search 122 = .ok (.iconst 0, 1) := by decide +kernel
theorem dX4_search_123 : decode cX4_search 123 = .ok (.goto 7, 3) := by decide +kernel
theorem dX4_search_126 : decode cX4_search 126 = .ok (.iconst 1, 1) := by decide +kernel
theorem dX4_search_127 : decode cX4_search 127 = .ok (.iload 5, 2) := by decide +kernel
theorem dX4_search_129 : decode cX4_search 129 = .ok (.ishl, 1) := by decide +kernel
theorem dX4_search_130 : decode cX4_search 130 = .ok (.ior, 1) := by decide +kernel
theorem dX4_search_131 : decode cX4_search 131 = .ok (.istore 4, 2) := by decide +kernel
theorem dX4_search_133 : decode cX4_search 133 = .ok (.iinc 5 1, 3) := by decide +kernel
theorem dX4_search_136 : decode cX4_search 136 = .ok (.goto (-130), 3) := by decide +kernel
theorem dX4_search_139 : decode cX4_search 139 = .ok (.aload_n 0, 1) := by decide +kernel
theorem dX4_search_140 : decode cX4_search 140 = .ok (.iload_n 3, 1) := by decide +kernel
theorem dX4_search_141 : decode cX4_search 141 = .ok (.putfield 31, 3) := by decide +kernel
theorem dX4_search_144 : decode cX4_search 144 = .ok (.aload_n 0, 1) := by decide +kernel
theorem dX4_search_145 : decode cX4_search 145 = .ok (.ldc 79, 2) := by decide +kernel
theorem dX4_search_147 : decode cX4_search 147 = .ok (.putfield 35, 3) := by decide +kernel
theorem dX4_search_150 : decode cX4_search 150 = .ok (.aload_n 0, 1) := by decide +kernel
theorem dX4_search_151 : decode cX4_search 151 = .ok (.ldc 79, 2) := by decide +kernel
theorem dX4_search_153 : decode cX4_search 153 = .ok (.putfield 38, 3) := by decide +kernel
theorem dX4_search_156 : decode cX4_search 156 = .ok (.aload_n 0, 1) := by decide +kernel
theorem dX4_search_157 : decode cX4_search 157 = .ok (.getfield 24, 3) := by decide +kernel
theorem dX4_search_160 : decode cX4_search 160 = .ok (.invokevirtual 80, 3) := by decide +kernel
theorem dX4_search_163 : decode cX4_search 163 = .ok (.aload_n 0, 1) := by decide +kernel
theorem dX4_search_164 : decode cX4_search 164 = .ok (.iload 4, 2) := by decide +kernel
theorem dX4_search_166 : decode cX4_search 166 = .ok (.iconst 0, 1) := by decide +kernel
theorem dX4_search_167 : decode cX4_search 167 = .ok (.iconst 0, 1) := by decide +kernel
theorem dX4_search_168 : decode cX4_search 168 = .ok (.iconst 0, 1) := by decide +kernel
theorem dX4_search_169 : decode cX4_search 169 = .ok (.invokevirtual 83, 3) := by decide +kernel
theorem dX4_search_172 : decode cX4_search 172 = .ok (.iconst 1, 1) := by decide +kernel
theorem dX4_search_173 : decode cX4_search 173 = .ok (.ireturn, 1) := by decide +kernel
theorem dX4_judgesFor_0 : decode cX4_judgesFor 0 = .ok (.iconst 0, 1) := by decide +kernel
theorem dX4_judgesFor_1 : decode cX4_judgesFor 1 = .ok (.istore 5, 2) := by decide +kernel
theorem dX4_judgesFor_3 : decode cX4_judgesFor 3 = .ok (.iconst 0, 1) := by decide +kernel
theorem dX4_judgesFor_4 : decode cX4_judgesFor 4 = .ok (.istore 6, 2) := by decide +kernel
theorem dX4_judgesFor_6 : decode cX4_judgesFor 6 = .ok (.iload 6, 2) := by decide +kernel
theorem dX4_judgesFor_8 : decode cX4_judgesFor 8 = .ok (.bipush 12, 2) := by decide +kernel
theorem dX4_judgesFor_10 : decode cX4_judgesFor 10 = .ok (.if_icmp .ge 112, 3) := by decide +kernel
theorem dX4_judgesFor_13 : decode cX4_judgesFor 13 = .ok (.aload_n 0, 1) := by decide +kernel
theorem dX4_judgesFor_14 : decode cX4_judgesFor 14 = .ok (.getfield 41, 3) := by decide +kernel
theorem dX4_judgesFor_17 : decode cX4_judgesFor 17 = .ok (.getfield 87, 3) := by decide +kernel
theorem dX4_judgesFor_20 : decode cX4_judgesFor 20 = .ok (.iload 6, 2) := by decide +kernel
theorem dX4_judgesFor_22 : decode cX4_judgesFor 22 = .ok (.iaload, 1) := by decide +kernel
theorem dX4_judgesFor_23 : decode cX4_judgesFor 23 = .ok (.iload_n 2, 1) := by decide +kernel
theorem dX4_judgesFor_24 : decode cX4_judgesFor 24 = .ok (.ishr, 1) := by decide +kernel
theorem dX4_judgesFor_25 : decode cX4_judgesFor 25 = .ok (.iconst 1, 1) := by decide +kernel
theorem dX4_judgesFor_26 : decode cX4_judgesFor 26 = .ok (.iand, 1) := by decide +kernel
theorem dX4_judgesFor_27 : decode cX4_judgesFor 27 = .ok (.iconst 1, 1) := by decide +kernel
theorem dX4_judgesFor_28 : decode cX4_judgesFor 28 = .ok (.if_icmp .ne 7, 3) := by decide +kernel
theorem dX4_judgesFor_31 : decode cX4_judgesFor 31 = .ok (.iconst 1, 1) := by decide +kernel
theorem dX4_judgesFor_32 : decode cX4_judgesFor 32 = .ok (.goto 4, 3) := by decide +kernel
theorem dX4_judgesFor_35 : decode cX4_judgesFor 35 = .ok (.iconst 0, 1) := by decide +kernel
theorem dX4_judgesFor_36 : decode cX4_judgesFor 36 = .ok (.istore 7, 2) := by decide +kernel
theorem dX4_judgesFor_38 : decode cX4_judgesFor 38 = .ok (.iconst 0, 1) := by decide +kernel
theorem dX4_judgesFor_39 : decode cX4_judgesFor 39 = .ok (.istore 8, 2) := by decide +kernel
theorem dX4_judgesFor_41 : decode cX4_judgesFor 41 = .ok (.iload 8, 2) := by decide +kernel
theorem dX4_judgesFor_43 : decode cX4_judgesFor 43 = .ok (.aload_n 0, 1) := by decide +kernel
theorem dX4_judgesFor_44 : decode cX4_judgesFor 44 = .ok (.getfield 41, 3) := by decide +kernel
theorem dX4_judgesFor_47 : decode cX4_judgesFor 47 = .ok (.getfield 90, 3) := by decide +kernel
theorem dX4_judgesFor_50 : decode cX4_judgesFor 50 = .ok (.if_icmp .ge 48, 3) := by decide +kernel
theorem dX4_judgesFor_53 : decode cX4_judgesFor 53 = .ok (.iload 7, 2) := by decide +kernel
theorem dX4_judgesFor_55 : decode cX4_judgesFor 55 = .ok (.ifCond .eq 43, 3) := by decide +kernel
theorem dX4_judgesFor_58 : decode cX4_judgesFor 58 = .ok (.iload_n 3, 1) := by decide +kernel
theorem dX4_judgesFor_59 : decode cX4_judgesFor 59 = .ok (.iload 8, 2) := by decide +kernel
theorem dX4_judgesFor_61 : decode cX4_judgesFor 61 = .ok (.ishr, 1) := by decide +kernel
theorem dX4_judgesFor_62 : decode cX4_judgesFor 62 = .ok (.iconst 1, 1) := by decide +kernel
theorem dX4_judgesFor_63 : decode cX4_judgesFor 63 = .ok (.iand, 1) := by decide +kernel
theorem dX4_judgesFor_64 : decode cX4_judgesFor 64 = .ok (.ifCond .eq 21, 3) := by decide +kernel
theorem dX4_judgesFor_67 : decode cX4_judgesFor 67 = .ok (.aload_n 0, 1) := by decide +kernel
theorem dX4_judgesFor_68 : decode cX4_judgesFor 68 = .ok (.getfield 45, 3) := by decide +kernel
theorem dX4_judgesFor_71 : decode cX4_judgesFor 71 = .ok (.iload 6, 2) := by decide +kernel
theorem dX4_judgesFor_73 : decode cX4_judgesFor 73 = .ok (.aload_n 1, 1) := by decide +kernel
theorem dX4_judgesFor_74 : decode cX4_judgesFor 74 = .ok (.iload 8, 2) := by decide +kernel
theorem dX4_judgesFor_76 : decode cX4_judgesFor 76 = .ok (.iload 4, 2) := by decide +kernel
theorem dX4_judgesFor_78 : decode cX4_judgesFor 78 = .ok (.invokevirtual 93, 3) := by decide +kernel
theorem dX4_judgesFor_81 : decode cX4_judgesFor 81 = .ok (.iconst (-1), 1) := by decide +kernel
theorem dX4_judgesFor_82 : decode cX4_judgesFor 82 = .ok (.if_icmp .ne 7, 3) := by decide +kernel
theorem dX4_judgesFor_85 : decode cX4_judgesFor 85 = .ok (.iconst 1, 1) := by decide +kernel
theorem dX4_judgesFor_86 : decode cX4_judgesFor 86 = .ok (.goto 4, 3) := by decide +kernel
theorem dX4_judgesFor_89 : decode cX4_judgesFor 89 = .ok (.iconst 0, 1) := by decide +kernel
theorem dX4_judgesFor_90 : decode cX4_judgesFor 90 = .ok (.istore 7, 2) := by decide +kernel
theorem dX4_judgesFor_92 : decode cX4_judgesFor 92 = .ok (.iinc 8 1, 3) := by decide +kernel
theorem dX4_judgesFor_95 : decode cX4_judgesFor 95 = .ok (.goto (-54), 3) := by decide +kernel
theorem dX4_judgesFor_98 : decode cX4_judgesFor 98 = .ok (.iload 5, 2) := by decide +kernel
theorem dX4_judgesFor_100 : decode cX4_judgesFor 100 = .ok (.iload 7, 2) := by decide +kernel
theorem dX4_judgesFor_102 : decode cX4_judgesFor 102 = .ok (.ifCond .eq 10, 3) := by decide +kernel
theorem dX4_judgesFor_105 : decode cX4_judgesFor 105 = .ok (.iconst 1, 1) := by decide +kernel
theorem dX4_judgesFor_106 : decode cX4_judgesFor 106 = .ok (.iload 6, 2) := by decide +kernel
theorem dX4_judgesFor_108 : decode cX4_judgesFor 108 = .ok (.ishl, 1) := by decide +kernel
theorem dX4_judgesFor_109 : decode cX4_judgesFor 109 = .ok (.goto 4, 3) := by decide +kernel
theorem dX4_judgesFor_112 : decode cX4_judgesFor 112 = .ok (.iconst 0, 1) := by decide +kernel
theorem dX4_judgesFor_113 : decode cX4_judgesFor 113 = .ok (.ior, 1) := by decide +kernel
theorem dX4_judgesFor_114 : decode cX4_judgesFor 114 = .ok (.istore 5, 2) := by decide +kernel
theorem dX4_judgesFor_116 : decode cX4_judgesFor 116 = .ok (.iinc 6 1, 3) := by decide +kernel
theorem dX4_judgesFor_119 : decode cX4_judgesFor 119 = .ok (.goto (-113), 3) := by decide +kernel
theorem dX4_judgesFor_122 : decode cX4_judgesFor 122 = .ok (.iload 5, 2) := by decide +kernel
theorem dX4_judgesFor_124 : decode cX4_judgesFor 124 = .ok (.ireturn, 1) := by decide +kernel
theorem dX4_tryOrders_0 : decode cX4_tryOrders 0 = .ok (.iload_n 3, 1) := by decide +kernel
theorem dX4_tryOrders_1 : decode cX4_tryOrders 1 = .ok (.aload_n 0, 1) := by decide +kernel
theorem dX4_tryOrders_2 : decode cX4_tryOrders 2 = .ok (.getfield 35, 3) := by decide +kernel
theorem dX4_tryOrders_5 : decode cX4_tryOrders 5 = .ok (.if_icmp .gt 20, 3) := by decide +kernel
theorem dX4_tryOrders_8 : decode cX4_tryOrders 8 = .ok (.iload_n 3, 1) := by decide +kernel
theorem dX4_tryOrders_9 : decode cX4_tryOrders 9 = .ok (.aload_n 0, 1) := by decide +kernel
theorem dX4_tryOrders_10 : decode cX4_tryOrders 10 = .ok (.getfield 35, 3) := by decide +kernel
theorem dX4_tryOrders_13 : decode cX4_tryOrders 13 = .ok (.if_icmp .ne 13, 3) := by decide +kernel
theorem dX4_tryOrders_16 : decode cX4_tryOrders 16 = .ok (.iload 4, 2) := by decide +kernel
theorem dX4_tryOrders_18 : decode cX4_tryOrders 18 = .ok (.aload_n 0, 1) := by decide +kernel
theorem dX4_tryOrders_19 : decode cX4_tryOrders 19 = .ok (.getfield 38, 3) := by decide +kernel
theorem dX4_tryOrders_22 : decode cX4_tryOrders 22 = .ok (.if_icmp .lt 4, 3) := by decide +kernel
theorem dX4_tryOrders_25 : decode cX4_tryOrders 25 = .ok (.return_, 1) := by decide +kernel
theorem dX4_tryOrders_26 : decode cX4_tryOrders 26 = .ok (.iload_n 1, 1) := by decide +kernel
theorem dX4_tryOrders_27 : decode cX4_tryOrders 27 = .ok (.ifCond .ne 26, 3) := by decide +kernel
theorem dX4_tryOrders_30 : decode cX4_tryOrders 30 = .ok (.aload_n 0, 1) := by decide +kernel
theorem dX4_tryOrders_31 : decode cX4_tryOrders 31 = .ok (.iload_n 3, 1) := by decide +kernel
theorem dX4_tryOrders_32 : decode cX4_tryOrders 32 = .ok (.putfield 35, 3) := by decide +kernel
theorem dX4_tryOrders_35 : decode cX4_tryOrders 35 = .ok (.aload_n 0, 1) := by decide +kernel
theorem dX4_tryOrders_36 : decode cX4_tryOrders 36 = .ok (.iload 4, 2) := by decide +kernel
theorem dX4_tryOrders_38 : decode cX4_tryOrders 38 = .ok (.putfield 38, 3) := by decide +kernel
theorem dX4_tryOrders_41 : decode cX4_tryOrders 41 = .ok (.aload_n 0, 1) := by decide +kernel
theorem dX4_tryOrders_42 : decode cX4_tryOrders 42 = .ok (.getfield 28, 3) := by decide +kernel
theorem dX4_tryOrders_45 : decode cX4_tryOrders 45 = .ok (.aload_n 0, 1) := by decide +kernel
theorem dX4_tryOrders_46 : decode cX4_tryOrders 46 = .ok (.getfield 24, 3) := by decide +kernel
theorem dX4_tryOrders_49 : decode cX4_tryOrders 49 = .ok (.invokevirtual 99, 3) := by decide +kernel
theorem dX4_tryOrders_52 : decode cX4_tryOrders 52 = .ok (.return_, 1) := by decide +kernel
theorem dX4_tryOrders_53 : decode cX4_tryOrders 53 = .ok (.iconst 0, 1) := by decide +kernel
theorem dX4_tryOrders_54 : decode cX4_tryOrders 54 = .ok (.istore 5, 2) := by decide +kernel
theorem dX4_tryOrders_56 : decode cX4_tryOrders 56 = .ok (.iload 5, 2) := by decide +kernel
theorem dX4_tryOrders_58 : decode cX4_tryOrders 58 = .ok (.bipush 6, 2) := by decide +kernel
theorem dX4_tryOrders_60 : decode cX4_tryOrders 60 = .ok (.if_icmp .ge 66, 3) := by decide +kernel
theorem dX4_tryOrders_63 : decode cX4_tryOrders 63 = .ok (.iconst 1, 1) := by decide +kernel
theorem dX4_tryOrders_64 : decode cX4_tryOrders 64 = .ok (.iload 5, 2) := by decide +kernel
theorem dX4_tryOrders_66 : decode cX4_tryOrders 66 = .ok (.ishl, 1) := by decide +kernel
theorem dX4_tryOrders_67 : decode cX4_tryOrders 67 = .ok (.istore 6, 2) := by decide +kernel
theorem dX4_tryOrders_69 : decode cX4_tryOrders 69 = .ok (.iload_n 1, 1) := by decide +kernel
theorem dX4_tryOrders_70 : decode cX4_tryOrders 70 = .ok (.iload 6, 2) := by decide +kernel
theorem dX4_tryOrders_72 : decode cX4_tryOrders 72 = .ok (.iand, 1) := by decide +kernel
theorem dX4_tryOrders_73 : decode cX4_tryOrders 73 = .ok (.ifCond .eq 47, 3) := by decide +kernel
theorem dX4_tryOrders_76 : decode cX4_tryOrders 76 = .ok (.aload_n 0, 1) := by decide +kernel
theorem dX4_tryOrders_77 : decode cX4_tryOrders 77 = .ok (.iload 5, 2) := by decide +kernel
theorem dX4_tryOrders_79 : decode cX4_tryOrders 79 = .ok (.iload_n 2, 1) := by decide +kernel
theorem dX4_tryOrders_80 : decode cX4_tryOrders 80 = .ok (.invokevirtual 103, 3) := by decide +kernel
theorem dX4_tryOrders_83 : decode cX4_tryOrders 83 = .ok (.aload_n 0, 1) := by decide +kernel
theorem dX4_tryOrders_84 : decode cX4_tryOrders 84 = .ok (.getfield 24, 3) := by decide +kernel
theorem dX4_tryOrders_87 : decode cX4_tryOrders 87 = .ok (.iload 5, 2) := by decide +kernel
theorem dX4_tryOrders_89 : decode cX4_tryOrders 89 = .ok (.iconst 3, 1) := by decide +kernel
theorem dX4_tryOrders_90 : decode cX4_tryOrders 90 = .ok (.invokevirtual 107, 3) := by decide +kernel
theorem dX4_tryOrders_93 : decode cX4_tryOrders 93 = .ok (.istore 7, 2) := by decide +kernel
theorem dX4_tryOrders_95 : decode cX4_tryOrders 95 = .ok (.aload_n 0, 1) := by decide +kernel
theorem dX4_tryOrders_96 : decode cX4_tryOrders 96 = .ok (.iload_n 1, 1) := by decide +kernel
theorem dX4_tryOrders_97 : decode cX4_tryOrders 97 = .ok (.iload 6, 2) := by decide +kernel
theorem dX4_tryOrders_99 : decode cX4_tryOrders 99 = .ok (.iconst (-1), 1) := by decide +kernel
theorem dX4_tryOrders_100 : decode cX4_tryOrders 100 = .ok (.ixor, 1) := by decide +kernel
theorem dX4_tryOrders_101 : decode cX4_tryOrders 101 = .ok (.iand, 1) := by decide +kernel
theorem dX4_tryOrders_102 : decode cX4_tryOrders 102 = .ok (.iload_n 2, 1) := by decide +kernel
theorem dX4_tryOrders_103 : decode cX4_tryOrders 103 = .ok (.iload 6, 2) := by decide +kernel
theorem dX4_tryOrders_105 : decode cX4_tryOrders 105 = .ok (.ior, 1) := by decide +kernel
theorem dX4_tryOrders_106 : decode cX4_tryOrders 106 = .ok (.iload_n 3, 1) := by decide +kernel
theorem dX4_tryOrders_107 : decode cX4_tryOrders 107 = .ok (.iload 7, 2) := by decide +kernel
theorem dX4_tryOrders_109 : decode cX4_tryOrders 109 = .ok (.invokestatic 110, 3) := by decide +kernel
theorem dX4_tryOrders_112 : decode cX4_tryOrders 112 = .ok (.iload 4, 2) := by decide +kernel
theorem dX4_tryOrders_114 : decode cX4_tryOrders 114 = .ok (.iload 7, 2) := by decide +kernel
theorem dX4_tryOrders_116 : decode cX4_tryOrders 116 = .ok (.iadd, 1) := by decide +kernel
theorem dX4_tryOrders_117 : decode cX4_tryOrders 117 = .ok (.invokevirtual 83, 3) := by decide +kernel
theorem dX4_tryOrders_120 : decode cX4_tryOrders 120 = .ok (.iinc 5 1, 3) := by decide +kernel
theorem dX4_tryOrders_123 : decode cX4_tryOrders 123 = .ok (.goto (-67), 3) := by decide +kernel
theorem dX4_tryOrders_126 : decode cX4_tryOrders 126 = .ok (.return_, 1) := by decide +kernel
theorem dX4_placeBreed_0 : decode cX4_placeBreed 0 = .ok (.aload_n 0, 1) := by decide +kernel
theorem dX4_placeBreed_1 : decode cX4_placeBreed 1 = .ok (.iload_n 1, 1) := by decide +kernel
theorem dX4_placeBreed_2 : decode cX4_placeBreed 2 = .ok (.iconst 0, 1) := by decide +kernel
theorem dX4_placeBreed_3 : decode cX4_placeBreed 3 = .ok (.iload_n 2, 1) := by decide +kernel
theorem dX4_placeBreed_4 : decode cX4_placeBreed 4 = .ok (.invokevirtual 115, 3) := by decide +kernel
theorem dX4_placeBreed_7 : decode cX4_placeBreed 7 = .ok (.ifCond .eq 7, 3) := by decide +kernel
theorem dX4_placeBreed_10 : decode cX4_placeBreed 10 = .ok (.iconst 0, 1) := by decide +kernel
theorem dX4_placeBreed_11 : decode cX4_placeBreed 11 = .ok (.goto 5, 3) := by decide +kernel
theorem dX4_placeBreed_14 : decode cX4_placeBreed 14 = .ok (.ldc 79, 2) := by decide +kernel
theorem dX4_placeBreed_16 : decode cX4_placeBreed 16 = .ok (.istore_n 3, 1) := by decide +kernel
theorem dX4_placeBreed_17 : decode cX4_placeBreed 17 = .ok (.iconst 0, 1) := by decide +kernel
theorem dX4_placeBreed_18 : decode cX4_placeBreed 18 = .ok (.istore 4, 2) := by decide +kernel
theorem dX4_placeBreed_20 : decode cX4_placeBreed 20 = .ok (.iload 4, 2) := by decide +kernel
theorem dX4_placeBreed_22 : decode cX4_placeBreed 22 = .ok (.bipush 6, 2) := by decide +kernel
theorem dX4_placeBreed_24 : decode cX4_placeBreed 24 = .ok (.if_icmp .ge 51, 3) := by decide +kernel
theorem dX4_placeBreed_27 : decode cX4_placeBreed 27 = .ok (.iload_n 2, 1) := by decide +kernel
theorem dX4_placeBreed_28 : decode cX4_placeBreed 28 = .ok (.iload 4, 2) := by decide +kernel
theorem dX4_placeBreed_30 : decode cX4_placeBreed 30 = .ok (.ishr, 1) := by decide +kernel
theorem dX4_placeBreed_31 : decode cX4_placeBreed 31 = .ok (.iconst 1, 1) := by decide +kernel
theorem dX4_placeBreed_32 : decode cX4_placeBreed 32 = .ok (.iand, 1) := by decide +kernel
theorem dX4_placeBreed_33 : decode cX4_placeBreed 33 = .ok (.iconst 1, 1) := by decide +kernel
theorem dX4_placeBreed_34 : decode cX4_placeBreed 34 = .ok (.if_icmp .ne 35, 3) := by decide +kernel
theorem dX4_placeBreed_37 : decode cX4_placeBreed 37 = .ok (.aload_n 0, 1) := by decide +kernel
theorem dX4_placeBreed_38 : decode cX4_placeBreed 38 = .ok (.getfield 24, 3) := by decide +kernel
theorem dX4_placeBreed_41 : decode cX4_placeBreed 41 = .ok (.iload 4, 2) := by decide +kernel
theorem dX4_placeBreed_43 : decode cX4_placeBreed 43 = .ok (.iconst 3, 1) := by decide +kernel
theorem dX4_placeBreed_44 : decode cX4_placeBreed 44 = .ok (.invokevirtual 107, 3) := by decide +kernel
theorem dX4_placeBreed_47 : decode cX4_placeBreed 47 = .ok (.istore 5, 2) := by decide +kernel
theorem dX4_placeBreed_49 : decode cX4_placeBreed 49 = .ok (.iload 5, 2) := by decide +kernel
theorem dX4_placeBreed_51 : decode cX4_placeBreed 51 = .ok (.iload_n 3, 1) := by decide +kernel
theorem dX4_placeBreed_52 : decode cX4_placeBreed 52 = .ok (.if_icmp .ge 17, 3) := by decide +kernel
theorem dX4_placeBreed_55 : decode cX4_placeBreed 55 = .ok (.aload_n 0, 1) := by decide +kernel
theorem dX4_placeBreed_56 : decode cX4_placeBreed 56 = .ok (.iload_n 1, 1) := by decide +kernel
theorem dX4_placeBreed_57 : decode cX4_placeBreed 57 = .ok (.iload 5, 2) := by decide +kernel
theorem dX4_placeBreed_59 : decode cX4_placeBreed 59 = .ok (.iload_n 2, 1) := by decide +kernel
theorem dX4_placeBreed_60 : decode cX4_placeBreed 60 = .ok (.invokevirtual 115, 3) := by decide +kernel
theorem dX4_placeBreed_63 : decode cX4_placeBreed 63 = .ok (.ifCond .eq 6, 3) := by decide +kernel
theorem dX4_placeBreed_66 : decode cX4_placeBreed 66 = .ok (.iload 5, 2) := by decide +kernel
theorem dX4_placeBreed_68 : decode cX4_placeBreed 68 = .ok (.istore_n 3, 1) := by decide +kernel
theorem dX4_placeBreed_69 : decode cX4_placeBreed 69 = .ok (.iinc 4 1, 3) := by decide +kernel
theorem dX4_placeBreed_72 : decode cX4_placeBreed 72 = .ok (.goto (-52), 3) := by decide +kernel
theorem dX4_placeBreed_75 : decode cX4_placeBreed 75 = .ok (.aload_n 0, 1) := by decide +kernel
theorem dX4_placeBreed_76 : decode cX4_placeBreed 76 = .ok (.iload_n 1, 1) := by decide +kernel
theorem dX4_placeBreed_77 : decode cX4_placeBreed 77 = .ok (.iload_n 3, 1) := by decide +kernel
theorem dX4_placeBreed_78 : decode cX4_placeBreed 78 = .ok (.iload_n 2, 1) := by decide +kernel
theorem dX4_placeBreed_79 : decode cX4_placeBreed 79 = .ok (.invokevirtual 119, 3) := by decide +kernel
theorem dX4_placeBreed_82 : decode cX4_placeBreed 82 = .ok (.istore 4, 2) := by decide +kernel
theorem dX4_placeBreed_84 : decode cX4_placeBreed 84 = .ok (.aload_n 0, 1) := by decide +kernel
theorem dX4_placeBreed_85 : decode cX4_placeBreed 85 = .ok (.iload 4, 2) := by decide +kernel
theorem dX4_placeBreed_87 : decode cX4_placeBreed 87 = .ok (.iconst 0, 1) := by decide +kernel
theorem dX4_placeBreed_88 : decode cX4_placeBreed 88 = .ok (.invokevirtual 123, 3) := by decide +kernel
theorem dX4_placeBreed_91 : decode cX4_placeBreed 91 = .ok (.iconst (-1), 1) := by decide +kernel
theorem dX4_placeBreed_92 : decode cX4_placeBreed 92 = .ok (.ixor, 1) := by decide +kernel
theorem dX4_placeBreed_93 : decode cX4_placeBreed 93 = .ok (.invokestatic 126, 3) := by decide +kernel
theorem dX4_placeBreed_96 : decode cX4_placeBreed 96 = .ok (.istore 5, 2) := by decide +kernel
theorem dX4_placeBreed_98 : decode cX4_placeBreed 98 = .ok (.aload_n 0, 1) := by decide +kernel
theorem dX4_placeBreed_99 : decode cX4_placeBreed 99 = .ok (.getfield 15, 3) := by decide +kernel
theorem dX4_placeBreed_102 : decode cX4_placeBreed 102 = .ok (.iload_n 1, 1) := by decide +kernel
theorem dX4_placeBreed_103 : decode cX4_placeBreed 103 = .ok (.iaload, 1) := by decide +kernel
theorem dX4_placeBreed_104 : decode cX4_placeBreed 104 = .ok (.aload_n 0, 1) := by decide +kernel
theorem dX4_placeBreed_105 : decode cX4_placeBreed 105 = .ok (.iload 4, 2) := by decide +kernel
theorem dX4_placeBreed_107 : decode cX4_placeBreed 107 = .ok (.iconst 1, 1) := by decide +kernel
theorem dX4_placeBreed_108 : decode cX4_placeBreed 108 = .ok (.invokevirtual 123, 3) := by decide +kernel
theorem dX4_placeBreed_111 : decode cX4_placeBreed 111 = .ok (.iconst (-1), 1) := by decide +kernel
theorem dX4_placeBreed_112 : decode cX4_placeBreed 112 = .ok (.ixor, 1) := by decide +kernel
theorem dX4_placeBreed_113 : decode cX4_placeBreed 113 = .ok (.iand, 1) := by decide +kernel
theorem dX4_placeBreed_114 : decode cX4_placeBreed 114 = .ok (.invokestatic 126, 3) := by decide +kernel
theorem dX4_placeBreed_117 : decode cX4_placeBreed 117 = .ok (.istore 6, 2) := by decide +kernel
theorem dX4_placeBreed_119 : decode cX4_placeBreed 119 = .ok (.aload_n 0, 1) := by decide +kernel
theorem dX4_placeBreed_120 : decode cX4_placeBreed 120 = .ok (.getfield 24, 3) := by decide +kernel
theorem dX4_placeBreed_123 : decode cX4_placeBreed 123 = .ok (.iload_n 1, 1) := by decide +kernel
theorem dX4_placeBreed_124 : decode cX4_placeBreed 124 = .ok (.iload 5, 2) := by decide +kernel
theorem dX4_placeBreed_126 : decode cX4_placeBreed 126 = .ok (.iload 6, 2) := by decide +kernel
theorem dX4_placeBreed_128 : decode cX4_placeBreed 128 = .ok (.iload_n 3, 1) := by decide +kernel
theorem dX4_placeBreed_129 : decode cX4_placeBreed 129 = .ok (.iload_n 3, 1) := by decide +kernel
theorem dX4_placeBreed_130 : decode cX4_placeBreed 130 = .ok (.aload_n 0, 1) := by decide +kernel
theorem dX4_placeBreed_131 : decode cX4_placeBreed 131 = .ok (.getfield 9, 3) := by decide +kernel
theorem dX4_placeBreed_134 : decode cX4_placeBreed 134 = .ok (.iload_n 1, 1) := by decide +kernel
theorem dX4_placeBreed_135 : decode cX4_placeBreed 135 = .ok (.iaload, 1) := by decide +kernel
theorem dX4_placeBreed_136 : decode cX4_placeBreed 136 = .ok (.iadd, 1) := by decide +kernel
theorem dX4_placeBreed_137 : decode cX4_placeBreed 137 = .ok (.invokevirtual 129, 3) := by decide +kernel
theorem dX4_placeBreed_140 : decode cX4_placeBreed 140 = .ok (.return_, 1) := by decide +kernel
theorem dX4_fits_0 : decode cX4_fits 0 = .ok (.aload_n 0, 1) := by decide +kernel
theorem dX4_fits_1 : decode cX4_fits 1 = .ok (.iload_n 1, 1) := by decide +kernel
theorem dX4_fits_2 : decode cX4_fits 2 = .ok (.iload_n 2, 1) := by decide +kernel
theorem dX4_fits_3 : decode cX4_fits 3 = .ok (.iload_n 3, 1) := by decide +kernel
theorem dX4_fits_4 : decode cX4_fits 4 = .ok (.invokevirtual 119, 3) := by decide +kernel
theorem dX4_fits_7 : decode cX4_fits 7 = .ok (.istore 4, 2) := by decide +kernel
theorem dX4_fits_9 : decode cX4_fits 9 = .ok (.aload_n 0, 1) := by decide +kernel
theorem dX4_fits_10 : decode cX4_fits 10 = .ok (.iload 4, 2) := by decide +kernel
theorem dX4_fits_12 : decode cX4_fits 12 = .ok (.iconst 0, 1) := by decide +kernel
theorem dX4_fits_13 : decode cX4_fits 13 = .ok (.invokevirtual 123, 3) := by decide +kernel
theorem dX4_fits_16 : decode cX4_fits 16 = .ok (.invokestatic 66, 3) := by decide +kernel
theorem dX4_fits_19 : decode cX4_fits 19 = .ok (.aload_n 0, 1) := by decide +kernel
theorem dX4_fits_20 : decode cX4_fits 20 = .ok (.getfield 31, 3) := by decide +kernel
theorem dX4_fits_23 : decode cX4_fits 23 = .ok (.if_icmp .ge 7, 3) := by decide +kernel
theorem dX4_fits_26 : decode cX4_fits 26 = .ok (.iconst 1, 1) := by decide +kernel
theorem dX4_fits_27 : decode cX4_fits 27 = .ok (.goto 4, 3) := by decide +kernel
theorem dX4_fits_30 : decode cX4_fits 30 = .ok (.iconst 0, 1) := by decide +kernel
theorem dX4_fits_31 : decode cX4_fits 31 = .ok (.istore 5, 2) := by decide +kernel
theorem dX4_fits_33 : decode cX4_fits 33 = .ok (.aload_n 0, 1) := by decide +kernel
theorem dX4_fits_34 : decode cX4_fits 34 = .ok (.getfield 15, 3) := by decide +kernel
theorem dX4_fits_37 : decode cX4_fits 37 = .ok (.iload_n 1, 1) := by decide +kernel
theorem dX4_fits_38 : decode cX4_fits 38 = .ok (.iaload, 1) := by decide +kernel
theorem dX4_fits_39 : decode cX4_fits 39 = .ok (.aload_n 0, 1) := by decide +kernel
theorem dX4_fits_40 : decode cX4_fits 40 = .ok (.iload 4, 2) := by decide +kernel
theorem dX4_fits_42 : decode cX4_fits 42 = .ok (.iconst 1, 1) := by decide +kernel
theorem dX4_fits_43 : decode cX4_fits 43 = .ok (.invokevirtual 123, 3) := by decide +kernel
theorem dX4_fits_46 : decode cX4_fits 46 = .ok (.iconst (-1), 1) := by decide +kernel
theorem dX4_fits_47 : decode cX4_fits 47 = .ok (.ixor, 1) := by decide +kernel
theorem dX4_fits_48 : decode cX4_fits 48 = .ok (.iand, 1) := by decide +kernel
theorem dX4_fits_49 : decode cX4_fits 49 = .ok (.ifCond .eq 7, 3) := by decide +kernel
theorem dX4_fits_52 : decode cX4_fits 52 = .ok (.iconst 1, 1) := by decide +kernel
theorem dX4_fits_53 : decode cX4_fits 53 = .ok (.goto 4, 3) := by decide +kernel
theorem dX4_fits_56 : decode cX4_fits 56 = .ok (.iconst 0, 1) := by decide +kernel
theorem dX4_fits_57 : decode cX4_fits 57 = .ok (.istore 6, 2) := by decide +kernel
theorem dX4_fits_59 : decode cX4_fits 59 = .ok (.iconst 1, 1) := by decide +kernel
theorem dX4_fits_60 : decode cX4_fits 60 = .ok (.istore 7, 2) := by decide +kernel
theorem dX4_fits_62 : decode cX4_fits 62 = .ok (.iconst 0, 1) := by decide +kernel
theorem dX4_fits_63 : decode cX4_fits 63 = .ok (.istore 8, 2) := by decide +kernel
theorem dX4_fits_65 : decode cX4_fits 65 = .ok (.iload 8, 2) := by decide +kernel
theorem dX4_fits_67 : decode cX4_fits 67 = .ok (.bipush 6, 2) := by decide +kernel
theorem dX4_fits_69 : decode cX4_fits 69 = .ok (.if_icmp .ge 40, 3) := by decide +kernel
theorem dX4_fits_72 : decode cX4_fits 72 = .ok (.iload 4, 2) := by decide +kernel
theorem dX4_fits_74 : decode cX4_fits 74 = .ok (.iload 8, 2) := by decide +kernel
theorem dX4_fits_76 : decode cX4_fits 76 = .ok (.ishr, 1) := by decide +kernel
theorem dX4_fits_77 : decode cX4_fits 77 = .ok (.iconst 1, 1) := by decide +kernel
theorem dX4_fits_78 : decode cX4_fits 78 = .ok (.iand, 1) := by decide +kernel
theorem dX4_fits_79 : decode cX4_fits 79 = .ok (.iconst 1, 1) := by decide +kernel
theorem dX4_fits_80 : decode cX4_fits 80 = .ok (.if_icmp .ne 23, 3) := by decide +kernel
theorem dX4_fits_83 : decode cX4_fits 83 = .ok (.aload_n 0, 1) := by decide +kernel
theorem dX4_fits_84 : decode cX4_fits 84 = .ok (.getfield 18, 3) := by decide +kernel
theorem dX4_fits_87 : decode cX4_fits 87 = .ok (.iload 8, 2) := by decide +kernel
theorem dX4_fits_89 : decode cX4_fits 89 = .ok (.iaload, 1) := by decide +kernel
theorem dX4_fits_90 : decode cX4_fits 90 = .ok (.aload_n 0, 1) := by decide +kernel
theorem dX4_fits_91 : decode cX4_fits 91 = .ok (.getfield 18, 3) := by decide +kernel
theorem dX4_fits_94 : decode cX4_fits 94 = .ok (.iload_n 1, 1) := by decide +kernel
theorem dX4_fits_95 : decode cX4_fits 95 = .ok (.iaload, 1) := by decide +kernel
theorem dX4_fits_96 : decode cX4_fits 96 = .ok (.iand, 1) := by decide +kernel
theorem dX4_fits_97 : decode cX4_fits 97 = .ok (.ifCond .eq 6, 3) := by decide +kernel
theorem dX4_fits_100 : decode cX4_fits 100 = .ok (.iconst 0, 1) := by decide +kernel
theorem dX4_fits_101 : decode cX4_fits 101 = .ok (.istore 7, 2) := by decide +kernel
theorem dX4_fits_103 : decode cX4_fits 103 = .ok (.iinc 8 1, 3) := by decide +kernel
theorem dX4_fits_106 : decode cX4_fits 106 = .ok (.goto (-41), 3) := by decide +kernel
theorem dX4_fits_109 : decode cX4_fits 109 = .ok (.iload 5, 2) := by decide +kernel
theorem dX4_fits_111 : decode cX4_fits 111 = .ok (.ifCond .eq 17, 3) := by decide +kernel
theorem dX4_fits_114 : decode cX4_fits 114 = .ok (.iload 6, 2) := by decide +kernel
theorem dX4_fits_116 : decode cX4_fits 116 = .ok (.ifCond .eq 12, 3) := by decide +kernel
theorem dX4_fits_119 : decode cX4_fits 119 = .ok (.iload 7, 2) := by decide +kernel
theorem dX4_fits_121 : decode cX4_fits 121 = .ok (.ifCond .eq 7, 3) := by decide +kernel
theorem dX4_fits_124 : decode cX4_fits 124 = .ok (.iconst 1, 1) := by decide +kernel
theorem dX4_fits_125 : decode cX4_fits 125 = .ok (.goto 4, 3) := by decide +kernel
theorem dX4_fits_128 : decode cX4_fits 128 = .ok (.iconst 0, 1) := by decide +kernel
theorem dX4_fits_129 : decode cX4_fits 129 = .ok (.ireturn, 1) := by decide +kernel
theorem dX4_meanwhile_0 : decode cX4_meanwhile 0 = .ok (.iconst 0, 1) := by decide +kernel
theorem dX4_meanwhile_1 : decode cX4_meanwhile 1 = .ok (.istore 4, 2) := by decide +kernel
theorem dX4_meanwhile_3 : decode cX4_meanwhile 3 = .ok (.iconst 0, 1) := by decide +kernel
theorem dX4_meanwhile_4 : decode cX4_meanwhile 4 = .ok (.istore 5, 2) := by decide +kernel
theorem dX4_meanwhile_6 : decode cX4_meanwhile 6 = .ok (.iload 5, 2) := by decide +kernel
theorem dX4_meanwhile_8 : decode cX4_meanwhile 8 = .ok (.bipush 6, 2) := by decide +kernel
theorem dX4_meanwhile_10 : decode cX4_meanwhile 10 = .ok (.if_icmp .ge 49, 3) := by decide +kernel
theorem dX4_meanwhile_13 : decode cX4_meanwhile 13 = .ok (.iload_n 3, 1) := by decide +kernel
theorem dX4_meanwhile_14 : decode cX4_meanwhile 14 = .ok (.iload 5, 2) := by decide +kernel
theorem dX4_meanwhile_16 : decode cX4_meanwhile 16 = .ok (.ishr, 1) := by decide +kernel
theorem dX4_meanwhile_17 : decode cX4_meanwhile 17 = .ok (.iconst 1, 1) := by decide +kernel
theorem dX4_meanwhile_18 : decode cX4_meanwhile 18 = .ok (.iand, 1) := by decide +kernel
theorem dX4_meanwhile_19 : decode cX4_meanwhile 19 = .ok (.iconst 1, 1) := by decide +kernel
theorem dX4_meanwhile_20 : decode cX4_meanwhile 20 = .ok (.if_icmp .ne 33, 3) := by decide +kernel
theorem dX4_meanwhile_23 : decode cX4_meanwhile 23 = .ok (.aload_n 0, 1) := by decide +kernel
theorem dX4_meanwhile_24 : decode cX4_meanwhile 24 = .ok (.getfield 24, 3) := by decide +kernel
theorem dX4_meanwhile_27 : decode cX4_meanwhile 27 = .ok (.iload 5, 2) := by decide +kernel
theorem dX4_meanwhile_29 : decode cX4_meanwhile 29 = .ok (.iload_n 2, 1) := by decide +kernel
theorem dX4_meanwhile_30 : decode cX4_meanwhile 30 = .ok (.iload_n 2, 1) := by decide +kernel
theorem dX4_meanwhile_31 : decode cX4_meanwhile 31 = .ok (.aload_n 0, 1) := by decide +kernel
theorem dX4_meanwhile_32 : decode cX4_meanwhile 32 = .ok (.getfield 9, 3) := by decide +kernel
theorem dX4_meanwhile_35 : decode cX4_meanwhile 35 = .ok (.iload_n 1, 1) := by decide +kernel
theorem dX4_meanwhile_36 : decode cX4_meanwhile 36 = .ok (.iaload, 1) := by decide +kernel
theorem dX4_meanwhile_37 : decode cX4_meanwhile 37 = .ok (.iadd, 1) := by decide +kernel
theorem dX4_meanwhile_38 : decode cX4_meanwhile 38 = .ok (.invokevirtual 133, 3) := by decide +kernel
theorem dX4_meanwhile_41 : decode cX4_meanwhile 41 = .ok (.ifCond .eq 12, 3) := by decide +kernel
theorem dX4_meanwhile_44 : decode cX4_meanwhile 44 = .ok (.iload 4, 2) := by decide +kernel
theorem dX4_meanwhile_46 : decode cX4_meanwhile 46 = .ok (.iconst 1, 1) := by decide +kernel
theorem dX4_meanwhile_47 : decode cX4_meanwhile 47 = .ok (.iload 5, 2) := by decide +kernel
theorem dX4_meanwhile_49 : decode cX4_meanwhile 49 = .ok (.ishl, 1) := by decide +kernel
theorem dX4_meanwhile_50 : decode cX4_meanwhile 50 = .ok (.ior, 1) := by decide +kernel
theorem dX4_meanwhile_51 : decode cX4_meanwhile 51 = .ok (.istore 4, 2) := by decide +kernel
theorem dX4_meanwhile_53 : decode cX4_meanwhile 53 = .ok (.iinc 5 1, 3) := by decide +kernel
theorem dX4_meanwhile_56 : decode cX4_meanwhile 56 = .ok (.goto (-50), 3) := by decide +kernel
theorem dX4_meanwhile_59 : decode cX4_meanwhile 59 = .ok (.iload 4, 2) := by decide +kernel
theorem dX4_meanwhile_61 : decode cX4_meanwhile 61 = .ok (.ireturn, 1) := by decide +kernel
theorem dX4_taken_0 : decode cX4_taken 0 = .ok (.iconst 0, 1) := by decide +kernel
theorem dX4_taken_1 : decode cX4_taken 1 = .ok (.istore_n 3, 1) := by decide +kernel
theorem dX4_taken_2 : decode cX4_taken 2 = .ok (.iconst 0, 1) := by decide +kernel
theorem dX4_taken_3 : decode cX4_taken 3 = .ok (.istore 4, 2) := by decide +kernel
theorem dX4_taken_5 : decode cX4_taken 5 = .ok (.iload 4, 2) := by decide +kernel
theorem dX4_taken_7 : decode cX4_taken 7 = .ok (.bipush 6, 2) := by decide +kernel
theorem dX4_taken_9 : decode cX4_taken 9 = .ok (.if_icmp .ge 34, 3) := by decide +kernel
theorem dX4_taken_12 : decode cX4_taken 12 = .ok (.iload_n 1, 1) := by decide +kernel
theorem dX4_taken_13 : decode cX4_taken 13 = .ok (.iload 4, 2) := by decide +kernel
theorem dX4_taken_15 : decode cX4_taken 15 = .ok (.ishr, 1) := by decide +kernel
theorem dX4_taken_16 : decode cX4_taken 16 = .ok (.iconst 1, 1) := by decide +kernel
theorem dX4_taken_17 : decode cX4_taken 17 = .ok (.iand, 1) := by decide +kernel
theorem dX4_taken_18 : decode cX4_taken 18 = .ok (.iconst 1, 1) := by decide +kernel
theorem dX4_taken_19 : decode cX4_taken 19 = .ok (.if_icmp .ne 18, 3) := by decide +kernel
theorem dX4_taken_22 : decode cX4_taken 22 = .ok (.iload_n 3, 1) := by decide +kernel
theorem dX4_taken_23 : decode cX4_taken 23 = .ok (.iconst 1, 1) := by decide +kernel
theorem dX4_taken_24 : decode cX4_taken 24 = .ok (.aload_n 0, 1) := by decide +kernel
theorem dX4_taken_25 : decode cX4_taken 25 = .ok (.getfield 24, 3) := by decide +kernel
theorem dX4_taken_28 : decode cX4_taken 28 = .ok (.iload 4, 2) := by decide +kernel
theorem dX4_taken_30 : decode cX4_taken 30 = .ok (.iload_n 2, 1) := by decide +kernel
theorem dX4_taken_31 : decode cX4_taken 31 = .ok (.invokevirtual 107, 3) := by decide +kernel
theorem dX4_taken_34 : decode cX4_taken 34 = .ok (.ishl, 1) := by decide +kernel
theorem dX4_taken_35 : decode cX4_taken 35 = .ok (.ior, 1) := by decide +kernel
theorem dX4_taken_36 : decode cX4_taken 36 = .ok (.istore_n 3, 1) := by decide +kernel
theorem dX4_taken_37 : decode cX4_taken 37 = .ok (.iinc 4 1, 3) := by decide +kernel
theorem dX4_taken_40 : decode cX4_taken 40 = .ok (.goto (-35), 3) := by decide +kernel
theorem dX4_taken_43 : decode cX4_taken 43 = .ok (.iload_n 3, 1) := by decide +kernel
theorem dX4_taken_44 : decode cX4_taken 44 = .ok (.ireturn, 1) := by decide +kernel
theorem dX5_init_0 : decode cX5_init 0 = .ok (.aload_n 0, 1) := by decide +kernel
theorem dX5_init_1 : decode cX5_init 1 = .ok (.invokespecial 3, 3) := by decide +kernel
theorem dX5_init_4 : decode cX5_init 4 = .ok (.aload_n 0, 1) := by decide +kernel
theorem dX5_init_5 : decode cX5_init 5 = .ok (.aload_n 1, 1) := by decide +kernel
theorem dX5_init_6 : decode cX5_init 6 = .ok (.putfield 9, 3) := by decide +kernel
theorem dX5_init_9 : decode cX5_init 9 = .ok (.aload_n 0, 1) := by decide +kernel
theorem dX5_init_10 : decode cX5_init 10 = .ok (.aload_n 2, 1) := by decide +kernel
theorem dX5_init_11 : decode cX5_init 11 = .ok (.putfield 15, 3) := by decide +kernel
theorem dX5_init_14 : decode cX5_init 14 = .ok (.aload_n 0, 1) := by decide +kernel
theorem dX5_init_15 : decode cX5_init 15 = .ok (.aload_n 3, 1) := by decide +kernel
theorem dX5_init_16 : decode cX5_init 16 = .ok (.putfield 19, 3) := by decide +kernel
theorem dX5_init_19 : decode cX5_init 19 = .ok (.return_, 1) := by decide +kernel
theorem dX5_standing_0 : decode cX5_standing 0 = .ok (.aload_n 1, 1) := by decide +kernel
theorem dX5_standing_1 : decode cX5_standing 1 = .ok (.iload_n 2, 1) := by decide +kernel
theorem dX5_standing_2 : decode cX5_standing 2 = .ok (.invokevirtual 23, 3) := by decide +kernel
theorem dX5_standing_5 : decode cX5_standing 5 = .ok (.ifCond .ne 5, 3) := by decide +kernel
theorem dX5_standing_8 : decode cX5_standing 8 = .ok (.iconst 1, 1) := by decide +kernel
theorem dX5_standing_9 : decode cX5_standing 9 = .ok (.ireturn, 1) := by decide +kernel
theorem dX5_standing_10 : decode cX5_standing 10 = .ok (.aload_n 0, 1) := by decide +kernel
theorem dX5_standing_11 : decode cX5_standing 11 = .ok (.getfield 15, 3) := by decide +kernel
theorem dX5_standing_14 : decode cX5_standing 14 = .ok (.iconst 1, 1) := by decide +kernel
theorem dX5_standing_15 : decode cX5_standing 15 = .ok (.aload_n 1, 1) := by decide +kernel
theorem dX5_standing_16 : decode cX5_standing 16 = .ok (.getfield 29, 3) := by decide +kernel
theorem dX5_standing_19 : decode cX5_standing 19 = .ok (.iload_n 2, 1) := by decide +kernel
theorem dX5_standing_20 : decode cX5_standing 20 = .ok (.iload_n 3, 1) := by decide +kernel
theorem dX5_standing_21 : decode cX5_standing 21 = .ok (.invokevirtual 33, 3) := by decide +kernel
theorem dX5_standing_24 : decode cX5_standing 24 = .ok (.iconst (-1), 1) := by decide +kernel
theorem dX5_standing_25 : decode cX5_standing 25 = .ok (.if_icmp .eq 5, 3) := by decide +kernel
theorem dX5_standing_28 : decode cX5_standing 28 = .ok (.iconst 2, 1) := by decide +kernel
theorem dX5_standing_29 : decode cX5_standing 29 = .ok (.ireturn, 1) := by decide +kernel
theorem dX5_standing_30 : decode cX5_standing 30 = .ok (.aload_n 0, 1) := by decide +kernel
theorem dX5_standing_31 : decode cX5_standing 31 = .ok (.getfield 15, 3) := by decide +kernel
theorem dX5_standing_34 : decode cX5_standing 34 = .ok (.iconst 2, 1) := by decide +kernel
theorem dX5_standing_35 : decode cX5_standing 35 = .ok (.aload_n 1, 1) := by decide +kernel
theorem dX5_standing_36 : decode cX5_standing 36 = .ok (.getfield 29, 3) := by decide +kernel
theorem dX5_standing_39 : decode cX5_standing 39 = .ok (.iload_n 2, 1) := by decide +kernel
theorem dX5_standing_40 : decode cX5_standing 40 = .ok (.iload_n 3, 1) := by decide +kernel
theorem dX5_standing_41 : decode cX5_standing 41 = .ok (.invokevirtual 33, 3) := by decide +kernel
theorem dX5_standing_44 : decode cX5_standing 44 = .ok (.iconst (-1), 1) := by decide +kernel
theorem dX5_standing_45 : decode cX5_standing 45 = .ok (.if_icmp .eq 5, 3) := by decide +kernel
theorem dX5_standing_48 : decode cX5_standing 48 = .ok (.iconst 3, 1) := by decide +kernel
theorem dX5_standing_49 : decode cX5_standing 49 = .ok (.ireturn, 1) := by decide +kernel
theorem dX5_standing_50 : decode cX5_standing 50 = .ok (.aload_n 0, 1) := by decide +kernel
theorem dX5_standing_51 : decode cX5_standing 51 = .ok (.getfield 9, 3) := by decide +kernel
theorem dX5_standing_54 : decode cX5_standing 54 = .ok (.getfield 39, 3) := by decide +kernel
theorem dX5_standing_57 : decode cX5_standing 57 = .ok (.iload_n 2, 1) := by decide +kernel
theorem dX5_standing_58 : decode cX5_standing 58 = .ok (.iaload, 1) := by decide +kernel
theorem dX5_standing_59 : decode cX5_standing 59 = .ok (.istore 4, 2) := by decide +kernel
theorem dX5_standing_61 : decode cX5_standing 61 = .ok (.aload_n 0, 1) := by decide +kernel
theorem dX5_standing_62 : decode cX5_standing 62 = .ok (.getfield 15, 3) := by decide +kernel
theorem dX5_standing_65 : decode cX5_standing 65 = .ok (.aload_n 1, 1) := by decide +kernel
theorem dX5_standing_66 : decode cX5_standing 66 = .ok (.getfield 29, 3) := by decide +kernel
theorem dX5_standing_69 : decode cX5_standing 69 = .ok (.iload_n 2, 1) := by decide +kernel
theorem dX5_standing_70 : decode cX5_standing 70 = .ok (.iload_n 3, 1) := by decide +kernel
theorem dX5_standing_71 : decode cX5_standing 71 = .ok (.invokevirtual 45, 3) := by decide +kernel
theorem dX5_standing_74 : decode cX5_standing 74 = .ok (.istore 5, 2) := by decide +kernel
theorem dX5_standing_76 : decode cX5_standing 76 = .ok (.iload 5, 2) := by decide +kernel
theorem dX5_standing_78 : decode cX5_standing 78 = .ok (.iconst (-1), 1) := by decide +kernel
theorem dX5_standing_79 : decode cX5_standing 79 = .ok (.if_icmp .eq 19, 3) := by decide +kernel
theorem dX5_standing_82 : decode cX5_standing 82 = .ok (.aload_n 0, 1) := by decide +kernel
theorem dX5_standing_83 : decode cX5_standing 83 = .ok (.getfield 9, 3) := by decide +kernel
theorem dX5_standing_86 : decode cX5_standing 86 = .ok (.iload 4, 2) := by decide +kernel
theorem dX5_standing_88 : decode cX5_standing 88 = .ok (.iload 5, 2) := by decide +kernel
theorem dX5_standing_90 : decode cX5_standing 90 = .ok (.invokevirtual 49, 3) := by decide +kernel
theorem dX5_standing_93 : decode cX5_standing 93 = .ok (.ifCond .ne 5, 3) := by decide +kernel
theorem dX5_standing_96 : decode cX5_standing 96 = .ok (.iconst 4, 1) := by decide +kernel
theorem dX5_standing_97 : decode cX5_standing 97 = .ok (.ireturn, 1) := by decide +kernel
theorem dX5_standing_98 : decode cX5_standing 98 = .ok (.aload_n 1, 1) := by decide +kernel
theorem dX5_standing_99 : decode cX5_standing 99 = .ok (.getfield 53, 3) := by decide +kernel
theorem dX5_standing_102 : decode cX5_standing 102 = .ok (.iload 4, 2) := by decide +kernel
theorem dX5_standing_104 : decode cX5_standing 104 = .ok (.invokevirtual 57, 3) := by decide +kernel
theorem dX5_standing_107 : decode cX5_standing 107 = .ok (.ifCond .ne 5, 3) := by decide +kernel
theorem dX5_standing_110 : decode cX5_standing 110 = .ok (.iconst 5, 1) := by decide +kernel
theorem dX5_standing_111 : decode cX5_standing 111 = .ok (.ireturn, 1) := by decide +kernel
theorem dX5_standing_112 : decode cX5_standing 112 = .ok (.aload_n 1, 1) := by decide +kernel
theorem dX5_standing_113 : decode cX5_standing 113 = .ok (.getfield 53, 3) := by decide +kernel
theorem dX5_standing_116 : decode cX5_standing 116 = .ok (.iload 4, 2) := by decide +kernel
theorem dX5_standing_118 : decode cX5_standing 118 = .ok (.iconst 1, 1) := by decide +kernel
theorem dX5_standing_119 : decode cX5_standing 119 = .ok (.invokevirtual 62, 3) := by decide +kernel
theorem dX5_standing_122 : decode cX5_standing 122 = .ok (.istore 6, 2) := by decide +kernel
theorem dX5_standing_124 : decode cX5_standing 124 = .ok (.aload_n 0, 1) := by decide +kernel
theorem dX5_standing_125 : decode cX5_standing 125 = .ok (.getfield 19, 3) := by decide +kernel
theorem dX5_standing_128 : decode cX5_standing 128 = .ok (.iload 6, 2) := by decide +kernel
theorem dX5_standing_130 : decode cX5_standing 130 = .ok (.aload_n 1, 1) := by decide +kernel
theorem dX5_standing_131 : decode cX5_standing 131 = .ok (.iload_n 2, 1) := by decide +kernel
theorem dX5_standing_132 : decode cX5_standing 132 = .ok (.iload_n 3, 1) := by decide +kernel
theorem dX5_standing_133 : decode cX5_standing 133 = .ok (.invokevirtual 66, 3) := by decide +kernel
theorem dX5_standing_136 : decode cX5_standing 136 = .ok (.iconst (-1), 1) := by decide +kernel
theorem dX5_standing_137 : decode cX5_standing 137 = .ok (.if_icmp .eq 8, 3) := by decide +kernel
theorem dX5_standing_140 : decode cX5_standing 140 = .ok (.bipush 6, 2) := by decide +kernel
theorem dX5_standing_142 : decode cX5_standing 142 = .ok (.goto 4, 3) := by decide +kernel
theorem dX5_standing_145 : decode cX5_standing 145 = .ok (.iconst 0, 1) := by decide +kernel
theorem dX5_standing_146 : decode cX5_standing 146 = .ok (.ireturn, 1) := by decide +kernel
theorem dX5_winnerOf_0 : decode cX5_winnerOf 0 = .ok (.iconst (-1), 1) := by decide +kernel
theorem dX5_winnerOf_1 : decode cX5_winnerOf 1 = .ok (.istore 4, 2) := by decide +kernel
theorem dX5_winnerOf_3 : decode cX5_winnerOf 3 = .ok (.iconst (-1), 1) := by decide +kernel
theorem dX5_winnerOf_4 : decode cX5_winnerOf 4 = .ok (.istore 5, 2) := by decide +kernel
theorem dX5_winnerOf_6 : decode cX5_winnerOf 6 = .ok (.iconst 0, 1) := by decide +kernel
theorem dX5_winnerOf_7 : decode cX5_winnerOf 7 = .ok (.istore 6, 2) := by decide +kernel
theorem dX5_winnerOf_9 : decode cX5_winnerOf 9 = .ok (.iload 6, 2) := by decide +kernel
theorem dX5_winnerOf_11 : decode cX5_winnerOf 11 = .ok (.aload_n 0, 1) := by decide +kernel
theorem dX5_winnerOf_12 : decode cX5_winnerOf 12 = .ok (.getfield 9, 3) := by decide +kernel
theorem dX5_winnerOf_15 : decode cX5_winnerOf 15 = .ok (.getfield 72, 3) := by decide +kernel
theorem dX5_winnerOf_18 : decode cX5_winnerOf 18 = .ok (.if_icmp .ge 88, 3) := by decide +kernel
theorem dX5_winnerOf_21 : decode cX5_winnerOf 21 = .ok (.aload_n 0, 1) := by decide +kernel
theorem dX5_winnerOf_22 : decode cX5_winnerOf 22 = .ok (.getfield 15, 3) := by decide +kernel
theorem dX5_winnerOf_25 : decode cX5_winnerOf 25 = .ok (.iconst 0, 1) := by decide +kernel
theorem dX5_winnerOf_26 : decode cX5_winnerOf 26 = .ok (.aload_n 1, 1) := by decide +kernel
theorem dX5_winnerOf_27 : decode cX5_winnerOf 27 = .ok (.getfield 29, 3) := by decide +kernel
theorem dX5_winnerOf_30 : decode cX5_winnerOf 30 = .ok (.iload 6, 2) := by decide +kernel
theorem dX5_winnerOf_32 : decode cX5_winnerOf 32 = .ok (.iload_n 3, 1) := by decide +kernel
theorem dX5_winnerOf_33 : decode cX5_winnerOf 33 = .ok (.invokevirtual 33, 3) := by decide +kernel
theorem dX5_winnerOf_36 : decode cX5_winnerOf 36 = .ok (.istore 7, 2) := by decide +kernel
theorem dX5_winnerOf_38 : decode cX5_winnerOf 38 = .ok (.aload_n 0, 1) := by decide +kernel
theorem dX5_winnerOf_39 : decode cX5_winnerOf 39 = .ok (.getfield 9, 3) := by decide +kernel
theorem dX5_winnerOf_42 : decode cX5_winnerOf 42 = .ok (.getfield 39, 3) := by decide +kernel
theorem dX5_winnerOf_45 : decode cX5_winnerOf 45 = .ok (.iload 6, 2) := by decide +kernel
theorem dX5_winnerOf_47 : decode cX5_winnerOf 47 = .ok (.iaload, 1) := by decide +kernel
theorem dX5_winnerOf_48 : decode cX5_winnerOf 48 = .ok (.iload_n 2, 1) := by decide +kernel
theorem dX5_winnerOf_49 : decode cX5_winnerOf 49 = .ok (.if_icmp .ne 24, 3) := by decide +kernel
theorem dX5_winnerOf_52 : decode cX5_winnerOf 52 = .ok (.iload 7, 2) := by decide +kernel
theorem dX5_winnerOf_54 : decode cX5_winnerOf 54 = .ok (.iconst (-1), 1) := by decide +kernel
theorem dX5_winnerOf_55 : decode cX5_winnerOf 55 = .ok (.if_icmp .eq 18, 3) := by decide +kernel
theorem dX5_winnerOf_58 : decode cX5_winnerOf 58 = .ok (.aload_n 0, 1) := by decide +kernel
theorem dX5_winnerOf_59 : decode cX5_winnerOf 59 = .ok (.iload 7, 2) := by decide +kernel
theorem dX5_winnerOf_61 : decode cX5_winnerOf 61 = .ok (.iload 5, 2) := by decide +kernel
theorem dX5_winnerOf_63 : decode cX5_winnerOf 63 = .ok (.invokevirtual 75, 3) := by decide +kernel
theorem dX5_winnerOf_66 : decode cX5_winnerOf 66 = .ok (.ifCond .eq 7, 3) := by decide +kernel
theorem dX5_winnerOf_69 : decode cX5_winnerOf 69 = .ok (.iconst 1, 1) := by decide +kernel
theorem dX5_winnerOf_70 : decode cX5_winnerOf 70 = .ok (.goto 4, 3) := by decide +kernel
theorem dX5_winnerOf_73 : decode cX5_winnerOf 73 = .ok (.iconst 0, 1) := by decide +kernel
theorem dX5_winnerOf_74 : decode cX5_winnerOf 74 = .ok (.istore 8, 2) := by decide +kernel
theorem dX5_winnerOf_76 : decode cX5_winnerOf 76 = .ok (.iload 8, 2) := by decide +kernel
theorem dX5_winnerOf_78 : decode cX5_winnerOf 78 = .ok (.ifCond .eq 22, 3) := by decide +kernel
theorem dX5_winnerOf_81 : decode cX5_winnerOf 81 = .ok (.aload_n 0, 1) := by decide +kernel
theorem dX5_winnerOf_82 : decode cX5_winnerOf 82 = .ok (.aload_n 1, 1) := by decide +kernel
theorem dX5_winnerOf_83 : decode cX5_winnerOf 83 = .ok (.iload 6, 2) := by decide +kernel
theorem dX5_winnerOf_85 : decode cX5_winnerOf 85 = .ok (.iload_n 3, 1) := by decide +kernel
theorem dX5_winnerOf_86 : decode cX5_winnerOf 86 = .ok (.invokevirtual 78, 3) := by decide +kernel
theorem dX5_winnerOf_89 : decode cX5_winnerOf 89 = .ok (.ifCond .ne 11, 3) := by decide +kernel
theorem dX5_winnerOf_92 : decode cX5_winnerOf 92 = .ok (.iload 6, 2) := by decide +kernel
theorem dX5_winnerOf_94 : decode cX5_winnerOf 94 = .ok (.istore 4, 2) := by decide +kernel
theorem dX5_winnerOf_96 : decode cX5_winnerOf 96 = .ok (.iload 7, 2) := by decide +kernel
theorem dX5_winnerOf_98 : decode cX5_winnerOf 98 = .ok (.istore 5, 2) := by decide +kernel
theorem dX5_winnerOf_100 : decode cX5_winnerOf 100 = .ok (.iinc 6 1, 3) := by decide +kernel
theorem dX5_winnerOf_103 : decode cX5_winnerOf 103 = .ok (.goto (-94), 3) := by decide +kernel
theorem dX5_winnerOf_106 : decode cX5_winnerOf 106 = .ok (.iload 4, 2) := by decide +kernel
theorem dX5_winnerOf_108 : decode cX5_winnerOf 108 = .ok (.ireturn, 1) := by decide +kernel
theorem dX5_goesAhead_0 : decode cX5_goesAhead 0 = .ok (.aload_n 0, 1) := by decide +kernel
theorem dX5_goesAhead_1 : decode cX5_goesAhead 1 = .ok (.getfield 15, 3) := by decide +kernel
theorem dX5_goesAhead_4 : decode cX5_goesAhead 4 = .ok (.iload_n 1, 1) := by decide +kernel
theorem dX5_goesAhead_5 : decode cX5_goesAhead 5 = .ok (.invokevirtual 82, 3) := by decide +kernel
theorem dX5_goesAhead_8 : decode cX5_goesAhead 8 = .ok (.istore_n 3, 1) := by decide +kernel
theorem dX5_goesAhead_9 : decode cX5_goesAhead 9 = .ok (.aload_n 0, 1) := by decide +kernel
theorem dX5_goesAhead_10 : decode cX5_goesAhead 10 = .ok (.getfield 15, 3) := by decide +kernel
theorem dX5_goesAhead_13 : decode cX5_goesAhead 13 = .ok (.iload_n 2, 1) := by decide +kernel
theorem dX5_goesAhead_14 : decode cX5_goesAhead 14 = .ok (.invokevirtual 82, 3) := by decide +kernel
theorem dX5_goesAhead_17 : decode cX5_goesAhead 17 = .ok (.istore 4, 2) := by decide +kernel
theorem dX5_goesAhead_19 : decode cX5_goesAhead 19 = .ok (.iload_n 2, 1) := by decide +kernel
theorem dX5_goesAhead_20 : decode cX5_goesAhead 20 = .ok (.iconst (-1), 1) := by decide +kernel
theorem dX5_goesAhead_21 : decode cX5_goesAhead 21 = .ok (.if_icmp .eq 20, 3) := by decide +kernel
theorem dX5_goesAhead_24 : decode cX5_goesAhead 24 = .ok (.iload_n 3, 1) := by decide +kernel
theorem dX5_goesAhead_25 : decode cX5_goesAhead 25 = .ok (.iload 4, 2) := by decide +kernel
theorem dX5_goesAhead_27 : decode cX5_goesAhead 27 = .ok (.if_icmp .lt 14, 3) := by decide +kernel
theorem dX5_goesAhead_30 : decode cX5_goesAhead 30 = .ok (.iload_n 3, 1) := by decide +kernel
theorem dX5_goesAhead_31 : decode cX5_goesAhead 31 = .ok (.iload 4, 2) := by decide +kernel
theorem dX5_goesAhead_33 : decode cX5_goesAhead 33 = .ok (.if_icmp .ne 12, 3) := by decide +kernel
theorem dX5_goesAhead_36 : decode cX5_goesAhead 36 = .ok (.iload_n 1, 1) := by decide +kernel
theorem dX5_goesAhead_37 : decode cX5_goesAhead 37 = .ok (.iload_n 2, 1) := by decide +kernel
theorem dX5_goesAhead_38 : decode cX5_goesAhead 38 = .ok (.if_icmp .ge 7, 3) := by decide +kernel
theorem dX5_goesAhead_41 : decode cX5_goesAhead 41 = .ok (.iconst 1, 1) := by decide +kernel
theorem dX5_goesAhead_42 : decode cX5_goesAhead 42 = .ok (.goto 4, 3) := by decide +kernel
theorem dX5_goesAhead_45 : decode cX5_goesAhead 45 = .ok (.iconst 0, 1) := by decide +kernel
theorem dX5_goesAhead_46 : decode cX5_goesAhead 46 = .ok (.ireturn, 1) := by decide +kernel
theorem dX5_pointsOfWinner_0 : decode cX5_pointsOfWinner 0 = .ok (.aload_n 0, 1) := by decide +kernel
theorem dX5_pointsOfWinner_1 : decode cX5_pointsOfWinner 1 = .ok (.getfield 9, 3) := by decide +kernel
theorem dX5_pointsOfWinner_4 : decode cX5_pointsOfWinner 4 = .ok (.getfield 39, 3) := by decide +kernel
theorem dX5_pointsOfWinner_7 : decode cX5_pointsOfWinner 7 = .ok (.iload_n 2, 1) := by decide +kernel
theorem dX5_pointsOfWinner_8 : decode cX5_pointsOfWinner 8 = .ok (.iaload, 1) := by decide +kernel
theorem dX5_pointsOfWinner_9 : decode cX5_pointsOfWinner 9 = .ok (.istore 4, 2) := by decide +kernel
theorem dX5_pointsOfWinner_11 : decode cX5_pointsOfWinner 11 = .ok (.iconst 0, 1) := by decide +kernel
theorem dX5_pointsOfWinner_12 : decode cX5_pointsOfWinner 12 = .ok (.istore 5, 2) := by decide +kernel
theorem dX5_pointsOfWinner_14 : decode cX5_pointsOfWinner 14 = .ok (.iconst 0, 1) := by decide +kernel
theorem dX5_pointsOfWinner_15 : decode cX5_pointsOfWinner 15 = .ok (.istore 6, 2) := by decide +kernel
theorem dX5_pointsOfWinner_17 : decode cX5_pointsOfWinner 17 = .ok (.iload 6, 2) := by decide +kernel
theorem dX5_pointsOfWinner_19 : decode cX5_pointsOfWinner 19 = .ok (.aload_n 0, 1) := by decide +kernel
theorem dX5_pointsOfWinner_20 : decode cX5_pointsOfWinner 20 = .ok (.getfield 9, 3) := by decide +kernel
theorem dX5_pointsOfWinner_23 : decode cX5_pointsOfWinner 23 = .ok (.getfield 72, 3) := by decide +kernel
theorem dX5_pointsOfWinner_26 : decode cX5_pointsOfWinner 26 = .ok (.if_icmp .ge 44, 3) := by decide +kernel
theorem dX5_pointsOfWinner_29 : decode cX5_pointsOfWinner 29 = .ok (.iload 6, 2) := by decide +kernel
theorem dX5_pointsOfWinner_31 : decode cX5_pointsOfWinner 31 = .ok (.iload_n 2, 1) := by decide +kernel
theorem dX5_pointsOfWinner_32 : decode cX5_pointsOfWinner 32 = .ok (.if_icmp .eq 32, 3) := by decide +kernel
theorem dX5_pointsOfWinner_35 : decode cX5_pointsOfWinner 35 = .ok (.aload_n 0, 1) := by decide +kernel
theorem dX5_pointsOfWinner_36 : decode cX5_pointsOfWinner 36 = .ok (.getfield 9, 3) := by decide +kernel
theorem dX5_pointsOfWinner_39 : decode cX5_pointsOfWinner 39 = .ok (.getfield 39, 3) := by decide +kernel
theorem dX5_pointsOfWinner_42 : decode cX5_pointsOfWinner 42 = .ok (.iload 6, 2) := by decide +kernel
theorem dX5_pointsOfWinner_44 : decode cX5_pointsOfWinner 44 = .ok (.iaload, 1) := by decide +kernel
theorem dX5_pointsOfWinner_45 : decode cX5_pointsOfWinner 45 = .ok (.iload 4, 2) := by decide +kernel
theorem dX5_pointsOfWinner_47 : decode cX5_pointsOfWinner 47 = .ok (.if_icmp .ne 17, 3) := by decide +kernel
theorem dX5_pointsOfWinner_50 : decode cX5_pointsOfWinner 50 = .ok (.aload_n 0, 1) := by decide +kernel
theorem dX5_pointsOfWinner_51 : decode cX5_pointsOfWinner 51 = .ok (.aload_n 1, 1) := by decide +kernel
theorem dX5_pointsOfWinner_52 : decode cX5_pointsOfWinner 52 = .ok (.iload 6, 2) := by decide +kernel
theorem dX5_pointsOfWinner_54 : decode cX5_pointsOfWinner 54 = .ok (.iload_n 3, 1) := by decide +kernel
theorem dX5_pointsOfWinner_55 : decode cX5_pointsOfWinner 55 = .ok (.invokevirtual 78, 3) := by decide +kernel
theorem dX5_pointsOfWinner_58 : decode cX5_pointsOfWinner 58 = .ok (.ifCond .ne 6, 3) := by decide +kernel
theorem dX5_pointsOfWinner_61 : decode cX5_pointsOfWinner 61 = .ok (.iinc 5 1, 3) := by decide +kernel
theorem dX5_pointsOfWinner_64 : decode cX5_pointsOfWinner 64 = .ok (.iinc 6 1, 3) := by decide +kernel
theorem dX5_pointsOfWinner_67 : decode cX5_pointsOfWinner 67 = .ok (.goto (-50), 3) := by decide +kernel
theorem dX5_pointsOfWinner_70 : decode cX5_pointsOfWinner 70 = .ok (.aload_n 0, 1) := by decide +kernel
theorem dX5_pointsOfWinner_71 : decode cX5_pointsOfWinner 71 = .ok (.getfield 19, 3) := by decide +kernel
theorem dX5_pointsOfWinner_74 : decode cX5_pointsOfWinner 74 = .ok (.aload_n 1, 1) := by decide +kernel
theorem dX5_pointsOfWinner_75 : decode cX5_pointsOfWinner 75 = .ok (.iload_n 2, 1) := by decide +kernel
theorem dX5_pointsOfWinner_76 : decode cX5_pointsOfWinner 76 = .ok (.iload 5, 2) := by decide +kernel
theorem dX5_pointsOfWinner_78 : decode cX5_pointsOfWinner 78 = .ok (.invokevirtual 86, 3) := by decide +kernel
theorem dX5_pointsOfWinner_81 : decode cX5_pointsOfWinner 81 = .ok (.ireturn, 1) := by decide +kernel
theorem dX6_init_0 : decode cX6_init 0 = .ok (.aload_n 0, 1) := by decide +kernel
theorem dX6_init_1 : decode cX6_init 1 = .ok (.invokespecial 3, 3) := by decide +kernel
theorem dX6_init_4 : decode cX6_init 4 = .ok (.aload_n 0, 1) := by decide +kernel
theorem dX6_init_5 : decode cX6_init 5 = .ok (.sipush 401, 3) := by decide +kernel
theorem dX6_init_8 : decode cX6_init 8 = .ok (.newarray .int, 2) := by decide +kernel
theorem dX6_init_10 : decode cX6_init 10 = .ok (.putfield 9, 3) := by decide +kernel
theorem dX6_init_13 : decode cX6_init 13 = .ok (.aload_n 0, 1) := by decide +kernel
theorem dX6_init_14 : decode cX6_init 14 = .ok (.sipush 401, 3) := by decide +kernel
theorem dX6_init_17 : decode cX6_init 17 = .ok (.newarray .int, 2) := by decide +kernel
theorem dX6_init_19 : decode cX6_init 19 = .ok (.putfield 15, 3) := by decide +kernel
theorem dX6_init_22 : decode cX6_init 22 = .ok (.aload_n 0, 1) := by decide +kernel
theorem dX6_init_23 : decode cX6_init 23 = .ok (.sipush 401, 3) := by decide +kernel
theorem dX6_init_26 : decode cX6_init 26 = .ok (.newarray .int, 2) := by decide +kernel
theorem dX6_init_28 : decode cX6_init 28 = .ok (.putfield 18, 3) := by decide +kernel
theorem dX6_init_31 : decode cX6_init 31 = .ok (.aload_n 0, 1) := by decide +kernel
theorem dX6_init_32 : decode cX6_init 32 = .ok (.iconst 0, 1) := by decide +kernel
theorem dX6_init_33 : decode cX6_init 33 = .ok (.putfield 21, 3) := by decide +kernel
theorem dX6_init_36 : decode cX6_init 36 = .ok (.aload_n 0, 1) := by decide +kernel
theorem dX6_init_37 : decode cX6_init 37 = .ok (.aload_n 1, 1) := by decide +kernel
theorem dX6_init_38 : decode cX6_init 38 = .ok (.putfield 25, 3) := by decide +kernel
theorem dX6_init_41 : decode cX6_init 41 = .ok (.return_, 1) := by decide +kernel
theorem dX6_split_0 : decode cX6_split 0 = .ok (.iconst 0, 1) := by decide +kernel
theorem dX6_split_1 : decode cX6_split 1 = .ok (.istore_n 1, 1) := by decide +kernel
theorem dX6_split_2 : decode cX6_split 2 = .ok (.iconst 1, 1) := by decide +kernel
theorem dX6_split_3 : decode cX6_split 3 = .ok (.istore_n 2, 1) := by decide +kernel
theorem dX6_split_4 : decode cX6_split 4 = .ok (.aload_n 0, 1) := by decide +kernel
theorem dX6_split_5 : decode cX6_split 5 = .ok (.iconst 0, 1) := by decide +kernel
theorem dX6_split_6 : decode cX6_split 6 = .ok (.putfield 21, 3) := by decide +kernel
theorem dX6_split_9 : decode cX6_split 9 = .ok (.iconst 0, 1) := by decide +kernel
theorem dX6_split_10 : decode cX6_split 10 = .ok (.istore_n 3, 1) := by decide +kernel
theorem dX6_split_11 : decode cX6_split 11 = .ok (.iload_n 3, 1) := by decide +kernel
theorem dX6_split_12 : decode cX6_split 12 = .ok (.sipush 400, 3) := by decide +kernel
theorem dX6_split_15 : decode cX6_split 15 = .ok (.if_icmp .gt 105, 3) := by decide +kernel
theorem dX6_split_18 : decode cX6_split 18 = .ok (.iload_n 2, 1) := by decide +kernel
theorem dX6_split_19 : decode cX6_split 19 = .ok (.ifCond .eq 101, 3) := by decide +kernel
theorem dX6_split_22 : decode cX6_split 22 = .ok (.aload_n 0, 1) := by decide +kernel
theorem dX6_split_23 : decode cX6_split 23 = .ok (.iload_n 1, 1) := by decide +kernel
theorem dX6_split_24 : decode cX6_split 24 = .ok (.iconst 0, 1) := by decide +kernel
theorem dX6_split_25 : decode cX6_split 25 = .ok (.invokevirtual 29, 3) := by decide +kernel
theorem dX6_split_28 : decode cX6_split 28 = .ok (.istore_n 1, 1) := by decide +kernel
theorem dX6_split_29 : decode cX6_split 29 = .ok (.aload_n 0, 1) := by decide +kernel
theorem dX6_split_30 : decode cX6_split 30 = .ok (.iload_n 1, 1) := by decide +kernel
theorem dX6_split_31 : decode cX6_split 31 = .ok (.invokevirtual 33, 3) := by decide +kernel
theorem dX6_split_34 : decode cX6_split 34 = .ok (.istore 4, 2) := by decide +kernel
theorem dX6_split_36 : decode cX6_split 36 = .ok (.aload_n 0, 1) := by decide +kernel
theorem dX6_split_37 : decode cX6_split 37 = .ok (.iload_n 1, 1) := by decide +kernel
theorem dX6_split_38 : decode cX6_split 38 = .ok (.iload 4, 2) := by decide +kernel
theorem dX6_split_40 : decode cX6_split 40 = .ok (.invokevirtual 37, 3) := by decide +kernel
theorem dX6_split_43 : decode cX6_split 43 = .ok (.istore 5, 2) := by decide +kernel
theorem dX6_split_45 : decode cX6_split 45 = .ok (.aload_n 0, 1) := by decide +kernel
theorem dX6_split_46 : decode cX6_split 46 = .ok (.getfield 9, 3) := by decide +kernel
theorem dX6_split_49 : decode cX6_split 49 = .ok (.iload_n 3, 1) := by decide +kernel
theorem dX6_split_50 : decode cX6_split 50 = .ok (.iload 5, 2) := by decide +kernel
theorem dX6_split_52 : decode cX6_split 52 = .ok (.iastore, 1) := by decide +kernel
theorem dX6_split_53 : decode cX6_split 53 = .ok (.aload_n 0, 1) := by decide +kernel
theorem dX6_split_54 : decode cX6_split 54 = .ok (.getfield 15, 3) := by decide +kernel
theorem dX6_split_57 : decode cX6_split 57 = .ok (.iload_n 3, 1) := by decide +kernel
theorem dX6_split_58 : decode cX6_split 58 = .ok (.iload_n 1, 1) := by decide +kernel
theorem dX6_split_59 : decode cX6_split 59 = .ok (.iastore, 1) := by decide +kernel
theorem dX6_split_60 : decode cX6_split 60 = .ok (.aload_n 0, 1) := by decide +kernel
theorem dX6_split_61 : decode cX6_split 61 = .ok (.getfield 18, 3) := by decide +kernel
theorem dX6_split_64 : decode cX6_split 64 = .ok (.iload_n 3, 1) := by decide +kernel
theorem dX6_split_65 : decode cX6_split 65 = .ok (.iload 5, 2) := by decide +kernel
theorem dX6_split_67 : decode cX6_split 67 = .ok (.bipush 16, 2) := by decide +kernel
theorem dX6_split_69 : decode cX6_split 69 = .ok (.if_icmp .ne 13, 3) := by decide +kernel
theorem dX6_split_72 : decode cX6_split 72 = .ok (.aload_n 0, 1) := by decide +kernel
theorem dX6_split_73 : decode cX6_split 73 = .ok (.iload_n 1, 1) := by decide +kernel
theorem dX6_split_74 : decode cX6_split 74 = .ok (.iload 4, 2) := by decide +kernel
theorem dX6_split_76 : decode cX6_split 76 = .ok (.invokevirtual 40, 3) := by decide +kernel
theorem dX6_split_79 : decode cX6_split 79 = .ok (.goto 4, 3) := by decide +kernel
theorem dX6_split_82 : decode cX6_split 82 = .ok (.iconst 0, 1) := by decide +kernel
theorem dX6_split_83 : decode cX6_split 83 = .ok (.iastore, 1) := by decide +kernel
theorem dX6_split_84 : decode cX6_split 84 = .ok (.aload_n 0, 1) := by decide +kernel
theorem dX6_split_85 : decode cX6_split 85 = .ok (.iload_n 3, 1) := by decide +kernel
theorem dX6_split_86 : decode cX6_split 86 = .ok (.iconst 1, 1) := by decide +kernel
theorem dX6_split_87 : decode cX6_split 87 = .ok (.iadd, 1) := by decide +kernel
theorem dX6_split_88 : decode cX6_split 88 = .ok (.putfield 21, 3) := by decide +kernel
theorem dX6_split_91 : decode cX6_split 91 = .ok (.iload 4, 2) := by decide +kernel
theorem dX6_split_93 : decode cX6_split 93 = .ok (.istore_n 1, 1) := by decide +kernel
theorem dX6_split_94 : decode cX6_split 94 = .ok (.iload 5, 2) := by decide +kernel
theorem dX6_split_96 : decode cX6_split 96 = .ok (.bipush 27, 2) := by decide +kernel
theorem dX6_split_98 : decode cX6_split 98 = .ok (.if_icmp .eq 14, 3) := by decide +kernel
theorem dX6_split_101 : decode cX6_split 101 = .ok (.iload 5, 2) := by decide +kernel
theorem dX6_split_103 : decode cX6_split 103 = .ok (.bipush 28, 2) := by decide +kernel
theorem dX6_split_105 : decode cX6_split 105 = .ok (.if_icmp .eq 7, 3) := by decide +kernel
theorem dX6_split_108 : decode cX6_split 108 = .ok (.iconst 1, 1) := by decide +kernel
theorem dX6_split_109 : decode cX6_split 109 = .ok (.goto 4, 3) := by decide +kernel
theorem dX6_split_112 : decode cX6_split 112 = .ok (.iconst 0, 1) := by decide +kernel
theorem dX6_split_113 : decode cX6_split 113 = .ok (.istore_n 2, 1) := by decide +kernel
theorem dX6_split_114 : decode cX6_split 114 = .ok (.iinc 3 1, 3) := by decide +kernel
theorem dX6_split_117 : decode cX6_split 117 = .ok (.goto (-106), 3) := by decide +kernel
theorem dX6_split_120 : decode cX6_split 120 = .ok (.return_, 1) := by decide +kernel
theorem dX6_sortOf_0 : decode cX6_sortOf 0 = .ok (.iload_n 0, 1) := by decide +kernel
theorem dX6_sortOf_1 : decode cX6_sortOf 1 = .ok (.bipush 9, 2) := by decide +kernel
theorem dX6_sortOf_3 : decode cX6_sortOf 3 = .ok (.if_icmp .eq 21, 3) := by decide +kernel
theorem dX6_sortOf_6 : decode cX6_sortOf 6 = .ok (.iload_n 0, 1) := by decide +kernel
theorem dX6_sortOf_7 : decode cX6_sortOf 7 = .ok (.bipush 10, 2) := by decide +kernel
theorem dX6_sortOf_9 : decode cX6_sortOf 9 = .ok (.if_icmp .eq 15, 3) := by decide +kernel
theorem dX6_sortOf_12 : decode cX6_sortOf 12 = .ok (.iload_n 0, 1) := by decide +kernel
theorem dX6_sortOf_13 : decode cX6_sortOf 13 = .ok (.bipush 13, 2) := by decide +kernel
theorem dX6_sortOf_15 : decode cX6_sortOf 15 = .ok (.if_icmp .eq 9, 3) := by decide +kernel
theorem dX6_sortOf_18 : decode cX6_sortOf 18 = .ok (.iload_n 0, 1) := by decide +kernel
theorem dX6_sortOf_19 : decode cX6_sortOf 19 = .ok (.bipush 32, 2) := by decide +kernel
theorem dX6_sortOf_21 : decode cX6_sortOf 21 = .ok (.if_icmp .ne 5, 3) := by decide +kernel
theorem dX6_sortOf_24 : decode cX6_sortOf 24 = .ok (.iconst 0, 1) := by decide +kernel
theorem dX6_sortOf_25 : decode cX6_sortOf 25 = .ok (.ireturn, 1) := by decide +kernel
theorem dX6_sortOf_26 : decode cX6_sortOf 26 = .ok (.iload_n 0, 1) := by decide +kernel
theorem dX6_sortOf_27 : decode cX6_sortOf 27 = .ok (.bipush 97, 2) := by decide +kernel
theorem dX6_sortOf_29 : decode cX6_sortOf 29 = .ok (.if_icmp .lt 11, 3) := by decide +kernel
theorem dX6_sortOf_32 : decode cX6_sortOf 32 = .ok (.iload_n 0, 1) := by decide +kernel
theorem dX6_sortOf_33 : decode cX6_sortOf 33 = .ok (.bipush 122, 2) := by decide +kernel
theorem dX6_sortOf_35 : decode cX6_sortOf 35 = .ok (.if_icmp .gt 5, 3) := by decide +kernel
theorem dX6_sortOf_38 : decode cX6_sortOf 38 = .ok (.iconst 1, 1) := by decide +kernel
theorem dX6_sortOf_39 : decode cX6_sortOf 39 = .ok (.ireturn, 1) := by decide +kernel
theorem dX6_sortOf_40 : decode cX6_sortOf 40 = .ok (.iload_n 0, 1) := by decide +kernel
theorem dX6_sortOf_41 : decode cX6_sortOf 41 = .ok (.bipush 48, 2) := by decide +kernel
theorem dX6_sortOf_43 : decode cX6_sortOf 43 = .ok (.if_icmp .lt 13, 3) := by decide +kernel
theorem dX6_sortOf_46 : decode cX6_sortOf 46 = .ok (.iload_n 0, 1) := by decide +kernel
theorem dX6_sortOf_47 : decode cX6_sortOf 47 = .ok (.bipush 57, 2) := by decide +kernel
theorem dX6_sortOf_49 : decode cX6_sortOf 49 = .ok (.if_icmp .gt 7, 3) := by decide +kernel
theorem dX6_sortOf_52 : decode cX6_sortOf 52 = .ok (.iconst 2, 1) := by decide +kernel
theorem dX6_sortOf_53 : decode cX6_sortOf 53 = .ok (.goto 4, 3) := by decide +kernel
theorem dX6_sortOf_56 : decode cX6_sortOf 56 = .ok (.iconst 3, 1) := by decide +kernel
theorem dX6_sortOf_57 : decode cX6_sortOf 57 = .ok (.ireturn, 1) := by decide +kernel
theorem dX6_pastRun_0 : decode cX6_pastRun 0 = .ok (.iload_n 1, 1) := by decide +kernel
theorem dX6_pastRun_1 : decode cX6_pastRun 1 = .ok (.istore_n 3, 1) := by decide +kernel
theorem dX6_pastRun_2 : decode cX6_pastRun 2 = .ok (.iload_n 3, 1) := by decide +kernel
theorem dX6_pastRun_3 : decode cX6_pastRun 3 = .ok (.aload_n 0, 1) := by decide +kernel
theorem dX6_pastRun_4 : decode cX6_pastRun 4 = .ok (.getfield 25, 3) := by decide +kernel
theorem dX6_pastRun_7 : decode cX6_pastRun 7 = .ok (.getfield 43, 3) := by decide +kernel
theorem dX6_pastRun_10 : decode cX6_pastRun 10 = .ok (.if_icmp .ge 26, 3) := by decide +kernel
theorem dX6_pastRun_13 : decode cX6_pastRun 13 = .ok (.aload_n 0, 1) := by decide +kernel
theorem dX6_pastRun_14 : decode cX6_pastRun 14 = .ok (.getfield 25, 3) := by decide +kernel
theorem dX6_pastRun_17 : decode cX6_pastRun 17 = .ok (.iload_n 3, 1) := by decide +kernel
theorem dX6_pastRun_18 : decode cX6_pastRun 18 = .ok (.invokevirtual 48, 3) := by decide +kernel
theorem dX6_pastRun_21 : decode cX6_pastRun 21 = .ok (.invokestatic 51, 3) := by decide +kernel
theorem dX6_pastRun_24 : decode cX6_pastRun 24 = .ok (.iload_n 2, 1) := by decide +kernel
theorem dX6_pastRun_25 : decode cX6_pastRun 25 = .ok (.if_icmp .eq 5, 3) := by decide +kernel
theorem dX6_pastRun_28 : decode cX6_pastRun 28 = .ok (.iload_n 3, 1) := by decide +kernel
theorem dX6_pastRun_29 : decode cX6_pastRun 29 = .ok (.ireturn, 1) := by decide +kernel
theorem dX6_pastRun_30 : decode cX6_pastRun 30 = .ok (.iinc 3 1, 3) := by decide +kernel
theorem dX6_pastRun_33 : decode cX6_pastRun 33 = .ok (.goto (-31), 3) := by decide +kernel
theorem dX6_pastRun_36 : decode cX6_pastRun 36 = .ok (.aload_n 0, 1) := by decide +kernel
theorem dX6_pastRun_37 : decode cX6_pastRun 37 = .ok (.getfield 25, 3) := by decide +kernel
theorem dX6_pastRun_40 : decode cX6_pastRun 40 = .ok (.getfield 43, 3) := by decide +kernel
theorem dX6_pastRun_43 : decode cX6_pastRun 43 = .ok (.ireturn, 1) := by decide +kernel
theorem dX6_tokenEnd_0 : decode cX6_tokenEnd 0 = .ok (.aload_n 0, 1) := by decide +kernel
theorem dX6_tokenEnd_1 : decode cX6_tokenEnd 1 = .ok (.getfield 25, 3) := by decide +kernel
theorem dX6_tokenEnd_4 : decode cX6_tokenEnd 4 = .ok (.iload_n 1, 1) := by decide +kernel
theorem dX6_tokenEnd_5 : decode cX6_tokenEnd 5 = .ok (.invokevirtual 48, 3) := by decide +kernel
theorem dX6_tokenEnd_8 : decode cX6_tokenEnd 8 = .ok (.istore_n 2, 1) := by decide +kernel
theorem dX6_tokenEnd_9 : decode cX6_tokenEnd 9 = .ok (.iload_n 2, 1) := by decide +kernel
theorem dX6_tokenEnd_10 : decode cX6_tokenEnd 10 = .ok (.invokestatic 51, 3) := by decide +kernel
theorem dX6_tokenEnd_13 : decode cX6_tokenEnd 13 = .ok (.istore_n 3, 1) := by decide +kernel
theorem dX6_tokenEnd_14 : decode cX6_tokenEnd 14 = .ok (.iload_n 3, 1) := by decide +kernel
theorem dX6_tokenEnd_15 : decode cX6_tokenEnd 15 = .ok (.iconst 1, 1) := by decide +kernel
theorem dX6_tokenEnd_16 : decode cX6_tokenEnd 16 = .ok (.if_icmp .eq 8, 3) := by decide +kernel
theorem dX6_tokenEnd_19 : decode cX6_tokenEnd 19 = .ok (.iload_n 3, 1) := by decide +kernel
theorem dX6_tokenEnd_20 : decode cX6_tokenEnd 20 = .ok (.iconst 2, 1) := by decide +kernel
theorem dX6_tokenEnd_21 : decode cX6_tokenEnd 21 = .ok (.if_icmp .ne 10, 3) := by decide +kernel
theorem dX6_tokenEnd_24 : decode cX6_tokenEnd 24 = .ok (.aload_n 0, 1) := by decide +kernel
theorem dX6_tokenEnd_25 : decode cX6_tokenEnd 25 = .ok (.iload_n 1, 1) := by decide +kernel
theorem dX6_tokenEnd_26 : decode cX6_tokenEnd 26 = .ok (.iload_n 3, 1) := by decide +kernel
theorem dX6_tokenEnd_27 : decode cX6_tokenEnd 27 = .ok (.invokevirtual 29, 3) := by decide +kernel
theorem dX6_tokenEnd_30 : decode cX6_tokenEnd 30 = .ok (.ireturn, 1) := by decide +kernel
theorem dX6_tokenEnd_31 : decode cX6_tokenEnd 31 = .ok (.iload_n 2, 1) := by decide +kernel
theorem dX6_tokenEnd_32 : decode cX6_tokenEnd 32 = .ok (.bipush 61, 2) := by decide +kernel
theorem dX6_tokenEnd_34 : decode cX6_tokenEnd 34 = .ok (.if_icmp .eq 15, 3) := by decide +kernel
theorem dX6_tokenEnd_37 : decode cX6_tokenEnd 37 = .ok (.iload_n 2, 1) := by decide +kernel
theorem dX6_tokenEnd_38 : decode cX6_tokenEnd 38 = .ok (.bipush 33, 2) := by decide +kernel
theorem dX6_tokenEnd_40 : decode cX6_tokenEnd 40 = .ok (.if_icmp .eq 9, 3) := by decide +kernel
theorem dX6_tokenEnd_43 : decode cX6_tokenEnd 43 = .ok (.iload_n 2, 1) := by decide +kernel
theorem dX6_tokenEnd_44 : decode cX6_tokenEnd 44 = .ok (.bipush 60, 2) := by decide +kernel
theorem dX6_tokenEnd_46 : decode cX6_tokenEnd 46 = .ok (.if_icmp .ne 7, 3) := by decide +kernel
theorem dX6_tokenEnd_49 : decode cX6_tokenEnd 49 = .ok (.iconst 1, 1) := by decide +kernel
theorem dX6_tokenEnd_50 : decode cX6_tokenEnd 50 = .ok (.goto 4, 3) := by decide +kernel
theorem dX6_tokenEnd_53 : decode cX6_tokenEnd 53 = .ok (.iconst 0, 1) := by decide +kernel
theorem dX6_tokenEnd_54 : decode cX6_tokenEnd 54 = .ok (.istore 4, 2) := by decide +kernel
theorem dX6_tokenEnd_56 : decode cX6_tokenEnd 56 = .ok (.iload 4, 2) := by decide +kernel
theorem dX6_tokenEnd_58 : decode cX6_tokenEnd 58 = .ok (.ifCond .eq 24, 3) := by decide +kernel
theorem dX6_tokenEnd_61 : decode cX6_tokenEnd 61 = .ok (.aload_n 0, 1) := by decide +kernel
theorem dX6_tokenEnd_62 : decode cX6_tokenEnd 62 = .ok (.getfield 25, 3) := by decide +kernel
theorem dX6_tokenEnd_65 : decode cX6_tokenEnd 65 = .ok (.iload_n 1, 1) := by decide +kernel
theorem dX6_tokenEnd_66 : decode cX6_tokenEnd 66 = .ok (.iconst 1, 1) := by decide +kernel
theorem dX6_tokenEnd_67 : decode cX6_tokenEnd 67 = .ok (.iadd, 1) := by decide +kernel
theorem dX6_tokenEnd_68 : decode cX6_tokenEnd 68 = .ok (.invokevirtual 48, 3) := by decide +kernel
theorem dX6_tokenEnd_71 : decode cX6_tokenEnd 71 = .ok (.bipush 61, 2) := by decide +kernel
theorem dX6_tokenEnd_73 : decode cX6_tokenEnd 73 = .ok (.if_icmp .ne 9, 3) := by decide +kernel
theorem dX6_tokenEnd_76 : decode cX6_tokenEnd 76 = .ok (.iload_n 1, 1) := by decide +kernel
theorem dX6_tokenEnd_77 : decode cX6_tokenEnd 77 = .ok (.iconst 2, 1) := by decide +kernel
theorem dX6_tokenEnd_78 : decode cX6_tokenEnd 78 = .ok (.iadd, 1) := by decide +kernel
theorem dX6_tokenEnd_79 : decode cX6_tokenEnd 79 = .ok (.goto 6, 3) := by decide +kernel
theorem dX6_tokenEnd_82 : decode cX6_tokenEnd 82 = .ok (.iload_n 1, 1) := by decide +kernel
theorem dX6_tokenEnd_83 : decode cX6_tokenEnd 83 = .ok (.iconst 1, 1) := by decide +kernel
theorem dX6_tokenEnd_84 : decode cX6_tokenEnd 84 = .ok (.iadd, 1) := by decide +kernel
theorem dX6_tokenEnd_85 : decode cX6_tokenEnd 85 = .ok (.ireturn, 1) := by decide +kernel
theorem dX6_kindOf_0 : decode cX6_kindOf 0 = .ok (.iload_n 1, 1) := by decide +kernel
theorem dX6_kindOf_1 : decode cX6_kindOf 1 = .ok (.aload_n 0, 1) := by decide +kernel
theorem dX6_kindOf_2 : decode cX6_kindOf 2 = .ok (.getfield 25, 3) := by decide +kernel
theorem dX6_kindOf_5 : decode cX6_kindOf 5 = .ok (.getfield 43, 3) := by decide +kernel
theorem dX6_kindOf_8 : decode cX6_kindOf 8 = .ok (.if_icmp .lt 6, 3) := by decide +kernel
theorem dX6_kindOf_11 : decode cX6_kindOf 11 = .ok (.bipush 27, 2) := by decide +kernel
theorem dX6_kindOf_13 : decode cX6_kindOf 13 = .ok (.ireturn, 1) := by decide +kernel
theorem dX6_kindOf_14 : decode cX6_kindOf 14 = .ok (.aload_n 0, 1) := by decide +kernel
theorem dX6_kindOf_15 : decode cX6_kindOf 15 = .ok (.getfield 25, 3) := by decide +kernel
theorem dX6_kindOf_18 : decode cX6_kindOf 18 = .ok (.iload_n 1, 1) := by decide +kernel
theorem dX6_kindOf_19 : decode cX6_kindOf 19 = .ok (.invokevirtual 48, 3) := by decide +kernel
theorem dX6_kindOf_22 : decode cX6_kindOf 22 = .ok (.istore_n 3, 1) := by decide +kernel
theorem dX6_kindOf_23 : decode cX6_kindOf 23 = .ok (.iload_n 3, 1) := by decide +kernel
theorem dX6_kindOf_24 : decode cX6_kindOf 24 = .ok (.invokestatic 51, 3) := by decide +kernel
theorem dX6_kindOf_27 : decode cX6_kindOf 27 = .ok (.istore 4, 2) := by decide +kernel
theorem dX6_kindOf_29 : decode cX6_kindOf 29 = .ok (.iload 4, 2) := by decide +kernel
theorem dX6_kindOf_31 : decode cX6_kindOf 31 = .ok (.iconst 1, 1) := by decide +kernel
theorem dX6_kindOf_32 : decode cX6_kindOf 32 = .ok (.if_icmp .ne 12, 3) := by decide +kernel
theorem dX6_kindOf_35 : decode cX6_kindOf 35 = .ok (.aload_n 0, 1) := by decide +kernel
theorem dX6_kindOf_36 : decode cX6_kindOf 36 = .ok (.iload_n 1, 1) := by decide +kernel
theorem dX6_kindOf_37 : decode cX6_kindOf 37 = .ok (.iload_n 2, 1) := by decide +kernel
theorem dX6_kindOf_38 : decode cX6_kindOf 38 = .ok (.iload_n 1, 1) := by decide +kernel
theorem dX6_kindOf_39 : decode cX6_kindOf 39 = .ok (.isub, 1) := by decide +kernel
theorem dX6_kindOf_40 : decode cX6_kindOf 40 = .ok (.invokevirtual 54, 3) := by decide +kernel
theorem dX6_kindOf_43 : decode cX6_kindOf 43 = .ok (.ireturn, 1) := by decide +kernel
theorem dX6_kindOf_44 : decode cX6_kindOf 44 = .ok (.iload 4, 2) := by decide +kernel
theorem dX6_kindOf_46 : decode cX6_kindOf 46 = .ok (.iconst 2, 1) := by decide +kernel
theorem dX6_kindOf_47 : decode cX6_kindOf 47 = .ok (.if_icmp .ne 18, 3) := by decide +kernel
theorem dX6_kindOf_50 : decode cX6_kindOf 50 = .ok (.iload_n 2, 1) := by decide +kernel
theorem dX6_kindOf_51 : decode cX6_kindOf 51 = .ok (.iload_n 1, 1) := by decide +kernel
theorem dX6_kindOf_52 : decode cX6_kindOf 52 = .ok (.isub, 1) := by decide +kernel
theorem dX6_kindOf_53 : decode cX6_kindOf 53 = .ok (.iconst 4, 1) := by decide +kernel
theorem dX6_kindOf_54 : decode cX6_kindOf 54 = .ok (.if_icmp .gt 8, 3) := by decide +kernel
theorem dX6_kindOf_57 : decode cX6_kindOf 57 = .ok (.bipush 16, 2) := by decide +kernel
theorem dX6_kindOf_59 : decode cX6_kindOf 59 = .ok (.goto 5, 3) := by decide +kernel
theorem dX6_kindOf_62 : decode cX6_kindOf 62 = .ok (.bipush 28, 2) := by decide +kernel
theorem dX6_kindOf_64 : decode cX6_kindOf 64 = .ok (.ireturn, 1) := by decide +kernel
theorem dX6_kindOf_65 : decode cX6_kindOf 65 = .ok (.iload_n 2, 1) := by decide +kernel
theorem dX6_kindOf_66 : decode cX6_kindOf 66 = .ok (.iload_n 1, 1) := by decide +kernel
theorem dX6_kindOf_67 : decode cX6_kindOf 67 = .ok (.isub, 1) := by decide +kernel
theorem dX6_kindOf_68 : decode cX6_kindOf 68 = .ok (.iconst 2, 1) := by decide +kernel
theorem dX6_kindOf_69 : decode cX6_kindOf 69 = .ok (.if_icmp .ne 10, 3) := by decide +kernel
theorem dX6_kindOf_72 : decode cX6_kindOf 72 = .ok (.iload_n 3, 1) := by decide +kernel
theorem dX6_kindOf_73 : decode cX6_kindOf 73 = .ok (.invokestatic 57, 3) := by decide +kernel
theorem dX6_kindOf_76 : decode cX6_kindOf 76 = .ok (.goto 7, 3) := by decide +kernel
theorem dX6_kindOf_79 : decode cX6_kindOf 79 = .ok (.iload_n 3, 1) := by decide +kernel
theorem dX6_kindOf_80 : decode cX6_kindOf 80 = .ok (.invokestatic 60, 3) := by decide +kernel
theorem dX6_kindOf_83 : decode cX6_kindOf 83 = .ok (.ireturn, 1) := by decide +kernel
theorem dX6_wordKind_0 : decode cX6_wordKind 0 = .ok (.iconst 0, 1) := by decide +kernel
theorem dX6_wordKind_1 : decode cX6_wordKind 1 = .ok (.istore_n 3, 1) := by decide +kernel
theorem dX6_wordKind_2 : decode cX6_wordKind 2 = .ok (.iload_n 3, 1) := by decide +kernel
theorem dX6_wordKind_3 : decode cX6_wordKind 3 = .ok (.bipush 8, 2) := by decide +kernel
theorem dX6_wordKind_5 : decode cX6_wordKind 5 = .ok (.imul, 1) := by decide +kernel
theorem dX6_wordKind_6 : decode cX6_wordKind 6 = .ok (.bipush 8, 2) := by decide +kernel
theorem dX6_wordKind_8 : decode cX6_wordKind 8 = .ok (.iadd, 1) := by decide +kernel
theorem dX6_wordKind_9 : decode cX6_wordKind 9 = .ok (.ldc 63, 2) := by decide +kernel
theorem dX6_wordKind_11 : decode cX6_wordKind 11 = .ok (.invokevirtual 65, 3) := by decide +kernel
theorem dX6_wordKind_14 : decode cX6_wordKind 14 = .ok (.if_icmp .gt 30, 3) := by decide +kernel
theorem dX6_wordKind_17 : decode cX6_wordKind 17 = .ok (.iload_n 2, 1) := by decide +kernel
theorem dX6_wordKind_18 : decode cX6_wordKind 18 = .ok (.bipush 8, 2) := by decide +kernel
theorem dX6_wordKind_20 : decode cX6_wordKind 20 = .ok (.if_icmp .gt 18, 3) := by decide +kernel
theorem dX6_wordKind_23 : decode cX6_wordKind 23 = .ok (.aload_n 0, 1) := by decide +kernel
theorem dX6_wordKind_24 : decode cX6_wordKind 24 = .ok (.iload_n 3, 1) := by decide +kernel
theorem dX6_wordKind_25 : decode cX6_wordKind 25 = .ok (.bipush 8, 2) := by decide +kernel
theorem dX6_wordKind_27 : decode cX6_wordKind 27 = .ok (.imul, 1) := by decide +kernel
theorem dX6_wordKind_28 : decode cX6_wordKind 28 = .ok (.iload_n 1, 1) := by decide +kernel
theorem dX6_wordKind_29 : decode cX6_wordKind 29 = .ok (.iload_n 2, 1) := by decide +kernel
theorem dX6_wordKind_30 : decode cX6_wordKind 30 = .ok (.invokevirtual 70, 3) := by decide +kernel
theorem dX6_wordKind_33 : decode cX6_wordKind 33 = .ok (.ifCond .eq 5, 3) := by decide +kernel
theorem dX6_wordKind_36 : decode cX6_wordKind 36 = .ok (.iload_n 3, 1) := by decide +kernel
theorem dX6_wordKind_37 : decode cX6_wordKind 37 = .ok (.ireturn, 1) := by decide +kernel
theorem dX6_wordKind_38 : decode cX6_wordKind 38 = .ok (.iinc 3 1, 3) := by decide +kernel
theorem dX6_wordKind_41 : decode cX6_wordKind 41 = .ok (.goto (-39), 3) := by decide +kernel
theorem dX6_wordKind_44 : decode cX6_wordKind 44 = .ok (.bipush 28, 2) := by decide +kernel
theorem dX6_wordKind_46 : decode cX6_wordKind 46 = .ok (.ireturn, 1) := by decide +kernel
theorem dX6_isWord_0 : decode cX6_isWord 0 = .ok (.iconst 0, 1) := by decide +kernel
theorem dX6_isWord_1 : decode cX6_isWord 1 = .ok (.istore 4, 2) := by decide +kernel
theorem dX6_isWord_3 : decode cX6_isWord 3 = .ok (.iload 4, 2) := by decide +kernel
theorem dX6_isWord_5 : decode cX6_isWord 5 = .ok (.bipush 8, 2) := by decide +kernel
theorem dX6_isWord_7 : decode cX6_isWord 7 = .ok (.if_icmp .ge 61, 3) := by decide +kernel
theorem dX6_isWord_10 : decode cX6_isWord 10 = .ok (.iload 4, 2) := by decide +kernel
theorem dX6_isWord_12 : decode cX6_isWord 12 = .ok (.iload_n 3, 1) := by decide +kernel
theorem dX6_isWord_13 : decode cX6_isWord 13 = .ok (.if_icmp .ge 17, 3) := by decide +kernel
theorem dX6_isWord_16 : decode cX6_isWord 16 = .ok (.aload_n 0, 1) := by decide +kernel
theorem dX6_isWord_17 : decode cX6_isWord 17 = .ok (.getfield 25, 3) := by decide +kernel
theorem dX6_isWord_20 : decode cX6_isWord 20 = .ok (.iload_n 2, 1) := by decide +kernel
theorem dX6_isWord_21 : decode cX6_isWord 21 = .ok (.iload 4, 2) := by decide +kernel
theorem dX6_isWord_23 : decode cX6_isWord 23 = .ok (.iadd, 1) := by decide +kernel
theorem dX6_isWord_24 : decode cX6_isWord 24 = .ok (.invokevirtual 48, 3) := by decide +kernel
theorem dX6_isWord_27 : decode cX6_isWord 27 = .ok (.goto 5, 3) := by decide +kernel
theorem dX6_isWord_30 : decode cX6_isWord 30 = .ok (.bipush 32, 2) := by decide +kernel
theorem dX6_isWord_32 : decode cX6_isWord 32 = .ok (.istore 5, 2) := by decide +kernel
theorem dX6_isWord_34 : decode cX6_isWord 34 = .ok (.iload_n 1, 1) := by decide +kernel
theorem dX6_isWord_35 : decode cX6_isWord 35 = .ok (.iload 4, 2) := by decide +kernel
theorem dX6_isWord_37 : decode cX6_isWord 37 = .ok (.iadd, 1) := by decide +kernel
theorem dX6_isWord_38 : decode cX6_isWord 38 = .ok (.ldc 63, 2) := by decide +kernel
theorem dX6_isWord_40 : decode cX6_isWord 40 = .ok (.invokevirtual 65, 3) := by decide +kernel
theorem dX6_isWord_43 : decode cX6_isWord 43 = .ok (.if_icmp .ge 17, 3) := by decide +kernel
theorem dX6_isWord_46 : decode cX6_isWord 46 = .ok (.ldc 63, 2) := by decide +kernel
theorem dX6_isWord_48 : decode cX6_isWord 48 = .ok (.iload_n 1, 1) := by decide +kernel
theorem dX6_isWord_49 : decode cX6_isWord 49 = .ok (.iload 4, 2) := by decide +kernel
theorem dX6_isWord_51 : decode cX6_isWord 51 = .ok (.iadd, 1) := by decide +kernel
theorem dX6_isWord_52 : decode cX6_isWord 52 = .ok (.invokevirtual 74, 3) := by decide +kernel
theorem dX6_isWord_55 : decode cX6_isWord 55 = .ok (.iload 5, 2) := by decide +kernel
theorem dX6_isWord_57 : decode cX6_isWord 57 = .ok (.if_icmp .eq 5, 3) := by decide +kernel
theorem dX6_isWord_60 : decode cX6_isWord 60 = .ok (.iconst 0, 1) := by decide +kernel
theorem dX6_isWord_61 : decode cX6_isWord 61 = .ok (.ireturn, 1) := by decide +kernel
theorem dX6_isWord_62 : decode cX6_isWord 62 = .ok (.iinc 4 1, 3) := by decide +kernel
theorem dX6_isWord_65 : decode cX6_isWord 65 = .ok (.goto (-62), 3) := by decide +kernel
theorem dX6_isWord_68 : decode cX6_isWord 68 = .ok (.iconst 1, 1) := by decide +kernel
theorem dX6_isWord_69 : decode cX6_isWord 69 = .ok (.ireturn, 1) := by decide +kernel
theorem dX6_longSignKind_0 : decode cX6_longSignKind 0 = .ok (.iload_n 0, 1) := by decide +kernel
theorem dX6_longSignKind_1 : decode cX6_longSignKind 1 = .ok (.bipush 61, 2) := by decide +kernel
theorem dX6_longSignKind_3 : decode cX6_longSignKind 3 = .ok (.if_icmp .ne 6, 3) := by decide +kernel
theorem dX6_longSignKind_6 : decode cX6_longSignKind 6 = .ok (.bipush 21, 2) := by decide +kernel
theorem dX6_longSignKind_8 : decode cX6_longSignKind 8 = .ok (.ireturn, 1) := by decide +kernel
theorem dX6_longSignKind_9 : decode cX6_longSignKind 9 = .ok (.iload_n 0, 1) := by decide +kernel
theorem dX6_longSignKind_10 : decode cX6_longSignKind 10 = .ok (.bipush 33, 2) := by decide +kernel
theorem dX6_longSignKind_12 : decode cX6_longSignKind 12 = .ok (.if_icmp .ne 8, 3) := by decide +kernel
theorem dX6_longSignKind_15 : decode cX6_longSignKind 15 = .ok (.bipush 22, 2) := by decide +kernel
theorem dX6_longSignKind_17 : decode cX6_longSignKind 17 = .ok (.goto 5, 3) := by decide +kernel
theorem dX6_longSignKind_20 : decode cX6_longSignKind 20 = .ok (.bipush 24, 2) := by decide +kernel
theorem dX6_longSignKind_22 : decode cX6_longSignKind 22 = .ok (.ireturn, 1) := by decide +kernel
theorem dX6_signKind_0 : decode cX6_signKind 0 = .ok (.iload_n 0, 1) := by decide +kernel
theorem dX6_signKind_1 : decode cX6_signKind 1 = .ok (.tableswitch 120 40 60 #[114, 117, 108, 102, 120, 105, 120, 120, 120, 120, 120, 120, 120, 120, 120, 120, 120, 120, 120, 99, 111], 99) := by decide +kernel
theorem dX6_signKind_100 : decode cX6_signKind 100 = .ok (.bipush 17, 2) := by decide +kernel
theorem dX6_signKind_102 : decode cX6_signKind 102 = .ok (.ireturn, 1) := by decide +kernel
theorem dX6_signKind_103 : decode cX6_signKind 103 = .ok (.bipush 18, 2) := by decide +kernel
theorem dX6_signKind_105 : decode cX6_signKind 105 = .ok (.ireturn, 1) := by decide +kernel
theorem dX6_signKind_106 : decode cX6_signKind 106 = .ok (.bipush 19, 2) := by decide +kernel
theorem dX6_signKind_108 : decode cX6_signKind 108 = .ok (.ireturn, 1) := by decide +kernel
theorem dX6_signKind_109 : decode cX6_signKind 109 = .ok (.bipush 20, 2) := by decide +kernel
theorem dX6_signKind_111 : decode cX6_signKind 111 = .ok (.ireturn, 1) := by decide +kernel
theorem dX6_signKind_112 : decode cX6_signKind 112 = .ok (.bipush 23, 2) := by decide +kernel
theorem dX6_signKind_114 : decode cX6_signKind 114 = .ok (.ireturn, 1) := by decide +kernel
theorem dX6_signKind_115 : decode cX6_signKind 115 = .ok (.bipush 25, 2) := by decide +kernel
theorem dX6_signKind_117 : decode cX6_signKind 117 = .ok (.ireturn, 1) := by decide +kernel
theorem dX6_signKind_118 : decode cX6_signKind 118 = .ok (.bipush 26, 2) := by decide +kernel
theorem dX6_signKind_120 : decode cX6_signKind 120 = .ok (.ireturn, 1) := by decide +kernel
theorem dX6_signKind_121 : decode cX6_signKind 121 = .ok (.bipush 28, 2) := by decide +kernel
theorem dX6_signKind_123 : decode cX6_signKind 123 = .ok (.ireturn, 1) := by decide +kernel
theorem dX6_numberAt_0 : decode cX6_numberAt 0 = .ok (.iconst 0, 1) := by decide +kernel
theorem dX6_numberAt_1 : decode cX6_numberAt 1 = .ok (.istore_n 3, 1) := by decide +kernel
theorem dX6_numberAt_2 : decode cX6_numberAt 2 = .ok (.iload_n 1, 1) := by decide +kernel
theorem dX6_numberAt_3 : decode cX6_numberAt 3 = .ok (.istore 4, 2) := by decide +kernel
theorem dX6_numberAt_5 : decode cX6_numberAt 5 = .ok (.iload 4, 2) := by decide +kernel
theorem dX6_numberAt_7 : decode cX6_numberAt 7 = .ok (.iload_n 2, 1) := by decide +kernel
theorem dX6_numberAt_8 : decode cX6_numberAt 8 = .ok (.if_icmp .ge 27, 3) := by decide +kernel
theorem dX6_numberAt_11 : decode cX6_numberAt 11 = .ok (.iload_n 3, 1) := by decide +kernel
theorem dX6_numberAt_12 : decode cX6_numberAt 12 = .ok (.bipush 10, 2) := by decide +kernel
theorem dX6_numberAt_14 : decode cX6_numberAt 14 = .ok (.imul, 1) := by decide +kernel
theorem dX6_numberAt_15 : decode cX6_numberAt 15 = .ok (.aload_n 0, 1) := by decide +kernel
theorem dX6_numberAt_16 : decode cX6_numberAt 16 = .ok (.getfield 25, 3) := by decide +kernel
theorem dX6_numberAt_19 : decode cX6_numberAt 19 = .ok (.iload 4, 2) := by decide +kernel
theorem dX6_numberAt_21 : decode cX6_numberAt 21 = .ok (.invokevirtual 48, 3) := by decide +kernel
theorem dX6_numberAt_24 : decode cX6_numberAt 24 = .ok (.iadd, 1) := by decide +kernel
theorem dX6_numberAt_25 : decode cX6_numberAt 25 = .ok (.bipush 48, 2) := by decide +kernel
theorem dX6_numberAt_27 : decode cX6_numberAt 27 = .ok (.isub, 1) := by decide +kernel
theorem dX6_numberAt_28 : decode cX6_numberAt 28 = .ok (.istore_n 3, 1) := by decide +kernel
theorem dX6_numberAt_29 : decode cX6_numberAt 29 = .ok (.iinc 4 1, 3) := by decide +kernel
theorem dX6_numberAt_32 : decode cX6_numberAt 32 = .ok (.goto (-27), 3) := by decide +kernel
theorem dX6_numberAt_35 : decode cX6_numberAt 35 = .ok (.iload_n 3, 1) := by decide +kernel
theorem dX6_numberAt_36 : decode cX6_numberAt 36 = .ok (.ireturn, 1) := by decide +kernel
theorem dX7_init_0 : decode cX7_init 0 = .ok (.aload_n 0, 1) := by decide +kernel
theorem dX7_init_1 : decode cX7_init 1 = .ok (.invokespecial 3, 3) := by decide +kernel
theorem dX7_init_4 : decode cX7_init 4 = .ok (.aload_n 0, 1) := by decide +kernel
theorem dX7_init_5 : decode cX7_init 5 = .ok (.new 9, 3) := by decide +kernel
theorem dX7_init_8 : decode cX7_init 8 = .ok (.dup, 1) := by decide +kernel
theorem dX7_init_9 : decode cX7_init 9 = .ok (.invokespecial 11, 3) := by decide +kernel
theorem dX7_init_12 : decode cX7_init 12 = .ok (.putfield 12, 3) := by decide +kernel
theorem dX7_init_15 : decode cX7_init 15 = .ok (.aload_n 0, 1) := by decide +kernel
theorem dX7_init_16 : decode cX7_init 16 = .ok (.iconst 0, 1) := by decide +kernel
theorem dX7_init_17 : decode cX7_init 17 = .ok (.putfield 18, 3) := by decide +kernel
theorem dX7_init_20 : decode cX7_init 20 = .ok (.aload_n 0, 1) := by decide +kernel
theorem dX7_init_21 : decode cX7_init 21 = .ok (.iconst 0, 1) := by decide +kernel
theorem dX7_init_22 : decode cX7_init 22 = .ok (.putfield 22, 3) := by decide +kernel
theorem dX7_init_25 : decode cX7_init 25 = .ok (.aload_n 0, 1) := by decide +kernel
theorem dX7_init_26 : decode cX7_init 26 = .ok (.iload_n 1, 1) := by decide +kernel
theorem dX7_init_27 : decode cX7_init 27 = .ok (.putfield 25, 3) := by decide +kernel
theorem dX7_init_30 : decode cX7_init 30 = .ok (.return_, 1) := by decide +kernel
theorem dX7_hasEntry_0 : decode cX7_hasEntry 0 = .ok (.iload_n 1, 1) := by decide +kernel
theorem dX7_hasEntry_1 : decode cX7_hasEntry 1 = .ok (.iconst 0, 1) := by decide +kernel
theorem dX7_hasEntry_2 : decode cX7_hasEntry 2 = .ok (.bipush 19, 2) := by decide +kernel
theorem dX7_hasEntry_4 : decode cX7_hasEntry 4 = .ok (.invokestatic 28, 3) := by decide +kernel
theorem dX7_hasEntry_7 : decode cX7_hasEntry 7 = .ok (.ifCond .eq 19, 3) := by decide +kernel
theorem dX7_hasEntry_10 : decode cX7_hasEntry 10 = .ok (.aload_n 0, 1) := by decide +kernel
theorem dX7_hasEntry_11 : decode cX7_hasEntry 11 = .ok (.getfield 22, 3) := by decide +kernel
theorem dX7_hasEntry_14 : decode cX7_hasEntry 14 = .ok (.iload_n 1, 1) := by decide +kernel
theorem dX7_hasEntry_15 : decode cX7_hasEntry 15 = .ok (.ishr, 1) := by decide +kernel
theorem dX7_hasEntry_16 : decode cX7_hasEntry 16 = .ok (.iconst 1, 1) := by decide +kernel
theorem dX7_hasEntry_17 : decode cX7_hasEntry 17 = .ok (.iand, 1) := by decide +kernel
theorem dX7_hasEntry_18 : decode cX7_hasEntry 18 = .ok (.iconst 1, 1) := by decide +kernel
theorem dX7_hasEntry_19 : decode cX7_hasEntry 19 = .ok (.if_icmp .ne 7, 3) := by decide +kernel
theorem dX7_hasEntry_22 : decode cX7_hasEntry 22 = .ok (.iconst 1, 1) := by decide +kernel
theorem dX7_hasEntry_23 : decode cX7_hasEntry 23 = .ok (.goto 4, 3) := by decide +kernel
theorem dX7_hasEntry_26 : decode cX7_hasEntry 26 = .ok (.iconst 0, 1) := by decide +kernel
theorem dX7_hasEntry_27 : decode cX7_hasEntry 27 = .ok (.ireturn, 1) := by decide +kernel
theorem dX7_addEntry_0 : decode cX7_addEntry 0 = .ok (.iload_n 1, 1) := by decide +kernel
theorem dX7_addEntry_1 : decode cX7_addEntry 1 = .ok (.iconst 0, 1) := by decide +kernel
theorem dX7_addEntry_2 : decode cX7_addEntry 2 = .ok (.bipush 19, 2) := by decide +kernel
theorem dX7_addEntry_4 : decode cX7_addEntry 4 = .ok (.invokestatic 28, 3) := by decide +kernel
theorem dX7_addEntry_7 : decode cX7_addEntry 7 = .ok (.ifCond .eq 15, 3) := by decide +kernel
theorem dX7_addEntry_10 : decode cX7_addEntry 10 = .ok (.aload_n 0, 1) := by decide +kernel
theorem dX7_addEntry_11 : decode cX7_addEntry 11 = .ok (.dup, 1) := by decide +kernel
theorem dX7_addEntry_12 : decode cX7_addEntry 12 = .ok (.getfield 22, 3) := by decide +kernel
theorem dX7_addEntry_15 : decode cX7_addEntry 15 = .ok (.iconst 1, 1) := by decide +kernel
theorem dX7_addEntry_16 : decode cX7_addEntry 16 = .ok (.iload_n 1, 1) := by decide +kernel
theorem dX7_addEntry_17 : decode cX7_addEntry 17 = .ok (.ishl, 1) := by decide +kernel
theorem dX7_addEntry_18 : decode cX7_addEntry 18 = .ok (.ior, 1) := by decide +kernel
theorem dX7_addEntry_19 : decode cX7_addEntry 19 = .ok (.putfield 22, 3) := by decide +kernel
theorem dX7_addEntry_22 : decode cX7_addEntry 22 = .ok (.return_, 1) := by decide +kernel
theorem dX8_init_0 : decode cX8_init 0 = .ok (.aload_n 0, 1) := by decide +kernel
theorem dX8_init_1 : decode cX8_init 1 = .ok (.invokespecial 3, 3) := by decide +kernel
theorem dX8_init_4 : decode cX8_init 4 = .ok (.aload_n 0, 1) := by decide +kernel
theorem dX8_init_5 : decode cX8_init 5 = .ok (.sipush 2000, 3) := by decide +kernel
theorem dX8_init_8 : decode cX8_init 8 = .ok (.newarray .byte, 2) := by decide +kernel
theorem dX8_init_10 : decode cX8_init 10 = .ok (.putfield 9, 3) := by decide +kernel
theorem dX8_init_13 : decode cX8_init 13 = .ok (.aload_n 0, 1) := by decide +kernel
theorem dX8_init_14 : decode cX8_init 14 = .ok (.iconst 0, 1) := by decide +kernel
theorem dX8_init_15 : decode cX8_init 15 = .ok (.putfield 15, 3) := by decide +kernel
theorem dX8_init_18 : decode cX8_init 18 = .ok (.return_, 1) := by decide +kernel
theorem dX8_append_0 : decode cX8_append 0 = .ok (.bipush 24, 2) := by decide +kernel
theorem dX8_append_2 : decode cX8_append 2 = .ok (.istore_n 2, 1) := by decide +kernel
theorem dX8_append_3 : decode cX8_append 3 = .ok (.iload_n 2, 1) := by decide +kernel
theorem dX8_append_4 : decode cX8_append 4 = .ok (.ifCond .lt 42, 3) := by decide +kernel
theorem dX8_append_7 : decode cX8_append 7 = .ok (.aload_n 0, 1) := by decide +kernel
theorem dX8_append_8 : decode cX8_append 8 = .ok (.getfield 15, 3) := by decide +kernel
theorem dX8_append_11 : decode cX8_append 11 = .ok (.sipush 2000, 3) := by decide +kernel
theorem dX8_append_14 : decode cX8_append 14 = .ok (.if_icmp .ge 26, 3) := by decide +kernel
theorem dX8_append_17 : decode cX8_append 17 = .ok (.aload_n 0, 1) := by decide +kernel
theorem dX8_append_18 : decode cX8_append 18 = .ok (.getfield 9, 3) := by decide +kernel
theorem dX8_append_21 : decode cX8_append 21 = .ok (.aload_n 0, 1) := by decide +kernel
theorem dX8_append_22 : decode cX8_append 22 = .ok (.getfield 15, 3) := by decide +kernel
theorem dX8_append_25 : decode cX8_append 25 = .ok (.iload_n 1, 1) := by decide +kernel
theorem dX8_append_26 : decode cX8_append 26 = .ok (.iload_n 2, 1) := by decide +kernel
theorem dX8_append_27 : decode cX8_append 27 = .ok (.ishr, 1) := by decide +kernel
theorem dX8_append_28 : decode cX8_append 28 = .ok (.i2b, 1) := by decide +kernel
theorem dX8_append_29 : decode cX8_append 29 = .ok (.bastore, 1) := by decide +kernel
theorem dX8_append_30 : decode cX8_append 30 = .ok (.aload_n 0, 1) := by decide +kernel
theorem dX8_append_31 : decode cX8_append 31 = .ok (.dup, 1) := by decide +kernel
theorem dX8_append_32 : decode cX8_append 32 = .ok (.getfield 15, 3) := by decide +kernel
theorem dX8_append_35 : decode cX8_append 35 = .ok (.iconst 1, 1) := by decide +kernel
theorem dX8_append_36 : decode cX8_append 36 = .ok (.iadd, 1) := by decide +kernel
theorem dX8_append_37 : decode cX8_append 37 = .ok (.putfield 15, 3) := by decide +kernel
theorem dX8_append_40 : decode cX8_append 40 = .ok (.iinc 2 (-8), 3) := by decide +kernel
theorem dX8_append_43 : decode cX8_append 43 = .ok (.goto (-40), 3) := by decide +kernel
theorem dX8_append_46 : decode cX8_append 46 = .ok (.return_, 1) := by decide +kernel
theorem dX8_at_0 : decode cX8_at 0 = .ok (.iload_n 1, 1) := by decide +kernel
theorem dX8_at_1 : decode cX8_at 1 = .ok (.ifCond .lt 11, 3) := by decide +kernel
theorem dX8_at_4 : decode cX8_at 4 = .ok (.iload_n 1, 1) := by decide +kernel
theorem dX8_at_5 : decode cX8_at 5 = .ok (.aload_n 0, 1) := by decide +kernel
theorem dX8_at_6 : decode cX8_at 6 = .ok (.getfield 15, 3) := by decide +kernel
theorem dX8_at_9 : decode cX8_at 9 = .ok (.if_icmp .lt 7, 3) := by decide +kernel
theorem dX8_at_12 : decode cX8_at 12 = .ok (.iconst (-1), 1) := by decide +kernel
theorem dX8_at_13 : decode cX8_at 13 = .ok (.goto 13, 3) := by decide +kernel
theorem dX8_at_16 : decode cX8_at 16 = .ok (.aload_n 0, 1) := by decide +kernel
theorem dX8_at_17 : decode cX8_at 17 = .ok (.getfield 9, 3) := by decide +kernel
theorem dX8_at_20 : decode cX8_at 20 = .ok (.iload_n 1, 1) := by decide +kernel
theorem dX8_at_21 : decode cX8_at 21 = .ok (.baload, 1) := by decide +kernel
theorem dX8_at_22 : decode cX8_at 22 = .ok (.sipush 255, 3) := by decide +kernel
theorem dX8_at_25 : decode cX8_at 25 = .ok (.iand, 1) := by decide +kernel
theorem dX8_at_26 : decode cX8_at 26 = .ok (.ireturn, 1) := by decide +kernel
theorem dX9_init_0 : decode cX9_init 0 = .ok (.aload_n 0, 1) := by decide +kernel
theorem dX9_init_1 : decode cX9_init 1 = .ok (.invokespecial 3, 3) := by decide +kernel
theorem dX9_init_4 : decode cX9_init 4 = .ok (.aload_n 0, 1) := by decide +kernel
theorem dX9_init_5 : decode cX9_init 5 = .ok (.bipush 16, 2) := by decide +kernel
theorem dX9_init_7 : decode cX9_init 7 = .ok (.newarray .int, 2) := by decide +kernel
theorem dX9_init_9 : decode cX9_init 9 = .ok (.putfield 9, 3) := by decide +kernel
theorem dX9_init_12 : decode cX9_init 12 = .ok (.aload_n 0, 1) := by decide +kernel
theorem dX9_init_13 : decode cX9_init 13 = .ok (.bipush 16, 2) := by decide +kernel
theorem dX9_init_15 : decode cX9_init 15 = .ok (.newarray .int, 2) := by decide +kernel
theorem dX9_init_17 : decode cX9_init 17 = .ok (.putfield 15, 3) := by decide +kernel
theorem dX9_init_20 : decode cX9_init 20 = .ok (.aload_n 0, 1) := by decide +kernel
theorem dX9_init_21 : decode cX9_init 21 = .ok (.bipush 16, 2) := by decide +kernel
theorem dX9_init_23 : decode cX9_init 23 = .ok (.newarray .int, 2) := by decide +kernel
theorem dX9_init_25 : decode cX9_init 25 = .ok (.putfield 18, 3) := by decide +kernel
theorem dX9_init_28 : decode cX9_init 28 = .ok (.aload_n 0, 1) := by decide +kernel
theorem dX9_init_29 : decode cX9_init 29 = .ok (.bipush 16, 2) := by decide +kernel
theorem dX9_init_31 : decode cX9_init 31 = .ok (.newarray .int, 2) := by decide +kernel
theorem dX9_init_33 : decode cX9_init 33 = .ok (.putfield 21, 3) := by decide +kernel
theorem dX9_init_36 : decode cX9_init 36 = .ok (.aload_n 0, 1) := by decide +kernel
theorem dX9_init_37 : decode cX9_init 37 = .ok (.bipush 16, 2) := by decide +kernel
theorem dX9_init_39 : decode cX9_init 39 = .ok (.newarray .int, 2) := by decide +kernel
theorem dX9_init_41 : decode cX9_init 41 = .ok (.putfield 24, 3) := by decide +kernel
theorem dX9_init_44 : decode cX9_init 44 = .ok (.aload_n 0, 1) := by decide +kernel
theorem dX9_init_45 : decode cX9_init 45 = .ok (.bipush 16, 2) := by decide +kernel
theorem dX9_init_47 : decode cX9_init 47 = .ok (.newarray .int, 2) := by decide +kernel
theorem dX9_init_49 : decode cX9_init 49 = .ok (.putfield 27, 3) := by decide +kernel
theorem dX9_init_52 : decode cX9_init 52 = .ok (.aload_n 0, 1) := by decide +kernel
theorem dX9_init_53 : decode cX9_init 53 = .ok (.sipush 400, 3) := by decide +kernel
theorem dX9_init_56 : decode cX9_init 56 = .ok (.newarray .int, 2) := by decide +kernel
theorem dX9_init_58 : decode cX9_init 58 = .ok (.putfield 30, 3) := by decide +kernel
theorem dX9_init_61 : decode cX9_init 61 = .ok (.aload_n 0, 1) := by decide +kernel
theorem dX9_init_62 : decode cX9_init 62 = .ok (.sipush 400, 3) := by decide +kernel
theorem dX9_init_65 : decode cX9_init 65 = .ok (.newarray .int, 2) := by decide +kernel
theorem dX9_init_67 : decode cX9_init 67 = .ok (.putfield 33, 3) := by decide +kernel
theorem dX9_init_70 : decode cX9_init 70 = .ok (.aload_n 0, 1) := by decide +kernel
theorem dX9_init_71 : decode cX9_init 71 = .ok (.sipush 400, 3) := by decide +kernel
theorem dX9_init_74 : decode cX9_init 74 = .ok (.newarray .int, 2) := by decide +kernel
theorem dX9_init_76 : decode cX9_init 76 = .ok (.putfield 36, 3) := by decide +kernel
theorem dX9_init_79 : decode cX9_init 79 = .ok (.aload_n 0, 1) := by decide +kernel
theorem dX9_init_80 : decode cX9_init 80 = .ok (.iconst 0, 1) := by decide +kernel
theorem dX9_init_81 : decode cX9_init 81 = .ok (.putfield 39, 3) := by decide +kernel
theorem dX9_init_84 : decode cX9_init 84 = .ok (.aload_n 0, 1) := by decide +kernel
theorem dX9_init_85 : decode cX9_init 85 = .ok (.iconst 0, 1) := by decide +kernel
theorem dX9_init_86 : decode cX9_init 86 = .ok (.putfield 43, 3) := by decide +kernel
theorem dX9_init_89 : decode cX9_init 89 = .ok (.return_, 1) := by decide +kernel
theorem dX9_clear_0 : decode cX9_clear 0 = .ok (.aload_n 0, 1) := by decide +kernel
theorem dX9_clear_1 : decode cX9_clear 1 = .ok (.iconst 0, 1) := by decide +kernel
theorem dX9_clear_2 : decode cX9_clear 2 = .ok (.putfield 39, 3) := by decide +kernel
theorem dX9_clear_5 : decode cX9_clear 5 = .ok (.aload_n 0, 1) := by decide +kernel
theorem dX9_clear_6 : decode cX9_clear 6 = .ok (.iconst 0, 1) := by decide +kernel
theorem dX9_clear_7 : decode cX9_clear 7 = .ok (.putfield 43, 3) := by decide +kernel
theorem dX9_clear_10 : decode cX9_clear 10 = .ok (.return_, 1) := by decide +kernel
theorem dX9_addStep_0 : decode cX9_addStep 0 = .ok (.aload_n 0, 1) := by decide +kernel
theorem dX9_addStep_1 : decode cX9_addStep 1 = .ok (.getfield 43, 3) := by decide +kernel
theorem dX9_addStep_4 : decode cX9_addStep 4 = .ok (.sipush 400, 3) := by decide +kernel
theorem dX9_addStep_7 : decode cX9_addStep 7 = .ok (.if_icmp .ge 33, 3) := by decide +kernel
theorem dX9_addStep_10 : decode cX9_addStep 10 = .ok (.aload_n 0, 1) := by decide +kernel
theorem dX9_addStep_11 : decode cX9_addStep 11 = .ok (.getfield 30, 3) := by decide +kernel
theorem dX9_addStep_14 : decode cX9_addStep 14 = .ok (.aload_n 0, 1) := by decide +kernel
theorem dX9_addStep_15 : decode cX9_addStep 15 = .ok (.getfield 43, 3) := by decide +kernel
theorem dX9_addStep_18 : decode cX9_addStep 18 = .ok (.iload_n 1, 1) := by decide +kernel
