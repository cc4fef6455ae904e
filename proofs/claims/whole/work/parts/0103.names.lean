theorem dX4_placeBreed_1 : decode cX4_placeBreed 1 = .ok (.iload_n 1, 1) := by decide +kernel
theorem dX4_placeBreed_2 : decode cX4_placeBreed 2 = .ok (.iconst 0, 1) := by decide +kernel
theorem dX4_placeBreed_3 : decode cX4_placeBreed 3 = .ok (.iload_n 2, 1) := by decide +kernel
theorem dX4_placeBreed_4 : decode cX4_placeBreed 4 = .ok (.invokevirtual 115, 3) := by decide +kernel
theorem dX4_placeBreed_7 : decode cX4_placeBreed 7 = .ok (.ifCond .eq 7, 3) := by decide +kernel
theorem dX4_placeBreed_10 : decode cX4_placeBreed 10 = .ok (.iconst 0, 1) := by decide +kernel
theorem dX4_placeBreed_11 : decode cX4_placeBreed 11 = .ok (.goto 5, 3) := by decide +kernel
theorem dX4_placeBreed_14 : decode cX4_placeBreed 14 = .ok (.ldc 79, 2) := by decide +kernel
theorem dX4_placeBreed_16 : decode cX4_placeBreed 16 = .ok (.istore_n 3, 1) := by decide +kernel
theorem dX4_placeBreed_17 : decode cX4_placeBreed 17 = .ok (.iconst 0, 1) := by decide +kernel
theorem dX4_placeBreed_18 : decode cX4_placeBreed 18 = .ok (.istore 4, 2) := by decide +kernel
theorem dX4_placeBreed_20 : decode cX4_placeBreed 20 = .ok (.iload 4, 2) := by decide +kernel
theorem dX4_placeBreed_22 : decode cX4_placeBreed 22 = .ok (.bipush 6, 2) := by decide +kernel
theorem dX4_placeBreed_24 : decode cX4_placeBreed 24 = .ok (.if_icmp .ge 51, 3) := by decide +kernel
theorem dX4_placeBreed_27 : decode cX4_placeBreed 27 = .ok (.iload_n 2, 1) := by decide +kernel
theorem dX4_placeBreed_28 : decode cX4_placeBreed 28 = .ok (.iload 4, 2) := by decide +kernel
theorem dX4_placeBreed_30 : decode cX4_placeBreed 30 = .ok (.ishr, 1) := by decide +kernel
theorem dX4_placeBreed_31 : decode cX4_placeBreed 31 = .ok (.iconst 1, 1) := by decide +kernel
theorem dX4_placeBreed_32 : decode cX4_placeBreed 32 = .ok (.iand, 1) := by decide +kernel
theorem dX4_placeBreed_33 : decode cX4_placeBreed 33 = .ok (.iconst 1, 1) := by decide +kernel
theorem dX4_placeBreed_34 : decode cX4_placeBreed 34 = .ok (.if_icmp .ne 35, 3) := by decide +kernel
theorem dX4_placeBreed_37 : decode cX4_placeBreed 37 = .ok (.aload_n 0, 1) := by decide +kernel
theorem dX4_placeBreed_38 : decode cX4_placeBreed 38 = .ok (.getfield 24, 3) := by decide +kernel
theorem dX4_placeBreed_41 : decode cX4_placeBreed 41 = .ok (.iload 4, 2) := by decide +kernel
theorem dX4_placeBreed_43 : decode cX4_placeBreed 43 = .ok (.iconst 3, 1) := by decide +kernel
theorem dX4_placeBreed_44 : decode cX4_placeBreed 44 = .ok (.invokevirtual 107, 3) := by decide +kernel
theorem dX4_placeBreed_47 : decode cX4_placeBreed 47 = .ok (.istore 5, 2) := by decide +kernel
theorem dX4_placeBreed_49 : decode cX4_placeBreed 49 = .ok (.iload 5, 2) := by decide +kernel
theorem dX4_placeBreed_51 : decode cX4_placeBreed 51 = .ok (.iload_n 3, 1) := by decide +kernel
theorem dX4_placeBreed_52 : decode cX4_placeBreed 52 = .ok (.if_icmp .ge 17, 3) := by decide +kernel
theorem dX4_placeBreed_55 : decode cX4_placeBreed 55 = .ok (.aload_n 0, 1) := by decide +kernel
theorem dX4_placeBreed_56 : decode cX4_placeBreed 56 = .ok (.iload_n 1, 1) := by decide +kernel
theorem dX4_placeBreed_57 : decode cX4_placeBreed 57 = .ok (.iload 5, 2) := by decide +kernel
theorem dX4_placeBreed_59 : decode cX4_placeBreed 59 = .ok (.iload_n 2, 1) := by decide +kernel
theorem dX4_placeBreed_60 : decode cX4_placeBreed 60 = .ok (.invokevirtual 115, 3) := by decide +kernel
theorem dX4_placeBreed_63 : decode cX4_placeBreed 63 = .ok (.ifCond .eq 6, 3) := by decide +kernel
theorem dX4_placeBreed_66 : decode cX4_placeBreed 66 = .ok (.iload 5, 2) := by decide +kernel
theorem dX4_placeBreed_68 : decode cX4_placeBreed 68 = .ok (.istore_n 3, 1) := by decide +kernel
theorem dX4_placeBreed_69 : decode cX4_placeBreed 69 = .ok (.iinc 4 1, 3) := by decide +kernel
theorem dX4_placeBreed_72 : decode cX4_placeBreed 72 = .ok (.goto (-52), 3) := by decide +kernel
theorem dX4_placeBreed_75 : decode cX4_placeBreed 75 = .ok (.aload_n 0, 1) := by decide +kernel
theorem dX4_placeBreed_76 : decode cX4_placeBreed 76 = .ok (.iload_n 1, 1) := by decide +kernel
theorem dX4_placeBreed_77 : decode cX4_placeBreed 77 = .ok (.iload_n 3, 1) := by decide +kernel
theorem dX4_placeBreed_78 : decode cX4_placeBreed 78 = .ok (.iload_n 2, 1) := by decide +kernel
theorem dX4_placeBreed_79 : decode cX4_placeBreed 79 = .ok (.invokevirtual 119, 3) := by decide +kernel
theorem dX4_placeBreed_82 : decode cX4_placeBreed 82 = .ok (.istore 4, 2) := by decide +kernel
theorem dX4_placeBreed_84 : decode cX4_placeBreed 84 = .ok (.aload_n 0, 1) := by decide +kernel
theorem dX4_placeBreed_85 : decode cX4_placeBreed 85 = .ok (.iload 4, 2) := by decide +kernel
theorem dX4_placeBreed_87 : decode cX4_placeBreed 87 = .ok (.iconst 0, 1) := by decide +kernel
theorem dX4_placeBreed_88 : decode cX4_placeBreed 88 = .ok (.invokevirtual 123, 3) := by decide +kernel
theorem dX4_placeBreed_91 : decode cX4_placeBreed 91 = .ok (.iconst (-1), 1) := by decide +kernel
theorem dX4_placeBreed_92 : decode cX4_placeBreed 92 = .ok (.ixor, 1) := by decide +kernel
theorem dX4_placeBreed_93 : decode cX4_placeBreed 93 = .ok (.invokestatic 126, 3) := by decide +kernel
theorem dX4_placeBreed_96 : decode cX4_placeBreed 96 = .ok (.istore 5, 2) := by decide +kernel
theorem dX4_placeBreed_98 : decode cX4_placeBreed 98 = .ok (.aload_n 0, 1) := by decide +kernel
theorem dX4_placeBreed_99 : decode cX4_placeBreed 99 = .ok (.getfield 15, 3) := by decide +kernel
theorem dX4_placeBreed_102 : decode cX4_placeBreed 102 = .ok (.iload_n 1, 1) := by decide +kernel
theorem dX4_placeBreed_103 : decode cX4_placeBreed 103 = .ok (.iaload, 1) := by decide +kernel
theorem dX4_placeBreed_104 : decode cX4_placeBreed 104 = .ok (.aload_n 0, 1) := by decide +kernel
theorem dX4_placeBreed_105 : decode cX4_placeBreed 105 = .ok (.iload 4, 2) := by decide +kernel
theorem dX4_placeBreed_107 : decode cX4_placeBreed 107 = .ok (.iconst 1, 1) := by decide +kernel
theorem dX4_placeBreed_108 : decode cX4_placeBreed 108 = .ok (.invokevirtual 123, 3) := by decide +kernel
theorem dX4_placeBreed_111 : decode cX4_placeBreed 111 = .ok (.iconst (-1), 1) := by decide +kernel
theorem dX4_placeBreed_112 : decode cX4_placeBreed 112 = .ok (.ixor, 1) := by decide +kernel
theorem dX4_placeBreed_113 : decode cX4_placeBreed 113 = .ok (.iand, 1) := by decide +kernel
theorem dX4_placeBreed_114 : decode cX4_placeBreed 114 = .ok (.invokestatic 126, 3) := by decide +kernel
theorem dX4_placeBreed_117 : decode cX4_placeBreed 117 = .ok (.istore 6, 2) := by decide +kernel
theorem dX4_placeBreed_119 : decode cX4_placeBreed 119 = .ok (.aload_n 0, 1) := by decide +kernel
theorem dX4_placeBreed_120 : decode cX4_placeBreed 120 = .ok (.getfield 24, 3) := by decide +kernel
theorem dX4_placeBreed_123 : decode cX4_placeBreed 123 = .ok (.iload_n 1, 1) := by decide +kernel
theorem dX4_placeBreed_124 : decode cX4_placeBreed 124 = .ok (.iload 5, 2) := by decide +kernel
theorem dX4_placeBreed_126 : decode cX4_placeBreed 126 = .ok (.iload 6, 2) := by decide +kernel
theorem dX4_placeBreed_128 : decode cX4_placeBreed 128 = .ok (.iload_n 3, 1) := by decide +kernel
theorem dX4_placeBreed_129 : decode cX4_placeBreed 129 = .ok (.iload_n 3, 1) := by decide +kernel
theorem dX4_placeBreed_130 : decode cX4_placeBreed 130 = .ok (.aload_n 0, 1) := by decide +kernel
theorem dX4_placeBreed_131 : decode cX4_placeBreed 131 = .ok (.getfield 9, 3) := by decide +kernel
theorem dX4_placeBreed_134 : decode cX4_placeBreed 134 = .ok (.iload_n 1, 1) := by decide +kernel
theorem dX4_placeBreed_135 : decode cX4_placeBreed 135 = .ok (.iaload, 1) := by decide +kernel
theorem dX4_placeBreed_136 : decode cX4_placeBreed 136 = .ok (.iadd, 1) := by decide +kernel
theorem dX4_placeBreed_137 : decode cX4_placeBreed 137 = .ok (.invokevirtual 129, 3) := by decide +kernel
theorem dX4_placeBreed_140 : decode cX4_placeBreed 140 = .ok (.return_, 1) := by decide +kernel
set_option maxRecDepth 20000 in
theorem ggX4_fits_X4_meanwhile : GoodIn wsX4_fits wsX4_meanwhile := goodIn_r _ [8, 9, 10, 11, 12, 13, 14, 15, 16, 35, 36, 37, 38, 39, 40, 41, 42, 43, 44, 45] (by decide +kernel) (by decide +kernel)
set_option maxRecDepth 20000 in
theorem gX4_fits_X4_meanwhile : GoodIn wsX4_fits (wsV RX4 119 RX4 yX4_meanwhile wsX4_meanwhile) := goodIn_app (goodIn_of _ (by decide +kernel)) ggX4_fits_X4_meanwhile
set_option maxRecDepth 20000 in
theorem ggX4_fits_X4_taken : GoodIn wsX4_fits wsX4_taken := goodIn_r _ [20, 9, 21, 22, 23, 14, 24, 16, 25, 26, 27, 35, 36, 37, 38, 39, 40, 41, 42, 43, 44, 45] (by decide +kernel) (by decide +kernel)
set_option maxRecDepth 20000 in
theorem gX4_fits_X4_taken : GoodIn wsX4_fits (wsV RX4 123 RX4 yX4_taken wsX4_taken) := goodIn_app (goodIn_of _ (by decide +kernel)) ggX4_fits_X4_taken
set_option maxRecDepth 20000 in
theorem ggX4_fits_J6_bitCount_0f7a4 : GoodIn wsX4_fits wsJ6_bitCount_0f7a4 := goodIn_r _ [31, 32, 33, 34] (by decide +kernel) (by decide +kernel)
set_option maxRecDepth 20000 in
theorem gX4_fits_J6_bitCount_0f7a4 : GoodIn wsX4_fits (va_wsS RX4 66 yJ6_bitCount_0f7a4 wsJ6_bitCount_0f7a4) := goodIn_app (goodIn_of _ (by decide +kernel)) ggX4_fits_J6_bitCount_0f7a4
theorem dX4_fits_0 : decode cX4_fits 0 = .ok (.aload_n 0, 1) := by decide +kernel
theorem dX4_fits_1 : decode cX4_fits 1 = .ok (.iload_n 1, 1) := by decide +kernel
theorem dX4_fits_2 : decode cX4_fits 2 = .ok (.iload_n 2, 1) := by decide +kernel
theorem dX4_fits_3 : decode cX4_fits 3 = .ok (.iload_n 3, 1) := by decide +kernel
theorem dX4_fits_4 : decode cX4_fits 4 = .ok (.invokevirtual 119, 3) := by decide +kernel
theorem dX4_fits_7 : decode cX4_fits 7 = .ok (.istore 4, 2) := by decide +kernel
theorem dX4_fits_9 : decode cX4_fits 9 = .ok (.aload_n 0, 1) := by decide +kernel
theorem dX4_fits_10 : decode cX4_fits 10 = .ok (.iload 4, 2) := by decide +kernel
theorem dX4_fits_12 : decode cX4_fits 12 = .ok (.iconst 0, 1) := by decide +kernel
theorem dX4_fits_13 : decode cX4_fits 13 = .ok (.invokevirtual 123, 3) := by decide +kernel
theorem dX4_fits_16 : decode cX4_fits 16 = .ok (.invokestatic 66, 3) := by decide +kernel
theorem dX4_fits_19 : decode cX4_fits 19 = .ok (.aload_n 0, 1) := by decide +kernel
theorem dX4_fits_20 : decode cX4_fits 20 = .ok (.getfield 31, 3) := by decide +kernel
theorem dX4_fits_23 : decode cX4_fits 23 = .ok (.if_icmp .ge 7, 3) := by decide +kernel
theorem dX4_fits_26 : decode cX4_fits 26 = .ok (.iconst 1, 1) := by decide +kernel
theorem dX4_fits_27 : decode cX4_fits 27 = .ok (.goto 4, 3) := by decide +kernel
theorem dX4_fits_30 : decode cX4_fits 30 = .ok (.iconst 0, 1) := by decide +kernel
theorem dX4_fits_31 : decode cX4_fits 31 = .ok (.istore 5, 2) := by decide +kernel
theorem dX4_fits_33 : decode cX4_fits 33 = .ok (.aload_n 0, 1) := by decide +kernel
theorem dX4_fits_34 : decode cX4_fits 34 = .ok (.getfield 15, 3) := by decide +kernel
theorem dX4_fits_37 : decode cX4_fits 37 = .ok (.iload_n 1, 1) := by decide +kernel
theorem dX4_fits_38 : decode cX4_fits 38 = .ok (.iaload, 1) := by decide +kernel
theorem dX4_fits_39 : decode cX4_fits 39 = .ok (.aload_n 0, 1) := by decide +kernel
theorem dX4_fits_40 : decode cX4_fits 40 = .ok (.iload 4, 2) := by decide +kernel
theorem dX4_fits_42 : decode cX4_fits 42 = .ok (.iconst 1, 1) := by decide +kernel
theorem dX4_fits_43 : decode cX4_fits 43 = .ok (.invokevirtual 123, 3) := by decide +kernel
theorem dX4_fits_46 : decode cX4_fits 46 = .ok (.iconst (-1), 1) := by decide +kernel
theorem dX4_fits_47 : decode cX4_fits 47 = .ok (.ixor, 1) := by decide +kernel
theorem dX4_fits_48 : decode cX4_fits 48 = .ok (.iand, 1) := by decide +kernel
theorem dX4_fits_49 : decode cX4_fits 49 = .ok (.ifCond .eq 7, 3) := by decide +kernel
theorem dX4_fits_52 : decode cX4_fits 52 = .ok (.iconst 1, 1) := by decide +kernel
theorem dX4_fits_53 : decode cX4_fits 53 = .ok (.goto 4, 3) := by decide +kernel
theorem dX4_fits_56 : decode cX4_fits 56 = .ok (.iconst 0, 1) := by decide +kernel
theorem dX4_fits_57 : decode cX4_fits 57 = .ok (.istore 6, 2) := by decide +kernel
theorem dX4_fits_59 : decode cX4_fits 59 = .ok (.iconst 1, 1) := by decide +kernel
theorem dX4_fits_60 : decode cX4_fits 60 = .ok (.istore 7, 2) := by decide +kernel
theorem dX4_fits_62 : decode cX4_fits 62 = .ok (.iconst 0, 1) := by decide +kernel
theorem dX4_fits_63 : decode cX4_fits 63 = .ok (.istore 8, 2) := by decide +kernel
theorem dX4_fits_65 : decode cX4_fits 65 = .ok (.iload 8, 2) := by decide +kernel
theorem dX4_fits_67 : decode cX4_fits 67 = .ok (.bipush 6, 2) := by decide +kernel
theorem dX4_fits_69 : decode cX4_fits 69 = .ok (.if_icmp .ge 40, 3) := by decide +kernel
theorem dX4_fits_72 : decode cX4_fits 72 = .ok (.iload 4, 2) := by decide +kernel
theorem dX4_fits_74 : decode cX4_fits 74 = .ok (.iload 8, 2) := by decide +kernel
theorem dX4_fits_76 : decode cX4_fits 76 = .ok (.ishr, 1) := by decide +kernel
theorem dX4_fits_77 : decode cX4_fits 77 = .ok (.iconst 1, 1) := by decide +kernel
theorem dX4_fits_78 : decode cX4_fits 78 = .ok (.iand, 1) := by decide +kernel
theorem dX4_fits_79 : decode cX4_fits 79 = .ok (.iconst 1, 1) := by decide +kernel
theorem dX4_fits_80 : decode cX4_fits 80 = .ok (.if_icmp .ne 23, 3) := by decide +kernel
theorem dX4_fits_83 : decode cX4_fits 83 = .ok (.aload_n 0, 1) := by decide +kernel
theorem dX4_fits_84 : decode cX4_fits 84 = .ok (.getfield 18, 3) := by decide +kernel
theorem dX4_fits_87 : decode cX4_fits 87 = .ok (.iload 8, 2) := by decide +kernel
theorem dX4_fits_89 : decode cX4_fits 89 = .ok (.iaload, 1) := by decide +kernel
theorem dX4_fits_90 : decode cX4_fits 90 = .ok (.aload_n 0, 1) := by decide +kernel
theorem dX4_fits_91 : decode cX4_fits 91 = .ok (.getfield 18, 3) := by decide +kernel
theorem dX4_fits_94 : decode cX4_fits 94 = .ok (.iload_n 1, 1) := by decide +kernel
theorem dX4_fits_95 : decode cX4_fits 95 = .ok (.iaload, 1) := by decide +kernel
theorem dX4_fits_96 : decode cX4_fits 96 = .ok (.iand, 1) := by decide +kernel
theorem dX4_fits_97 : decode cX4_fits 97 = .ok (.ifCond .eq 6, 3) := by decide +kernel
theorem dX4_fits_100 : decode cX4_fits 100 = .ok (.iconst 0, 1) := by decide +kernel
theorem dX4_fits_101 : decode cX4_fits 101 = .ok (.istore 7, 2) := by decide +kernel
theorem dX4_fits_103 : decode cX4_fits 103 = .ok (.iinc 8 1, 3) := by decide +kernel
theorem dX4_fits_106 : decode cX4_fits 106 = .ok (.goto (-41), 3) := by decide +kernel
theorem dX4_fits_109 : decode cX4_fits 109 = .ok (.iload 5, 2) := by decide +kernel
theorem dX4_fits_111 : decode cX4_fits 111 = .ok (.ifCond .eq 17, 3) := by decide +kernel
theorem dX4_fits_114 : decode cX4_fits 114 = .ok (.iload 6, 2) := by decide +kernel
theorem dX4_fits_116 : decode cX4_fits 116 = .ok (.ifCond .eq 12, 3) := by decide +kernel
theorem dX4_fits_119 : decode cX4_fits 119 = .ok (.iload 7, 2) := by decide +kernel
theorem dX4_fits_121 : decode cX4_fits 121 = .ok (.ifCond .eq 7, 3) := by decide +kernel
theorem dX4_fits_124 : decode cX4_fits 124 = .ok (.iconst 1, 1) := by decide +kernel
theorem dX4_fits_125 : decode cX4_fits 125 = .ok (.goto 4, 3) := by decide +kernel
theorem dX4_fits_128 : decode cX4_fits 128 = .ok (.iconst 0, 1) := by decide +kernel
theorem dX4_fits_129 : decode cX4_fits 129 = .ok (.ireturn, 1) := by decide +kernel
set_option maxRecDepth 20000 in
theorem ggX4_meanwhile_X10_overlaps : GoodIn wsX4_meanwhile wsX10_overlaps := goodIn_r _ [7, 8, 19] (by decide +kernel) (by decide +kernel)
set_option maxRecDepth 20000 in
theorem gX4_meanwhile_X10_overlaps : GoodIn wsX4_meanwhile (wsV RX4 133 RX10 yX10_overlaps wsX10_overlaps) := goodIn_app (goodIn_of _ (by decide +kernel)) ggX4_meanwhile_X10_overlaps
theorem dX4_meanwhile_0 : decode cX4_meanwhile 0 = .ok (.iconst 0, 1) := by decide +kernel
theorem dX4_meanwhile_1 : decode cX4_meanwhile 1 = .ok (.istore 4, 2) := by decide +kernel
theorem dX4_meanwhile_3 : decode cX4_meanwhile 3 = .ok (.iconst 0, 1) := by decide +kernel
theorem dX4_meanwhile_4 : decode cX4_meanwhile 4 = .ok (.istore 5, 2) := by decide +kernel
theorem dX4_meanwhile_6 : decode cX4_meanwhile 6 = .ok (.iload 5, 2) := by decide +kernel
theorem dX4_meanwhile_8 : decode cX4_meanwhile 8 = .ok (.bipush 6, 2) := by decide +kernel
theorem dX4_meanwhile_10 : decode cX4_meanwhile 10 = .ok (.if_icmp .ge 49, 3) := by decide +kernel
theorem dX4_meanwhile_13 : decode cX4_meanwhile 13 = .ok (.iload_n 3, 1) := by decide +kernel
theorem dX4_meanwhile_14 : decode cX4_meanwhile 14 = .ok (.iload 5, 2) := by decide +kernel
theorem dX4_meanwhile_16 : decode cX4_meanwhile 16 = .ok (.ishr, 1) := by decide +kernel
theorem dX4_meanwhile_17 : decode cX4_meanwhile 17 = .ok (.iconst 1, 1) := by decide +kernel
theorem dX4_meanwhile_18 : decode cX4_meanwhile 18 = .ok (.iand, 1) := by decide +kernel
theorem dX4_meanwhile_19 : decode cX4_meanwhile 19 = .ok (.iconst 1, 1) := by decide +kernel
theorem dX4_meanwhile_20 : decode cX4_meanwhile 20 = .ok (.if_icmp .ne 33, 3) := by decide +kernel
theorem dX4_meanwhile_23 : decode cX4_meanwhile 23 = .ok (.aload_n 0, 1) := by decide +kernel
theorem dX4_meanwhile_24 : decode cX4_meanwhile 24 = .ok (.getfield 24, 3) := by decide +kernel
theorem dX4_meanwhile_27 : decode cX4_meanwhile 27 = .ok (.iload 5, 2) := by decide +kernel
theorem dX4_meanwhile_29 : decode cX4_meanwhile 29 = .ok (.iload_n 2, 1) := by decide +kernel
theorem dX4_meanwhile_30 : decode cX4_meanwhile 30 = .ok (.iload_n 2, 1) := by decide +kernel
theorem dX4_meanwhile_31 : decode cX4_meanwhile 31 = .ok (.aload_n 0, 1) := by decide +kernel
theorem dX4_meanwhile_32 : decode cX4_meanwhile 32 = .ok (.getfield 9, 3) := by decide +kernel
theorem dX4_meanwhile_35 : decode cX4_meanwhile 35 = .ok (.iload_n 1, 1) := by decide +kernel
theorem dX4_meanwhile_36 : decode cX4_meanwhile 36 = .ok (.iaload, 1) := by decide +kernel
theorem dX4_meanwhile_37 : decode cX4_meanwhile 37 = .ok (.iadd, 1) := by decide +kernel
theorem dX4_meanwhile_38 : decode cX4_meanwhile 38 = .ok (.invokevirtual 133, 3) := by decide +kernel
theorem dX4_meanwhile_41 : decode cX4_meanwhile 41 = .ok (.ifCond .eq 12, 3) := by decide +kernel
theorem dX4_meanwhile_44 : decode cX4_meanwhile 44 = .ok (.iload 4, 2) := by decide +kernel
theorem dX4_meanwhile_46 : decode cX4_meanwhile 46 = .ok (.iconst 1, 1) := by decide +kernel
theorem dX4_meanwhile_47 : decode cX4_meanwhile 47 = .ok (.iload 5, 2) := by decide +kernel
theorem dX4_meanwhile_49 : decode cX4_meanwhile 49 = .ok (.ishl, 1) := by decide +kernel
theorem dX4_meanwhile_50 : decode cX4_meanwhile 50 = .ok (.ior, 1) := by decide +kernel
theorem dX4_meanwhile_51 : decode cX4_meanwhile 51 = .ok (.istore 4, 2) := by decide +kernel
theorem dX4_meanwhile_53 : decode cX4_meanwhile 53 = .ok (.iinc 5 1, 3) := by decide +kernel
theorem dX4_meanwhile_56 : decode cX4_meanwhile 56 = .ok (.goto (-50), 3) := by decide +kernel
theorem dX4_meanwhile_59 : decode cX4_meanwhile 59 = .ok (.iload 4, 2) := by decide +kernel
theorem dX4_meanwhile_61 : decode cX4_meanwhile 61 = .ok (.ireturn, 1) := by decide +kernel
set_option maxRecDepth 20000 in
theorem ggX4_taken_X10_at : GoodIn wsX4_taken wsX10_at := goodIn_r _ [6, 7, 8, 9, 10, 21] (by decide +kernel) (by decide +kernel)
set_option maxRecDepth 20000 in
theorem gX4_taken_X10_at : GoodIn wsX4_taken (wsV RX4 107 RX10 yX10_at wsX10_at) := goodIn_app (goodIn_of _ (by decide +kernel)) ggX4_taken_X10_at
theorem dX4_taken_0 : decode cX4_taken 0 = .ok (.iconst 0, 1) := by decide +kernel
theorem dX4_taken_1 : decode cX4_taken 1 = .ok (.istore_n 3, 1) := by decide +kernel
theorem dX4_taken_2 : decode cX4_taken 2 = .ok (.iconst 0, 1) := by decide +kernel
theorem dX4_taken_3 : decode cX4_taken 3 = .ok (.istore 4, 2) := by decide +kernel
theorem dX4_taken_5 : decode cX4_taken 5 = .ok (.iload 4, 2) := by decide +kernel
theorem dX4_taken_7 : decode cX4_taken 7 = .ok (.bipush 6, 2) := by decide +kernel
theorem dX4_taken_9 : decode cX4_taken 9 = .ok (.if_icmp .ge 34, 3) := by decide +kernel
theorem dX4_taken_12 : decode cX4_taken 12 = .ok (.iload_n 1, 1) := by decide +kernel
theorem dX4_taken_13 : decode cX4_taken 13 = .ok (.iload 4, 2) := by decide +kernel
theorem dX4_taken_15 : decode cX4_taken 15 = .ok (.ishr, 1) := by decide +kernel
theorem dX4_taken_16 : decode cX4_taken 16 = .ok (.iconst 1, 1) := by decide +kernel
theorem dX4_taken_17 : decode cX4_taken 17 = .ok (.iand, 1) := by decide +kernel
theorem dX4_taken_18 : decode cX4_taken 18 = .ok (.iconst 1, 1) := by decide +kernel
theorem dX4_taken_19 : decode cX4_taken 19 = .ok (.if_icmp .ne 18, 3) := by decide +kernel
theorem dX4_taken_22 : decode cX4_taken 22 = .ok (.iload_n 3, 1) := by decide +kernel
theorem dX4_taken_23 : decode cX4_taken 23 = .ok (.iconst 1, 1) := by decide +kernel
theorem dX4_taken_24 : decode cX4_taken 24 = .ok (.aload_n 0, 1) := by decide +kernel
theorem dX4_taken_25 : decode cX4_taken 25 = .ok (.getfield 24, 3) := by decide +kernel
theorem dX4_taken_28 : decode cX4_taken 28 = .ok (.iload 4, 2) := by decide +kernel
theorem dX4_taken_30 : decode cX4_taken 30 = .ok (.iload_n 2, 1) := by decide +kernel
theorem dX4_taken_31 : decode cX4_taken 31 = .ok (.invokevirtual 107, 3) := by decide +kernel
theorem dX4_taken_34 : decode cX4_taken 34 = .ok (.ishl, 1) := by decide +kernel
theorem dX4_taken_35 : decode cX4_taken 35 = .ok (.ior, 1) := by decide +kernel
theorem dX4_taken_36 : decode cX4_taken 36 = .ok (.istore_n 3, 1) := by decide +kernel
theorem dX4_taken_37 : decode cX4_taken 37 = .ok (.iinc 4 1, 3) := by decide +kernel
theorem dX4_taken_40 : decode cX4_taken 40 = .ok (.goto (-35), 3) := by decide +kernel
theorem dX4_taken_43 : decode cX4_taken 43 = .ok (.iload_n 3, 1) := by decide +kernel
theorem dX4_taken_44 : decode cX4_taken 44 = .ok (.ireturn, 1) := by decide +kernel
theorem dX5_init_0 : decode cX5_init 0 = .ok (.aload_n 0, 1) := by decide +kernel
theorem dX5_init_1 : decode cX5_init 1 = .ok (.invokespecial 3, 3) := by decide +kernel
theorem dX5_init_4 : decode cX5_init 4 = .ok (.aload_n 0, 1) := by decide +kernel
theorem dX5_init_5 : decode cX5_init 5 = .ok (.aload_n 1, 1) := by decide +kernel
theorem dX5_init_6 : decode cX5_init 6 = .ok (.putfield 9, 3) := by decide +kernel
theorem dX5_init_9 : decode cX5_init 9 = .ok (.aload_n 0, 1) := by decide +kernel
theorem dX5_init_10 : decode cX5_init 10 = .ok (.aload_n 2, 1) := by decide +kernel
theorem dX5_init_11 : decode cX5_init 11 = .ok (.putfield 15, 3) := by decide +kernel
theorem dX5_init_14 : decode cX5_init 14 = .ok (.aload_n 0, 1) := by decide +kernel
theorem dX5_init_15 : decode cX5_init 15 = .ok (.aload_n 3, 1) := by decide +kernel
theorem dX5_init_16 : decode cX5_init 16 = .ok (.putfield 19, 3) := by decide +kernel
theorem dX5_init_19 : decode cX5_init 19 = .ok (.return_, 1) := by decide +kernel
set_option maxRecDepth 20000 in
theorem ggX5_standing_X7_hasEntry : GoodIn wsX5_standing wsX7_hasEntry := goodIn_r _ [8, 9, 10, 11, 12, 119, 120, 121, 122] (by decide +kernel) (by decide +kernel)
set_option maxRecDepth 20000 in
theorem gX5_standing_X7_hasEntry : GoodIn wsX5_standing (wsV RX5 23 RX7 yX7_hasEntry wsX7_hasEntry) := goodIn_app (goodIn_of _ (by decide +kernel)) ggX5_standing_X7_hasEntry
set_option maxRecDepth 20000 in
theorem ggX5_standing_X1_lastOf : GoodIn wsX5_standing wsX1_lastOf := goodIn_r _ [17, 18, 19, 20, 21, 22, 23, 24, 25, 136, 137, 138, 139, 140, 141, 142] (by decide +kernel) (by decide +kernel)
set_option maxRecDepth 20000 in
theorem gX5_standing_X1_lastOf : GoodIn wsX5_standing (wsV RX5 33 RX1 yX1_lastOf wsX1_lastOf) := goodIn_app (goodIn_of _ (by decide +kernel)) ggX5_standing_X1_lastOf
set_option maxRecDepth 20000 in
theorem ggX5_standing_X1_heldMeasure : GoodIn wsX5_standing wsX1_heldMeasure := goodIn_r _ [29, 19, 20, 21, 22, 30, 31, 32, 33, 14, 15, 16, 17, 18, 23, 24, 25, 34, 35, 36, 37, 38, 10, 11, 12, 136, 137, 138, 139, 140, 141, 142] (by decide +kernel) (by decide +kernel)
set_option maxRecDepth 20000 in
theorem gX5_standing_X1_heldMeasure : GoodIn wsX5_standing (wsV RX5 45 RX1 yX1_heldMeasure wsX1_heldMeasure) := goodIn_app (goodIn_of _ (by decide +kernel)) ggX5_standing_X1_heldMeasure
set_option maxRecDepth 20000 in
theorem ggX5_standing_X2_isOfHeight : GoodIn wsX5_standing wsX2_isOfHeight := goodIn_r _ [43, 44, 45, 46, 10, 11, 12, 123, 124, 125, 126, 127, 128, 129, 130, 131, 132, 133, 134, 135] (by decide +kernel) (by decide +kernel)
set_option maxRecDepth 20000 in
theorem gX5_standing_X2_isOfHeight : GoodIn wsX5_standing (wsV RX5 49 RX2 yX2_isOfHeight wsX2_isOfHeight) := goodIn_app (goodIn_of _ (by decide +kernel)) ggX5_standing_X2_isOfHeight
set_option maxRecDepth 20000 in
theorem ggX5_standing_X10_has : GoodIn wsX5_standing wsX10_has := goodIn_r _ [51, 52, 53, 54, 50, 55, 56, 10, 11, 12, 143] (by decide +kernel) (by decide +kernel)
set_option maxRecDepth 20000 in
theorem gX5_standing_X10_has : GoodIn wsX5_standing (wsV RX5 57 RX10 yX10_has wsX10_has) := goodIn_app (goodIn_of _ (by decide +kernel)) ggX5_standing_X10_has
set_option maxRecDepth 20000 in
theorem ggX5_standing_X10_at : GoodIn wsX5_standing wsX10_at := goodIn_r _ [55, 56, 10, 11, 12, 143] (by decide +kernel) (by decide +kernel)
set_option maxRecDepth 20000 in
theorem gX5_standing_X10_at : GoodIn wsX5_standing (wsV RX5 62 RX10 yX10_at wsX10_at) := goodIn_app (goodIn_of _ (by decide +kernel)) ggX5_standing_X10_at
set_option maxRecDepth 20000 in
theorem ggX5_standing_X0_firstBar : GoodIn wsX5_standing wsX0_firstBar := goodIn_r _ [62, 63, 64, 65, 66, 67, 68, 69, 61, 70, 71, 31, 21, 32, 10, 11, 12, 72, 73, 74, 75, 76, 77, 78, 79, 80, 81, 82, 83, 84, 85, 86, 87, 88, 89, 90, 91, 16, 92, 93, 94, 95, 96, 18, 23, 25, 97, 98, 99, 100, 101, 38, 102, 103, 104, 105, 42, 106, 107, 108, 109, 110, 111, 112, 113, 114, 115, 144, 145, 146, 147, 119, 120, 121, 122, 123, 124, 125, 126, 127, 128, 129, 130, 131, 132, 133, 134, 135, 148, 149, 150, 151, 152, 153, 154, 155, 156, 157, 158, 136, 137, 138, 139, 140, 141, 142] (by decide +kernel) (by decide +kernel)
set_option maxRecDepth 20000 in
theorem gX5_standing_X0_firstBar : GoodIn wsX5_standing (wsV RX5 66 RX0 yX0_firstBar wsX0_firstBar) := goodIn_app (goodIn_of _ (by decide +kernel)) ggX5_standing_X0_firstBar
theorem dX5_standing_0 : decode cX5_standing 0 = .ok (.aload_n 1, 1) := by decide +kernel
theorem dX5_standing_1 : decode cX5_standing 1 = .ok (.iload_n 2, 1) := by decide +kernel
theorem dX5_standing_2 : decode cX5_standing 2 = .ok (.invokevirtual 23, 3) := by decide +kernel
theorem dX5_standing_5 : decode cX5_standing 5 = .ok (.ifCond .ne 5, 3) := by decide +kernel
theorem dX5_standing_8 : decode cX5_standing 8 = .ok (.iconst 1, 1) := by decide +kernel
theorem dX5_standing_9 : decode cX5_standing 9 = .ok (.ireturn, 1) := by decide +kernel
theorem dX5_standing_10 : decode cX5_standing 10 = .ok (.aload_n 0, 1) := by decide +kernel
theorem dX5_standing_11 : decode cX5_standing 11 = .ok (.getfield 15, 3) := by decide +kernel
theorem dX5_standing_14 : decode cX5_standing 14 = .ok (.iconst 1, 1) := by decide +kernel
theorem dX5_standing_15 : decode cX5_standing 15 = .ok (.aload_n 1, 1) := by decide +kernel
theorem dX5_standing_16 : decode cX5_standing 16 = .ok (.getfield 29, 3) := by decide +kernel
theorem dX5_standing_19 : decode cX5_standing 19 = .ok (.iload_n 2, 1) := by decide +kernel
theorem dX5_standing_20 : decode cX5_standing 20 = .ok (.iload_n 3, 1) := by decide +kernel
theorem dX5_standing_21 : decode cX5_standing 21 = .ok (.invokevirtual 33, 3) := by decide +kernel
theorem dX5_standing_24 : decode cX5_standing 24 = .ok (.iconst (-1), 1) := by decide +kernel
theorem dX5_standing_25 : decode cX5_standing 25 = .ok (.if_icmp .eq 5, 3) := by decide +kernel
theorem dX5_standing_28 : decode cX5_standing 28 = .ok (.iconst 2, 1) := by decide +kernel
theorem dX5_standing_29 : decode cX5_standing 29 = .ok (.ireturn, 1) := by decide +kernel
theorem dX5_standing_30 : decode cX5_standing 30 = .ok (.aload_n 0, 1) := by decide +kernel
theorem dX5_standing_31 : decode cX5_standing 31 = .ok (.getfield 15, 3) := by decide +kernel
theorem dX5_standing_34 : decode cX5_standing 34 = .ok (.iconst 2, 1) := by decide +kernel
theorem dX5_standing_35 : decode cX5_standing 35 = .ok (.aload_n 1, 1) := by decide +kernel
theorem dX5_standing_36 : decode cX5_standing 36 = .ok (.getfield 29, 3) := by decide +kernel
theorem dX5_standing_39 : decode cX5_standing 39 = .ok (.iload_n 2, 1) := by decide +kernel
theorem dX5_standing_40 : decode cX5_standing 40 = .ok (.iload_n 3, 1) := by decide +kernel
theorem dX5_standing_41 : decode cX5_standing 41 = .ok (.invokevirtual 33, 3) := by decide +kernel
theorem dX5_standing_44 : decode cX5_standing 44 = .ok (.iconst (-1), 1) := by decide +kernel
theorem dX5_standing_45 : decode cX5_standing 45 = .ok (.if_icmp .eq 5, 3) := by decide +kernel
theorem dX5_standing_48 : decode cX5_standing 48 = .ok (.iconst 3, 1) := by decide +kernel
theorem dX5_standing_49 : decode cX5_standing 49 = .ok (.ireturn, 1) := by decide +kernel
theorem dX5_standing_50 : decode cX5_standing 50 = .ok (.aload_n 0, 1) := by decide +kernel
theorem dX5_standing_51 : decode cX5_standing 51 = .ok (.getfield 9, 3) := by decide +kernel
theorem dX5_standing_54 : decode cX5_standing 54 = .ok (.getfield 39, 3) := by decide +kernel
theorem dX5_standing_57 : decode cX5_standing 57 = .ok (.iload_n 2, 1) := by decide +kernel
theorem dX5_standing_58 : decode cX5_standing 58 = .ok (.iaload, 1) := by decide +kernel
theorem dX5_standing_59 : decode cX5_standing 59 = .ok (.istore 4, 2) := by decide +kernel
theorem dX5_standing_61 : decode cX5_standing 61 = .ok (.aload_n 0, 1) := by decide +kernel
theorem dX5_standing_62 : decode cX5_standing 62 = .ok (.getfield 15, 3) := by decide +kernel
theorem dX5_standing_65 : decode cX5_standing 65 = .ok (.aload_n 1, 1) := by decide +kernel
theorem dX5_standing_66 : decode cX5_standing 66 = .ok (.getfield 29, 3) := by decide +kernel
theorem dX5_standing_69 : decode cX5_standing 69 = .ok (.iload_n 2, 1) := by decide +kernel
theorem dX5_standing_70 : decode cX5_standing 70 = .ok (.iload_n 3, 1) := by decide +kernel
theorem dX5_standing_71 : decode cX5_standing 71 = .ok (.invokevirtual 45, 3) := by decide +kernel
theorem dX5_standing_74 : decode cX5_standing 74 = .ok (.istore 5, 2) := by decide +kernel
theorem dX5_standing_76 : decode cX5_standing 76 = .ok (.iload 5, 2) := by decide +kernel
theorem dX5_standing_78 : decode cX5_standing 78 = .ok (.iconst (-1), 1) := by decide +kernel
theorem dX5_standing_79 : decode cX5_standing 79 = .ok (.if_icmp .eq 19, 3) := by decide +kernel
theorem dX5_standing_82 : decode cX5_standing 82 = .ok (.aload_n 0, 1) := by decide +kernel
theorem dX5_standing_83 : decode cX5_standing 83 = .ok (.getfield 9, 3) := by decide +kernel
theorem dX5_standing_86 : decode cX5_standing 86 = .ok (.iload 4, 2) := by decide +kernel
theorem dX5_standing_88 : decode cX5_standing 88 = .ok (.iload 5, 2) := by decide +kernel
theorem dX5_standing_90 : decode cX5_standing 90 = .ok (.invokevirtual 49, 3) := by decide +kernel
theorem dX5_standing_93 : decode cX5_standing 93 = .ok (.ifCond .ne 5, 3) := by decide +kernel
theorem dX5_standing_96 : decode cX5_standing 96 = .ok (.iconst 4, 1) := by decide +kernel
theorem dX5_standing_97 : decode cX5_standing 97 = .ok (.ireturn, 1) := by decide +kernel
theorem dX5_standing_98 : decode cX5_standing 98 = .ok (.aload_n 1, 1) := by decide +kernel
theorem dX5_standing_99 : decode cX5_standing 99 = .ok (.getfield 53, 3) := by decide +kernel
theorem dX5_standing_102 : decode cX5_standing 102 = .ok (.iload 4, 2) := by decide +kernel
theorem dX5_standing_104 : decode cX5_standing 104 = .ok (.invokevirtual 57, 3) := by decide +kernel
theorem dX5_standing_107 : decode cX5_standing 107 = .ok (.ifCond .ne 5, 3) := by decide +kernel
theorem dX5_standing_110 : decode cX5_standing 110 = .ok (.iconst 5, 1) := by decide +kernel
theorem dX5_standing_111 : decode cX5_standing 111 = .ok (.ireturn, 1) := by decide +kernel
theorem dX5_standing_112 : decode cX5_standing 112 = .ok (.aload_n 1, 1) := by decide +kernel
theorem dX5_standing_113 : decode cX5_standing 113 = .ok (.getfield 53, 3) := by decide +kernel
theorem dX5_standing_116 : decode cX5_standing 116 = .ok (.iload 4, 2) := by decide +kernel
theorem dX5_standing_118 : decode cX5_standing 118 = .ok (.iconst 1, 1) := by decide +kernel
theorem dX5_standing_119 : decode cX5_standing 119 = .ok (.invokevirtual 62, 3) := by decide +kernel
theorem dX5_standing_122 : decode cX5_standing 122 = .ok (.istore 6, 2) := by decide +kernel
theorem dX5_standing_124 : decode cX5_standing 124 = .ok (.aload_n 0, 1) := by decide +kernel
theorem dX5_standing_125 : decode cX5_standing 125 = .ok (.getfield 19, 3) := by decide +kernel
theorem dX5_standing_128 : decode cX5_standing 128 = .ok (.iload 6, 2) := by decide +kernel
theorem dX5_standing_130 : decode cX5_standing 130 = .ok (.aload_n 1, 1) := by decide +kernel
theorem dX5_standing_131 : decode cX5_standing 131 = .ok (.iload_n 2, 1) := by decide +kernel
theorem dX5_standing_132 : decode cX5_standing 132 = .ok (.iload_n 3, 1) := by decide +kernel
theorem dX5_standing_133 : decode cX5_standing 133 = .ok (.invokevirtual 66, 3) := by decide +kernel
theorem dX5_standing_136 : decode cX5_standing 136 = .ok (.iconst (-1), 1) := by decide +kernel
theorem dX5_standing_137 : decode cX5_standing 137 = .ok (.if_icmp .eq 8, 3) := by decide +kernel
theorem dX5_standing_140 : decode cX5_standing 140 = .ok (.bipush 6, 2) := by decide +kernel
theorem dX5_standing_142 : decode cX5_standing 142 = .ok (.goto 4, 3) := by decide +kernel
theorem dX5_standing_145 : decode cX5_standing 145 = .ok (.iconst 0, 1) := by decide +kernel
theorem dX5_standing_146 : decode cX5_standing 146 = .ok (.ireturn, 1) := by decide +kernel
set_option maxRecDepth 20000 in
theorem ggX5_winnerOf_X1_lastOf : GoodIn wsX5_winnerOf wsX1_lastOf := goodIn_r _ [7, 8, 9, 10, 11, 12, 13, 14, 15, 146, 147, 148, 149, 150, 151, 152] (by decide +kernel) (by decide +kernel)
set_option maxRecDepth 20000 in
theorem gX5_winnerOf_X1_lastOf : GoodIn wsX5_winnerOf (wsV RX5 33 RX1 yX1_lastOf wsX1_lastOf) := goodIn_app (goodIn_of _ (by decide +kernel)) ggX5_winnerOf_X1_lastOf
set_option maxRecDepth 20000 in
theorem ggX5_winnerOf_X5_goesAhead : GoodIn wsX5_winnerOf wsX5_goesAhead := goodIn_r _ [20, 2, 21, 22, 23, 6, 24, 8, 25, 26, 27, 28, 126, 127, 128, 146, 147, 148, 149, 150, 151, 152] (by decide +kernel) (by decide +kernel)
set_option maxRecDepth 20000 in
theorem gX5_winnerOf_X5_goesAhead : GoodIn wsX5_winnerOf (wsV RX5 75 RX5 yX5_goesAhead wsX5_goesAhead) := goodIn_app (goodIn_of _ (by decide +kernel)) ggX5_winnerOf_X5_goesAhead
set_option maxRecDepth 20000 in
theorem ggX5_winnerOf_X5_standing : GoodIn wsX5_winnerOf wsX5_standing := goodIn_r _ [32, 2, 1, 33, 34, 35, 36, 37, 38, 39, 26, 27, 28, 3, 4, 5, 6, 7, 8, 9, 10, 11, 12, 13, 14, 15, 40, 41, 42, 43, 44, 45, 46, 47, 48, 22, 23, 24, 25, 49, 50, 51, 52, 53, 54, 55, 56, 57, 58, 59, 60, 61, 62, 63, 64, 65, 66, 67, 68, 69, 70, 71, 72, 73, 74, 75, 76, 77, 78, 79, 80, 81, 82, 83, 84, 85, 86, 87, 88, 89, 90, 91, 92, 93, 94, 95, 96, 97, 98, 99, 100, 101, 102, 103, 104, 105, 106, 107, 108, 109, 110, 111, 112, 113, 114, 115, 116, 117, 118, 119, 120, 121, 122, 123, 124, 125, 126, 127, 128, 142, 143, 144, 145, 129, 130, 131, 132, 133, 134, 135, 136, 137, 138, 139, 140, 141, 146, 147, 148, 149, 150, 151, 152, 153, 154, 155, 156, 157, 158, 159, 160, 161, 162, 163, 164, 165, 166, 167, 168] (by decide +kernel) (by decide +kernel)
set_option maxRecDepth 20000 in
theorem gX5_winnerOf_X5_standing : GoodIn wsX5_winnerOf (wsV RX5 78 RX5 yX5_standing wsX5_standing) := goodIn_app (goodIn_of _ (by decide +kernel)) ggX5_winnerOf_X5_standing
theorem dX5_winnerOf_0 : decode cX5_winnerOf 0 = .ok (.iconst (-1), 1) := by decide +kernel
theorem dX5_winnerOf_1 : decode cX5_winnerOf 1 = .ok (.istore 4, 2) := by decide +kernel
theorem dX5_winnerOf_3 : decode cX5_winnerOf 3 = .ok (.iconst (-1), 1) := by decide +kernel
theorem dX5_winnerOf_4 : decode cX5_winnerOf 4 = .ok (.istore 5, 2) := by decide +kernel
theorem dX5_winnerOf_6 : decode cX5_winnerOf 6 = .ok (.iconst 0, 1) := by decide +kernel
theorem dX5_winnerOf_7 : decode cX5_winnerOf 7 = .ok (.istore 6, 2) := by decide +kernel
theorem dX5_winnerOf_9 : decode cX5_winnerOf 9 = .ok (.iload 6, 2) := by decide +kernel
theorem dX5_winnerOf_11 : decode cX5_winnerOf 11 = .ok (.aload_n 0, 1) := by decide +kernel
theorem dX5_winnerOf_12 : decode cX5_winnerOf 12 = .ok (.getfield 9, 3) := by decide +kernel
theorem dX5_winnerOf_15 : decode cX5_winnerOf 15 = .ok (.getfield 72, 3) := by decide +kernel
theorem dX5_winnerOf_18 : decode cX5_winnerOf 18 = .ok (.if_icmp .ge 88, 3) := by decide +kernel
theorem dX5_winnerOf_21 : decode cX5_winnerOf 21 = .ok (.aload_n 0, 1) := by decide +kernel
theorem dX5_winnerOf_22 : decode cX5_winnerOf 22 = .ok (.getfield 15, 3) := by decide +kernel
theorem dX5_winnerOf_25 : decode cX5_winnerOf 25 = .ok (.iconst 0, 1) := by decide +kernel
theorem dX5_winnerOf_26 : decode cX5_winnerOf 26 = .ok (.aload_n 1, 1) := by decide +kernel
theorem dX5_winnerOf_27 : decode cX5_winnerOf 27 = .ok (.getfield 29, 3) := by decide +kernel
theorem dX5_winnerOf_30 : decode cX5_winnerOf 30 = .ok (.iload 6, 2) := by decide +kernel
theorem dX5_winnerOf_32 : decode cX5_winnerOf 32 = .ok (.iload_n 3, 1) := by decide +kernel
theorem dX5_winnerOf_33 : decode cX5_winnerOf 33 = .ok (.invokevirtual 33, 3) := by decide +kernel
theorem dX5_winnerOf_36 : decode cX5_winnerOf 36 = .ok (.istore 7, 2) := by decide +kernel
theorem dX5_winnerOf_38 : decode cX5_winnerOf 38 = .ok (.aload_n 0, 1) := by decide +kernel
theorem dX5_winnerOf_39 : decode cX5_winnerOf 39 = .ok (.getfield 9, 3) := by decide +kernel
theorem dX5_winnerOf_42 : decode cX5_winnerOf 42 = .ok (.getfield 39, 3) := by decide +kernel
theorem dX5_winnerOf_45 : decode cX5_winnerOf 45 = .ok (.iload 6, 2) := by decide +kernel
theorem dX5_winnerOf_47 : decode cX5_winnerOf 47 = .ok (.iaload, 1) := by decide +kernel
theorem dX5_winnerOf_48 : decode cX5_winnerOf 48 = .ok (.iload_n 2, 1) := by decide +kernel
theorem dX5_winnerOf_49 : decode cX5_winnerOf 49 = .ok (.if_icmp .ne 24, 3) := by decide +kernel
theorem dX5_winnerOf_52 : decode cX5_winnerOf 52 = .ok (.iload 7, 2) := by decide +kernel
theorem dX5_winnerOf_54 : decode cX5_winnerOf 54 = .ok (.iconst (-1), 1) := by decide +kernel
theorem dX5_winnerOf_55 : decode cX5_winnerOf 55 = .ok (.if_icmp .eq 18, 3) := by decide +kernel
theorem dX5_winnerOf_58 : decode cX5_winnerOf 58 = .ok (.aload_n 0, 1) := by decide +kernel
theorem dX5_winnerOf_59 : decode cX5_winnerOf 59 = .ok (.iload 7, 2) := by decide +kernel
theorem dX5_winnerOf_61 : decode cX5_winnerOf 61 = .ok (.iload 5, 2) := by decide +kernel
theorem dX5_winnerOf_63 : decode cX5_winnerOf 63 = .ok (.invokevirtual 75, 3) := by decide +kernel
theorem dX5_winnerOf_66 : decode cX5_winnerOf 66 = .ok (.ifCond .eq 7, 3) := by decide +kernel
theorem dX5_winnerOf_69 : decode cX5_winnerOf 69 = .ok (.iconst 1, 1) := by decide +kernel
theorem dX5_winnerOf_70 : decode cX5_winnerOf 70 = .ok (.goto 4, 3) := by decide +kernel
theorem dX5_winnerOf_73 : decode cX5_winnerOf 73 = .ok (.iconst 0, 1) := by decide +kernel
theorem dX5_winnerOf_74 : decode cX5_winnerOf 74 = .ok (.istore 8, 2) := by decide +kernel
theorem dX5_winnerOf_76 : decode cX5_winnerOf 76 = .ok (.iload 8, 2) := by decide +kernel
theorem dX5_winnerOf_78 : decode cX5_winnerOf 78 = .ok (.ifCond .eq 22, 3) := by decide +kernel
theorem dX5_winnerOf_81 : decode cX5_winnerOf 81 = .ok (.aload_n 0, 1) := by decide +kernel
theorem dX5_winnerOf_82 : decode cX5_winnerOf 82 = .ok (.aload_n 1, 1) := by decide +kernel
theorem dX5_winnerOf_83 : decode cX5_winnerOf 83 = .ok (.iload 6, 2) := by decide +kernel
theorem dX5_winnerOf_85 : decode cX5_winnerOf 85 = .ok (.iload_n 3, 1) := by decide +kernel
theorem dX5_winnerOf_86 : decode cX5_winnerOf 86 = .ok (.invokevirtual 78, 3) := by decide +kernel
theorem dX5_winnerOf_89 : decode cX5_winnerOf 89 = .ok (.ifCond .ne 11, 3) := by decide +kernel
theorem dX5_winnerOf_92 : decode cX5_winnerOf 92 = .ok (.iload 6, 2) := by decide +kernel
theorem dX5_winnerOf_94 : decode cX5_winnerOf 94 = .ok (.istore 4, 2) := by decide +kernel
theorem dX5_winnerOf_96 : decode cX5_winnerOf 96 = .ok (.iload 7, 2) := by decide +kernel
theorem dX5_winnerOf_98 : decode cX5_winnerOf 98 = .ok (.istore 5, 2) := by decide +kernel
theorem dX5_winnerOf_100 : decode cX5_winnerOf 100 = .ok (.iinc 6 1, 3) := by decide +kernel
theorem dX5_winnerOf_103 : decode cX5_winnerOf 103 = .ok (.goto (-94), 3) := by decide +kernel
theorem dX5_winnerOf_106 : decode cX5_winnerOf 106 = .ok (.iload 4, 2) := by decide +kernel
theorem dX5_winnerOf_108 : decode cX5_winnerOf 108 = .ok (.ireturn, 1) := by decide +kernel
set_option maxRecDepth 20000 in
theorem ggX5_goesAhead_X1_valueAt : GoodIn wsX5_goesAhead wsX1_valueAt := goodIn_r _ [6, 7, 8, 9, 10, 11, 15, 16, 17, 18, 19, 20, 21] (by decide +kernel) (by decide +kernel)
set_option maxRecDepth 20000 in
theorem gX5_goesAhead_X1_valueAt : GoodIn wsX5_goesAhead (wsV RX5 82 RX1 yX1_valueAt wsX1_valueAt) := goodIn_app (goodIn_of _ (by decide +kernel)) ggX5_goesAhead_X1_valueAt
theorem dX5_goesAhead_0 : decode cX5_goesAhead 0 = .ok (.aload_n 0, 1) := by decide +kernel
theorem dX5_goesAhead_1 : decode cX5_goesAhead 1 = .ok (.getfield 15, 3) := by decide +kernel
theorem dX5_goesAhead_4 : decode cX5_goesAhead 4 = .ok (.iload_n 1, 1) := by decide +kernel
theorem dX5_goesAhead_5 : decode cX5_goesAhead 5 = .ok (.invokevirtual 82, 3) := by decide +kernel
theorem dX5_goesAhead_8 : decode cX5_goesAhead 8 = .ok (.istore_n 3, 1) := by decide +kernel
theorem dX5_goesAhead_9 : decode cX5_goesAhead 9 = .ok (.aload_n 0, 1) := by decide +kernel
theorem dX5_goesAhead_10 : decode cX5_goesAhead 10 = .ok (.getfield 15, 3) := by decide +kernel
theorem dX5_goesAhead_13 : decode cX5_goesAhead 13 = .ok (.iload_n 2, 1) := by decide +kernel
theorem dX5_goesAhead_14 : decode cX5_goesAhead 14 = .ok (.invokevirtual 82, 3) := by decide +kernel
theorem dX5_goesAhead_17 : decode cX5_goesAhead 17 = .ok (.istore 4, 2) := by decide +kernel
theorem dX5_goesAhead_19 : decode cX5_goesAhead 19 = .ok (.iload_n 2, 1) := by decide +kernel
theorem dX5_goesAhead_20 : decode cX5_goesAhead 20 = .ok (.iconst (-1), 1) := by decide +kernel
theorem dX5_goesAhead_21 : decode cX5_goesAhead 21 = .ok (.if_icmp .eq 20, 3) := by decide +kernel
theorem dX5_goesAhead_24 : decode cX5_goesAhead 24 = .ok (.iload_n 3, 1) := by decide +kernel
theorem dX5_goesAhead_25 : decode cX5_goesAhead 25 = .ok (.iload 4, 2) := by decide +kernel
theorem dX5_goesAhead_27 : decode cX5_goesAhead 27 = .ok (.if_icmp .lt 14, 3) := by decide +kernel
theorem dX5_goesAhead_30 : decode cX5_goesAhead 30 = .ok (.iload_n 3, 1) := by decide +kernel
theorem dX5_goesAhead_31 : decode cX5_goesAhead 31 = .ok (.iload 4, 2) := by decide +kernel
theorem dX5_goesAhead_33 : decode cX5_goesAhead 33 = .ok (.if_icmp .ne 12, 3) := by decide +kernel
theorem dX5_goesAhead_36 : decode cX5_goesAhead 36 = .ok (.iload_n 1, 1) := by decide +kernel
theorem dX5_goesAhead_37 : decode cX5_goesAhead 37 = .ok (.iload_n 2, 1) := by decide +kernel
theorem dX5_goesAhead_38 : decode cX5_goesAhead 38 = .ok (.if_icmp .ge 7, 3) := by decide +kernel
theorem dX5_goesAhead_41 : decode cX5_goesAhead 41 = .ok (.iconst 1, 1) := by decide +kernel
theorem dX5_goesAhead_42 : decode cX5_goesAhead 42 = .ok (.goto 4, 3) := by decide +kernel
theorem dX5_goesAhead_45 : decode cX5_goesAhead 45 = .ok (.iconst 0, 1) := by decide +kernel
theorem dX5_goesAhead_46 : decode cX5_goesAhead 46 = .ok (.ireturn, 1) := by decide +kernel
set_option maxRecDepth 20000 in
theorem ggX5_pointsOfWinner_X5_standing : GoodIn wsX5_pointsOfWinner wsX5_standing := goodIn_r _ [7, 8, 1, 2, 9, 10, 11, 12, 13, 14, 15, 16, 17, 18, 19, 20, 21, 22, 23, 24, 25, 26, 27, 28, 29, 30, 31, 32, 33, 34, 35, 36, 37, 38, 39, 40, 41, 42, 43, 44, 45, 46, 47, 48, 49, 50, 51, 52, 53, 54, 55, 56, 57, 58, 59, 60, 61, 62, 63, 64, 65, 66, 67, 68, 69, 70, 71, 72, 73, 74, 75, 76, 77, 78, 79, 80, 81, 82, 83, 84, 85, 86, 87, 88, 89, 90, 91, 92, 93, 94, 95, 96, 97, 98, 99, 100, 101, 102, 103, 104, 105, 106, 107, 108, 109, 110, 111, 112, 113, 114, 115, 116, 117, 118, 119, 120, 130, 131, 132, 146, 147, 148, 149, 133, 134, 135, 136, 137, 138, 139, 140, 141, 142, 143, 144, 145, 150, 151, 152, 153, 154, 155, 156, 157, 158, 159, 160, 161, 162, 163, 164, 165, 166, 167, 168, 169, 170, 171, 172] (by decide +kernel) (by decide +kernel)
set_option maxRecDepth 20000 in
theorem gX5_pointsOfWinner_X5_standing : GoodIn wsX5_pointsOfWinner (wsV RX5 78 RX5 yX5_standing wsX5_standing) := goodIn_app (goodIn_of _ (by decide +kernel)) ggX5_pointsOfWinner_X5_standing
set_option maxRecDepth 20000 in
theorem ggX5_pointsOfWinner_X0_pointsFor : GoodIn wsX5_pointsOfWinner wsX0_pointsFor := goodIn_r _ [124, 69, 71, 72, 73, 74, 66, 75, 70, 76, 36, 26, 37, 15, 16, 17, 77, 78, 79, 80, 81, 82, 83, 84, 85, 86, 87, 88, 89, 90, 91, 92, 93, 125, 126, 127, 128, 129, 158, 159, 160, 161, 133, 134, 135, 136, 137, 138, 139, 140, 141, 142, 143, 144, 145, 146, 147, 148, 149, 162, 163, 164, 165, 166, 167, 168, 169, 170, 171, 172] (by decide +kernel) (by decide +kernel)
set_option maxRecDepth 20000 in
theorem gX5_pointsOfWinner_X0_pointsFor : GoodIn wsX5_pointsOfWinner (wsV RX5 86 RX0 yX0_pointsFor wsX0_pointsFor) := goodIn_app (goodIn_of _ (by decide +kernel)) ggX5_pointsOfWinner_X0_pointsFor
theorem dX5_pointsOfWinner_0 : decode cX5_pointsOfWinner 0 = .ok (.aload_n 0, 1) := by decide +kernel
theorem dX5_pointsOfWinner_1 : decode cX5_pointsOfWinner 1 = .ok (.getfield 9, 3) := by decide +kernel
theorem dX5_pointsOfWinner_4 : decode cX5_pointsOfWinner 4 = .ok (.getfield 39, 3) := by decide +kernel
theorem dX5_pointsOfWinner_7 : decode cX5_pointsOfWinner 7 = .ok (.iload_n 2, 1) := by decide +kernel
theorem dX5_pointsOfWinner_8 : decode cX5_pointsOfWinner 8 = .ok (.iaload, 1) := by decide +kernel
theorem dX5_pointsOfWinner_9 : decode cX5_pointsOfWinner 9 = .ok (.istore 4, 2) := by decide +kernel
theorem dX5_pointsOfWinner_11 : decode cX5_pointsOfWinner 11 = .ok (.iconst 0, 1) := by decide +kernel
theorem dX5_pointsOfWinner_12 : decode cX5_pointsOfWinner 12 = .ok (.istore 5, 2) := by decide +kernel
theorem dX5_pointsOfWinner_14 : decode cX5_pointsOfWinner 14 = .ok (.iconst 0, 1) := by decide +kernel
theorem dX5_pointsOfWinner_15 : decode cX5_pointsOfWinner 15 = .ok (.istore 6, 2) := by decide +kernel
theorem dX5_pointsOfWinner_17 : decode cX5_pointsOfWinner 17 = .ok (.iload 6, 2) := by decide +kernel
theorem dX5_pointsOfWinner_19 : decode cX5_pointsOfWinner 19 = .ok (.aload_n 0, 1) := by decide +kernel
theorem dX5_pointsOfWinner_20 : decode cX5_pointsOfWinner 20 = .ok (.getfield 9, 3) := by decide +kernel
theorem dX5_pointsOfWinner_23 : decode cX5_pointsOfWinner 23 = .ok (.getfield 72, 3) := by decide +kernel
theorem dX5_pointsOfWinner_26 : decode cX5_pointsOfWinner 26 = .ok (.if_icmp .ge 44, 3) := by decide +kernel
theorem dX5_pointsOfWinner_29 : decode cX5_pointsOfWinner 29 = .ok (.iload 6, 2) := by decide +kernel
theorem dX5_pointsOfWinner_31 : decode cX5_pointsOfWinner 31 = .ok (.iload_n 2, 1) := by decide +kernel
theorem dX5_pointsOfWinner_32 : decode cX5_pointsOfWinner 32 = .ok (.if_icmp .eq 32, 3) := by decide +kernel
theorem dX5_pointsOfWinner_35 : decode cX5_pointsOfWinner 35 = .ok (.aload_n 0, 1) := by decide +kernel
theorem dX5_pointsOfWinner_36 : decode cX5_pointsOfWinner 36 = .ok (.getfield 9, 3) := by decide +kernel
theorem dX5_pointsOfWinner_39 : decode cX5_pointsOfWinner 39 = .ok (.getfield 39, 3) := by decide +kernel
theorem dX5_pointsOfWinner_42 : decode cX5_pointsOfWinner 42 = .ok (.iload 6, 2) := by decide +kernel
theorem dX5_pointsOfWinner_44 : decode cX5_pointsOfWinner 44 = .ok (.iaload, 1) := by decide +kernel
theorem dX5_pointsOfWinner_45 : decode cX5_pointsOfWinner 45 = .ok (.iload 4, 2) := by decide +kernel
theorem dX5_pointsOfWinner_47 : decode cX5_pointsOfWinner 47 = .ok (.if_icmp .ne 17, 3) := by decide +kernel
theorem dX5_pointsOfWinner_50 : decode cX5_pointsOfWinner 50 = .ok (.aload_n 0, 1) := by decide +kernel
theorem dX5_pointsOfWinner_51 : decode cX5_pointsOfWinner 51 = .ok (.aload_n 1, 1) := by decide +kernel
theorem dX5_pointsOfWinner_52 : decode cX5_pointsOfWinner 52 = .ok (.iload 6, 2) := by decide +kernel
theorem dX5_pointsOfWinner_54 : decode cX5_pointsOfWinner 54 = .ok (.iload_n 3, 1) := by decide +kernel
theorem dX5_pointsOfWinner_55 : decode cX5_pointsOfWinner 55 = .ok (.invokevirtual 78, 3) := by decide +kernel
theorem dX5_pointsOfWinner_58 : decode cX5_pointsOfWinner 58 = .ok (.ifCond .ne 6, 3) := by decide +kernel
theorem dX5_pointsOfWinner_61 : decode cX5_pointsOfWinner 61 = .ok (.iinc 5 1, 3) := by decide +kernel
theorem dX5_pointsOfWinner_64 : decode cX5_pointsOfWinner 64 = .ok (.iinc 6 1, 3) := by decide +kernel
theorem dX5_pointsOfWinner_67 : decode cX5_pointsOfWinner 67 = .ok (.goto (-50), 3) := by decide +kernel
theorem dX5_pointsOfWinner_70 : decode cX5_pointsOfWinner 70 = .ok (.aload_n 0, 1) := by decide +kernel
theorem dX5_pointsOfWinner_71 : decode cX5_pointsOfWinner 71 = .ok (.getfield 19, 3) := by decide +kernel
theorem dX5_pointsOfWinner_74 : decode cX5_pointsOfWinner 74 = .ok (.aload_n 1, 1) := by decide +kernel
theorem dX5_pointsOfWinner_75 : decode cX5_pointsOfWinner 75 = .ok (.iload_n 2, 1) := by decide +kernel
theorem dX5_pointsOfWinner_76 : decode cX5_pointsOfWinner 76 = .ok (.iload 5, 2) := by decide +kernel
theorem dX5_pointsOfWinner_78 : decode cX5_pointsOfWinner 78 = .ok (.invokevirtual 86, 3) := by decide +kernel
theorem dX5_pointsOfWinner_81 : decode cX5_pointsOfWinner 81 = .ok (.ireturn, 1) := by decide +kernel
theorem dX6_init_0 : decode cX6_init 0 = .ok (.aload_n 0, 1) := by decide +kernel
theorem dX6_init_1 : decode cX6_init 1 = .ok (.invokespecial 3, 3) := by decide +kernel
theorem dX6_init_4 : decode cX6_init 4 = .ok (.aload_n 0, 1) := by decide +kernel
theorem dX6_init_5 : decode cX6_init 5 = .ok (.sipush 401, 3) := by decide +kernel
theorem dX6_init_8 : decode cX6_init 8 = .ok (.newarray .int, 2) := by decide +kernel
theorem dX6_init_10 : decode cX6_init 10 = .ok (.putfield 9, 3) := by decide +kernel
theorem dX6_init_13 : decode cX6_init 13 = .ok (.aload_n 0, 1) := by decide +kernel
theorem dX6_init_14 : decode cX6_init 14 = .ok (.sipush 401, 3) := by decide +kernel
theorem dX6_init_17 : decode cX6_init 17 = .ok (.newarray .int, 2) := by decide +kernel
theorem dX6_init_19 : decode cX6_init 19 = .ok (.putfield 15, 3) := by decide +kernel
theorem dX6_init_22 : decode cX6_init 22 = .ok (.aload_n 0, 1) := by decide +kernel
theorem dX6_init_23 : decode cX6_init 23 = .ok (.sipush 401, 3) := by decide +kernel
theorem dX6_init_26 : decode cX6_init 26 = .ok (.newarray .int, 2) := by decide +kernel
theorem dX6_init_28 : decode cX6_init 28 = .ok (.putfield 18, 3) := by decide +kernel
theorem dX6_init_31 : decode cX6_init 31 = .ok (.aload_n 0, 1) := by decide +kernel
theorem dX6_init_32 : decode cX6_init 32 = .ok (.iconst 0, 1) := by decide +kernel
theorem dX6_init_33 : decode cX6_init 33 = .ok (.putfield 21, 3) := by decide +kernel
theorem dX6_init_36 : decode cX6_init 36 = .ok (.aload_n 0, 1) := by decide +kernel
theorem dX6_init_37 : decode cX6_init 37 = .ok (.aload_n 1, 1) := by decide +kernel
theorem dX6_init_38 : decode cX6_init 38 = .ok (.putfield 25, 3) := by decide +kernel
theorem dX6_init_41 : decode cX6_init 41 = .ok (.return_, 1) := by decide +kernel
set_option maxRecDepth 20000 in
theorem ggX6_split_X6_pastRun : GoodIn wsX6_split wsX6_pastRun := goodIn_r _ [9, 10, 11, 12, 13, 14, 15, 16, 17, 18, 19, 8, 20, 96, 97, 98, 99, 100, 101, 102] (by decide +kernel) (by decide +kernel)
set_option maxRecDepth 20000 in
theorem gX6_split_X6_pastRun : GoodIn wsX6_split (wsV RX6 29 RX6 yX6_pastRun wsX6_pastRun) := goodIn_app (goodIn_of _ (by decide +kernel)) ggX6_split_X6_pastRun
set_option maxRecDepth 20000 in
theorem ggX6_split_X6_tokenEnd : GoodIn wsX6_split wsX6_tokenEnd := goodIn_r _ [24, 10, 11, 12, 13, 14, 15, 16, 17, 18, 19, 8, 20, 5, 6, 7, 9, 96, 97, 98, 99, 100, 101, 102] (by decide +kernel) (by decide +kernel)
set_option maxRecDepth 20000 in
theorem gX6_split_X6_tokenEnd : GoodIn wsX6_split (wsV RX6 33 RX6 yX6_tokenEnd wsX6_tokenEnd) := goodIn_app (goodIn_of _ (by decide +kernel)) ggX6_split_X6_tokenEnd
set_option maxRecDepth 20000 in
theorem ggX6_split_X6_kindOf : GoodIn wsX6_split wsX6_kindOf := goodIn_r _ [28, 10, 11, 12, 13, 14, 15, 16, 17, 18, 19, 8, 20, 29, 30, 31, 32, 33, 34, 35, 36, 37, 38, 39, 40, 41, 42, 43, 44, 45, 46, 47, 48, 49, 50, 51, 52, 53, 54, 55, 56, 57, 58, 59, 60, 61, 62, 63, 64, 65, 66, 67, 68, 69, 70, 71, 72, 73, 74, 75, 76, 77, 78, 79, 80, 81, 82, 83, 84, 85, 86, 87, 88, 89, 90, 91, 96, 97, 98, 99, 100, 101, 102] (by decide +kernel) (by decide +kernel)
set_option maxRecDepth 20000 in
theorem gX6_split_X6_kindOf : GoodIn wsX6_split (wsV RX6 37 RX6 yX6_kindOf wsX6_kindOf) := goodIn_app (goodIn_of _ (by decide +kernel)) ggX6_split_X6_kindOf
set_option maxRecDepth 20000 in
theorem ggX6_split_X6_numberAt : GoodIn wsX6_split wsX6_numberAt := goodIn_r _ [95, 10, 11, 12, 13, 14, 15, 16, 17, 96, 97, 98, 99, 100, 101, 102] (by decide +kernel) (by decide +kernel)
set_option maxRecDepth 20000 in
theorem gX6_split_X6_numberAt : GoodIn wsX6_split (wsV RX6 40 RX6 yX6_numberAt wsX6_numberAt) := goodIn_app (goodIn_of _ (by decide +kernel)) ggX6_split_X6_numberAt
theorem dX6_split_0 : decode cX6_split 0 = .ok (.iconst 0, 1) := by decide +kernel
theorem dX6_split_1 : decode cX6_split 1 = .ok (.istore_n 1, 1) := by decide +kernel
theorem dX6_split_2 : decode cX6_split 2 = .ok (.iconst 1, 1) := by decide +kernel
theorem dX6_split_3 : decode cX6_split 3 = .ok (.istore_n 2, 1) := by decide +kernel
theorem dX6_split_4 : decode cX6_split 4 = .ok (.aload_n 0, 1) := by decide +kernel
theorem dX6_split_5 : decode cX6_split 5 = .ok (.iconst 0, 1) := by decide +kernel
theorem dX6_split_6 : decode cX6_split 6 = .ok (.putfield 21, 3) := by decide +kernel
theorem dX6_split_9 : decode cX6_split 9 = .ok (.iconst 0, 1) := by decide +kernel
theorem dX6_split_10 : decode cX6_split 10 = .ok (.istore_n 3, 1) := by decide +kernel
theorem dX6_split_11 : decode cX6_split 11 = .ok (.iload_n 3, 1) := by decide +kernel
theorem dX6_split_12 : decode cX6_split 12 = .ok (.sipush 400, 3) := by decide +kernel
theorem dX6_split_15 : decode cX6_split 15 = .ok (.if_icmp .gt 105, 3) := by decide +kernel
theorem dX6_split_18 : decode cX6_split 18 = .ok (.iload_n 2, 1) := by decide +kernel
theorem dX6_split_19 : decode cX6_split 19 = .ok (.ifCond .eq 101, 3) := by decide +kernel
theorem dX6_split_22 : decode cX6_split 22 = .ok (.aload_n 0, 1) := by decide +kernel
theorem dX6_split_23 : decode cX6_split 23 = .ok (.iload_n 1, 1) := by decide +kernel
theorem dX6_split_24 : decode cX6_split 24 = .ok (.iconst 0, 1) := by decide +kernel
theorem dX6_split_25 : decode cX6_split 25 = .ok (.invokevirtual 29, 3) := by decide +kernel
theorem dX6_split_28 : decode cX6_split 28 = .ok (.istore_n 1, 1) := by decide +kernel
theorem dX6_split_29 : decode cX6_split 29 = .ok (.aload_n 0, 1) := by decide +kernel
theorem dX6_split_30 : decode cX6_split 30 = .ok (.iload_n 1, 1) := by decide +kernel
theorem dX6_split_31 : decode cX6_split 31 = .ok (.invokevirtual 33, 3) := by decide +kernel
theorem dX6_split_34 : decode cX6_split 34 = .ok (.istore 4, 2) := by decide +kernel
theorem dX6_split_36 : decode cX6_split 36 = .ok (.aload_n 0, 1) := by decide +kernel
theorem dX6_split_37 : decode cX6_split 37 = .ok (.iload_n 1, 1) := by decide +kernel
theorem dX6_split_38 : decode cX6_split 38 = .ok (.iload 4, 2) := by decide +kernel
theorem dX6_split_40 : decode cX6_split 40 = .ok (.invokevirtual 37, 3) := by decide +kernel
theorem dX6_split_43 : decode cX6_split 43 = .ok (.istore 5, 2) := by decide +kernel
theorem dX6_split_45 : decode cX6_split 45 = .ok (.aload_n 0, 1) := by decide +kernel
theorem dX6_split_46 : decode cX6_split 46 = .ok (.getfield 9, 3) := by decide +kernel
theorem dX6_split_49 : decode cX6_split 49 = .ok (.iload_n 3, 1) := by decide +kernel
theorem dX6_split_50 : decode cX6_split 50 = .ok (.iload 5, 2) := by decide +kernel
theorem dX6_split_52 : decode cX6_split 52 = .ok (.iastore, 1) := by decide +kernel
theorem dX6_split_53 : decode cX6_split 53 = .ok (.aload_n 0, 1) := by decide +kernel
theorem dX6_split_54 : decode cX6_split 54 = .ok (.getfield 15, 3) := by decide +kernel
theorem dX6_split_57 : decode cX6_split 57 = .ok (.iload_n 3, 1) := by decide +kernel
theorem dX6_split_58 : decode cX6_split 58 = .ok (.iload_n 1, 1) := by decide +kernel
theorem dX6_split_59 : decode cX6_split 59 = .ok (.iastore, 1) := by decide +kernel
theorem dX6_split_60 : decode cX6_split 60 = .ok (.aload_n 0, 1) := by decide +kernel
theorem dX6_split_61 : decode cX6_split 61 = .ok (.getfield 18, 3) := by decide +kernel
theorem dX6_split_64 : decode cX6_split 64 = .ok (.iload_n 3, 1) := by decide +kernel
theorem dX6_split_65 : decode cX6_split 65 = .ok (.iload 5, 2) := by decide +kernel
theorem dX6_split_67 : decode cX6_split 67 = .ok (.bipush 16, 2) := by decide +kernel
theorem dX6_split_69 : decode cX6_split 69 = .ok (.if_icmp .ne 13, 3) := by decide +kernel
theorem dX6_split_72 : decode cX6_split 72 = .ok (.aload_n 0, 1) := by decide +kernel
theorem dX6_split_73 : decode cX6_split 73 = .ok (.iload_n 1, 1) := by decide +kernel
theorem dX6_split_74 : decode cX6_split 74 = .ok (.iload 4, 2) := by decide +kernel
theorem dX6_split_76 : decode cX6_split 76 = .ok (.invokevirtual 40, 3) := by decide +kernel
theorem dX6_split_79 : decode cX6_split 79 = .ok (.goto 4, 3) := by decide +kernel
theorem dX6_split_82 : decode cX6_split 82 = .ok (.iconst 0, 1) := by decide +kernel
theorem dX6_split_83 : decode cX6_split 83 = .ok (.iastore, 1) := by decide +kernel
theorem dX6_split_84 : decode cX6_split 84 = .ok (.aload_n 0, 1) := by decide +kernel
theorem dX6_split_85 : decode cX6_split 85 = .ok (.iload_n 3, 1) := by decide +kernel
theorem dX6_split_86 : decode cX6_split 86 = .ok (.iconst 1, 1) := by decide +kernel
theorem dX6_split_87 : decode cX6_split 87 = .ok (.iadd, 1) := by decide +kernel
theorem dX6_split_88 : decode cX6_split 88 = .ok (.putfield 21, 3) := by decide +kernel
theorem dX6_split_91 : decode cX6_split 91 = .ok (.iload 4, 2) := by decide +kernel
theorem dX6_split_93 : decode cX6_split 93 = .ok (.istore_n 1, 1) := by decide +kernel
theorem dX6_split_94 : decode cX6_split 94 = .ok (.iload 5, 2) := by decide +kernel
theorem dX6_split_96 : decode cX6_split 96 = .ok (.bipush 27, 2) := by decide +kernel
theorem dX6_split_98 : decode cX6_split 98 = .ok (.if_icmp .eq 14, 3) := by decide +kernel
theorem dX6_split_101 : decode cX6_split 101 = .ok (.iload 5, 2) := by decide +kernel
theorem dX6_split_103 : decode cX6_split 103 = .ok (.bipush 28, 2) := by decide +kernel
theorem dX6_split_105 : decode cX6_split 105 = .ok (.if_icmp .eq 7, 3) := by decide +kernel
theorem dX6_split_108 : decode cX6_split 108 = .ok (.iconst 1, 1) := by decide +kernel
theorem dX6_split_109 : decode cX6_split 109 = .ok (.goto 4, 3) := by decide +kernel
theorem dX6_split_112 : decode cX6_split 112 = .ok (.iconst 0, 1) := by decide +kernel
theorem dX6_split_113 : decode cX6_split 113 = .ok (.istore_n 2, 1) := by decide +kernel
theorem dX6_split_114 : decode cX6_split 114 = .ok (.iinc 3 1, 3) := by decide +kernel
theorem dX6_split_117 : decode cX6_split 117 = .ok (.goto (-106), 3) := by decide +kernel
theorem dX6_split_120 : decode cX6_split 120 = .ok (.return_, 1) := by decide +kernel
theorem dX6_sortOf_0 : decode cX6_sortOf 0 = .ok (.iload_n 0, 1) := by decide +kernel
theorem dX6_sortOf_1 : decode cX6_sortOf 1 = .ok (.bipush 9, 2) := by decide +kernel
theorem dX6_sortOf_3 : decode cX6_sortOf 3 = .ok (.if_icmp .eq 21, 3) := by decide +kernel
theorem dX6_sortOf_6 : decode cX6_sortOf 6 = .ok (.iload_n 0, 1) := by decide +kernel
theorem dX6_sortOf_7 : decode cX6_sortOf 7 = .ok (.bipush 10, 2) := by decide +kernel
theorem dX6_sortOf_9 : decode cX6_sortOf 9 = .ok (.if_icmp .eq 15, 3) := by decide +kernel
theorem dX6_sortOf_12 : decode cX6_sortOf 12 = .ok (.iload_n 0, 1) := by decide +kernel
theorem dX6_sortOf_13 : decode cX6_sortOf 13 = .ok (.bipush 13, 2) := by decide +kernel
theorem dX6_sortOf_15 : decode cX6_sortOf 15 = .ok (.if_icmp .eq 9, 3) := by decide +kernel
theorem dX6_sortOf_18 : decode cX6_sortOf 18 = .ok (.iload_n 0, 1) := by decide +kernel
theorem dX6_sortOf_19 : decode cX6_sortOf 19 = .ok (.bipush 32, 2) := by decide +kernel
theorem dX6_sortOf_21 : decode cX6_sortOf 21 = .ok (.if_icmp .ne 5, 3) := by decide +kernel
theorem dX6_sortOf_24 : decode cX6_sortOf 24 = .ok (.iconst 0, 1) := by decide +kernel
theorem dX6_sortOf_25 : decode cX6_sortOf 25 = .ok (.ireturn, 1) := by decide +kernel
theorem dX6_sortOf_26 : decode cX6_sortOf 26 = .ok (.iload_n 0, 1) := by decide +kernel
theorem dX6_sortOf_27 : decode cX6_sortOf 27 = .ok (.bipush 97, 2) := by decide +kernel
theorem dX6_sortOf_29 : decode cX6_sortOf 29 = .ok (.if_icmp .lt 11, 3) := by decide +kernel
theorem dX6_sortOf_32 : decode cX6_sortOf 32 = .ok (.iload_n 0, 1) := by decide +kernel
theorem dX6_sortOf_33 : decode cX6_sortOf 33 = .ok (.bipush 122, 2) := by decide +kernel
theorem dX6_sortOf_35 : decode cX6_sortOf 35 = .ok (.if_icmp .gt 5, 3) := by decide +kernel
theorem dX6_sortOf_38 : decode cX6_sortOf 38 = .ok (.iconst 1, 1) := by decide +kernel
theorem dX6_sortOf_39 : decode cX6_sortOf 39 = .ok (.ireturn, 1) := by decide +kernel
theorem dX6_sortOf_40 : decode cX6_sortOf 40 = .ok (.iload_n 0, 1) := by decide +kernel
theorem dX6_sortOf_41 : decode cX6_sortOf 41 = .ok (.bipush 48, 2) := by decide +kernel
theorem dX6_sortOf_43 : decode cX6_sortOf 43 = .ok (.if_icmp .lt 13, 3) := by decide +kernel
theorem dX6_sortOf_46 : decode cX6_sortOf 46 = .ok (.iload_n 0, 1) := by decide +kernel
theorem dX6_sortOf_47 : decode cX6_sortOf 47 = .ok (.bipush 57, 2) := by decide +kernel
theorem dX6_sortOf_49 : decode cX6_sortOf 49 = .ok (.if_icmp .gt 7, 3) := by decide +kernel
theorem dX6_sortOf_52 : decode cX6_sortOf 52 = .ok (.iconst 2, 1) := by decide +kernel
theorem dX6_sortOf_53 : decode cX6_sortOf 53 = .ok (.goto 4, 3) := by decide +kernel
theorem dX6_sortOf_56 : decode cX6_sortOf 56 = .ok (.iconst 3, 1) := by decide +kernel
theorem dX6_sortOf_57 : decode cX6_sortOf 57 = .ok (.ireturn, 1) := by decide +kernel
set_option maxRecDepth 20000 in
theorem ggX6_pastRun_X8_at : GoodIn wsX6_pastRun wsX8_at := goodIn_r _ [6, 7, 8, 18, 19] (by decide +kernel) (by decide +kernel)
set_option maxRecDepth 20000 in
theorem gX6_pastRun_X8_at : GoodIn wsX6_pastRun (wsV RX6 48 RX8 yX8_at wsX8_at) := goodIn_app (goodIn_of _ (by decide +kernel)) ggX6_pastRun_X8_at
set_option maxRecDepth 20000 in
theorem ggX6_pastRun_X6_sortOf : GoodIn wsX6_pastRun wsX6_sortOf := goodIn_r _ [12] (by decide +kernel) (by decide +kernel)
set_option maxRecDepth 20000 in
theorem gX6_pastRun_X6_sortOf : GoodIn wsX6_pastRun (va_wsS RX6 51 yX6_sortOf wsX6_sortOf) := goodIn_app (goodIn_of _ (by decide +kernel)) ggX6_pastRun_X6_sortOf
theorem dX6_pastRun_0 : decode cX6_pastRun 0 = .ok (.iload_n 1, 1) := by decide +kernel
theorem dX6_pastRun_1 : decode cX6_pastRun 1 = .ok (.istore_n 3, 1) := by decide +kernel
theorem dX6_pastRun_2 : decode cX6_pastRun 2 = .ok (.iload_n 3, 1) := by decide +kernel
theorem dX6_pastRun_3 : decode cX6_pastRun 3 = .ok (.aload_n 0, 1) := by decide +kernel
theorem dX6_pastRun_4 : decode cX6_pastRun 4 = .ok (.getfield 25, 3) := by decide +kernel
theorem dX6_pastRun_7 : decode cX6_pastRun 7 = .ok (.getfield 43, 3) := by decide +kernel
theorem dX6_pastRun_10 : decode cX6_pastRun 10 = .ok (.if_icmp .ge 26, 3) := by decide +kernel
theorem dX6_pastRun_13 : decode cX6_pastRun 13 = .ok (.aload_n 0, 1) := by decide +kernel
theorem dX6_pastRun_14 : decode cX6_pastRun 14 = .ok (.getfield 25, 3) := by decide +kernel
theorem dX6_pastRun_17 : decode cX6_pastRun 17 = .ok (.iload_n 3, 1) := by decide +kernel
theorem dX6_pastRun_18 : decode cX6_pastRun 18 = .ok (.invokevirtual 48, 3) := by decide +kernel
theorem dX6_pastRun_21 : decode cX6_pastRun 21 = .ok (.invokestatic 51, 3) := by decide +kernel
theorem dX6_pastRun_24 : decode cX6_pastRun 24 = .ok (.iload_n 2, 1) := by decide +kernel
theorem dX6_pastRun_25 : decode cX6_pastRun 25 = .ok (.if_icmp .eq 5, 3) := by decide +kernel
theorem dX6_pastRun_28 : decode cX6_pastRun 28 = .ok (.iload_n 3, 1) := by decide +kernel
theorem dX6_pastRun_29 : decode cX6_pastRun 29 = .ok (.ireturn, 1) := by decide +kernel
theorem dX6_pastRun_30 : decode cX6_pastRun 30 = .ok (.iinc 3 1, 3) := by decide +kernel
theorem dX6_pastRun_33 : decode cX6_pastRun 33 = .ok (.goto (-31), 3) := by decide +kernel
theorem dX6_pastRun_36 : decode cX6_pastRun 36 = .ok (.aload_n 0, 1) := by decide +kernel
theorem dX6_pastRun_37 : decode cX6_pastRun 37 = .ok (.getfield 25, 3) := by decide +kernel
theorem dX6_pastRun_40 : decode cX6_pastRun 40 = .ok (.getfield 43, 3) := by decide +kernel
theorem dX6_pastRun_43 : decode cX6_pastRun 43 = .ok (.ireturn, 1) := by decide +kernel
set_option maxRecDepth 20000 in
theorem ggX6_tokenEnd_X8_at : GoodIn wsX6_tokenEnd wsX8_at := goodIn_r _ [6, 7, 8, 22, 23] (by decide +kernel) (by decide +kernel)
set_option maxRecDepth 20000 in
theorem gX6_tokenEnd_X8_at : GoodIn wsX6_tokenEnd (wsV RX6 48 RX8 yX8_at wsX8_at) := goodIn_app (goodIn_of _ (by decide +kernel)) ggX6_tokenEnd_X8_at
set_option maxRecDepth 20000 in
theorem ggX6_tokenEnd_X6_sortOf : GoodIn wsX6_tokenEnd wsX6_sortOf := goodIn_r _ [12] (by decide +kernel) (by decide +kernel)
set_option maxRecDepth 20000 in
theorem gX6_tokenEnd_X6_sortOf : GoodIn wsX6_tokenEnd (va_wsS RX6 51 yX6_sortOf wsX6_sortOf) := goodIn_app (goodIn_of _ (by decide +kernel)) ggX6_tokenEnd_X6_sortOf
set_option maxRecDepth 20000 in
theorem ggX6_tokenEnd_X6_pastRun : GoodIn wsX6_tokenEnd wsX6_pastRun := goodIn_r _ [16, 1, 2, 3, 4, 5, 6, 7, 8, 9, 10, 11, 12, 17, 18, 19, 20, 21, 22, 23] (by decide +kernel) (by decide +kernel)
set_option maxRecDepth 20000 in
theorem gX6_tokenEnd_X6_pastRun : GoodIn wsX6_tokenEnd (wsV RX6 29 RX6 yX6_pastRun wsX6_pastRun) := goodIn_app (goodIn_of _ (by decide +kernel)) ggX6_tokenEnd_X6_pastRun
theorem dX6_tokenEnd_0 : decode cX6_tokenEnd 0 = .ok (.aload_n 0, 1) := by decide +kernel
theorem dX6_tokenEnd_1 : decode cX6_tokenEnd 1 = .ok (.getfield 25, 3) := by decide +kernel
theorem dX6_tokenEnd_4 : decode cX6_tokenEnd 4 = .ok (.iload_n 1, 1) := by decide +kernel
theorem dX6_tokenEnd_5 : decode cX6_tokenEnd 5 = .ok (.invokevirtual 48, 3) := by decide +kernel
theorem dX6_tokenEnd_8 : decode cX6_tokenEnd 8 = .ok (.istore_n 2, 1) := by decide +kernel
theorem dX6_tokenEnd_9 : decode cX6_tokenEnd 9 = .ok (.iload_n 2, 1) := by decide +kernel
theorem dX6_tokenEnd_10 : decode cX6_tokenEnd 10 = .ok (.invokestatic 51, 3) := by decide +kernel
theorem dX6_tokenEnd_13 : decode cX6_tokenEnd 13 = .ok (.istore_n 3, 1) := by decide +kernel
theorem dX6_tokenEnd_14 : decode cX6_tokenEnd 14 = .ok (.iload_n 3, 1) := by decide +kernel
theorem dX6_tokenEnd_15 : decode cX6_tokenEnd 15 = .ok (.iconst 1, 1) := by decide +kernel
theorem dX6_tokenEnd_16 : decode cX6_tokenEnd 16 = .ok (.if_icmp .eq 8, 3) := by decide +kernel
theorem dX6_tokenEnd_19 : decode cX6_tokenEnd 19 = .ok (.iload_n 3, 1) := by decide +kernel
theorem dX6_tokenEnd_20 : decode cX6_tokenEnd 20 = .ok (.iconst 2, 1) := by decide +kernel
theorem dX6_tokenEnd_21 : decode cX6_tokenEnd 21 = .ok (.if_icmp .ne 10, 3) := by decide +kernel
theorem dX6_tokenEnd_24 : decode cX6_tokenEnd 24 = .ok (.aload_n 0, 1) := by decide +kernel
theorem dX6_tokenEnd_25 : decode cX6_tokenEnd 25 = .ok (.iload_n 1, 1) := by decide +kernel
theorem dX6_tokenEnd_26 : decode cX6_tokenEnd 26 = .ok (.iload_n 3, 1) := by decide +kernel
theorem dX6_tokenEnd_27 : decode cX6_tokenEnd 27 = .ok (.invokevirtual 29, 3) := by decide +kernel
theorem dX6_tokenEnd_30 : decode cX6_tokenEnd 30 = .ok (.ireturn, 1) := by decide +kernel
theorem dX6_tokenEnd_31 : decode cX6_tokenEnd 31 = .ok (.iload_n 2, 1) := by decide +kernel
theorem dX6_tokenEnd_32 : decode cX6_tokenEnd 32 = .ok (.bipush 61, 2) := by decide +kernel
theorem dX6_tokenEnd_34 : decode cX6_tokenEnd 34 = .ok (.if_icmp .eq 15, 3) := by decide +kernel
theorem dX6_tokenEnd_37 : decode cX6_tokenEnd 37 = .ok (.iload_n 2, 1) := by decide +kernel
theorem dX6_tokenEnd_38 : decode cX6_tokenEnd 38 = .ok (.bipush 33, 2) := by decide +kernel
theorem dX6_tokenEnd_40 : decode cX6_tokenEnd 40 = .ok (.if_icmp .eq 9, 3) := by decide +kernel
theorem dX6_tokenEnd_43 : decode cX6_tokenEnd 43 = .ok (.iload_n 2, 1) := by decide +kernel
theorem dX6_tokenEnd_44 : decode cX6_tokenEnd 44 = .ok (.bipush 60, 2) := by decide +kernel
theorem dX6_tokenEnd_46 : decode cX6_tokenEnd 46 = .ok (.if_icmp .ne 7, 3) := by decide +kernel
theorem dX6_tokenEnd_49 : decode cX6_tokenEnd 49 = .ok (.iconst 1, 1) := by decide +kernel
theorem dX6_tokenEnd_50 : decode cX6_tokenEnd 50 = .ok (.goto 4, 3) := by decide +kernel
theorem dX6_tokenEnd_53 : decode cX6_tokenEnd 53 = .ok (.iconst 0, 1) := by decide +kernel
theorem dX6_tokenEnd_54 : decode cX6_tokenEnd 54 = .ok (.istore 4, 2) := by decide +kernel
theorem dX6_tokenEnd_56 : decode cX6_tokenEnd 56 = .ok (.iload 4, 2) := by decide +kernel
theorem dX6_tokenEnd_58 : decode cX6_tokenEnd 58 = .ok (.ifCond .eq 24, 3) := by decide +kernel
theorem dX6_tokenEnd_61 : decode cX6_tokenEnd 61 = .ok (.aload_n 0, 1) := by decide +kernel
theorem dX6_tokenEnd_62 : decode cX6_tokenEnd 62 = .ok (.getfield 25, 3) := by decide +kernel
theorem dX6_tokenEnd_65 : decode cX6_tokenEnd 65 = .ok (.iload_n 1, 1) := by decide +kernel
theorem dX6_tokenEnd_66 : decode cX6_tokenEnd 66 = .ok (.iconst 1, 1) := by decide +kernel
theorem dX6_tokenEnd_67 : decode cX6_tokenEnd 67 = .ok (.iadd, 1) := by decide +kernel
theorem dX6_tokenEnd_68 : decode cX6_tokenEnd 68 = .ok (.invokevirtual 48, 3) := by decide +kernel
theorem dX6_tokenEnd_71 : decode cX6_tokenEnd 71 = .ok (.bipush 61, 2) := by decide +kernel
theorem dX6_tokenEnd_73 : decode cX6_tokenEnd 73 = .ok (.if_icmp .ne 9, 3) := by decide +kernel
theorem dX6_tokenEnd_76 : decode cX6_tokenEnd 76 = .ok (.iload_n 1, 1) := by decide +kernel
theorem dX6_tokenEnd_77 : decode cX6_tokenEnd 77 = .ok (.iconst 2, 1) := by decide +kernel
theorem dX6_tokenEnd_78 : decode cX6_tokenEnd 78 = .ok (.iadd, 1) := by decide +kernel
theorem dX6_tokenEnd_79 : decode cX6_tokenEnd 79 = .ok (.goto 6, 3) := by decide +kernel
theorem dX6_tokenEnd_82 : decode cX6_tokenEnd 82 = .ok (.iload_n 1, 1) := by decide +kernel
theorem dX6_tokenEnd_83 : decode cX6_tokenEnd 83 = .ok (.iconst 1, 1) := by decide +kernel
theorem dX6_tokenEnd_84 : decode cX6_tokenEnd 84 = .ok (.iadd, 1) := by decide +kernel
theorem dX6_tokenEnd_85 : decode cX6_tokenEnd 85 = .ok (.ireturn, 1) := by decide +kernel
set_option maxRecDepth 20000 in
theorem ggX6_kindOf_X8_at : GoodIn wsX6_kindOf wsX8_at := goodIn_r _ [6, 7, 8, 81, 82] (by decide +kernel) (by decide +kernel)
set_option maxRecDepth 20000 in
theorem gX6_kindOf_X8_at : GoodIn wsX6_kindOf (wsV RX6 48 RX8 yX8_at wsX8_at) := goodIn_app (goodIn_of _ (by decide +kernel)) ggX6_kindOf_X8_at
set_option maxRecDepth 20000 in
theorem ggX6_kindOf_X6_sortOf : GoodIn wsX6_kindOf wsX6_sortOf := goodIn_r _ [12] (by decide +kernel) (by decide +kernel)
set_option maxRecDepth 20000 in
theorem gX6_kindOf_X6_sortOf : GoodIn wsX6_kindOf (va_wsS RX6 51 yX6_sortOf wsX6_sortOf) := goodIn_app (goodIn_of _ (by decide +kernel)) ggX6_kindOf_X6_sortOf
set_option maxRecDepth 20000 in
theorem ggX6_kindOf_X6_wordKind : GoodIn wsX6_kindOf wsX6_wordKind := goodIn_r _ [16, 17, 18, 19, 20, 21, 22, 23, 24, 25, 26, 27, 28, 29, 30, 31, 11, 32, 1, 2, 3, 4, 5, 6, 7, 8, 33, 34, 35, 36, 37, 38, 39, 40, 41, 42, 43, 44, 45, 46, 47, 48, 49, 50, 51, 52, 53, 54, 55, 56, 57, 58, 59, 60, 61, 62, 63, 64, 65, 66, 67, 68, 69, 76, 77, 78, 79, 80, 81, 82] (by decide +kernel) (by decide +kernel)
set_option maxRecDepth 20000 in
theorem gX6_kindOf_X6_wordKind : GoodIn wsX6_kindOf (wsV RX6 54 RX6 yX6_wordKind wsX6_wordKind) := goodIn_app (goodIn_of _ (by decide +kernel)) ggX6_kindOf_X6_wordKind
set_option maxRecDepth 20000 in
theorem ggX6_kindOf_X6_longSignKind : GoodIn wsX6_kindOf wsX6_longSignKind := goodIn_r _ [72] (by decide +kernel) (by decide +kernel)
set_option maxRecDepth 20000 in
theorem gX6_kindOf_X6_longSignKind : GoodIn wsX6_kindOf (va_wsS RX6 57 yX6_longSignKind wsX6_longSignKind) := goodIn_app (goodIn_of _ (by decide +kernel)) ggX6_kindOf_X6_longSignKind
set_option maxRecDepth 20000 in
theorem ggX6_kindOf_X6_signKind : GoodIn wsX6_kindOf wsX6_signKind := goodIn_r _ [75] (by decide +kernel) (by decide +kernel)
set_option maxRecDepth 20000 in
theorem gX6_kindOf_X6_signKind : GoodIn wsX6_kindOf (va_wsS RX6 60 yX6_signKind wsX6_signKind) := goodIn_app (goodIn_of _ (by decide +kernel)) ggX6_kindOf_X6_signKind
theorem dX6_kindOf_0 : decode cX6_kindOf 0 = .ok (.iload_n 1, 1) := by decide +kernel
theorem dX6_kindOf_1 : decode cX6_kindOf 1 = .ok (.aload_n 0, 1) := by decide +kernel
theorem dX6_kindOf_2 : decode cX6_kindOf 2 = .ok (.getfield 25, 3) := by decide +kernel
theorem dX6_kindOf_5 : decode cX6_kindOf 5 = .ok (.getfield 43, 3) := by decide +kernel
theorem dX6_kindOf_8 : decode cX6_kindOf 8 = .ok (.if_icmp .lt 6, 3) := by decide +kernel
theorem dX6_kindOf_11 : decode cX6_kindOf 11 = .ok (.bipush 27, 2) := by decide +kernel
theorem dX6_kindOf_13 : decode cX6_kindOf 13 = .ok (.ireturn, 1) := by decide +kernel
theorem dX6_kindOf_14 : decode cX6_kindOf 14 = .ok (.aload_n 0, 1) := by decide +kernel
theorem dX6_kindOf_15 : decode cX6_kindOf 15 = .ok (.getfield 25, 3) := by decide +kernel
theorem dX6_kindOf_18 : decode cX6_kindOf 18 = .ok (.iload_n 1, 1) := by decide +kernel
theorem dX6_kindOf_19 : decode cX6_kindOf 19 = .ok (.invokevirtual 48, 3) := by decide +kernel
theorem dX6_kindOf_22 : decode cX6_kindOf 22 = .ok (.istore_n 3, 1) := by decide +kernel
theorem dX6_kindOf_23 : decode cX6_kindOf 23 = .ok (.iload_n 3, 1) := by decide +kernel
theorem dX6_kindOf_24 : decode cX6_kindOf 24 = .ok (.invokestatic 51, 3) := by decide +kernel
theorem dX6_kindOf_27 : decode cX6_kindOf 27 = .ok (.istore 4, 2) := by decide +kernel
theorem dX6_kindOf_29 : decode cX6_kindOf 29 = .ok (.iload 4, 2) := by decide +kernel
theorem dX6_kindOf_31 : decode cX6_kindOf 31 = .ok (.iconst 1, 1) := by decide +kernel
theorem dX6_kindOf_32 : decode cX6_kindOf 32 = .ok (.if_icmp .ne 12, 3) := by decide +kernel
theorem dX6_kindOf_35 : decode cX6_kindOf 35 = .ok (.aload_n 0, 1) := by decide +kernel
theorem dX6_kindOf_36 : decode cX6_kindOf 36 = .ok (.iload_n 1, 1) := by decide +kernel
theorem dX6_kindOf_37 : decode cX6_kindOf 37 = .ok (.iload_n 2, 1) := by decide +kernel
theorem dX6_kindOf_38 : decode cX6_kindOf 38 = .ok (.iload_n 1, 1) := by decide +kernel
theorem dX6_kindOf_39 : decode cX6_kindOf 39 = .ok (.isub, 1) := by decide +kernel
theorem dX6_kindOf_40 : decode cX6_kindOf 40 = .ok (.invokevirtual 54, 3) := by decide +kernel
theorem dX6_kindOf_43 : decode cX6_kindOf 43 = .ok (.ireturn, 1) := by decide +kernel
theorem dX6_kindOf_44 : decode cX6_kindOf 44 = .ok (.iload 4, 2) := by decide +kernel
theorem dX6_kindOf_46 : decode cX6_kindOf 46 = .ok (.iconst 2, 1) := by decide +kernel
theorem dX6_kindOf_47 : decode cX6_kindOf 47 = .ok (.if_icmp .ne 18, 3) := by decide +kernel
theorem dX6_kindOf_50 : decode cX6_kindOf 50 = .ok (.iload_n 2, 1) := by decide +kernel
theorem dX6_kindOf_51 : decode cX6_kindOf 51 = .ok (.iload_n 1, 1) := by decide +kernel
theorem dX6_kindOf_52 : decode cX6_kindOf 52 = .ok (.isub, 1) := by decide +kernel
theorem dX6_kindOf_53 : decode cX6_kindOf 53 = .ok (.iconst 4, 1) := by decide +kernel
theorem dX6_kindOf_54 : decode cX6_kindOf 54 = .ok (.if_icmp .gt 8, 3) := by decide +kernel
theorem dX6_kindOf_57 : decode cX6_kindOf 57 = .ok (.bipush 16, 2) := by decide +kernel
theorem dX6_kindOf_59 : decode cX6_kindOf 59 = .ok (.goto 5, 3) := by decide +kernel
theorem dX6_kindOf_62 : decode cX6_kindOf 62 = .ok (.bipush 28, 2) := by decide +kernel
theorem dX6_kindOf_64 : decode cX6_kindOf 64 = .ok (.ireturn, 1) := by decide +kernel
theorem dX6_kindOf_65 : decode cX6_kindOf 65 = .ok (.iload_n 2, 1) := by decide +kernel
theorem dX6_kindOf_66 : decode cX6_kindOf 66 = .ok (.iload_n 1, 1) := by decide +kernel
theorem dX6_kindOf_67 : decode cX6_kindOf 67 = .ok (.isub, 1) := by decide +kernel
theorem dX6_kindOf_68 : decode cX6_kindOf 68 = .ok (.iconst 2, 1) := by decide +kernel
theorem dX6_kindOf_69 : decode cX6_kindOf 69 = .ok (.if_icmp .ne 10, 3) := by decide +kernel
theorem dX6_kindOf_72 : decode cX6_kindOf 72 = .ok (.iload_n 3, 1) := by decide +kernel
theorem dX6_kindOf_73 : decode cX6_kindOf 73 = .ok (.invokestatic 57, 3) := by decide +kernel
theorem dX6_kindOf_76 : decode cX6_kindOf 76 = .ok (.goto 7, 3) := by decide +kernel
theorem dX6_kindOf_79 : decode cX6_kindOf 79 = .ok (.iload_n 3, 1) := by decide +kernel
theorem dX6_kindOf_80 : decode cX6_kindOf 80 = .ok (.invokestatic 60, 3) := by decide +kernel
theorem dX6_kindOf_83 : decode cX6_kindOf 83 = .ok (.ireturn, 1) := by decide +kernel
set_option maxRecDepth 20000 in
theorem ggX6_wordKind_J0_length_8abf5 : GoodIn wsX6_wordKind wsJ0_length_8abf5 := goodIn_r _ [5, 6, 7, 8, 9, 4, 10, 11, 12] (by decide +kernel) (by decide +kernel)
set_option maxRecDepth 20000 in
theorem gX6_wordKind_J0_length_8abf5 : GoodIn wsX6_wordKind (wsV RX6 65 RJ0 yJ0_length_8abf5 wsJ0_length_8abf5) := goodIn_app (goodIn_of _ (by decide +kernel)) ggX6_wordKind_J0_length_8abf5
set_option maxRecDepth 20000 in
theorem ggX6_wordKind_X6_isWord : GoodIn wsX6_wordKind wsX6_isWord := goodIn_r _ [17, 18, 19, 20, 21, 22, 23, 24, 25, 1, 2, 3, 4, 5, 6, 7, 8, 9, 10, 11, 12, 26, 27, 28, 29, 30, 31, 32, 33, 34, 35, 36, 37, 38, 39, 40, 41, 42, 43, 44, 45, 46, 47, 48, 49, 50, 51, 52, 53, 54, 55, 56, 57, 58, 59, 60, 61, 62, 63, 64, 65, 66, 67, 68, 69] (by decide +kernel) (by decide +kernel)
set_option maxRecDepth 20000 in
theorem gX6_wordKind_X6_isWord : GoodIn wsX6_wordKind (wsV RX6 70 RX6 yX6_isWord wsX6_isWord) := goodIn_app (goodIn_of _ (by decide +kernel)) ggX6_wordKind_X6_isWord
theorem dX6_wordKind_0 : decode cX6_wordKind 0 = .ok (.iconst 0, 1) := by decide +kernel
theorem dX6_wordKind_1 : decode cX6_wordKind 1 = .ok (.istore_n 3, 1) := by decide +kernel
theorem dX6_wordKind_2 : decode cX6_wordKind 2 = .ok (.iload_n 3, 1) := by decide +kernel
theorem dX6_wordKind_3 : decode cX6_wordKind 3 = .ok (.bipush 8, 2) := by decide +kernel
theorem dX6_wordKind_5 : decode cX6_wordKind 5 = .ok (.imul, 1) := by decide +kernel
theorem dX6_wordKind_6 : decode cX6_wordKind 6 = .ok (.bipush 8, 2) := by decide +kernel
theorem dX6_wordKind_8 : decode cX6_wordKind 8 = .ok (.iadd, 1) := by decide +kernel
theorem dX6_wordKind_9 : decode cX6_wordKind 9 = .ok (.ldc 63, 2) := by decide +kernel
theorem dX6_wordKind_11 : decode cX6_wordKind 11 = .ok (.invokevirtual 65, 3) := by decide +kernel
theorem dX6_wordKind_14 : decode cX6_wordKind 14 = .ok (.if_icmp .gt 30, 3) := by decide +kernel
theorem dX6_wordKind_17 : decode cX6_wordKind 17 = .ok (.iload_n 2, 1) := by decide +kernel
theorem dX6_wordKind_18 : decode cX6_wordKind 18 = .ok (.bipush 8, 2) := by decide +kernel
theorem dX6_wordKind_20 : decode cX6_wordKind 20 = .ok (.if_icmp .gt 18, 3) := by decide +kernel
theorem dX6_wordKind_23 : decode cX6_wordKind 23 = .ok (.aload_n 0, 1) := by decide +kernel
theorem dX6_wordKind_24 : decode cX6_wordKind 24 = .ok (.iload_n 3, 1) := by decide +kernel
theorem dX6_wordKind_25 : decode cX6_wordKind 25 = .ok (.bipush 8, 2) := by decide +kernel
theorem dX6_wordKind_27 : decode cX6_wordKind 27 = .ok (.imul, 1) := by decide +kernel
theorem dX6_wordKind_28 : decode cX6_wordKind 28 = .ok (.iload_n 1, 1) := by decide +kernel
theorem dX6_wordKind_29 : decode cX6_wordKind 29 = .ok (.iload_n 2, 1) := by decide +kernel
theorem dX6_wordKind_30 : decode cX6_wordKind 30 = .ok (.invokevirtual 70, 3) := by decide +kernel
theorem dX6_wordKind_33 : decode cX6_wordKind 33 = .ok (.ifCond .eq 5, 3) := by decide +kernel
theorem dX6_wordKind_36 : decode cX6_wordKind 36 = .ok (.iload_n 3, 1) := by decide +kernel
theorem dX6_wordKind_37 : decode cX6_wordKind 37 = .ok (.ireturn, 1) := by decide +kernel
theorem dX6_wordKind_38 : decode cX6_wordKind 38 = .ok (.iinc 3 1, 3) := by decide +kernel
theorem dX6_wordKind_41 : decode cX6_wordKind 41 = .ok (.goto (-39), 3) := by decide +kernel
theorem dX6_wordKind_44 : decode cX6_wordKind 44 = .ok (.bipush 28, 2) := by decide +kernel
theorem dX6_wordKind_46 : decode cX6_wordKind 46 = .ok (.ireturn, 1) := by decide +kernel
set_option maxRecDepth 20000 in
theorem ggX6_isWord_X8_at : GoodIn wsX6_isWord wsX8_at := goodIn_r _ [6, 7, 8, 63, 64] (by decide +kernel) (by decide +kernel)
set_option maxRecDepth 20000 in
theorem gX6_isWord_X8_at : GoodIn wsX6_isWord (wsV RX6 48 RX8 yX8_at wsX8_at) := goodIn_app (goodIn_of _ (by decide +kernel)) ggX6_isWord_X8_at
set_option maxRecDepth 20000 in
theorem ggX6_isWord_J0_length_8abf5 : GoodIn wsX6_isWord wsJ0_length_8abf5 := goodIn_r _ [13, 14, 15, 16, 17, 12, 18, 19, 20] (by decide +kernel) (by decide +kernel)
set_option maxRecDepth 20000 in
theorem gX6_isWord_J0_length_8abf5 : GoodIn wsX6_isWord (wsV RX6 65 RJ0 yJ0_length_8abf5 wsJ0_length_8abf5) := goodIn_app (goodIn_of _ (by decide +kernel)) ggX6_isWord_J0_length_8abf5
set_option maxRecDepth 20000 in
theorem ggX6_isWord_J0_charAt_5068e : GoodIn wsX6_isWord wsJ0_charAt_5068e := goodIn_r _ [24, 14, 25, 26, 27, 12, 28, 19, 20, 29, 30, 31, 32, 33, 34, 35, 36, 37, 38, 39, 40, 41, 42, 43, 44, 45, 46, 47, 48, 49, 50, 51, 52, 53, 54, 55, 56, 57] (by decide +kernel) (by decide +kernel)
set_option maxRecDepth 20000 in
theorem gX6_isWord_J0_charAt_5068e : GoodIn wsX6_isWord (wsV RX6 74 RJ0 yJ0_charAt_5068e wsJ0_charAt_5068e) := goodIn_app (goodIn_of _ (by decide +kernel)) ggX6_isWord_J0_charAt_5068e
theorem dX6_isWord_0 : decode cX6_isWord 0 = .ok (.iconst 0, 1) := by decide +kernel
theorem dX6_isWord_1 : decode cX6_isWord 1 = .ok (.istore 4, 2) := by decide +kernel
theorem dX6_isWord_3 : decode cX6_isWord 3 = .ok (.iload 4, 2) := by decide +kernel
theorem dX6_isWord_5 : decode cX6_isWord 5 = .ok (.bipush 8, 2) := by decide +kernel
theorem dX6_isWord_7 : decode cX6_isWord 7 = .ok (.if_icmp .ge 61, 3) := by decide +kernel
theorem dX6_isWord_10 : decode cX6_isWord 10 = .ok (.iload 4, 2) := by decide +kernel
theorem dX6_isWord_12 : decode cX6_isWord 12 = .ok (.iload_n 3, 1) := by decide +kernel
theorem dX6_isWord_13 : decode cX6_isWord 13 = .ok (.if_icmp .ge 17, 3) := by decide +kernel
theorem dX6_isWord_16 : decode cX6_isWord 16 = .ok (.aload_n 0, 1) := by decide +kernel
theorem dX6_isWord_17 : decode cX6_isWord 17 = .ok (.getfield 25, 3) := by decide +kernel
theorem dX6_isWord_20 : decode cX6_isWord 20 = .ok (.iload_n 2, 1) := by decide +kernel
theorem dX6_isWord_21 : decode cX6_isWord 21 = .ok (.iload 4, 2) := by decide +kernel
theorem dX6_isWord_23 : decode cX6_isWord 23 = .ok (.iadd, 1) := by decide +kernel
theorem dX6_isWord_24 : decode cX6_isWord 24 = .ok (.invokevirtual 48, 3) := by decide +kernel
theorem dX6_isWord_27 : decode cX6_isWord 27 = .ok (.goto 5, 3) := by decide +kernel
theorem dX6_isWord_30 : decode cX6_isWord 30 = .ok (.bipush 32, 2) := by decide +kernel
theorem dX6_isWord_32 : decode cX6_isWord 32 = .ok (.istore 5, 2) := by decide +kernel
theorem dX6_isWord_34 : decode cX6_isWord 34 = .ok (.iload_n 1, 1) := by decide +kernel
theorem dX6_isWord_35 : decode cX6_isWord 35 = .ok (.iload 4, 2) := by decide +kernel
theorem dX6_isWord_37 : decode cX6_isWord 37 = .ok (.iadd, 1) := by decide +kernel
theorem dX6_isWord_38 : decode cX6_isWord 38 = .ok (.ldc 63, 2) := by decide +kernel
theorem dX6_isWord_40 : decode cX6_isWord 40 = .ok (.invokevirtual 65, 3) := by decide +kernel
theorem dX6_isWord_43 : decode cX6_isWord 43 = .ok (.if_icmp .ge 17, 3) := by decide +kernel
theorem dX6_isWord_46 : decode cX6_isWord 46 = .ok (.ldc 63, 2) := by decide +kernel
theorem dX6_isWord_48 : decode cX6_isWord 48 = .ok (.iload_n 1, 1) := by decide +kernel
theorem dX6_isWord_49 : decode cX6_isWord 49 = .ok (.iload 4, 2) := by decide +kernel
theorem dX6_isWord_51 : decode cX6_isWord 51 = .ok (.iadd, 1) := by decide +kernel
theorem dX6_isWord_52 : decode cX6_isWord 52 = .ok (.invokevirtual 74, 3) := by decide +kernel
theorem dX6_isWord_55 : decode cX6_isWord 55 = .ok (.iload 5, 2) := by decide +kernel
theorem dX6_isWord_57 : decode cX6_isWord 57 = .ok (.if_icmp .eq 5, 3) := by decide +kernel
theorem dX6_isWord_60 : decode cX6_isWord 60 = .ok (.iconst 0, 1) := by decide +kernel
theorem dX6_isWord_61 : decode cX6_isWord 61 = .ok (.ireturn, 1) := by decide +kernel
theorem dX6_isWord_62 : decode cX6_isWord 62 = .ok (.iinc 4 1, 3) := by decide +kernel
theorem dX6_isWord_65 : decode cX6_isWord 65 = .ok (.goto (-62), 3) := by decide +kernel
theorem dX6_isWord_68 : decode cX6_isWord 68 = .ok (.iconst 1, 1) := by decide +kernel
theorem dX6_isWord_69 : decode cX6_isWord 69 = .ok (.ireturn, 1) := by decide +kernel
theorem dX6_longSignKind_0 : decode cX6_longSignKind 0 = .ok (.iload_n 0, 1) := by decide +kernel
theorem dX6_longSignKind_1 : decode cX6_longSignKind 1 = .ok (.bipush 61, 2) := by decide +kernel
theorem dX6_longSignKind_3 : decode cX6_longSignKind 3 = .ok (.if_icmp .ne 6, 3) := by decide +kernel
theorem dX6_longSignKind_6 : decode cX6_longSignKind 6 = .ok (.bipush 21, 2) := by decide +kernel
theorem dX6_longSignKind_8 : decode cX6_longSignKind 8 = .ok (.ireturn, 1) := by decide +kernel
theorem dX6_longSignKind_9 : decode cX6_longSignKind 9 = .ok (.iload_n 0, 1) := by decide +kernel
theorem dX6_longSignKind_10 : decode cX6_longSignKind 10 = .ok (.bipush 33, 2) := by decide +kernel
theorem dX6_longSignKind_12 : decode cX6_longSignKind 12 = .ok (.if_icmp .ne 8, 3) := by decide +kernel
theorem dX6_longSignKind_15 : decode cX6_longSignKind 15 = .ok (.bipush 22, 2) := by decide +kernel
theorem dX6_longSignKind_17 : decode cX6_longSignKind 17 = .ok (.goto 5, 3) := by decide +kernel
theorem dX6_longSignKind_20 : decode cX6_longSignKind 20 = .ok (.bipush 24, 2) := by decide +kernel
theorem dX6_longSignKind_22 : decode cX6_longSignKind 22 = .ok (.ireturn, 1) := by decide +kernel
theorem dX6_signKind_0 : decode cX6_signKind 0 = .ok (.iload_n 0, 1) := by decide +kernel
theorem dX6_signKind_1 : decode cX6_signKind 1 = .ok (.tableswitch 120 40 60 #[114, 117, 108, 102, 120, 105, 120, 120, 120, 120, 120, 120, 120, 120, 120, 120, 120, 120, 120, 99, 111], 99) := by decide +kernel
theorem dX6_signKind_100 : decode cX6_signKind 100 = .ok (.bipush 17, 2) := by decide +kernel
theorem dX6_signKind_102 : decode cX6_signKind 102 = .ok (.ireturn, 1) := by decide +kernel
theorem dX6_signKind_103 : decode cX6_signKind 103 = .ok (.bipush 18, 2) := by decide +kernel
theorem dX6_signKind_105 : decode cX6_signKind 105 = .ok (.ireturn, 1) := by decide +kernel
theorem dX6_signKind_106 : decode cX6_signKind 106 = .ok (.bipush 19, 2) := by decide +kernel
theorem dX6_signKind_108 : decode cX6_signKind 108 = .ok (.ireturn, 1) := by decide +kernel
theorem dX6_signKind_109 : decode cX6_signKind 109 = .ok (.bipush 20, 2) := by decide +kernel
theorem dX6_signKind_111 : decode cX6_signKind 111 = .ok (.ireturn, 1) := by decide +kernel
theorem dX6_signKind_112 : decode cX6_signKind 112 = .ok (.bipush 23, 2) := by decide +kernel
theorem dX6_signKind_114 : decode cX6_signKind 114 = .ok (.ireturn, 1) := by decide +kernel
theorem dX6_signKind_115 : decode cX6_signKind 115 = .ok (.bipush 25, 2) := by decide +kernel
theorem dX6_signKind_117 : decode cX6_signKind 117 = .ok (.ireturn, 1) := by decide +kernel
theorem dX6_signKind_118 : decode cX6_signKind 118 = .ok (.bipush 26, 2) := by decide +kernel
theorem dX6_signKind_120 : decode cX6_signKind 120 = .ok (.ireturn, 1) := by decide +kernel
theorem dX6_signKind_121 : decode cX6_signKind 121 = .ok (.bipush 28, 2) := by decide +kernel
theorem dX6_signKind_123 : decode cX6_signKind 123 = .ok (.ireturn, 1) := by decide +kernel
set_option maxRecDepth 20000 in
theorem ggX6_numberAt_X8_at : GoodIn wsX6_numberAt wsX8_at := goodIn_r _ [6, 7, 8, 14, 15] (by decide +kernel) (by decide +kernel)
set_option maxRecDepth 20000 in
theorem gX6_numberAt_X8_at : GoodIn wsX6_numberAt (wsV RX6 48 RX8 yX8_at wsX8_at) := goodIn_app (goodIn_of _ (by decide +kernel)) ggX6_numberAt_X8_at
theorem dX6_numberAt_0 : decode cX6_numberAt 0 = .ok (.iconst 0, 1) := by decide +kernel
theorem dX6_numberAt_1 : decode cX6_numberAt 1 = .ok (.istore_n 3, 1) := by decide +kernel
theorem dX6_numberAt_2 : decode cX6_numberAt 2 = .ok (.iload_n 1, 1) := by decide +kernel
theorem dX6_numberAt_3 : decode cX6_numberAt 3 = .ok (.istore 4, 2) := by decide +kernel
theorem dX6_numberAt_5 : decode cX6_numberAt 5 = .ok (.iload 4, 2) := by decide +kernel
theorem dX6_numberAt_7 : decode cX6_numberAt 7 = .ok (.iload_n 2, 1) := by decide +kernel
theorem dX6_numberAt_8 : decode cX6_numberAt 8 = .ok (.if_icmp .ge 27, 3) := by decide +kernel
theorem dX6_numberAt_11 : decode cX6_numberAt 11 = .ok (.iload_n 3, 1) := by decide +kernel
theorem dX6_numberAt_12 : decode cX6_numberAt 12 = .ok (.bipush 10, 2) := by decide +kernel
theorem dX6_numberAt_14 : decode cX6_numberAt 14 = .ok (.imul, 1) := by decide +kernel
theorem dX6_numberAt_15 : decode cX6_numberAt 15 = .ok (.aload_n 0, 1) := by decide +kernel
theorem dX6_numberAt_16 : decode cX6_numberAt 16 = .ok (.getfield 25, 3) := by decide +kernel
theorem dX6_numberAt_19 : decode cX6_numberAt 19 = .ok (.iload 4, 2) := by decide +kernel
theorem dX6_numberAt_21 : decode cX6_numberAt 21 = .ok (.invokevirtual 48, 3) := by decide +kernel
theorem dX6_numberAt_24 : decode cX6_numberAt 24 = .ok (.iadd, 1) := by decide +kernel
theorem dX6_numberAt_25 : decode cX6_numberAt 25 = .ok (.bipush 48, 2) := by decide +kernel
theorem dX6_numberAt_27 : decode cX6_numberAt 27 = .ok (.isub, 1) := by decide +kernel
theorem dX6_numberAt_28 : decode cX6_numberAt 28 = .ok (.istore_n 3, 1) := by decide +kernel
theorem dX6_numberAt_29 : decode cX6_numberAt 29 = .ok (.iinc 4 1, 3) := by decide +kernel
theorem dX6_numberAt_32 : decode cX6_numberAt 32 = .ok (.goto (-27), 3) := by decide +kernel
theorem dX6_numberAt_35 : decode cX6_numberAt 35 = .ok (.iload_n 3, 1) := by decide +kernel
theorem dX6_numberAt_36 : decode cX6_numberAt 36 = .ok (.ireturn, 1) := by decide +kernel
set_option maxRecDepth 20000 in
theorem ggX7_init_X10_init : GoodIn wsX7_init wsX10_init := goodIn_r _ [13, 14, 2, 3, 15, 16, 17, 18, 19, 6, 20, 21] (by decide +kernel) (by decide +kernel)
set_option maxRecDepth 20000 in
theorem gX7_init_X10_init : GoodIn wsX7_init (wsX10_init) := ggX7_init_X10_init
theorem dX7_init_0 : decode cX7_init 0 = .ok (.aload_n 0, 1) := by decide +kernel
theorem dX7_init_1 : decode cX7_init 1 = .ok (.invokespecial 3, 3) := by decide +kernel
theorem dX7_init_4 : decode cX7_init 4 = .ok (.aload_n 0, 1) := by decide +kernel
theorem dX7_init_5 : decode cX7_init 5 = .ok (.new 9, 3) := by decide +kernel
theorem dX7_init_8 : decode cX7_init 8 = .ok (.dup, 1) := by decide +kernel
theorem dX7_init_9 : decode cX7_init 9 = .ok (.invokespecial 11, 3) := by decide +kernel
theorem dX7_init_12 : decode cX7_init 12 = .ok (.putfield 12, 3) := by decide +kernel
theorem dX7_init_15 : decode cX7_init 15 = .ok (.aload_n 0, 1) := by decide +kernel
theorem dX7_init_16 : decode cX7_init 16 = .ok (.iconst 0, 1) := by decide +kernel
theorem dX7_init_17 : decode cX7_init 17 = .ok (.putfield 18, 3) := by decide +kernel
theorem dX7_init_20 : decode cX7_init 20 = .ok (.aload_n 0, 1) := by decide +kernel
theorem dX7_init_21 : decode cX7_init 21 = .ok (.iconst 0, 1) := by decide +kernel
theorem dX7_init_22 : decode cX7_init 22 = .ok (.putfield 22, 3) := by decide +kernel
theorem dX7_init_25 : decode cX7_init 25 = .ok (.aload_n 0, 1) := by decide +kernel
theorem dX7_init_26 : decode cX7_init 26 = .ok (.iload_n 1, 1) := by decide +kernel
theorem dX7_init_27 : decode cX7_init 27 = .ok (.putfield 25, 3) := by decide +kernel
theorem dX7_init_30 : decode cX7_init 30 = .ok (.return_, 1) := by decide +kernel
set_option maxRecDepth 20000 in
theorem ggX7_hasEntry_X11_isWithin : GoodIn wsX7_hasEntry wsX11_isWithin := goodIn_r _ [4] (by decide +kernel) (by decide +kernel)
set_option maxRecDepth 20000 in
theorem gX7_hasEntry_X11_isWithin_n28 : GoodIn wsX7_hasEntry (wsX11_isWithin) := ggX7_hasEntry_X11_isWithin
theorem dX7_hasEntry_0 : decode cX7_hasEntry 0 = .ok (.iload_n 1, 1) := by decide +kernel
theorem dX7_hasEntry_1 : decode cX7_hasEntry 1 = .ok (.iconst 0, 1) := by decide +kernel
theorem dX7_hasEntry_2 : decode cX7_hasEntry 2 = .ok (.bipush 19, 2) := by decide +kernel
theorem dX7_hasEntry_4 : decode cX7_hasEntry 4 = .ok (.invokestatic 28, 3) := by decide +kernel
theorem dX7_hasEntry_7 : decode cX7_hasEntry 7 = .ok (.ifCond .eq 19, 3) := by decide +kernel
theorem dX7_hasEntry_10 : decode cX7_hasEntry 10 = .ok (.aload_n 0, 1) := by decide +kernel
theorem dX7_hasEntry_11 : decode cX7_hasEntry 11 = .ok (.getfield 22, 3) := by decide +kernel
theorem dX7_hasEntry_14 : decode cX7_hasEntry 14 = .ok (.iload_n 1, 1) := by decide +kernel
theorem dX7_hasEntry_15 : decode cX7_hasEntry 15 = .ok (.ishr, 1) := by decide +kernel
theorem dX7_hasEntry_16 : decode cX7_hasEntry 16 = .ok (.iconst 1, 1) := by decide +kernel
theorem dX7_hasEntry_17 : decode cX7_hasEntry 17 = .ok (.iand, 1) := by decide +kernel
theorem dX7_hasEntry_18 : decode cX7_hasEntry 18 = .ok (.iconst 1, 1) := by decide +kernel
theorem dX7_hasEntry_19 : decode cX7_hasEntry 19 = .ok (.if_icmp .ne 7, 3) := by decide +kernel
theorem dX7_hasEntry_22 : decode cX7_hasEntry 22 = .ok (.iconst 1, 1) := by decide +kernel
theorem dX7_hasEntry_23 : decode cX7_hasEntry 23 = .ok (.goto 4, 3) := by decide +kernel
theorem dX7_hasEntry_26 : decode cX7_hasEntry 26 = .ok (.iconst 0, 1) := by decide +kernel
theorem dX7_hasEntry_27 : decode cX7_hasEntry 27 = .ok (.ireturn, 1) := by decide +kernel
set_option maxRecDepth 20000 in
theorem ggX7_addEntry_X11_isWithin : GoodIn wsX7_addEntry wsX11_isWithin := goodIn_r _ [4] (by decide +kernel) (by decide +kernel)
set_option maxRecDepth 20000 in
theorem gX7_addEntry_X11_isWithin_n28 : GoodIn wsX7_addEntry (wsX11_isWithin) := ggX7_addEntry_X11_isWithin
theorem dX7_addEntry_0 : decode cX7_addEntry 0 = .ok (.iload_n 1, 1) := by decide +kernel
theorem dX7_addEntry_1 : decode cX7_addEntry 1 = .ok (.iconst 0, 1) := by decide +kernel
theorem dX7_addEntry_2 : decode cX7_addEntry 2 = .ok (.bipush 19, 2) := by decide +kernel
theorem dX7_addEntry_4 : decode cX7_addEntry 4 = .ok (.invokestatic 28, 3) := by decide +kernel
theorem dX7_addEntry_7 : decode cX7_addEntry 7 = .ok (.ifCond .eq 15, 3) := by decide +kernel
theorem dX7_addEntry_10 : decode cX7_addEntry 10 = .ok (.aload_n 0, 1) := by decide +kernel
theorem dX7_addEntry_11 : decode cX7_addEntry 11 = .ok (.dup, 1) := by decide +kernel
theorem dX7_addEntry_12 : decode cX7_addEntry 12 = .ok (.getfield 22, 3) := by decide +kernel
theorem dX7_addEntry_15 : decode cX7_addEntry 15 = .ok (.iconst 1, 1) := by decide +kernel
theorem dX7_addEntry_16 : decode cX7_addEntry 16 = .ok (.iload_n 1, 1) := by decide +kernel
theorem dX7_addEntry_17 : decode cX7_addEntry 17 = .ok (.ishl, 1) := by decide +kernel
theorem dX7_addEntry_18 : decode cX7_addEntry 18 = .ok (.ior, 1) := by decide +kernel
theorem dX7_addEntry_19 : decode cX7_addEntry 19 = .ok (.putfield 22, 3) := by decide +kernel
theorem dX7_addEntry_22 : decode cX7_addEntry 22 = .ok (.return_, 1) := by decide +kernel
theorem dX8_init_0 : decode cX8_init 0 = .ok (.aload_n 0, 1) := by decide +kernel
theorem dX8_init_1 : decode cX8_init 1 = .ok (.invokespecial 3, 3) := by decide +kernel
theorem dX8_init_4 : decode cX8_init 4 = .ok (.aload_n 0, 1) := by decide +kernel
theorem dX8_init_5 : decode cX8_init 5 = .ok (.sipush 2000, 3) := by decide +kernel
theorem dX8_init_8 : decode cX8_init 8 = .ok (.newarray .byte, 2) := by decide +kernel
theorem dX8_init_10 : decode cX8_init 10 = .ok (.putfield 9, 3) := by decide +kernel
theorem dX8_init_13 : decode cX8_init 13 = .ok (.aload_n 0, 1) := by decide +kernel
theorem dX8_init_14 : decode cX8_init 14 = .ok (.iconst 0, 1) := by decide +kernel
theorem dX8_init_15 : decode cX8_init 15 = .ok (.putfield 15, 3) := by decide +kernel
theorem dX8_init_18 : decode cX8_init 18 = .ok (.return_, 1) := by decide +kernel
theorem dX8_append_0 : decode cX8_append 0 = .ok (.bipush 24, 2) := by decide +kernel
theorem dX8_append_2 : decode cX8_append 2 = .ok (.istore_n 2, 1) := by decide +kernel
theorem dX8_append_3 : decode cX8_append 3 = .ok (.iload_n 2, 1) := by decide +kernel
theorem dX8_append_4 : decode cX8_append 4 = .ok (.ifCond .lt 42, 3) := by decide +kernel
theorem dX8_append_7 : decode cX8_append 7 = .ok (.aload_n 0, 1) := by decide +kernel
theorem dX8_append_8 : decode cX8_append 8 = .ok (.getfield 15, 3) := by decide +kernel
theorem dX8_append_11 : decode cX8_append 11 = .ok (.sipush 2000, 3) := by decide +kernel
theorem dX8_append_14 : decode cX8_append 14 = .ok (.if_icmp .ge 26, 3) := by decide +kernel
theorem dX8_append_17 : decode cX8_append 17 = .ok (.aload_n 0, 1) := by decide +kernel
theorem dX8_append_18 : decode cX8_append 18 = .ok (.getfield 9, 3) := by decide +kernel
theorem dX8_append_21 : decode cX8_append 21 = .ok (.aload_n 0, 1) := by decide +kernel
theorem dX8_append_22 : decode cX8_append 22 = .ok (.getfield 15, 3) := by decide +kernel
theorem dX8_append_25 : decode cX8_append 25 = .ok (.iload_n 1, 1) := by decide +kernel
theorem dX8_append_26 : decode cX8_append 26 = .ok (.iload_n 2, 1) := by decide +kernel
theorem dX8_append_27 : decode cX8_append 27 = .ok (.ishr, 1) := by decide +kernel
theorem dX8_append_28 : decode cX8_append 28 = .ok (.i2b, 1) := by decide +kernel
theorem dX8_append_29 : decode cX8_append 29 = .ok (.bastore, 1) := by decide +kernel
theorem dX8_append_30 : decode cX8_append 30 = .ok (.aload_n 0, 1) := by decide +kernel
theorem dX8_append_31 : decode cX8_append 31 = .ok (.dup, 1) := by decide +kernel
theorem dX8_append_32 : decode cX8_append 32 = .ok (.getfield 15, 3) := by decide +kernel
theorem dX8_append_35 : decode cX8_append 35 = .ok (.iconst 1, 1) := by decide +kernel
theorem dX8_append_36 : decode cX8_append 36 = .ok (.iadd, 1) := by decide +kernel
theorem dX8_append_37 : decode cX8_append 37 = .ok (.putfield 15, 3) := by decide +kernel
theorem dX8_append_40 : decode cX8_append 40 = .ok (.iinc 2 (-8), 3) := by decide +kernel
theorem dX8_append_43 : decode cX8_append 43 = .ok (.goto (-40), 3) := by decide +kernel
theorem dX8_append_46 : decode cX8_append 46 = .ok (.return_, 1) := by decide +kernel
theorem dX8_at_0 : decode cX8_at 0 = .ok (.iload_n 1, 1) := by decide +kernel
theorem dX8_at_1 : decode cX8_at 1 = .ok (.ifCond .lt 11, 3) := by decide +kernel
theorem dX8_at_4 : decode cX8_at 4 = .ok (.iload_n 1, 1) := by decide +kernel
theorem dX8_at_5 : decode cX8_at 5 = .ok (.aload_n 0, 1) := by decide +kernel
theorem dX8_at_6 : decode cX8_at 6 = .ok (.getfield 15, 3) := by decide +kernel
theorem dX8_at_9 : decode cX8_at 9 = .ok (.if_icmp .lt 7, 3) := by decide +kernel
theorem dX8_at_12 : decode cX8_at 12 = .ok (.iconst (-1), 1) := by decide +kernel
theorem dX8_at_13 : decode cX8_at 13 = .ok (.goto 13, 3) := by decide +kernel
theorem dX8_at_16 : decode cX8_at 16 = .ok (.aload_n 0, 1) := by decide +kernel
theorem dX8_at_17 : decode cX8_at 17 = .ok (.getfield 9, 3) := by decide +kernel
theorem dX8_at_20 : decode cX8_at 20 = .ok (.iload_n 1, 1) := by decide +kernel
theorem dX8_at_21 : decode cX8_at 21 = .ok (.baload, 1) := by decide +kernel
theorem dX8_at_22 : decode cX8_at 22 = .ok (.sipush 255, 3) := by decide +kernel
theorem dX8_at_25 : decode cX8_at 25 = .ok (.iand, 1) := by decide +kernel
theorem dX8_at_26 : decode cX8_at 26 = .ok (.ireturn, 1) := by decide +kernel
theorem dX9_init_0 : decode cX9_init 0 = .ok (.aload_n 0, 1) := by decide +kernel
theorem dX9_init_1 : decode cX9_init 1 = .ok (.invokespecial 3, 3) := by decide +kernel
theorem dX9_init_4 : decode cX9_init 4 = .ok (.aload_n 0, 1) := by decide +kernel
theorem dX9_init_5 : decode cX9_init 5 = .ok (.bipush 16, 2) := by decide +kernel
theorem dX9_init_7 : decode cX9_init 7 = .ok (.newarray .int, 2) := by decide +kernel
theorem dX9_init_9 : decode cX9_init 9 = .ok (.putfield 9, 3) := by decide +kernel
theorem dX9_init_12 : decode cX9_init 12 = .ok (.aload_n 0, 1) := by decide +kernel
theorem dX9_init_13 : decode cX9_init 13 = .ok (.bipush 16, 2) := by decide +kernel
theorem dX9_init_15 : decode cX9_init 15 = .ok (.newarray .int, 2) := by decide +kernel
theorem dX9_init_17 : decode cX9_init 17 = .ok (.putfield 15, 3) := by decide +kernel
theorem dX9_init_20 : decode cX9_init 20 = .ok (.aload_n 0, 1) := by decide +kernel
theorem dX9_init_21 : decode cX9_init 21 = .ok (.bipush 16, 2) := by decide +kernel
theorem dX9_init_23 : decode cX9_init 23 = .ok (.newarray .int, 2) := by decide +kernel
theorem dX9_init_25 : decode cX9_init 25 = .ok (.putfield 18, 3) := by decide +kernel
theorem dX9_init_28 : decode cX9_init 28 = .ok (.aload_n 0, 1) := by decide +kernel
theorem dX9_init_29 : decode cX9_init 29 = .ok (.bipush 16, 2) := by decide +kernel
theorem dX9_init_31 : decode cX9_init 31 = .ok (.newarray .int, 2) := by decide +kernel
theorem dX9_init_33 : decode cX9_init 33 = .ok (.putfield 21, 3) := by decide +kernel
theorem dX9_init_36 : decode cX9_init 36 = .ok (.aload_n 0, 1) := by decide +kernel
theorem dX9_init_37 : decode cX9_init 37 = .ok (.bipush 16, 2) := by decide +kernel
theorem dX9_init_39 : decode cX9_init 39 = .ok (.newarray .int, 2) := by decide +kernel
theorem dX9_init_41 : decode cX9_init 41 = .ok (.putfield 24, 3) := by decide +kernel
theorem dX9_init_44 : decode cX9_init 44 = .ok (.aload_n 0, 1) := by decide +kernel
theorem dX9_init_45 : decode cX9_init 45 = .ok (.bipush 16, 2) := by decide +kernel
theorem dX9_init_47 : decode cX9_init 47 = .ok (.newarray .int, 2) := by decide +kernel
theorem dX9_init_49 : decode cX9_init 49 = .ok (.putfield 27, 3) := by decide +kernel
theorem dX9_init_52 : decode cX9_init 52 = .ok (.aload_n 0, 1) := by decide +kernel
theorem dX9_init_53 : decode cX9_init 53 = .ok (.sipush 400, 3) := by decide +kernel
theorem dX9_init_56 : decode cX9_init 56 = .ok (.newarray .int, 2) := by decide +kernel
theorem dX9_init_58 : decode cX9_init 58 = .ok (.putfield 30, 3) := by decide +kernel
theorem dX9_init_61 : decode cX9_init 61 = .ok (.aload_n 0, 1) := by decide +kernel
theorem dX9_init_62 : decode cX9_init 62 = .ok (.sipush 400, 3) := by decide +kernel
theorem dX9_init_65 : decode cX9_init 65 = .ok (.newarray .int, 2) := by decide +kernel
theorem dX9_init_67 : decode cX9_init 67 = .ok (.putfield 33, 3) := by decide +kernel
theorem dX9_init_70 : decode cX9_init 70 = .ok (.aload_n 0, 1) := by decide +kernel
theorem dX9_init_71 : decode cX9_init 71 = .ok (.sipush 400, 3) := by decide +kernel
theorem dX9_init_74 : decode cX9_init 74 = .ok (.newarray .int, 2) := by decide +kernel
theorem dX9_init_76 : decode cX9_init 76 = .ok (.putfield 36, 3) := by decide +kernel
theorem dX9_init_79 : decode cX9_init 79 = .ok (.aload_n 0, 1) := by decide +kernel
theorem dX9_init_80 : decode cX9_init 80 = .ok (.iconst 0, 1) := by decide +kernel
theorem dX9_init_81 : decode cX9_init 81 = .ok (.putfield 39, 3) := by decide +kernel
theorem dX9_init_84 : decode cX9_init 84 = .ok (.aload_n 0, 1) := by decide +kernel
theorem dX9_init_85 : decode cX9_init 85 = .ok (.iconst 0, 1) := by decide +kernel
theorem dX9_init_86 : decode cX9_init 86 = .ok (.putfield 43, 3) := by decide +kernel
theorem dX9_init_89 : decode cX9_init 89 = .ok (.return_, 1) := by decide +kernel
theorem dX9_clear_0 : decode cX9_clear 0 = .ok (.aload_n 0, 1) := by decide +kernel
theorem dX9_clear_1 : decode cX9_clear 1 = .ok (.iconst 0, 1) := by decide +kernel
theorem dX9_clear_2 : decode cX9_clear 2 = .ok (.putfield 39, 3) := by decide +kernel
theorem dX9_clear_5 : decode cX9_clear 5 = .ok (.aload_n 0, 1) := by decide +kernel
theorem dX9_clear_6 : decode cX9_clear 6 = .ok (.iconst 0, 1) := by decide +kernel
theorem dX9_clear_7 : decode cX9_clear 7 = .ok (.putfield 43, 3) := by decide +kernel
theorem dX9_clear_10 : decode cX9_clear 10 = .ok (.return_, 1) := by decide +kernel
theorem dX9_addStep_0 : decode cX9_addStep 0 = .ok (.aload_n 0, 1) := by decide +kernel
theorem dX9_addStep_1 : decode cX9_addStep 1 = .ok (.getfield 43, 3) := by decide +kernel
theorem dX9_addStep_4 : decode cX9_addStep 4 = .ok (.sipush 400, 3) := by decide +kernel
theorem dX9_addStep_7 : decode cX9_addStep 7 = .ok (.if_icmp .ge 33, 3) := by decide +kernel
theorem dX9_addStep_10 : decode cX9_addStep 10 = .ok (.aload_n 0, 1) := by decide +kernel
theorem dX9_addStep_11 : decode cX9_addStep 11 = .ok (.getfield 30, 3) := by decide +kernel
theorem dX9_addStep_14 : decode cX9_addStep 14 = .ok (.aload_n 0, 1) := by decide +kernel
theorem dX9_addStep_15 : decode cX9_addStep 15 = .ok (.getfield 43, 3) := by decide +kernel
theorem dX9_addStep_18 : decode cX9_addStep 18 = .ok (.iload_n 1, 1) := by decide +kernel
theorem dX9_addStep_19 : decode cX9_addStep 19 = .ok (.iastore, 1) := by decide +kernel
theorem dX9_addStep_20 : decode cX9_addStep 20 = .ok (.aload_n 0, 1) := by decide +kernel
theorem dX9_addStep_21 : decode cX9_addStep 21 = .ok (.getfield 33, 3) := by decide +kernel
theorem dX9_addStep_24 : decode cX9_addStep 24 = .ok (.aload_n 0, 1) := by decide +kernel
theorem dX9_addStep_25 : decode cX9_addStep 25 = .ok (.getfield 43, 3) := by decide +kernel
theorem dX9_addStep_28 : decode cX9_addStep 28 = .ok (.iload_n 2, 1) := by decide +kernel
theorem dX9_addStep_29 : decode cX9_addStep 29 = .ok (.iastore, 1) := by decide +kernel
theorem dX9_addStep_30 : decode cX9_addStep 30 = .ok (.aload_n 0, 1) := by decide +kernel
theorem dX9_addStep_31 : decode cX9_addStep 31 = .ok (.dup, 1) := by decide +kernel
theorem dX9_addStep_32 : decode cX9_addStep 32 = .ok (.getfield 43, 3) := by decide +kernel
theorem dX9_addStep_35 : decode cX9_addStep 35 = .ok (.iconst 1, 1) := by decide +kernel
theorem dX9_addStep_36 : decode cX9_addStep 36 = .ok (.iadd, 1) := by decide +kernel
theorem dX9_addStep_37 : decode cX9_addStep 37 = .ok (.putfield 43, 3) := by decide +kernel
theorem dX9_addStep_40 : decode cX9_addStep 40 = .ok (.return_, 1) := by decide +kernel
theorem dX9_addRule_0 : decode cX9_addRule 0 = .ok (.aload_n 0, 1) := by decide +kernel
theorem dX9_addRule_1 : decode cX9_addRule 1 = .ok (.getfield 39, 3) := by decide +kernel
theorem dX9_addRule_4 : decode cX9_addRule 4 = .ok (.bipush 16, 2) := by decide +kernel
theorem dX9_addRule_6 : decode cX9_addRule 6 = .ok (.if_icmp .ge 78, 3) := by decide +kernel
theorem dX9_addRule_9 : decode cX9_addRule 9 = .ok (.aload_n 0, 1) := by decide +kernel
theorem dX9_addRule_10 : decode cX9_addRule 10 = .ok (.getfield 9, 3) := by decide +kernel
theorem dX9_addRule_13 : decode cX9_addRule 13 = .ok (.aload_n 0, 1) := by decide +kernel
theorem dX9_addRule_14 : decode cX9_addRule 14 = .ok (.getfield 39, 3) := by decide +kernel
theorem dX9_addRule_17 : decode cX9_addRule 17 = .ok (.iload_n 1, 1) := by decide +kernel
theorem dX9_addRule_18 : decode cX9_addRule 18 = .ok (.iastore, 1) := by decide +kernel
theorem dX9_addRule_19 : decode cX9_addRule 19 = .ok (.aload_n 0, 1) := by decide +kernel
theorem dX9_addRule_20 : decode cX9_addRule 20 = .ok (.getfield 15, 3) := by decide +kernel
theorem dX9_addRule_23 : decode cX9_addRule 23 = .ok (.aload_n 0, 1) := by decide +kernel
theorem dX9_addRule_24 : decode cX9_addRule 24 = .ok (.getfield 39, 3) := by decide +kernel
theorem dX9_addRule_27 : decode cX9_addRule 27 = .ok (.iload_n 2, 1) := by decide +kernel
theorem dX9_addRule_28 : decode cX9_addRule 28 = .ok (.iastore, 1) := by decide +kernel
theorem dX9_addRule_29 : decode cX9_addRule 29 = .ok (.aload_n 0, 1) := by decide +kernel
theorem dX9_addRule_30 : decode cX9_addRule 30 = .ok (.getfield 18, 3) := by decide +kernel
theorem dX9_addRule_33 : decode cX9_addRule 33 = .ok (.aload_n 0, 1) := by decide +kernel
theorem dX9_addRule_34 : decode cX9_addRule 34 = .ok (.getfield 39, 3) := by decide +kernel
theorem dX9_addRule_37 : decode cX9_addRule 37 = .ok (.iload_n 3, 1) := by decide +kernel
theorem dX9_addRule_38 : decode cX9_addRule 38 = .ok (.iastore, 1) := by decide +kernel
theorem dX9_addRule_39 : decode cX9_addRule 39 = .ok (.aload_n 0, 1) := by decide +kernel
theorem dX9_addRule_40 : decode cX9_addRule 40 = .ok (.getfield 21, 3) := by decide +kernel
theorem dX9_addRule_43 : decode cX9_addRule 43 = .ok (.aload_n 0, 1) := by decide +kernel
theorem dX9_addRule_44 : decode cX9_addRule 44 = .ok (.getfield 39, 3) := by decide +kernel
theorem dX9_addRule_47 : decode cX9_addRule 47 = .ok (.iload 4, 2) := by decide +kernel
theorem dX9_addRule_49 : decode cX9_addRule 49 = .ok (.iastore, 1) := by decide +kernel
theorem dX9_addRule_50 : decode cX9_addRule 50 = .ok (.aload_n 0, 1) := by decide +kernel
theorem dX9_addRule_51 : decode cX9_addRule 51 = .ok (.getfield 24, 3) := by decide +kernel
theorem dX9_addRule_54 : decode cX9_addRule 54 = .ok (.aload_n 0, 1) := by decide +kernel
theorem dX9_addRule_55 : decode cX9_addRule 55 = .ok (.getfield 39, 3) := by decide +kernel
theorem dX9_addRule_58 : decode cX9_addRule 58 = .ok (.iload 5, 2) := by decide +kernel
theorem dX9_addRule_60 : decode cX9_addRule 60 = .ok (.iastore, 1) := by decide +kernel
theorem dX9_addRule_61 : decode cX9_addRule 61 = .ok (.aload_n 0, 1) := by decide +kernel
theorem dX9_addRule_62 : decode cX9_addRule 62 = .ok (.getfield 27, 3) := by decide +kernel
theorem dX9_addRule_65 : decode cX9_addRule 65 = .ok (.aload_n 0, 1) := by decide +kernel
theorem dX9_addRule_66 : decode cX9_addRule 66 = .ok (.getfield 39, 3) := by decide +kernel
theorem dX9_addRule_69 : decode cX9_addRule 69 = .ok (.aload_n 0, 1) := by decide +kernel
theorem dX9_addRule_70 : decode cX9_addRule 70 = .ok (.getfield 43, 3) := by decide +kernel
theorem dX9_addRule_73 : decode cX9_addRule 73 = .ok (.iastore, 1) := by decide +kernel
theorem dX9_addRule_74 : decode cX9_addRule 74 = .ok (.aload_n 0, 1) := by decide +kernel
theorem dX9_addRule_75 : decode cX9_addRule 75 = .ok (.dup, 1) := by decide +kernel
theorem dX9_addRule_76 : decode cX9_addRule 76 = .ok (.getfield 39, 3) := by decide +kernel
theorem dX9_addRule_79 : decode cX9_addRule 79 = .ok (.iconst 1, 1) := by decide +kernel
theorem dX9_addRule_80 : decode cX9_addRule 80 = .ok (.iadd, 1) := by decide +kernel
theorem dX9_addRule_81 : decode cX9_addRule 81 = .ok (.putfield 39, 3) := by decide +kernel
theorem dX9_addRule_84 : decode cX9_addRule 84 = .ok (.return_, 1) := by decide +kernel
theorem dX9_copyFrom_0 : decode cX9_copyFrom 0 = .ok (.aload_n 1, 1) := by decide +kernel
theorem dX9_copyFrom_1 : decode cX9_copyFrom 1 = .ok (.getfield 9, 3) := by decide +kernel
theorem dX9_copyFrom_4 : decode cX9_copyFrom 4 = .ok (.iconst 0, 1) := by decide +kernel
theorem dX9_copyFrom_5 : decode cX9_copyFrom 5 = .ok (.aload_n 0, 1) := by decide +kernel
theorem dX9_copyFrom_6 : decode cX9_copyFrom 6 = .ok (.getfield 9, 3) := by decide +kernel
theorem dX9_copyFrom_9 : decode cX9_copyFrom 9 = .ok (.iconst 0, 1) := by decide +kernel
theorem dX9_copyFrom_10 : decode cX9_copyFrom 10 = .ok (.bipush 16, 2) := by decide +kernel
theorem dX9_copyFrom_12 : decode cX9_copyFrom 12 = .ok (.invokestatic 46, 3) := by decide +kernel
theorem dX9_copyFrom_15 : decode cX9_copyFrom 15 = .ok (.aload_n 1, 1) := by decide +kernel
theorem dX9_copyFrom_16 : decode cX9_copyFrom 16 = .ok (.getfield 15, 3) := by decide +kernel
theorem dX9_copyFrom_19 : decode cX9_copyFrom 19 = .ok (.iconst 0, 1) := by decide +kernel
theorem dX9_copyFrom_20 : decode cX9_copyFrom 20 = .ok (.aload_n 0, 1) := by decide +kernel
theorem dX9_copyFrom_21 : decode cX9_copyFrom 21 = .ok (.getfield 15, 3) := by decide +kernel
theorem dX9_copyFrom_24 : decode cX9_copyFrom 24 = .ok (.iconst 0, 1) := by decide +kernel
theorem dX9_copyFrom_25 : decode cX9_copyFrom 25 = .ok (.bipush 16, 2) := by decide +kernel
theorem dX9_copyFrom_27 : decode cX9_copyFrom 27 = .ok (.invokestatic 46, 3) := by decide +kernel
theorem dX9_copyFrom_30 : decode cX9_copyFrom 30 = .ok (.aload_n 1, 1) := by decide +kernel
theorem dX9_copyFrom_31 : decode cX9_copyFrom 31 = .ok (.getfield 18, 3) := by decide +kernel
theorem dX9_copyFrom_34 : decode cX9_copyFrom 34 = .ok (.iconst 0, 1) := by decide +kernel
theorem dX9_copyFrom_35 : decode cX9_copyFrom 35 = .ok (.aload_n 0, 1) := by decide +kernel
theorem dX9_copyFrom_36 : decode cX9_copyFrom 36 = .ok (.getfield 18, 3) := by decide +kernel
theorem dX9_copyFrom_39 : decode cX9_copyFrom 39 = .ok (.iconst 0, 1) := by decide +kernel
theorem dX9_copyFrom_40 : decode cX9_copyFrom 40 = .ok (.bipush 16, 2) := by decide +kernel
theorem dX9_copyFrom_42 : decode cX9_copyFrom 42 = .ok (.invokestatic 46, 3) := by decide +kernel
theorem dX9_copyFrom_45 : decode cX9_copyFrom 45 = .ok (.aload_n 1, 1) := by decide +kernel
theorem dX9_copyFrom_46 : decode cX9_copyFrom 46 = .ok (.getfield 21, 3) := by decide +kernel
theorem dX9_copyFrom_49 : decode cX9_copyFrom 49 = .ok (.iconst 0, 1) := by decide +kernel
theorem dX9_copyFrom_50 : decode cX9_copyFrom 50 = .ok (.aload_n 0, 1) := by decide +kernel
theorem dX9_copyFrom_51 : decode cX9_copyFrom 51 = .ok (.getfield 21, 3) := by decide +kernel
theorem dX9_copyFrom_54 : decode cX9_copyFrom 54 = .ok (.iconst 0, 1) := by decide +kernel
theorem dX9_copyFrom_55 : decode cX9_copyFrom 55 = .ok (.bipush 16, 2) := by decide +kernel
theorem dX9_copyFrom_57 : decode cX9_copyFrom 57 = .ok (.invokestatic 46, 3) := by decide +kernel
theorem dX9_copyFrom_60 : decode cX9_copyFrom 60 = .ok (.aload_n 1, 1) := by decide +kernel
theorem dX9_copyFrom_61 : decode cX9_copyFrom 61 = .ok (.getfield 24, 3) := by decide +kernel
theorem dX9_copyFrom_64 : decode cX9_copyFrom 64 = .ok (.iconst 0, 1) := by decide +kernel
theorem dX9_copyFrom_65 : decode cX9_copyFrom 65 = .ok (.aload_n 0, 1) := by decide +kernel
theorem dX9_copyFrom_66 : decode cX9_copyFrom 66 = .ok (.getfield 24, 3) := by decide +kernel
theorem dX9_copyFrom_69 : decode cX9_copyFrom 69 = .ok (.iconst 0, 1) := by decide +kernel
theorem dX9_copyFrom_70 : decode cX9_copyFrom 70 = .ok (.bipush 16, 2) := by decide +kernel
theorem dX9_copyFrom_72 : decode cX9_copyFrom 72 = .ok (.invokestatic 46, 3) := by decide +kernel
theorem dX9_copyFrom_75 : decode cX9_copyFrom 75 = .ok (.aload_n 1, 1) := by decide +kernel
theorem dX9_copyFrom_76 : decode cX9_copyFrom 76 = .ok (.getfield 27, 3) := by decide +kernel
theorem dX9_copyFrom_79 : decode cX9_copyFrom 79 = .ok (.iconst 0, 1) := by decide +kernel
theorem dX9_copyFrom_80 : decode cX9_copyFrom 80 = .ok (.aload_n 0, 1) := by decide +kernel
theorem dX9_copyFrom_81 : decode cX9_copyFrom 81 = .ok (.getfield 27, 3) := by decide +kernel
theorem dX9_copyFrom_84 : decode cX9_copyFrom 84 = .ok (.iconst 0, 1) := by decide +kernel
theorem dX9_copyFrom_85 : decode cX9_copyFrom 85 = .ok (.bipush 16, 2) := by decide +kernel
theorem dX9_copyFrom_87 : decode cX9_copyFrom 87 = .ok (.invokestatic 46, 3) := by decide +kernel
theorem dX9_copyFrom_90 : decode cX9_copyFrom 90 = .ok (.aload_n 1, 1) := by decide +kernel
theorem dX9_copyFrom_91 : decode cX9_copyFrom 91 = .ok (.getfield 30, 3) := by decide +kernel
theorem dX9_copyFrom_94 : decode cX9_copyFrom 94 = .ok (.iconst 0, 1) := by decide +kernel
theorem dX9_copyFrom_95 : decode cX9_copyFrom 95 = .ok (.aload_n 0, 1) := by decide +kernel
theorem dX9_copyFrom_96 : decode cX9_copyFrom 96 = .ok (.getfield 30, 3) := by decide +kernel
theorem dX9_copyFrom_99 : decode cX9_copyFrom 99 = .ok (.iconst 0, 1) := by decide +kernel
theorem dX9_copyFrom_100 : decode cX9_copyFrom 100 = .ok (.sipush 400, 3) := by decide +kernel
theorem dX9_copyFrom_103 : decode cX9_copyFrom 103 = .ok (.invokestatic 46, 3) := by decide +kernel
theorem dX9_copyFrom_106 : decode cX9_copyFrom 106 = .ok (.aload_n 1, 1) := by decide +kernel
theorem dX9_copyFrom_107 : decode cX9_copyFrom 107 = .ok (.getfield 33, 3) := by decide +kernel
theorem dX9_copyFrom_110 : decode cX9_copyFrom 110 = .ok (.iconst 0, 1) := by decide +kernel
theorem dX9_copyFrom_111 : decode cX9_copyFrom 111 = .ok (.aload_n 0, 1) := by decide +kernel
theorem dX9_copyFrom_112 : decode cX9_copyFrom 112 = .ok (.getfield 33, 3) := by decide +kernel
theorem dX9_copyFrom_115 : decode cX9_copyFrom 115 = .ok (.iconst 0, 1) := by decide +kernel
theorem dX9_copyFrom_116 : decode cX9_copyFrom 116 = .ok (.sipush 400, 3) := by decide +kernel
theorem dX9_copyFrom_119 : decode cX9_copyFrom 119 = .ok (.invokestatic 46, 3) := by decide +kernel
theorem dX9_copyFrom_122 : decode cX9_copyFrom 122 = .ok (.aload_n 0, 1) := by decide +kernel
theorem dX9_copyFrom_123 : decode cX9_copyFrom 123 = .ok (.aload_n 1, 1) := by decide +kernel
theorem dX9_copyFrom_124 : decode cX9_copyFrom 124 = .ok (.getfield 39, 3) := by decide +kernel
theorem dX9_copyFrom_127 : decode cX9_copyFrom 127 = .ok (.putfield 39, 3) := by decide +kernel
theorem dX9_copyFrom_130 : decode cX9_copyFrom 130 = .ok (.aload_n 0, 1) := by decide +kernel
theorem dX9_copyFrom_131 : decode cX9_copyFrom 131 = .ok (.aload_n 1, 1) := by decide +kernel
theorem dX9_copyFrom_132 : decode cX9_copyFrom 132 = .ok (.getfield 43, 3) := by decide +kernel
theorem dX9_copyFrom_135 : decode cX9_copyFrom 135 = .ok (.putfield 43, 3) := by decide +kernel
theorem dX9_copyFrom_138 : decode cX9_copyFrom 138 = .ok (.return_, 1) := by decide +kernel
theorem dX9_firstOfKind_0 : decode cX9_firstOfKind 0 = .ok (.iconst 0, 1) := by decide +kernel
theorem dX9_firstOfKind_1 : decode cX9_firstOfKind 1 = .ok (.istore_n 2, 1) := by decide +kernel
theorem dX9_firstOfKind_2 : decode cX9_firstOfKind 2 = .ok (.iload_n 2, 1) := by decide +kernel
theorem dX9_firstOfKind_3 : decode cX9_firstOfKind 3 = .ok (.aload_n 0, 1) := by decide +kernel
theorem dX9_firstOfKind_4 : decode cX9_firstOfKind 4 = .ok (.getfield 39, 3) := by decide +kernel
theorem dX9_firstOfKind_7 : decode cX9_firstOfKind 7 = .ok (.if_icmp .ge 21, 3) := by decide +kernel
theorem dX9_firstOfKind_10 : decode cX9_firstOfKind 10 = .ok (.aload_n 0, 1) := by decide +kernel
theorem dX9_firstOfKind_11 : decode cX9_firstOfKind 11 = .ok (.getfield 9, 3) := by decide +kernel
theorem dX9_firstOfKind_14 : decode cX9_firstOfKind 14 = .ok (.iload_n 2, 1) := by decide +kernel
theorem dX9_firstOfKind_15 : decode cX9_firstOfKind 15 = .ok (.iaload, 1) := by decide +kernel
theorem dX9_firstOfKind_16 : decode cX9_firstOfKind 16 = .ok (.iload_n 1, 1) := by decide +kernel
theorem dX9_firstOfKind_17 : decode cX9_firstOfKind 17 = .ok (.if_icmp .ne 5, 3) := by decide +kernel
theorem dX9_firstOfKind_20 : decode cX9_firstOfKind 20 = .ok (.iload_n 2, 1) := by decide +kernel
theorem dX9_firstOfKind_21 : decode cX9_firstOfKind 21 = .ok (.ireturn, 1) := by decide +kernel
theorem dX9_firstOfKind_22 : decode cX9_firstOfKind 22 = .ok (.iinc 2 1, 3) := by decide +kernel
theorem dX9_firstOfKind_25 : decode cX9_firstOfKind 25 = .ok (.goto (-23), 3) := by decide +kernel
theorem dX9_firstOfKind_28 : decode cX9_firstOfKind 28 = .ok (.iconst (-1), 1) := by decide +kernel
theorem dX9_firstOfKind_29 : decode cX9_firstOfKind 29 = .ok (.ireturn, 1) := by decide +kernel
set_option maxRecDepth 20000 in
theorem ggX9_firstHolding_X9_valueOf : GoodIn wsX9_firstHolding wsX9_valueOf := goodIn_r _ [9, 10, 11, 12, 13, 14, 15, 16, 17, 18, 19, 20, 21, 22, 23, 24] (by decide +kernel) (by decide +kernel)
set_option maxRecDepth 20000 in
theorem gX9_firstHolding_X9_valueOf : GoodIn wsX9_firstHolding (wsV RX9 52 RX9 yX9_valueOf wsX9_valueOf) := goodIn_app (goodIn_of _ (by decide +kernel)) ggX9_firstHolding_X9_valueOf
theorem dX9_firstHolding_0 : decode cX9_firstHolding 0 = .ok (.iconst 0, 1) := by decide +kernel
theorem dX9_firstHolding_1 : decode cX9_firstHolding 1 = .ok (.istore_n 3, 1) := by decide +kernel
theorem dX9_firstHolding_2 : decode cX9_firstHolding 2 = .ok (.iload_n 3, 1) := by decide +kernel
theorem dX9_firstHolding_3 : decode cX9_firstHolding 3 = .ok (.aload_n 0, 1) := by decide +kernel
theorem dX9_firstHolding_4 : decode cX9_firstHolding 4 = .ok (.getfield 39, 3) := by decide +kernel
theorem dX9_firstHolding_7 : decode cX9_firstHolding 7 = .ok (.if_icmp .ge 68, 3) := by decide +kernel
theorem dX9_firstHolding_10 : decode cX9_firstHolding 10 = .ok (.aload_n 0, 1) := by decide +kernel
theorem dX9_firstHolding_11 : decode cX9_firstHolding 11 = .ok (.getfield 24, 3) := by decide +kernel
theorem dX9_firstHolding_14 : decode cX9_firstHolding 14 = .ok (.iload_n 3, 1) := by decide +kernel
theorem dX9_firstHolding_15 : decode cX9_firstHolding 15 = .ok (.iaload, 1) := by decide +kernel
theorem dX9_firstHolding_16 : decode cX9_firstHolding 16 = .ok (.aload_n 0, 1) := by decide +kernel
theorem dX9_firstHolding_17 : decode cX9_firstHolding 17 = .ok (.getfield 27, 3) := by decide +kernel
theorem dX9_firstHolding_20 : decode cX9_firstHolding 20 = .ok (.iload_n 3, 1) := by decide +kernel
theorem dX9_firstHolding_21 : decode cX9_firstHolding 21 = .ok (.iaload, 1) := by decide +kernel
theorem dX9_firstHolding_22 : decode cX9_firstHolding 22 = .ok (.if_icmp .ne 7, 3) := by decide +kernel
theorem dX9_firstHolding_25 : decode cX9_firstHolding 25 = .ok (.iconst 1, 1) := by decide +kernel
theorem dX9_firstHolding_26 : decode cX9_firstHolding 26 = .ok (.goto 4, 3) := by decide +kernel
theorem dX9_firstHolding_29 : decode cX9_firstHolding 29 = .ok (.iconst 0, 1) := by decide +kernel
theorem dX9_firstHolding_30 : decode cX9_firstHolding 30 = .ok (.istore 4, 2) := by decide +kernel
theorem dX9_firstHolding_32 : decode cX9_firstHolding 32 = .ok (.aload_n 0, 1) := by decide +kernel
theorem dX9_firstHolding_33 : decode cX9_firstHolding 33 = .ok (.getfield 9, 3) := by decide +kernel
theorem dX9_firstHolding_36 : decode cX9_firstHolding 36 = .ok (.iload_n 3, 1) := by decide +kernel
theorem dX9_firstHolding_37 : decode cX9_firstHolding 37 = .ok (.iaload, 1) := by decide +kernel
theorem dX9_firstHolding_38 : decode cX9_firstHolding 38 = .ok (.iload_n 1, 1) := by decide +kernel
theorem dX9_firstHolding_39 : decode cX9_firstHolding 39 = .ok (.if_icmp .ne 30, 3) := by decide +kernel
theorem dX9_firstHolding_42 : decode cX9_firstHolding 42 = .ok (.iload 4, 2) := by decide +kernel
theorem dX9_firstHolding_44 : decode cX9_firstHolding 44 = .ok (.ifCond .ne 23, 3) := by decide +kernel
theorem dX9_firstHolding_47 : decode cX9_firstHolding 47 = .ok (.aload_n 0, 1) := by decide +kernel
theorem dX9_firstHolding_48 : decode cX9_firstHolding 48 = .ok (.aload_n 0, 1) := by decide +kernel
theorem dX9_firstHolding_49 : decode cX9_firstHolding 49 = .ok (.getfield 24, 3) := by decide +kernel
theorem dX9_firstHolding_52 : decode cX9_firstHolding 52 = .ok (.iload_n 3, 1) := by decide +kernel
theorem dX9_firstHolding_53 : decode cX9_firstHolding 53 = .ok (.iaload, 1) := by decide +kernel
theorem dX9_firstHolding_54 : decode cX9_firstHolding 54 = .ok (.aload_n 0, 1) := by decide +kernel
theorem dX9_firstHolding_55 : decode cX9_firstHolding 55 = .ok (.getfield 27, 3) := by decide +kernel
theorem dX9_firstHolding_58 : decode cX9_firstHolding 58 = .ok (.iload_n 3, 1) := by decide +kernel
theorem dX9_firstHolding_59 : decode cX9_firstHolding 59 = .ok (.iaload, 1) := by decide +kernel
theorem dX9_firstHolding_60 : decode cX9_firstHolding 60 = .ok (.aload_n 2, 1) := by decide +kernel
theorem dX9_firstHolding_61 : decode cX9_firstHolding 61 = .ok (.invokevirtual 52, 3) := by decide +kernel
theorem dX9_firstHolding_64 : decode cX9_firstHolding 64 = .ok (.ifCond .eq 5, 3) := by decide +kernel
theorem dX9_firstHolding_67 : decode cX9_firstHolding 67 = .ok (.iload_n 3, 1) := by decide +kernel
theorem dX9_firstHolding_68 : decode cX9_firstHolding 68 = .ok (.ireturn, 1) := by decide +kernel
theorem dX9_firstHolding_69 : decode cX9_firstHolding 69 = .ok (.iinc 3 1, 3) := by decide +kernel
theorem dX9_firstHolding_72 : decode cX9_firstHolding 72 = .ok (.goto (-70), 3) := by decide +kernel
theorem dX9_firstHolding_75 : decode cX9_firstHolding 75 = .ok (.iconst (-1), 1) := by decide +kernel
theorem dX9_firstHolding_76 : decode cX9_firstHolding 76 = .ok (.ireturn, 1) := by decide +kernel
set_option maxRecDepth 20000 in
theorem ggX9_termOf_X9_valueOf : GoodIn wsX9_termOf wsX9_valueOf := goodIn_r _ [8, 9, 10, 11, 12, 13, 14, 15, 16, 17, 18, 19, 20, 21, 22, 23] (by decide +kernel) (by decide +kernel)
set_option maxRecDepth 20000 in
theorem gX9_termOf_X9_valueOf : GoodIn wsX9_termOf (wsV RX9 52 RX9 yX9_valueOf wsX9_valueOf) := goodIn_app (goodIn_of _ (by decide +kernel)) ggX9_termOf_X9_valueOf
theorem dX9_termOf_0 : decode cX9_termOf 0 = .ok (.iload_n 1, 1) := by decide +kernel
theorem dX9_termOf_1 : decode cX9_termOf 1 = .ok (.ifCond .lt 11, 3) := by decide +kernel
theorem dX9_termOf_4 : decode cX9_termOf 4 = .ok (.iload_n 1, 1) := by decide +kernel
theorem dX9_termOf_5 : decode cX9_termOf 5 = .ok (.aload_n 0, 1) := by decide +kernel
theorem dX9_termOf_6 : decode cX9_termOf 6 = .ok (.getfield 39, 3) := by decide +kernel
theorem dX9_termOf_9 : decode cX9_termOf 9 = .ok (.if_icmp .lt 5, 3) := by decide +kernel
theorem dX9_termOf_12 : decode cX9_termOf 12 = .ok (.iconst 0, 1) := by decide +kernel
theorem dX9_termOf_13 : decode cX9_termOf 13 = .ok (.ireturn, 1) := by decide +kernel
theorem dX9_termOf_14 : decode cX9_termOf 14 = .ok (.aload_n 0, 1) := by decide +kernel
theorem dX9_termOf_15 : decode cX9_termOf 15 = .ok (.aload_n 0, 1) := by decide +kernel
theorem dX9_termOf_16 : decode cX9_termOf 16 = .ok (.getfield 21, 3) := by decide +kernel
theorem dX9_termOf_19 : decode cX9_termOf 19 = .ok (.iload_n 1, 1) := by decide +kernel
theorem dX9_termOf_20 : decode cX9_termOf 20 = .ok (.iaload, 1) := by decide +kernel
theorem dX9_termOf_21 : decode cX9_termOf 21 = .ok (.aload_n 0, 1) := by decide +kernel
theorem dX9_termOf_22 : decode cX9_termOf 22 = .ok (.getfield 24, 3) := by decide +kernel
theorem dX9_termOf_25 : decode cX9_termOf 25 = .ok (.iload_n 1, 1) := by decide +kernel
theorem dX9_termOf_26 : decode cX9_termOf 26 = .ok (.iaload, 1) := by decide +kernel
theorem dX9_termOf_27 : decode cX9_termOf 27 = .ok (.aload_n 2, 1) := by decide +kernel
theorem dX9_termOf_28 : decode cX9_termOf 28 = .ok (.invokevirtual 52, 3) := by decide +kernel
theorem dX9_termOf_31 : decode cX9_termOf 31 = .ok (.ireturn, 1) := by decide +kernel
theorem dX9_valueOf_0 : decode cX9_valueOf 0 = .ok (.iconst 0, 1) := by decide +kernel
theorem dX9_valueOf_1 : decode cX9_valueOf 1 = .ok (.istore 4, 2) := by decide +kernel
theorem dX9_valueOf_3 : decode cX9_valueOf 3 = .ok (.iload_n 1, 1) := by decide +kernel
theorem dX9_valueOf_4 : decode cX9_valueOf 4 = .ok (.istore 5, 2) := by decide +kernel
theorem dX9_valueOf_6 : decode cX9_valueOf 6 = .ok (.iload 5, 2) := by decide +kernel
theorem dX9_valueOf_8 : decode cX9_valueOf 8 = .ok (.iload_n 2, 1) := by decide +kernel
theorem dX9_valueOf_9 : decode cX9_valueOf 9 = .ok (.if_icmp .ge 321, 3) := by decide +kernel
theorem dX9_valueOf_12 : decode cX9_valueOf 12 = .ok (.iload 5, 2) := by decide +kernel
theorem dX9_valueOf_14 : decode cX9_valueOf 14 = .ok (.aload_n 0, 1) := by decide +kernel
theorem dX9_valueOf_15 : decode cX9_valueOf 15 = .ok (.getfield 43, 3) := by decide +kernel
theorem dX9_valueOf_18 : decode cX9_valueOf 18 = .ok (.if_icmp .ge 312, 3) := by decide +kernel
theorem dX9_valueOf_21 : decode cX9_valueOf 21 = .ok (.aload_n 0, 1) := by decide +kernel
theorem dX9_valueOf_22 : decode cX9_valueOf 22 = .ok (.getfield 30, 3) := by decide +kernel
theorem dX9_valueOf_25 : decode cX9_valueOf 25 = .ok (.iload 5, 2) := by decide +kernel
theorem dX9_valueOf_27 : decode cX9_valueOf 27 = .ok (.iaload, 1) := by decide +kernel
theorem dX9_valueOf_28 : decode cX9_valueOf 28 = .ok (.istore 6, 2) := by decide +kernel
theorem dX9_valueOf_30 : decode cX9_valueOf 30 = .ok (.iload 6, 2) := by decide +kernel
theorem dX9_valueOf_32 : decode cX9_valueOf 32 = .ok (.bipush 16, 2) := by decide +kernel
theorem dX9_valueOf_34 : decode cX9_valueOf 34 = .ok (.if_icmp .ne 31, 3) := by decide +kernel
theorem dX9_valueOf_37 : decode cX9_valueOf 37 = .ok (.iload 4, 2) := by decide +kernel
theorem dX9_valueOf_39 : decode cX9_valueOf 39 = .ok (.sipush 400, 3) := by decide +kernel
theorem dX9_valueOf_42 : decode cX9_valueOf 42 = .ok (.if_icmp .ge 23, 3) := by decide +kernel
theorem dX9_valueOf_45 : decode cX9_valueOf 45 = .ok (.aload_n 0, 1) := by decide +kernel
theorem dX9_valueOf_46 : decode cX9_valueOf 46 = .ok (.getfield 36, 3) := by decide +kernel
theorem dX9_valueOf_49 : decode cX9_valueOf 49 = .ok (.iload 4, 2) := by decide +kernel
theorem dX9_valueOf_51 : decode cX9_valueOf 51 = .ok (.aload_n 0, 1) := by decide +kernel
theorem dX9_valueOf_52 : decode cX9_valueOf 52 = .ok (.getfield 33, 3) := by decide +kernel
theorem dX9_valueOf_55 : decode cX9_valueOf 55 = .ok (.iload 5, 2) := by decide +kernel
theorem dX9_valueOf_57 : decode cX9_valueOf 57 = .ok (.iaload, 1) := by decide +kernel
theorem dX9_valueOf_58 : decode cX9_valueOf 58 = .ok (.iastore, 1) := by decide +kernel
theorem dX9_valueOf_59 : decode cX9_valueOf 59 = .ok (.iinc 4 1, 3) := by decide +kernel
theorem dX9_valueOf_62 : decode cX9_valueOf 62 = .ok (.goto 262, 3) := by decide +kernel
theorem dX9_valueOf_65 : decode cX9_valueOf 65 = .ok (.iload 6, 2) := by decide +kernel
theorem dX9_valueOf_67 : decode cX9_valueOf 67 = .ok (.ifCond .lt 35, 3) := by decide +kernel
theorem dX9_valueOf_70 : decode cX9_valueOf 70 = .ok (.iload 6, 2) := by decide +kernel
theorem dX9_valueOf_72 : decode cX9_valueOf 72 = .ok (.aload_n 3, 1) := by decide +kernel
theorem dX9_valueOf_73 : decode cX9_valueOf 73 = .ok (.arraylength, 1) := by decide +kernel
theorem dX9_valueOf_74 : decode cX9_valueOf 74 = .ok (.if_icmp .ge 28, 3) := by decide +kernel
theorem dX9_valueOf_77 : decode cX9_valueOf 77 = .ok (.iload 4, 2) := by decide +kernel
theorem dX9_valueOf_79 : decode cX9_valueOf 79 = .ok (.sipush 400, 3) := by decide +kernel
theorem dX9_valueOf_82 : decode cX9_valueOf 82 = .ok (.if_icmp .ge 20, 3) := by decide +kernel
theorem dX9_valueOf_85 : decode cX9_valueOf 85 = .ok (.aload_n 0, 1) := by decide +kernel
theorem dX9_valueOf_86 : decode cX9_valueOf 86 = .ok (.getfield 36, 3) := by decide +kernel
theorem dX9_valueOf_89 : decode cX9_valueOf 89 = .ok (.iload 4, 2) := by decide +kernel
theorem dX9_valueOf_91 : decode cX9_valueOf 91 = .ok (.aload_n 3, 1) := by decide +kernel
theorem dX9_valueOf_92 : decode cX9_valueOf 92 = .ok (.iload 6, 2) := by decide +kernel
theorem dX9_valueOf_94 : decode cX9_valueOf 94 = .ok (.iaload, 1) := by decide +kernel
theorem dX9_valueOf_95 : decode cX9_valueOf 95 = .ok (.iastore, 1) := by decide +kernel
theorem dX9_valueOf_96 : decode cX9_valueOf 96 = .ok (.iinc 4 1, 3) := by decide +kernel
theorem dX9_valueOf_99 : decode cX9_valueOf 99 = .ok (.goto 225, 3) := by decide +kernel
theorem dX9_valueOf_102 : decode cX9_valueOf 102 = .ok (.iload 4, 2) := by decide +kernel
theorem dX9_valueOf_104 : decode cX9_valueOf 104 = .ok (.iconst 2, 1) := by decide +kernel
theorem dX9_valueOf_105 : decode cX9_valueOf 105 = .ok (.if_icmp .lt 219, 3) := by decide +kernel
theorem dX9_valueOf_108 : decode cX9_valueOf 108 = .ok (.aload_n 0, 1) := by decide +kernel
theorem dX9_valueOf_109 : decode cX9_valueOf 109 = .ok (.getfield 36, 3) := by decide +kernel
theorem dX9_valueOf_112 : decode cX9_valueOf 112 = .ok (.iload 4, 2) := by decide +kernel
theorem dX9_valueOf_114 : decode cX9_valueOf 114 = .ok (.iconst 2, 1) := by decide +kernel
theorem dX9_valueOf_115 : decode cX9_valueOf 115 = .ok (.isub, 1) := by decide +kernel
theorem dX9_valueOf_116 : decode cX9_valueOf 116 = .ok (.iaload, 1) := by decide +kernel
theorem dX9_valueOf_117 : decode cX9_valueOf 117 = .ok (.istore 7, 2) := by decide +kernel
theorem dX9_valueOf_119 : decode cX9_valueOf 119 = .ok (.aload_n 0, 1) := by decide +kernel
theorem dX9_valueOf_120 : decode cX9_valueOf 120 = .ok (.getfield 36, 3) := by decide +kernel
theorem dX9_valueOf_123 : decode cX9_valueOf 123 = .ok (.iload 4, 2) := by decide +kernel
theorem dX9_valueOf_125 : decode cX9_valueOf 125 = .ok (.iconst 1, 1) := by decide +kernel
theorem dX9_valueOf_126 : decode cX9_valueOf 126 = .ok (.isub, 1) := by decide +kernel
theorem dX9_valueOf_127 : decode cX9_valueOf 127 = .ok (.iaload, 1) := by decide +kernel
theorem dX9_valueOf_128 : decode cX9_valueOf 128 = .ok (.istore 8, 2) := by decide +kernel
theorem dX9_valueOf_130 : decode cX9_valueOf 130 = .ok (.iconst 0, 1) := by decide +kernel
theorem dX9_valueOf_131 : decode cX9_valueOf 131 = .ok (.istore 9, 2) := by decide +kernel
theorem dX9_valueOf_133 : decode cX9_valueOf 133 = .ok (.iload 6, 2) := by decide +kernel
theorem dX9_valueOf_135 : decode cX9_valueOf 135 = .ok (.tableswitch 175 14 24 #[165, 155, 175, 175, 57, 67, 77, 87, 104, 121, 138], 57) := by decide +kernel
theorem dX9_valueOf_192 : decode cX9_valueOf 192 = .ok (.iload 7, 2) := by decide +kernel
theorem dX9_valueOf_194 : decode cX9_valueOf 194 = .ok (.iload 8, 2) := by decide +kernel
theorem dX9_valueOf_196 : decode cX9_valueOf 196 = .ok (.iadd, 1) := by decide +kernel
theorem dX9_valueOf_197 : decode cX9_valueOf 197 = .ok (.istore 9, 2) := by decide +kernel
theorem dX9_valueOf_199 : decode cX9_valueOf 199 = .ok (.goto 111, 3) := by decide +kernel
theorem dX9_valueOf_202 : decode cX9_valueOf 202 = .ok (.iload 7, 2) := by decide +kernel
theorem dX9_valueOf_204 : decode cX9_valueOf 204 = .ok (.iload 8, 2) := by decide +kernel
theorem dX9_valueOf_206 : decode cX9_valueOf 206 = .ok (.isub, 1) := by decide +kernel
theorem dX9_valueOf_207 : decode cX9_valueOf 207 = .ok (.istore 9, 2) := by decide +kernel
theorem dX9_valueOf_209 : decode cX9_valueOf 209 = .ok (.goto 101, 3) := by decide +kernel
theorem dX9_valueOf_212 : decode cX9_valueOf 212 = .ok (.iload 7, 2) := by decide +kernel
theorem dX9_valueOf_214 : decode cX9_valueOf 214 = .ok (.iload 8, 2) := by decide +kernel
theorem dX9_valueOf_216 : decode cX9_valueOf 216 = .ok (.imul, 1) := by decide +kernel
theorem dX9_valueOf_217 : decode cX9_valueOf 217 = .ok (.istore 9, 2) := by decide +kernel
theorem dX9_valueOf_219 : decode cX9_valueOf 219 = .ok (.goto 91, 3) := by decide +kernel
theorem dX9_valueOf_222 : decode cX9_valueOf 222 = .ok (.iload 7, 2) := by decide +kernel
theorem dX9_valueOf_224 : decode cX9_valueOf 224 = .ok (.iload 8, 2) := by decide +kernel
theorem dX9_valueOf_226 : decode cX9_valueOf 226 = .ok (.if_icmp .ne 7, 3) := by decide +kernel
theorem dX9_valueOf_229 : decode cX9_valueOf 229 = .ok (.iconst 1, 1) := by decide +kernel
theorem dX9_valueOf_230 : decode cX9_valueOf 230 = .ok (.goto 4, 3) := by decide +kernel
theorem dX9_valueOf_233 : decode cX9_valueOf 233 = .ok (.iconst 0, 1) := by decide +kernel
theorem dX9_valueOf_234 : decode cX9_valueOf 234 = .ok (.istore 9, 2) := by decide +kernel
theorem dX9_valueOf_236 : decode cX9_valueOf 236 = .ok (.goto 74, 3) := by decide +kernel
theorem dX9_valueOf_239 : decode cX9_valueOf 239 = .ok (.iload 7, 2) := by decide +kernel
theorem dX9_valueOf_241 : decode cX9_valueOf 241 = .ok (.iload 8, 2) := by decide +kernel
theorem dX9_valueOf_243 : decode cX9_valueOf 243 = .ok (.if_icmp .eq 7, 3) := by decide +kernel
theorem dX9_valueOf_246 : decode cX9_valueOf 246 = .ok (.iconst 1, 1) := by decide +kernel
theorem dX9_valueOf_247 : decode cX9_valueOf 247 = .ok (.goto 4, 3) := by decide +kernel
theorem dX9_valueOf_250 : decode cX9_valueOf 250 = .ok (.iconst 0, 1) := by decide +kernel
theorem dX9_valueOf_251 : decode cX9_valueOf 251 = .ok (.istore 9, 2) := by decide +kernel
theorem dX9_valueOf_253 : decode cX9_valueOf 253 = .ok (.goto 57, 3) := by decide +kernel
theorem dX9_valueOf_256 : decode cX9_valueOf 256 = .ok (.iload 7, 2) := by decide +kernel
theorem dX9_valueOf_258 : decode cX9_valueOf 258 = .ok (.iload 8, 2) := by decide +kernel
theorem dX9_valueOf_260 : decode cX9_valueOf 260 = .ok (.if_icmp .ge 7, 3) := by decide +kernel
theorem dX9_valueOf_263 : decode cX9_valueOf 263 = .ok (.iconst 1, 1) := by decide +kernel
theorem dX9_valueOf_264 : decode cX9_valueOf 264 = .ok (.goto 4, 3) := by decide +kernel
theorem dX9_valueOf_267 : decode cX9_valueOf 267 = .ok (.iconst 0, 1) := by decide +kernel
theorem dX9_valueOf_268 : decode cX9_valueOf 268 = .ok (.istore 9, 2) := by decide +kernel
theorem dX9_valueOf_270 : decode cX9_valueOf 270 = .ok (.goto 40, 3) := by decide +kernel
theorem dX9_valueOf_273 : decode cX9_valueOf 273 = .ok (.iload 7, 2) := by decide +kernel
theorem dX9_valueOf_275 : decode cX9_valueOf 275 = .ok (.iload 8, 2) := by decide +kernel
theorem dX9_valueOf_277 : decode cX9_valueOf 277 = .ok (.if_icmp .gt 7, 3) := by decide +kernel
theorem dX9_valueOf_280 : decode cX9_valueOf 280 = .ok (.iconst 1, 1) := by decide +kernel
theorem dX9_valueOf_281 : decode cX9_valueOf 281 = .ok (.goto 4, 3) := by decide +kernel
theorem dX9_valueOf_284 : decode cX9_valueOf 284 = .ok (.iconst 0, 1) := by decide +kernel
theorem dX9_valueOf_285 : decode cX9_valueOf 285 = .ok (.istore 9, 2) := by decide +kernel
theorem dX9_valueOf_287 : decode cX9_valueOf 287 = .ok (.goto 23, 3) := by decide +kernel
theorem dX9_valueOf_290 : decode cX9_valueOf 290 = .ok (.iload 7, 2) := by decide +kernel
theorem dX9_valueOf_292 : decode cX9_valueOf 292 = .ok (.iload 8, 2) := by decide +kernel
theorem dX9_valueOf_294 : decode cX9_valueOf 294 = .ok (.iand, 1) := by decide +kernel
theorem dX9_valueOf_295 : decode cX9_valueOf 295 = .ok (.istore 9, 2) := by decide +kernel
theorem dX9_valueOf_297 : decode cX9_valueOf 297 = .ok (.goto 13, 3) := by decide +kernel
theorem dX9_valueOf_300 : decode cX9_valueOf 300 = .ok (.iload 7, 2) := by decide +kernel
theorem dX9_valueOf_302 : decode cX9_valueOf 302 = .ok (.iload 8, 2) := by decide +kernel
theorem dX9_valueOf_304 : decode cX9_valueOf 304 = .ok (.ior, 1) := by decide +kernel
theorem dX9_valueOf_305 : decode cX9_valueOf 305 = .ok (.istore 9, 2) := by decide +kernel
theorem dX9_valueOf_307 : decode cX9_valueOf 307 = .ok (.goto 3, 3) := by decide +kernel
theorem dX9_valueOf_310 : decode cX9_valueOf 310 = .ok (.aload_n 0, 1) := by decide +kernel
theorem dX9_valueOf_311 : decode cX9_valueOf 311 = .ok (.getfield 36, 3) := by decide +kernel
theorem dX9_valueOf_314 : decode cX9_valueOf 314 = .ok (.iload 4, 2) := by decide +kernel
theorem dX9_valueOf_316 : decode cX9_valueOf 316 = .ok (.iconst 2, 1) := by decide +kernel
theorem dX9_valueOf_317 : decode cX9_valueOf 317 = .ok (.isub, 1) := by decide +kernel
theorem dX9_valueOf_318 : decode cX9_valueOf 318 = .ok (.iload 9, 2) := by decide +kernel
theorem dX9_valueOf_320 : decode cX9_valueOf 320 = .ok (.iastore, 1) := by decide +kernel
theorem dX9_valueOf_321 : decode cX9_valueOf 321 = .ok (.iinc 4 (-1), 3) := by decide +kernel
theorem dX9_valueOf_324 : decode cX9_valueOf 324 = .ok (.iinc 5 1, 3) := by decide +kernel
theorem dX9_valueOf_327 : decode cX9_valueOf 327 = .ok (.goto (-321), 3) := by decide +kernel
theorem dX9_valueOf_330 : decode cX9_valueOf 330 = .ok (.iload 4, 2) := by decide +kernel
theorem dX9_valueOf_332 : decode cX9_valueOf 332 = .ok (.ifCond .le 12, 3) := by decide +kernel
theorem dX9_valueOf_335 : decode cX9_valueOf 335 = .ok (.aload_n 0, 1) := by decide +kernel
theorem dX9_valueOf_336 : decode cX9_valueOf 336 = .ok (.getfield 36, 3) := by decide +kernel
theorem dX9_valueOf_339 : decode cX9_valueOf 339 = .ok (.iconst 0, 1) := by decide +kernel
theorem dX9_valueOf_340 : decode cX9_valueOf 340 = .ok (.iaload, 1) := by decide +kernel
theorem dX9_valueOf_341 : decode cX9_valueOf 341 = .ok (.goto 4, 3) := by decide +kernel
theorem dX9_valueOf_344 : decode cX9_valueOf 344 = .ok (.iconst 0, 1) := by decide +kernel
theorem dX9_valueOf_345 : decode cX9_valueOf 345 = .ok (.ireturn, 1) := by decide +kernel
set_option maxRecDepth 20000 in
theorem ggX10_init_X10_clear : GoodIn wsX10_init wsX10_clear := goodIn_r _ [10, 5, 11] (by decide +kernel) (by decide +kernel)
set_option maxRecDepth 20000 in
theorem gX10_init_X10_clear : GoodIn wsX10_init (wsV RX10 15 RX10 yX10_clear wsX10_clear) := goodIn_app (goodIn_of _ (by decide +kernel)) ggX10_init_X10_clear
theorem dX10_init_0 : decode cX10_init 0 = .ok (.aload_n 0, 1) := by decide +kernel
theorem dX10_init_1 : decode cX10_init 1 = .ok (.invokespecial 3, 3) := by decide +kernel
theorem dX10_init_4 : decode cX10_init 4 = .ok (.aload_n 0, 1) := by decide +kernel
theorem dX10_init_5 : decode cX10_init 5 = .ok (.bipush 24, 2) := by decide +kernel
theorem dX10_init_7 : decode cX10_init 7 = .ok (.newarray .int, 2) := by decide +kernel
theorem dX10_init_9 : decode cX10_init 9 = .ok (.putfield 9, 3) := by decide +kernel
theorem dX10_init_12 : decode cX10_init 12 = .ok (.aload_n 0, 1) := by decide +kernel
theorem dX10_init_13 : decode cX10_init 13 = .ok (.invokevirtual 15, 3) := by decide +kernel
theorem dX10_init_16 : decode cX10_init 16 = .ok (.return_, 1) := by decide +kernel
theorem dX10_clear_0 : decode cX10_clear 0 = .ok (.iconst 0, 1) := by decide +kernel
theorem dX10_clear_1 : decode cX10_clear 1 = .ok (.istore_n 1, 1) := by decide +kernel
theorem dX10_clear_2 : decode cX10_clear 2 = .ok (.iload_n 1, 1) := by decide +kernel
theorem dX10_clear_3 : decode cX10_clear 3 = .ok (.bipush 24, 2) := by decide +kernel
theorem dX10_clear_5 : decode cX10_clear 5 = .ok (.if_icmp .ge 16, 3) := by decide +kernel
theorem dX10_clear_8 : decode cX10_clear 8 = .ok (.aload_n 0, 1) := by decide +kernel
theorem dX10_clear_9 : decode cX10_clear 9 = .ok (.getfield 9, 3) := by decide +kernel
theorem dX10_clear_12 : decode cX10_clear 12 = .ok (.iload_n 1, 1) := by decide +kernel
theorem dX10_clear_13 : decode cX10_clear 13 = .ok (.iconst (-1), 1) := by decide +kernel
theorem dX10_clear_14 : decode cX10_clear 14 = .ok (.iastore, 1) := by decide +kernel
theorem dX10_clear_15 : decode cX10_clear 15 = .ok (.iinc 1 1, 3) := by decide +kernel
theorem dX10_clear_18 : decode cX10_clear 18 = .ok (.goto (-16), 3) := by decide +kernel
theorem dX10_clear_21 : decode cX10_clear 21 = .ok (.return_, 1) := by decide +kernel
theorem dX10_copyFrom_0 : decode cX10_copyFrom 0 = .ok (.aload_n 1, 1) := by decide +kernel
theorem dX10_copyFrom_1 : decode cX10_copyFrom 1 = .ok (.getfield 9, 3) := by decide +kernel
theorem dX10_copyFrom_4 : decode cX10_copyFrom 4 = .ok (.iconst 0, 1) := by decide +kernel
theorem dX10_copyFrom_5 : decode cX10_copyFrom 5 = .ok (.aload_n 0, 1) := by decide +kernel
theorem dX10_copyFrom_6 : decode cX10_copyFrom 6 = .ok (.getfield 9, 3) := by decide +kernel
theorem dX10_copyFrom_9 : decode cX10_copyFrom 9 = .ok (.iconst 0, 1) := by decide +kernel
theorem dX10_copyFrom_10 : decode cX10_copyFrom 10 = .ok (.bipush 24, 2) := by decide +kernel
theorem dX10_copyFrom_12 : decode cX10_copyFrom 12 = .ok (.invokestatic 18, 3) := by decide +kernel
theorem dX10_copyFrom_15 : decode cX10_copyFrom 15 = .ok (.return_, 1) := by decide +kernel
set_option maxRecDepth 20000 in
theorem ggX10_at_X11_isWithin : GoodIn wsX10_at wsX11_isWithin := goodIn_r _ [4] (by decide +kernel) (by decide +kernel)
set_option maxRecDepth 20000 in
theorem gX10_at_X11_isWithin_n24 : GoodIn wsX10_at (wsX11_isWithin) := ggX10_at_X11_isWithin
theorem dX10_at_0 : decode cX10_at 0 = .ok (.iload_n 1, 1) := by decide +kernel
theorem dX10_at_1 : decode cX10_at 1 = .ok (.iconst 0, 1) := by decide +kernel
theorem dX10_at_2 : decode cX10_at 2 = .ok (.iconst 5, 1) := by decide +kernel
theorem dX10_at_3 : decode cX10_at 3 = .ok (.invokestatic 24, 3) := by decide +kernel
theorem dX10_at_6 : decode cX10_at 6 = .ok (.ifCond .eq 12, 3) := by decide +kernel
theorem dX10_at_9 : decode cX10_at 9 = .ok (.iload_n 2, 1) := by decide +kernel
theorem dX10_at_10 : decode cX10_at 10 = .ok (.iconst 0, 1) := by decide +kernel
theorem dX10_at_11 : decode cX10_at 11 = .ok (.iconst 3, 1) := by decide +kernel
theorem dX10_at_12 : decode cX10_at 12 = .ok (.invokestatic 24, 3) := by decide +kernel
theorem dX10_at_15 : decode cX10_at 15 = .ok (.ifCond .ne 5, 3) := by decide +kernel
theorem dX10_at_18 : decode cX10_at 18 = .ok (.iconst (-1), 1) := by decide +kernel
theorem dX10_at_19 : decode cX10_at 19 = .ok (.ireturn, 1) := by decide +kernel
theorem dX10_at_20 : decode cX10_at 20 = .ok (.aload_n 0, 1) := by decide +kernel
theorem dX10_at_21 : decode cX10_at 21 = .ok (.getfield 9, 3) := by decide +kernel
theorem dX10_at_24 : decode cX10_at 24 = .ok (.iload_n 1, 1) := by decide +kernel
theorem dX10_at_25 : decode cX10_at 25 = .ok (.iconst 4, 1) := by decide +kernel
theorem dX10_at_26 : decode cX10_at 26 = .ok (.imul, 1) := by decide +kernel
theorem dX10_at_27 : decode cX10_at 27 = .ok (.iload_n 2, 1) := by decide +kernel
theorem dX10_at_28 : decode cX10_at 28 = .ok (.iadd, 1) := by decide +kernel
theorem dX10_at_29 : decode cX10_at 29 = .ok (.iaload, 1) := by decide +kernel
theorem dX10_at_30 : decode cX10_at 30 = .ok (.ireturn, 1) := by decide +kernel
set_option maxRecDepth 20000 in
theorem ggX10_put_X11_isWithin : GoodIn wsX10_put wsX11_isWithin := goodIn_r _ [4] (by decide +kernel) (by decide +kernel)
set_option maxRecDepth 20000 in
theorem gX10_put_X11_isWithin_n24 : GoodIn wsX10_put (wsX11_isWithin) := ggX10_put_X11_isWithin
theorem dX10_put_0 : decode cX10_put 0 = .ok (.iload_n 1, 1) := by decide +kernel
theorem dX10_put_1 : decode cX10_put 1 = .ok (.iconst 0, 1) := by decide +kernel
theorem dX10_put_2 : decode cX10_put 2 = .ok (.iconst 5, 1) := by decide +kernel
theorem dX10_put_3 : decode cX10_put 3 = .ok (.invokestatic 24, 3) := by decide +kernel
theorem dX10_put_6 : decode cX10_put 6 = .ok (.ifCond .eq 49, 3) := by decide +kernel
theorem dX10_put_9 : decode cX10_put 9 = .ok (.aload_n 0, 1) := by decide +kernel
theorem dX10_put_10 : decode cX10_put 10 = .ok (.getfield 9, 3) := by decide +kernel
theorem dX10_put_13 : decode cX10_put 13 = .ok (.iload_n 1, 1) := by decide +kernel
theorem dX10_put_14 : decode cX10_put 14 = .ok (.iconst 4, 1) := by decide +kernel
theorem dX10_put_15 : decode cX10_put 15 = .ok (.imul, 1) := by decide +kernel
theorem dX10_put_16 : decode cX10_put 16 = .ok (.iconst 0, 1) := by decide +kernel
theorem dX10_put_17 : decode cX10_put 17 = .ok (.iadd, 1) := by decide +kernel
theorem dX10_put_18 : decode cX10_put 18 = .ok (.iload_n 2, 1) := by decide +kernel
theorem dX10_put_19 : decode cX10_put 19 = .ok (.iastore, 1) := by decide +kernel
theorem dX10_put_20 : decode cX10_put 20 = .ok (.aload_n 0, 1) := by decide +kernel
theorem dX10_put_21 : decode cX10_put 21 = .ok (.getfield 9, 3) := by decide +kernel
theorem dX10_put_24 : decode cX10_put 24 = .ok (.iload_n 1, 1) := by decide +kernel
theorem dX10_put_25 : decode cX10_put 25 = .ok (.iconst 4, 1) := by decide +kernel
theorem dX10_put_26 : decode cX10_put 26 = .ok (.imul, 1) := by decide +kernel
theorem dX10_put_27 : decode cX10_put 27 = .ok (.iconst 1, 1) := by decide +kernel
theorem dX10_put_28 : decode cX10_put 28 = .ok (.iadd, 1) := by decide +kernel
theorem dX10_put_29 : decode cX10_put 29 = .ok (.iload_n 3, 1) := by decide +kernel
theorem dX10_put_30 : decode cX10_put 30 = .ok (.iastore, 1) := by decide +kernel
theorem dX10_put_31 : decode cX10_put 31 = .ok (.aload_n 0, 1) := by decide +kernel
theorem dX10_put_32 : decode cX10_put 32 = .ok (.getfield 9, 3) := by decide +kernel
theorem dX10_put_35 : decode cX10_put 35 = .ok (.iload_n 1, 1) := by decide +kernel
theorem dX10_put_36 : decode cX10_put 36 = .ok (.iconst 4, 1) := by decide +kernel
theorem dX10_put_37 : decode cX10_put 37 = .ok (.imul, 1) := by decide +kernel
theorem dX10_put_38 : decode cX10_put 38 = .ok (.iconst 2, 1) := by decide +kernel
theorem dX10_put_39 : decode cX10_put 39 = .ok (.iadd, 1) := by decide +kernel
theorem dX10_put_40 : decode cX10_put 40 = .ok (.iload 4, 2) := by decide +kernel
theorem dX10_put_42 : decode cX10_put 42 = .ok (.iastore, 1) := by decide +kernel
theorem dX10_put_43 : decode cX10_put 43 = .ok (.aload_n 0, 1) := by decide +kernel
theorem dX10_put_44 : decode cX10_put 44 = .ok (.getfield 9, 3) := by decide +kernel
theorem dX10_put_47 : decode cX10_put 47 = .ok (.iload_n 1, 1) := by decide +kernel
theorem dX10_put_48 : decode cX10_put 48 = .ok (.iconst 4, 1) := by decide +kernel
theorem dX10_put_49 : decode cX10_put 49 = .ok (.imul, 1) := by decide +kernel
theorem dX10_put_50 : decode cX10_put 50 = .ok (.iconst 3, 1) := by decide +kernel
theorem dX10_put_51 : decode cX10_put 51 = .ok (.iadd, 1) := by decide +kernel
theorem dX10_put_52 : decode cX10_put 52 = .ok (.iload 5, 2) := by decide +kernel
theorem dX10_put_54 : decode cX10_put 54 = .ok (.iastore, 1) := by decide +kernel
theorem dX10_put_55 : decode cX10_put 55 = .ok (.return_, 1) := by decide +kernel
set_option maxRecDepth 20000 in
theorem ggX10_has_X10_at : GoodIn wsX10_has wsX10_at := goodIn_r _ [5, 6, 7, 8, 9, 10] (by decide +kernel) (by decide +kernel)
set_option maxRecDepth 20000 in
theorem gX10_has_X10_at : GoodIn wsX10_has (wsV RX10 28 RX10 yX10_at wsX10_at) := goodIn_app (goodIn_of _ (by decide +kernel)) ggX10_has_X10_at
theorem dX10_has_0 : decode cX10_has 0 = .ok (.aload_n 0, 1) := by decide +kernel
theorem dX10_has_1 : decode cX10_has 1 = .ok (.iload_n 1, 1) := by decide +kernel
theorem dX10_has_2 : decode cX10_has 2 = .ok (.iconst 1, 1) := by decide +kernel
theorem dX10_has_3 : decode cX10_has 3 = .ok (.invokevirtual 28, 3) := by decide +kernel
theorem dX10_has_6 : decode cX10_has 6 = .ok (.iconst (-1), 1) := by decide +kernel
theorem dX10_has_7 : decode cX10_has 7 = .ok (.if_icmp .eq 7, 3) := by decide +kernel
theorem dX10_has_10 : decode cX10_has 10 = .ok (.iconst 1, 1) := by decide +kernel
theorem dX10_has_11 : decode cX10_has 11 = .ok (.goto 4, 3) := by decide +kernel
theorem dX10_has_14 : decode cX10_has 14 = .ok (.iconst 0, 1) := by decide +kernel
theorem dX10_has_15 : decode cX10_has 15 = .ok (.ireturn, 1) := by decide +kernel
theorem dX10_overlaps_0 : decode cX10_overlaps 0 = .ok (.iload_n 1, 1) := by decide +kernel
theorem dX10_overlaps_1 : decode cX10_overlaps 1 = .ok (.ifCond .lt 9, 3) := by decide +kernel
theorem dX10_overlaps_4 : decode cX10_overlaps 4 = .ok (.iload_n 1, 1) := by decide +kernel
theorem dX10_overlaps_5 : decode cX10_overlaps 5 = .ok (.bipush 6, 2) := by decide +kernel
theorem dX10_overlaps_7 : decode cX10_overlaps 7 = .ok (.if_icmp .lt 5, 3) := by decide +kernel
theorem dX10_overlaps_10 : decode cX10_overlaps 10 = .ok (.iconst 0, 1) := by decide +kernel
theorem dX10_overlaps_11 : decode cX10_overlaps 11 = .ok (.ireturn, 1) := by decide +kernel
theorem dX10_overlaps_12 : decode cX10_overlaps 12 = .ok (.iload_n 1, 1) := by decide +kernel
theorem dX10_overlaps_13 : decode cX10_overlaps 13 = .ok (.iconst 4, 1) := by decide +kernel
theorem dX10_overlaps_14 : decode cX10_overlaps 14 = .ok (.imul, 1) := by decide +kernel
theorem dX10_overlaps_15 : decode cX10_overlaps 15 = .ok (.istore 4, 2) := by decide +kernel
theorem dX10_overlaps_17 : decode cX10_overlaps 17 = .ok (.aload_n 0, 1) := by decide +kernel
theorem dX10_overlaps_18 : decode cX10_overlaps 18 = .ok (.getfield 9, 3) := by decide +kernel
theorem dX10_overlaps_21 : decode cX10_overlaps 21 = .ok (.iload 4, 2) := by decide +kernel
theorem dX10_overlaps_23 : decode cX10_overlaps 23 = .ok (.iconst 1, 1) := by decide +kernel
theorem dX10_overlaps_24 : decode cX10_overlaps 24 = .ok (.iadd, 1) := by decide +kernel
theorem dX10_overlaps_25 : decode cX10_overlaps 25 = .ok (.iaload, 1) := by decide +kernel
theorem dX10_overlaps_26 : decode cX10_overlaps 26 = .ok (.iconst (-1), 1) := by decide +kernel
theorem dX10_overlaps_27 : decode cX10_overlaps 27 = .ok (.if_icmp .eq 33, 3) := by decide +kernel
theorem dX10_overlaps_30 : decode cX10_overlaps 30 = .ok (.aload_n 0, 1) := by decide +kernel
theorem dX10_overlaps_31 : decode cX10_overlaps 31 = .ok (.getfield 9, 3) := by decide +kernel
theorem dX10_overlaps_34 : decode cX10_overlaps 34 = .ok (.iload 4, 2) := by decide +kernel
theorem dX10_overlaps_36 : decode cX10_overlaps 36 = .ok (.iconst 2, 1) := by decide +kernel
theorem dX10_overlaps_37 : decode cX10_overlaps 37 = .ok (.iadd, 1) := by decide +kernel
theorem dX10_overlaps_38 : decode cX10_overlaps 38 = .ok (.iaload, 1) := by decide +kernel
theorem dX10_overlaps_39 : decode cX10_overlaps 39 = .ok (.iload_n 3, 1) := by decide +kernel
theorem dX10_overlaps_40 : decode cX10_overlaps 40 = .ok (.if_icmp .ge 20, 3) := by decide +kernel
theorem dX10_overlaps_43 : decode cX10_overlaps 43 = .ok (.iload_n 2, 1) := by decide +kernel
theorem dX10_overlaps_44 : decode cX10_overlaps 44 = .ok (.aload_n 0, 1) := by decide +kernel
theorem dX10_overlaps_45 : decode cX10_overlaps 45 = .ok (.getfield 9, 3) := by decide +kernel
theorem dX10_overlaps_48 : decode cX10_overlaps 48 = .ok (.iload 4, 2) := by decide +kernel
theorem dX10_overlaps_50 : decode cX10_overlaps 50 = .ok (.iconst 3, 1) := by decide +kernel
theorem dX10_overlaps_51 : decode cX10_overlaps 51 = .ok (.iadd, 1) := by decide +kernel
theorem dX10_overlaps_52 : decode cX10_overlaps 52 = .ok (.iaload, 1) := by decide +kernel
theorem dX10_overlaps_53 : decode cX10_overlaps 53 = .ok (.if_icmp .ge 7, 3) := by decide +kernel
theorem dX10_overlaps_56 : decode cX10_overlaps 56 = .ok (.iconst 1, 1) := by decide +kernel
theorem dX10_overlaps_57 : decode cX10_overlaps 57 = .ok (.goto 4, 3) := by decide +kernel
theorem dX10_overlaps_60 : decode cX10_overlaps 60 = .ok (.iconst 0, 1) := by decide +kernel
theorem dX10_overlaps_61 : decode cX10_overlaps 61 = .ok (.ireturn, 1) := by decide +kernel
set_option maxRecDepth 20000 in
theorem ggX11_init_X8_init : GoodIn wsX11_init wsX8_init := goodIn_r _ [47, 48, 2, 3, 49, 50, 51, 163, 164] (by decide +kernel) (by decide +kernel)
set_option maxRecDepth 20000 in
theorem gX11_init_X8_init_n9 : GoodIn wsX11_init (wsX8_init) := ggX11_init_X8_init
set_option maxRecDepth 20000 in
theorem ggX11_init_X9_init : GoodIn wsX11_init wsX9_init := goodIn_r _ [53, 54, 2, 3, 55, 56, 57, 58, 59, 60, 61, 62, 63, 64, 65, 66, 177, 178, 179, 180, 181, 182, 183, 184, 185, 186, 187] (by decide +kernel) (by decide +kernel)
set_option maxRecDepth 20000 in
theorem gX11_init_X9_init_n18 : GoodIn wsX11_init (wsX9_init) := ggX11_init_X9_init
set_option maxRecDepth 20000 in
theorem ggX11_init_X6_init : GoodIn wsX11_init wsX6_init := goodIn_r _ [69, 70, 2, 3, 55, 71, 72, 73, 74, 75, 193, 194, 195, 196, 197] (by decide +kernel) (by decide +kernel)
set_option maxRecDepth 20000 in
theorem gX11_init_X6_init : GoodIn wsX11_init (wsX6_init) := ggX11_init_X6_init
set_option maxRecDepth 20000 in
theorem ggX11_init_X3_init : GoodIn wsX11_init wsX3_init := goodIn_r _ [78, 79, 2, 3, 80, 81, 82, 83, 84, 188, 189, 190, 191, 192] (by decide +kernel) (by decide +kernel)
set_option maxRecDepth 20000 in
theorem gX11_init_X3_init : GoodIn wsX11_init (wsX3_init) := ggX11_init_X3_init
set_option maxRecDepth 20000 in
theorem ggX11_init_X2_init : GoodIn wsX11_init wsX2_init := goodIn_r _ [86, 87, 2, 3, 55, 88, 89, 90, 91, 92, 93, 94, 95, 96, 97, 98, 99, 100, 198, 199, 200, 201, 202, 203, 204, 205, 206, 207, 208, 209, 210] (by decide +kernel) (by decide +kernel)
set_option maxRecDepth 20000 in
theorem gX11_init_X2_init_n39 : GoodIn wsX11_init (wsX2_init) := ggX11_init_X2_init
set_option maxRecDepth 20000 in
theorem ggX11_init_X1_init : GoodIn wsX11_init wsX1_init := goodIn_r _ [103, 104, 2, 3, 55, 105, 106, 107, 108, 109, 110, 111, 211, 212, 213, 214, 215, 216, 217] (by decide +kernel) (by decide +kernel)
set_option maxRecDepth 20000 in
theorem gX11_init_X1_init : GoodIn wsX11_init (wsX1_init) := ggX11_init_X1_init
set_option maxRecDepth 20000 in
theorem ggX11_init_X0_init : GoodIn wsX11_init wsX0_init := goodIn_r _ [114, 115, 2, 3, 55, 116, 117, 118, 119, 218, 219, 220, 221] (by decide +kernel) (by decide +kernel)
set_option maxRecDepth 20000 in
theorem gX11_init_X0_init : GoodIn wsX11_init (wsX0_init) := ggX11_init_X0_init
set_option maxRecDepth 20000 in
theorem ggX11_init_X4_init : GoodIn wsX11_init wsX4_init := goodIn_r _ [122, 123, 2, 3, 55, 124, 125, 126, 127, 128, 129, 130, 131, 132, 133, 134, 135, 136, 137, 138, 139, 140, 141, 142, 143, 144, 145, 222, 223, 224, 225, 226, 227, 228, 229, 230, 231, 239] (by decide +kernel) (by decide +kernel)
set_option maxRecDepth 20000 in
theorem gX11_init_X4_init : GoodIn wsX11_init (wsX4_init) := ggX11_init_X4_init
set_option maxRecDepth 20000 in
theorem ggX11_init_X5_init : GoodIn wsX11_init wsX5_init := goodIn_r _ [148, 149, 2, 3, 150, 151, 152, 232, 233, 234] (by decide +kernel) (by decide +kernel)
set_option maxRecDepth 20000 in
theorem gX11_init_X5_init : GoodIn wsX11_init (wsX5_init) := ggX11_init_X5_init
set_option maxRecDepth 20000 in
theorem ggX11_init_X7_init : GoodIn wsX11_init wsX7_init := goodIn_r _ [155, 156, 2, 3, 157, 128, 129, 158, 159, 160, 161, 162, 138, 139, 140, 55, 141, 142, 143, 144, 145, 239, 235, 236, 237, 238] (by decide +kernel) (by decide +kernel)
set_option maxRecDepth 20000 in
theorem gX11_init_X7_init : GoodIn wsX11_init (wsX7_init) := ggX11_init_X7_init
theorem dX11_init_0 : decode cX11_init 0 = .ok (.aload_n 0, 1) := by decide +kernel
theorem dX11_init_1 : decode cX11_init 1 = .ok (.invokespecial 1, 3) := by decide +kernel
theorem dX11_init_4 : decode cX11_init 4 = .ok (.aload_n 0, 1) := by decide +kernel
theorem dX11_init_5 : decode cX11_init 5 = .ok (.new 7, 3) := by decide +kernel
theorem dX11_init_8 : decode cX11_init 8 = .ok (.dup, 1) := by decide +kernel
theorem dX11_init_9 : decode cX11_init 9 = .ok (.invokespecial 9, 3) := by decide +kernel
theorem dX11_init_12 : decode cX11_init 12 = .ok (.putfield 10, 3) := by decide +kernel
theorem dX11_init_15 : decode cX11_init 15 = .ok (.aload_n 0, 1) := by decide +kernel
theorem dX11_init_16 : decode cX11_init 16 = .ok (.new 16, 3) := by decide +kernel
theorem dX11_init_19 : decode cX11_init 19 = .ok (.dup, 1) := by decide +kernel
theorem dX11_init_20 : decode cX11_init 20 = .ok (.invokespecial 18, 3) := by decide +kernel
theorem dX11_init_23 : decode cX11_init 23 = .ok (.putfield 19, 3) := by decide +kernel
theorem dX11_init_26 : decode cX11_init 26 = .ok (.aload_n 0, 1) := by decide +kernel
