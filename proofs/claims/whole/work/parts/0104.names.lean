theorem dX11_init_27 : decode cX11_init 27 = .ok (.new 23, 3) := by decide +kernel
theorem dX11_init_30 : decode cX11_init 30 = .ok (.dup, 1) := by decide +kernel
theorem dX11_init_31 : decode cX11_init 31 = .ok (.new 25, 3) := by decide +kernel
theorem dX11_init_34 : decode cX11_init 34 = .ok (.dup, 1) := by decide +kernel
theorem dX11_init_35 : decode cX11_init 35 = .ok (.aload_n 0, 1) := by decide +kernel
theorem dX11_init_36 : decode cX11_init 36 = .ok (.getfield 10, 3) := by decide +kernel
theorem dX11_init_39 : decode cX11_init 39 = .ok (.invokespecial 27, 3) := by decide +kernel
theorem dX11_init_42 : decode cX11_init 42 = .ok (.new 16, 3) := by decide +kernel
theorem dX11_init_45 : decode cX11_init 45 = .ok (.dup, 1) := by decide +kernel
theorem dX11_init_46 : decode cX11_init 46 = .ok (.invokespecial 18, 3) := by decide +kernel
theorem dX11_init_49 : decode cX11_init 49 = .ok (.invokespecial 30, 3) := by decide +kernel
theorem dX11_init_52 : decode cX11_init 52 = .ok (.putfield 33, 3) := by decide +kernel
theorem dX11_init_55 : decode cX11_init 55 = .ok (.aload_n 0, 1) := by decide +kernel
theorem dX11_init_56 : decode cX11_init 56 = .ok (.new 37, 3) := by decide +kernel
theorem dX11_init_59 : decode cX11_init 59 = .ok (.dup, 1) := by decide +kernel
theorem dX11_init_60 : decode cX11_init 60 = .ok (.invokespecial 39, 3) := by decide +kernel
theorem dX11_init_63 : decode cX11_init 63 = .ok (.putfield 40, 3) := by decide +kernel
theorem dX11_init_66 : decode cX11_init 66 = .ok (.aload_n 0, 1) := by decide +kernel
theorem dX11_init_67 : decode cX11_init 67 = .ok (.new 44, 3) := by decide +kernel
theorem dX11_init_70 : decode cX11_init 70 = .ok (.dup, 1) := by decide +kernel
theorem dX11_init_71 : decode cX11_init 71 = .ok (.aload_n 0, 1) := by decide +kernel
theorem dX11_init_72 : decode cX11_init 72 = .ok (.getfield 40, 3) := by decide +kernel
theorem dX11_init_75 : decode cX11_init 75 = .ok (.invokespecial 46, 3) := by decide +kernel
theorem dX11_init_78 : decode cX11_init 78 = .ok (.putfield 49, 3) := by decide +kernel
theorem dX11_init_81 : decode cX11_init 81 = .ok (.aload_n 0, 1) := by decide +kernel
theorem dX11_init_82 : decode cX11_init 82 = .ok (.new 53, 3) := by decide +kernel
theorem dX11_init_85 : decode cX11_init 85 = .ok (.dup, 1) := by decide +kernel
theorem dX11_init_86 : decode cX11_init 86 = .ok (.aload_n 0, 1) := by decide +kernel
theorem dX11_init_87 : decode cX11_init 87 = .ok (.getfield 19, 3) := by decide +kernel
theorem dX11_init_90 : decode cX11_init 90 = .ok (.aload_n 0, 1) := by decide +kernel
theorem dX11_init_91 : decode cX11_init 91 = .ok (.getfield 40, 3) := by decide +kernel
theorem dX11_init_94 : decode cX11_init 94 = .ok (.aload_n 0, 1) := by decide +kernel
theorem dX11_init_95 : decode cX11_init 95 = .ok (.getfield 49, 3) := by decide +kernel
theorem dX11_init_98 : decode cX11_init 98 = .ok (.invokespecial 55, 3) := by decide +kernel
theorem dX11_init_101 : decode cX11_init 101 = .ok (.putfield 58, 3) := by decide +kernel
theorem dX11_init_104 : decode cX11_init 104 = .ok (.aload_n 0, 1) := by decide +kernel
theorem dX11_init_105 : decode cX11_init 105 = .ok (.new 62, 3) := by decide +kernel
theorem dX11_init_108 : decode cX11_init 108 = .ok (.dup, 1) := by decide +kernel
theorem dX11_init_109 : decode cX11_init 109 = .ok (.aload_n 0, 1) := by decide +kernel
theorem dX11_init_110 : decode cX11_init 110 = .ok (.getfield 40, 3) := by decide +kernel
theorem dX11_init_113 : decode cX11_init 113 = .ok (.aload_n 0, 1) := by decide +kernel
theorem dX11_init_114 : decode cX11_init 114 = .ok (.getfield 58, 3) := by decide +kernel
theorem dX11_init_117 : decode cX11_init 117 = .ok (.invokespecial 64, 3) := by decide +kernel
theorem dX11_init_120 : decode cX11_init 120 = .ok (.putfield 67, 3) := by decide +kernel
theorem dX11_init_123 : decode cX11_init 123 = .ok (.aload_n 0, 1) := by decide +kernel
theorem dX11_init_124 : decode cX11_init 124 = .ok (.new 71, 3) := by decide +kernel
theorem dX11_init_127 : decode cX11_init 127 = .ok (.dup, 1) := by decide +kernel
theorem dX11_init_128 : decode cX11_init 128 = .ok (.aload_n 0, 1) := by decide +kernel
theorem dX11_init_129 : decode cX11_init 129 = .ok (.getfield 40, 3) := by decide +kernel
theorem dX11_init_132 : decode cX11_init 132 = .ok (.aload_n 0, 1) := by decide +kernel
theorem dX11_init_133 : decode cX11_init 133 = .ok (.getfield 49, 3) := by decide +kernel
theorem dX11_init_136 : decode cX11_init 136 = .ok (.aload_n 0, 1) := by decide +kernel
theorem dX11_init_137 : decode cX11_init 137 = .ok (.getfield 58, 3) := by decide +kernel
theorem dX11_init_140 : decode cX11_init 140 = .ok (.invokespecial 73, 3) := by decide +kernel
theorem dX11_init_143 : decode cX11_init 143 = .ok (.putfield 76, 3) := by decide +kernel
theorem dX11_init_146 : decode cX11_init 146 = .ok (.aload_n 0, 1) := by decide +kernel
theorem dX11_init_147 : decode cX11_init 147 = .ok (.iconst 5, 1) := by decide +kernel
theorem dX11_init_148 : decode cX11_init 148 = .ok (.anewarray 80, 3) := by decide +kernel
theorem dX11_init_151 : decode cX11_init 151 = .ok (.putfield 82, 3) := by decide +kernel
theorem dX11_init_154 : decode cX11_init 154 = .ok (.iconst 0, 1) := by decide +kernel
theorem dX11_init_155 : decode cX11_init 155 = .ok (.istore_n 1, 1) := by decide +kernel
theorem dX11_init_156 : decode cX11_init 156 = .ok (.iload_n 1, 1) := by decide +kernel
theorem dX11_init_157 : decode cX11_init 157 = .ok (.iconst 5, 1) := by decide +kernel
theorem dX11_init_158 : decode cX11_init 158 = .ok (.if_icmp .ge 23, 3) := by decide +kernel
theorem dX11_init_161 : decode cX11_init 161 = .ok (.aload_n 0, 1) := by decide +kernel
theorem dX11_init_162 : decode cX11_init 162 = .ok (.getfield 82, 3) := by decide +kernel
theorem dX11_init_165 : decode cX11_init 165 = .ok (.iload_n 1, 1) := by decide +kernel
theorem dX11_init_166 : decode cX11_init 166 = .ok (.new 80, 3) := by decide +kernel
theorem dX11_init_169 : decode cX11_init 169 = .ok (.dup, 1) := by decide +kernel
theorem dX11_init_170 : decode cX11_init 170 = .ok (.iload_n 1, 1) := by decide +kernel
theorem dX11_init_171 : decode cX11_init 171 = .ok (.invokespecial 86, 3) := by decide +kernel
theorem dX11_init_174 : decode cX11_init 174 = .ok (.aastore, 1) := by decide +kernel
theorem dX11_init_175 : decode cX11_init 175 = .ok (.iinc 1 1, 3) := by decide +kernel
theorem dX11_init_178 : decode cX11_init 178 = .ok (.goto (-22), 3) := by decide +kernel
theorem dX11_init_181 : decode cX11_init 181 = .ok (.aload_n 0, 1) := by decide +kernel
theorem dX11_init_182 : decode cX11_init 182 = .ok (.iconst 0, 1) := by decide +kernel
theorem dX11_init_183 : decode cX11_init 183 = .ok (.putfield 89, 3) := by decide +kernel
theorem dX11_init_186 : decode cX11_init 186 = .ok (.aload_n 0, 1) := by decide +kernel
theorem dX11_init_187 : decode cX11_init 187 = .ok (.iconst 1, 1) := by decide +kernel
theorem dX11_init_188 : decode cX11_init 188 = .ok (.putfield 93, 3) := by decide +kernel
theorem dX11_init_191 : decode cX11_init 191 = .ok (.aload_n 0, 1) := by decide +kernel
theorem dX11_init_192 : decode cX11_init 192 = .ok (.iconst (-1), 1) := by decide +kernel
theorem dX11_init_193 : decode cX11_init 193 = .ok (.putfield 96, 3) := by decide +kernel
theorem dX11_init_196 : decode cX11_init 196 = .ok (.return_, 1) := by decide +kernel
set_option maxRecDepth 20000 in
theorem ggX11_feed_X8_append : GoodIn wsX11_feed wsX8_append := goodIn_r _ [6, 7, 8, 21, 22] (by decide +kernel) (by decide +kernel)
set_option maxRecDepth 20000 in
theorem gX11_feed_X8_append : GoodIn wsX11_feed (wsV RX11 102 RX8 yX8_append wsX8_append) := goodIn_app (goodIn_of _ (by decide +kernel)) ggX11_feed_X8_append
theorem dX11_feed_0 : decode cX11_feed 0 = .ok (.aload_n 0, 1) := by decide +kernel
theorem dX11_feed_1 : decode cX11_feed 1 = .ok (.getfield 10, 3) := by decide +kernel
theorem dX11_feed_4 : decode cX11_feed 4 = .ok (.getfield 99, 3) := by decide +kernel
theorem dX11_feed_7 : decode cX11_feed 7 = .ok (.sipush 1980, 3) := by decide +kernel
theorem dX11_feed_10 : decode cX11_feed 10 = .ok (.if_icmp .le 5, 3) := by decide +kernel
theorem dX11_feed_13 : decode cX11_feed 13 = .ok (.iconst (-1), 1) := by decide +kernel
theorem dX11_feed_14 : decode cX11_feed 14 = .ok (.ireturn, 1) := by decide +kernel
theorem dX11_feed_15 : decode cX11_feed 15 = .ok (.aload_n 0, 1) := by decide +kernel
theorem dX11_feed_16 : decode cX11_feed 16 = .ok (.getfield 10, 3) := by decide +kernel
theorem dX11_feed_19 : decode cX11_feed 19 = .ok (.iload_n 1, 1) := by decide +kernel
theorem dX11_feed_20 : decode cX11_feed 20 = .ok (.invokevirtual 102, 3) := by decide +kernel
theorem dX11_feed_23 : decode cX11_feed 23 = .ok (.aload_n 0, 1) := by decide +kernel
theorem dX11_feed_24 : decode cX11_feed 24 = .ok (.getfield 10, 3) := by decide +kernel
theorem dX11_feed_27 : decode cX11_feed 27 = .ok (.iload_n 2, 1) := by decide +kernel
theorem dX11_feed_28 : decode cX11_feed 28 = .ok (.invokevirtual 102, 3) := by decide +kernel
theorem dX11_feed_31 : decode cX11_feed 31 = .ok (.aload_n 0, 1) := by decide +kernel
theorem dX11_feed_32 : decode cX11_feed 32 = .ok (.getfield 10, 3) := by decide +kernel
theorem dX11_feed_35 : decode cX11_feed 35 = .ok (.iload_n 3, 1) := by decide +kernel
theorem dX11_feed_36 : decode cX11_feed 36 = .ok (.invokevirtual 102, 3) := by decide +kernel
theorem dX11_feed_39 : decode cX11_feed 39 = .ok (.aload_n 0, 1) := by decide +kernel
theorem dX11_feed_40 : decode cX11_feed 40 = .ok (.getfield 10, 3) := by decide +kernel
theorem dX11_feed_43 : decode cX11_feed 43 = .ok (.iload 4, 2) := by decide +kernel
theorem dX11_feed_45 : decode cX11_feed 45 = .ok (.invokevirtual 102, 3) := by decide +kernel
theorem dX11_feed_48 : decode cX11_feed 48 = .ok (.aload_n 0, 1) := by decide +kernel
theorem dX11_feed_49 : decode cX11_feed 49 = .ok (.getfield 10, 3) := by decide +kernel
theorem dX11_feed_52 : decode cX11_feed 52 = .ok (.iload 5, 2) := by decide +kernel
theorem dX11_feed_54 : decode cX11_feed 54 = .ok (.invokevirtual 102, 3) := by decide +kernel
theorem dX11_feed_57 : decode cX11_feed 57 = .ok (.aload_n 0, 1) := by decide +kernel
theorem dX11_feed_58 : decode cX11_feed 58 = .ok (.getfield 10, 3) := by decide +kernel
theorem dX11_feed_61 : decode cX11_feed 61 = .ok (.getfield 99, 3) := by decide +kernel
theorem dX11_feed_64 : decode cX11_feed 64 = .ok (.ireturn, 1) := by decide +kernel
theorem dX11_back_0 : decode cX11_back 0 = .ok (.iload_n 1, 1) := by decide +kernel
theorem dX11_back_1 : decode cX11_back 1 = .ok (.ifCond .lt 14, 3) := by decide +kernel
theorem dX11_back_4 : decode cX11_back 4 = .ok (.iload_n 1, 1) := by decide +kernel
theorem dX11_back_5 : decode cX11_back 5 = .ok (.aload_n 0, 1) := by decide +kernel
theorem dX11_back_6 : decode cX11_back 6 = .ok (.getfield 10, 3) := by decide +kernel
theorem dX11_back_9 : decode cX11_back 9 = .ok (.getfield 99, 3) := by decide +kernel
theorem dX11_back_12 : decode cX11_back 12 = .ok (.if_icmp .le 5, 3) := by decide +kernel
theorem dX11_back_15 : decode cX11_back 15 = .ok (.iconst (-1), 1) := by decide +kernel
theorem dX11_back_16 : decode cX11_back 16 = .ok (.ireturn, 1) := by decide +kernel
theorem dX11_back_17 : decode cX11_back 17 = .ok (.aload_n 0, 1) := by decide +kernel
theorem dX11_back_18 : decode cX11_back 18 = .ok (.getfield 10, 3) := by decide +kernel
theorem dX11_back_21 : decode cX11_back 21 = .ok (.dup, 1) := by decide +kernel
theorem dX11_back_22 : decode cX11_back 22 = .ok (.getfield 99, 3) := by decide +kernel
theorem dX11_back_25 : decode cX11_back 25 = .ok (.iload_n 1, 1) := by decide +kernel
theorem dX11_back_26 : decode cX11_back 26 = .ok (.isub, 1) := by decide +kernel
theorem dX11_back_27 : decode cX11_back 27 = .ok (.putfield 99, 3) := by decide +kernel
theorem dX11_back_30 : decode cX11_back 30 = .ok (.aload_n 0, 1) := by decide +kernel
theorem dX11_back_31 : decode cX11_back 31 = .ok (.getfield 10, 3) := by decide +kernel
theorem dX11_back_34 : decode cX11_back 34 = .ok (.getfield 99, 3) := by decide +kernel
theorem dX11_back_37 : decode cX11_back 37 = .ok (.ireturn, 1) := by decide +kernel
set_option maxRecDepth 20000 in
theorem ggX11_read_X3_parse : GoodIn wsX11_read wsX3_parse := goodIn_r _ [9, 10, 11, 12, 13, 14, 15, 16, 17, 18, 19, 20, 21, 22, 23, 24, 25, 26, 27, 28, 29, 30, 31, 32, 33, 34, 35, 36, 37, 38, 39, 40, 41, 42, 43, 44, 45, 46, 47, 48, 49, 50, 51, 52, 53, 54, 55, 56, 57, 58, 59, 60, 61, 62, 63, 64, 65, 66, 67, 68, 69, 70, 71, 72, 73, 74, 75, 76, 77, 78, 79, 80, 81, 82, 83, 84, 85, 86, 87, 88, 89, 90, 91, 92, 93, 94, 95, 96, 97, 98, 99, 100, 101, 102, 103, 104, 105, 106, 107, 108, 109, 110, 111, 112, 113, 114, 115, 116, 117, 118, 119, 120, 121, 122, 123, 8, 124, 125, 126, 127, 128, 129, 130, 131, 132, 133, 134, 135, 136, 137, 138, 139, 140, 141, 142, 143, 144, 145, 146, 147, 148, 149, 150, 151, 152, 153, 154, 155, 156, 157, 158, 159, 160, 161, 162, 163, 164, 165, 166, 167, 190, 191, 192, 193, 194, 195, 196, 197, 198, 199, 200, 201, 202, 203, 204, 205, 206, 207, 208, 209, 210, 188, 189] (by decide +kernel) (by decide +kernel)
set_option maxRecDepth 20000 in
theorem gX11_read_X3_parse : GoodIn wsX11_read (wsV RX11 105 RX3 yX3_parse wsX3_parse) := goodIn_app (goodIn_of _ (by decide +kernel)) ggX11_read_X3_parse
set_option maxRecDepth 20000 in
theorem ggX11_read_X9_copyFrom : GoodIn wsX11_read wsX9_copyFrom := goodIn_r _ [171, 162, 172, 173, 174, 175, 163, 164, 165, 166, 167, 155, 156, 20, 21, 195, 196, 197, 198, 199, 200, 201, 202, 203, 204, 205] (by decide +kernel) (by decide +kernel)
set_option maxRecDepth 20000 in
theorem gX11_read_X9_copyFrom : GoodIn wsX11_read (wsV RX11 117 RX9 yX9_copyFrom wsX9_copyFrom) := goodIn_app (goodIn_of _ (by decide +kernel)) ggX11_read_X9_copyFrom
theorem dX11_read_0 : decode cX11_read 0 = .ok (.aload_n 0, 1) := by decide +kernel
theorem dX11_read_1 : decode cX11_read 1 = .ok (.getfield 33, 3) := by decide +kernel
theorem dX11_read_4 : decode cX11_read 4 = .ok (.invokevirtual 105, 3) := by decide +kernel
theorem dX11_read_7 : decode cX11_read 7 = .ok (.aload_n 0, 1) := by decide +kernel
theorem dX11_read_8 : decode cX11_read 8 = .ok (.getfield 10, 3) := by decide +kernel
theorem dX11_read_11 : decode cX11_read 11 = .ok (.iconst 0, 1) := by decide +kernel
theorem dX11_read_12 : decode cX11_read 12 = .ok (.putfield 99, 3) := by decide +kernel
theorem dX11_read_15 : decode cX11_read 15 = .ok (.aload_n 0, 1) := by decide +kernel
theorem dX11_read_16 : decode cX11_read 16 = .ok (.aload_n 0, 1) := by decide +kernel
theorem dX11_read_17 : decode cX11_read 17 = .ok (.getfield 33, 3) := by decide +kernel
theorem dX11_read_20 : decode cX11_read 20 = .ok (.getfield 108, 3) := by decide +kernel
theorem dX11_read_23 : decode cX11_read 23 = .ok (.putfield 96, 3) := by decide +kernel
theorem dX11_read_26 : decode cX11_read 26 = .ok (.aload_n 0, 1) := by decide +kernel
theorem dX11_read_27 : decode cX11_read 27 = .ok (.getfield 33, 3) := by decide +kernel
theorem dX11_read_30 : decode cX11_read 30 = .ok (.getfield 111, 3) := by decide +kernel
theorem dX11_read_33 : decode cX11_read 33 = .ok (.ifCond .ne 17, 3) := by decide +kernel
theorem dX11_read_36 : decode cX11_read 36 = .ok (.aload_n 0, 1) := by decide +kernel
theorem dX11_read_37 : decode cX11_read 37 = .ok (.getfield 19, 3) := by decide +kernel
theorem dX11_read_40 : decode cX11_read 40 = .ok (.aload_n 0, 1) := by decide +kernel
theorem dX11_read_41 : decode cX11_read 41 = .ok (.getfield 33, 3) := by decide +kernel
theorem dX11_read_44 : decode cX11_read 44 = .ok (.getfield 114, 3) := by decide +kernel
theorem dX11_read_47 : decode cX11_read 47 = .ok (.invokevirtual 117, 3) := by decide +kernel
theorem dX11_read_50 : decode cX11_read 50 = .ok (.aload_n 0, 1) := by decide +kernel
theorem dX11_read_51 : decode cX11_read 51 = .ok (.getfield 33, 3) := by decide +kernel
theorem dX11_read_54 : decode cX11_read 54 = .ok (.getfield 111, 3) := by decide +kernel
theorem dX11_read_57 : decode cX11_read 57 = .ok (.ireturn, 1) := by decide +kernel
theorem dX11_place_0 : decode cX11_place 0 = .ok (.aload_n 0, 1) := by decide +kernel
theorem dX11_place_1 : decode cX11_place 1 = .ok (.getfield 96, 3) := by decide +kernel
theorem dX11_place_4 : decode cX11_place 4 = .ok (.ireturn, 1) := by decide +kernel
set_option maxRecDepth 20000 in
theorem ggX11_kin_X11_isPerson : GoodIn wsX11_kin wsX11_isPerson := goodIn_r _ [5, 6, 7, 4, 8] (by decide +kernel) (by decide +kernel)
set_option maxRecDepth 20000 in
theorem gX11_kin_X11_isPerson : GoodIn wsX11_kin (va_wsS RX11 121 yX11_isPerson wsX11_isPerson) := goodIn_app (goodIn_of _ (by decide +kernel)) ggX11_kin_X11_isPerson
set_option maxRecDepth 20000 in
theorem ggX11_kin_X2_areKin : GoodIn wsX11_kin wsX2_areKin := goodIn_r _ [13, 14, 3, 4, 5, 6, 7, 8, 31, 32, 33, 34, 35, 36, 37, 38, 39, 40, 41, 42, 43] (by decide +kernel) (by decide +kernel)
set_option maxRecDepth 20000 in
theorem gX11_kin_X2_areKin : GoodIn wsX11_kin (wsV RX11 125 RX2 yX2_areKin wsX2_areKin) := goodIn_app (goodIn_of _ (by decide +kernel)) ggX11_kin_X2_areKin
set_option maxRecDepth 20000 in
theorem ggX11_kin_X2_makeKin : GoodIn wsX11_kin wsX2_makeKin := goodIn_r _ [18, 14, 3, 4, 5, 6, 7, 8, 31, 32, 33, 34, 35, 36, 37, 38, 39, 40, 41, 42, 43] (by decide +kernel) (by decide +kernel)
set_option maxRecDepth 20000 in
theorem gX11_kin_X2_makeKin : GoodIn wsX11_kin (wsV RX11 129 RX2 yX2_makeKin wsX2_makeKin) := goodIn_app (goodIn_of _ (by decide +kernel)) ggX11_kin_X2_makeKin
theorem dX11_kin_0 : decode cX11_kin 0 = .ok (.iload_n 1, 1) := by decide +kernel
theorem dX11_kin_1 : decode cX11_kin 1 = .ok (.invokestatic 121, 3) := by decide +kernel
theorem dX11_kin_4 : decode cX11_kin 4 = .ok (.ifCond .eq 27, 3) := by decide +kernel
theorem dX11_kin_7 : decode cX11_kin 7 = .ok (.iload_n 2, 1) := by decide +kernel
theorem dX11_kin_8 : decode cX11_kin 8 = .ok (.invokestatic 121, 3) := by decide +kernel
theorem dX11_kin_11 : decode cX11_kin 11 = .ok (.ifCond .eq 20, 3) := by decide +kernel
theorem dX11_kin_14 : decode cX11_kin 14 = .ok (.iload_n 1, 1) := by decide +kernel
theorem dX11_kin_15 : decode cX11_kin 15 = .ok (.iload_n 2, 1) := by decide +kernel
theorem dX11_kin_16 : decode cX11_kin 16 = .ok (.if_icmp .eq 15, 3) := by decide +kernel
theorem dX11_kin_19 : decode cX11_kin 19 = .ok (.aload_n 0, 1) := by decide +kernel
theorem dX11_kin_20 : decode cX11_kin 20 = .ok (.getfield 40, 3) := by decide +kernel
theorem dX11_kin_23 : decode cX11_kin 23 = .ok (.iload_n 1, 1) := by decide +kernel
theorem dX11_kin_24 : decode cX11_kin 24 = .ok (.iload_n 2, 1) := by decide +kernel
theorem dX11_kin_25 : decode cX11_kin 25 = .ok (.invokevirtual 125, 3) := by decide +kernel
theorem dX11_kin_28 : decode cX11_kin 28 = .ok (.ifCond .eq 5, 3) := by decide +kernel
theorem dX11_kin_31 : decode cX11_kin 31 = .ok (.iconst 0, 1) := by decide +kernel
theorem dX11_kin_32 : decode cX11_kin 32 = .ok (.ireturn, 1) := by decide +kernel
theorem dX11_kin_33 : decode cX11_kin 33 = .ok (.aload_n 0, 1) := by decide +kernel
theorem dX11_kin_34 : decode cX11_kin 34 = .ok (.getfield 40, 3) := by decide +kernel
theorem dX11_kin_37 : decode cX11_kin 37 = .ok (.iload_n 1, 1) := by decide +kernel
theorem dX11_kin_38 : decode cX11_kin 38 = .ok (.iload_n 2, 1) := by decide +kernel
theorem dX11_kin_39 : decode cX11_kin 39 = .ok (.invokevirtual 129, 3) := by decide +kernel
theorem dX11_kin_42 : decode cX11_kin 42 = .ok (.iconst 1, 1) := by decide +kernel
theorem dX11_kin_43 : decode cX11_kin 43 = .ok (.ireturn, 1) := by decide +kernel
set_option maxRecDepth 20000 in
theorem ggX11_breed_X11_isWithin : GoodIn wsX11_breed wsX11_isWithin := goodIn_r _ [5] (by decide +kernel) (by decide +kernel)
set_option maxRecDepth 20000 in
theorem gX11_breed_X11_isWithin : GoodIn wsX11_breed (va_wsS RX11 133 yX11_isWithin wsX11_isWithin) := goodIn_app (goodIn_of _ (by decide +kernel)) ggX11_breed_X11_isWithin
set_option maxRecDepth 20000 in
theorem ggX11_breed_X2_addBreed : GoodIn wsX11_breed wsX2_addBreed := goodIn_r _ [10, 11, 12, 13, 14, 15, 28, 29, 30, 31, 32, 33, 34, 35, 36, 37, 38, 39, 40] (by decide +kernel) (by decide +kernel)
set_option maxRecDepth 20000 in
theorem gX11_breed_X2_addBreed : GoodIn wsX11_breed (wsV RX11 140 RX2 yX2_addBreed wsX2_addBreed) := goodIn_app (goodIn_of _ (by decide +kernel)) ggX11_breed_X2_addBreed
theorem dX11_breed_0 : decode cX11_breed 0 = .ok (.iload_n 1, 1) := by decide +kernel
theorem dX11_breed_1 : decode cX11_breed 1 = .ok (.iconst 0, 1) := by decide +kernel
theorem dX11_breed_2 : decode cX11_breed 2 = .ok (.iconst 2, 1) := by decide +kernel
theorem dX11_breed_3 : decode cX11_breed 3 = .ok (.invokestatic 133, 3) := by decide +kernel
theorem dX11_breed_6 : decode cX11_breed 6 = .ok (.ifCond .eq 38, 3) := by decide +kernel
theorem dX11_breed_9 : decode cX11_breed 9 = .ok (.iload_n 2, 1) := by decide +kernel
theorem dX11_breed_10 : decode cX11_breed 10 = .ok (.iconst 1, 1) := by decide +kernel
theorem dX11_breed_11 : decode cX11_breed 11 = .ok (.bipush 9, 2) := by decide +kernel
theorem dX11_breed_13 : decode cX11_breed 13 = .ok (.invokestatic 133, 3) := by decide +kernel
theorem dX11_breed_16 : decode cX11_breed 16 = .ok (.ifCond .eq 28, 3) := by decide +kernel
theorem dX11_breed_19 : decode cX11_breed 19 = .ok (.iload_n 3, 1) := by decide +kernel
theorem dX11_breed_20 : decode cX11_breed 20 = .ok (.iconst 0, 1) := by decide +kernel
theorem dX11_breed_21 : decode cX11_breed 21 = .ok (.bipush 99, 2) := by decide +kernel
theorem dX11_breed_23 : decode cX11_breed 23 = .ok (.invokestatic 133, 3) := by decide +kernel
theorem dX11_breed_26 : decode cX11_breed 26 = .ok (.ifCond .eq 18, 3) := by decide +kernel
theorem dX11_breed_29 : decode cX11_breed 29 = .ok (.iload 4, 2) := by decide +kernel
theorem dX11_breed_31 : decode cX11_breed 31 = .ok (.iload_n 3, 1) := by decide +kernel
theorem dX11_breed_32 : decode cX11_breed 32 = .ok (.bipush 99, 2) := by decide +kernel
theorem dX11_breed_34 : decode cX11_breed 34 = .ok (.invokestatic 133, 3) := by decide +kernel
theorem dX11_breed_37 : decode cX11_breed 37 = .ok (.ifCond .eq 7, 3) := by decide +kernel
theorem dX11_breed_40 : decode cX11_breed 40 = .ok (.iconst 1, 1) := by decide +kernel
theorem dX11_breed_41 : decode cX11_breed 41 = .ok (.goto 4, 3) := by decide +kernel
theorem dX11_breed_44 : decode cX11_breed 44 = .ok (.iconst 0, 1) := by decide +kernel
theorem dX11_breed_45 : decode cX11_breed 45 = .ok (.istore 5, 2) := by decide +kernel
theorem dX11_breed_47 : decode cX11_breed 47 = .ok (.iload 5, 2) := by decide +kernel
theorem dX11_breed_49 : decode cX11_breed 49 = .ok (.ifCond .eq 15, 3) := by decide +kernel
theorem dX11_breed_52 : decode cX11_breed 52 = .ok (.aload_n 0, 1) := by decide +kernel
theorem dX11_breed_53 : decode cX11_breed 53 = .ok (.getfield 40, 3) := by decide +kernel
theorem dX11_breed_56 : decode cX11_breed 56 = .ok (.getfield 137, 3) := by decide +kernel
theorem dX11_breed_59 : decode cX11_breed 59 = .ok (.bipush 6, 2) := by decide +kernel
theorem dX11_breed_61 : decode cX11_breed 61 = .ok (.if_icmp .lt 5, 3) := by decide +kernel
theorem dX11_breed_64 : decode cX11_breed 64 = .ok (.iconst (-1), 1) := by decide +kernel
theorem dX11_breed_65 : decode cX11_breed 65 = .ok (.ireturn, 1) := by decide +kernel
theorem dX11_breed_66 : decode cX11_breed 66 = .ok (.aload_n 0, 1) := by decide +kernel
theorem dX11_breed_67 : decode cX11_breed 67 = .ok (.getfield 40, 3) := by decide +kernel
theorem dX11_breed_70 : decode cX11_breed 70 = .ok (.iload_n 1, 1) := by decide +kernel
theorem dX11_breed_71 : decode cX11_breed 71 = .ok (.iload_n 2, 1) := by decide +kernel
theorem dX11_breed_72 : decode cX11_breed 72 = .ok (.iload_n 3, 1) := by decide +kernel
theorem dX11_breed_73 : decode cX11_breed 73 = .ok (.iload 4, 2) := by decide +kernel
theorem dX11_breed_75 : decode cX11_breed 75 = .ok (.invokevirtual 140, 3) := by decide +kernel
theorem dX11_breed_78 : decode cX11_breed 78 = .ok (.ireturn, 1) := by decide +kernel
set_option maxRecDepth 20000 in
theorem ggX11_dog_X11_isBreed : GoodIn wsX11_dog wsX11_isBreed := goodIn_r _ [6, 1, 7, 8, 5, 9, 27, 28, 29, 30, 31, 32, 33, 34, 35, 36, 37, 38, 39, 40, 41, 42, 43, 44, 45, 46, 47, 48, 49, 50, 51] (by decide +kernel) (by decide +kernel)
set_option maxRecDepth 20000 in
theorem gX11_dog_X11_isBreed : GoodIn wsX11_dog (wsV RX11 144 RX11 yX11_isBreed wsX11_isBreed) := goodIn_app (goodIn_of _ (by decide +kernel)) ggX11_dog_X11_isBreed
set_option maxRecDepth 20000 in
theorem ggX11_dog_X11_isDay : GoodIn wsX11_dog wsX11_isDay := goodIn_r _ [12, 7, 8, 5, 9] (by decide +kernel) (by decide +kernel)
set_option maxRecDepth 20000 in
theorem gX11_dog_X11_isDay : GoodIn wsX11_dog (va_wsS RX11 147 yX11_isDay wsX11_isDay) := goodIn_app (goodIn_of _ (by decide +kernel)) ggX11_dog_X11_isDay
set_option maxRecDepth 20000 in
theorem ggX11_dog_X11_isWithin : GoodIn wsX11_dog wsX11_isWithin := goodIn_r _ [9] (by decide +kernel) (by decide +kernel)
set_option maxRecDepth 20000 in
theorem gX11_dog_X11_isWithin : GoodIn wsX11_dog (va_wsS RX11 133 yX11_isWithin wsX11_isWithin) := goodIn_app (goodIn_of _ (by decide +kernel)) ggX11_dog_X11_isWithin
set_option maxRecDepth 20000 in
theorem ggX11_dog_X11_isPerson : GoodIn wsX11_dog wsX11_isPerson := goodIn_r _ [15, 7, 8, 5, 9] (by decide +kernel) (by decide +kernel)
set_option maxRecDepth 20000 in
theorem gX11_dog_X11_isPerson : GoodIn wsX11_dog (va_wsS RX11 121 yX11_isPerson wsX11_isPerson) := goodIn_app (goodIn_of _ (by decide +kernel)) ggX11_dog_X11_isPerson
set_option maxRecDepth 20000 in
theorem ggX11_dog_X2_addDog : GoodIn wsX11_dog wsX2_addDog := goodIn_r _ [20, 21, 22, 23, 24, 25, 26, 39, 40, 41, 42, 43, 44, 45, 46, 47, 48, 49, 50, 51] (by decide +kernel) (by decide +kernel)
set_option maxRecDepth 20000 in
theorem gX11_dog_X2_addDog : GoodIn wsX11_dog (wsV RX11 153 RX2 yX2_addDog wsX2_addDog) := goodIn_app (goodIn_of _ (by decide +kernel)) ggX11_dog_X2_addDog
theorem dX11_dog_0 : decode cX11_dog 0 = .ok (.aload_n 0, 1) := by decide +kernel
theorem dX11_dog_1 : decode cX11_dog 1 = .ok (.iload_n 1, 1) := by decide +kernel
theorem dX11_dog_2 : decode cX11_dog 2 = .ok (.invokevirtual 144, 3) := by decide +kernel
theorem dX11_dog_5 : decode cX11_dog 5 = .ok (.ifCond .eq 39, 3) := by decide +kernel
theorem dX11_dog_8 : decode cX11_dog 8 = .ok (.iload_n 2, 1) := by decide +kernel
theorem dX11_dog_9 : decode cX11_dog 9 = .ok (.invokestatic 147, 3) := by decide +kernel
theorem dX11_dog_12 : decode cX11_dog 12 = .ok (.ifCond .eq 32, 3) := by decide +kernel
theorem dX11_dog_15 : decode cX11_dog 15 = .ok (.iload_n 3, 1) := by decide +kernel
theorem dX11_dog_16 : decode cX11_dog 16 = .ok (.iconst 0, 1) := by decide +kernel
theorem dX11_dog_17 : decode cX11_dog 17 = .ok (.iconst 1, 1) := by decide +kernel
theorem dX11_dog_18 : decode cX11_dog 18 = .ok (.invokestatic 133, 3) := by decide +kernel
theorem dX11_dog_21 : decode cX11_dog 21 = .ok (.ifCond .eq 23, 3) := by decide +kernel
theorem dX11_dog_24 : decode cX11_dog 24 = .ok (.iload 4, 2) := by decide +kernel
theorem dX11_dog_26 : decode cX11_dog 26 = .ok (.invokestatic 121, 3) := by decide +kernel
theorem dX11_dog_29 : decode cX11_dog 29 = .ok (.ifCond .eq 15, 3) := by decide +kernel
theorem dX11_dog_32 : decode cX11_dog 32 = .ok (.iload 5, 2) := by decide +kernel
theorem dX11_dog_34 : decode cX11_dog 34 = .ok (.invokestatic 121, 3) := by decide +kernel
theorem dX11_dog_37 : decode cX11_dog 37 = .ok (.ifCond .eq 7, 3) := by decide +kernel
theorem dX11_dog_40 : decode cX11_dog 40 = .ok (.iconst 1, 1) := by decide +kernel
theorem dX11_dog_41 : decode cX11_dog 41 = .ok (.goto 4, 3) := by decide +kernel
theorem dX11_dog_44 : decode cX11_dog 44 = .ok (.iconst 0, 1) := by decide +kernel
theorem dX11_dog_45 : decode cX11_dog 45 = .ok (.istore 6, 2) := by decide +kernel
theorem dX11_dog_47 : decode cX11_dog 47 = .ok (.iload 6, 2) := by decide +kernel
theorem dX11_dog_49 : decode cX11_dog 49 = .ok (.ifCond .eq 15, 3) := by decide +kernel
theorem dX11_dog_52 : decode cX11_dog 52 = .ok (.aload_n 0, 1) := by decide +kernel
theorem dX11_dog_53 : decode cX11_dog 53 = .ok (.getfield 40, 3) := by decide +kernel
theorem dX11_dog_56 : decode cX11_dog 56 = .ok (.getfield 150, 3) := by decide +kernel
theorem dX11_dog_59 : decode cX11_dog 59 = .ok (.bipush 20, 2) := by decide +kernel
theorem dX11_dog_61 : decode cX11_dog 61 = .ok (.if_icmp .lt 5, 3) := by decide +kernel
theorem dX11_dog_64 : decode cX11_dog 64 = .ok (.iconst (-1), 1) := by decide +kernel
theorem dX11_dog_65 : decode cX11_dog 65 = .ok (.ireturn, 1) := by decide +kernel
theorem dX11_dog_66 : decode cX11_dog 66 = .ok (.aload_n 0, 1) := by decide +kernel
theorem dX11_dog_67 : decode cX11_dog 67 = .ok (.getfield 40, 3) := by decide +kernel
theorem dX11_dog_70 : decode cX11_dog 70 = .ok (.iload_n 1, 1) := by decide +kernel
theorem dX11_dog_71 : decode cX11_dog 71 = .ok (.iload_n 2, 1) := by decide +kernel
theorem dX11_dog_72 : decode cX11_dog 72 = .ok (.iload_n 3, 1) := by decide +kernel
theorem dX11_dog_73 : decode cX11_dog 73 = .ok (.iload 4, 2) := by decide +kernel
theorem dX11_dog_75 : decode cX11_dog 75 = .ok (.iload 5, 2) := by decide +kernel
theorem dX11_dog_77 : decode cX11_dog 77 = .ok (.invokevirtual 153, 3) := by decide +kernel
theorem dX11_dog_80 : decode cX11_dog 80 = .ok (.ireturn, 1) := by decide +kernel
set_option maxRecDepth 20000 in
theorem ggX11_permits_X11_isPerson : GoodIn wsX11_permits wsX11_isPerson := goodIn_r _ [5, 6, 7, 4, 8] (by decide +kernel) (by decide +kernel)
set_option maxRecDepth 20000 in
theorem gX11_permits_X11_isPerson : GoodIn wsX11_permits (va_wsS RX11 121 yX11_isPerson wsX11_isPerson) := goodIn_app (goodIn_of _ (by decide +kernel)) ggX11_permits_X11_isPerson
set_option maxRecDepth 20000 in
theorem ggX11_permits_X11_isWithin : GoodIn wsX11_permits wsX11_isWithin := goodIn_r _ [8] (by decide +kernel) (by decide +kernel)
set_option maxRecDepth 20000 in
theorem gX11_permits_X11_isWithin : GoodIn wsX11_permits (va_wsS RX11 133 yX11_isWithin wsX11_isWithin) := goodIn_app (goodIn_of _ (by decide +kernel)) ggX11_permits_X11_isWithin
theorem dX11_permits_0 : decode cX11_permits 0 = .ok (.iload_n 1, 1) := by decide +kernel
theorem dX11_permits_1 : decode cX11_permits 1 = .ok (.invokestatic 121, 3) := by decide +kernel
theorem dX11_permits_4 : decode cX11_permits 4 = .ok (.ifCond .eq 13, 3) := by decide +kernel
theorem dX11_permits_7 : decode cX11_permits 7 = .ok (.iload_n 2, 1) := by decide +kernel
theorem dX11_permits_8 : decode cX11_permits 8 = .ok (.iconst 0, 1) := by decide +kernel
theorem dX11_permits_9 : decode cX11_permits 9 = .ok (.bipush 63, 2) := by decide +kernel
theorem dX11_permits_11 : decode cX11_permits 11 = .ok (.invokestatic 133, 3) := by decide +kernel
theorem dX11_permits_14 : decode cX11_permits 14 = .ok (.ifCond .ne 5, 3) := by decide +kernel
theorem dX11_permits_17 : decode cX11_permits 17 = .ok (.iconst 0, 1) := by decide +kernel
theorem dX11_permits_18 : decode cX11_permits 18 = .ok (.ireturn, 1) := by decide +kernel
theorem dX11_permits_19 : decode cX11_permits 19 = .ok (.aload_n 0, 1) := by decide +kernel
theorem dX11_permits_20 : decode cX11_permits 20 = .ok (.getfield 40, 3) := by decide +kernel
theorem dX11_permits_23 : decode cX11_permits 23 = .ok (.getfield 157, 3) := by decide +kernel
theorem dX11_permits_26 : decode cX11_permits 26 = .ok (.iload_n 1, 1) := by decide +kernel
theorem dX11_permits_27 : decode cX11_permits 27 = .ok (.iload_n 2, 1) := by decide +kernel
theorem dX11_permits_28 : decode cX11_permits 28 = .ok (.iastore, 1) := by decide +kernel
theorem dX11_permits_29 : decode cX11_permits 29 = .ok (.iconst 1, 1) := by decide +kernel
theorem dX11_permits_30 : decode cX11_permits 30 = .ok (.ireturn, 1) := by decide +kernel
set_option maxRecDepth 20000 in
theorem ggX11_rings_X11_isWithin : GoodIn wsX11_rings wsX11_isWithin := goodIn_r _ [5] (by decide +kernel) (by decide +kernel)
set_option maxRecDepth 20000 in
theorem gX11_rings_X11_isWithin : GoodIn wsX11_rings (va_wsS RX11 133 yX11_isWithin wsX11_isWithin) := goodIn_app (goodIn_of _ (by decide +kernel)) ggX11_rings_X11_isWithin
theorem dX11_rings_0 : decode cX11_rings 0 = .ok (.iload_n 1, 1) := by decide +kernel
theorem dX11_rings_1 : decode cX11_rings 1 = .ok (.iconst 1, 1) := by decide +kernel
theorem dX11_rings_2 : decode cX11_rings 2 = .ok (.iconst 3, 1) := by decide +kernel
theorem dX11_rings_3 : decode cX11_rings 3 = .ok (.invokestatic 133, 3) := by decide +kernel
theorem dX11_rings_6 : decode cX11_rings 6 = .ok (.ifCond .ne 5, 3) := by decide +kernel
theorem dX11_rings_9 : decode cX11_rings 9 = .ok (.iconst 0, 1) := by decide +kernel
theorem dX11_rings_10 : decode cX11_rings 10 = .ok (.ireturn, 1) := by decide +kernel
theorem dX11_rings_11 : decode cX11_rings 11 = .ok (.aload_n 0, 1) := by decide +kernel
theorem dX11_rings_12 : decode cX11_rings 12 = .ok (.iload_n 1, 1) := by decide +kernel
theorem dX11_rings_13 : decode cX11_rings 13 = .ok (.putfield 93, 3) := by decide +kernel
theorem dX11_rings_16 : decode cX11_rings 16 = .ok (.iconst 1, 1) := by decide +kernel
theorem dX11_rings_17 : decode cX11_rings 17 = .ok (.ireturn, 1) := by decide +kernel
set_option maxRecDepth 20000 in
theorem ggX11_show_X11_isDay : GoodIn wsX11_show wsX11_isDay := goodIn_r _ [6, 7, 8, 5, 9] (by decide +kernel) (by decide +kernel)
set_option maxRecDepth 20000 in
theorem gX11_show_X11_isDay : GoodIn wsX11_show (va_wsS RX11 147 yX11_isDay wsX11_isDay) := goodIn_app (goodIn_of _ (by decide +kernel)) ggX11_show_X11_isDay
theorem dX11_show_0 : decode cX11_show 0 = .ok (.aload_n 0, 1) := by decide +kernel
theorem dX11_show_1 : decode cX11_show 1 = .ok (.getfield 89, 3) := by decide +kernel
theorem dX11_show_4 : decode cX11_show 4 = .ok (.iconst 5, 1) := by decide +kernel
theorem dX11_show_5 : decode cX11_show 5 = .ok (.if_icmp .ge 10, 3) := by decide +kernel
theorem dX11_show_8 : decode cX11_show 8 = .ok (.iload_n 1, 1) := by decide +kernel
theorem dX11_show_9 : decode cX11_show 9 = .ok (.invokestatic 147, 3) := by decide +kernel
theorem dX11_show_12 : decode cX11_show 12 = .ok (.ifCond .ne 5, 3) := by decide +kernel
theorem dX11_show_15 : decode cX11_show 15 = .ok (.iconst (-1), 1) := by decide +kernel
theorem dX11_show_16 : decode cX11_show 16 = .ok (.ireturn, 1) := by decide +kernel
theorem dX11_show_17 : decode cX11_show 17 = .ok (.aload_n 0, 1) := by decide +kernel
theorem dX11_show_18 : decode cX11_show 18 = .ok (.getfield 89, 3) := by decide +kernel
theorem dX11_show_21 : decode cX11_show 21 = .ok (.ifCond .le 23, 3) := by decide +kernel
theorem dX11_show_24 : decode cX11_show 24 = .ok (.iload_n 1, 1) := by decide +kernel
theorem dX11_show_25 : decode cX11_show 25 = .ok (.aload_n 0, 1) := by decide +kernel
theorem dX11_show_26 : decode cX11_show 26 = .ok (.getfield 82, 3) := by decide +kernel
theorem dX11_show_29 : decode cX11_show 29 = .ok (.aload_n 0, 1) := by decide +kernel
theorem dX11_show_30 : decode cX11_show 30 = .ok (.getfield 89, 3) := by decide +kernel
theorem dX11_show_33 : decode cX11_show 33 = .ok (.iconst 1, 1) := by decide +kernel
theorem dX11_show_34 : decode cX11_show 34 = .ok (.isub, 1) := by decide +kernel
theorem dX11_show_35 : decode cX11_show 35 = .ok (.aaload, 1) := by decide +kernel
theorem dX11_show_36 : decode cX11_show 36 = .ok (.getfield 161, 3) := by decide +kernel
theorem dX11_show_39 : decode cX11_show 39 = .ok (.if_icmp .gt 5, 3) := by decide +kernel
theorem dX11_show_42 : decode cX11_show 42 = .ok (.iconst (-1), 1) := by decide +kernel
theorem dX11_show_43 : decode cX11_show 43 = .ok (.ireturn, 1) := by decide +kernel
theorem dX11_show_44 : decode cX11_show 44 = .ok (.aload_n 0, 1) := by decide +kernel
theorem dX11_show_45 : decode cX11_show 45 = .ok (.getfield 82, 3) := by decide +kernel
theorem dX11_show_48 : decode cX11_show 48 = .ok (.aload_n 0, 1) := by decide +kernel
theorem dX11_show_49 : decode cX11_show 49 = .ok (.getfield 89, 3) := by decide +kernel
theorem dX11_show_52 : decode cX11_show 52 = .ok (.aaload, 1) := by decide +kernel
theorem dX11_show_53 : decode cX11_show 53 = .ok (.iload_n 1, 1) := by decide +kernel
theorem dX11_show_54 : decode cX11_show 54 = .ok (.putfield 161, 3) := by decide +kernel
theorem dX11_show_57 : decode cX11_show 57 = .ok (.aload_n 0, 1) := by decide +kernel
theorem dX11_show_58 : decode cX11_show 58 = .ok (.dup, 1) := by decide +kernel
theorem dX11_show_59 : decode cX11_show 59 = .ok (.getfield 89, 3) := by decide +kernel
theorem dX11_show_62 : decode cX11_show 62 = .ok (.iconst 1, 1) := by decide +kernel
theorem dX11_show_63 : decode cX11_show 63 = .ok (.iadd, 1) := by decide +kernel
theorem dX11_show_64 : decode cX11_show 64 = .ok (.putfield 89, 3) := by decide +kernel
theorem dX11_show_67 : decode cX11_show 67 = .ok (.aload_n 0, 1) := by decide +kernel
theorem dX11_show_68 : decode cX11_show 68 = .ok (.getfield 89, 3) := by decide +kernel
theorem dX11_show_71 : decode cX11_show 71 = .ok (.iconst 1, 1) := by decide +kernel
theorem dX11_show_72 : decode cX11_show 72 = .ok (.isub, 1) := by decide +kernel
theorem dX11_show_73 : decode cX11_show 73 = .ok (.ireturn, 1) := by decide +kernel
set_option maxRecDepth 20000 in
theorem ggX11_enter_X11_isShow : GoodIn wsX11_enter wsX11_isShow := goodIn_r _ [8, 9, 10, 11, 7, 12, 66, 67, 68, 69, 70, 71, 72, 73, 74, 75, 76, 77] (by decide +kernel) (by decide +kernel)
set_option maxRecDepth 20000 in
theorem gX11_enter_X11_isShow : GoodIn wsX11_enter (wsV RX11 164 RX11 yX11_isShow wsX11_isShow) := goodIn_app (goodIn_of _ (by decide +kernel)) ggX11_enter_X11_isShow
set_option maxRecDepth 20000 in
theorem ggX11_enter_X11_isDog : GoodIn wsX11_enter wsX11_isDog := goodIn_r _ [16, 3, 10, 11, 7, 12, 66, 67, 68, 69, 70, 71, 72, 73, 74, 75, 76, 77, 82, 83, 84, 85, 86, 87, 88, 89, 90, 91, 92, 93, 94] (by decide +kernel) (by decide +kernel)
set_option maxRecDepth 20000 in
theorem gX11_enter_X11_isDog : GoodIn wsX11_enter (wsV RX11 167 RX11 yX11_isDog wsX11_isDog) := goodIn_app (goodIn_of _ (by decide +kernel)) ggX11_enter_X11_isDog
set_option maxRecDepth 20000 in
theorem ggX11_enter_X7_hasEntry : GoodIn wsX11_enter wsX7_hasEntry := goodIn_r _ [21, 22, 11, 7, 12, 78, 79, 80, 81] (by decide +kernel) (by decide +kernel)
set_option maxRecDepth 20000 in
theorem gX11_enter_X7_hasEntry : GoodIn wsX11_enter (wsV RX11 170 RX7 yX7_hasEntry wsX7_hasEntry) := goodIn_app (goodIn_of _ (by decide +kernel)) ggX11_enter_X7_hasEntry
set_option maxRecDepth 20000 in
theorem ggX11_enter_X0_classOf : GoodIn wsX11_enter wsX0_classOf := goodIn_r _ [27, 28, 29, 30, 31, 32, 33, 34, 11, 7, 12, 35, 36, 37, 38, 39, 40, 41, 42, 43, 44, 45, 46, 47, 48, 49, 50, 51, 95, 96, 97, 98, 82, 83, 84, 85, 86, 87, 88, 89, 90, 91, 92, 93, 94, 78, 79, 80, 81, 99, 100, 101, 102, 103, 104, 105, 106, 107, 108, 109] (by decide +kernel) (by decide +kernel)
set_option maxRecDepth 20000 in
theorem gX11_enter_X0_classOf : GoodIn wsX11_enter (wsV RX11 173 RX0 yX0_classOf wsX0_classOf) := goodIn_app (goodIn_of _ (by decide +kernel)) ggX11_enter_X0_classOf
set_option maxRecDepth 20000 in
theorem ggX11_enter_X10_has : GoodIn wsX11_enter wsX10_has := goodIn_r _ [56, 57, 58, 59, 55, 60, 61, 11, 7, 12, 110] (by decide +kernel) (by decide +kernel)
set_option maxRecDepth 20000 in
theorem gX11_enter_X10_has : GoodIn wsX11_enter (wsV RX11 184 RX10 yX10_has wsX10_has) := goodIn_app (goodIn_of _ (by decide +kernel)) ggX11_enter_X10_has
set_option maxRecDepth 20000 in
theorem ggX11_enter_X7_addEntry : GoodIn wsX11_enter wsX7_addEntry := goodIn_r _ [65, 22, 11, 7, 12, 78, 79, 80, 81] (by decide +kernel) (by decide +kernel)
set_option maxRecDepth 20000 in
theorem gX11_enter_X7_addEntry : GoodIn wsX11_enter (wsV RX11 189 RX7 yX7_addEntry wsX7_addEntry) := goodIn_app (goodIn_of _ (by decide +kernel)) ggX11_enter_X7_addEntry
theorem dX11_enter_0 : decode cX11_enter 0 = .ok (.aload_n 0, 1) := by decide +kernel
theorem dX11_enter_1 : decode cX11_enter 1 = .ok (.iload_n 1, 1) := by decide +kernel
theorem dX11_enter_2 : decode cX11_enter 2 = .ok (.invokevirtual 164, 3) := by decide +kernel
theorem dX11_enter_5 : decode cX11_enter 5 = .ok (.ifCond .eq 24, 3) := by decide +kernel
theorem dX11_enter_8 : decode cX11_enter 8 = .ok (.aload_n 0, 1) := by decide +kernel
theorem dX11_enter_9 : decode cX11_enter 9 = .ok (.iload_n 2, 1) := by decide +kernel
theorem dX11_enter_10 : decode cX11_enter 10 = .ok (.invokevirtual 167, 3) := by decide +kernel
theorem dX11_enter_13 : decode cX11_enter 13 = .ok (.ifCond .eq 16, 3) := by decide +kernel
theorem dX11_enter_16 : decode cX11_enter 16 = .ok (.aload_n 0, 1) := by decide +kernel
theorem dX11_enter_17 : decode cX11_enter 17 = .ok (.getfield 82, 3) := by decide +kernel
theorem dX11_enter_20 : decode cX11_enter 20 = .ok (.iload_n 1, 1) := by decide +kernel
theorem dX11_enter_21 : decode cX11_enter 21 = .ok (.aaload, 1) := by decide +kernel
theorem dX11_enter_22 : decode cX11_enter 22 = .ok (.iload_n 2, 1) := by decide +kernel
theorem dX11_enter_23 : decode cX11_enter 23 = .ok (.invokevirtual 170, 3) := by decide +kernel
theorem dX11_enter_26 : decode cX11_enter 26 = .ok (.ifCond .eq 5, 3) := by decide +kernel
theorem dX11_enter_29 : decode cX11_enter 29 = .ok (.iconst (-1), 1) := by decide +kernel
theorem dX11_enter_30 : decode cX11_enter 30 = .ok (.ireturn, 1) := by decide +kernel
theorem dX11_enter_31 : decode cX11_enter 31 = .ok (.aload_n 0, 1) := by decide +kernel
theorem dX11_enter_32 : decode cX11_enter 32 = .ok (.getfield 58, 3) := by decide +kernel
theorem dX11_enter_35 : decode cX11_enter 35 = .ok (.aload_n 0, 1) := by decide +kernel
theorem dX11_enter_36 : decode cX11_enter 36 = .ok (.getfield 82, 3) := by decide +kernel
theorem dX11_enter_39 : decode cX11_enter 39 = .ok (.iload_n 1, 1) := by decide +kernel
theorem dX11_enter_40 : decode cX11_enter 40 = .ok (.aaload, 1) := by decide +kernel
theorem dX11_enter_41 : decode cX11_enter 41 = .ok (.iload_n 2, 1) := by decide +kernel
theorem dX11_enter_42 : decode cX11_enter 42 = .ok (.invokevirtual 173, 3) := by decide +kernel
theorem dX11_enter_45 : decode cX11_enter 45 = .ok (.istore_n 3, 1) := by decide +kernel
theorem dX11_enter_46 : decode cX11_enter 46 = .ok (.iload_n 3, 1) := by decide +kernel
theorem dX11_enter_47 : decode cX11_enter 47 = .ok (.iconst (-1), 1) := by decide +kernel
theorem dX11_enter_48 : decode cX11_enter 48 = .ok (.if_icmp .ne 6, 3) := by decide +kernel
theorem dX11_enter_51 : decode cX11_enter 51 = .ok (.bipush (-2), 2) := by decide +kernel
theorem dX11_enter_53 : decode cX11_enter 53 = .ok (.ireturn, 1) := by decide +kernel
theorem dX11_enter_54 : decode cX11_enter 54 = .ok (.aload_n 0, 1) := by decide +kernel
theorem dX11_enter_55 : decode cX11_enter 55 = .ok (.getfield 82, 3) := by decide +kernel
theorem dX11_enter_58 : decode cX11_enter 58 = .ok (.iload_n 1, 1) := by decide +kernel
theorem dX11_enter_59 : decode cX11_enter 59 = .ok (.aaload, 1) := by decide +kernel
theorem dX11_enter_60 : decode cX11_enter 60 = .ok (.getfield 177, 3) := by decide +kernel
theorem dX11_enter_63 : decode cX11_enter 63 = .ok (.aload_n 0, 1) := by decide +kernel
theorem dX11_enter_64 : decode cX11_enter 64 = .ok (.getfield 40, 3) := by decide +kernel
theorem dX11_enter_67 : decode cX11_enter 67 = .ok (.getfield 181, 3) := by decide +kernel
theorem dX11_enter_70 : decode cX11_enter 70 = .ok (.iload_n 2, 1) := by decide +kernel
theorem dX11_enter_71 : decode cX11_enter 71 = .ok (.iaload, 1) := by decide +kernel
theorem dX11_enter_72 : decode cX11_enter 72 = .ok (.invokevirtual 184, 3) := by decide +kernel
theorem dX11_enter_75 : decode cX11_enter 75 = .ok (.ifCond .eq 6, 3) := by decide +kernel
theorem dX11_enter_78 : decode cX11_enter 78 = .ok (.bipush (-3), 2) := by decide +kernel
theorem dX11_enter_80 : decode cX11_enter 80 = .ok (.ireturn, 1) := by decide +kernel
theorem dX11_enter_81 : decode cX11_enter 81 = .ok (.aload_n 0, 1) := by decide +kernel
theorem dX11_enter_82 : decode cX11_enter 82 = .ok (.getfield 82, 3) := by decide +kernel
theorem dX11_enter_85 : decode cX11_enter 85 = .ok (.iload_n 1, 1) := by decide +kernel
theorem dX11_enter_86 : decode cX11_enter 86 = .ok (.aaload, 1) := by decide +kernel
theorem dX11_enter_87 : decode cX11_enter 87 = .ok (.iload_n 2, 1) := by decide +kernel
theorem dX11_enter_88 : decode cX11_enter 88 = .ok (.invokevirtual 189, 3) := by decide +kernel
theorem dX11_enter_91 : decode cX11_enter 91 = .ok (.iload_n 3, 1) := by decide +kernel
theorem dX11_enter_92 : decode cX11_enter 92 = .ok (.ireturn, 1) := by decide +kernel
set_option maxRecDepth 20000 in
theorem ggX11_fact_X11_isShow : GoodIn wsX11_fact wsX11_isShow := goodIn_r _ [6, 7, 8, 9, 5, 10, 30, 31, 32, 33, 34, 35, 36, 37, 38, 39, 40, 41] (by decide +kernel) (by decide +kernel)
set_option maxRecDepth 20000 in
theorem gX11_fact_X11_isShow : GoodIn wsX11_fact (wsV RX11 164 RX11 yX11_isShow wsX11_isShow) := goodIn_app (goodIn_of _ (by decide +kernel)) ggX11_fact_X11_isShow
set_option maxRecDepth 20000 in
theorem ggX11_fact_X11_isDog : GoodIn wsX11_fact wsX11_isDog := goodIn_r _ [14, 15, 8, 9, 5, 10, 30, 31, 32, 33, 34, 35, 36, 37, 38, 39, 40, 41, 49, 50, 51, 52, 53, 54, 55, 56, 57, 58, 59, 60, 61] (by decide +kernel) (by decide +kernel)
set_option maxRecDepth 20000 in
theorem gX11_fact_X11_isDog : GoodIn wsX11_fact (wsV RX11 167 RX11 yX11_isDog wsX11_isDog) := goodIn_app (goodIn_of _ (by decide +kernel)) ggX11_fact_X11_isDog
set_option maxRecDepth 20000 in
theorem ggX11_fact_X11_isFactValue : GoodIn wsX11_fact wsX11_isFactValue := goodIn_r _ [18, 8, 9, 5, 10] (by decide +kernel) (by decide +kernel)
set_option maxRecDepth 20000 in
theorem gX11_fact_X11_isFactValue : GoodIn wsX11_fact (va_wsS RX11 192 yX11_isFactValue wsX11_isFactValue) := goodIn_app (goodIn_of _ (by decide +kernel)) ggX11_fact_X11_isFactValue
set_option maxRecDepth 20000 in
theorem ggX11_fact_X1_add : GoodIn wsX11_fact wsX1_add := goodIn_r _ [23, 24, 25, 26, 27, 28, 29, 42, 43, 44, 45, 46, 47, 48] (by decide +kernel) (by decide +kernel)
set_option maxRecDepth 20000 in
theorem gX11_fact_X1_add : GoodIn wsX11_fact (wsV RX11 198 RX1 yX1_add wsX1_add) := goodIn_app (goodIn_of _ (by decide +kernel)) ggX11_fact_X1_add
theorem dX11_fact_0 : decode cX11_fact 0 = .ok (.aload_n 0, 1) := by decide +kernel
theorem dX11_fact_1 : decode cX11_fact 1 = .ok (.iload_n 2, 1) := by decide +kernel
theorem dX11_fact_2 : decode cX11_fact 2 = .ok (.invokevirtual 164, 3) := by decide +kernel
theorem dX11_fact_5 : decode cX11_fact 5 = .ok (.ifCond .eq 33, 3) := by decide +kernel
theorem dX11_fact_8 : decode cX11_fact 8 = .ok (.aload_n 0, 1) := by decide +kernel
theorem dX11_fact_9 : decode cX11_fact 9 = .ok (.iload_n 3, 1) := by decide +kernel
theorem dX11_fact_10 : decode cX11_fact 10 = .ok (.invokevirtual 167, 3) := by decide +kernel
theorem dX11_fact_13 : decode cX11_fact 13 = .ok (.ifCond .eq 25, 3) := by decide +kernel
theorem dX11_fact_16 : decode cX11_fact 16 = .ok (.iload_n 1, 1) := by decide +kernel
theorem dX11_fact_17 : decode cX11_fact 17 = .ok (.iload 4, 2) := by decide +kernel
theorem dX11_fact_19 : decode cX11_fact 19 = .ok (.invokestatic 192, 3) := by decide +kernel
theorem dX11_fact_22 : decode cX11_fact 22 = .ok (.ifCond .eq 16, 3) := by decide +kernel
theorem dX11_fact_25 : decode cX11_fact 25 = .ok (.aload_n 0, 1) := by decide +kernel
theorem dX11_fact_26 : decode cX11_fact 26 = .ok (.getfield 49, 3) := by decide +kernel
theorem dX11_fact_29 : decode cX11_fact 29 = .ok (.getfield 195, 3) := by decide +kernel
theorem dX11_fact_32 : decode cX11_fact 32 = .ok (.sipush 200, 3) := by decide +kernel
theorem dX11_fact_35 : decode cX11_fact 35 = .ok (.if_icmp .lt 5, 3) := by decide +kernel
theorem dX11_fact_38 : decode cX11_fact 38 = .ok (.iconst (-1), 1) := by decide +kernel
theorem dX11_fact_39 : decode cX11_fact 39 = .ok (.ireturn, 1) := by decide +kernel
theorem dX11_fact_40 : decode cX11_fact 40 = .ok (.aload_n 0, 1) := by decide +kernel
theorem dX11_fact_41 : decode cX11_fact 41 = .ok (.getfield 49, 3) := by decide +kernel
theorem dX11_fact_44 : decode cX11_fact 44 = .ok (.iload_n 1, 1) := by decide +kernel
theorem dX11_fact_45 : decode cX11_fact 45 = .ok (.iload_n 2, 1) := by decide +kernel
theorem dX11_fact_46 : decode cX11_fact 46 = .ok (.iload_n 3, 1) := by decide +kernel
theorem dX11_fact_47 : decode cX11_fact 47 = .ok (.iload 4, 2) := by decide +kernel
theorem dX11_fact_49 : decode cX11_fact 49 = .ok (.iconst (-1), 1) := by decide +kernel
theorem dX11_fact_50 : decode cX11_fact 50 = .ok (.invokevirtual 198, 3) := by decide +kernel
theorem dX11_fact_53 : decode cX11_fact 53 = .ok (.ireturn, 1) := by decide +kernel
set_option maxRecDepth 20000 in
theorem ggX11_owned_X11_isDog : GoodIn wsX11_owned wsX11_isDog := goodIn_r _ [6, 7, 8, 9, 5, 10, 28, 29, 30, 31, 32, 33, 34, 35, 36, 37, 38, 39, 47, 48, 49, 50, 51, 52, 53, 54, 55, 56, 57, 58, 59] (by decide +kernel) (by decide +kernel)
set_option maxRecDepth 20000 in
theorem gX11_owned_X11_isDog : GoodIn wsX11_owned (wsV RX11 167 RX11 yX11_isDog wsX11_isDog) := goodIn_app (goodIn_of _ (by decide +kernel)) ggX11_owned_X11_isDog
set_option maxRecDepth 20000 in
theorem ggX11_owned_X11_isPerson : GoodIn wsX11_owned wsX11_isPerson := goodIn_r _ [13, 8, 9, 5, 10] (by decide +kernel) (by decide +kernel)
set_option maxRecDepth 20000 in
theorem gX11_owned_X11_isPerson : GoodIn wsX11_owned (va_wsS RX11 121 yX11_isPerson wsX11_isPerson) := goodIn_app (goodIn_of _ (by decide +kernel)) ggX11_owned_X11_isPerson
set_option maxRecDepth 20000 in
theorem ggX11_owned_X11_isDay : GoodIn wsX11_owned wsX11_isDay := goodIn_r _ [16, 8, 9, 5, 10] (by decide +kernel) (by decide +kernel)
set_option maxRecDepth 20000 in
theorem gX11_owned_X11_isDay : GoodIn wsX11_owned (va_wsS RX11 147 yX11_isDay wsX11_isDay) := goodIn_app (goodIn_of _ (by decide +kernel)) ggX11_owned_X11_isDay
set_option maxRecDepth 20000 in
theorem ggX11_owned_X1_add : GoodIn wsX11_owned wsX1_add := goodIn_r _ [21, 22, 23, 24, 25, 26, 27, 40, 41, 42, 43, 44, 45, 46] (by decide +kernel) (by decide +kernel)
set_option maxRecDepth 20000 in
theorem gX11_owned_X1_add : GoodIn wsX11_owned (wsV RX11 198 RX1 yX1_add wsX1_add) := goodIn_app (goodIn_of _ (by decide +kernel)) ggX11_owned_X1_add
theorem dX11_owned_0 : decode cX11_owned 0 = .ok (.aload_n 0, 1) := by decide +kernel
theorem dX11_owned_1 : decode cX11_owned 1 = .ok (.iload_n 1, 1) := by decide +kernel
theorem dX11_owned_2 : decode cX11_owned 2 = .ok (.invokevirtual 167, 3) := by decide +kernel
theorem dX11_owned_5 : decode cX11_owned 5 = .ok (.ifCond .eq 30, 3) := by decide +kernel
theorem dX11_owned_8 : decode cX11_owned 8 = .ok (.iload_n 2, 1) := by decide +kernel
theorem dX11_owned_9 : decode cX11_owned 9 = .ok (.invokestatic 121, 3) := by decide +kernel
theorem dX11_owned_12 : decode cX11_owned 12 = .ok (.ifCond .eq 23, 3) := by decide +kernel
theorem dX11_owned_15 : decode cX11_owned 15 = .ok (.iload_n 3, 1) := by decide +kernel
theorem dX11_owned_16 : decode cX11_owned 16 = .ok (.invokestatic 147, 3) := by decide +kernel
theorem dX11_owned_19 : decode cX11_owned 19 = .ok (.ifCond .eq 16, 3) := by decide +kernel
theorem dX11_owned_22 : decode cX11_owned 22 = .ok (.aload_n 0, 1) := by decide +kernel
theorem dX11_owned_23 : decode cX11_owned 23 = .ok (.getfield 49, 3) := by decide +kernel
theorem dX11_owned_26 : decode cX11_owned 26 = .ok (.getfield 195, 3) := by decide +kernel
theorem dX11_owned_29 : decode cX11_owned 29 = .ok (.sipush 200, 3) := by decide +kernel
theorem dX11_owned_32 : decode cX11_owned 32 = .ok (.if_icmp .lt 5, 3) := by decide +kernel
theorem dX11_owned_35 : decode cX11_owned 35 = .ok (.iconst (-1), 1) := by decide +kernel
theorem dX11_owned_36 : decode cX11_owned 36 = .ok (.ireturn, 1) := by decide +kernel
theorem dX11_owned_37 : decode cX11_owned 37 = .ok (.aload_n 0, 1) := by decide +kernel
theorem dX11_owned_38 : decode cX11_owned 38 = .ok (.getfield 49, 3) := by decide +kernel
theorem dX11_owned_41 : decode cX11_owned 41 = .ok (.iconst 4, 1) := by decide +kernel
theorem dX11_owned_42 : decode cX11_owned 42 = .ok (.iconst (-1), 1) := by decide +kernel
theorem dX11_owned_43 : decode cX11_owned 43 = .ok (.iload_n 1, 1) := by decide +kernel
theorem dX11_owned_44 : decode cX11_owned 44 = .ok (.iload_n 2, 1) := by decide +kernel
theorem dX11_owned_45 : decode cX11_owned 45 = .ok (.iload_n 3, 1) := by decide +kernel
theorem dX11_owned_46 : decode cX11_owned 46 = .ok (.invokevirtual 198, 3) := by decide +kernel
theorem dX11_owned_49 : decode cX11_owned 49 = .ok (.ireturn, 1) := by decide +kernel
set_option maxRecDepth 20000 in
theorem ggX11_plan_X11_isShow : GoodIn wsX11_plan wsX11_isShow := goodIn_r _ [8, 9, 10, 11, 7, 12, 174, 175, 176, 177, 178, 179, 180, 181, 182, 183, 184, 185] (by decide +kernel) (by decide +kernel)
set_option maxRecDepth 20000 in
theorem gX11_plan_X11_isShow : GoodIn wsX11_plan (wsV RX11 164 RX11 yX11_isShow wsX11_isShow) := goodIn_app (goodIn_of _ (by decide +kernel)) ggX11_plan_X11_isShow
set_option maxRecDepth 20000 in
theorem ggX11_plan_X11_isKnown : GoodIn wsX11_plan wsX11_isKnown := goodIn_r _ [16, 17, 10, 11, 7, 12, 174, 175, 176, 177, 178, 179, 180, 181, 182, 183, 184, 185, 200, 201, 202, 203, 204, 205, 206] (by decide +kernel) (by decide +kernel)
set_option maxRecDepth 20000 in
theorem gX11_plan_X11_isKnown : GoodIn wsX11_plan (wsV RX11 201 RX11 yX11_isKnown wsX11_isKnown) := goodIn_app (goodIn_of _ (by decide +kernel)) ggX11_plan_X11_isKnown
set_option maxRecDepth 20000 in
theorem ggX11_plan_X4_search : GoodIn wsX11_plan wsX4_search := goodIn_r _ [22, 23, 24, 25, 26, 27, 28, 29, 30, 31, 32, 33, 34, 35, 36, 37, 38, 39, 40, 41, 42, 43, 44, 45, 46, 47, 48, 49, 50, 51, 52, 53, 21, 54, 55, 56, 57, 58, 59, 60, 61, 62, 63, 64, 65, 66, 67, 68, 69, 70, 71, 72, 11, 7, 12, 73, 74, 75, 76, 77, 78, 79, 80, 81, 82, 83, 84, 85, 86, 87, 88, 89, 90, 91, 92, 93, 94, 95, 96, 97, 98, 99, 100, 101, 102, 103, 104, 105, 106, 107, 108, 109, 110, 111, 112, 113, 114, 115, 10, 116, 117, 118, 119, 120, 121, 122, 123, 124, 125, 126, 127, 128, 129, 130, 131, 132, 133, 134, 135, 136, 137, 138, 139, 140, 141, 142, 143, 144, 145, 146, 147, 148, 149, 150, 151, 152, 153, 154, 155, 156, 157, 158, 159, 160, 161, 162, 163, 164, 165, 166, 167, 168, 169, 170, 171, 172, 190, 191, 192, 193, 194, 195, 196, 197, 198, 199, 207, 208, 209, 210, 211, 212, 213, 214, 215, 216, 217, 218, 219, 186, 187, 188, 189, 220, 221, 222, 223, 224, 225, 226, 227, 228, 229, 230, 231, 232, 233, 234, 200, 201, 202, 203, 204, 205, 206, 235] (by decide +kernel) (by decide +kernel)
set_option maxRecDepth 20000 in
theorem gX11_plan_X4_search : GoodIn wsX11_plan (wsV RX11 204 RX4 yX4_search wsX4_search) := goodIn_app (goodIn_of _ (by decide +kernel)) ggX11_plan_X4_search
set_option maxRecDepth 20000 in
theorem ggX11_plan_X10_copyFrom : GoodIn wsX11_plan wsX10_copyFrom := goodIn_r _ [136, 126, 137, 138, 139, 140, 235] (by decide +kernel) (by decide +kernel)
set_option maxRecDepth 20000 in
theorem gX11_plan_X10_copyFrom : GoodIn wsX11_plan (wsV RX11 211 RX10 yX10_copyFrom wsX10_copyFrom) := goodIn_app (goodIn_of _ (by decide +kernel)) ggX11_plan_X10_copyFrom
theorem dX11_plan_0 : decode cX11_plan 0 = .ok (.aload_n 0, 1) := by decide +kernel
theorem dX11_plan_1 : decode cX11_plan 1 = .ok (.iload_n 1, 1) := by decide +kernel
theorem dX11_plan_2 : decode cX11_plan 2 = .ok (.invokevirtual 164, 3) := by decide +kernel
theorem dX11_plan_5 : decode cX11_plan 5 = .ok (.ifCond .eq 11, 3) := by decide +kernel
theorem dX11_plan_8 : decode cX11_plan 8 = .ok (.aload_n 0, 1) := by decide +kernel
theorem dX11_plan_9 : decode cX11_plan 9 = .ok (.iload_n 2, 1) := by decide +kernel
theorem dX11_plan_10 : decode cX11_plan 10 = .ok (.invokevirtual 201, 3) := by decide +kernel
theorem dX11_plan_13 : decode cX11_plan 13 = .ok (.ifCond .ne 5, 3) := by decide +kernel
theorem dX11_plan_16 : decode cX11_plan 16 = .ok (.iconst (-1), 1) := by decide +kernel
theorem dX11_plan_17 : decode cX11_plan 17 = .ok (.ireturn, 1) := by decide +kernel
theorem dX11_plan_18 : decode cX11_plan 18 = .ok (.aload_n 0, 1) := by decide +kernel
theorem dX11_plan_19 : decode cX11_plan 19 = .ok (.getfield 67, 3) := by decide +kernel
theorem dX11_plan_22 : decode cX11_plan 22 = .ok (.aload_n 0, 1) := by decide +kernel
theorem dX11_plan_23 : decode cX11_plan 23 = .ok (.getfield 82, 3) := by decide +kernel
theorem dX11_plan_26 : decode cX11_plan 26 = .ok (.iload_n 1, 1) := by decide +kernel
theorem dX11_plan_27 : decode cX11_plan 27 = .ok (.aaload, 1) := by decide +kernel
theorem dX11_plan_28 : decode cX11_plan 28 = .ok (.iload_n 2, 1) := by decide +kernel
theorem dX11_plan_29 : decode cX11_plan 29 = .ok (.aload_n 0, 1) := by decide +kernel
theorem dX11_plan_30 : decode cX11_plan 30 = .ok (.getfield 93, 3) := by decide +kernel
theorem dX11_plan_33 : decode cX11_plan 33 = .ok (.invokevirtual 204, 3) := by decide +kernel
theorem dX11_plan_36 : decode cX11_plan 36 = .ok (.ifCond .ne 6, 3) := by decide +kernel
theorem dX11_plan_39 : decode cX11_plan 39 = .ok (.bipush (-2), 2) := by decide +kernel
theorem dX11_plan_41 : decode cX11_plan 41 = .ok (.ireturn, 1) := by decide +kernel
theorem dX11_plan_42 : decode cX11_plan 42 = .ok (.aload_n 0, 1) := by decide +kernel
theorem dX11_plan_43 : decode cX11_plan 43 = .ok (.getfield 82, 3) := by decide +kernel
theorem dX11_plan_46 : decode cX11_plan 46 = .ok (.iload_n 1, 1) := by decide +kernel
theorem dX11_plan_47 : decode cX11_plan 47 = .ok (.aaload, 1) := by decide +kernel
theorem dX11_plan_48 : decode cX11_plan 48 = .ok (.getfield 177, 3) := by decide +kernel
theorem dX11_plan_51 : decode cX11_plan 51 = .ok (.aload_n 0, 1) := by decide +kernel
theorem dX11_plan_52 : decode cX11_plan 52 = .ok (.getfield 67, 3) := by decide +kernel
theorem dX11_plan_55 : decode cX11_plan 55 = .ok (.getfield 208, 3) := by decide +kernel
theorem dX11_plan_58 : decode cX11_plan 58 = .ok (.invokevirtual 211, 3) := by decide +kernel
theorem dX11_plan_61 : decode cX11_plan 61 = .ok (.aload_n 0, 1) := by decide +kernel
theorem dX11_plan_62 : decode cX11_plan 62 = .ok (.getfield 67, 3) := by decide +kernel
theorem dX11_plan_65 : decode cX11_plan 65 = .ok (.getfield 214, 3) := by decide +kernel
theorem dX11_plan_68 : decode cX11_plan 68 = .ok (.ireturn, 1) := by decide +kernel
set_option maxRecDepth 20000 in
theorem ggX11_planned_X11_isShow : GoodIn wsX11_planned wsX11_isShow := goodIn_r _ [6, 7, 8, 9, 5, 10, 22, 23, 24, 25, 26, 27, 28, 29, 30, 31, 32, 33] (by decide +kernel) (by decide +kernel)
set_option maxRecDepth 20000 in
theorem gX11_planned_X11_isShow : GoodIn wsX11_planned (wsV RX11 164 RX11 yX11_isShow wsX11_isShow) := goodIn_app (goodIn_of _ (by decide +kernel)) ggX11_planned_X11_isShow
set_option maxRecDepth 20000 in
theorem ggX11_planned_X11_isBreed : GoodIn wsX11_planned wsX11_isBreed := goodIn_r _ [14, 15, 8, 9, 5, 10, 22, 23, 24, 25, 26, 27, 28, 29, 30, 31, 32, 33, 38, 39, 40, 41, 42, 43, 44, 45, 46, 47, 48, 49, 50] (by decide +kernel) (by decide +kernel)
set_option maxRecDepth 20000 in
theorem gX11_planned_X11_isBreed : GoodIn wsX11_planned (wsV RX11 144 RX11 yX11_isBreed wsX11_isBreed) := goodIn_app (goodIn_of _ (by decide +kernel)) ggX11_planned_X11_isBreed
set_option maxRecDepth 20000 in
theorem ggX11_planned_X11_isWithin : GoodIn wsX11_planned wsX11_isWithin := goodIn_r _ [10] (by decide +kernel) (by decide +kernel)
set_option maxRecDepth 20000 in
theorem gX11_planned_X11_isWithin : GoodIn wsX11_planned (va_wsS RX11 133 yX11_isWithin wsX11_isWithin) := goodIn_app (goodIn_of _ (by decide +kernel)) ggX11_planned_X11_isWithin
set_option maxRecDepth 20000 in
theorem ggX11_planned_X10_at : GoodIn wsX11_planned wsX10_at := goodIn_r _ [20, 21, 9, 5, 10, 51] (by decide +kernel) (by decide +kernel)
set_option maxRecDepth 20000 in
theorem gX11_planned_X10_at : GoodIn wsX11_planned (wsV RX11 217 RX10 yX10_at wsX10_at) := goodIn_app (goodIn_of _ (by decide +kernel)) ggX11_planned_X10_at
theorem dX11_planned_0 : decode cX11_planned 0 = .ok (.aload_n 0, 1) := by decide +kernel
theorem dX11_planned_1 : decode cX11_planned 1 = .ok (.iload_n 1, 1) := by decide +kernel
theorem dX11_planned_2 : decode cX11_planned 2 = .ok (.invokevirtual 164, 3) := by decide +kernel
theorem dX11_planned_5 : decode cX11_planned 5 = .ok (.ifCond .eq 20, 3) := by decide +kernel
theorem dX11_planned_8 : decode cX11_planned 8 = .ok (.aload_n 0, 1) := by decide +kernel
theorem dX11_planned_9 : decode cX11_planned 9 = .ok (.iload_n 2, 1) := by decide +kernel
theorem dX11_planned_10 : decode cX11_planned 10 = .ok (.invokevirtual 144, 3) := by decide +kernel
theorem dX11_planned_13 : decode cX11_planned 13 = .ok (.ifCond .eq 12, 3) := by decide +kernel
theorem dX11_planned_16 : decode cX11_planned 16 = .ok (.iload_n 3, 1) := by decide +kernel
theorem dX11_planned_17 : decode cX11_planned 17 = .ok (.iconst 0, 1) := by decide +kernel
theorem dX11_planned_18 : decode cX11_planned 18 = .ok (.iconst 3, 1) := by decide +kernel
theorem dX11_planned_19 : decode cX11_planned 19 = .ok (.invokestatic 133, 3) := by decide +kernel
theorem dX11_planned_22 : decode cX11_planned 22 = .ok (.ifCond .ne 5, 3) := by decide +kernel
theorem dX11_planned_25 : decode cX11_planned 25 = .ok (.iconst (-1), 1) := by decide +kernel
theorem dX11_planned_26 : decode cX11_planned 26 = .ok (.ireturn, 1) := by decide +kernel
theorem dX11_planned_27 : decode cX11_planned 27 = .ok (.aload_n 0, 1) := by decide +kernel
theorem dX11_planned_28 : decode cX11_planned 28 = .ok (.getfield 82, 3) := by decide +kernel
theorem dX11_planned_31 : decode cX11_planned 31 = .ok (.iload_n 1, 1) := by decide +kernel
theorem dX11_planned_32 : decode cX11_planned 32 = .ok (.aaload, 1) := by decide +kernel
theorem dX11_planned_33 : decode cX11_planned 33 = .ok (.getfield 177, 3) := by decide +kernel
theorem dX11_planned_36 : decode cX11_planned 36 = .ok (.iload_n 2, 1) := by decide +kernel
theorem dX11_planned_37 : decode cX11_planned 37 = .ok (.iload_n 3, 1) := by decide +kernel
theorem dX11_planned_38 : decode cX11_planned 38 = .ok (.invokevirtual 217, 3) := by decide +kernel
theorem dX11_planned_41 : decode cX11_planned 41 = .ok (.ireturn, 1) := by decide +kernel
set_option maxRecDepth 20000 in
theorem ggX11_barred_X11_isPerson : GoodIn wsX11_barred wsX11_isPerson := goodIn_r _ [6, 7, 8, 5, 9] (by decide +kernel) (by decide +kernel)
set_option maxRecDepth 20000 in
theorem gX11_barred_X11_isPerson : GoodIn wsX11_barred (va_wsS RX11 121 yX11_isPerson wsX11_isPerson) := goodIn_app (goodIn_of _ (by decide +kernel)) ggX11_barred_X11_isPerson
set_option maxRecDepth 20000 in
theorem ggX11_barred_X11_isShow : GoodIn wsX11_barred wsX11_isShow := goodIn_r _ [13, 14, 7, 8, 5, 9, 89, 90, 91, 92, 93, 94, 95, 96, 97, 98, 99, 100] (by decide +kernel) (by decide +kernel)
set_option maxRecDepth 20000 in
theorem gX11_barred_X11_isShow : GoodIn wsX11_barred (wsV RX11 164 RX11 yX11_isShow wsX11_isShow) := goodIn_app (goodIn_of _ (by decide +kernel)) ggX11_barred_X11_isShow
set_option maxRecDepth 20000 in
theorem ggX11_barred_X11_isDog : GoodIn wsX11_barred wsX11_isDog := goodIn_r _ [18, 19, 7, 8, 5, 9, 89, 90, 91, 92, 93, 94, 95, 96, 97, 98, 99, 100, 101, 102, 103, 104, 105, 106, 107, 108, 109, 110, 111, 112, 113] (by decide +kernel) (by decide +kernel)
set_option maxRecDepth 20000 in
theorem gX11_barred_X11_isDog : GoodIn wsX11_barred (wsV RX11 167 RX11 yX11_isDog wsX11_isDog) := goodIn_app (goodIn_of _ (by decide +kernel)) ggX11_barred_X11_isDog
set_option maxRecDepth 20000 in
theorem ggX11_barred_X11_isKnown : GoodIn wsX11_barred wsX11_isKnown := goodIn_r _ [23, 24, 7, 8, 5, 9, 89, 90, 91, 92, 93, 94, 95, 96, 97, 98, 99, 100, 114, 115, 116, 117, 118, 119, 120] (by decide +kernel) (by decide +kernel)
set_option maxRecDepth 20000 in
theorem gX11_barred_X11_isKnown : GoodIn wsX11_barred (wsV RX11 201 RX11 yX11_isKnown wsX11_isKnown) := goodIn_app (goodIn_of _ (by decide +kernel)) ggX11_barred_X11_isKnown
set_option maxRecDepth 20000 in
theorem ggX11_barred_X0_firstBar : GoodIn wsX11_barred wsX0_firstBar := goodIn_r _ [29, 30, 31, 32, 33, 34, 35, 36, 28, 37, 38, 39, 40, 41, 8, 5, 9, 42, 43, 44, 45, 46, 47, 48, 49, 50, 51, 52, 53, 54, 55, 56, 57, 58, 59, 60, 61, 62, 63, 64, 65, 66, 67, 68, 69, 70, 71, 72, 73, 74, 75, 76, 77, 78, 79, 80, 81, 82, 83, 4, 6, 7, 84, 85, 86, 87, 88, 121, 122, 123, 124, 125, 126, 127, 128, 101, 102, 103, 104, 105, 106, 107, 108, 109, 110, 111, 112, 113, 129, 130, 131, 132, 133, 134, 135, 136, 137, 138, 139, 114, 115, 116, 117, 118, 119, 120] (by decide +kernel) (by decide +kernel)
set_option maxRecDepth 20000 in
theorem gX11_barred_X0_firstBar : GoodIn wsX11_barred (wsV RX11 221 RX0 yX0_firstBar wsX0_firstBar) := goodIn_app (goodIn_of _ (by decide +kernel)) ggX11_barred_X0_firstBar
theorem dX11_barred_0 : decode cX11_barred 0 = .ok (.iload_n 1, 1) := by decide +kernel
theorem dX11_barred_1 : decode cX11_barred 1 = .ok (.invokestatic 121, 3) := by decide +kernel
theorem dX11_barred_4 : decode cX11_barred 4 = .ok (.ifCond .eq 28, 3) := by decide +kernel
theorem dX11_barred_7 : decode cX11_barred 7 = .ok (.aload_n 0, 1) := by decide +kernel
theorem dX11_barred_8 : decode cX11_barred 8 = .ok (.iload_n 2, 1) := by decide +kernel
theorem dX11_barred_9 : decode cX11_barred 9 = .ok (.invokevirtual 164, 3) := by decide +kernel
theorem dX11_barred_12 : decode cX11_barred 12 = .ok (.ifCond .eq 20, 3) := by decide +kernel
theorem dX11_barred_15 : decode cX11_barred 15 = .ok (.aload_n 0, 1) := by decide +kernel
theorem dX11_barred_16 : decode cX11_barred 16 = .ok (.iload_n 3, 1) := by decide +kernel
theorem dX11_barred_17 : decode cX11_barred 17 = .ok (.invokevirtual 167, 3) := by decide +kernel
theorem dX11_barred_20 : decode cX11_barred 20 = .ok (.ifCond .eq 12, 3) := by decide +kernel
theorem dX11_barred_23 : decode cX11_barred 23 = .ok (.aload_n 0, 1) := by decide +kernel
theorem dX11_barred_24 : decode cX11_barred 24 = .ok (.iload 4, 2) := by decide +kernel
theorem dX11_barred_26 : decode cX11_barred 26 = .ok (.invokevirtual 201, 3) := by decide +kernel
theorem dX11_barred_29 : decode cX11_barred 29 = .ok (.ifCond .ne 5, 3) := by decide +kernel
theorem dX11_barred_32 : decode cX11_barred 32 = .ok (.iconst (-1), 1) := by decide +kernel
theorem dX11_barred_33 : decode cX11_barred 33 = .ok (.ireturn, 1) := by decide +kernel
theorem dX11_barred_34 : decode cX11_barred 34 = .ok (.aload_n 0, 1) := by decide +kernel
theorem dX11_barred_35 : decode cX11_barred 35 = .ok (.getfield 58, 3) := by decide +kernel
theorem dX11_barred_38 : decode cX11_barred 38 = .ok (.iload_n 1, 1) := by decide +kernel
theorem dX11_barred_39 : decode cX11_barred 39 = .ok (.aload_n 0, 1) := by decide +kernel
theorem dX11_barred_40 : decode cX11_barred 40 = .ok (.getfield 82, 3) := by decide +kernel
theorem dX11_barred_43 : decode cX11_barred 43 = .ok (.iload_n 2, 1) := by decide +kernel
theorem dX11_barred_44 : decode cX11_barred 44 = .ok (.aaload, 1) := by decide +kernel
theorem dX11_barred_45 : decode cX11_barred 45 = .ok (.iload_n 3, 1) := by decide +kernel
theorem dX11_barred_46 : decode cX11_barred 46 = .ok (.iload 4, 2) := by decide +kernel
theorem dX11_barred_48 : decode cX11_barred 48 = .ok (.invokevirtual 221, 3) := by decide +kernel
theorem dX11_barred_51 : decode cX11_barred 51 = .ok (.ireturn, 1) := by decide +kernel
set_option maxRecDepth 20000 in
theorem ggX11_clash_X11_isShow : GoodIn wsX11_clash wsX11_isShow := goodIn_r _ [6, 7, 8, 9, 5, 10, 52, 53, 54, 55, 56, 57, 58, 59, 60, 61, 62, 63] (by decide +kernel) (by decide +kernel)
set_option maxRecDepth 20000 in
theorem gX11_clash_X11_isShow : GoodIn wsX11_clash (wsV RX11 164 RX11 yX11_isShow wsX11_isShow) := goodIn_app (goodIn_of _ (by decide +kernel)) ggX11_clash_X11_isShow
set_option maxRecDepth 20000 in
theorem ggX11_clash_X11_isBreed : GoodIn wsX11_clash wsX11_isBreed := goodIn_r _ [14, 15, 8, 9, 5, 10, 52, 53, 54, 55, 56, 57, 58, 59, 60, 61, 62, 63, 64, 65, 66, 67, 68, 69, 70, 71, 72, 73, 74, 75, 76] (by decide +kernel) (by decide +kernel)
set_option maxRecDepth 20000 in
theorem gX11_clash_X11_isBreed : GoodIn wsX11_clash (wsV RX11 144 RX11 yX11_isBreed wsX11_isBreed) := goodIn_app (goodIn_of _ (by decide +kernel)) ggX11_clash_X11_isBreed
set_option maxRecDepth 20000 in
theorem ggX11_clash_X11_isWithin : GoodIn wsX11_clash wsX11_isWithin := goodIn_r _ [10] (by decide +kernel) (by decide +kernel)
set_option maxRecDepth 20000 in
theorem gX11_clash_X11_isWithin : GoodIn wsX11_clash (va_wsS RX11 133 yX11_isWithin wsX11_isWithin) := goodIn_app (goodIn_of _ (by decide +kernel)) ggX11_clash_X11_isWithin
set_option maxRecDepth 20000 in
theorem ggX11_clash_X11_handlersInTwoRings : GoodIn wsX11_clash wsX11_handlersInTwoRings := goodIn_r _ [19, 15, 20, 21, 22, 23, 24, 25, 26, 27, 28, 29, 9, 5, 10, 30, 31, 32, 33, 34, 35, 36, 37, 38, 39, 40, 41, 42, 43, 44, 45, 46, 77, 78, 79, 80, 52, 53, 54, 55, 56, 57, 58, 59, 60, 61, 62, 63, 64, 65, 66, 67, 68, 69, 70, 71, 72, 73, 74, 75, 76, 81] (by decide +kernel) (by decide +kernel)
set_option maxRecDepth 20000 in
theorem gX11_clash_X11_handlersInTwoRings : GoodIn wsX11_clash (wsV RX11 225 RX11 yX11_handlersInTwoRings wsX11_handlersInTwoRings) := goodIn_app (goodIn_of _ (by decide +kernel)) ggX11_clash_X11_handlersInTwoRings
set_option maxRecDepth 20000 in
theorem ggX11_clash_J6_numberOfTrailingZeros_0f7a4 : GoodIn wsX11_clash wsJ6_numberOfTrailingZeros_0f7a4 := goodIn_r _ [50, 51] (by decide +kernel) (by decide +kernel)
set_option maxRecDepth 20000 in
theorem gX11_clash_J6_numberOfTrailingZeros_0f7a4 : GoodIn wsX11_clash (va_wsS RX11 229 yJ6_numberOfTrailingZeros_0f7a4 wsJ6_numberOfTrailingZeros_0f7a4) := goodIn_app (goodIn_of _ (by decide +kernel)) ggX11_clash_J6_numberOfTrailingZeros_0f7a4
theorem dX11_clash_0 : decode cX11_clash 0 = .ok (.aload_n 0, 1) := by decide +kernel
theorem dX11_clash_1 : decode cX11_clash 1 = .ok (.iload_n 1, 1) := by decide +kernel
theorem dX11_clash_2 : decode cX11_clash 2 = .ok (.invokevirtual 164, 3) := by decide +kernel
theorem dX11_clash_5 : decode cX11_clash 5 = .ok (.ifCond .eq 22, 3) := by decide +kernel
theorem dX11_clash_8 : decode cX11_clash 8 = .ok (.aload_n 0, 1) := by decide +kernel
theorem dX11_clash_9 : decode cX11_clash 9 = .ok (.iload_n 2, 1) := by decide +kernel
theorem dX11_clash_10 : decode cX11_clash 10 = .ok (.invokevirtual 144, 3) := by decide +kernel
theorem dX11_clash_13 : decode cX11_clash 13 = .ok (.ifCond .eq 14, 3) := by decide +kernel
theorem dX11_clash_16 : decode cX11_clash 16 = .ok (.iload_n 3, 1) := by decide +kernel
theorem dX11_clash_17 : decode cX11_clash 17 = .ok (.iconst 0, 1) := by decide +kernel
theorem dX11_clash_18 : decode cX11_clash 18 = .ok (.sipush 9999, 3) := by decide +kernel
theorem dX11_clash_21 : decode cX11_clash 21 = .ok (.invokestatic 133, 3) := by decide +kernel
theorem dX11_clash_24 : decode cX11_clash 24 = .ok (.ifCond .ne 5, 3) := by decide +kernel
theorem dX11_clash_27 : decode cX11_clash 27 = .ok (.iconst (-1), 1) := by decide +kernel
theorem dX11_clash_28 : decode cX11_clash 28 = .ok (.ireturn, 1) := by decide +kernel
theorem dX11_clash_29 : decode cX11_clash 29 = .ok (.aload_n 0, 1) := by decide +kernel
theorem dX11_clash_30 : decode cX11_clash 30 = .ok (.aload_n 0, 1) := by decide +kernel
theorem dX11_clash_31 : decode cX11_clash 31 = .ok (.getfield 82, 3) := by decide +kernel
theorem dX11_clash_34 : decode cX11_clash 34 = .ok (.iload_n 1, 1) := by decide +kernel
theorem dX11_clash_35 : decode cX11_clash 35 = .ok (.aaload, 1) := by decide +kernel
theorem dX11_clash_36 : decode cX11_clash 36 = .ok (.iload_n 2, 1) := by decide +kernel
theorem dX11_clash_37 : decode cX11_clash 37 = .ok (.iload_n 3, 1) := by decide +kernel
theorem dX11_clash_38 : decode cX11_clash 38 = .ok (.invokevirtual 225, 3) := by decide +kernel
theorem dX11_clash_41 : decode cX11_clash 41 = .ok (.istore 4, 2) := by decide +kernel
theorem dX11_clash_43 : decode cX11_clash 43 = .ok (.iload 4, 2) := by decide +kernel
theorem dX11_clash_45 : decode cX11_clash 45 = .ok (.ifCond .ne 7, 3) := by decide +kernel
theorem dX11_clash_48 : decode cX11_clash 48 = .ok (.iconst (-1), 1) := by decide +kernel
theorem dX11_clash_49 : decode cX11_clash 49 = .ok (.goto 8, 3) := by decide +kernel
theorem dX11_clash_52 : decode cX11_clash 52 = .ok (.iload 4, 2) := by decide +kernel
theorem dX11_clash_54 : decode cX11_clash 54 = .ok (.invokestatic 229, 3) := by decide +kernel
theorem dX11_clash_57 : decode cX11_clash 57 = .ok (.ireturn, 1) := by decide +kernel
set_option maxRecDepth 20000 in
theorem ggX11_classed_X11_isShow : GoodIn wsX11_classed wsX11_isShow := goodIn_r _ [7, 8, 9, 10, 6, 11, 46, 47, 48, 49, 50, 51, 52, 53, 54, 55, 56, 57] (by decide +kernel) (by decide +kernel)
set_option maxRecDepth 20000 in
theorem gX11_classed_X11_isShow : GoodIn wsX11_classed (wsV RX11 164 RX11 yX11_isShow wsX11_isShow) := goodIn_app (goodIn_of _ (by decide +kernel)) ggX11_classed_X11_isShow
set_option maxRecDepth 20000 in
theorem ggX11_classed_X11_isDog : GoodIn wsX11_classed wsX11_isDog := goodIn_r _ [15, 16, 9, 10, 6, 11, 46, 47, 48, 49, 50, 51, 52, 53, 54, 55, 56, 57, 58, 59, 60, 61, 62, 63, 64, 65, 66, 67, 68, 69, 70] (by decide +kernel) (by decide +kernel)
set_option maxRecDepth 20000 in
theorem gX11_classed_X11_isDog : GoodIn wsX11_classed (wsV RX11 167 RX11 yX11_isDog wsX11_isDog) := goodIn_app (goodIn_of _ (by decide +kernel)) ggX11_classed_X11_isDog
set_option maxRecDepth 20000 in
theorem ggX11_classed_X0_classOf : GoodIn wsX11_classed wsX0_classOf := goodIn_r _ [21, 22, 23, 24, 25, 26, 27, 28, 10, 6, 11, 29, 30, 31, 32, 33, 34, 35, 36, 37, 38, 39, 40, 41, 42, 43, 44, 45, 71, 72, 73, 74, 58, 59, 60, 61, 62, 63, 64, 65, 66, 67, 68, 69, 70, 75, 76, 77, 78, 79, 80, 81, 82, 83, 84, 85, 86, 87, 88, 89] (by decide +kernel) (by decide +kernel)
set_option maxRecDepth 20000 in
theorem gX11_classed_X0_classOf : GoodIn wsX11_classed (wsV RX11 173 RX0 yX0_classOf wsX0_classOf) := goodIn_app (goodIn_of _ (by decide +kernel)) ggX11_classed_X0_classOf
theorem dX11_classed_0 : decode cX11_classed 0 = .ok (.aload_n 0, 1) := by decide +kernel
theorem dX11_classed_1 : decode cX11_classed 1 = .ok (.iload_n 1, 1) := by decide +kernel
theorem dX11_classed_2 : decode cX11_classed 2 = .ok (.invokevirtual 164, 3) := by decide +kernel
theorem dX11_classed_5 : decode cX11_classed 5 = .ok (.ifCond .eq 11, 3) := by decide +kernel
theorem dX11_classed_8 : decode cX11_classed 8 = .ok (.aload_n 0, 1) := by decide +kernel
theorem dX11_classed_9 : decode cX11_classed 9 = .ok (.iload_n 2, 1) := by decide +kernel
theorem dX11_classed_10 : decode cX11_classed 10 = .ok (.invokevirtual 167, 3) := by decide +kernel
theorem dX11_classed_13 : decode cX11_classed 13 = .ok (.ifCond .ne 6, 3) := by decide +kernel
theorem dX11_classed_16 : decode cX11_classed 16 = .ok (.bipush (-2), 2) := by decide +kernel
theorem dX11_classed_18 : decode cX11_classed 18 = .ok (.ireturn, 1) := by decide +kernel
theorem dX11_classed_19 : decode cX11_classed 19 = .ok (.aload_n 0, 1) := by decide +kernel
theorem dX11_classed_20 : decode cX11_classed 20 = .ok (.getfield 58, 3) := by decide +kernel
theorem dX11_classed_23 : decode cX11_classed 23 = .ok (.aload_n 0, 1) := by decide +kernel
theorem dX11_classed_24 : decode cX11_classed 24 = .ok (.getfield 82, 3) := by decide +kernel
theorem dX11_classed_27 : decode cX11_classed 27 = .ok (.iload_n 1, 1) := by decide +kernel
theorem dX11_classed_28 : decode cX11_classed 28 = .ok (.aaload, 1) := by decide +kernel
theorem dX11_classed_29 : decode cX11_classed 29 = .ok (.iload_n 2, 1) := by decide +kernel
theorem dX11_classed_30 : decode cX11_classed 30 = .ok (.invokevirtual 173, 3) := by decide +kernel
theorem dX11_classed_33 : decode cX11_classed 33 = .ok (.ireturn, 1) := by decide +kernel
set_option maxRecDepth 20000 in
theorem ggX11_counts_X11_isShow : GoodIn wsX11_counts wsX11_isShow := goodIn_r _ [7, 8, 9, 10, 6, 11, 138, 139, 140, 141, 142, 143, 144, 145, 146, 147, 148, 149] (by decide +kernel) (by decide +kernel)
set_option maxRecDepth 20000 in
theorem gX11_counts_X11_isShow : GoodIn wsX11_counts (wsV RX11 164 RX11 yX11_isShow wsX11_isShow) := goodIn_app (goodIn_of _ (by decide +kernel)) ggX11_counts_X11_isShow
set_option maxRecDepth 20000 in
theorem ggX11_counts_X11_isDog : GoodIn wsX11_counts wsX11_isDog := goodIn_r _ [15, 16, 9, 10, 6, 11, 138, 139, 140, 141, 142, 143, 144, 145, 146, 147, 148, 149, 150, 151, 152, 153, 154, 155, 156, 157, 158, 159, 160, 161, 162] (by decide +kernel) (by decide +kernel)
set_option maxRecDepth 20000 in
theorem gX11_counts_X11_isDog : GoodIn wsX11_counts (wsV RX11 167 RX11 yX11_isDog wsX11_isDog) := goodIn_app (goodIn_of _ (by decide +kernel)) ggX11_counts_X11_isDog
set_option maxRecDepth 20000 in
theorem ggX11_counts_X11_isKnown : GoodIn wsX11_counts wsX11_isKnown := goodIn_r _ [20, 21, 9, 10, 6, 11, 138, 139, 140, 141, 142, 143, 144, 145, 146, 147, 148, 149, 163, 164, 165, 166, 167, 168, 169] (by decide +kernel) (by decide +kernel)
set_option maxRecDepth 20000 in
theorem gX11_counts_X11_isKnown : GoodIn wsX11_counts (wsV RX11 201 RX11 yX11_isKnown wsX11_isKnown) := goodIn_app (goodIn_of _ (by decide +kernel)) ggX11_counts_X11_isKnown
set_option maxRecDepth 20000 in
theorem ggX11_counts_X5_standing : GoodIn wsX11_counts wsX5_standing := goodIn_r _ [26, 27, 28, 29, 30, 31, 32, 33, 34, 35, 10, 6, 11, 36, 37, 38, 39, 40, 41, 42, 43, 44, 45, 46, 47, 48, 49, 50, 51, 52, 53, 54, 55, 56, 57, 58, 59, 60, 61, 62, 63, 64, 65, 66, 67, 68, 69, 70, 71, 72, 73, 74, 75, 76, 77, 78, 79, 80, 81, 82, 83, 84, 85, 86, 87, 88, 89, 90, 91, 92, 93, 94, 95, 96, 97, 98, 99, 100, 101, 102, 103, 104, 105, 106, 107, 108, 109, 110, 111, 112, 113, 114, 115, 116, 117, 118, 119, 120, 121, 122, 123, 124, 125, 126, 127, 128, 129, 130, 131, 132, 9, 133, 134, 135, 136, 137, 170, 171, 172, 173, 174, 175, 176, 150, 151, 152, 153, 154, 155, 156, 157, 158, 159, 160, 161, 162, 163, 164, 165, 166, 167, 168, 169, 177, 178, 179, 180, 181, 182, 183, 184, 185, 186, 187, 188, 189, 190, 191, 192] (by decide +kernel) (by decide +kernel)
set_option maxRecDepth 20000 in
theorem gX11_counts_X5_standing : GoodIn wsX11_counts (wsV RX11 235 RX5 yX5_standing wsX5_standing) := goodIn_app (goodIn_of _ (by decide +kernel)) ggX11_counts_X5_standing
theorem dX11_counts_0 : decode cX11_counts 0 = .ok (.aload_n 0, 1) := by decide +kernel
theorem dX11_counts_1 : decode cX11_counts 1 = .ok (.iload_n 1, 1) := by decide +kernel
theorem dX11_counts_2 : decode cX11_counts 2 = .ok (.invokevirtual 164, 3) := by decide +kernel
theorem dX11_counts_5 : decode cX11_counts 5 = .ok (.ifCond .eq 19, 3) := by decide +kernel
theorem dX11_counts_8 : decode cX11_counts 8 = .ok (.aload_n 0, 1) := by decide +kernel
theorem dX11_counts_9 : decode cX11_counts 9 = .ok (.iload_n 2, 1) := by decide +kernel
theorem dX11_counts_10 : decode cX11_counts 10 = .ok (.invokevirtual 167, 3) := by decide +kernel
theorem dX11_counts_13 : decode cX11_counts 13 = .ok (.ifCond .eq 11, 3) := by decide +kernel
theorem dX11_counts_16 : decode cX11_counts 16 = .ok (.aload_n 0, 1) := by decide +kernel
theorem dX11_counts_17 : decode cX11_counts 17 = .ok (.iload_n 3, 1) := by decide +kernel
theorem dX11_counts_18 : decode cX11_counts 18 = .ok (.invokevirtual 201, 3) := by decide +kernel
theorem dX11_counts_21 : decode cX11_counts 21 = .ok (.ifCond .ne 5, 3) := by decide +kernel
theorem dX11_counts_24 : decode cX11_counts 24 = .ok (.iconst (-1), 1) := by decide +kernel
theorem dX11_counts_25 : decode cX11_counts 25 = .ok (.ireturn, 1) := by decide +kernel
theorem dX11_counts_26 : decode cX11_counts 26 = .ok (.aload_n 0, 1) := by decide +kernel
theorem dX11_counts_27 : decode cX11_counts 27 = .ok (.getfield 76, 3) := by decide +kernel
theorem dX11_counts_30 : decode cX11_counts 30 = .ok (.aload_n 0, 1) := by decide +kernel
theorem dX11_counts_31 : decode cX11_counts 31 = .ok (.getfield 82, 3) := by decide +kernel
theorem dX11_counts_34 : decode cX11_counts 34 = .ok (.iload_n 1, 1) := by decide +kernel
theorem dX11_counts_35 : decode cX11_counts 35 = .ok (.aaload, 1) := by decide +kernel
theorem dX11_counts_36 : decode cX11_counts 36 = .ok (.iload_n 2, 1) := by decide +kernel
theorem dX11_counts_37 : decode cX11_counts 37 = .ok (.iload_n 3, 1) := by decide +kernel
theorem dX11_counts_38 : decode cX11_counts 38 = .ok (.invokevirtual 235, 3) := by decide +kernel
theorem dX11_counts_41 : decode cX11_counts 41 = .ok (.ireturn, 1) := by decide +kernel
set_option maxRecDepth 20000 in
theorem ggX11_winner_X11_isShow : GoodIn wsX11_winner wsX11_isShow := goodIn_r _ [7, 8, 9, 10, 6, 11, 147, 148, 149, 150, 151, 152, 153, 154, 155, 156, 157, 158] (by decide +kernel) (by decide +kernel)
set_option maxRecDepth 20000 in
theorem gX11_winner_X11_isShow : GoodIn wsX11_winner (wsV RX11 164 RX11 yX11_isShow wsX11_isShow) := goodIn_app (goodIn_of _ (by decide +kernel)) ggX11_winner_X11_isShow
set_option maxRecDepth 20000 in
theorem ggX11_winner_X11_isBreed : GoodIn wsX11_winner wsX11_isBreed := goodIn_r _ [15, 16, 9, 10, 6, 11, 147, 148, 149, 150, 151, 152, 153, 154, 155, 156, 157, 158, 159, 160, 161, 162, 163, 164, 165, 166, 167, 168, 169, 170, 171] (by decide +kernel) (by decide +kernel)
set_option maxRecDepth 20000 in
theorem gX11_winner_X11_isBreed : GoodIn wsX11_winner (wsV RX11 144 RX11 yX11_isBreed wsX11_isBreed) := goodIn_app (goodIn_of _ (by decide +kernel)) ggX11_winner_X11_isBreed
set_option maxRecDepth 20000 in
theorem ggX11_winner_X11_isKnown : GoodIn wsX11_winner wsX11_isKnown := goodIn_r _ [20, 21, 9, 10, 6, 11, 147, 148, 149, 150, 151, 152, 153, 154, 155, 156, 157, 158, 172, 173, 174, 175, 176, 177, 178] (by decide +kernel) (by decide +kernel)
set_option maxRecDepth 20000 in
theorem gX11_winner_X11_isKnown : GoodIn wsX11_winner (wsV RX11 201 RX11 yX11_isKnown wsX11_isKnown) := goodIn_app (goodIn_of _ (by decide +kernel)) ggX11_winner_X11_isKnown
set_option maxRecDepth 20000 in
theorem ggX11_winner_X5_winnerOf : GoodIn wsX11_winner wsX5_winnerOf := goodIn_r _ [26, 27, 28, 29, 30, 31, 32, 33, 34, 35, 36, 37, 38, 39, 40, 41, 42, 43, 44, 25, 45, 46, 47, 48, 49, 50, 10, 6, 11, 51, 52, 53, 54, 55, 56, 57, 58, 59, 60, 61, 62, 63, 64, 65, 66, 67, 68, 69, 70, 71, 72, 73, 74, 75, 76, 77, 78, 79, 80, 81, 82, 83, 84, 85, 86, 87, 88, 89, 90, 91, 92, 93, 94, 95, 96, 97, 98, 99, 100, 101, 102, 103, 104, 105, 106, 107, 108, 109, 110, 111, 112, 113, 114, 115, 116, 117, 118, 119, 120, 121, 122, 123, 124, 125, 126, 127, 128, 129, 130, 131, 132, 133, 134, 135, 136, 137, 138, 139, 140, 141, 9, 142, 143, 144, 145, 146, 179, 180, 181, 159, 160, 161, 162, 163, 164, 165, 166, 167, 168, 169, 170, 171, 182, 183, 184, 185, 172, 173, 174, 175, 176, 177, 178, 186, 187, 188, 189, 190, 191, 192, 193, 194, 195, 196, 197, 198, 199, 200, 201] (by decide +kernel) (by decide +kernel)
set_option maxRecDepth 20000 in
theorem gX11_winner_X5_winnerOf : GoodIn wsX11_winner (wsV RX11 238 RX5 yX5_winnerOf wsX5_winnerOf) := goodIn_app (goodIn_of _ (by decide +kernel)) ggX11_winner_X5_winnerOf
theorem dX11_winner_0 : decode cX11_winner 0 = .ok (.aload_n 0, 1) := by decide +kernel
theorem dX11_winner_1 : decode cX11_winner 1 = .ok (.iload_n 1, 1) := by decide +kernel
theorem dX11_winner_2 : decode cX11_winner 2 = .ok (.invokevirtual 164, 3) := by decide +kernel
theorem dX11_winner_5 : decode cX11_winner 5 = .ok (.ifCond .eq 19, 3) := by decide +kernel
theorem dX11_winner_8 : decode cX11_winner 8 = .ok (.aload_n 0, 1) := by decide +kernel
theorem dX11_winner_9 : decode cX11_winner 9 = .ok (.iload_n 2, 1) := by decide +kernel
theorem dX11_winner_10 : decode cX11_winner 10 = .ok (.invokevirtual 144, 3) := by decide +kernel
theorem dX11_winner_13 : decode cX11_winner 13 = .ok (.ifCond .eq 11, 3) := by decide +kernel
theorem dX11_winner_16 : decode cX11_winner 16 = .ok (.aload_n 0, 1) := by decide +kernel
theorem dX11_winner_17 : decode cX11_winner 17 = .ok (.iload_n 3, 1) := by decide +kernel
theorem dX11_winner_18 : decode cX11_winner 18 = .ok (.invokevirtual 201, 3) := by decide +kernel
theorem dX11_winner_21 : decode cX11_winner 21 = .ok (.ifCond .ne 5, 3) := by decide +kernel
theorem dX11_winner_24 : decode cX11_winner 24 = .ok (.iconst (-1), 1) := by decide +kernel
theorem dX11_winner_25 : decode cX11_winner 25 = .ok (.ireturn, 1) := by decide +kernel
theorem dX11_winner_26 : decode cX11_winner 26 = .ok (.aload_n 0, 1) := by decide +kernel
theorem dX11_winner_27 : decode cX11_winner 27 = .ok (.getfield 76, 3) := by decide +kernel
theorem dX11_winner_30 : decode cX11_winner 30 = .ok (.aload_n 0, 1) := by decide +kernel
theorem dX11_winner_31 : decode cX11_winner 31 = .ok (.getfield 82, 3) := by decide +kernel
theorem dX11_winner_34 : decode cX11_winner 34 = .ok (.iload_n 1, 1) := by decide +kernel
theorem dX11_winner_35 : decode cX11_winner 35 = .ok (.aaload, 1) := by decide +kernel
theorem dX11_winner_36 : decode cX11_winner 36 = .ok (.iload_n 2, 1) := by decide +kernel
theorem dX11_winner_37 : decode cX11_winner 37 = .ok (.iload_n 3, 1) := by decide +kernel
theorem dX11_winner_38 : decode cX11_winner 38 = .ok (.invokevirtual 238, 3) := by decide +kernel
theorem dX11_winner_41 : decode cX11_winner 41 = .ok (.ireturn, 1) := by decide +kernel
set_option maxRecDepth 20000 in
theorem ggX11_points_X11_isShow : GoodIn wsX11_points wsX11_isShow := goodIn_r _ [8, 9, 10, 11, 7, 12, 160, 161, 162, 163, 164, 165, 166, 167, 168, 169, 170, 171] (by decide +kernel) (by decide +kernel)
set_option maxRecDepth 20000 in
theorem gX11_points_X11_isShow : GoodIn wsX11_points (wsV RX11 164 RX11 yX11_isShow wsX11_isShow) := goodIn_app (goodIn_of _ (by decide +kernel)) ggX11_points_X11_isShow
set_option maxRecDepth 20000 in
theorem ggX11_points_X11_isDog : GoodIn wsX11_points wsX11_isDog := goodIn_r _ [16, 3, 10, 11, 7, 12, 160, 161, 162, 163, 164, 165, 166, 167, 168, 169, 170, 171, 172, 173, 174, 175, 176, 177, 178, 179, 180, 181, 182, 183, 184] (by decide +kernel) (by decide +kernel)
set_option maxRecDepth 20000 in
theorem gX11_points_X11_isDog : GoodIn wsX11_points (wsV RX11 167 RX11 yX11_isDog wsX11_isDog) := goodIn_app (goodIn_of _ (by decide +kernel)) ggX11_points_X11_isDog
set_option maxRecDepth 20000 in
theorem ggX11_points_X11_isKnown : GoodIn wsX11_points wsX11_isKnown := goodIn_r _ [20, 21, 10, 11, 7, 12, 160, 161, 162, 163, 164, 165, 166, 167, 168, 169, 170, 171, 185, 186, 187, 188, 189, 190, 191] (by decide +kernel) (by decide +kernel)
set_option maxRecDepth 20000 in
theorem gX11_points_X11_isKnown : GoodIn wsX11_points (wsV RX11 201 RX11 yX11_isKnown wsX11_isKnown) := goodIn_app (goodIn_of _ (by decide +kernel)) ggX11_points_X11_isKnown
set_option maxRecDepth 20000 in
theorem ggX11_points_X5_winnerOf : GoodIn wsX11_points wsX5_winnerOf := goodIn_r _ [26, 27, 28, 29, 30, 31, 32, 33, 34, 35, 36, 37, 38, 39, 40, 41, 42, 43, 44, 25, 45, 46, 47, 48, 49, 50, 11, 7, 12, 51, 52, 53, 54, 55, 56, 57, 58, 59, 60, 61, 62, 63, 64, 65, 66, 67, 68, 69, 70, 71, 72, 73, 74, 75, 76, 77, 78, 79, 80, 81, 82, 83, 84, 85, 86, 87, 88, 89, 90, 91, 92, 93, 94, 95, 96, 97, 98, 99, 100, 101, 102, 103, 104, 105, 106, 107, 108, 109, 110, 111, 112, 113, 114, 115, 116, 117, 118, 119, 120, 121, 122, 123, 124, 125, 126, 127, 128, 129, 130, 131, 132, 133, 134, 135, 136, 137, 138, 139, 140, 141, 10, 142, 143, 144, 145, 146, 192, 193, 194, 172, 173, 174, 175, 176, 177, 178, 179, 180, 181, 182, 183, 184, 195, 196, 197, 198, 185, 186, 187, 188, 189, 190, 191, 199, 200, 201, 202, 203, 204, 205, 206, 207, 208, 209, 210, 211, 212, 213, 214] (by decide +kernel) (by decide +kernel)
set_option maxRecDepth 20000 in
theorem gX11_points_X5_winnerOf : GoodIn wsX11_points (wsV RX11 238 RX5 yX5_winnerOf wsX5_winnerOf) := goodIn_app (goodIn_of _ (by decide +kernel)) ggX11_points_X5_winnerOf
set_option maxRecDepth 20000 in
theorem ggX11_points_X5_pointsOfWinner : GoodIn wsX11_points wsX5_pointsOfWinner := goodIn_r _ [150, 27, 55, 51, 52, 53, 25, 54, 28, 56, 57, 58, 59, 60, 61, 11, 7, 12, 29, 30, 31, 32, 33, 34, 35, 36, 37, 38, 39, 40, 41, 62, 63, 64, 65, 66, 67, 68, 69, 70, 47, 48, 49, 50, 71, 72, 73, 74, 75, 76, 77, 78, 79, 80, 81, 82, 83, 84, 85, 86, 87, 88, 89, 90, 91, 92, 93, 94, 95, 96, 97, 98, 99, 100, 101, 102, 103, 104, 105, 106, 107, 108, 109, 110, 111, 112, 113, 114, 115, 116, 117, 118, 119, 120, 121, 122, 123, 124, 125, 126, 127, 128, 129, 130, 131, 132, 133, 134, 135, 136, 137, 138, 139, 140, 141, 10, 142, 143, 144, 145, 146, 151, 152, 153, 154, 155, 156, 157, 158, 159, 192, 193, 194, 172, 173, 174, 175, 176, 177, 178, 179, 180, 181, 182, 183, 184, 195, 196, 197, 198, 185, 186, 187, 188, 189, 190, 191, 199, 200, 201, 202, 203, 204, 205, 206, 207, 208, 209, 210, 211, 212, 213, 214] (by decide +kernel) (by decide +kernel)
set_option maxRecDepth 20000 in
theorem gX11_points_X5_pointsOfWinner : GoodIn wsX11_points (wsV RX11 241 RX5 yX5_pointsOfWinner wsX5_pointsOfWinner) := goodIn_app (goodIn_of _ (by decide +kernel)) ggX11_points_X5_pointsOfWinner
theorem dX11_points_0 : decode cX11_points 0 = .ok (.aload_n 0, 1) := by decide +kernel
theorem dX11_points_1 : decode cX11_points 1 = .ok (.iload_n 1, 1) := by decide +kernel
theorem dX11_points_2 : decode cX11_points 2 = .ok (.invokevirtual 164, 3) := by decide +kernel
theorem dX11_points_5 : decode cX11_points 5 = .ok (.ifCond .eq 19, 3) := by decide +kernel
theorem dX11_points_8 : decode cX11_points 8 = .ok (.aload_n 0, 1) := by decide +kernel
theorem dX11_points_9 : decode cX11_points 9 = .ok (.iload_n 2, 1) := by decide +kernel
theorem dX11_points_10 : decode cX11_points 10 = .ok (.invokevirtual 167, 3) := by decide +kernel
theorem dX11_points_13 : decode cX11_points 13 = .ok (.ifCond .eq 11, 3) := by decide +kernel
theorem dX11_points_16 : decode cX11_points 16 = .ok (.aload_n 0, 1) := by decide +kernel
theorem dX11_points_17 : decode cX11_points 17 = .ok (.iload_n 3, 1) := by decide +kernel
theorem dX11_points_18 : decode cX11_points 18 = .ok (.invokevirtual 201, 3) := by decide +kernel
theorem dX11_points_21 : decode cX11_points 21 = .ok (.ifCond .ne 5, 3) := by decide +kernel
theorem dX11_points_24 : decode cX11_points 24 = .ok (.iconst 0, 1) := by decide +kernel
theorem dX11_points_25 : decode cX11_points 25 = .ok (.ireturn, 1) := by decide +kernel
theorem dX11_points_26 : decode cX11_points 26 = .ok (.aload_n 0, 1) := by decide +kernel
theorem dX11_points_27 : decode cX11_points 27 = .ok (.getfield 76, 3) := by decide +kernel
theorem dX11_points_30 : decode cX11_points 30 = .ok (.aload_n 0, 1) := by decide +kernel
theorem dX11_points_31 : decode cX11_points 31 = .ok (.getfield 82, 3) := by decide +kernel
theorem dX11_points_34 : decode cX11_points 34 = .ok (.iload_n 1, 1) := by decide +kernel
theorem dX11_points_35 : decode cX11_points 35 = .ok (.aaload, 1) := by decide +kernel
theorem dX11_points_36 : decode cX11_points 36 = .ok (.aload_n 0, 1) := by decide +kernel
theorem dX11_points_37 : decode cX11_points 37 = .ok (.getfield 40, 3) := by decide +kernel
theorem dX11_points_40 : decode cX11_points 40 = .ok (.getfield 181, 3) := by decide +kernel
theorem dX11_points_43 : decode cX11_points 43 = .ok (.iload_n 2, 1) := by decide +kernel
theorem dX11_points_44 : decode cX11_points 44 = .ok (.iaload, 1) := by decide +kernel
theorem dX11_points_45 : decode cX11_points 45 = .ok (.iload_n 3, 1) := by decide +kernel
theorem dX11_points_46 : decode cX11_points 46 = .ok (.invokevirtual 238, 3) := by decide +kernel
theorem dX11_points_49 : decode cX11_points 49 = .ok (.iload_n 2, 1) := by decide +kernel
theorem dX11_points_50 : decode cX11_points 50 = .ok (.if_icmp .eq 5, 3) := by decide +kernel
theorem dX11_points_53 : decode cX11_points 53 = .ok (.iconst 0, 1) := by decide +kernel
theorem dX11_points_54 : decode cX11_points 54 = .ok (.ireturn, 1) := by decide +kernel
theorem dX11_points_55 : decode cX11_points 55 = .ok (.aload_n 0, 1) := by decide +kernel
theorem dX11_points_56 : decode cX11_points 56 = .ok (.getfield 76, 3) := by decide +kernel
theorem dX11_points_59 : decode cX11_points 59 = .ok (.aload_n 0, 1) := by decide +kernel
theorem dX11_points_60 : decode cX11_points 60 = .ok (.getfield 82, 3) := by decide +kernel
theorem dX11_points_63 : decode cX11_points 63 = .ok (.iload_n 1, 1) := by decide +kernel
theorem dX11_points_64 : decode cX11_points 64 = .ok (.aaload, 1) := by decide +kernel
theorem dX11_points_65 : decode cX11_points 65 = .ok (.iload_n 2, 1) := by decide +kernel
theorem dX11_points_66 : decode cX11_points 66 = .ok (.iload_n 3, 1) := by decide +kernel
theorem dX11_points_67 : decode cX11_points 67 = .ok (.invokevirtual 241, 3) := by decide +kernel
theorem dX11_points_70 : decode cX11_points 70 = .ok (.ireturn, 1) := by decide +kernel
set_option maxRecDepth 20000 in
theorem ggX11_title_X9_firstOfKind : GoodIn wsX11_title wsX9_firstOfKind := goodIn_r _ [10, 11, 12, 198, 199, 200, 201, 202, 203, 204, 205, 206, 207, 208] (by decide +kernel) (by decide +kernel)
set_option maxRecDepth 20000 in
theorem gX11_title_X9_firstOfKind : GoodIn wsX11_title (wsV RX11 244 RX9 yX9_firstOfKind wsX9_firstOfKind) := goodIn_app (goodIn_of _ (by decide +kernel)) ggX11_title_X9_firstOfKind
set_option maxRecDepth 20000 in
theorem ggX11_title_X11_isDog : GoodIn wsX11_title wsX11_isDog := goodIn_r _ [17, 2, 18, 19, 16, 20, 169, 170, 171, 172, 173, 174, 175, 176, 177, 178, 179, 180, 181, 182, 183, 184, 185, 186, 187, 188, 189, 190, 191, 192, 193] (by decide +kernel) (by decide +kernel)
set_option maxRecDepth 20000 in
theorem gX11_title_X11_isDog : GoodIn wsX11_title (wsV RX11 167 RX11 yX11_isDog wsX11_isDog) := goodIn_app (goodIn_of _ (by decide +kernel)) ggX11_title_X11_isDog
set_option maxRecDepth 20000 in
theorem ggX11_title_X11_isKnown : GoodIn wsX11_title wsX11_isKnown := goodIn_r _ [24, 25, 18, 19, 16, 20, 169, 170, 171, 172, 173, 174, 175, 176, 177, 178, 179, 180, 209, 210, 211, 212, 213, 214, 215] (by decide +kernel) (by decide +kernel)
set_option maxRecDepth 20000 in
theorem gX11_title_X11_isKnown : GoodIn wsX11_title (wsV RX11 201 RX11 yX11_isKnown wsX11_isKnown) := goodIn_app (goodIn_of _ (by decide +kernel)) ggX11_title_X11_isKnown
set_option maxRecDepth 20000 in
theorem ggX11_title_X11_isWithin : GoodIn wsX11_title wsX11_isWithin := goodIn_r _ [20] (by decide +kernel) (by decide +kernel)
set_option maxRecDepth 20000 in
theorem gX11_title_X11_isWithin : GoodIn wsX11_title (va_wsS RX11 133 yX11_isWithin wsX11_isWithin) := goodIn_app (goodIn_of _ (by decide +kernel)) ggX11_title_X11_isWithin
set_option maxRecDepth 20000 in
theorem ggX11_title_X5_winnerOf : GoodIn wsX11_title wsX5_winnerOf := goodIn_r _ [30, 31, 32, 33, 34, 35, 36, 37, 38, 39, 40, 41, 42, 43, 44, 45, 46, 47, 48, 29, 49, 50, 51, 52, 53, 54, 19, 16, 20, 55, 56, 57, 58, 59, 60, 61, 62, 63, 64, 65, 66, 67, 68, 69, 70, 71, 72, 73, 74, 75, 76, 77, 78, 79, 80, 81, 82, 83, 84, 85, 86, 87, 88, 89, 90, 91, 92, 93, 94, 95, 96, 97, 98, 99, 100, 101, 102, 103, 104, 105, 106, 107, 108, 109, 110, 9, 111, 11, 112, 113, 12, 114, 115, 116, 117, 118, 119, 120, 121, 122, 123, 124, 125, 126, 127, 128, 129, 130, 131, 132, 133, 134, 135, 136, 137, 138, 139, 140, 141, 142, 18, 143, 144, 145, 146, 147, 216, 217, 218, 181, 182, 183, 184, 185, 186, 187, 188, 189, 190, 191, 192, 193, 194, 195, 196, 197, 209, 210, 211, 212, 213, 214, 215, 219, 220, 221, 222, 223, 198, 199, 200, 201, 202, 203, 204, 205, 206, 207, 208] (by decide +kernel) (by decide +kernel)
set_option maxRecDepth 20000 in
theorem gX11_title_X5_winnerOf : GoodIn wsX11_title (wsV RX11 238 RX5 yX5_winnerOf wsX5_winnerOf) := goodIn_app (goodIn_of _ (by decide +kernel)) ggX11_title_X5_winnerOf
set_option maxRecDepth 20000 in
theorem ggX11_title_X5_pointsOfWinner : GoodIn wsX11_title wsX5_pointsOfWinner := goodIn_r _ [151, 31, 59, 55, 56, 57, 29, 58, 32, 60, 61, 62, 63, 64, 65, 19, 16, 20, 33, 34, 35, 36, 37, 38, 39, 40, 41, 42, 43, 44, 45, 66, 67, 68, 69, 70, 71, 72, 73, 74, 51, 52, 53, 54, 75, 76, 77, 78, 79, 80, 81, 82, 83, 84, 85, 86, 87, 88, 89, 90, 91, 92, 93, 94, 95, 96, 97, 98, 99, 100, 101, 102, 103, 104, 105, 106, 107, 108, 109, 110, 9, 111, 11, 112, 113, 12, 114, 115, 116, 117, 118, 119, 120, 121, 122, 123, 124, 125, 126, 127, 128, 129, 130, 131, 132, 133, 134, 135, 136, 137, 138, 139, 140, 141, 142, 18, 143, 144, 145, 146, 147, 152, 153, 154, 155, 156, 157, 158, 159, 160, 216, 217, 218, 181, 182, 183, 184, 185, 186, 187, 188, 189, 190, 191, 192, 193, 194, 195, 196, 197, 209, 210, 211, 212, 213, 214, 215, 219, 220, 221, 222, 223, 198, 199, 200, 201, 202, 203, 204, 205, 206, 207, 208] (by decide +kernel) (by decide +kernel)
set_option maxRecDepth 20000 in
theorem gX11_title_X5_pointsOfWinner : GoodIn wsX11_title (wsV RX11 241 RX5 yX5_pointsOfWinner wsX5_pointsOfWinner) := goodIn_app (goodIn_of _ (by decide +kernel)) ggX11_title_X5_pointsOfWinner
set_option maxRecDepth 20000 in
theorem ggX11_title_X10_at : GoodIn wsX11_title wsX10_at := goodIn_r _ [91, 92, 19, 16, 20, 219] (by decide +kernel) (by decide +kernel)
set_option maxRecDepth 20000 in
theorem gX11_title_X10_at : GoodIn wsX11_title (wsV RX11 217 RX10 yX10_at wsX10_at) := goodIn_app (goodIn_of _ (by decide +kernel)) ggX11_title_X10_at
set_option maxRecDepth 20000 in
theorem ggX11_title_J6_bitCount_0f7a4 : GoodIn wsX11_title wsJ6_bitCount_0f7a4 := goodIn_r _ [165, 166, 167, 168] (by decide +kernel) (by decide +kernel)
set_option maxRecDepth 20000 in
theorem gX11_title_J6_bitCount_0f7a4 : GoodIn wsX11_title (va_wsS RX11 250 yJ6_bitCount_0f7a4 wsJ6_bitCount_0f7a4) := goodIn_app (goodIn_of _ (by decide +kernel)) ggX11_title_J6_bitCount_0f7a4
theorem dX11_title_0 : decode cX11_title 0 = .ok (.aload_n 0, 1) := by decide +kernel
theorem dX11_title_1 : decode cX11_title 1 = .ok (.getfield 19, 3) := by decide +kernel
theorem dX11_title_4 : decode cX11_title 4 = .ok (.bipush 12, 2) := by decide +kernel
theorem dX11_title_6 : decode cX11_title 6 = .ok (.invokevirtual 244, 3) := by decide +kernel
theorem dX11_title_9 : decode cX11_title 9 = .ok (.istore_n 3, 1) := by decide +kernel
theorem dX11_title_10 : decode cX11_title 10 = .ok (.aload_n 0, 1) := by decide +kernel
theorem dX11_title_11 : decode cX11_title 11 = .ok (.iload_n 1, 1) := by decide +kernel
theorem dX11_title_12 : decode cX11_title 12 = .ok (.invokevirtual 167, 3) := by decide +kernel
theorem dX11_title_15 : decode cX11_title 15 = .ok (.ifCond .eq 21, 3) := by decide +kernel
theorem dX11_title_18 : decode cX11_title 18 = .ok (.aload_n 0, 1) := by decide +kernel
theorem dX11_title_19 : decode cX11_title 19 = .ok (.iload_n 2, 1) := by decide +kernel
theorem dX11_title_20 : decode cX11_title 20 = .ok (.invokevirtual 201, 3) := by decide +kernel
theorem dX11_title_23 : decode cX11_title 23 = .ok (.ifCond .eq 13, 3) := by decide +kernel
theorem dX11_title_26 : decode cX11_title 26 = .ok (.iload_n 3, 1) := by decide +kernel
theorem dX11_title_27 : decode cX11_title 27 = .ok (.iconst 0, 1) := by decide +kernel
theorem dX11_title_28 : decode cX11_title 28 = .ok (.bipush 15, 2) := by decide +kernel
theorem dX11_title_30 : decode cX11_title 30 = .ok (.invokestatic 133, 3) := by decide +kernel
theorem dX11_title_33 : decode cX11_title 33 = .ok (.ifCond .ne 5, 3) := by decide +kernel
theorem dX11_title_36 : decode cX11_title 36 = .ok (.iconst (-1), 1) := by decide +kernel
theorem dX11_title_37 : decode cX11_title 37 = .ok (.ireturn, 1) := by decide +kernel
theorem dX11_title_38 : decode cX11_title 38 = .ok (.aload_n 0, 1) := by decide +kernel
theorem dX11_title_39 : decode cX11_title 39 = .ok (.getfield 40, 3) := by decide +kernel
theorem dX11_title_42 : decode cX11_title 42 = .ok (.getfield 181, 3) := by decide +kernel
theorem dX11_title_45 : decode cX11_title 45 = .ok (.iload_n 1, 1) := by decide +kernel
theorem dX11_title_46 : decode cX11_title 46 = .ok (.iaload, 1) := by decide +kernel
theorem dX11_title_47 : decode cX11_title 47 = .ok (.istore 4, 2) := by decide +kernel
theorem dX11_title_49 : decode cX11_title 49 = .ok (.iconst 0, 1) := by decide +kernel
theorem dX11_title_50 : decode cX11_title 50 = .ok (.istore 5, 2) := by decide +kernel
theorem dX11_title_52 : decode cX11_title 52 = .ok (.iconst 0, 1) := by decide +kernel
theorem dX11_title_53 : decode cX11_title 53 = .ok (.istore 6, 2) := by decide +kernel
theorem dX11_title_55 : decode cX11_title 55 = .ok (.iconst 0, 1) := by decide +kernel
theorem dX11_title_56 : decode cX11_title 56 = .ok (.istore 7, 2) := by decide +kernel
theorem dX11_title_58 : decode cX11_title 58 = .ok (.iload 7, 2) := by decide +kernel
theorem dX11_title_60 : decode cX11_title 60 = .ok (.aload_n 0, 1) := by decide +kernel
theorem dX11_title_61 : decode cX11_title 61 = .ok (.getfield 89, 3) := by decide +kernel
theorem dX11_title_64 : decode cX11_title 64 = .ok (.if_icmp .ge 108, 3) := by decide +kernel
theorem dX11_title_67 : decode cX11_title 67 = .ok (.aload_n 0, 1) := by decide +kernel
theorem dX11_title_68 : decode cX11_title 68 = .ok (.getfield 76, 3) := by decide +kernel
theorem dX11_title_71 : decode cX11_title 71 = .ok (.aload_n 0, 1) := by decide +kernel
theorem dX11_title_72 : decode cX11_title 72 = .ok (.getfield 82, 3) := by decide +kernel
theorem dX11_title_75 : decode cX11_title 75 = .ok (.iload 7, 2) := by decide +kernel
theorem dX11_title_77 : decode cX11_title 77 = .ok (.aaload, 1) := by decide +kernel
theorem dX11_title_78 : decode cX11_title 78 = .ok (.iload 4, 2) := by decide +kernel
theorem dX11_title_80 : decode cX11_title 80 = .ok (.iload_n 2, 1) := by decide +kernel
theorem dX11_title_81 : decode cX11_title 81 = .ok (.invokevirtual 238, 3) := by decide +kernel
theorem dX11_title_84 : decode cX11_title 84 = .ok (.iload_n 1, 1) := by decide +kernel
theorem dX11_title_85 : decode cX11_title 85 = .ok (.if_icmp .ne 47, 3) := by decide +kernel
theorem dX11_title_88 : decode cX11_title 88 = .ok (.iload 5, 2) := by decide +kernel
theorem dX11_title_90 : decode cX11_title 90 = .ok (.aload_n 0, 1) := by decide +kernel
theorem dX11_title_91 : decode cX11_title 91 = .ok (.getfield 76, 3) := by decide +kernel
theorem dX11_title_94 : decode cX11_title 94 = .ok (.aload_n 0, 1) := by decide +kernel
theorem dX11_title_95 : decode cX11_title 95 = .ok (.getfield 82, 3) := by decide +kernel
theorem dX11_title_98 : decode cX11_title 98 = .ok (.iload 7, 2) := by decide +kernel
theorem dX11_title_100 : decode cX11_title 100 = .ok (.aaload, 1) := by decide +kernel
theorem dX11_title_101 : decode cX11_title 101 = .ok (.iload_n 1, 1) := by decide +kernel
theorem dX11_title_102 : decode cX11_title 102 = .ok (.iload_n 2, 1) := by decide +kernel
theorem dX11_title_103 : decode cX11_title 103 = .ok (.invokevirtual 241, 3) := by decide +kernel
theorem dX11_title_106 : decode cX11_title 106 = .ok (.iadd, 1) := by decide +kernel
theorem dX11_title_107 : decode cX11_title 107 = .ok (.istore 5, 2) := by decide +kernel
theorem dX11_title_109 : decode cX11_title 109 = .ok (.iload 6, 2) := by decide +kernel
theorem dX11_title_111 : decode cX11_title 111 = .ok (.iconst 1, 1) := by decide +kernel
theorem dX11_title_112 : decode cX11_title 112 = .ok (.aload_n 0, 1) := by decide +kernel
theorem dX11_title_113 : decode cX11_title 113 = .ok (.getfield 82, 3) := by decide +kernel
theorem dX11_title_116 : decode cX11_title 116 = .ok (.iload 7, 2) := by decide +kernel
theorem dX11_title_118 : decode cX11_title 118 = .ok (.aaload, 1) := by decide +kernel
theorem dX11_title_119 : decode cX11_title 119 = .ok (.getfield 177, 3) := by decide +kernel
theorem dX11_title_122 : decode cX11_title 122 = .ok (.iload 4, 2) := by decide +kernel
theorem dX11_title_124 : decode cX11_title 124 = .ok (.iconst 1, 1) := by decide +kernel
theorem dX11_title_125 : decode cX11_title 125 = .ok (.invokevirtual 217, 3) := by decide +kernel
theorem dX11_title_128 : decode cX11_title 128 = .ok (.ishl, 1) := by decide +kernel
theorem dX11_title_129 : decode cX11_title 129 = .ok (.ior, 1) := by decide +kernel
theorem dX11_title_130 : decode cX11_title 130 = .ok (.istore 6, 2) := by decide +kernel
theorem dX11_title_132 : decode cX11_title 132 = .ok (.iload 5, 2) := by decide +kernel
theorem dX11_title_134 : decode cX11_title 134 = .ok (.aload_n 0, 1) := by decide +kernel
theorem dX11_title_135 : decode cX11_title 135 = .ok (.getfield 19, 3) := by decide +kernel
theorem dX11_title_138 : decode cX11_title 138 = .ok (.getfield 247, 3) := by decide +kernel
theorem dX11_title_141 : decode cX11_title 141 = .ok (.iload_n 3, 1) := by decide +kernel
theorem dX11_title_142 : decode cX11_title 142 = .ok (.iaload, 1) := by decide +kernel
theorem dX11_title_143 : decode cX11_title 143 = .ok (.if_icmp .lt 23, 3) := by decide +kernel
theorem dX11_title_146 : decode cX11_title 146 = .ok (.iload 6, 2) := by decide +kernel
theorem dX11_title_148 : decode cX11_title 148 = .ok (.invokestatic 250, 3) := by decide +kernel
theorem dX11_title_151 : decode cX11_title 151 = .ok (.aload_n 0, 1) := by decide +kernel
theorem dX11_title_152 : decode cX11_title 152 = .ok (.getfield 19, 3) := by decide +kernel
theorem dX11_title_155 : decode cX11_title 155 = .ok (.getfield 253, 3) := by decide +kernel
theorem dX11_title_158 : decode cX11_title 158 = .ok (.iload_n 3, 1) := by decide +kernel
theorem dX11_title_159 : decode cX11_title 159 = .ok (.iaload, 1) := by decide +kernel
theorem dX11_title_160 : decode cX11_title 160 = .ok (.if_icmp .lt 6, 3) := by decide +kernel
theorem dX11_title_163 : decode cX11_title 163 = .ok (.iload 7, 2) := by decide +kernel
theorem dX11_title_165 : decode cX11_title 165 = .ok (.ireturn, 1) := by decide +kernel
theorem dX11_title_166 : decode cX11_title 166 = .ok (.iinc 7 1, 3) := by decide +kernel
theorem dX11_title_169 : decode cX11_title 169 = .ok (.goto (-111), 3) := by decide +kernel
theorem dX11_title_172 : decode cX11_title 172 = .ok (.iconst (-1), 1) := by decide +kernel
theorem dX11_title_173 : decode cX11_title 173 = .ok (.ireturn, 1) := by decide +kernel
set_option maxRecDepth 20000 in
theorem ggX11_owner_X11_isDog : GoodIn wsX11_owner wsX11_isDog := goodIn_r _ [6, 7, 8, 9, 5, 10, 37, 38, 39, 40, 41, 42, 43, 44, 45, 46, 47, 48, 49, 50, 51, 52, 53, 54, 55, 56, 57, 58, 59, 60, 61] (by decide +kernel) (by decide +kernel)
set_option maxRecDepth 20000 in
theorem gX11_owner_X11_isDog : GoodIn wsX11_owner (wsV RX11 167 RX11 yX11_isDog wsX11_isDog) := goodIn_app (goodIn_of _ (by decide +kernel)) ggX11_owner_X11_isDog
set_option maxRecDepth 20000 in
theorem ggX11_owner_X11_isDay : GoodIn wsX11_owner wsX11_isDay := goodIn_r _ [13, 8, 9, 5, 10] (by decide +kernel) (by decide +kernel)
set_option maxRecDepth 20000 in
theorem gX11_owner_X11_isDay : GoodIn wsX11_owner (va_wsS RX11 147 yX11_isDay wsX11_isDay) := goodIn_app (goodIn_of _ (by decide +kernel)) ggX11_owner_X11_isDay
set_option maxRecDepth 20000 in
theorem ggX11_owner_X11_isKnown : GoodIn wsX11_owner wsX11_isKnown := goodIn_r _ [17, 1, 8, 9, 5, 10, 37, 38, 39, 40, 41, 42, 43, 44, 45, 46, 47, 48, 62, 63, 64, 65, 66, 67, 68] (by decide +kernel) (by decide +kernel)
set_option maxRecDepth 20000 in
theorem gX11_owner_X11_isKnown : GoodIn wsX11_owner (wsV RX11 201 RX11 yX11_isKnown wsX11_isKnown) := goodIn_app (goodIn_of _ (by decide +kernel)) ggX11_owner_X11_isKnown
set_option maxRecDepth 20000 in
theorem ggX11_owner_X1_ownerOn : GoodIn wsX11_owner wsX1_ownerOn := goodIn_r _ [22, 23, 24, 25, 21, 26, 27, 28, 29, 30, 31, 32, 33, 34, 35, 36, 62, 63, 64, 65, 66, 67, 68, 49, 50, 51, 52, 53, 54, 55, 56, 57, 58, 59, 60, 61] (by decide +kernel) (by decide +kernel)
set_option maxRecDepth 20000 in
theorem gX11_owner_X1_ownerOn : GoodIn wsX11_owner (wsV RX11 256 RX1 yX1_ownerOn wsX1_ownerOn) := goodIn_app (goodIn_of _ (by decide +kernel)) ggX11_owner_X1_ownerOn
theorem dX11_owner_0 : decode cX11_owner 0 = .ok (.aload_n 0, 1) := by decide +kernel
theorem dX11_owner_1 : decode cX11_owner 1 = .ok (.iload_n 1, 1) := by decide +kernel
theorem dX11_owner_2 : decode cX11_owner 2 = .ok (.invokevirtual 167, 3) := by decide +kernel
theorem dX11_owner_5 : decode cX11_owner 5 = .ok (.ifCond .eq 18, 3) := by decide +kernel
theorem dX11_owner_8 : decode cX11_owner 8 = .ok (.iload_n 2, 1) := by decide +kernel
theorem dX11_owner_9 : decode cX11_owner 9 = .ok (.invokestatic 147, 3) := by decide +kernel
theorem dX11_owner_12 : decode cX11_owner 12 = .ok (.ifCond .eq 11, 3) := by decide +kernel
theorem dX11_owner_15 : decode cX11_owner 15 = .ok (.aload_n 0, 1) := by decide +kernel
theorem dX11_owner_16 : decode cX11_owner 16 = .ok (.iload_n 3, 1) := by decide +kernel
theorem dX11_owner_17 : decode cX11_owner 17 = .ok (.invokevirtual 201, 3) := by decide +kernel
theorem dX11_owner_20 : decode cX11_owner 20 = .ok (.ifCond .ne 5, 3) := by decide +kernel
theorem dX11_owner_23 : decode cX11_owner 23 = .ok (.iconst (-1), 1) := by decide +kernel
theorem dX11_owner_24 : decode cX11_owner 24 = .ok (.ireturn, 1) := by decide +kernel
theorem dX11_owner_25 : decode cX11_owner 25 = .ok (.aload_n 0, 1) := by decide +kernel
theorem dX11_owner_26 : decode cX11_owner 26 = .ok (.getfield 49, 3) := by decide +kernel
theorem dX11_owner_29 : decode cX11_owner 29 = .ok (.iload_n 1, 1) := by decide +kernel
theorem dX11_owner_30 : decode cX11_owner 30 = .ok (.iload_n 2, 1) := by decide +kernel
theorem dX11_owner_31 : decode cX11_owner 31 = .ok (.iload_n 3, 1) := by decide +kernel
theorem dX11_owner_32 : decode cX11_owner 32 = .ok (.invokevirtual 256, 3) := by decide +kernel
theorem dX11_owner_35 : decode cX11_owner 35 = .ok (.ireturn, 1) := by decide +kernel
set_option maxRecDepth 20000 in
theorem ggX11_parted_X11_isPerson : GoodIn wsX11_parted wsX11_isPerson := goodIn_r _ [5, 6, 7, 4, 8] (by decide +kernel) (by decide +kernel)
set_option maxRecDepth 20000 in
theorem gX11_parted_X11_isPerson : GoodIn wsX11_parted (va_wsS RX11 121 yX11_isPerson wsX11_isPerson) := goodIn_app (goodIn_of _ (by decide +kernel)) ggX11_parted_X11_isPerson
set_option maxRecDepth 20000 in
theorem ggX11_parted_X11_isDog : GoodIn wsX11_parted wsX11_isDog := goodIn_r _ [12, 13, 6, 7, 4, 8, 44, 45, 46, 47, 48, 49, 50, 51, 52, 53, 54, 55, 56, 57, 58, 59, 60, 61, 62, 63, 64, 65, 66, 67, 68] (by decide +kernel) (by decide +kernel)
set_option maxRecDepth 20000 in
theorem gX11_parted_X11_isDog : GoodIn wsX11_parted (wsV RX11 167 RX11 yX11_isDog wsX11_isDog) := goodIn_app (goodIn_of _ (by decide +kernel)) ggX11_parted_X11_isDog
set_option maxRecDepth 20000 in
theorem ggX11_parted_X11_isDay : GoodIn wsX11_parted wsX11_isDay := goodIn_r _ [16, 6, 7, 4, 8] (by decide +kernel) (by decide +kernel)
set_option maxRecDepth 20000 in
theorem gX11_parted_X11_isDay : GoodIn wsX11_parted (va_wsS RX11 147 yX11_isDay wsX11_isDay) := goodIn_app (goodIn_of _ (by decide +kernel)) ggX11_parted_X11_isDay
set_option maxRecDepth 20000 in
theorem ggX11_parted_X11_isKnown : GoodIn wsX11_parted wsX11_isKnown := goodIn_r _ [20, 1, 6, 7, 4, 8, 44, 45, 46, 47, 48, 49, 50, 51, 52, 53, 54, 55, 69, 70, 71, 72, 73, 74, 75] (by decide +kernel) (by decide +kernel)
set_option maxRecDepth 20000 in
theorem gX11_parted_X11_isKnown : GoodIn wsX11_parted (wsV RX11 201 RX11 yX11_isKnown wsX11_isKnown) := goodIn_app (goodIn_of _ (by decide +kernel)) ggX11_parted_X11_isKnown
set_option maxRecDepth 20000 in
theorem ggX11_parted_X1_daysSinceOwned : GoodIn wsX11_parted wsX1_daysSinceOwned := goodIn_r _ [25, 26, 27, 28, 29, 30, 24, 31, 32, 33, 34, 35, 36, 37, 38, 39, 40, 41, 42, 43, 7, 4, 8, 69, 70, 71, 72, 73, 74, 75, 56, 57, 58, 59, 60, 61, 62, 63, 64, 65, 66, 67, 68] (by decide +kernel) (by decide +kernel)
set_option maxRecDepth 20000 in
theorem gX11_parted_X1_daysSinceOwned : GoodIn wsX11_parted (wsV RX11 260 RX1 yX1_daysSinceOwned wsX1_daysSinceOwned) := goodIn_app (goodIn_of _ (by decide +kernel)) ggX11_parted_X1_daysSinceOwned
theorem dX11_parted_0 : decode cX11_parted 0 = .ok (.iload_n 1, 1) := by decide +kernel
theorem dX11_parted_1 : decode cX11_parted 1 = .ok (.invokestatic 121, 3) := by decide +kernel
theorem dX11_parted_4 : decode cX11_parted 4 = .ok (.ifCond .eq 27, 3) := by decide +kernel
theorem dX11_parted_7 : decode cX11_parted 7 = .ok (.aload_n 0, 1) := by decide +kernel
theorem dX11_parted_8 : decode cX11_parted 8 = .ok (.iload_n 2, 1) := by decide +kernel
theorem dX11_parted_9 : decode cX11_parted 9 = .ok (.invokevirtual 167, 3) := by decide +kernel
theorem dX11_parted_12 : decode cX11_parted 12 = .ok (.ifCond .eq 19, 3) := by decide +kernel
theorem dX11_parted_15 : decode cX11_parted 15 = .ok (.iload_n 3, 1) := by decide +kernel
theorem dX11_parted_16 : decode cX11_parted 16 = .ok (.invokestatic 147, 3) := by decide +kernel
theorem dX11_parted_19 : decode cX11_parted 19 = .ok (.ifCond .eq 12, 3) := by decide +kernel
theorem dX11_parted_22 : decode cX11_parted 22 = .ok (.aload_n 0, 1) := by decide +kernel
theorem dX11_parted_23 : decode cX11_parted 23 = .ok (.iload 4, 2) := by decide +kernel
theorem dX11_parted_25 : decode cX11_parted 25 = .ok (.invokevirtual 201, 3) := by decide +kernel
theorem dX11_parted_28 : decode cX11_parted 28 = .ok (.ifCond .ne 6, 3) := by decide +kernel
theorem dX11_parted_31 : decode cX11_parted 31 = .ok (.bipush (-2), 2) := by decide +kernel
theorem dX11_parted_33 : decode cX11_parted 33 = .ok (.ireturn, 1) := by decide +kernel
theorem dX11_parted_34 : decode cX11_parted 34 = .ok (.aload_n 0, 1) := by decide +kernel
theorem dX11_parted_35 : decode cX11_parted 35 = .ok (.getfield 49, 3) := by decide +kernel
theorem dX11_parted_38 : decode cX11_parted 38 = .ok (.iload_n 1, 1) := by decide +kernel
theorem dX11_parted_39 : decode cX11_parted 39 = .ok (.iload_n 2, 1) := by decide +kernel
theorem dX11_parted_40 : decode cX11_parted 40 = .ok (.iload_n 3, 1) := by decide +kernel
theorem dX11_parted_41 : decode cX11_parted 41 = .ok (.iload 4, 2) := by decide +kernel
theorem dX11_parted_43 : decode cX11_parted 43 = .ok (.invokevirtual 260, 3) := by decide +kernel
theorem dX11_parted_46 : decode cX11_parted 46 = .ok (.ireturn, 1) := by decide +kernel
set_option maxRecDepth 20000 in
theorem ggX11_changed_X11_isShow : GoodIn wsX11_changed wsX11_isShow := goodIn_r _ [8, 9, 10, 11, 7, 12, 143, 144, 145, 146, 147, 148, 149, 150, 151, 152, 153, 154] (by decide +kernel) (by decide +kernel)
set_option maxRecDepth 20000 in
theorem gX11_changed_X11_isShow : GoodIn wsX11_changed (wsV RX11 164 RX11 yX11_isShow wsX11_isShow) := goodIn_app (goodIn_of _ (by decide +kernel)) ggX11_changed_X11_isShow
set_option maxRecDepth 20000 in
theorem ggX11_changed_X11_isKnown : GoodIn wsX11_changed wsX11_isKnown := goodIn_r _ [16, 17, 10, 11, 7, 12, 143, 144, 145, 146, 147, 148, 149, 150, 151, 152, 153, 154, 168, 169, 170, 171, 172, 173, 174] (by decide +kernel) (by decide +kernel)
set_option maxRecDepth 20000 in
theorem gX11_changed_X11_isKnown : GoodIn wsX11_changed (wsV RX11 201 RX11 yX11_isKnown wsX11_isKnown) := goodIn_app (goodIn_of _ (by decide +kernel)) ggX11_changed_X11_isKnown
set_option maxRecDepth 20000 in
theorem ggX11_changed_X5_winnerOf : GoodIn wsX11_changed wsX5_winnerOf := goodIn_r _ [22, 23, 24, 25, 26, 27, 28, 29, 30, 31, 32, 33, 34, 35, 36, 37, 38, 39, 40, 21, 41, 42, 43, 44, 45, 46, 11, 7, 12, 47, 48, 49, 50, 51, 52, 53, 54, 55, 56, 57, 58, 59, 60, 61, 62, 63, 64, 65, 66, 67, 68, 69, 70, 71, 72, 73, 74, 75, 76, 77, 78, 79, 80, 81, 82, 83, 84, 85, 86, 87, 88, 89, 90, 91, 92, 93, 94, 95, 96, 97, 98, 99, 100, 101, 102, 103, 104, 105, 106, 107, 108, 109, 110, 111, 112, 113, 114, 115, 116, 117, 118, 119, 120, 121, 122, 123, 124, 125, 126, 127, 128, 129, 130, 131, 132, 133, 134, 135, 136, 137, 10, 138, 139, 140, 141, 142, 175, 176, 177, 155, 156, 157, 158, 159, 160, 161, 162, 163, 164, 165, 166, 167, 178, 179, 180, 181, 168, 169, 170, 171, 172, 173, 174, 182, 183, 184, 185, 186, 187, 188, 189, 190, 191, 192, 193, 194, 195, 196, 197] (by decide +kernel) (by decide +kernel)
set_option maxRecDepth 20000 in
theorem gX11_changed_X5_winnerOf : GoodIn wsX11_changed (wsV RX11 238 RX5 yX5_winnerOf wsX5_winnerOf) := goodIn_app (goodIn_of _ (by decide +kernel)) ggX11_changed_X5_winnerOf
theorem dX11_changed_0 : decode cX11_changed 0 = .ok (.aload_n 0, 1) := by decide +kernel
theorem dX11_changed_1 : decode cX11_changed 1 = .ok (.iload_n 1, 1) := by decide +kernel
theorem dX11_changed_2 : decode cX11_changed 2 = .ok (.invokevirtual 164, 3) := by decide +kernel
theorem dX11_changed_5 : decode cX11_changed 5 = .ok (.ifCond .eq 19, 3) := by decide +kernel
theorem dX11_changed_8 : decode cX11_changed 8 = .ok (.aload_n 0, 1) := by decide +kernel
theorem dX11_changed_9 : decode cX11_changed 9 = .ok (.iload_n 2, 1) := by decide +kernel
theorem dX11_changed_10 : decode cX11_changed 10 = .ok (.invokevirtual 201, 3) := by decide +kernel
theorem dX11_changed_13 : decode cX11_changed 13 = .ok (.ifCond .eq 11, 3) := by decide +kernel
theorem dX11_changed_16 : decode cX11_changed 16 = .ok (.aload_n 0, 1) := by decide +kernel
theorem dX11_changed_17 : decode cX11_changed 17 = .ok (.iload_n 3, 1) := by decide +kernel
theorem dX11_changed_18 : decode cX11_changed 18 = .ok (.invokevirtual 201, 3) := by decide +kernel
theorem dX11_changed_21 : decode cX11_changed 21 = .ok (.ifCond .ne 5, 3) := by decide +kernel
theorem dX11_changed_24 : decode cX11_changed 24 = .ok (.iconst (-1), 1) := by decide +kernel
theorem dX11_changed_25 : decode cX11_changed 25 = .ok (.ireturn, 1) := by decide +kernel
theorem dX11_changed_26 : decode cX11_changed 26 = .ok (.iconst 0, 1) := by decide +kernel
theorem dX11_changed_27 : decode cX11_changed 27 = .ok (.istore 4, 2) := by decide +kernel
theorem dX11_changed_29 : decode cX11_changed 29 = .ok (.iload 4, 2) := by decide +kernel
theorem dX11_changed_31 : decode cX11_changed 31 = .ok (.aload_n 0, 1) := by decide +kernel
theorem dX11_changed_32 : decode cX11_changed 32 = .ok (.getfield 40, 3) := by decide +kernel
theorem dX11_changed_35 : decode cX11_changed 35 = .ok (.getfield 137, 3) := by decide +kernel
theorem dX11_changed_38 : decode cX11_changed 38 = .ok (.if_icmp .ge 47, 3) := by decide +kernel
theorem dX11_changed_41 : decode cX11_changed 41 = .ok (.aload_n 0, 1) := by decide +kernel
theorem dX11_changed_42 : decode cX11_changed 42 = .ok (.getfield 76, 3) := by decide +kernel
theorem dX11_changed_45 : decode cX11_changed 45 = .ok (.aload_n 0, 1) := by decide +kernel
theorem dX11_changed_46 : decode cX11_changed 46 = .ok (.getfield 82, 3) := by decide +kernel
theorem dX11_changed_49 : decode cX11_changed 49 = .ok (.iload_n 1, 1) := by decide +kernel
theorem dX11_changed_50 : decode cX11_changed 50 = .ok (.aaload, 1) := by decide +kernel
theorem dX11_changed_51 : decode cX11_changed 51 = .ok (.iload 4, 2) := by decide +kernel
theorem dX11_changed_53 : decode cX11_changed 53 = .ok (.iload_n 2, 1) := by decide +kernel
theorem dX11_changed_54 : decode cX11_changed 54 = .ok (.invokevirtual 238, 3) := by decide +kernel
theorem dX11_changed_57 : decode cX11_changed 57 = .ok (.aload_n 0, 1) := by decide +kernel
theorem dX11_changed_58 : decode cX11_changed 58 = .ok (.getfield 76, 3) := by decide +kernel
theorem dX11_changed_61 : decode cX11_changed 61 = .ok (.aload_n 0, 1) := by decide +kernel
theorem dX11_changed_62 : decode cX11_changed 62 = .ok (.getfield 82, 3) := by decide +kernel
theorem dX11_changed_65 : decode cX11_changed 65 = .ok (.iload_n 1, 1) := by decide +kernel
theorem dX11_changed_66 : decode cX11_changed 66 = .ok (.aaload, 1) := by decide +kernel
theorem dX11_changed_67 : decode cX11_changed 67 = .ok (.iload 4, 2) := by decide +kernel
theorem dX11_changed_69 : decode cX11_changed 69 = .ok (.iload_n 3, 1) := by decide +kernel
theorem dX11_changed_70 : decode cX11_changed 70 = .ok (.invokevirtual 238, 3) := by decide +kernel
theorem dX11_changed_73 : decode cX11_changed 73 = .ok (.if_icmp .eq 6, 3) := by decide +kernel
theorem dX11_changed_76 : decode cX11_changed 76 = .ok (.iload 4, 2) := by decide +kernel
theorem dX11_changed_78 : decode cX11_changed 78 = .ok (.ireturn, 1) := by decide +kernel
theorem dX11_changed_79 : decode cX11_changed 79 = .ok (.iinc 4 1, 3) := by decide +kernel
theorem dX11_changed_82 : decode cX11_changed 82 = .ok (.goto (-53), 3) := by decide +kernel
theorem dX11_changed_85 : decode cX11_changed 85 = .ok (.iconst (-1), 1) := by decide +kernel
theorem dX11_changed_86 : decode cX11_changed 86 = .ok (.ireturn, 1) := by decide +kernel
set_option maxRecDepth 20000 in
theorem ggX11_count_X11_isShow : GoodIn wsX11_count wsX11_isShow := goodIn_r _ [12, 3, 13, 14, 11, 15, 23, 24, 25, 26, 27, 28, 29, 30, 31, 32, 33, 34] (by decide +kernel) (by decide +kernel)
set_option maxRecDepth 20000 in
theorem gX11_count_X11_isShow : GoodIn wsX11_count (wsV RX11 164 RX11 yX11_isShow wsX11_isShow) := goodIn_app (goodIn_of _ (by decide +kernel)) ggX11_count_X11_isShow
set_option maxRecDepth 20000 in
theorem ggX11_count_J6_bitCount_0f7a4 : GoodIn wsX11_count wsJ6_bitCount_0f7a4 := goodIn_r _ [19, 20, 21, 22] (by decide +kernel) (by decide +kernel)
set_option maxRecDepth 20000 in
theorem gX11_count_J6_bitCount_0f7a4 : GoodIn wsX11_count (va_wsS RX11 250 yJ6_bitCount_0f7a4 wsJ6_bitCount_0f7a4) := goodIn_app (goodIn_of _ (by decide +kernel)) ggX11_count_J6_bitCount_0f7a4
theorem dX11_count_0 : decode cX11_count 0 = .ok (.iload_n 1, 1) := by decide +kernel
theorem dX11_count_1 : decode cX11_count 1 = .ok (.bipush 10, 2) := by decide +kernel
theorem dX11_count_3 : decode cX11_count 3 = .ok (.if_icmp .lt 30, 3) := by decide +kernel
theorem dX11_count_6 : decode cX11_count 6 = .ok (.aload_n 0, 1) := by decide +kernel
theorem dX11_count_7 : decode cX11_count 7 = .ok (.iload_n 1, 1) := by decide +kernel
theorem dX11_count_8 : decode cX11_count 8 = .ok (.bipush 10, 2) := by decide +kernel
theorem dX11_count_10 : decode cX11_count 10 = .ok (.isub, 1) := by decide +kernel
theorem dX11_count_11 : decode cX11_count 11 = .ok (.invokevirtual 164, 3) := by decide +kernel
theorem dX11_count_14 : decode cX11_count 14 = .ok (.ifCond .eq 19, 3) := by decide +kernel
theorem dX11_count_17 : decode cX11_count 17 = .ok (.aload_n 0, 1) := by decide +kernel
theorem dX11_count_18 : decode cX11_count 18 = .ok (.getfield 82, 3) := by decide +kernel
theorem dX11_count_21 : decode cX11_count 21 = .ok (.iload_n 1, 1) := by decide +kernel
theorem dX11_count_22 : decode cX11_count 22 = .ok (.bipush 10, 2) := by decide +kernel
theorem dX11_count_24 : decode cX11_count 24 = .ok (.isub, 1) := by decide +kernel
theorem dX11_count_25 : decode cX11_count 25 = .ok (.aaload, 1) := by decide +kernel
theorem dX11_count_26 : decode cX11_count 26 = .ok (.getfield 263, 3) := by decide +kernel
theorem dX11_count_29 : decode cX11_count 29 = .ok (.invokestatic 250, 3) := by decide +kernel
theorem dX11_count_32 : decode cX11_count 32 = .ok (.ireturn, 1) := by decide +kernel
theorem dX11_count_33 : decode cX11_count 33 = .ok (.iload_n 1, 1) := by decide +kernel
theorem dX11_count_34 : decode cX11_count 34 = .ok (.tableswitch 92 0 6 #[42, 50, 58, 63, 71, 79, 84], 42) := by decide +kernel
theorem dX11_count_76 : decode cX11_count 76 = .ok (.aload_n 0, 1) := by decide +kernel
theorem dX11_count_77 : decode cX11_count 77 = .ok (.getfield 40, 3) := by decide +kernel
theorem dX11_count_80 : decode cX11_count 80 = .ok (.getfield 137, 3) := by decide +kernel
theorem dX11_count_83 : decode cX11_count 83 = .ok (.ireturn, 1) := by decide +kernel
theorem dX11_count_84 : decode cX11_count 84 = .ok (.aload_n 0, 1) := by decide +kernel
theorem dX11_count_85 : decode cX11_count 85 = .ok (.getfield 40, 3) := by decide +kernel
theorem dX11_count_88 : decode cX11_count 88 = .ok (.getfield 150, 3) := by decide +kernel
theorem dX11_count_91 : decode cX11_count 91 = .ok (.ireturn, 1) := by decide +kernel
theorem dX11_count_92 : decode cX11_count 92 = .ok (.aload_n 0, 1) := by decide +kernel
theorem dX11_count_93 : decode cX11_count 93 = .ok (.getfield 89, 3) := by decide +kernel
theorem dX11_count_96 : decode cX11_count 96 = .ok (.ireturn, 1) := by decide +kernel
theorem dX11_count_97 : decode cX11_count 97 = .ok (.aload_n 0, 1) := by decide +kernel
theorem dX11_count_98 : decode cX11_count 98 = .ok (.getfield 49, 3) := by decide +kernel
theorem dX11_count_101 : decode cX11_count 101 = .ok (.getfield 195, 3) := by decide +kernel
theorem dX11_count_104 : decode cX11_count 104 = .ok (.ireturn, 1) := by decide +kernel
theorem dX11_count_105 : decode cX11_count 105 = .ok (.aload_n 0, 1) := by decide +kernel
theorem dX11_count_106 : decode cX11_count 106 = .ok (.getfield 19, 3) := by decide +kernel
theorem dX11_count_109 : decode cX11_count 109 = .ok (.getfield 266, 3) := by decide +kernel
theorem dX11_count_112 : decode cX11_count 112 = .ok (.ireturn, 1) := by decide +kernel
theorem dX11_count_113 : decode cX11_count 113 = .ok (.aload_n 0, 1) := by decide +kernel
theorem dX11_count_114 : decode cX11_count 114 = .ok (.getfield 93, 3) := by decide +kernel
theorem dX11_count_117 : decode cX11_count 117 = .ok (.ireturn, 1) := by decide +kernel
theorem dX11_count_118 : decode cX11_count 118 = .ok (.aload_n 0, 1) := by decide +kernel
theorem dX11_count_119 : decode cX11_count 119 = .ok (.getfield 10, 3) := by decide +kernel
theorem dX11_count_122 : decode cX11_count 122 = .ok (.getfield 99, 3) := by decide +kernel
theorem dX11_count_125 : decode cX11_count 125 = .ok (.ireturn, 1) := by decide +kernel
theorem dX11_count_126 : decode cX11_count 126 = .ok (.iconst (-1), 1) := by decide +kernel
theorem dX11_count_127 : decode cX11_count 127 = .ok (.ireturn, 1) := by decide +kernel
theorem dX11_isWithin_0 : decode cX11_isWithin 0 = .ok (.iload_n 0, 1) := by decide +kernel
theorem dX11_isWithin_1 : decode cX11_isWithin 1 = .ok (.iload_n 1, 1) := by decide +kernel
theorem dX11_isWithin_2 : decode cX11_isWithin 2 = .ok (.if_icmp .lt 12, 3) := by decide +kernel
theorem dX11_isWithin_5 : decode cX11_isWithin 5 = .ok (.iload_n 0, 1) := by decide +kernel
theorem dX11_isWithin_6 : decode cX11_isWithin 6 = .ok (.iload_n 2, 1) := by decide +kernel
theorem dX11_isWithin_7 : decode cX11_isWithin 7 = .ok (.if_icmp .gt 7, 3) := by decide +kernel
theorem dX11_isWithin_10 : decode cX11_isWithin 10 = .ok (.iconst 1, 1) := by decide +kernel
theorem dX11_isWithin_11 : decode cX11_isWithin 11 = .ok (.goto 4, 3) := by decide +kernel
theorem dX11_isWithin_14 : decode cX11_isWithin 14 = .ok (.iconst 0, 1) := by decide +kernel
theorem dX11_isWithin_15 : decode cX11_isWithin 15 = .ok (.ireturn, 1) := by decide +kernel
set_option maxRecDepth 20000 in
theorem ggX11_isPerson_X11_isWithin : GoodIn wsX11_isPerson wsX11_isWithin := goodIn_r _ [4] (by decide +kernel) (by decide +kernel)
set_option maxRecDepth 20000 in
theorem gX11_isPerson_X11_isWithin : GoodIn wsX11_isPerson (va_wsS RX11 133 yX11_isWithin wsX11_isWithin) := goodIn_app (goodIn_of _ (by decide +kernel)) ggX11_isPerson_X11_isWithin
theorem dX11_isPerson_0 : decode cX11_isPerson 0 = .ok (.iload_n 0, 1) := by decide +kernel
theorem dX11_isPerson_1 : decode cX11_isPerson 1 = .ok (.iconst 0, 1) := by decide +kernel
theorem dX11_isPerson_2 : decode cX11_isPerson 2 = .ok (.bipush 11, 2) := by decide +kernel
theorem dX11_isPerson_4 : decode cX11_isPerson 4 = .ok (.invokestatic 133, 3) := by decide +kernel
theorem dX11_isPerson_7 : decode cX11_isPerson 7 = .ok (.ireturn, 1) := by decide +kernel
set_option maxRecDepth 20000 in
theorem ggX11_isDay_X11_isWithin : GoodIn wsX11_isDay wsX11_isWithin := goodIn_r _ [4] (by decide +kernel) (by decide +kernel)
set_option maxRecDepth 20000 in
theorem gX11_isDay_X11_isWithin : GoodIn wsX11_isDay (va_wsS RX11 133 yX11_isWithin wsX11_isWithin) := goodIn_app (goodIn_of _ (by decide +kernel)) ggX11_isDay_X11_isWithin
theorem dX11_isDay_0 : decode cX11_isDay 0 = .ok (.iload_n 0, 1) := by decide +kernel
theorem dX11_isDay_1 : decode cX11_isDay 1 = .ok (.iconst 0, 1) := by decide +kernel
theorem dX11_isDay_2 : decode cX11_isDay 2 = .ok (.sipush 9999, 3) := by decide +kernel
theorem dX11_isDay_5 : decode cX11_isDay 5 = .ok (.invokestatic 133, 3) := by decide +kernel
theorem dX11_isDay_8 : decode cX11_isDay 8 = .ok (.ireturn, 1) := by decide +kernel
set_option maxRecDepth 20000 in
theorem ggX11_isBreed_X11_isWithin : GoodIn wsX11_isBreed wsX11_isWithin := goodIn_r _ [5] (by decide +kernel) (by decide +kernel)
set_option maxRecDepth 20000 in
theorem gX11_isBreed_X11_isWithin : GoodIn wsX11_isBreed (va_wsS RX11 133 yX11_isWithin wsX11_isWithin) := goodIn_app (goodIn_of _ (by decide +kernel)) ggX11_isBreed_X11_isWithin
theorem dX11_isBreed_0 : decode cX11_isBreed 0 = .ok (.iload_n 1, 1) := by decide +kernel
theorem dX11_isBreed_1 : decode cX11_isBreed 1 = .ok (.iconst 0, 1) := by decide +kernel
theorem dX11_isBreed_2 : decode cX11_isBreed 2 = .ok (.aload_n 0, 1) := by decide +kernel
theorem dX11_isBreed_3 : decode cX11_isBreed 3 = .ok (.getfield 40, 3) := by decide +kernel
theorem dX11_isBreed_6 : decode cX11_isBreed 6 = .ok (.getfield 137, 3) := by decide +kernel
theorem dX11_isBreed_9 : decode cX11_isBreed 9 = .ok (.iconst 1, 1) := by decide +kernel
theorem dX11_isBreed_10 : decode cX11_isBreed 10 = .ok (.isub, 1) := by decide +kernel
theorem dX11_isBreed_11 : decode cX11_isBreed 11 = .ok (.invokestatic 133, 3) := by decide +kernel
theorem dX11_isBreed_14 : decode cX11_isBreed 14 = .ok (.ireturn, 1) := by decide +kernel
set_option maxRecDepth 20000 in
theorem ggX11_isDog_X11_isWithin : GoodIn wsX11_isDog wsX11_isWithin := goodIn_r _ [5] (by decide +kernel) (by decide +kernel)
set_option maxRecDepth 20000 in
theorem gX11_isDog_X11_isWithin : GoodIn wsX11_isDog (va_wsS RX11 133 yX11_isWithin wsX11_isWithin) := goodIn_app (goodIn_of _ (by decide +kernel)) ggX11_isDog_X11_isWithin
theorem dX11_isDog_0 : decode cX11_isDog 0 = .ok (.iload_n 1, 1) := by decide +kernel
theorem dX11_isDog_1 : decode cX11_isDog 1 = .ok (.iconst 0, 1) := by decide +kernel
theorem dX11_isDog_2 : decode cX11_isDog 2 = .ok (.aload_n 0, 1) := by decide +kernel
theorem dX11_isDog_3 : decode cX11_isDog 3 = .ok (.getfield 40, 3) := by decide +kernel
theorem dX11_isDog_6 : decode cX11_isDog 6 = .ok (.getfield 150, 3) := by decide +kernel
theorem dX11_isDog_9 : decode cX11_isDog 9 = .ok (.iconst 1, 1) := by decide +kernel
theorem dX11_isDog_10 : decode cX11_isDog 10 = .ok (.isub, 1) := by decide +kernel
theorem dX11_isDog_11 : decode cX11_isDog 11 = .ok (.invokestatic 133, 3) := by decide +kernel
theorem dX11_isDog_14 : decode cX11_isDog 14 = .ok (.ireturn, 1) := by decide +kernel
set_option maxRecDepth 20000 in
theorem ggX11_isShow_X11_isWithin : GoodIn wsX11_isShow wsX11_isWithin := goodIn_r _ [5] (by decide +kernel) (by decide +kernel)
set_option maxRecDepth 20000 in
theorem gX11_isShow_X11_isWithin : GoodIn wsX11_isShow (va_wsS RX11 133 yX11_isWithin wsX11_isWithin) := goodIn_app (goodIn_of _ (by decide +kernel)) ggX11_isShow_X11_isWithin
theorem dX11_isShow_0 : decode cX11_isShow 0 = .ok (.iload_n 1, 1) := by decide +kernel
theorem dX11_isShow_1 : decode cX11_isShow 1 = .ok (.iconst 0, 1) := by decide +kernel
theorem dX11_isShow_2 : decode cX11_isShow 2 = .ok (.aload_n 0, 1) := by decide +kernel
theorem dX11_isShow_3 : decode cX11_isShow 3 = .ok (.getfield 89, 3) := by decide +kernel
theorem dX11_isShow_6 : decode cX11_isShow 6 = .ok (.iconst 1, 1) := by decide +kernel
theorem dX11_isShow_7 : decode cX11_isShow 7 = .ok (.isub, 1) := by decide +kernel
theorem dX11_isShow_8 : decode cX11_isShow 8 = .ok (.invokestatic 133, 3) := by decide +kernel
theorem dX11_isShow_11 : decode cX11_isShow 11 = .ok (.ireturn, 1) := by decide +kernel
set_option maxRecDepth 20000 in
theorem ggX11_isKnown_X11_isWithin : GoodIn wsX11_isKnown wsX11_isWithin := goodIn_r _ [5] (by decide +kernel) (by decide +kernel)
set_option maxRecDepth 20000 in
theorem gX11_isKnown_X11_isWithin : GoodIn wsX11_isKnown (va_wsS RX11 133 yX11_isWithin wsX11_isWithin) := goodIn_app (goodIn_of _ (by decide +kernel)) ggX11_isKnown_X11_isWithin
theorem dX11_isKnown_0 : decode cX11_isKnown 0 = .ok (.iload_n 1, 1) := by decide +kernel
theorem dX11_isKnown_1 : decode cX11_isKnown 1 = .ok (.iconst 0, 1) := by decide +kernel
theorem dX11_isKnown_2 : decode cX11_isKnown 2 = .ok (.aload_n 0, 1) := by decide +kernel
theorem dX11_isKnown_3 : decode cX11_isKnown 3 = .ok (.getfield 49, 3) := by decide +kernel
theorem dX11_isKnown_6 : decode cX11_isKnown 6 = .ok (.getfield 195, 3) := by decide +kernel
theorem dX11_isKnown_9 : decode cX11_isKnown 9 = .ok (.invokestatic 133, 3) := by decide +kernel
theorem dX11_isKnown_12 : decode cX11_isKnown 12 = .ok (.ireturn, 1) := by decide +kernel
set_option maxRecDepth 20000 in
theorem ggX11_isFactValue_X11_isWithin : GoodIn wsX11_isFactValue wsX11_isWithin := goodIn_r _ [4] (by decide +kernel) (by decide +kernel)
set_option maxRecDepth 20000 in
theorem gX11_isFactValue_X11_isWithin : GoodIn wsX11_isFactValue (va_wsS RX11 133 yX11_isWithin wsX11_isWithin) := goodIn_app (goodIn_of _ (by decide +kernel)) ggX11_isFactValue_X11_isWithin
theorem dX11_isFactValue_0 : decode cX11_isFactValue 0 = .ok (.iload_n 0, 1) := by decide +kernel
theorem dX11_isFactValue_1 : decode cX11_isFactValue 1 = .ok (.tableswitch 67 0 3 #[31, 39, 49, 59], 31) := by decide +kernel
theorem dX11_isFactValue_32 : decode cX11_isFactValue 32 = .ok (.iload_n 1, 1) := by decide +kernel
theorem dX11_isFactValue_33 : decode cX11_isFactValue 33 = .ok (.iconst 1, 1) := by decide +kernel
theorem dX11_isFactValue_34 : decode cX11_isFactValue 34 = .ok (.bipush 20, 2) := by decide +kernel
theorem dX11_isFactValue_36 : decode cX11_isFactValue 36 = .ok (.invokestatic 133, 3) := by decide +kernel
theorem dX11_isFactValue_39 : decode cX11_isFactValue 39 = .ok (.ireturn, 1) := by decide +kernel
theorem dX11_isFactValue_40 : decode cX11_isFactValue 40 = .ok (.iload_n 1, 1) := by decide +kernel
theorem dX11_isFactValue_41 : decode cX11_isFactValue 41 = .ok (.ifCond .ne 7, 3) := by decide +kernel
theorem dX11_isFactValue_44 : decode cX11_isFactValue 44 = .ok (.iconst 1, 1) := by decide +kernel
theorem dX11_isFactValue_45 : decode cX11_isFactValue 45 = .ok (.goto 4, 3) := by decide +kernel
theorem dX11_isFactValue_48 : decode cX11_isFactValue 48 = .ok (.iconst 0, 1) := by decide +kernel
theorem dX11_isFactValue_49 : decode cX11_isFactValue 49 = .ok (.ireturn, 1) := by decide +kernel
theorem dX11_isFactValue_50 : decode cX11_isFactValue 50 = .ok (.iload_n 1, 1) := by decide +kernel
theorem dX11_isFactValue_51 : decode cX11_isFactValue 51 = .ok (.ifCond .ne 7, 3) := by decide +kernel
theorem dX11_isFactValue_54 : decode cX11_isFactValue 54 = .ok (.iconst 1, 1) := by decide +kernel
theorem dX11_isFactValue_55 : decode cX11_isFactValue 55 = .ok (.goto 4, 3) := by decide +kernel
theorem dX11_isFactValue_58 : decode cX11_isFactValue 58 = .ok (.iconst 0, 1) := by decide +kernel
theorem dX11_isFactValue_59 : decode cX11_isFactValue 59 = .ok (.ireturn, 1) := by decide +kernel
theorem dX11_isFactValue_60 : decode cX11_isFactValue 60 = .ok (.iload_n 1, 1) := by decide +kernel
theorem dX11_isFactValue_61 : decode cX11_isFactValue 61 = .ok (.iconst 0, 1) := by decide +kernel
theorem dX11_isFactValue_62 : decode cX11_isFactValue 62 = .ok (.bipush 99, 2) := by decide +kernel
theorem dX11_isFactValue_64 : decode cX11_isFactValue 64 = .ok (.invokestatic 133, 3) := by decide +kernel
theorem dX11_isFactValue_67 : decode cX11_isFactValue 67 = .ok (.ireturn, 1) := by decide +kernel
theorem dX11_isFactValue_68 : decode cX11_isFactValue 68 = .ok (.iconst 0, 1) := by decide +kernel
theorem dX11_isFactValue_69 : decode cX11_isFactValue 69 = .ok (.ireturn, 1) := by decide +kernel
set_option maxRecDepth 20000 in
theorem ggX11_handlersInTwoRings_X10_has : GoodIn wsX11_handlersInTwoRings wsX10_has := goodIn_r _ [6, 7, 8, 9, 5, 10, 11, 12, 13, 14, 61] (by decide +kernel) (by decide +kernel)
set_option maxRecDepth 20000 in
theorem gX11_handlersInTwoRings_X10_has : GoodIn wsX11_handlersInTwoRings (wsV RX11 184 RX10 yX10_has wsX10_has) := goodIn_app (goodIn_of _ (by decide +kernel)) ggX11_handlersInTwoRings_X10_has
set_option maxRecDepth 20000 in
theorem ggX11_handlersInTwoRings_X10_at : GoodIn wsX11_handlersInTwoRings wsX10_at := goodIn_r _ [10, 11, 12, 13, 14, 61] (by decide +kernel) (by decide +kernel)
set_option maxRecDepth 20000 in
theorem gX11_handlersInTwoRings_X10_at : GoodIn wsX11_handlersInTwoRings (wsV RX11 217 RX10 yX10_at wsX10_at) := goodIn_app (goodIn_of _ (by decide +kernel)) ggX11_handlersInTwoRings_X10_at
set_option maxRecDepth 20000 in
theorem ggX11_handlersInTwoRings_X2_ofBreed : GoodIn wsX11_handlersInTwoRings wsX2_ofBreed := goodIn_r _ [20, 21, 22, 48, 49, 50, 51, 52, 53, 54, 55, 56, 57, 58, 59, 60] (by decide +kernel) (by decide +kernel)
set_option maxRecDepth 20000 in
theorem gX11_handlersInTwoRings_X2_ofBreed : GoodIn wsX11_handlersInTwoRings (wsV RX11 269 RX2 yX2_ofBreed wsX2_ofBreed) := goodIn_app (goodIn_of _ (by decide +kernel)) ggX11_handlersInTwoRings_X2_ofBreed
set_option maxRecDepth 20000 in
theorem ggX11_handlersInTwoRings_X2_handlersOf : GoodIn wsX11_handlersInTwoRings wsX2_handlersOf := goodIn_r _ [26, 21, 27, 48, 49, 50, 51, 52, 53, 54, 55, 56, 57, 58, 59, 60] (by decide +kernel) (by decide +kernel)
set_option maxRecDepth 20000 in
theorem gX11_handlersInTwoRings_X2_handlersOf : GoodIn wsX11_handlersInTwoRings (wsV RX11 272 RX2 yX2_handlersOf wsX2_handlersOf) := goodIn_app (goodIn_of _ (by decide +kernel)) ggX11_handlersInTwoRings_X2_handlersOf
set_option maxRecDepth 20000 in
theorem ggX11_handlersInTwoRings_X10_overlaps : GoodIn wsX11_handlersInTwoRings wsX10_overlaps := goodIn_r _ [31, 11, 61] (by decide +kernel) (by decide +kernel)
set_option maxRecDepth 20000 in
theorem gX11_handlersInTwoRings_X10_overlaps : GoodIn wsX11_handlersInTwoRings (wsV RX11 275 RX10 yX10_overlaps wsX10_overlaps) := goodIn_app (goodIn_of _ (by decide +kernel)) ggX11_handlersInTwoRings_X10_overlaps
theorem dX11_handlersInTwoRings_0 : decode cX11_handlersInTwoRings 0 = .ok (.aload_n 1, 1) := by decide +kernel
theorem dX11_handlersInTwoRings_1 : decode cX11_handlersInTwoRings 1 = .ok (.getfield 177, 3) := by decide +kernel
theorem dX11_handlersInTwoRings_4 : decode cX11_handlersInTwoRings 4 = .ok (.astore 4, 2) := by decide +kernel
theorem dX11_handlersInTwoRings_6 : decode cX11_handlersInTwoRings 6 = .ok (.aload 4, 2) := by decide +kernel
theorem dX11_handlersInTwoRings_8 : decode cX11_handlersInTwoRings 8 = .ok (.iload_n 2, 1) := by decide +kernel
theorem dX11_handlersInTwoRings_9 : decode cX11_handlersInTwoRings 9 = .ok (.invokevirtual 184, 3) := by decide +kernel
theorem dX11_handlersInTwoRings_12 : decode cX11_handlersInTwoRings 12 = .ok (.ifCond .ne 5, 3) := by decide +kernel
theorem dX11_handlersInTwoRings_15 : decode cX11_handlersInTwoRings 15 = .ok (.iconst 0, 1) := by decide +kernel
theorem dX11_handlersInTwoRings_16 : decode cX11_handlersInTwoRings 16 = .ok (.ireturn, 1) := by decide +kernel
theorem dX11_handlersInTwoRings_17 : decode cX11_handlersInTwoRings 17 = .ok (.iload_n 3, 1) := by decide +kernel
theorem dX11_handlersInTwoRings_18 : decode cX11_handlersInTwoRings 18 = .ok (.aload 4, 2) := by decide +kernel
theorem dX11_handlersInTwoRings_20 : decode cX11_handlersInTwoRings 20 = .ok (.iload_n 2, 1) := by decide +kernel
theorem dX11_handlersInTwoRings_21 : decode cX11_handlersInTwoRings 21 = .ok (.iconst 3, 1) := by decide +kernel
theorem dX11_handlersInTwoRings_22 : decode cX11_handlersInTwoRings 22 = .ok (.invokevirtual 217, 3) := by decide +kernel
theorem dX11_handlersInTwoRings_25 : decode cX11_handlersInTwoRings 25 = .ok (.iadd, 1) := by decide +kernel
theorem dX11_handlersInTwoRings_26 : decode cX11_handlersInTwoRings 26 = .ok (.aload 4, 2) := by decide +kernel
theorem dX11_handlersInTwoRings_28 : decode cX11_handlersInTwoRings 28 = .ok (.iload_n 2, 1) := by decide +kernel
theorem dX11_handlersInTwoRings_29 : decode cX11_handlersInTwoRings 29 = .ok (.iconst 2, 1) := by decide +kernel
theorem dX11_handlersInTwoRings_30 : decode cX11_handlersInTwoRings 30 = .ok (.invokevirtual 217, 3) := by decide +kernel
theorem dX11_handlersInTwoRings_33 : decode cX11_handlersInTwoRings 33 = .ok (.isub, 1) := by decide +kernel
theorem dX11_handlersInTwoRings_34 : decode cX11_handlersInTwoRings 34 = .ok (.istore 5, 2) := by decide +kernel
theorem dX11_handlersInTwoRings_36 : decode cX11_handlersInTwoRings 36 = .ok (.aload_n 0, 1) := by decide +kernel
theorem dX11_handlersInTwoRings_37 : decode cX11_handlersInTwoRings 37 = .ok (.getfield 40, 3) := by decide +kernel
theorem dX11_handlersInTwoRings_40 : decode cX11_handlersInTwoRings 40 = .ok (.aload_n 0, 1) := by decide +kernel
theorem dX11_handlersInTwoRings_41 : decode cX11_handlersInTwoRings 41 = .ok (.getfield 40, 3) := by decide +kernel
theorem dX11_handlersInTwoRings_44 : decode cX11_handlersInTwoRings 44 = .ok (.aload_n 1, 1) := by decide +kernel
theorem dX11_handlersInTwoRings_45 : decode cX11_handlersInTwoRings 45 = .ok (.getfield 263, 3) := by decide +kernel
theorem dX11_handlersInTwoRings_48 : decode cX11_handlersInTwoRings 48 = .ok (.iload_n 2, 1) := by decide +kernel
theorem dX11_handlersInTwoRings_49 : decode cX11_handlersInTwoRings 49 = .ok (.invokevirtual 269, 3) := by decide +kernel
theorem dX11_handlersInTwoRings_52 : decode cX11_handlersInTwoRings 52 = .ok (.invokevirtual 272, 3) := by decide +kernel
theorem dX11_handlersInTwoRings_55 : decode cX11_handlersInTwoRings 55 = .ok (.istore 6, 2) := by decide +kernel
theorem dX11_handlersInTwoRings_57 : decode cX11_handlersInTwoRings 57 = .ok (.iconst 0, 1) := by decide +kernel
theorem dX11_handlersInTwoRings_58 : decode cX11_handlersInTwoRings 58 = .ok (.istore 7, 2) := by decide +kernel
theorem dX11_handlersInTwoRings_60 : decode cX11_handlersInTwoRings 60 = .ok (.iconst 0, 1) := by decide +kernel
theorem dX11_handlersInTwoRings_61 : decode cX11_handlersInTwoRings 61 = .ok (.istore 8, 2) := by decide +kernel
theorem dX11_handlersInTwoRings_63 : decode cX11_handlersInTwoRings 63 = .ok (.iload 8, 2) := by decide +kernel
theorem dX11_handlersInTwoRings_65 : decode cX11_handlersInTwoRings 65 = .ok (.aload_n 0, 1) := by decide +kernel
theorem dX11_handlersInTwoRings_66 : decode cX11_handlersInTwoRings 66 = .ok (.getfield 40, 3) := by decide +kernel
theorem dX11_handlersInTwoRings_69 : decode cX11_handlersInTwoRings 69 = .ok (.getfield 137, 3) := by decide +kernel
theorem dX11_handlersInTwoRings_72 : decode cX11_handlersInTwoRings 72 = .ok (.if_icmp .ge 53, 3) := by decide +kernel
theorem dX11_handlersInTwoRings_75 : decode cX11_handlersInTwoRings 75 = .ok (.iload 8, 2) := by decide +kernel
theorem dX11_handlersInTwoRings_77 : decode cX11_handlersInTwoRings 77 = .ok (.iload_n 2, 1) := by decide +kernel
theorem dX11_handlersInTwoRings_78 : decode cX11_handlersInTwoRings 78 = .ok (.if_icmp .eq 41, 3) := by decide +kernel
theorem dX11_handlersInTwoRings_81 : decode cX11_handlersInTwoRings 81 = .ok (.aload 4, 2) := by decide +kernel
theorem dX11_handlersInTwoRings_83 : decode cX11_handlersInTwoRings 83 = .ok (.iload 8, 2) := by decide +kernel
theorem dX11_handlersInTwoRings_85 : decode cX11_handlersInTwoRings 85 = .ok (.iload_n 3, 1) := by decide +kernel
theorem dX11_handlersInTwoRings_86 : decode cX11_handlersInTwoRings 86 = .ok (.iload 5, 2) := by decide +kernel
theorem dX11_handlersInTwoRings_88 : decode cX11_handlersInTwoRings 88 = .ok (.invokevirtual 275, 3) := by decide +kernel
theorem dX11_handlersInTwoRings_91 : decode cX11_handlersInTwoRings 91 = .ok (.ifCond .eq 28, 3) := by decide +kernel
theorem dX11_handlersInTwoRings_94 : decode cX11_handlersInTwoRings 94 = .ok (.iload 7, 2) := by decide +kernel
theorem dX11_handlersInTwoRings_96 : decode cX11_handlersInTwoRings 96 = .ok (.aload_n 0, 1) := by decide +kernel
theorem dX11_handlersInTwoRings_97 : decode cX11_handlersInTwoRings 97 = .ok (.getfield 40, 3) := by decide +kernel
theorem dX11_handlersInTwoRings_100 : decode cX11_handlersInTwoRings 100 = .ok (.aload_n 0, 1) := by decide +kernel
theorem dX11_handlersInTwoRings_101 : decode cX11_handlersInTwoRings 101 = .ok (.getfield 40, 3) := by decide +kernel
theorem dX11_handlersInTwoRings_104 : decode cX11_handlersInTwoRings 104 = .ok (.aload_n 1, 1) := by decide +kernel
theorem dX11_handlersInTwoRings_105 : decode cX11_handlersInTwoRings 105 = .ok (.getfield 263, 3) := by decide +kernel
theorem dX11_handlersInTwoRings_108 : decode cX11_handlersInTwoRings 108 = .ok (.iload 8, 2) := by decide +kernel
theorem dX11_handlersInTwoRings_110 : decode cX11_handlersInTwoRings 110 = .ok (.invokevirtual 269, 3) := by decide +kernel
theorem dX11_handlersInTwoRings_113 : decode cX11_handlersInTwoRings 113 = .ok (.invokevirtual 272, 3) := by decide +kernel
theorem dX11_handlersInTwoRings_116 : decode cX11_handlersInTwoRings 116 = .ok (.ior, 1) := by decide +kernel
theorem dX11_handlersInTwoRings_117 : decode cX11_handlersInTwoRings 117 = .ok (.istore 7, 2) := by decide +kernel
theorem dX11_handlersInTwoRings_119 : decode cX11_handlersInTwoRings 119 = .ok (.iinc 8 1, 3) := by decide +kernel
theorem dX11_handlersInTwoRings_122 : decode cX11_handlersInTwoRings 122 = .ok (.goto (-59), 3) := by decide +kernel
theorem dX11_handlersInTwoRings_125 : decode cX11_handlersInTwoRings 125 = .ok (.iload 6, 2) := by decide +kernel
theorem dX11_handlersInTwoRings_127 : decode cX11_handlersInTwoRings 127 = .ok (.iload 7, 2) := by decide +kernel
theorem dX11_handlersInTwoRings_129 : decode cX11_handlersInTwoRings 129 = .ok (.iand, 1) := by decide +kernel
theorem dX11_handlersInTwoRings_130 : decode cX11_handlersInTwoRings 130 = .ok (.ireturn, 1) := by decide +kernel
set_option maxRecDepth 20000 in
theorem ggX12_init_X12_word : GoodIn wsX12_init wsX12_word := goodIn_r _ [70, 71, 72, 69, 73, 74] (by decide +kernel) (by decide +kernel)
set_option maxRecDepth 20000 in
theorem gX12_init_X12_word : GoodIn wsX12_init (va_wsS RX12 191 yX12_word wsX12_word) := goodIn_app (goodIn_of _ (by decide +kernel)) ggX12_init_X12_word
theorem dX12_init_0 : decode cX12_init 0 = .ok (.aload_n 0, 1) := by decide +kernel
theorem dX12_init_1 : decode cX12_init 1 = .ok (.invokespecial 7, 3) := by decide +kernel
theorem dX12_init_4 : decode cX12_init 4 = .ok (.aload_n 0, 1) := by decide +kernel
theorem dX12_init_5 : decode cX12_init 5 = .ok (.sipush 2000, 3) := by decide +kernel
theorem dX12_init_8 : decode cX12_init 8 = .ok (.newarray .byte, 2) := by decide +kernel
theorem dX12_init_10 : decode cX12_init 10 = .ok (.putfield 13, 3) := by decide +kernel
theorem dX12_init_13 : decode cX12_init 13 = .ok (.aload_n 0, 1) := by decide +kernel
theorem dX12_init_14 : decode cX12_init 14 = .ok (.sipush 2000, 3) := by decide +kernel
theorem dX12_init_17 : decode cX12_init 17 = .ok (.newarray .byte, 2) := by decide +kernel
theorem dX12_init_19 : decode cX12_init 19 = .ok (.putfield 17, 3) := by decide +kernel
theorem dX12_init_22 : decode cX12_init 22 = .ok (.aload_n 0, 1) := by decide +kernel
theorem dX12_init_23 : decode cX12_init 23 = .ok (.sipush 403, 3) := by decide +kernel
theorem dX12_init_26 : decode cX12_init 26 = .ok (.newarray .int, 2) := by decide +kernel
theorem dX12_init_28 : decode cX12_init 28 = .ok (.putfield 20, 3) := by decide +kernel
theorem dX12_init_31 : decode cX12_init 31 = .ok (.aload_n 0, 1) := by decide +kernel
theorem dX12_init_32 : decode cX12_init 32 = .ok (.sipush 403, 3) := by decide +kernel
theorem dX12_init_35 : decode cX12_init 35 = .ok (.newarray .int, 2) := by decide +kernel
theorem dX12_init_37 : decode cX12_init 37 = .ok (.putfield 24, 3) := by decide +kernel
theorem dX12_init_40 : decode cX12_init 40 = .ok (.aload_n 0, 1) := by decide +kernel
theorem dX12_init_41 : decode cX12_init 41 = .ok (.sipush 403, 3) := by decide +kernel
theorem dX12_init_44 : decode cX12_init 44 = .ok (.newarray .int, 2) := by decide +kernel
theorem dX12_init_46 : decode cX12_init 46 = .ok (.putfield 27, 3) := by decide +kernel
theorem dX12_init_49 : decode cX12_init 49 = .ok (.aload_n 0, 1) := by decide +kernel
theorem dX12_init_50 : decode cX12_init 50 = .ok (.sipush 403, 3) := by decide +kernel
theorem dX12_init_53 : decode cX12_init 53 = .ok (.newarray .long, 2) := by decide +kernel
theorem dX12_init_55 : decode cX12_init 55 = .ok (.putfield 30, 3) := by decide +kernel
theorem dX12_init_58 : decode cX12_init 58 = .ok (.aload_n 0, 1) := by decide +kernel
theorem dX12_init_59 : decode cX12_init 59 = .ok (.bipush 16, 2) := by decide +kernel
theorem dX12_init_61 : decode cX12_init 61 = .ok (.newarray .long, 2) := by decide +kernel
theorem dX12_init_63 : decode cX12_init 63 = .ok (.putfield 34, 3) := by decide +kernel
theorem dX12_init_66 : decode cX12_init 66 = .ok (.aload_n 0, 1) := by decide +kernel
theorem dX12_init_67 : decode cX12_init 67 = .ok (.iconst (-1), 1) := by decide +kernel
theorem dX12_init_68 : decode cX12_init 68 = .ok (.putfield 37, 3) := by decide +kernel
theorem dX12_init_71 : decode cX12_init 71 = .ok (.aload_n 0, 1) := by decide +kernel
theorem dX12_init_72 : decode cX12_init 72 = .ok (.iconst 2, 1) := by decide +kernel
theorem dX12_init_73 : decode cX12_init 73 = .ok (.newarray .int, 2) := by decide +kernel
theorem dX12_init_75 : decode cX12_init 75 = .ok (.putfield 40, 3) := by decide +kernel
theorem dX12_init_78 : decode cX12_init 78 = .ok (.aload_n 0, 1) := by decide +kernel
theorem dX12_init_79 : decode cX12_init 79 = .ok (.bipush 32, 2) := by decide +kernel
theorem dX12_init_81 : decode cX12_init 81 = .ok (.newarray .int, 2) := by decide +kernel
theorem dX12_init_83 : decode cX12_init 83 = .ok (.putfield 43, 3) := by decide +kernel
theorem dX12_init_86 : decode cX12_init 86 = .ok (.aload_n 0, 1) := by decide +kernel
theorem dX12_init_87 : decode cX12_init 87 = .ok (.bipush 32, 2) := by decide +kernel
theorem dX12_init_89 : decode cX12_init 89 = .ok (.newarray .int, 2) := by decide +kernel
theorem dX12_init_91 : decode cX12_init 91 = .ok (.putfield 46, 3) := by decide +kernel
theorem dX12_init_94 : decode cX12_init 94 = .ok (.aload_n 0, 1) := by decide +kernel
theorem dX12_init_95 : decode cX12_init 95 = .ok (.bipush 32, 2) := by decide +kernel
theorem dX12_init_97 : decode cX12_init 97 = .ok (.newarray .int, 2) := by decide +kernel
theorem dX12_init_99 : decode cX12_init 99 = .ok (.putfield 49, 3) := by decide +kernel
theorem dX12_init_102 : decode cX12_init 102 = .ok (.aload_n 0, 1) := by decide +kernel
theorem dX12_init_103 : decode cX12_init 103 = .ok (.bipush 32, 2) := by decide +kernel
theorem dX12_init_105 : decode cX12_init 105 = .ok (.newarray .int, 2) := by decide +kernel
theorem dX12_init_107 : decode cX12_init 107 = .ok (.putfield 52, 3) := by decide +kernel
theorem dX12_init_110 : decode cX12_init 110 = .ok (.aload_n 0, 1) := by decide +kernel
theorem dX12_init_111 : decode cX12_init 111 = .ok (.bipush 32, 2) := by decide +kernel
theorem dX12_init_113 : decode cX12_init 113 = .ok (.newarray .int, 2) := by decide +kernel
theorem dX12_init_115 : decode cX12_init 115 = .ok (.putfield 55, 3) := by decide +kernel
theorem dX12_init_118 : decode cX12_init 118 = .ok (.aload_n 0, 1) := by decide +kernel
theorem dX12_init_119 : decode cX12_init 119 = .ok (.bipush 32, 2) := by decide +kernel
theorem dX12_init_121 : decode cX12_init 121 = .ok (.newarray .int, 2) := by decide +kernel
theorem dX12_init_123 : decode cX12_init 123 = .ok (.putfield 58, 3) := by decide +kernel
theorem dX12_init_126 : decode cX12_init 126 = .ok (.aload_n 0, 1) := by decide +kernel
theorem dX12_init_127 : decode cX12_init 127 = .ok (.bipush 32, 2) := by decide +kernel
theorem dX12_init_129 : decode cX12_init 129 = .ok (.newarray .int, 2) := by decide +kernel
theorem dX12_init_131 : decode cX12_init 131 = .ok (.putfield 61, 3) := by decide +kernel
theorem dX12_init_134 : decode cX12_init 134 = .ok (.aload_n 0, 1) := by decide +kernel
theorem dX12_init_135 : decode cX12_init 135 = .ok (.iconst 2, 1) := by decide +kernel
theorem dX12_init_136 : decode cX12_init 136 = .ok (.newarray .int, 2) := by decide +kernel
theorem dX12_init_138 : decode cX12_init 138 = .ok (.putfield 64, 3) := by decide +kernel
theorem dX12_init_141 : decode cX12_init 141 = .ok (.aload_n 0, 1) := by decide +kernel
theorem dX12_init_142 : decode cX12_init 142 = .ok (.sipush 400, 3) := by decide +kernel
theorem dX12_init_145 : decode cX12_init 145 = .ok (.newarray .int, 2) := by decide +kernel
theorem dX12_init_147 : decode cX12_init 147 = .ok (.putfield 67, 3) := by decide +kernel
theorem dX12_init_150 : decode cX12_init 150 = .ok (.aload_n 0, 1) := by decide +kernel
theorem dX12_init_151 : decode cX12_init 151 = .ok (.sipush 400, 3) := by decide +kernel
theorem dX12_init_154 : decode cX12_init 154 = .ok (.newarray .int, 2) := by decide +kernel
theorem dX12_init_156 : decode cX12_init 156 = .ok (.putfield 70, 3) := by decide +kernel
theorem dX12_init_159 : decode cX12_init 159 = .ok (.aload_n 0, 1) := by decide +kernel
theorem dX12_init_160 : decode cX12_init 160 = .ok (.sipush 400, 3) := by decide +kernel
theorem dX12_init_163 : decode cX12_init 163 = .ok (.newarray .int, 2) := by decide +kernel
theorem dX12_init_165 : decode cX12_init 165 = .ok (.putfield 73, 3) := by decide +kernel
theorem dX12_init_168 : decode cX12_init 168 = .ok (.aload_n 0, 1) := by decide +kernel
theorem dX12_init_169 : decode cX12_init 169 = .ok (.sipush 400, 3) := by decide +kernel
theorem dX12_init_172 : decode cX12_init 172 = .ok (.newarray .int, 2) := by decide +kernel
theorem dX12_init_174 : decode cX12_init 174 = .ok (.putfield 76, 3) := by decide +kernel
theorem dX12_init_177 : decode cX12_init 177 = .ok (.aload_n 0, 1) := by decide +kernel
theorem dX12_init_178 : decode cX12_init 178 = .ok (.sipush 400, 3) := by decide +kernel
theorem dX12_init_181 : decode cX12_init 181 = .ok (.newarray .boolean, 2) := by decide +kernel
theorem dX12_init_183 : decode cX12_init 183 = .ok (.putfield 79, 3) := by decide +kernel
theorem dX12_init_186 : decode cX12_init 186 = .ok (.aload_n 0, 1) := by decide +kernel
theorem dX12_init_187 : decode cX12_init 187 = .ok (.sipush 1000, 3) := by decide +kernel
theorem dX12_init_190 : decode cX12_init 190 = .ok (.newarray .int, 2) := by decide +kernel
theorem dX12_init_192 : decode cX12_init 192 = .ok (.putfield 83, 3) := by decide +kernel
theorem dX12_init_195 : decode cX12_init 195 = .ok (.aload_n 0, 1) := by decide +kernel
theorem dX12_init_196 : decode cX12_init 196 = .ok (.sipush 1000, 3) := by decide +kernel
theorem dX12_init_199 : decode cX12_init 199 = .ok (.newarray .int, 2) := by decide +kernel
theorem dX12_init_201 : decode cX12_init 201 = .ok (.putfield 86, 3) := by decide +kernel
theorem dX12_init_204 : decode cX12_init 204 = .ok (.aload_n 0, 1) := by decide +kernel
theorem dX12_init_205 : decode cX12_init 205 = .ok (.bipush 48, 2) := by decide +kernel
theorem dX12_init_207 : decode cX12_init 207 = .ok (.newarray .int, 2) := by decide +kernel
theorem dX12_init_209 : decode cX12_init 209 = .ok (.putfield 89, 3) := by decide +kernel
theorem dX12_init_212 : decode cX12_init 212 = .ok (.aload_n 0, 1) := by decide +kernel
theorem dX12_init_213 : decode cX12_init 213 = .ok (.sipush 144, 3) := by decide +kernel
theorem dX12_init_216 : decode cX12_init 216 = .ok (.newarray .boolean, 2) := by decide +kernel
theorem dX12_init_218 : decode cX12_init 218 = .ok (.putfield 92, 3) := by decide +kernel
theorem dX12_init_221 : decode cX12_init 221 = .ok (.aload_n 0, 1) := by decide +kernel
theorem dX12_init_222 : decode cX12_init 222 = .ok (.bipush 12, 2) := by decide +kernel
theorem dX12_init_224 : decode cX12_init 224 = .ok (.newarray .int, 2) := by decide +kernel
theorem dX12_init_226 : decode cX12_init 226 = .ok (.putfield 95, 3) := by decide +kernel
theorem dX12_init_229 : decode cX12_init 229 = .ok (.aload_n 0, 1) := by decide +kernel
theorem dX12_init_230 : decode cX12_init 230 = .ok (.bipush 6, 2) := by decide +kernel
theorem dX12_init_232 : decode cX12_init 232 = .ok (.newarray .int, 2) := by decide +kernel
theorem dX12_init_234 : decode cX12_init 234 = .ok (.putfield 98, 3) := by decide +kernel
theorem dX12_init_237 : decode cX12_init 237 = .ok (.aload_n 0, 1) := by decide +kernel
theorem dX12_init_238 : decode cX12_init 238 = .ok (.bipush 6, 2) := by decide +kernel
theorem dX12_init_240 : decode cX12_init 240 = .ok (.newarray .int, 2) := by decide +kernel
theorem dX12_init_242 : decode cX12_init 242 = .ok (.putfield 101, 3) := by decide +kernel
theorem dX12_init_245 : decode cX12_init 245 = .ok (.aload_n 0, 1) := by decide +kernel
theorem dX12_init_246 : decode cX12_init 246 = .ok (.bipush 6, 2) := by decide +kernel
theorem dX12_init_248 : decode cX12_init 248 = .ok (.newarray .int, 2) := by decide +kernel
theorem dX12_init_250 : decode cX12_init 250 = .ok (.putfield 104, 3) := by decide +kernel
theorem dX12_init_253 : decode cX12_init 253 = .ok (.aload_n 0, 1) := by decide +kernel
theorem dX12_init_254 : decode cX12_init 254 = .ok (.bipush 6, 2) := by decide +kernel
theorem dX12_init_256 : decode cX12_init 256 = .ok (.newarray .int, 2) := by decide +kernel
theorem dX12_init_258 : decode cX12_init 258 = .ok (.putfield 107, 3) := by decide +kernel
theorem dX12_init_261 : decode cX12_init 261 = .ok (.aload_n 0, 1) := by decide +kernel
theorem dX12_init_262 : decode cX12_init 262 = .ok (.bipush 20, 2) := by decide +kernel
theorem dX12_init_264 : decode cX12_init 264 = .ok (.newarray .int, 2) := by decide +kernel
theorem dX12_init_266 : decode cX12_init 266 = .ok (.putfield 110, 3) := by decide +kernel
theorem dX12_init_269 : decode cX12_init 269 = .ok (.aload_n 0, 1) := by decide +kernel
theorem dX12_init_270 : decode cX12_init 270 = .ok (.bipush 20, 2) := by decide +kernel
theorem dX12_init_272 : decode cX12_init 272 = .ok (.newarray .int, 2) := by decide +kernel
theorem dX12_init_274 : decode cX12_init 274 = .ok (.putfield 113, 3) := by decide +kernel
theorem dX12_init_277 : decode cX12_init 277 = .ok (.aload_n 0, 1) := by decide +kernel
theorem dX12_init_278 : decode cX12_init 278 = .ok (.bipush 20, 2) := by decide +kernel
theorem dX12_init_280 : decode cX12_init 280 = .ok (.newarray .int, 2) := by decide +kernel
theorem dX12_init_282 : decode cX12_init 282 = .ok (.putfield 116, 3) := by decide +kernel
theorem dX12_init_285 : decode cX12_init 285 = .ok (.aload_n 0, 1) := by decide +kernel
theorem dX12_init_286 : decode cX12_init 286 = .ok (.bipush 20, 2) := by decide +kernel
theorem dX12_init_288 : decode cX12_init 288 = .ok (.newarray .int, 2) := by decide +kernel
theorem dX12_init_290 : decode cX12_init 290 = .ok (.putfield 119, 3) := by decide +kernel
theorem dX12_init_293 : decode cX12_init 293 = .ok (.aload_n 0, 1) := by decide +kernel
theorem dX12_init_294 : decode cX12_init 294 = .ok (.bipush 20, 2) := by decide +kernel
theorem dX12_init_296 : decode cX12_init 296 = .ok (.newarray .int, 2) := by decide +kernel
theorem dX12_init_298 : decode cX12_init 298 = .ok (.putfield 122, 3) := by decide +kernel
theorem dX12_init_301 : decode cX12_init 301 = .ok (.aload_n 0, 1) := by decide +kernel
theorem dX12_init_302 : decode cX12_init 302 = .ok (.iconst 5, 1) := by decide +kernel
theorem dX12_init_303 : decode cX12_init 303 = .ok (.newarray .int, 2) := by decide +kernel
theorem dX12_init_305 : decode cX12_init 305 = .ok (.putfield 125, 3) := by decide +kernel
theorem dX12_init_308 : decode cX12_init 308 = .ok (.aload_n 0, 1) := by decide +kernel
theorem dX12_init_309 : decode cX12_init 309 = .ok (.bipush 100, 2) := by decide +kernel
theorem dX12_init_311 : decode cX12_init 311 = .ok (.newarray .boolean, 2) := by decide +kernel
theorem dX12_init_313 : decode cX12_init 313 = .ok (.putfield 128, 3) := by decide +kernel
theorem dX12_init_316 : decode cX12_init 316 = .ok (.aload_n 0, 1) := by decide +kernel
theorem dX12_init_317 : decode cX12_init 317 = .ok (.sipush 200, 3) := by decide +kernel
theorem dX12_init_320 : decode cX12_init 320 = .ok (.newarray .int, 2) := by decide +kernel
theorem dX12_init_322 : decode cX12_init 322 = .ok (.putfield 131, 3) := by decide +kernel
theorem dX12_init_325 : decode cX12_init 325 = .ok (.aload_n 0, 1) := by decide +kernel
theorem dX12_init_326 : decode cX12_init 326 = .ok (.sipush 200, 3) := by decide +kernel
theorem dX12_init_329 : decode cX12_init 329 = .ok (.newarray .int, 2) := by decide +kernel
theorem dX12_init_331 : decode cX12_init 331 = .ok (.putfield 134, 3) := by decide +kernel
theorem dX12_init_334 : decode cX12_init 334 = .ok (.aload_n 0, 1) := by decide +kernel
theorem dX12_init_335 : decode cX12_init 335 = .ok (.sipush 200, 3) := by decide +kernel
theorem dX12_init_338 : decode cX12_init 338 = .ok (.newarray .int, 2) := by decide +kernel
theorem dX12_init_340 : decode cX12_init 340 = .ok (.putfield 137, 3) := by decide +kernel
theorem dX12_init_343 : decode cX12_init 343 = .ok (.aload_n 0, 1) := by decide +kernel
theorem dX12_init_344 : decode cX12_init 344 = .ok (.sipush 200, 3) := by decide +kernel
theorem dX12_init_347 : decode cX12_init 347 = .ok (.newarray .int, 2) := by decide +kernel
theorem dX12_init_349 : decode cX12_init 349 = .ok (.putfield 140, 3) := by decide +kernel
theorem dX12_init_352 : decode cX12_init 352 = .ok (.aload_n 0, 1) := by decide +kernel
theorem dX12_init_353 : decode cX12_init 353 = .ok (.bipush 9, 2) := by decide +kernel
theorem dX12_init_355 : decode cX12_init 355 = .ok (.newarray .int, 2) := by decide +kernel
theorem dX12_init_357 : decode cX12_init 357 = .ok (.putfield 143, 3) := by decide +kernel
theorem dX12_init_360 : decode cX12_init 360 = .ok (.aload_n 0, 1) := by decide +kernel
theorem dX12_init_361 : decode cX12_init 361 = .ok (.sipush 500, 3) := by decide +kernel
theorem dX12_init_364 : decode cX12_init 364 = .ok (.newarray .int, 2) := by decide +kernel
theorem dX12_init_366 : decode cX12_init 366 = .ok (.putfield 146, 3) := by decide +kernel
theorem dX12_init_369 : decode cX12_init 369 = .ok (.aload_n 0, 1) := by decide +kernel
theorem dX12_init_370 : decode cX12_init 370 = .ok (.bipush 30, 2) := by decide +kernel
theorem dX12_init_372 : decode cX12_init 372 = .ok (.newarray .int, 2) := by decide +kernel
theorem dX12_init_374 : decode cX12_init 374 = .ok (.putfield 149, 3) := by decide +kernel
theorem dX12_init_377 : decode cX12_init 377 = .ok (.aload_n 0, 1) := by decide +kernel
theorem dX12_init_378 : decode cX12_init 378 = .ok (.bipush 30, 2) := by decide +kernel
theorem dX12_init_380 : decode cX12_init 380 = .ok (.newarray .int, 2) := by decide +kernel
theorem dX12_init_382 : decode cX12_init 382 = .ok (.putfield 152, 3) := by decide +kernel
theorem dX12_init_385 : decode cX12_init 385 = .ok (.aload_n 0, 1) := by decide +kernel
theorem dX12_init_386 : decode cX12_init 386 = .ok (.bipush 30, 2) := by decide +kernel
theorem dX12_init_388 : decode cX12_init 388 = .ok (.newarray .int, 2) := by decide +kernel
theorem dX12_init_390 : decode cX12_init 390 = .ok (.putfield 155, 3) := by decide +kernel
theorem dX12_init_393 : decode cX12_init 393 = .ok (.aload_n 0, 1) := by decide +kernel
theorem dX12_init_394 : decode cX12_init 394 = .ok (.bipush 30, 2) := by decide +kernel
theorem dX12_init_396 : decode cX12_init 396 = .ok (.newarray .int, 2) := by decide +kernel
theorem dX12_init_398 : decode cX12_init 398 = .ok (.putfield 158, 3) := by decide +kernel
theorem dX12_init_401 : decode cX12_init 401 = .ok (.aload_n 0, 1) := by decide +kernel
theorem dX12_init_402 : decode cX12_init 402 = .ok (.bipush 6, 2) := by decide +kernel
theorem dX12_init_404 : decode cX12_init 404 = .ok (.newarray .int, 2) := by decide +kernel
theorem dX12_init_406 : decode cX12_init 406 = .ok (.putfield 161, 3) := by decide +kernel
theorem dX12_init_409 : decode cX12_init 409 = .ok (.aload_n 0, 1) := by decide +kernel
theorem dX12_init_410 : decode cX12_init 410 = .ok (.bipush 6, 2) := by decide +kernel
theorem dX12_init_412 : decode cX12_init 412 = .ok (.newarray .int, 2) := by decide +kernel
theorem dX12_init_414 : decode cX12_init 414 = .ok (.putfield 164, 3) := by decide +kernel
theorem dX12_init_417 : decode cX12_init 417 = .ok (.aload_n 0, 1) := by decide +kernel
theorem dX12_init_418 : decode cX12_init 418 = .ok (.bipush 6, 2) := by decide +kernel
theorem dX12_init_420 : decode cX12_init 420 = .ok (.newarray .int, 2) := by decide +kernel
theorem dX12_init_422 : decode cX12_init 422 = .ok (.putfield 167, 3) := by decide +kernel
theorem dX12_init_425 : decode cX12_init 425 = .ok (.aload_n 0, 1) := by decide +kernel
theorem dX12_init_426 : decode cX12_init 426 = .ok (.bipush 6, 2) := by decide +kernel
theorem dX12_init_428 : decode cX12_init 428 = .ok (.newarray .int, 2) := by decide +kernel
theorem dX12_init_430 : decode cX12_init 430 = .ok (.putfield 170, 3) := by decide +kernel
theorem dX12_init_433 : decode cX12_init 433 = .ok (.aload_n 0, 1) := by decide +kernel
theorem dX12_init_434 : decode cX12_init 434 = .ok (.bipush 6, 2) := by decide +kernel
theorem dX12_init_436 : decode cX12_init 436 = .ok (.newarray .int, 2) := by decide +kernel
theorem dX12_init_438 : decode cX12_init 438 = .ok (.putfield 173, 3) := by decide +kernel
theorem dX12_init_441 : decode cX12_init 441 = .ok (.aload_n 0, 1) := by decide +kernel
theorem dX12_init_442 : decode cX12_init 442 = .ok (.bipush 6, 2) := by decide +kernel
theorem dX12_init_444 : decode cX12_init 444 = .ok (.newarray .int, 2) := by decide +kernel
theorem dX12_init_446 : decode cX12_init 446 = .ok (.putfield 176, 3) := by decide +kernel
theorem dX12_init_449 : decode cX12_init 449 = .ok (.aload_n 0, 1) := by decide +kernel
theorem dX12_init_450 : decode cX12_init 450 = .ok (.bipush 6, 2) := by decide +kernel
theorem dX12_init_452 : decode cX12_init 452 = .ok (.newarray .int, 2) := by decide +kernel
theorem dX12_init_454 : decode cX12_init 454 = .ok (.putfield 179, 3) := by decide +kernel
theorem dX12_init_457 : decode cX12_init 457 = .ok (.aload_n 0, 1) := by decide +kernel
theorem dX12_init_458 : decode cX12_init 458 = .ok (.bipush 6, 2) := by decide +kernel
theorem dX12_init_460 : decode cX12_init 460 = .ok (.newarray .int, 2) := by decide +kernel
theorem dX12_init_462 : decode cX12_init 462 = .ok (.putfield 182, 3) := by decide +kernel
theorem dX12_init_465 : decode cX12_init 465 = .ok (.aload_n 0, 1) := by decide +kernel
theorem dX12_init_466 : decode cX12_init 466 = .ok (.bipush 6, 2) := by decide +kernel
theorem dX12_init_468 : decode cX12_init 468 = .ok (.newarray .int, 2) := by decide +kernel
theorem dX12_init_470 : decode cX12_init 470 = .ok (.putfield 185, 3) := by decide +kernel
theorem dX12_init_473 : decode cX12_init 473 = .ok (.aload_n 0, 1) := by decide +kernel
theorem dX12_init_474 : decode cX12_init 474 = .ok (.bipush 6, 2) := by decide +kernel
theorem dX12_init_476 : decode cX12_init 476 = .ok (.newarray .int, 2) := by decide +kernel
theorem dX12_init_478 : decode cX12_init 478 = .ok (.putfield 188, 3) := by decide +kernel
theorem dX12_init_481 : decode cX12_init 481 = .ok (.aload_n 0, 1) := by decide +kernel
theorem dX12_init_482 : decode cX12_init 482 = .ok (.getfield 34, 3) := by decide +kernel
theorem dX12_init_485 : decode cX12_init 485 = .ok (.iconst 0, 1) := by decide +kernel
theorem dX12_init_486 : decode cX12_init 486 = .ok (.bipush 98, 2) := by decide +kernel
theorem dX12_init_488 : decode cX12_init 488 = .ok (.bipush 97, 2) := by decide +kernel
theorem dX12_init_490 : decode cX12_init 490 = .ok (.bipush 114, 2) := by decide +kernel
theorem dX12_init_492 : decode cX12_init 492 = .ok (.iconst 0, 1) := by decide +kernel
theorem dX12_init_493 : decode cX12_init 493 = .ok (.iconst 0, 1) := by decide +kernel
theorem dX12_init_494 : decode cX12_init 494 = .ok (.iconst 0, 1) := by decide +kernel
theorem dX12_init_495 : decode cX12_init 495 = .ok (.iconst 0, 1) := by decide +kernel
theorem dX12_init_496 : decode cX12_init 496 = .ok (.invokestatic 191, 3) := by decide +kernel
theorem dX12_init_499 : decode cX12_init 499 = .ok (.lastore, 1) := by decide +kernel
theorem dX12_init_500 : decode cX12_init 500 = .ok (.aload_n 0, 1) := by decide +kernel
theorem dX12_init_501 : decode cX12_init 501 = .ok (.getfield 34, 3) := by decide +kernel
theorem dX12_init_504 : decode cX12_init 504 = .ok (.iconst 1, 1) := by decide +kernel
