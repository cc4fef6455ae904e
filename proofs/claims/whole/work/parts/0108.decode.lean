theorem dX12_isPlanned_1 : decode cX12_isPlanned 1 = .ok (.iload_n 1, 1) := by decide +kernel
theorem dX12_isPlanned_2 : decode cX12_isPlanned 2 = .ok (.invokevirtual 323, 3) := by decide +kernel
theorem dX12_isPlanned_5 : decode cX12_isPlanned 5 = .ok (.ifCond .eq 30, 3) := by decide +kernel
theorem dX12_isPlanned_8 : decode cX12_isPlanned 8 = .ok (.aload_n 0, 1) := by decide +kernel
theorem dX12_isPlanned_9 : decode cX12_isPlanned 9 = .ok (.iload_n 2, 1) := by decide +kernel
theorem dX12_isPlanned_10 : decode cX12_isPlanned 10 = .ok (.invokevirtual 317, 3) := by decide +kernel
theorem dX12_isPlanned_13 : decode cX12_isPlanned 13 = .ok (.ifCond .eq 22, 3) := by decide +kernel
theorem dX12_isPlanned_16 : decode cX12_isPlanned 16 = .ok (.aload_n 0, 1) := by decide +kernel
theorem dX12_isPlanned_17 : decode cX12_isPlanned 17 = .ok (.getfield 152, 3) := by decide +kernel
theorem dX12_isPlanned_20 : decode cX12_isPlanned 20 = .ok (.bipush 6, 2) := by decide +kernel
theorem dX12_isPlanned_22 : decode cX12_isPlanned 22 = .ok (.iload_n 1, 1) := by decide +kernel
theorem dX12_isPlanned_23 : decode cX12_isPlanned 23 = .ok (.imul, 1) := by decide +kernel
theorem dX12_isPlanned_24 : decode cX12_isPlanned 24 = .ok (.iload_n 2, 1) := by decide +kernel
theorem dX12_isPlanned_25 : decode cX12_isPlanned 25 = .ok (.iadd, 1) := by decide +kernel
theorem dX12_isPlanned_26 : decode cX12_isPlanned 26 = .ok (.iaload, 1) := by decide +kernel
theorem dX12_isPlanned_27 : decode cX12_isPlanned 27 = .ok (.iconst (-1), 1) := by decide +kernel
theorem dX12_isPlanned_28 : decode cX12_isPlanned 28 = .ok (.if_icmp .eq 7, 3) := by decide +kernel
theorem dX12_isPlanned_31 : decode cX12_isPlanned 31 = .ok (.iconst 1, 1) := by decide +kernel
theorem dX12_isPlanned_32 : decode cX12_isPlanned 32 = .ok (.goto 4, 3) := by decide +kernel
theorem dX12_isPlanned_35 : decode cX12_isPlanned 35 = .ok (.iconst 0, 1) := by decide +kernel
theorem dX12_isPlanned_36 : decode cX12_isPlanned 36 = .ok (.ireturn, 1) := by decide +kernel
theorem dX12_planned_0 : decode cX12_planned 0 = .ok (.aload_n 0, 1) := by decide +kernel
theorem dX12_planned_1 : decode cX12_planned 1 = .ok (.iload_n 1, 1) := by decide +kernel
theorem dX12_planned_2 : decode cX12_planned 2 = .ok (.iload_n 2, 1) := by decide +kernel
theorem dX12_planned_3 : decode cX12_planned 3 = .ok (.invokevirtual 380, 3) := by decide +kernel
theorem dX12_planned_6 : decode cX12_planned 6 = .ok (.ifCond .ne 5, 3) := by decide +kernel
theorem dX12_planned_9 : decode cX12_planned 9 = .ok (.iconst (-1), 1) := by decide +kernel
theorem dX12_planned_10 : decode cX12_planned 10 = .ok (.ireturn, 1) := by decide +kernel
theorem dX12_planned_11 : decode cX12_planned 11 = .ok (.iload_n 3, 1) := by decide +kernel
theorem dX12_planned_12 : decode cX12_planned 12 = .ok (.tableswitch 80 0 3 #[32, 44, 56, 68], 32) := by decide +kernel
theorem dX12_planned_44 : decode cX12_planned 44 = .ok (.aload_n 0, 1) := by decide +kernel
theorem dX12_planned_45 : decode cX12_planned 45 = .ok (.getfield 149, 3) := by decide +kernel
theorem dX12_planned_48 : decode cX12_planned 48 = .ok (.bipush 6, 2) := by decide +kernel
theorem dX12_planned_50 : decode cX12_planned 50 = .ok (.iload_n 1, 1) := by decide +kernel
theorem dX12_planned_51 : decode cX12_planned 51 = .ok (.imul, 1) := by decide +kernel
theorem dX12_planned_52 : decode cX12_planned 52 = .ok (.iload_n 2, 1) := by decide +kernel
theorem dX12_planned_53 : decode cX12_planned 53 = .ok (.iadd, 1) := by decide +kernel
theorem dX12_planned_54 : decode cX12_planned 54 = .ok (.iaload, 1) := by decide +kernel
theorem dX12_planned_55 : decode cX12_planned 55 = .ok (.ireturn, 1) := by decide +kernel
theorem dX12_planned_56 : decode cX12_planned 56 = .ok (.aload_n 0, 1) := by decide +kernel
theorem dX12_planned_57 : decode cX12_planned 57 = .ok (.getfield 152, 3) := by decide +kernel
theorem dX12_planned_60 : decode cX12_planned 60 = .ok (.bipush 6, 2) := by decide +kernel
theorem dX12_planned_62 : decode cX12_planned 62 = .ok (.iload_n 1, 1) := by decide +kernel
theorem dX12_planned_63 : decode cX12_planned 63 = .ok (.imul, 1) := by decide +kernel
theorem dX12_planned_64 : decode cX12_planned 64 = .ok (.iload_n 2, 1) := by decide +kernel
theorem dX12_planned_65 : decode cX12_planned 65 = .ok (.iadd, 1) := by decide +kernel
theorem dX12_planned_66 : decode cX12_planned 66 = .ok (.iaload, 1) := by decide +kernel
theorem dX12_planned_67 : decode cX12_planned 67 = .ok (.ireturn, 1) := by decide +kernel
theorem dX12_planned_68 : decode cX12_planned 68 = .ok (.aload_n 0, 1) := by decide +kernel
theorem dX12_planned_69 : decode cX12_planned 69 = .ok (.getfield 155, 3) := by decide +kernel
theorem dX12_planned_72 : decode cX12_planned 72 = .ok (.bipush 6, 2) := by decide +kernel
theorem dX12_planned_74 : decode cX12_planned 74 = .ok (.iload_n 1, 1) := by decide +kernel
theorem dX12_planned_75 : decode cX12_planned 75 = .ok (.imul, 1) := by decide +kernel
theorem dX12_planned_76 : decode cX12_planned 76 = .ok (.iload_n 2, 1) := by decide +kernel
theorem dX12_planned_77 : decode cX12_planned 77 = .ok (.iadd, 1) := by decide +kernel
theorem dX12_planned_78 : decode cX12_planned 78 = .ok (.iaload, 1) := by decide +kernel
theorem dX12_planned_79 : decode cX12_planned 79 = .ok (.ireturn, 1) := by decide +kernel
theorem dX12_planned_80 : decode cX12_planned 80 = .ok (.aload_n 0, 1) := by decide +kernel
theorem dX12_planned_81 : decode cX12_planned 81 = .ok (.getfield 158, 3) := by decide +kernel
theorem dX12_planned_84 : decode cX12_planned 84 = .ok (.bipush 6, 2) := by decide +kernel
theorem dX12_planned_86 : decode cX12_planned 86 = .ok (.iload_n 1, 1) := by decide +kernel
theorem dX12_planned_87 : decode cX12_planned 87 = .ok (.imul, 1) := by decide +kernel
theorem dX12_planned_88 : decode cX12_planned 88 = .ok (.iload_n 2, 1) := by decide +kernel
theorem dX12_planned_89 : decode cX12_planned 89 = .ok (.iadd, 1) := by decide +kernel
theorem dX12_planned_90 : decode cX12_planned 90 = .ok (.iaload, 1) := by decide +kernel
theorem dX12_planned_91 : decode cX12_planned 91 = .ok (.ireturn, 1) := by decide +kernel
theorem dX12_planned_92 : decode cX12_planned 92 = .ok (.iconst (-1), 1) := by decide +kernel
theorem dX12_planned_93 : decode cX12_planned 93 = .ok (.ireturn, 1) := by decide +kernel
theorem dX12_clash_0 : decode cX12_clash 0 = .ok (.aload_n 0, 1) := by decide +kernel
theorem dX12_clash_1 : decode cX12_clash 1 = .ok (.iload_n 1, 1) := by decide +kernel
theorem dX12_clash_2 : decode cX12_clash 2 = .ok (.iload_n 2, 1) := by decide +kernel
theorem dX12_clash_3 : decode cX12_clash 3 = .ok (.invokevirtual 380, 3) := by decide +kernel
theorem dX12_clash_6 : decode cX12_clash 6 = .ok (.ifCond .eq 14, 3) := by decide +kernel
theorem dX12_clash_9 : decode cX12_clash 9 = .ok (.iload_n 3, 1) := by decide +kernel
theorem dX12_clash_10 : decode cX12_clash 10 = .ok (.ifCond .lt 10, 3) := by decide +kernel
theorem dX12_clash_13 : decode cX12_clash 13 = .ok (.iload_n 3, 1) := by decide +kernel
theorem dX12_clash_14 : decode cX12_clash 14 = .ok (.sipush 9999, 3) := by decide +kernel
theorem dX12_clash_17 : decode cX12_clash 17 = .ok (.if_icmp .le 5, 3) := by decide +kernel
theorem dX12_clash_20 : decode cX12_clash 20 = .ok (.iconst (-1), 1) := by decide +kernel
theorem dX12_clash_21 : decode cX12_clash 21 = .ok (.ireturn, 1) := by decide +kernel
theorem dX12_clash_22 : decode cX12_clash 22 = .ok (.iload_n 3, 1) := by decide +kernel
theorem dX12_clash_23 : decode cX12_clash 23 = .ok (.aload_n 0, 1) := by decide +kernel
theorem dX12_clash_24 : decode cX12_clash 24 = .ok (.getfield 158, 3) := by decide +kernel
theorem dX12_clash_27 : decode cX12_clash 27 = .ok (.bipush 6, 2) := by decide +kernel
theorem dX12_clash_29 : decode cX12_clash 29 = .ok (.iload_n 1, 1) := by decide +kernel
theorem dX12_clash_30 : decode cX12_clash 30 = .ok (.imul, 1) := by decide +kernel
theorem dX12_clash_31 : decode cX12_clash 31 = .ok (.iload_n 2, 1) := by decide +kernel
theorem dX12_clash_32 : decode cX12_clash 32 = .ok (.iadd, 1) := by decide +kernel
theorem dX12_clash_33 : decode cX12_clash 33 = .ok (.iaload, 1) := by decide +kernel
theorem dX12_clash_34 : decode cX12_clash 34 = .ok (.iadd, 1) := by decide +kernel
theorem dX12_clash_35 : decode cX12_clash 35 = .ok (.aload_n 0, 1) := by decide +kernel
theorem dX12_clash_36 : decode cX12_clash 36 = .ok (.getfield 155, 3) := by decide +kernel
theorem dX12_clash_39 : decode cX12_clash 39 = .ok (.bipush 6, 2) := by decide +kernel
theorem dX12_clash_41 : decode cX12_clash 41 = .ok (.iload_n 1, 1) := by decide +kernel
theorem dX12_clash_42 : decode cX12_clash 42 = .ok (.imul, 1) := by decide +kernel
theorem dX12_clash_43 : decode cX12_clash 43 = .ok (.iload_n 2, 1) := by decide +kernel
theorem dX12_clash_44 : decode cX12_clash 44 = .ok (.iadd, 1) := by decide +kernel
theorem dX12_clash_45 : decode cX12_clash 45 = .ok (.iaload, 1) := by decide +kernel
theorem dX12_clash_46 : decode cX12_clash 46 = .ok (.isub, 1) := by decide +kernel
theorem dX12_clash_47 : decode cX12_clash 47 = .ok (.istore 4, 2) := by decide +kernel
theorem dX12_clash_49 : decode cX12_clash 49 = .ok (.iconst 0, 1) := by decide +kernel
theorem dX12_clash_50 : decode cX12_clash 50 = .ok (.istore 5, 2) := by decide +kernel
theorem dX12_clash_52 : decode cX12_clash 52 = .ok (.iconst 0, 1) := by decide +kernel
theorem dX12_clash_53 : decode cX12_clash 53 = .ok (.istore 6, 2) := by decide +kernel
theorem dX12_clash_55 : decode cX12_clash 55 = .ok (.iload 6, 2) := by decide +kernel
theorem dX12_clash_57 : decode cX12_clash 57 = .ok (.aload_n 0, 1) := by decide +kernel
theorem dX12_clash_58 : decode cX12_clash 58 = .ok (.getfield 302, 3) := by decide +kernel
theorem dX12_clash_61 : decode cX12_clash 61 = .ok (.if_icmp .ge 70, 3) := by decide +kernel
theorem dX12_clash_64 : decode cX12_clash 64 = .ok (.iload 6, 2) := by decide +kernel
theorem dX12_clash_66 : decode cX12_clash 66 = .ok (.iload_n 2, 1) := by decide +kernel
theorem dX12_clash_67 : decode cX12_clash 67 = .ok (.if_icmp .eq 58, 3) := by decide +kernel
theorem dX12_clash_70 : decode cX12_clash 70 = .ok (.aload_n 0, 1) := by decide +kernel
theorem dX12_clash_71 : decode cX12_clash 71 = .ok (.iload_n 1, 1) := by decide +kernel
theorem dX12_clash_72 : decode cX12_clash 72 = .ok (.iload 6, 2) := by decide +kernel
theorem dX12_clash_74 : decode cX12_clash 74 = .ok (.invokevirtual 380, 3) := by decide +kernel
theorem dX12_clash_77 : decode cX12_clash 77 = .ok (.ifCond .eq 48, 3) := by decide +kernel
theorem dX12_clash_80 : decode cX12_clash 80 = .ok (.aload_n 0, 1) := by decide +kernel
theorem dX12_clash_81 : decode cX12_clash 81 = .ok (.getfield 155, 3) := by decide +kernel
theorem dX12_clash_84 : decode cX12_clash 84 = .ok (.bipush 6, 2) := by decide +kernel
theorem dX12_clash_86 : decode cX12_clash 86 = .ok (.iload_n 1, 1) := by decide +kernel
theorem dX12_clash_87 : decode cX12_clash 87 = .ok (.imul, 1) := by decide +kernel
theorem dX12_clash_88 : decode cX12_clash 88 = .ok (.iload 6, 2) := by decide +kernel
theorem dX12_clash_90 : decode cX12_clash 90 = .ok (.iadd, 1) := by decide +kernel
theorem dX12_clash_91 : decode cX12_clash 91 = .ok (.iaload, 1) := by decide +kernel
theorem dX12_clash_92 : decode cX12_clash 92 = .ok (.iload 4, 2) := by decide +kernel
theorem dX12_clash_94 : decode cX12_clash 94 = .ok (.if_icmp .ge 31, 3) := by decide +kernel
theorem dX12_clash_97 : decode cX12_clash 97 = .ok (.iload_n 3, 1) := by decide +kernel
theorem dX12_clash_98 : decode cX12_clash 98 = .ok (.aload_n 0, 1) := by decide +kernel
theorem dX12_clash_99 : decode cX12_clash 99 = .ok (.getfield 158, 3) := by decide +kernel
theorem dX12_clash_102 : decode cX12_clash 102 = .ok (.bipush 6, 2) := by decide +kernel
theorem dX12_clash_104 : decode cX12_clash 104 = .ok (.iload_n 1, 1) := by decide +kernel
theorem dX12_clash_105 : decode cX12_clash 105 = .ok (.imul, 1) := by decide +kernel
theorem dX12_clash_106 : decode cX12_clash 106 = .ok (.iload 6, 2) := by decide +kernel
theorem dX12_clash_108 : decode cX12_clash 108 = .ok (.iadd, 1) := by decide +kernel
theorem dX12_clash_109 : decode cX12_clash 109 = .ok (.iaload, 1) := by decide +kernel
theorem dX12_clash_110 : decode cX12_clash 110 = .ok (.if_icmp .ge 15, 3) := by decide +kernel
theorem dX12_clash_113 : decode cX12_clash 113 = .ok (.iload 5, 2) := by decide +kernel
theorem dX12_clash_115 : decode cX12_clash 115 = .ok (.aload_n 0, 1) := by decide +kernel
theorem dX12_clash_116 : decode cX12_clash 116 = .ok (.iload_n 1, 1) := by decide +kernel
theorem dX12_clash_117 : decode cX12_clash 117 = .ok (.iload 6, 2) := by decide +kernel
theorem dX12_clash_119 : decode cX12_clash 119 = .ok (.invokevirtual 365, 3) := by decide +kernel
theorem dX12_clash_122 : decode cX12_clash 122 = .ok (.ior, 1) := by decide +kernel
theorem dX12_clash_123 : decode cX12_clash 123 = .ok (.istore 5, 2) := by decide +kernel
theorem dX12_clash_125 : decode cX12_clash 125 = .ok (.iinc 6 1, 3) := by decide +kernel
theorem dX12_clash_128 : decode cX12_clash 128 = .ok (.goto (-73), 3) := by decide +kernel
theorem dX12_clash_131 : decode cX12_clash 131 = .ok (.iload 5, 2) := by decide +kernel
theorem dX12_clash_133 : decode cX12_clash 133 = .ok (.aload_n 0, 1) := by decide +kernel
theorem dX12_clash_134 : decode cX12_clash 134 = .ok (.iload_n 1, 1) := by decide +kernel
theorem dX12_clash_135 : decode cX12_clash 135 = .ok (.iload_n 2, 1) := by decide +kernel
theorem dX12_clash_136 : decode cX12_clash 136 = .ok (.invokevirtual 365, 3) := by decide +kernel
theorem dX12_clash_139 : decode cX12_clash 139 = .ok (.iand, 1) := by decide +kernel
theorem dX12_clash_140 : decode cX12_clash 140 = .ok (.istore 5, 2) := by decide +kernel
theorem dX12_clash_142 : decode cX12_clash 142 = .ok (.iload 5, 2) := by decide +kernel
theorem dX12_clash_144 : decode cX12_clash 144 = .ok (.ifCond .ne 7, 3) := by decide +kernel
theorem dX12_clash_147 : decode cX12_clash 147 = .ok (.iconst (-1), 1) := by decide +kernel
theorem dX12_clash_148 : decode cX12_clash 148 = .ok (.goto 8, 3) := by decide +kernel
theorem dX12_clash_151 : decode cX12_clash 151 = .ok (.iload 5, 2) := by decide +kernel
theorem dX12_clash_153 : decode cX12_clash 153 = .ok (.invokestatic 368, 3) := by decide +kernel
theorem dX12_clash_156 : decode cX12_clash 156 = .ok (.ireturn, 1) := by decide +kernel
theorem dX12_isTold_0 : decode cX12_isTold 0 = .ok (.iconst 0, 1) := by decide +kernel
theorem dX12_isTold_1 : decode cX12_isTold 1 = .ok (.istore 5, 2) := by decide +kernel
theorem dX12_isTold_3 : decode cX12_isTold 3 = .ok (.iload 5, 2) := by decide +kernel
theorem dX12_isTold_5 : decode cX12_isTold 5 = .ok (.iload 4, 2) := by decide +kernel
theorem dX12_isTold_7 : decode cX12_isTold 7 = .ok (.if_icmp .ge 44, 3) := by decide +kernel
theorem dX12_isTold_10 : decode cX12_isTold 10 = .ok (.aload_n 0, 1) := by decide +kernel
theorem dX12_isTold_11 : decode cX12_isTold 11 = .ok (.getfield 131, 3) := by decide +kernel
theorem dX12_isTold_14 : decode cX12_isTold 14 = .ok (.iload 5, 2) := by decide +kernel
theorem dX12_isTold_16 : decode cX12_isTold 16 = .ok (.iaload, 1) := by decide +kernel
theorem dX12_isTold_17 : decode cX12_isTold 17 = .ok (.iload_n 1, 1) := by decide +kernel
theorem dX12_isTold_18 : decode cX12_isTold 18 = .ok (.if_icmp .ne 27, 3) := by decide +kernel
theorem dX12_isTold_21 : decode cX12_isTold 21 = .ok (.aload_n 0, 1) := by decide +kernel
theorem dX12_isTold_22 : decode cX12_isTold 22 = .ok (.getfield 134, 3) := by decide +kernel
theorem dX12_isTold_25 : decode cX12_isTold 25 = .ok (.iload 5, 2) := by decide +kernel
theorem dX12_isTold_27 : decode cX12_isTold 27 = .ok (.iaload, 1) := by decide +kernel
theorem dX12_isTold_28 : decode cX12_isTold 28 = .ok (.iload_n 2, 1) := by decide +kernel
theorem dX12_isTold_29 : decode cX12_isTold 29 = .ok (.if_icmp .ne 16, 3) := by decide +kernel
theorem dX12_isTold_32 : decode cX12_isTold 32 = .ok (.aload_n 0, 1) := by decide +kernel
theorem dX12_isTold_33 : decode cX12_isTold 33 = .ok (.getfield 137, 3) := by decide +kernel
theorem dX12_isTold_36 : decode cX12_isTold 36 = .ok (.iload 5, 2) := by decide +kernel
theorem dX12_isTold_38 : decode cX12_isTold 38 = .ok (.iaload, 1) := by decide +kernel
theorem dX12_isTold_39 : decode cX12_isTold 39 = .ok (.iload_n 3, 1) := by decide +kernel
theorem dX12_isTold_40 : decode cX12_isTold 40 = .ok (.if_icmp .ne 5, 3) := by decide +kernel
theorem dX12_isTold_43 : decode cX12_isTold 43 = .ok (.iconst 1, 1) := by decide +kernel
theorem dX12_isTold_44 : decode cX12_isTold 44 = .ok (.ireturn, 1) := by decide +kernel
theorem dX12_isTold_45 : decode cX12_isTold 45 = .ok (.iinc 5 1, 3) := by decide +kernel
theorem dX12_isTold_48 : decode cX12_isTold 48 = .ok (.goto (-45), 3) := by decide +kernel
theorem dX12_isTold_51 : decode cX12_isTold 51 = .ok (.iconst 0, 1) := by decide +kernel
theorem dX12_isTold_52 : decode cX12_isTold 52 = .ok (.ireturn, 1) := by decide +kernel
theorem dX12_isOut_0 : decode cX12_isOut 0 = .ok (.iconst 0, 1) := by decide +kernel
theorem dX12_isOut_1 : decode cX12_isOut 1 = .ok (.istore 4, 2) := by decide +kernel
theorem dX12_isOut_3 : decode cX12_isOut 3 = .ok (.iconst 0, 1) := by decide +kernel
theorem dX12_isOut_4 : decode cX12_isOut 4 = .ok (.istore 5, 2) := by decide +kernel
theorem dX12_isOut_6 : decode cX12_isOut 6 = .ok (.iconst 0, 1) := by decide +kernel
theorem dX12_isOut_7 : decode cX12_isOut 7 = .ok (.istore 6, 2) := by decide +kernel
theorem dX12_isOut_9 : decode cX12_isOut 9 = .ok (.iconst 0, 1) := by decide +kernel
theorem dX12_isOut_10 : decode cX12_isOut 10 = .ok (.istore 7, 2) := by decide +kernel
theorem dX12_isOut_12 : decode cX12_isOut 12 = .ok (.iload_n 3, 1) := by decide +kernel
theorem dX12_isOut_13 : decode cX12_isOut 13 = .ok (.iconst 1, 1) := by decide +kernel
theorem dX12_isOut_14 : decode cX12_isOut 14 = .ok (.isub, 1) := by decide +kernel
theorem dX12_isOut_15 : decode cX12_isOut 15 = .ok (.istore 8, 2) := by decide +kernel
theorem dX12_isOut_17 : decode cX12_isOut 17 = .ok (.iload 8, 2) := by decide +kernel
theorem dX12_isOut_19 : decode cX12_isOut 19 = .ok (.ifCond .lt 98, 3) := by decide +kernel
theorem dX12_isOut_22 : decode cX12_isOut 22 = .ok (.iload 4, 2) := by decide +kernel
theorem dX12_isOut_24 : decode cX12_isOut 24 = .ok (.iconst 3, 1) := by decide +kernel
theorem dX12_isOut_25 : decode cX12_isOut 25 = .ok (.if_icmp .ge 92, 3) := by decide +kernel
theorem dX12_isOut_28 : decode cX12_isOut 28 = .ok (.aload_n 0, 1) := by decide +kernel
theorem dX12_isOut_29 : decode cX12_isOut 29 = .ok (.getfield 131, 3) := by decide +kernel
theorem dX12_isOut_32 : decode cX12_isOut 32 = .ok (.iload 8, 2) := by decide +kernel
theorem dX12_isOut_34 : decode cX12_isOut 34 = .ok (.iaload, 1) := by decide +kernel
theorem dX12_isOut_35 : decode cX12_isOut 35 = .ok (.iconst 3, 1) := by decide +kernel
theorem dX12_isOut_36 : decode cX12_isOut 36 = .ok (.if_icmp .ne 75, 3) := by decide +kernel
theorem dX12_isOut_39 : decode cX12_isOut 39 = .ok (.aload_n 0, 1) := by decide +kernel
theorem dX12_isOut_40 : decode cX12_isOut 40 = .ok (.getfield 134, 3) := by decide +kernel
theorem dX12_isOut_43 : decode cX12_isOut 43 = .ok (.iload 8, 2) := by decide +kernel
theorem dX12_isOut_45 : decode cX12_isOut 45 = .ok (.iaload, 1) := by decide +kernel
theorem dX12_isOut_46 : decode cX12_isOut 46 = .ok (.iload_n 1, 1) := by decide +kernel
theorem dX12_isOut_47 : decode cX12_isOut 47 = .ok (.if_icmp .ne 64, 3) := by decide +kernel
theorem dX12_isOut_50 : decode cX12_isOut 50 = .ok (.aload_n 0, 1) := by decide +kernel
theorem dX12_isOut_51 : decode cX12_isOut 51 = .ok (.getfield 137, 3) := by decide +kernel
theorem dX12_isOut_54 : decode cX12_isOut 54 = .ok (.iload 8, 2) := by decide +kernel
theorem dX12_isOut_56 : decode cX12_isOut 56 = .ok (.iaload, 1) := by decide +kernel
theorem dX12_isOut_57 : decode cX12_isOut 57 = .ok (.iload_n 2, 1) := by decide +kernel
theorem dX12_isOut_58 : decode cX12_isOut 58 = .ok (.if_icmp .eq 6, 3) := by decide +kernel
theorem dX12_isOut_61 : decode cX12_isOut 61 = .ok (.goto 50, 3) := by decide +kernel
theorem dX12_isOut_64 : decode cX12_isOut 64 = .ok (.iload 4, 2) := by decide +kernel
theorem dX12_isOut_66 : decode cX12_isOut 66 = .ok (.ifCond .ne 12, 3) := by decide +kernel
theorem dX12_isOut_69 : decode cX12_isOut 69 = .ok (.aload_n 0, 1) := by decide +kernel
theorem dX12_isOut_70 : decode cX12_isOut 70 = .ok (.getfield 140, 3) := by decide +kernel
theorem dX12_isOut_73 : decode cX12_isOut 73 = .ok (.iload 8, 2) := by decide +kernel
theorem dX12_isOut_75 : decode cX12_isOut 75 = .ok (.iaload, 1) := by decide +kernel
theorem dX12_isOut_76 : decode cX12_isOut 76 = .ok (.istore 5, 2) := by decide +kernel
theorem dX12_isOut_78 : decode cX12_isOut 78 = .ok (.iload 4, 2) := by decide +kernel
theorem dX12_isOut_80 : decode cX12_isOut 80 = .ok (.iconst 1, 1) := by decide +kernel
theorem dX12_isOut_81 : decode cX12_isOut 81 = .ok (.if_icmp .ne 12, 3) := by decide +kernel
theorem dX12_isOut_84 : decode cX12_isOut 84 = .ok (.aload_n 0, 1) := by decide +kernel
theorem dX12_isOut_85 : decode cX12_isOut 85 = .ok (.getfield 140, 3) := by decide +kernel
theorem dX12_isOut_88 : decode cX12_isOut 88 = .ok (.iload 8, 2) := by decide +kernel
theorem dX12_isOut_90 : decode cX12_isOut 90 = .ok (.iaload, 1) := by decide +kernel
theorem dX12_isOut_91 : decode cX12_isOut 91 = .ok (.istore 6, 2) := by decide +kernel
theorem dX12_isOut_93 : decode cX12_isOut 93 = .ok (.iload 4, 2) := by decide +kernel
theorem dX12_isOut_95 : decode cX12_isOut 95 = .ok (.iconst 2, 1) := by decide +kernel
theorem dX12_isOut_96 : decode cX12_isOut 96 = .ok (.if_icmp .ne 12, 3) := by decide +kernel
theorem dX12_isOut_99 : decode cX12_isOut 99 = .ok (.aload_n 0, 1) := by decide +kernel
theorem dX12_isOut_100 : decode cX12_isOut 100 = .ok (.getfield 140, 3) := by decide +kernel
theorem dX12_isOut_103 : decode cX12_isOut 103 = .ok (.iload 8, 2) := by decide +kernel
theorem dX12_isOut_105 : decode cX12_isOut 105 = .ok (.iaload, 1) := by decide +kernel
theorem dX12_isOut_106 : decode cX12_isOut 106 = .ok (.istore 7, 2) := by decide +kernel
theorem dX12_isOut_108 : decode cX12_isOut 108 = .ok (.iinc 4 1, 3) := by decide +kernel
theorem dX12_isOut_111 : decode cX12_isOut 111 = .ok (.iinc 8 (-1), 3) := by decide +kernel
theorem dX12_isOut_114 : decode cX12_isOut 114 = .ok (.goto (-97), 3) := by decide +kernel
theorem dX12_isOut_117 : decode cX12_isOut 117 = .ok (.iload 4, 2) := by decide +kernel
theorem dX12_isOut_119 : decode cX12_isOut 119 = .ok (.ifCond .ne 5, 3) := by decide +kernel
theorem dX12_isOut_122 : decode cX12_isOut 122 = .ok (.iconst 0, 1) := by decide +kernel
theorem dX12_isOut_123 : decode cX12_isOut 123 = .ok (.ireturn, 1) := by decide +kernel
theorem dX12_isOut_124 : decode cX12_isOut 124 = .ok (.iload 5, 2) := by decide +kernel
theorem dX12_isOut_126 : decode cX12_isOut 126 = .ok (.istore 8, 2) := by decide +kernel
theorem dX12_isOut_128 : decode cX12_isOut 128 = .ok (.iload 4, 2) := by decide +kernel
theorem dX12_isOut_130 : decode cX12_isOut 130 = .ok (.iconst 2, 1) := by decide +kernel
theorem dX12_isOut_131 : decode cX12_isOut 131 = .ok (.if_icmp .ne 19, 3) := by decide +kernel
theorem dX12_isOut_134 : decode cX12_isOut 134 = .ok (.iload 5, 2) := by decide +kernel
theorem dX12_isOut_136 : decode cX12_isOut 136 = .ok (.iload 6, 2) := by decide +kernel
theorem dX12_isOut_138 : decode cX12_isOut 138 = .ok (.if_icmp .ge 8, 3) := by decide +kernel
theorem dX12_isOut_141 : decode cX12_isOut 141 = .ok (.iload 5, 2) := by decide +kernel
theorem dX12_isOut_143 : decode cX12_isOut 143 = .ok (.goto 5, 3) := by decide +kernel
theorem dX12_isOut_146 : decode cX12_isOut 146 = .ok (.iload 6, 2) := by decide +kernel
theorem dX12_isOut_148 : decode cX12_isOut 148 = .ok (.istore 8, 2) := by decide +kernel
theorem dX12_isOut_150 : decode cX12_isOut 150 = .ok (.iload 4, 2) := by decide +kernel
theorem dX12_isOut_152 : decode cX12_isOut 152 = .ok (.iconst 3, 1) := by decide +kernel
theorem dX12_isOut_153 : decode cX12_isOut 153 = .ok (.if_icmp .ne 63, 3) := by decide +kernel
theorem dX12_isOut_156 : decode cX12_isOut 156 = .ok (.iload 5, 2) := by decide +kernel
theorem dX12_isOut_158 : decode cX12_isOut 158 = .ok (.iload 6, 2) := by decide +kernel
theorem dX12_isOut_160 : decode cX12_isOut 160 = .ok (.if_icmp .ge 8, 3) := by decide +kernel
theorem dX12_isOut_163 : decode cX12_isOut 163 = .ok (.iload 5, 2) := by decide +kernel
theorem dX12_isOut_165 : decode cX12_isOut 165 = .ok (.goto 5, 3) := by decide +kernel
theorem dX12_isOut_168 : decode cX12_isOut 168 = .ok (.iload 6, 2) := by decide +kernel
theorem dX12_isOut_170 : decode cX12_isOut 170 = .ok (.istore 9, 2) := by decide +kernel
theorem dX12_isOut_172 : decode cX12_isOut 172 = .ok (.iload 5, 2) := by decide +kernel
theorem dX12_isOut_174 : decode cX12_isOut 174 = .ok (.iload 6, 2) := by decide +kernel
theorem dX12_isOut_176 : decode cX12_isOut 176 = .ok (.if_icmp .ge 8, 3) := by decide +kernel
theorem dX12_isOut_179 : decode cX12_isOut 179 = .ok (.iload 6, 2) := by decide +kernel
theorem dX12_isOut_181 : decode cX12_isOut 181 = .ok (.goto 5, 3) := by decide +kernel
theorem dX12_isOut_184 : decode cX12_isOut 184 = .ok (.iload 5, 2) := by decide +kernel
theorem dX12_isOut_186 : decode cX12_isOut 186 = .ok (.istore 10, 2) := by decide +kernel
theorem dX12_isOut_188 : decode cX12_isOut 188 = .ok (.iload 7, 2) := by decide +kernel
theorem dX12_isOut_190 : decode cX12_isOut 190 = .ok (.iload 9, 2) := by decide +kernel
theorem dX12_isOut_192 : decode cX12_isOut 192 = .ok (.if_icmp .ge 8, 3) := by decide +kernel
theorem dX12_isOut_195 : decode cX12_isOut 195 = .ok (.iload 9, 2) := by decide +kernel
theorem dX12_isOut_197 : decode cX12_isOut 197 = .ok (.goto 17, 3) := by decide +kernel
theorem dX12_isOut_200 : decode cX12_isOut 200 = .ok (.iload 7, 2) := by decide +kernel
theorem dX12_isOut_202 : decode cX12_isOut 202 = .ok (.iload 10, 2) := by decide +kernel
theorem dX12_isOut_204 : decode cX12_isOut 204 = .ok (.if_icmp .le 8, 3) := by decide +kernel
theorem dX12_isOut_207 : decode cX12_isOut 207 = .ok (.iload 10, 2) := by decide +kernel
theorem dX12_isOut_209 : decode cX12_isOut 209 = .ok (.goto 5, 3) := by decide +kernel
theorem dX12_isOut_212 : decode cX12_isOut 212 = .ok (.iload 7, 2) := by decide +kernel
theorem dX12_isOut_214 : decode cX12_isOut 214 = .ok (.istore 8, 2) := by decide +kernel
theorem dX12_isOut_216 : decode cX12_isOut 216 = .ok (.iload 8, 2) := by decide +kernel
theorem dX12_isOut_218 : decode cX12_isOut 218 = .ok (.aload_n 0, 1) := by decide +kernel
theorem dX12_isOut_219 : decode cX12_isOut 219 = .ok (.getfield 104, 3) := by decide +kernel
theorem dX12_isOut_222 : decode cX12_isOut 222 = .ok (.aload_n 0, 1) := by decide +kernel
theorem dX12_isOut_223 : decode cX12_isOut 223 = .ok (.getfield 110, 3) := by decide +kernel
theorem dX12_isOut_226 : decode cX12_isOut 226 = .ok (.iload_n 2, 1) := by decide +kernel
theorem dX12_isOut_227 : decode cX12_isOut 227 = .ok (.iaload, 1) := by decide +kernel
theorem dX12_isOut_228 : decode cX12_isOut 228 = .ok (.iaload, 1) := by decide +kernel
theorem dX12_isOut_229 : decode cX12_isOut 229 = .ok (.if_icmp .lt 19, 3) := by decide +kernel
theorem dX12_isOut_232 : decode cX12_isOut 232 = .ok (.iload 8, 2) := by decide +kernel
theorem dX12_isOut_234 : decode cX12_isOut 234 = .ok (.aload_n 0, 1) := by decide +kernel
theorem dX12_isOut_235 : decode cX12_isOut 235 = .ok (.getfield 107, 3) := by decide +kernel
theorem dX12_isOut_238 : decode cX12_isOut 238 = .ok (.aload_n 0, 1) := by decide +kernel
theorem dX12_isOut_239 : decode cX12_isOut 239 = .ok (.getfield 110, 3) := by decide +kernel
theorem dX12_isOut_242 : decode cX12_isOut 242 = .ok (.iload_n 2, 1) := by decide +kernel
theorem dX12_isOut_243 : decode cX12_isOut 243 = .ok (.iaload, 1) := by decide +kernel
theorem dX12_isOut_244 : decode cX12_isOut 244 = .ok (.iaload, 1) := by decide +kernel
theorem dX12_isOut_245 : decode cX12_isOut 245 = .ok (.if_icmp .le 7, 3) := by decide +kernel
theorem dX12_isOut_248 : decode cX12_isOut 248 = .ok (.iconst 1, 1) := by decide +kernel
theorem dX12_isOut_249 : decode cX12_isOut 249 = .ok (.goto 4, 3) := by decide +kernel
theorem dX12_isOut_252 : decode cX12_isOut 252 = .ok (.iconst 0, 1) := by decide +kernel
theorem dX12_isOut_253 : decode cX12_isOut 253 = .ok (.ireturn, 1) := by decide +kernel
theorem dX12_whyOf_0 : decode cX12_whyOf 0 = .ok (.aload_n 0, 1) := by decide +kernel
theorem dX12_whyOf_1 : decode cX12_whyOf 1 = .ok (.getfield 128, 3) := by decide +kernel
theorem dX12_whyOf_4 : decode cX12_whyOf 4 = .ok (.bipush 20, 2) := by decide +kernel
theorem dX12_whyOf_6 : decode cX12_whyOf 6 = .ok (.iload_n 1, 1) := by decide +kernel
theorem dX12_whyOf_7 : decode cX12_whyOf 7 = .ok (.imul, 1) := by decide +kernel
theorem dX12_whyOf_8 : decode cX12_whyOf 8 = .ok (.iload_n 2, 1) := by decide +kernel
theorem dX12_whyOf_9 : decode cX12_whyOf 9 = .ok (.iadd, 1) := by decide +kernel
theorem dX12_whyOf_10 : decode cX12_whyOf 10 = .ok (.baload, 1) := by decide +kernel
theorem dX12_whyOf_11 : decode cX12_whyOf 11 = .ok (.ifCond .ne 5, 3) := by decide +kernel
theorem dX12_whyOf_14 : decode cX12_whyOf 14 = .ok (.iconst 1, 1) := by decide +kernel
theorem dX12_whyOf_15 : decode cX12_whyOf 15 = .ok (.ireturn, 1) := by decide +kernel
theorem dX12_whyOf_16 : decode cX12_whyOf 16 = .ok (.aload_n 0, 1) := by decide +kernel
theorem dX12_whyOf_17 : decode cX12_whyOf 17 = .ok (.iconst 1, 1) := by decide +kernel
theorem dX12_whyOf_18 : decode cX12_whyOf 18 = .ok (.iload_n 1, 1) := by decide +kernel
theorem dX12_whyOf_19 : decode cX12_whyOf 19 = .ok (.iload_n 2, 1) := by decide +kernel
theorem dX12_whyOf_20 : decode cX12_whyOf 20 = .ok (.iload_n 3, 1) := by decide +kernel
theorem dX12_whyOf_21 : decode cX12_whyOf 21 = .ok (.invokevirtual 384, 3) := by decide +kernel
theorem dX12_whyOf_24 : decode cX12_whyOf 24 = .ok (.ifCond .eq 5, 3) := by decide +kernel
theorem dX12_whyOf_27 : decode cX12_whyOf 27 = .ok (.iconst 2, 1) := by decide +kernel
theorem dX12_whyOf_28 : decode cX12_whyOf 28 = .ok (.ireturn, 1) := by decide +kernel
theorem dX12_whyOf_29 : decode cX12_whyOf 29 = .ok (.aload_n 0, 1) := by decide +kernel
theorem dX12_whyOf_30 : decode cX12_whyOf 30 = .ok (.iconst 2, 1) := by decide +kernel
theorem dX12_whyOf_31 : decode cX12_whyOf 31 = .ok (.iload_n 1, 1) := by decide +kernel
theorem dX12_whyOf_32 : decode cX12_whyOf 32 = .ok (.iload_n 2, 1) := by decide +kernel
theorem dX12_whyOf_33 : decode cX12_whyOf 33 = .ok (.iload_n 3, 1) := by decide +kernel
theorem dX12_whyOf_34 : decode cX12_whyOf 34 = .ok (.invokevirtual 384, 3) := by decide +kernel
theorem dX12_whyOf_37 : decode cX12_whyOf 37 = .ok (.ifCond .eq 5, 3) := by decide +kernel
theorem dX12_whyOf_40 : decode cX12_whyOf 40 = .ok (.iconst 3, 1) := by decide +kernel
theorem dX12_whyOf_41 : decode cX12_whyOf 41 = .ok (.ireturn, 1) := by decide +kernel
theorem dX12_whyOf_42 : decode cX12_whyOf 42 = .ok (.aload_n 0, 1) := by decide +kernel
theorem dX12_whyOf_43 : decode cX12_whyOf 43 = .ok (.iload_n 1, 1) := by decide +kernel
theorem dX12_whyOf_44 : decode cX12_whyOf 44 = .ok (.iload_n 2, 1) := by decide +kernel
theorem dX12_whyOf_45 : decode cX12_whyOf 45 = .ok (.iload_n 3, 1) := by decide +kernel
theorem dX12_whyOf_46 : decode cX12_whyOf 46 = .ok (.invokevirtual 388, 3) := by decide +kernel
theorem dX12_whyOf_49 : decode cX12_whyOf 49 = .ok (.ifCond .eq 5, 3) := by decide +kernel
theorem dX12_whyOf_52 : decode cX12_whyOf 52 = .ok (.iconst 4, 1) := by decide +kernel
theorem dX12_whyOf_53 : decode cX12_whyOf 53 = .ok (.ireturn, 1) := by decide +kernel
theorem dX12_whyOf_54 : decode cX12_whyOf 54 = .ok (.aload_n 0, 1) := by decide +kernel
theorem dX12_whyOf_55 : decode cX12_whyOf 55 = .ok (.getfield 152, 3) := by decide +kernel
theorem dX12_whyOf_58 : decode cX12_whyOf 58 = .ok (.bipush 6, 2) := by decide +kernel
theorem dX12_whyOf_60 : decode cX12_whyOf 60 = .ok (.iload_n 1, 1) := by decide +kernel
theorem dX12_whyOf_61 : decode cX12_whyOf 61 = .ok (.imul, 1) := by decide +kernel
theorem dX12_whyOf_62 : decode cX12_whyOf 62 = .ok (.aload_n 0, 1) := by decide +kernel
theorem dX12_whyOf_63 : decode cX12_whyOf 63 = .ok (.getfield 110, 3) := by decide +kernel
theorem dX12_whyOf_66 : decode cX12_whyOf 66 = .ok (.iload_n 2, 1) := by decide +kernel
theorem dX12_whyOf_67 : decode cX12_whyOf 67 = .ok (.iaload, 1) := by decide +kernel
theorem dX12_whyOf_68 : decode cX12_whyOf 68 = .ok (.iadd, 1) := by decide +kernel
theorem dX12_whyOf_69 : decode cX12_whyOf 69 = .ok (.iaload, 1) := by decide +kernel
theorem dX12_whyOf_70 : decode cX12_whyOf 70 = .ok (.istore 4, 2) := by decide +kernel
theorem dX12_whyOf_72 : decode cX12_whyOf 72 = .ok (.iload 4, 2) := by decide +kernel
theorem dX12_whyOf_74 : decode cX12_whyOf 74 = .ok (.iconst (-1), 1) := by decide +kernel
theorem dX12_whyOf_75 : decode cX12_whyOf 75 = .ok (.if_icmp .ne 5, 3) := by decide +kernel
theorem dX12_whyOf_78 : decode cX12_whyOf 78 = .ok (.iconst 5, 1) := by decide +kernel
theorem dX12_whyOf_79 : decode cX12_whyOf 79 = .ok (.ireturn, 1) := by decide +kernel
theorem dX12_whyOf_80 : decode cX12_whyOf 80 = .ok (.aload_n 0, 1) := by decide +kernel
theorem dX12_whyOf_81 : decode cX12_whyOf 81 = .ok (.iload 4, 2) := by decide +kernel
theorem dX12_whyOf_83 : decode cX12_whyOf 83 = .ok (.iload_n 1, 1) := by decide +kernel
theorem dX12_whyOf_84 : decode cX12_whyOf 84 = .ok (.iload_n 2, 1) := by decide +kernel
theorem dX12_whyOf_85 : decode cX12_whyOf 85 = .ok (.iload_n 3, 1) := by decide +kernel
theorem dX12_whyOf_86 : decode cX12_whyOf 86 = .ok (.invokevirtual 362, 3) := by decide +kernel
theorem dX12_whyOf_89 : decode cX12_whyOf 89 = .ok (.iconst (-1), 1) := by decide +kernel
theorem dX12_whyOf_90 : decode cX12_whyOf 90 = .ok (.if_icmp .eq 8, 3) := by decide +kernel
theorem dX12_whyOf_93 : decode cX12_whyOf 93 = .ok (.bipush 6, 2) := by decide +kernel
theorem dX12_whyOf_95 : decode cX12_whyOf 95 = .ok (.goto 4, 3) := by decide +kernel
theorem dX12_whyOf_98 : decode cX12_whyOf 98 = .ok (.iconst 0, 1) := by decide +kernel
theorem dX12_whyOf_99 : decode cX12_whyOf 99 = .ok (.ireturn, 1) := by decide +kernel
theorem dX12_counts_0 : decode cX12_counts 0 = .ok (.aload_n 0, 1) := by decide +kernel
theorem dX12_counts_1 : decode cX12_counts 1 = .ok (.iload_n 1, 1) := by decide +kernel
theorem dX12_counts_2 : decode cX12_counts 2 = .ok (.invokevirtual 323, 3) := by decide +kernel
theorem dX12_counts_5 : decode cX12_counts 5 = .ok (.ifCond .eq 29, 3) := by decide +kernel
theorem dX12_counts_8 : decode cX12_counts 8 = .ok (.aload_n 0, 1) := by decide +kernel
theorem dX12_counts_9 : decode cX12_counts 9 = .ok (.iload_n 2, 1) := by decide +kernel
theorem dX12_counts_10 : decode cX12_counts 10 = .ok (.invokevirtual 326, 3) := by decide +kernel
theorem dX12_counts_13 : decode cX12_counts 13 = .ok (.ifCond .eq 21, 3) := by decide +kernel
theorem dX12_counts_16 : decode cX12_counts 16 = .ok (.aload_n 0, 1) := by decide +kernel
theorem dX12_counts_17 : decode cX12_counts 17 = .ok (.iload_n 3, 1) := by decide +kernel
theorem dX12_counts_18 : decode cX12_counts 18 = .ok (.invokevirtual 336, 3) := by decide +kernel
theorem dX12_counts_21 : decode cX12_counts 21 = .ok (.ifCond .eq 13, 3) := by decide +kernel
theorem dX12_counts_24 : decode cX12_counts 24 = .ok (.aload_n 0, 1) := by decide +kernel
theorem dX12_counts_25 : decode cX12_counts 25 = .ok (.iload_n 1, 1) := by decide +kernel
theorem dX12_counts_26 : decode cX12_counts 26 = .ok (.iload_n 2, 1) := by decide +kernel
theorem dX12_counts_27 : decode cX12_counts 27 = .ok (.iload_n 3, 1) := by decide +kernel
theorem dX12_counts_28 : decode cX12_counts 28 = .ok (.invokevirtual 392, 3) := by decide +kernel
theorem dX12_counts_31 : decode cX12_counts 31 = .ok (.goto 4, 3) := by decide +kernel
theorem dX12_counts_34 : decode cX12_counts 34 = .ok (.iconst (-1), 1) := by decide +kernel
theorem dX12_counts_35 : decode cX12_counts 35 = .ok (.ireturn, 1) := by decide +kernel
theorem dX12_winnerOf_0 : decode cX12_winnerOf 0 = .ok (.iconst (-1), 1) := by decide +kernel
theorem dX12_winnerOf_1 : decode cX12_winnerOf 1 = .ok (.istore 4, 2) := by decide +kernel
theorem dX12_winnerOf_3 : decode cX12_winnerOf 3 = .ok (.iconst 0, 1) := by decide +kernel
theorem dX12_winnerOf_4 : decode cX12_winnerOf 4 = .ok (.istore 5, 2) := by decide +kernel
theorem dX12_winnerOf_6 : decode cX12_winnerOf 6 = .ok (.iconst 0, 1) := by decide +kernel
theorem dX12_winnerOf_7 : decode cX12_winnerOf 7 = .ok (.istore 6, 2) := by decide +kernel
theorem dX12_winnerOf_9 : decode cX12_winnerOf 9 = .ok (.iload 6, 2) := by decide +kernel
theorem dX12_winnerOf_11 : decode cX12_winnerOf 11 = .ok (.aload_n 0, 1) := by decide +kernel
theorem dX12_winnerOf_12 : decode cX12_winnerOf 12 = .ok (.getfield 305, 3) := by decide +kernel
theorem dX12_winnerOf_15 : decode cX12_winnerOf 15 = .ok (.if_icmp .ge 153, 3) := by decide +kernel
theorem dX12_winnerOf_18 : decode cX12_winnerOf 18 = .ok (.aload_n 0, 1) := by decide +kernel
theorem dX12_winnerOf_19 : decode cX12_winnerOf 19 = .ok (.getfield 110, 3) := by decide +kernel
theorem dX12_winnerOf_22 : decode cX12_winnerOf 22 = .ok (.iload 6, 2) := by decide +kernel
theorem dX12_winnerOf_24 : decode cX12_winnerOf 24 = .ok (.iaload, 1) := by decide +kernel
theorem dX12_winnerOf_25 : decode cX12_winnerOf 25 = .ok (.iload_n 2, 1) := by decide +kernel
theorem dX12_winnerOf_26 : decode cX12_winnerOf 26 = .ok (.if_icmp .ne 136, 3) := by decide +kernel
theorem dX12_winnerOf_29 : decode cX12_winnerOf 29 = .ok (.aload_n 0, 1) := by decide +kernel
theorem dX12_winnerOf_30 : decode cX12_winnerOf 30 = .ok (.iload_n 1, 1) := by decide +kernel
theorem dX12_winnerOf_31 : decode cX12_winnerOf 31 = .ok (.iload 6, 2) := by decide +kernel
theorem dX12_winnerOf_33 : decode cX12_winnerOf 33 = .ok (.iload_n 3, 1) := by decide +kernel
theorem dX12_winnerOf_34 : decode cX12_winnerOf 34 = .ok (.invokevirtual 392, 3) := by decide +kernel
theorem dX12_winnerOf_37 : decode cX12_winnerOf 37 = .ok (.ifCond .eq 6, 3) := by decide +kernel
theorem dX12_winnerOf_40 : decode cX12_winnerOf 40 = .ok (.goto 122, 3) := by decide +kernel
theorem dX12_winnerOf_43 : decode cX12_winnerOf 43 = .ok (.iconst (-1), 1) := by decide +kernel
theorem dX12_winnerOf_44 : decode cX12_winnerOf 44 = .ok (.istore 7, 2) := by decide +kernel
theorem dX12_winnerOf_46 : decode cX12_winnerOf 46 = .ok (.iconst 0, 1) := by decide +kernel
theorem dX12_winnerOf_47 : decode cX12_winnerOf 47 = .ok (.istore 8, 2) := by decide +kernel
theorem dX12_winnerOf_49 : decode cX12_winnerOf 49 = .ok (.iload 8, 2) := by decide +kernel
theorem dX12_winnerOf_51 : decode cX12_winnerOf 51 = .ok (.iload_n 3, 1) := by decide +kernel
theorem dX12_winnerOf_52 : decode cX12_winnerOf 52 = .ok (.if_icmp .ge 46, 3) := by decide +kernel
theorem dX12_winnerOf_55 : decode cX12_winnerOf 55 = .ok (.aload_n 0, 1) := by decide +kernel
theorem dX12_winnerOf_56 : decode cX12_winnerOf 56 = .ok (.getfield 131, 3) := by decide +kernel
theorem dX12_winnerOf_59 : decode cX12_winnerOf 59 = .ok (.iload 8, 2) := by decide +kernel
theorem dX12_winnerOf_61 : decode cX12_winnerOf 61 = .ok (.iaload, 1) := by decide +kernel
theorem dX12_winnerOf_62 : decode cX12_winnerOf 62 = .ok (.ifCond .ne 30, 3) := by decide +kernel
theorem dX12_winnerOf_65 : decode cX12_winnerOf 65 = .ok (.aload_n 0, 1) := by decide +kernel
theorem dX12_winnerOf_66 : decode cX12_winnerOf 66 = .ok (.getfield 134, 3) := by decide +kernel
theorem dX12_winnerOf_69 : decode cX12_winnerOf 69 = .ok (.iload 8, 2) := by decide +kernel
theorem dX12_winnerOf_71 : decode cX12_winnerOf 71 = .ok (.iaload, 1) := by decide +kernel
theorem dX12_winnerOf_72 : decode cX12_winnerOf 72 = .ok (.iload_n 1, 1) := by decide +kernel
theorem dX12_winnerOf_73 : decode cX12_winnerOf 73 = .ok (.if_icmp .ne 19, 3) := by decide +kernel
theorem dX12_winnerOf_76 : decode cX12_winnerOf 76 = .ok (.aload_n 0, 1) := by decide +kernel
theorem dX12_winnerOf_77 : decode cX12_winnerOf 77 = .ok (.getfield 137, 3) := by decide +kernel
theorem dX12_winnerOf_80 : decode cX12_winnerOf 80 = .ok (.iload 8, 2) := by decide +kernel
theorem dX12_winnerOf_82 : decode cX12_winnerOf 82 = .ok (.iaload, 1) := by decide +kernel
theorem dX12_winnerOf_83 : decode cX12_winnerOf 83 = .ok (.iload 6, 2) := by decide +kernel
theorem dX12_winnerOf_85 : decode cX12_winnerOf 85 = .ok (.if_icmp .ne 7, 3) := by decide +kernel
theorem dX12_winnerOf_88 : decode cX12_winnerOf 88 = .ok (.iload 8, 2) := by decide +kernel
theorem dX12_winnerOf_90 : decode cX12_winnerOf 90 = .ok (.istore 7, 2) := by decide +kernel
theorem dX12_winnerOf_92 : decode cX12_winnerOf 92 = .ok (.iinc 8 1, 3) := by decide +kernel
theorem dX12_winnerOf_95 : decode cX12_winnerOf 95 = .ok (.goto (-46), 3) := by decide +kernel
theorem dX12_winnerOf_98 : decode cX12_winnerOf 98 = .ok (.iload 7, 2) := by decide +kernel
theorem dX12_winnerOf_100 : decode cX12_winnerOf 100 = .ok (.iconst (-1), 1) := by decide +kernel
theorem dX12_winnerOf_101 : decode cX12_winnerOf 101 = .ok (.if_icmp .eq 61, 3) := by decide +kernel
theorem dX12_winnerOf_104 : decode cX12_winnerOf 104 = .ok (.iload 4, 2) := by decide +kernel
theorem dX12_winnerOf_106 : decode cX12_winnerOf 106 = .ok (.iconst (-1), 1) := by decide +kernel
theorem dX12_winnerOf_107 : decode cX12_winnerOf 107 = .ok (.if_icmp .eq 47, 3) := by decide +kernel
theorem dX12_winnerOf_110 : decode cX12_winnerOf 110 = .ok (.aload_n 0, 1) := by decide +kernel
theorem dX12_winnerOf_111 : decode cX12_winnerOf 111 = .ok (.getfield 140, 3) := by decide +kernel
theorem dX12_winnerOf_114 : decode cX12_winnerOf 114 = .ok (.iload 7, 2) := by decide +kernel
theorem dX12_winnerOf_116 : decode cX12_winnerOf 116 = .ok (.iaload, 1) := by decide +kernel
theorem dX12_winnerOf_117 : decode cX12_winnerOf 117 = .ok (.aload_n 0, 1) := by decide +kernel
theorem dX12_winnerOf_118 : decode cX12_winnerOf 118 = .ok (.getfield 140, 3) := by decide +kernel
theorem dX12_winnerOf_121 : decode cX12_winnerOf 121 = .ok (.iload 5, 2) := by decide +kernel
theorem dX12_winnerOf_123 : decode cX12_winnerOf 123 = .ok (.iaload, 1) := by decide +kernel
theorem dX12_winnerOf_124 : decode cX12_winnerOf 124 = .ok (.if_icmp .gt 38, 3) := by decide +kernel
theorem dX12_winnerOf_127 : decode cX12_winnerOf 127 = .ok (.aload_n 0, 1) := by decide +kernel
theorem dX12_winnerOf_128 : decode cX12_winnerOf 128 = .ok (.getfield 140, 3) := by decide +kernel
theorem dX12_winnerOf_131 : decode cX12_winnerOf 131 = .ok (.iload 7, 2) := by decide +kernel
theorem dX12_winnerOf_133 : decode cX12_winnerOf 133 = .ok (.iaload, 1) := by decide +kernel
theorem dX12_winnerOf_134 : decode cX12_winnerOf 134 = .ok (.aload_n 0, 1) := by decide +kernel
theorem dX12_winnerOf_135 : decode cX12_winnerOf 135 = .ok (.getfield 140, 3) := by decide +kernel
theorem dX12_winnerOf_138 : decode cX12_winnerOf 138 = .ok (.iload 5, 2) := by decide +kernel
theorem dX12_winnerOf_140 : decode cX12_winnerOf 140 = .ok (.iaload, 1) := by decide +kernel
theorem dX12_winnerOf_141 : decode cX12_winnerOf 141 = .ok (.if_icmp .ne 13, 3) := by decide +kernel
theorem dX12_winnerOf_144 : decode cX12_winnerOf 144 = .ok (.iload 7, 2) := by decide +kernel
theorem dX12_winnerOf_146 : decode cX12_winnerOf 146 = .ok (.iload 5, 2) := by decide +kernel
theorem dX12_winnerOf_148 : decode cX12_winnerOf 148 = .ok (.if_icmp .le 6, 3) := by decide +kernel
theorem dX12_winnerOf_151 : decode cX12_winnerOf 151 = .ok (.goto 11, 3) := by decide +kernel
theorem dX12_winnerOf_154 : decode cX12_winnerOf 154 = .ok (.iload 6, 2) := by decide +kernel
theorem dX12_winnerOf_156 : decode cX12_winnerOf 156 = .ok (.istore 4, 2) := by decide +kernel
theorem dX12_winnerOf_158 : decode cX12_winnerOf 158 = .ok (.iload 7, 2) := by decide +kernel
theorem dX12_winnerOf_160 : decode cX12_winnerOf 160 = .ok (.istore 5, 2) := by decide +kernel
theorem dX12_winnerOf_162 : decode cX12_winnerOf 162 = .ok (.iinc 6 1, 3) := by decide +kernel
theorem dX12_winnerOf_165 : decode cX12_winnerOf 165 = .ok (.goto (-156), 3) := by decide +kernel
theorem dX12_winnerOf_168 : decode cX12_winnerOf 168 = .ok (.iload 4, 2) := by decide +kernel
theorem dX12_winnerOf_170 : decode cX12_winnerOf 170 = .ok (.ireturn, 1) := by decide +kernel
theorem dX12_winner_0 : decode cX12_winner 0 = .ok (.aload_n 0, 1) := by decide +kernel
theorem dX12_winner_1 : decode cX12_winner 1 = .ok (.iload_n 1, 1) := by decide +kernel
theorem dX12_winner_2 : decode cX12_winner 2 = .ok (.invokevirtual 323, 3) := by decide +kernel
theorem dX12_winner_5 : decode cX12_winner 5 = .ok (.ifCond .eq 29, 3) := by decide +kernel
theorem dX12_winner_8 : decode cX12_winner 8 = .ok (.aload_n 0, 1) := by decide +kernel
theorem dX12_winner_9 : decode cX12_winner 9 = .ok (.iload_n 2, 1) := by decide +kernel
theorem dX12_winner_10 : decode cX12_winner 10 = .ok (.invokevirtual 317, 3) := by decide +kernel
theorem dX12_winner_13 : decode cX12_winner 13 = .ok (.ifCond .eq 21, 3) := by decide +kernel
theorem dX12_winner_16 : decode cX12_winner 16 = .ok (.aload_n 0, 1) := by decide +kernel
theorem dX12_winner_17 : decode cX12_winner 17 = .ok (.iload_n 3, 1) := by decide +kernel
theorem dX12_winner_18 : decode cX12_winner 18 = .ok (.invokevirtual 336, 3) := by decide +kernel
theorem dX12_winner_21 : decode cX12_winner 21 = .ok (.ifCond .eq 13, 3) := by decide +kernel
theorem dX12_winner_24 : decode cX12_winner 24 = .ok (.aload_n 0, 1) := by decide +kernel
theorem dX12_winner_25 : decode cX12_winner 25 = .ok (.iload_n 1, 1) := by decide +kernel
theorem dX12_winner_26 : decode cX12_winner 26 = .ok (.iload_n 2, 1) := by decide +kernel
theorem dX12_winner_27 : decode cX12_winner 27 = .ok (.iload_n 3, 1) := by decide +kernel
theorem dX12_winner_28 : decode cX12_winner 28 = .ok (.invokevirtual 395, 3) := by decide +kernel
theorem dX12_winner_31 : decode cX12_winner 31 = .ok (.goto 4, 3) := by decide +kernel
theorem dX12_winner_34 : decode cX12_winner 34 = .ok (.iconst (-1), 1) := by decide +kernel
theorem dX12_winner_35 : decode cX12_winner 35 = .ok (.ireturn, 1) := by decide +kernel
theorem dX12_pointsOf_0 : decode cX12_pointsOf 0 = .ok (.aload_n 0, 1) := by decide +kernel
theorem dX12_pointsOf_1 : decode cX12_pointsOf 1 = .ok (.iload_n 1, 1) := by decide +kernel
theorem dX12_pointsOf_2 : decode cX12_pointsOf 2 = .ok (.aload_n 0, 1) := by decide +kernel
theorem dX12_pointsOf_3 : decode cX12_pointsOf 3 = .ok (.getfield 110, 3) := by decide +kernel
theorem dX12_pointsOf_6 : decode cX12_pointsOf 6 = .ok (.iload_n 2, 1) := by decide +kernel
theorem dX12_pointsOf_7 : decode cX12_pointsOf 7 = .ok (.iaload, 1) := by decide +kernel
theorem dX12_pointsOf_8 : decode cX12_pointsOf 8 = .ok (.iload_n 3, 1) := by decide +kernel
theorem dX12_pointsOf_9 : decode cX12_pointsOf 9 = .ok (.invokevirtual 395, 3) := by decide +kernel
theorem dX12_pointsOf_12 : decode cX12_pointsOf 12 = .ok (.iload_n 2, 1) := by decide +kernel
theorem dX12_pointsOf_13 : decode cX12_pointsOf 13 = .ok (.if_icmp .eq 5, 3) := by decide +kernel
theorem dX12_pointsOf_16 : decode cX12_pointsOf 16 = .ok (.iconst 0, 1) := by decide +kernel
theorem dX12_pointsOf_17 : decode cX12_pointsOf 17 = .ok (.ireturn, 1) := by decide +kernel
theorem dX12_pointsOf_18 : decode cX12_pointsOf 18 = .ok (.iconst 0, 1) := by decide +kernel
theorem dX12_pointsOf_19 : decode cX12_pointsOf 19 = .ok (.istore 4, 2) := by decide +kernel
theorem dX12_pointsOf_21 : decode cX12_pointsOf 21 = .ok (.iconst 0, 1) := by decide +kernel
theorem dX12_pointsOf_22 : decode cX12_pointsOf 22 = .ok (.istore 5, 2) := by decide +kernel
theorem dX12_pointsOf_24 : decode cX12_pointsOf 24 = .ok (.iload 5, 2) := by decide +kernel
theorem dX12_pointsOf_26 : decode cX12_pointsOf 26 = .ok (.aload_n 0, 1) := by decide +kernel
theorem dX12_pointsOf_27 : decode cX12_pointsOf 27 = .ok (.getfield 305, 3) := by decide +kernel
theorem dX12_pointsOf_30 : decode cX12_pointsOf 30 = .ok (.if_icmp .ge 45, 3) := by decide +kernel
theorem dX12_pointsOf_33 : decode cX12_pointsOf 33 = .ok (.iload 5, 2) := by decide +kernel
theorem dX12_pointsOf_35 : decode cX12_pointsOf 35 = .ok (.iload_n 2, 1) := by decide +kernel
theorem dX12_pointsOf_36 : decode cX12_pointsOf 36 = .ok (.if_icmp .eq 33, 3) := by decide +kernel
theorem dX12_pointsOf_39 : decode cX12_pointsOf 39 = .ok (.aload_n 0, 1) := by decide +kernel
theorem dX12_pointsOf_40 : decode cX12_pointsOf 40 = .ok (.getfield 110, 3) := by decide +kernel
theorem dX12_pointsOf_43 : decode cX12_pointsOf 43 = .ok (.iload 5, 2) := by decide +kernel
theorem dX12_pointsOf_45 : decode cX12_pointsOf 45 = .ok (.iaload, 1) := by decide +kernel
theorem dX12_pointsOf_46 : decode cX12_pointsOf 46 = .ok (.aload_n 0, 1) := by decide +kernel
theorem dX12_pointsOf_47 : decode cX12_pointsOf 47 = .ok (.getfield 110, 3) := by decide +kernel
theorem dX12_pointsOf_50 : decode cX12_pointsOf 50 = .ok (.iload_n 2, 1) := by decide +kernel
theorem dX12_pointsOf_51 : decode cX12_pointsOf 51 = .ok (.iaload, 1) := by decide +kernel
theorem dX12_pointsOf_52 : decode cX12_pointsOf 52 = .ok (.if_icmp .ne 17, 3) := by decide +kernel
theorem dX12_pointsOf_55 : decode cX12_pointsOf 55 = .ok (.aload_n 0, 1) := by decide +kernel
theorem dX12_pointsOf_56 : decode cX12_pointsOf 56 = .ok (.iload_n 1, 1) := by decide +kernel
theorem dX12_pointsOf_57 : decode cX12_pointsOf 57 = .ok (.iload 5, 2) := by decide +kernel
theorem dX12_pointsOf_59 : decode cX12_pointsOf 59 = .ok (.iload_n 3, 1) := by decide +kernel
theorem dX12_pointsOf_60 : decode cX12_pointsOf 60 = .ok (.invokevirtual 392, 3) := by decide +kernel
theorem dX12_pointsOf_63 : decode cX12_pointsOf 63 = .ok (.ifCond .ne 6, 3) := by decide +kernel
theorem dX12_pointsOf_66 : decode cX12_pointsOf 66 = .ok (.iinc 4 1, 3) := by decide +kernel
theorem dX12_pointsOf_69 : decode cX12_pointsOf 69 = .ok (.iinc 5 1, 3) := by decide +kernel
theorem dX12_pointsOf_72 : decode cX12_pointsOf 72 = .ok (.goto (-48), 3) := by decide +kernel
theorem dX12_pointsOf_75 : decode cX12_pointsOf 75 = .ok (.aload_n 0, 1) := by decide +kernel
theorem dX12_pointsOf_76 : decode cX12_pointsOf 76 = .ok (.iload_n 1, 1) := by decide +kernel
theorem dX12_pointsOf_77 : decode cX12_pointsOf 77 = .ok (.iload_n 2, 1) := by decide +kernel
theorem dX12_pointsOf_78 : decode cX12_pointsOf 78 = .ok (.invokevirtual 359, 3) := by decide +kernel
theorem dX12_pointsOf_81 : decode cX12_pointsOf 81 = .ok (.istore 5, 2) := by decide +kernel
theorem dX12_pointsOf_83 : decode cX12_pointsOf 83 = .ok (.aload_n 0, 1) := by decide +kernel
theorem dX12_pointsOf_84 : decode cX12_pointsOf 84 = .ok (.iload_n 1, 1) := by decide +kernel
theorem dX12_pointsOf_85 : decode cX12_pointsOf 85 = .ok (.iload_n 2, 1) := by decide +kernel
theorem dX12_pointsOf_86 : decode cX12_pointsOf 86 = .ok (.invokevirtual 353, 3) := by decide +kernel
theorem dX12_pointsOf_89 : decode cX12_pointsOf 89 = .ok (.aload_n 0, 1) := by decide +kernel
theorem dX12_pointsOf_90 : decode cX12_pointsOf 90 = .ok (.getfield 143, 3) := by decide +kernel
theorem dX12_pointsOf_93 : decode cX12_pointsOf 93 = .ok (.iconst 4, 1) := by decide +kernel
theorem dX12_pointsOf_94 : decode cX12_pointsOf 94 = .ok (.iload 5, 2) := by decide +kernel
theorem dX12_pointsOf_96 : decode cX12_pointsOf 96 = .ok (.iastore, 1) := by decide +kernel
theorem dX12_pointsOf_97 : decode cX12_pointsOf 97 = .ok (.aload_n 0, 1) := by decide +kernel
theorem dX12_pointsOf_98 : decode cX12_pointsOf 98 = .ok (.getfield 143, 3) := by decide +kernel
theorem dX12_pointsOf_101 : decode cX12_pointsOf 101 = .ok (.bipush 8, 2) := by decide +kernel
theorem dX12_pointsOf_103 : decode cX12_pointsOf 103 = .ok (.iload 4, 2) := by decide +kernel
theorem dX12_pointsOf_105 : decode cX12_pointsOf 105 = .ok (.iastore, 1) := by decide +kernel
theorem dX12_pointsOf_106 : decode cX12_pointsOf 106 = .ok (.aload_n 0, 1) := by decide +kernel
theorem dX12_pointsOf_107 : decode cX12_pointsOf 107 = .ok (.iconst 2, 1) := by decide +kernel
theorem dX12_pointsOf_108 : decode cX12_pointsOf 108 = .ok (.invokevirtual 356, 3) := by decide +kernel
theorem dX12_pointsOf_111 : decode cX12_pointsOf 111 = .ok (.istore 6, 2) := by decide +kernel
theorem dX12_pointsOf_113 : decode cX12_pointsOf 113 = .ok (.iload 6, 2) := by decide +kernel
theorem dX12_pointsOf_115 : decode cX12_pointsOf 115 = .ok (.iconst (-1), 1) := by decide +kernel
theorem dX12_pointsOf_116 : decode cX12_pointsOf 116 = .ok (.if_icmp .ne 7, 3) := by decide +kernel
theorem dX12_pointsOf_119 : decode cX12_pointsOf 119 = .ok (.iconst 0, 1) := by decide +kernel
theorem dX12_pointsOf_120 : decode cX12_pointsOf 120 = .ok (.goto 37, 3) := by decide +kernel
theorem dX12_pointsOf_123 : decode cX12_pointsOf 123 = .ok (.aload_n 0, 1) := by decide +kernel
theorem dX12_pointsOf_124 : decode cX12_pointsOf 124 = .ok (.aload_n 0, 1) := by decide +kernel
theorem dX12_pointsOf_125 : decode cX12_pointsOf 125 = .ok (.getfield 52, 3) := by decide +kernel
theorem dX12_pointsOf_128 : decode cX12_pointsOf 128 = .ok (.bipush 16, 2) := by decide +kernel
theorem dX12_pointsOf_130 : decode cX12_pointsOf 130 = .ok (.aload_n 0, 1) := by decide +kernel
theorem dX12_pointsOf_131 : decode cX12_pointsOf 131 = .ok (.getfield 266, 3) := by decide +kernel
theorem dX12_pointsOf_134 : decode cX12_pointsOf 134 = .ok (.imul, 1) := by decide +kernel
theorem dX12_pointsOf_135 : decode cX12_pointsOf 135 = .ok (.iload 6, 2) := by decide +kernel
theorem dX12_pointsOf_137 : decode cX12_pointsOf 137 = .ok (.iadd, 1) := by decide +kernel
theorem dX12_pointsOf_138 : decode cX12_pointsOf 138 = .ok (.iaload, 1) := by decide +kernel
theorem dX12_pointsOf_139 : decode cX12_pointsOf 139 = .ok (.aload_n 0, 1) := by decide +kernel
theorem dX12_pointsOf_140 : decode cX12_pointsOf 140 = .ok (.getfield 55, 3) := by decide +kernel
theorem dX12_pointsOf_143 : decode cX12_pointsOf 143 = .ok (.bipush 16, 2) := by decide +kernel
theorem dX12_pointsOf_145 : decode cX12_pointsOf 145 = .ok (.aload_n 0, 1) := by decide +kernel
theorem dX12_pointsOf_146 : decode cX12_pointsOf 146 = .ok (.getfield 266, 3) := by decide +kernel
theorem dX12_pointsOf_149 : decode cX12_pointsOf 149 = .ok (.imul, 1) := by decide +kernel
theorem dX12_pointsOf_150 : decode cX12_pointsOf 150 = .ok (.iload 6, 2) := by decide +kernel
theorem dX12_pointsOf_152 : decode cX12_pointsOf 152 = .ok (.iadd, 1) := by decide +kernel
theorem dX12_pointsOf_153 : decode cX12_pointsOf 153 = .ok (.iaload, 1) := by decide +kernel
theorem dX12_pointsOf_154 : decode cX12_pointsOf 154 = .ok (.invokevirtual 346, 3) := by decide +kernel
theorem dX12_pointsOf_157 : decode cX12_pointsOf 157 = .ok (.ireturn, 1) := by decide +kernel
theorem dX12_points_0 : decode cX12_points 0 = .ok (.aload_n 0, 1) := by decide +kernel
theorem dX12_points_1 : decode cX12_points 1 = .ok (.iload_n 1, 1) := by decide +kernel
theorem dX12_points_2 : decode cX12_points 2 = .ok (.invokevirtual 323, 3) := by decide +kernel
theorem dX12_points_5 : decode cX12_points 5 = .ok (.ifCond .eq 29, 3) := by decide +kernel
theorem dX12_points_8 : decode cX12_points 8 = .ok (.aload_n 0, 1) := by decide +kernel
theorem dX12_points_9 : decode cX12_points 9 = .ok (.iload_n 2, 1) := by decide +kernel
theorem dX12_points_10 : decode cX12_points 10 = .ok (.invokevirtual 326, 3) := by decide +kernel
theorem dX12_points_13 : decode cX12_points 13 = .ok (.ifCond .eq 21, 3) := by decide +kernel
theorem dX12_points_16 : decode cX12_points 16 = .ok (.aload_n 0, 1) := by decide +kernel
theorem dX12_points_17 : decode cX12_points 17 = .ok (.iload_n 3, 1) := by decide +kernel
theorem dX12_points_18 : decode cX12_points 18 = .ok (.invokevirtual 336, 3) := by decide +kernel
theorem dX12_points_21 : decode cX12_points 21 = .ok (.ifCond .eq 13, 3) := by decide +kernel
theorem dX12_points_24 : decode cX12_points 24 = .ok (.aload_n 0, 1) := by decide +kernel
theorem dX12_points_25 : decode cX12_points 25 = .ok (.iload_n 1, 1) := by decide +kernel
theorem dX12_points_26 : decode cX12_points 26 = .ok (.iload_n 2, 1) := by decide +kernel
theorem dX12_points_27 : decode cX12_points 27 = .ok (.iload_n 3, 1) := by decide +kernel
theorem dX12_points_28 : decode cX12_points 28 = .ok (.invokevirtual 398, 3) := by decide +kernel
theorem dX12_points_31 : decode cX12_points 31 = .ok (.goto 4, 3) := by decide +kernel
theorem dX12_points_34 : decode cX12_points 34 = .ok (.iconst 0, 1) := by decide +kernel
theorem dX12_points_35 : decode cX12_points 35 = .ok (.ireturn, 1) := by decide +kernel
theorem dX12_title_0 : decode cX12_title 0 = .ok (.aload_n 0, 1) := by decide +kernel
theorem dX12_title_1 : decode cX12_title 1 = .ok (.iload_n 1, 1) := by decide +kernel
theorem dX12_title_2 : decode cX12_title 2 = .ok (.invokevirtual 326, 3) := by decide +kernel
theorem dX12_title_5 : decode cX12_title 5 = .ok (.ifCond .eq 11, 3) := by decide +kernel
theorem dX12_title_8 : decode cX12_title 8 = .ok (.aload_n 0, 1) := by decide +kernel
theorem dX12_title_9 : decode cX12_title 9 = .ok (.iload_n 2, 1) := by decide +kernel
theorem dX12_title_10 : decode cX12_title 10 = .ok (.invokevirtual 336, 3) := by decide +kernel
theorem dX12_title_13 : decode cX12_title 13 = .ok (.ifCond .ne 5, 3) := by decide +kernel
theorem dX12_title_16 : decode cX12_title 16 = .ok (.iconst (-1), 1) := by decide +kernel
theorem dX12_title_17 : decode cX12_title 17 = .ok (.ireturn, 1) := by decide +kernel
theorem dX12_title_18 : decode cX12_title 18 = .ok (.iconst (-1), 1) := by decide +kernel
theorem dX12_title_19 : decode cX12_title 19 = .ok (.istore_n 3, 1) := by decide +kernel
theorem dX12_title_20 : decode cX12_title 20 = .ok (.bipush 16, 2) := by decide +kernel
theorem dX12_title_22 : decode cX12_title 22 = .ok (.aload_n 0, 1) := by decide +kernel
theorem dX12_title_23 : decode cX12_title 23 = .ok (.getfield 266, 3) := by decide +kernel
theorem dX12_title_26 : decode cX12_title 26 = .ok (.imul, 1) := by decide +kernel
theorem dX12_title_27 : decode cX12_title 27 = .ok (.aload_n 0, 1) := by decide +kernel
theorem dX12_title_28 : decode cX12_title 28 = .ok (.getfield 40, 3) := by decide +kernel
theorem dX12_title_31 : decode cX12_title 31 = .ok (.aload_n 0, 1) := by decide +kernel
theorem dX12_title_32 : decode cX12_title 32 = .ok (.getfield 266, 3) := by decide +kernel
theorem dX12_title_35 : decode cX12_title 35 = .ok (.iaload, 1) := by decide +kernel
theorem dX12_title_36 : decode cX12_title 36 = .ok (.iadd, 1) := by decide +kernel
theorem dX12_title_37 : decode cX12_title 37 = .ok (.iconst 1, 1) := by decide +kernel
theorem dX12_title_38 : decode cX12_title 38 = .ok (.isub, 1) := by decide +kernel
theorem dX12_title_39 : decode cX12_title 39 = .ok (.istore 4, 2) := by decide +kernel
theorem dX12_title_41 : decode cX12_title 41 = .ok (.iload 4, 2) := by decide +kernel
theorem dX12_title_43 : decode cX12_title 43 = .ok (.bipush 16, 2) := by decide +kernel
theorem dX12_title_45 : decode cX12_title 45 = .ok (.aload_n 0, 1) := by decide +kernel
theorem dX12_title_46 : decode cX12_title 46 = .ok (.getfield 266, 3) := by decide +kernel
theorem dX12_title_49 : decode cX12_title 49 = .ok (.imul, 1) := by decide +kernel
theorem dX12_title_50 : decode cX12_title 50 = .ok (.if_icmp .lt 23, 3) := by decide +kernel
theorem dX12_title_53 : decode cX12_title 53 = .ok (.aload_n 0, 1) := by decide +kernel
theorem dX12_title_54 : decode cX12_title 54 = .ok (.getfield 43, 3) := by decide +kernel
theorem dX12_title_57 : decode cX12_title 57 = .ok (.iload 4, 2) := by decide +kernel
theorem dX12_title_59 : decode cX12_title 59 = .ok (.iaload, 1) := by decide +kernel
theorem dX12_title_60 : decode cX12_title 60 = .ok (.iconst 3, 1) := by decide +kernel
theorem dX12_title_61 : decode cX12_title 61 = .ok (.if_icmp .ne 6, 3) := by decide +kernel
theorem dX12_title_64 : decode cX12_title 64 = .ok (.iload 4, 2) := by decide +kernel
theorem dX12_title_66 : decode cX12_title 66 = .ok (.istore_n 3, 1) := by decide +kernel
theorem dX12_title_67 : decode cX12_title 67 = .ok (.iinc 4 (-1), 3) := by decide +kernel
theorem dX12_title_70 : decode cX12_title 70 = .ok (.goto (-29), 3) := by decide +kernel
theorem dX12_title_73 : decode cX12_title 73 = .ok (.iload_n 3, 1) := by decide +kernel
theorem dX12_title_74 : decode cX12_title 74 = .ok (.iconst (-1), 1) := by decide +kernel
theorem dX12_title_75 : decode cX12_title 75 = .ok (.if_icmp .ne 5, 3) := by decide +kernel
theorem dX12_title_78 : decode cX12_title 78 = .ok (.iconst (-1), 1) := by decide +kernel
theorem dX12_title_79 : decode cX12_title 79 = .ok (.ireturn, 1) := by decide +kernel
theorem dX12_title_80 : decode cX12_title 80 = .ok (.iconst 0, 1) := by decide +kernel
theorem dX12_title_81 : decode cX12_title 81 = .ok (.istore 4, 2) := by decide +kernel
theorem dX12_title_83 : decode cX12_title 83 = .ok (.iconst 0, 1) := by decide +kernel
theorem dX12_title_84 : decode cX12_title 84 = .ok (.istore 5, 2) := by decide +kernel
theorem dX12_title_86 : decode cX12_title 86 = .ok (.iconst 0, 1) := by decide +kernel
theorem dX12_title_87 : decode cX12_title 87 = .ok (.istore 6, 2) := by decide +kernel
theorem dX12_title_89 : decode cX12_title 89 = .ok (.iload 6, 2) := by decide +kernel
theorem dX12_title_91 : decode cX12_title 91 = .ok (.aload_n 0, 1) := by decide +kernel
theorem dX12_title_92 : decode cX12_title 92 = .ok (.getfield 308, 3) := by decide +kernel
theorem dX12_title_95 : decode cX12_title 95 = .ok (.if_icmp .ge 119, 3) := by decide +kernel
theorem dX12_title_98 : decode cX12_title 98 = .ok (.aload_n 0, 1) := by decide +kernel
theorem dX12_title_99 : decode cX12_title 99 = .ok (.iload 6, 2) := by decide +kernel
theorem dX12_title_101 : decode cX12_title 101 = .ok (.aload_n 0, 1) := by decide +kernel
theorem dX12_title_102 : decode cX12_title 102 = .ok (.getfield 110, 3) := by decide +kernel
theorem dX12_title_105 : decode cX12_title 105 = .ok (.iload_n 1, 1) := by decide +kernel
theorem dX12_title_106 : decode cX12_title 106 = .ok (.iaload, 1) := by decide +kernel
theorem dX12_title_107 : decode cX12_title 107 = .ok (.iload_n 2, 1) := by decide +kernel
theorem dX12_title_108 : decode cX12_title 108 = .ok (.invokevirtual 395, 3) := by decide +kernel
theorem dX12_title_111 : decode cX12_title 111 = .ok (.iload_n 1, 1) := by decide +kernel
theorem dX12_title_112 : decode cX12_title 112 = .ok (.if_icmp .ne 40, 3) := by decide +kernel
theorem dX12_title_115 : decode cX12_title 115 = .ok (.iload 4, 2) := by decide +kernel
theorem dX12_title_117 : decode cX12_title 117 = .ok (.aload_n 0, 1) := by decide +kernel
theorem dX12_title_118 : decode cX12_title 118 = .ok (.iload 6, 2) := by decide +kernel
theorem dX12_title_120 : decode cX12_title 120 = .ok (.iload_n 1, 1) := by decide +kernel
theorem dX12_title_121 : decode cX12_title 121 = .ok (.iload_n 2, 1) := by decide +kernel
theorem dX12_title_122 : decode cX12_title 122 = .ok (.invokevirtual 398, 3) := by decide +kernel
theorem dX12_title_125 : decode cX12_title 125 = .ok (.iadd, 1) := by decide +kernel
theorem dX12_title_126 : decode cX12_title 126 = .ok (.istore 4, 2) := by decide +kernel
theorem dX12_title_128 : decode cX12_title 128 = .ok (.iload 5, 2) := by decide +kernel
theorem dX12_title_130 : decode cX12_title 130 = .ok (.iconst 1, 1) := by decide +kernel
theorem dX12_title_131 : decode cX12_title 131 = .ok (.aload_n 0, 1) := by decide +kernel
theorem dX12_title_132 : decode cX12_title 132 = .ok (.getfield 152, 3) := by decide +kernel
theorem dX12_title_135 : decode cX12_title 135 = .ok (.bipush 6, 2) := by decide +kernel
theorem dX12_title_137 : decode cX12_title 137 = .ok (.iload 6, 2) := by decide +kernel
theorem dX12_title_139 : decode cX12_title 139 = .ok (.imul, 1) := by decide +kernel
theorem dX12_title_140 : decode cX12_title 140 = .ok (.aload_n 0, 1) := by decide +kernel
theorem dX12_title_141 : decode cX12_title 141 = .ok (.getfield 110, 3) := by decide +kernel
theorem dX12_title_144 : decode cX12_title 144 = .ok (.iload_n 1, 1) := by decide +kernel
theorem dX12_title_145 : decode cX12_title 145 = .ok (.iaload, 1) := by decide +kernel
theorem dX12_title_146 : decode cX12_title 146 = .ok (.iadd, 1) := by decide +kernel
theorem dX12_title_147 : decode cX12_title 147 = .ok (.iaload, 1) := by decide +kernel
theorem dX12_title_148 : decode cX12_title 148 = .ok (.ishl, 1) := by decide +kernel
theorem dX12_title_149 : decode cX12_title 149 = .ok (.ior, 1) := by decide +kernel
theorem dX12_title_150 : decode cX12_title 150 = .ok (.istore 5, 2) := by decide +kernel
theorem dX12_title_152 : decode cX12_title 152 = .ok (.iconst 0, 1) := by decide +kernel
theorem dX12_title_153 : decode cX12_title 153 = .ok (.istore 7, 2) := by decide +kernel
theorem dX12_title_155 : decode cX12_title 155 = .ok (.iconst 0, 1) := by decide +kernel
theorem dX12_title_156 : decode cX12_title 156 = .ok (.istore 8, 2) := by decide +kernel
theorem dX12_title_158 : decode cX12_title 158 = .ok (.iload 8, 2) := by decide +kernel
theorem dX12_title_160 : decode cX12_title 160 = .ok (.bipush 12, 2) := by decide +kernel
theorem dX12_title_162 : decode cX12_title 162 = .ok (.if_icmp .ge 21, 3) := by decide +kernel
theorem dX12_title_165 : decode cX12_title 165 = .ok (.iload 7, 2) := by decide +kernel
theorem dX12_title_167 : decode cX12_title 167 = .ok (.iload 5, 2) := by decide +kernel
theorem dX12_title_169 : decode cX12_title 169 = .ok (.iload 8, 2) := by decide +kernel
theorem dX12_title_171 : decode cX12_title 171 = .ok (.ishr, 1) := by decide +kernel
theorem dX12_title_172 : decode cX12_title 172 = .ok (.iconst 1, 1) := by decide +kernel
theorem dX12_title_173 : decode cX12_title 173 = .ok (.iand, 1) := by decide +kernel
theorem dX12_title_174 : decode cX12_title 174 = .ok (.iadd, 1) := by decide +kernel
theorem dX12_title_175 : decode cX12_title 175 = .ok (.istore 7, 2) := by decide +kernel
theorem dX12_title_177 : decode cX12_title 177 = .ok (.iinc 8 1, 3) := by decide +kernel
theorem dX12_title_180 : decode cX12_title 180 = .ok (.goto (-22), 3) := by decide +kernel
theorem dX12_title_183 : decode cX12_title 183 = .ok (.iload 4, 2) := by decide +kernel
theorem dX12_title_185 : decode cX12_title 185 = .ok (.aload_n 0, 1) := by decide +kernel
theorem dX12_title_186 : decode cX12_title 186 = .ok (.getfield 46, 3) := by decide +kernel
theorem dX12_title_189 : decode cX12_title 189 = .ok (.iload_n 3, 1) := by decide +kernel
theorem dX12_title_190 : decode cX12_title 190 = .ok (.iaload, 1) := by decide +kernel
theorem dX12_title_191 : decode cX12_title 191 = .ok (.if_icmp .lt 17, 3) := by decide +kernel
theorem dX12_title_194 : decode cX12_title 194 = .ok (.iload 7, 2) := by decide +kernel
theorem dX12_title_196 : decode cX12_title 196 = .ok (.aload_n 0, 1) := by decide +kernel
theorem dX12_title_197 : decode cX12_title 197 = .ok (.getfield 49, 3) := by decide +kernel
theorem dX12_title_200 : decode cX12_title 200 = .ok (.iload_n 3, 1) := by decide +kernel
theorem dX12_title_201 : decode cX12_title 201 = .ok (.iaload, 1) := by decide +kernel
theorem dX12_title_202 : decode cX12_title 202 = .ok (.if_icmp .lt 6, 3) := by decide +kernel
theorem dX12_title_205 : decode cX12_title 205 = .ok (.iload 6, 2) := by decide +kernel
theorem dX12_title_207 : decode cX12_title 207 = .ok (.ireturn, 1) := by decide +kernel
theorem dX12_title_208 : decode cX12_title 208 = .ok (.iinc 6 1, 3) := by decide +kernel
theorem dX12_title_211 : decode cX12_title 211 = .ok (.goto (-122), 3) := by decide +kernel
theorem dX12_title_214 : decode cX12_title 214 = .ok (.iconst (-1), 1) := by decide +kernel
theorem dX12_title_215 : decode cX12_title 215 = .ok (.ireturn, 1) := by decide +kernel
theorem dX12_changed_0 : decode cX12_changed 0 = .ok (.aload_n 0, 1) := by decide +kernel
theorem dX12_changed_1 : decode cX12_changed 1 = .ok (.iload_n 1, 1) := by decide +kernel
theorem dX12_changed_2 : decode cX12_changed 2 = .ok (.invokevirtual 323, 3) := by decide +kernel
theorem dX12_changed_5 : decode cX12_changed 5 = .ok (.ifCond .eq 19, 3) := by decide +kernel
theorem dX12_changed_8 : decode cX12_changed 8 = .ok (.aload_n 0, 1) := by decide +kernel
theorem dX12_changed_9 : decode cX12_changed 9 = .ok (.iload_n 2, 1) := by decide +kernel
theorem dX12_changed_10 : decode cX12_changed 10 = .ok (.invokevirtual 336, 3) := by decide +kernel
theorem dX12_changed_13 : decode cX12_changed 13 = .ok (.ifCond .eq 11, 3) := by decide +kernel
theorem dX12_changed_16 : decode cX12_changed 16 = .ok (.aload_n 0, 1) := by decide +kernel
theorem dX12_changed_17 : decode cX12_changed 17 = .ok (.iload_n 3, 1) := by decide +kernel
theorem dX12_changed_18 : decode cX12_changed 18 = .ok (.invokevirtual 336, 3) := by decide +kernel
theorem dX12_changed_21 : decode cX12_changed 21 = .ok (.ifCond .ne 5, 3) := by decide +kernel
theorem dX12_changed_24 : decode cX12_changed 24 = .ok (.iconst (-1), 1) := by decide +kernel
theorem dX12_changed_25 : decode cX12_changed 25 = .ok (.ireturn, 1) := by decide +kernel
theorem dX12_changed_26 : decode cX12_changed 26 = .ok (.iconst 0, 1) := by decide +kernel
theorem dX12_changed_27 : decode cX12_changed 27 = .ok (.istore 4, 2) := by decide +kernel
theorem dX12_changed_29 : decode cX12_changed 29 = .ok (.iload 4, 2) := by decide +kernel
theorem dX12_changed_31 : decode cX12_changed 31 = .ok (.aload_n 0, 1) := by decide +kernel
theorem dX12_changed_32 : decode cX12_changed 32 = .ok (.getfield 302, 3) := by decide +kernel
theorem dX12_changed_35 : decode cX12_changed 35 = .ok (.if_icmp .ge 31, 3) := by decide +kernel
theorem dX12_changed_38 : decode cX12_changed 38 = .ok (.aload_n 0, 1) := by decide +kernel
theorem dX12_changed_39 : decode cX12_changed 39 = .ok (.iload_n 1, 1) := by decide +kernel
theorem dX12_changed_40 : decode cX12_changed 40 = .ok (.iload 4, 2) := by decide +kernel
theorem dX12_changed_42 : decode cX12_changed 42 = .ok (.iload_n 2, 1) := by decide +kernel
theorem dX12_changed_43 : decode cX12_changed 43 = .ok (.invokevirtual 395, 3) := by decide +kernel
theorem dX12_changed_46 : decode cX12_changed 46 = .ok (.aload_n 0, 1) := by decide +kernel
theorem dX12_changed_47 : decode cX12_changed 47 = .ok (.iload_n 1, 1) := by decide +kernel
theorem dX12_changed_48 : decode cX12_changed 48 = .ok (.iload 4, 2) := by decide +kernel
theorem dX12_changed_50 : decode cX12_changed 50 = .ok (.iload_n 3, 1) := by decide +kernel
theorem dX12_changed_51 : decode cX12_changed 51 = .ok (.invokevirtual 395, 3) := by decide +kernel
theorem dX12_changed_54 : decode cX12_changed 54 = .ok (.if_icmp .eq 6, 3) := by decide +kernel
theorem dX12_changed_57 : decode cX12_changed 57 = .ok (.iload 4, 2) := by decide +kernel
theorem dX12_changed_59 : decode cX12_changed 59 = .ok (.ireturn, 1) := by decide +kernel
theorem dX12_changed_60 : decode cX12_changed 60 = .ok (.iinc 4 1, 3) := by decide +kernel
theorem dX12_changed_63 : decode cX12_changed 63 = .ok (.goto (-34), 3) := by decide +kernel
theorem dX12_changed_66 : decode cX12_changed 66 = .ok (.iconst (-1), 1) := by decide +kernel
theorem dX12_changed_67 : decode cX12_changed 67 = .ok (.ireturn, 1) := by decide +kernel
theorem dX12_count_0 : decode cX12_count 0 = .ok (.aload_n 0, 1) := by decide +kernel
theorem dX12_count_1 : decode cX12_count 1 = .ok (.iload_n 1, 1) := by decide +kernel
theorem dX12_count_2 : decode cX12_count 2 = .ok (.bipush 10, 2) := by decide +kernel
theorem dX12_count_4 : decode cX12_count 4 = .ok (.isub, 1) := by decide +kernel
theorem dX12_count_5 : decode cX12_count 5 = .ok (.invokevirtual 323, 3) := by decide +kernel
theorem dX12_count_8 : decode cX12_count 8 = .ok (.ifCond .eq 48, 3) := by decide +kernel
theorem dX12_count_11 : decode cX12_count 11 = .ok (.iconst 0, 1) := by decide +kernel
theorem dX12_count_12 : decode cX12_count 12 = .ok (.istore_n 2, 1) := by decide +kernel
theorem dX12_count_13 : decode cX12_count 13 = .ok (.iconst 0, 1) := by decide +kernel
theorem dX12_count_14 : decode cX12_count 14 = .ok (.istore_n 3, 1) := by decide +kernel
theorem dX12_count_15 : decode cX12_count 15 = .ok (.iload_n 3, 1) := by decide +kernel
theorem dX12_count_16 : decode cX12_count 16 = .ok (.aload_n 0, 1) := by decide +kernel
theorem dX12_count_17 : decode cX12_count 17 = .ok (.getfield 305, 3) := by decide +kernel
theorem dX12_count_20 : decode cX12_count 20 = .ok (.if_icmp .ge 34, 3) := by decide +kernel
theorem dX12_count_23 : decode cX12_count 23 = .ok (.iload_n 2, 1) := by decide +kernel
theorem dX12_count_24 : decode cX12_count 24 = .ok (.aload_n 0, 1) := by decide +kernel
theorem dX12_count_25 : decode cX12_count 25 = .ok (.getfield 128, 3) := by decide +kernel
theorem dX12_count_28 : decode cX12_count 28 = .ok (.bipush 20, 2) := by decide +kernel
theorem dX12_count_30 : decode cX12_count 30 = .ok (.iload_n 1, 1) := by decide +kernel
theorem dX12_count_31 : decode cX12_count 31 = .ok (.bipush 10, 2) := by decide +kernel
theorem dX12_count_33 : decode cX12_count 33 = .ok (.isub, 1) := by decide +kernel
theorem dX12_count_34 : decode cX12_count 34 = .ok (.imul, 1) := by decide +kernel
theorem dX12_count_35 : decode cX12_count 35 = .ok (.iload_n 3, 1) := by decide +kernel
theorem dX12_count_36 : decode cX12_count 36 = .ok (.iadd, 1) := by decide +kernel
theorem dX12_count_37 : decode cX12_count 37 = .ok (.baload, 1) := by decide +kernel
theorem dX12_count_38 : decode cX12_count 38 = .ok (.ifCond .eq 7, 3) := by decide +kernel
theorem dX12_count_41 : decode cX12_count 41 = .ok (.iconst 1, 1) := by decide +kernel
theorem dX12_count_42 : decode cX12_count 42 = .ok (.goto 4, 3) := by decide +kernel
theorem dX12_count_45 : decode cX12_count 45 = .ok (.iconst 0, 1) := by decide +kernel
theorem dX12_count_46 : decode cX12_count 46 = .ok (.iadd, 1) := by decide +kernel
theorem dX12_count_47 : decode cX12_count 47 = .ok (.istore_n 2, 1) := by decide +kernel
theorem dX12_count_48 : decode cX12_count 48 = .ok (.iinc 3 1, 3) := by decide +kernel
theorem dX12_count_51 : decode cX12_count 51 = .ok (.goto (-36), 3) := by decide +kernel
theorem dX12_count_54 : decode cX12_count 54 = .ok (.iload_n 2, 1) := by decide +kernel
theorem dX12_count_55 : decode cX12_count 55 = .ok (.ireturn, 1) := by decide +kernel
theorem dX12_count_56 : decode cX12_count 56 = .ok (.iload_n 1, 1) := by decide +kernel
theorem dX12_count_57 : decode cX12_count 57 = .ok (.tableswitch 83 0 6 #[43, 48, 53, 58, 63, 73, 78], 43) := by decide +kernel
theorem dX12_count_100 : decode cX12_count 100 = .ok (.aload_n 0, 1) := by decide +kernel
theorem dX12_count_101 : decode cX12_count 101 = .ok (.getfield 302, 3) := by decide +kernel
theorem dX12_count_104 : decode cX12_count 104 = .ok (.ireturn, 1) := by decide +kernel
theorem dX12_count_105 : decode cX12_count 105 = .ok (.aload_n 0, 1) := by decide +kernel
theorem dX12_count_106 : decode cX12_count 106 = .ok (.getfield 305, 3) := by decide +kernel
theorem dX12_count_109 : decode cX12_count 109 = .ok (.ireturn, 1) := by decide +kernel
theorem dX12_count_110 : decode cX12_count 110 = .ok (.aload_n 0, 1) := by decide +kernel
theorem dX12_count_111 : decode cX12_count 111 = .ok (.getfield 308, 3) := by decide +kernel
theorem dX12_count_114 : decode cX12_count 114 = .ok (.ireturn, 1) := by decide +kernel
theorem dX12_count_115 : decode cX12_count 115 = .ok (.aload_n 0, 1) := by decide +kernel
theorem dX12_count_116 : decode cX12_count 116 = .ok (.getfield 311, 3) := by decide +kernel
theorem dX12_count_119 : decode cX12_count 119 = .ok (.ireturn, 1) := by decide +kernel
theorem dX12_count_120 : decode cX12_count 120 = .ok (.aload_n 0, 1) := by decide +kernel
theorem dX12_count_121 : decode cX12_count 121 = .ok (.getfield 40, 3) := by decide +kernel
theorem dX12_count_124 : decode cX12_count 124 = .ok (.aload_n 0, 1) := by decide +kernel
theorem dX12_count_125 : decode cX12_count 125 = .ok (.getfield 266, 3) := by decide +kernel
theorem dX12_count_128 : decode cX12_count 128 = .ok (.iaload, 1) := by decide +kernel
theorem dX12_count_129 : decode cX12_count 129 = .ok (.ireturn, 1) := by decide +kernel
theorem dX12_count_130 : decode cX12_count 130 = .ok (.aload_n 0, 1) := by decide +kernel
theorem dX12_count_131 : decode cX12_count 131 = .ok (.getfield 195, 3) := by decide +kernel
theorem dX12_count_134 : decode cX12_count 134 = .ok (.ireturn, 1) := by decide +kernel
theorem dX12_count_135 : decode cX12_count 135 = .ok (.aload_n 0, 1) := by decide +kernel
theorem dX12_count_136 : decode cX12_count 136 = .ok (.getfield 198, 3) := by decide +kernel
theorem dX12_count_139 : decode cX12_count 139 = .ok (.ireturn, 1) := by decide +kernel
theorem dX12_count_140 : decode cX12_count 140 = .ok (.iconst (-1), 1) := by decide +kernel
theorem dX12_count_141 : decode cX12_count 141 = .ok (.ireturn, 1) := by decide +kernel
theorem dJ6_numberOfTrailingZeros_0f7a4_0 : decode cJ6_numberOfTrailingZeros_0f7a4 0 = .ok (.iload_n 0, 1) := by decide +kernel
theorem dJ6_numberOfTrailingZeros_0f7a4_1 : decode cJ6_numberOfTrailingZeros_0f7a4 1 = .ok (.iconst (-1), 1) := by decide +kernel
theorem dJ6_numberOfTrailingZeros_0f7a4_2 : decode cJ6_numberOfTrailingZeros_0f7a4 2 = .ok (.ixor, 1) := by decide +kernel
theorem dJ6_numberOfTrailingZeros_0f7a4_3 : decode cJ6_numberOfTrailingZeros_0f7a4 3 = .ok (.iload_n 0, 1) := by decide +kernel
theorem dJ6_numberOfTrailingZeros_0f7a4_4 : decode cJ6_numberOfTrailingZeros_0f7a4 4 = .ok (.iconst 1, 1) := by decide +kernel
theorem dJ6_numberOfTrailingZeros_0f7a4_5 : decode cJ6_numberOfTrailingZeros_0f7a4 5 = .ok (.isub, 1) := by decide +kernel
theorem dJ6_numberOfTrailingZeros_0f7a4_6 : decode cJ6_numberOfTrailingZeros_0f7a4 6 = .ok (.iand, 1) := by decide +kernel
theorem dJ6_numberOfTrailingZeros_0f7a4_7 : decode cJ6_numberOfTrailingZeros_0f7a4 7 = .ok (.istore_n 0, 1) := by decide +kernel
theorem dJ6_numberOfTrailingZeros_0f7a4_8 : decode cJ6_numberOfTrailingZeros_0f7a4 8 = .ok (.iload_n 0, 1) := by decide +kernel
theorem dJ6_numberOfTrailingZeros_0f7a4_9 : decode cJ6_numberOfTrailingZeros_0f7a4 9 = .ok (.ifCond .gt 8, 3) := by decide +kernel
theorem dJ6_numberOfTrailingZeros_0f7a4_12 : decode cJ6_numberOfTrailingZeros_0f7a4 12 = .ok (.iload_n 0, 1) := by decide +kernel
theorem dJ6_numberOfTrailingZeros_0f7a4_13 : decode cJ6_numberOfTrailingZeros_0f7a4 13 = .ok (.bipush 32, 2) := by decide +kernel
theorem dJ6_numberOfTrailingZeros_0f7a4_15 : decode cJ6_numberOfTrailingZeros_0f7a4 15 = .ok (.iand, 1) := by decide +kernel
theorem dJ6_numberOfTrailingZeros_0f7a4_16 : decode cJ6_numberOfTrailingZeros_0f7a4 16 = .ok (.ireturn, 1) := by decide +kernel
theorem dJ6_numberOfTrailingZeros_0f7a4_17 : decode cJ6_numberOfTrailingZeros_0f7a4 17 = .ok (.iconst 1, 1) := by decide +kernel
theorem dJ6_numberOfTrailingZeros_0f7a4_18 : decode cJ6_numberOfTrailingZeros_0f7a4 18 = .ok (.istore_n 1, 1) := by decide +kernel
theorem dJ6_numberOfTrailingZeros_0f7a4_19 : decode cJ6_numberOfTrailingZeros_0f7a4 19 = .ok (.iload_n 0, 1) := by decide +kernel
theorem dJ6_numberOfTrailingZeros_0f7a4_20 : decode cJ6_numberOfTrailingZeros_0f7a4 20 = .ok (.ldc_w 264, 3) := by decide +kernel
theorem dJ6_numberOfTrailingZeros_0f7a4_23 : decode cJ6_numberOfTrailingZeros_0f7a4 23 = .ok (.if_icmp .le 11, 3) := by decide +kernel
theorem dJ6_numberOfTrailingZeros_0f7a4_26 : decode cJ6_numberOfTrailingZeros_0f7a4 26 = .ok (.iinc 1 16, 3) := by decide +kernel
theorem dJ6_numberOfTrailingZeros_0f7a4_29 : decode cJ6_numberOfTrailingZeros_0f7a4 29 = .ok (.iload_n 0, 1) := by decide +kernel
theorem dJ6_numberOfTrailingZeros_0f7a4_30 : decode cJ6_numberOfTrailingZeros_0f7a4 30 = .ok (.bipush 16, 2) := by decide +kernel
theorem dJ6_numberOfTrailingZeros_0f7a4_32 : decode cJ6_numberOfTrailingZeros_0f7a4 32 = .ok (.iushr, 1) := by decide +kernel
theorem dJ6_numberOfTrailingZeros_0f7a4_33 : decode cJ6_numberOfTrailingZeros_0f7a4 33 = .ok (.istore_n 0, 1) := by decide +kernel
theorem dJ6_numberOfTrailingZeros_0f7a4_34 : decode cJ6_numberOfTrailingZeros_0f7a4 34 = .ok (.iload_n 0, 1) := by decide +kernel
theorem dJ6_numberOfTrailingZeros_0f7a4_35 : decode cJ6_numberOfTrailingZeros_0f7a4 35 = .ok (.sipush 256, 3) := by decide +kernel
theorem dJ6_numberOfTrailingZeros_0f7a4_38 : decode cJ6_numberOfTrailingZeros_0f7a4 38 = .ok (.if_icmp .le 11, 3) := by decide +kernel
theorem dJ6_numberOfTrailingZeros_0f7a4_41 : decode cJ6_numberOfTrailingZeros_0f7a4 41 = .ok (.iinc 1 8, 3) := by decide +kernel
theorem dJ6_numberOfTrailingZeros_0f7a4_44 : decode cJ6_numberOfTrailingZeros_0f7a4 44 = .ok (.iload_n 0, 1) := by decide +kernel
theorem dJ6_numberOfTrailingZeros_0f7a4_45 : decode cJ6_numberOfTrailingZeros_0f7a4 45 = .ok (.bipush 8, 2) := by decide +kernel
theorem dJ6_numberOfTrailingZeros_0f7a4_47 : decode cJ6_numberOfTrailingZeros_0f7a4 47 = .ok (.iushr, 1) := by decide +kernel
theorem dJ6_numberOfTrailingZeros_0f7a4_48 : decode cJ6_numberOfTrailingZeros_0f7a4 48 = .ok (.istore_n 0, 1) := by decide +kernel
theorem dJ6_numberOfTrailingZeros_0f7a4_49 : decode cJ6_numberOfTrailingZeros_0f7a4 49 = .ok (.iload_n 0, 1) := by decide +kernel
theorem dJ6_numberOfTrailingZeros_0f7a4_50 : decode cJ6_numberOfTrailingZeros_0f7a4 50 = .ok (.bipush 16, 2) := by decide +kernel
theorem dJ6_numberOfTrailingZeros_0f7a4_52 : decode cJ6_numberOfTrailingZeros_0f7a4 52 = .ok (.if_icmp .le 10, 3) := by decide +kernel
theorem dJ6_numberOfTrailingZeros_0f7a4_55 : decode cJ6_numberOfTrailingZeros_0f7a4 55 = .ok (.iinc 1 4, 3) := by decide +kernel
theorem dJ6_numberOfTrailingZeros_0f7a4_58 : decode cJ6_numberOfTrailingZeros_0f7a4 58 = .ok (.iload_n 0, 1) := by decide +kernel
theorem dJ6_numberOfTrailingZeros_0f7a4_59 : decode cJ6_numberOfTrailingZeros_0f7a4 59 = .ok (.iconst 4, 1) := by decide +kernel
theorem dJ6_numberOfTrailingZeros_0f7a4_60 : decode cJ6_numberOfTrailingZeros_0f7a4 60 = .ok (.iushr, 1) := by decide +kernel
theorem dJ6_numberOfTrailingZeros_0f7a4_61 : decode cJ6_numberOfTrailingZeros_0f7a4 61 = .ok (.istore_n 0, 1) := by decide +kernel
theorem dJ6_numberOfTrailingZeros_0f7a4_62 : decode cJ6_numberOfTrailingZeros_0f7a4 62 = .ok (.iload_n 0, 1) := by decide +kernel
theorem dJ6_numberOfTrailingZeros_0f7a4_63 : decode cJ6_numberOfTrailingZeros_0f7a4 63 = .ok (.iconst 4, 1) := by decide +kernel
theorem dJ6_numberOfTrailingZeros_0f7a4_64 : decode cJ6_numberOfTrailingZeros_0f7a4 64 = .ok (.if_icmp .le 10, 3) := by decide +kernel
theorem dJ6_numberOfTrailingZeros_0f7a4_67 : decode cJ6_numberOfTrailingZeros_0f7a4 67 = .ok (.iinc 1 2, 3) := by decide +kernel
theorem dJ6_numberOfTrailingZeros_0f7a4_70 : decode cJ6_numberOfTrailingZeros_0f7a4 70 = .ok (.iload_n 0, 1) := by decide +kernel
theorem dJ6_numberOfTrailingZeros_0f7a4_71 : decode cJ6_numberOfTrailingZeros_0f7a4 71 = .ok (.iconst 2, 1) := by decide +kernel
theorem dJ6_numberOfTrailingZeros_0f7a4_72 : decode cJ6_numberOfTrailingZeros_0f7a4 72 = .ok (.iushr, 1) := by decide +kernel
theorem dJ6_numberOfTrailingZeros_0f7a4_73 : decode cJ6_numberOfTrailingZeros_0f7a4 73 = .ok (.istore_n 0, 1) := by decide +kernel
theorem dJ6_numberOfTrailingZeros_0f7a4_74 : decode cJ6_numberOfTrailingZeros_0f7a4 74 = .ok (.iload_n 1, 1) := by decide +kernel
theorem dJ6_numberOfTrailingZeros_0f7a4_75 : decode cJ6_numberOfTrailingZeros_0f7a4 75 = .ok (.iload_n 0, 1) := by decide +kernel
theorem dJ6_numberOfTrailingZeros_0f7a4_76 : decode cJ6_numberOfTrailingZeros_0f7a4 76 = .ok (.iconst 1, 1) := by decide +kernel
theorem dJ6_numberOfTrailingZeros_0f7a4_77 : decode cJ6_numberOfTrailingZeros_0f7a4 77 = .ok (.iushr, 1) := by decide +kernel
theorem dJ6_numberOfTrailingZeros_0f7a4_78 : decode cJ6_numberOfTrailingZeros_0f7a4 78 = .ok (.iadd, 1) := by decide +kernel
theorem dJ6_numberOfTrailingZeros_0f7a4_79 : decode cJ6_numberOfTrailingZeros_0f7a4 79 = .ok (.ireturn, 1) := by decide +kernel
theorem dJ6_bitCount_0f7a4_0 : decode cJ6_bitCount_0f7a4 0 = .ok (.iload_n 0, 1) := by decide +kernel
theorem dJ6_bitCount_0f7a4_1 : decode cJ6_bitCount_0f7a4 1 = .ok (.iload_n 0, 1) := by decide +kernel
theorem dJ6_bitCount_0f7a4_2 : decode cJ6_bitCount_0f7a4 2 = .ok (.iconst 1, 1) := by decide +kernel
theorem dJ6_bitCount_0f7a4_3 : decode cJ6_bitCount_0f7a4 3 = .ok (.iushr, 1) := by decide +kernel
theorem dJ6_bitCount_0f7a4_4 : decode cJ6_bitCount_0f7a4 4 = .ok (.ldc_w 265, 3) := by decide +kernel
theorem dJ6_bitCount_0f7a4_7 : decode cJ6_bitCount_0f7a4 7 = .ok (.iand, 1) := by decide +kernel
theorem dJ6_bitCount_0f7a4_8 : decode cJ6_bitCount_0f7a4 8 = .ok (.isub, 1) := by decide +kernel
theorem dJ6_bitCount_0f7a4_9 : decode cJ6_bitCount_0f7a4 9 = .ok (.istore_n 0, 1) := by decide +kernel
theorem dJ6_bitCount_0f7a4_10 : decode cJ6_bitCount_0f7a4 10 = .ok (.iload_n 0, 1) := by decide +kernel
theorem dJ6_bitCount_0f7a4_11 : decode cJ6_bitCount_0f7a4 11 = .ok (.ldc_w 266, 3) := by decide +kernel
theorem dJ6_bitCount_0f7a4_14 : decode cJ6_bitCount_0f7a4 14 = .ok (.iand, 1) := by decide +kernel
theorem dJ6_bitCount_0f7a4_15 : decode cJ6_bitCount_0f7a4 15 = .ok (.iload_n 0, 1) := by decide +kernel
theorem dJ6_bitCount_0f7a4_16 : decode cJ6_bitCount_0f7a4 16 = .ok (.iconst 2, 1) := by decide +kernel
theorem dJ6_bitCount_0f7a4_17 : decode cJ6_bitCount_0f7a4 17 = .ok (.iushr, 1) := by decide +kernel
theorem dJ6_bitCount_0f7a4_18 : decode cJ6_bitCount_0f7a4 18 = .ok (.ldc_w 266, 3) := by decide +kernel
theorem dJ6_bitCount_0f7a4_21 : decode cJ6_bitCount_0f7a4 21 = .ok (.iand, 1) := by decide +kernel
theorem dJ6_bitCount_0f7a4_22 : decode cJ6_bitCount_0f7a4 22 = .ok (.iadd, 1) := by decide +kernel
theorem dJ6_bitCount_0f7a4_23 : decode cJ6_bitCount_0f7a4 23 = .ok (.istore_n 0, 1) := by decide +kernel
theorem dJ6_bitCount_0f7a4_24 : decode cJ6_bitCount_0f7a4 24 = .ok (.iload_n 0, 1) := by decide +kernel
theorem dJ6_bitCount_0f7a4_25 : decode cJ6_bitCount_0f7a4 25 = .ok (.iload_n 0, 1) := by decide +kernel
theorem dJ6_bitCount_0f7a4_26 : decode cJ6_bitCount_0f7a4 26 = .ok (.iconst 4, 1) := by decide +kernel
theorem dJ6_bitCount_0f7a4_27 : decode cJ6_bitCount_0f7a4 27 = .ok (.iushr, 1) := by decide +kernel
theorem dJ6_bitCount_0f7a4_28 : decode cJ6_bitCount_0f7a4 28 = .ok (.iadd, 1) := by decide +kernel
theorem dJ6_bitCount_0f7a4_29 : decode cJ6_bitCount_0f7a4 29 = .ok (.ldc_w 267, 3) := by decide +kernel
theorem dJ6_bitCount_0f7a4_32 : decode cJ6_bitCount_0f7a4 32 = .ok (.iand, 1) := by decide +kernel
theorem dJ6_bitCount_0f7a4_33 : decode cJ6_bitCount_0f7a4 33 = .ok (.istore_n 0, 1) := by decide +kernel
theorem dJ6_bitCount_0f7a4_34 : decode cJ6_bitCount_0f7a4 34 = .ok (.iload_n 0, 1) := by decide +kernel
theorem dJ6_bitCount_0f7a4_35 : decode cJ6_bitCount_0f7a4 35 = .ok (.iload_n 0, 1) := by decide +kernel
theorem dJ6_bitCount_0f7a4_36 : decode cJ6_bitCount_0f7a4 36 = .ok (.bipush 8, 2) := by decide +kernel
theorem dJ6_bitCount_0f7a4_38 : decode cJ6_bitCount_0f7a4 38 = .ok (.iushr, 1) := by decide +kernel
theorem dJ6_bitCount_0f7a4_39 : decode cJ6_bitCount_0f7a4 39 = .ok (.iadd, 1) := by decide +kernel
theorem dJ6_bitCount_0f7a4_40 : decode cJ6_bitCount_0f7a4 40 = .ok (.istore_n 0, 1) := by decide +kernel
theorem dJ6_bitCount_0f7a4_41 : decode cJ6_bitCount_0f7a4 41 = .ok (.iload_n 0, 1) := by decide +kernel
theorem dJ6_bitCount_0f7a4_42 : decode cJ6_bitCount_0f7a4 42 = .ok (.iload_n 0, 1) := by decide +kernel
theorem dJ6_bitCount_0f7a4_43 : decode cJ6_bitCount_0f7a4 43 = .ok (.bipush 16, 2) := by decide +kernel
theorem dJ6_bitCount_0f7a4_45 : decode cJ6_bitCount_0f7a4 45 = .ok (.iushr, 1) := by decide +kernel
theorem dJ6_bitCount_0f7a4_46 : decode cJ6_bitCount_0f7a4 46 = .ok (.iadd, 1) := by decide +kernel
theorem dJ6_bitCount_0f7a4_47 : decode cJ6_bitCount_0f7a4 47 = .ok (.istore_n 0, 1) := by decide +kernel
theorem dJ6_bitCount_0f7a4_48 : decode cJ6_bitCount_0f7a4 48 = .ok (.iload_n 0, 1) := by decide +kernel
theorem dJ6_bitCount_0f7a4_49 : decode cJ6_bitCount_0f7a4 49 = .ok (.bipush 63, 2) := by decide +kernel
theorem dJ6_bitCount_0f7a4_51 : decode cJ6_bitCount_0f7a4 51 = .ok (.iand, 1) := by decide +kernel
theorem dJ6_bitCount_0f7a4_52 : decode cJ6_bitCount_0f7a4 52 = .ok (.ireturn, 1) := by decide +kernel
theorem dJ9_max_7cf53_0 : decode cJ9_max_7cf53 0 = .ok (.iload_n 0, 1) := by decide +kernel
theorem dJ9_max_7cf53_1 : decode cJ9_max_7cf53 1 = .ok (.iload_n 1, 1) := by decide +kernel
theorem dJ9_max_7cf53_2 : decode cJ9_max_7cf53 2 = .ok (.if_icmp .lt 7, 3) := by decide +kernel
theorem dJ9_max_7cf53_5 : decode cJ9_max_7cf53 5 = .ok (.iload_n 0, 1) := by decide +kernel
theorem dJ9_max_7cf53_6 : decode cJ9_max_7cf53 6 = .ok (.goto 4, 3) := by decide +kernel
theorem dJ9_max_7cf53_9 : decode cJ9_max_7cf53 9 = .ok (.iload_n 1, 1) := by decide +kernel
theorem dJ9_max_7cf53_10 : decode cJ9_max_7cf53 10 = .ok (.ireturn, 1) := by decide +kernel
theorem dJ9_min_7cf53_0 : decode cJ9_min_7cf53 0 = .ok (.iload_n 0, 1) := by decide +kernel
theorem dJ9_min_7cf53_1 : decode cJ9_min_7cf53 1 = .ok (.iload_n 1, 1) := by decide +kernel
theorem dJ9_min_7cf53_2 : decode cJ9_min_7cf53 2 = .ok (.if_icmp .gt 7, 3) := by decide +kernel
theorem dJ9_min_7cf53_5 : decode cJ9_min_7cf53 5 = .ok (.iload_n 0, 1) := by decide +kernel
theorem dJ9_min_7cf53_6 : decode cJ9_min_7cf53 6 = .ok (.goto 4, 3) := by decide +kernel
theorem dJ9_min_7cf53_9 : decode cJ9_min_7cf53 9 = .ok (.iload_n 1, 1) := by decide +kernel
theorem dJ9_min_7cf53_10 : decode cJ9_min_7cf53 10 = .ok (.ireturn, 1) := by decide +kernel
theorem dJ0_length_8abf5_0 : decode cJ0_length_8abf5 0 = .ok (.aload_n 0, 1) := by decide +kernel
theorem dJ0_length_8abf5_1 : decode cJ0_length_8abf5 1 = .ok (.getfield 9, 3) := by decide +kernel
theorem dJ0_length_8abf5_4 : decode cJ0_length_8abf5 4 = .ok (.arraylength, 1) := by decide +kernel
theorem dJ0_length_8abf5_5 : decode cJ0_length_8abf5 5 = .ok (.aload_n 0, 1) := by decide +kernel
theorem dJ0_length_8abf5_6 : decode cJ0_length_8abf5 6 = .ok (.invokevirtual 335, 3) := by decide +kernel
theorem dJ0_length_8abf5_9 : decode cJ0_length_8abf5 9 = .ok (.ishr, 1) := by decide +kernel
theorem dJ0_length_8abf5_10 : decode cJ0_length_8abf5 10 = .ok (.ireturn, 1) := by decide +kernel
theorem dJ0_charAt_5068e_0 : decode cJ0_charAt_5068e 0 = .ok (.aload_n 0, 1) := by decide +kernel
theorem dJ0_charAt_5068e_1 : decode cJ0_charAt_5068e 1 = .ok (.invokevirtual 492, 3) := by decide +kernel
theorem dJ0_charAt_5068e_4 : decode cJ0_charAt_5068e 4 = .ok (.ifCond .eq 12, 3) := by decide +kernel
theorem dJ0_charAt_5068e_7 : decode cJ0_charAt_5068e 7 = .ok (.aload_n 0, 1) := by decide +kernel
theorem dJ0_charAt_5068e_8 : decode cJ0_charAt_5068e 8 = .ok (.getfield 9, 3) := by decide +kernel
theorem dJ0_charAt_5068e_11 : decode cJ0_charAt_5068e 11 = .ok (.iload_n 1, 1) := by decide +kernel
theorem dJ0_charAt_5068e_12 : decode cJ0_charAt_5068e 12 = .ok (.invokestatic 495, 3) := by decide +kernel
theorem dJ0_charAt_5068e_15 : decode cJ0_charAt_5068e 15 = .ok (.ireturn, 1) := by decide +kernel
theorem dJ0_charAt_5068e_16 : decode cJ0_charAt_5068e 16 = .ok (.aload_n 0, 1) := by decide +kernel
theorem dJ0_charAt_5068e_17 : decode cJ0_charAt_5068e 17 = .ok (.getfield 9, 3) := by decide +kernel
theorem dJ0_charAt_5068e_20 : decode cJ0_charAt_5068e 20 = .ok (.iload_n 1, 1) := by decide +kernel
theorem dJ0_charAt_5068e_21 : decode cJ0_charAt_5068e 21 = .ok (.invokestatic 498, 3) := by decide +kernel
theorem dJ0_charAt_5068e_24 : decode cJ0_charAt_5068e 24 = .ok (.ireturn, 1) := by decide +kernel
theorem dJ0_coder_7d493_0 : decode cJ0_coder_7d493 0 = .ok (.getstatic 38, 3) := by decide +kernel
theorem dJ0_coder_7d493_3 : decode cJ0_coder_7d493 3 = .ok (.ifCond .eq 10, 3) := by decide +kernel
theorem dJ0_coder_7d493_6 : decode cJ0_coder_7d493 6 = .ok (.aload_n 0, 1) := by decide +kernel
theorem dJ0_coder_7d493_7 : decode cJ0_coder_7d493 7 = .ok (.getfield 15, 3) := by decide +kernel
theorem dJ0_coder_7d493_10 : decode cJ0_coder_7d493 10 = .ok (.goto 4, 3) := by decide +kernel
theorem dJ0_coder_7d493_13 : decode cJ0_coder_7d493 13 = .ok (.iconst 1, 1) := by decide +kernel
theorem dJ0_coder_7d493_14 : decode cJ0_coder_7d493 14 = .ok (.ireturn, 1) := by decide +kernel
theorem dJ0_isLatin1_aae02_0 : decode cJ0_isLatin1_aae02 0 = .ok (.getstatic 38, 3) := by decide +kernel
theorem dJ0_isLatin1_aae02_3 : decode cJ0_isLatin1_aae02 3 = .ok (.ifCond .eq 14, 3) := by decide +kernel
theorem dJ0_isLatin1_aae02_6 : decode cJ0_isLatin1_aae02 6 = .ok (.aload_n 0, 1) := by decide +kernel
theorem dJ0_isLatin1_aae02_7 : decode cJ0_isLatin1_aae02 7 = .ok (.getfield 15, 3) := by decide +kernel
theorem dJ0_isLatin1_aae02_10 : decode cJ0_isLatin1_aae02 10 = .ok (.ifCond .ne 7, 3) := by decide +kernel
theorem dJ0_isLatin1_aae02_13 : decode cJ0_isLatin1_aae02 13 = .ok (.iconst 1, 1) := by decide +kernel
theorem dJ0_isLatin1_aae02_14 : decode cJ0_isLatin1_aae02 14 = .ok (.goto 4, 3) := by decide +kernel
theorem dJ0_isLatin1_aae02_17 : decode cJ0_isLatin1_aae02 17 = .ok (.iconst 0, 1) := by decide +kernel
theorem dJ0_isLatin1_aae02_18 : decode cJ0_isLatin1_aae02 18 = .ok (.ireturn, 1) := by decide +kernel
theorem dJ0_checkIndex_df160_0 : decode cJ0_checkIndex_df160 0 = .ok (.iload_n 0, 1) := by decide +kernel
theorem dJ0_checkIndex_df160_1 : decode cJ0_checkIndex_df160 1 = .ok (.iload_n 1, 1) := by decide +kernel
theorem dJ0_checkIndex_df160_2 : decode cJ0_checkIndex_df160 2 = .ok (.getstatic 1053, 3) := by decide +kernel
theorem dJ0_checkIndex_df160_5 : decode cJ0_checkIndex_df160 5 = .ok (.invokestatic 1059, 3) := by decide +kernel
theorem dJ0_checkIndex_df160_8 : decode cJ0_checkIndex_df160 8 = .ok (.pop, 1) := by decide +kernel
theorem dJ0_checkIndex_df160_9 : decode cJ0_checkIndex_df160 9 = .ok (.return_, 1) := by decide +kernel
theorem dJ1_charAt_3b067_0 : decode cJ1_charAt_3b067 0 = .ok (.iload_n 1, 1) := by decide +kernel
theorem dJ1_charAt_3b067_1 : decode cJ1_charAt_3b067 1 = .ok (.aload_n 0, 1) := by decide +kernel
theorem dJ1_charAt_3b067_2 : decode cJ1_charAt_3b067 2 = .ok (.arraylength, 1) := by decide +kernel
theorem dJ1_charAt_3b067_3 : decode cJ1_charAt_3b067 3 = .ok (.invokestatic 9, 3) := by decide +kernel
theorem dJ1_charAt_3b067_6 : decode cJ1_charAt_3b067 6 = .ok (.aload_n 0, 1) := by decide +kernel
theorem dJ1_charAt_3b067_7 : decode cJ1_charAt_3b067 7 = .ok (.iload_n 1, 1) := by decide +kernel
theorem dJ1_charAt_3b067_8 : decode cJ1_charAt_3b067 8 = .ok (.baload, 1) := by decide +kernel
theorem dJ1_charAt_3b067_9 : decode cJ1_charAt_3b067 9 = .ok (.sipush 255, 3) := by decide +kernel
theorem dJ1_charAt_3b067_12 : decode cJ1_charAt_3b067 12 = .ok (.iand, 1) := by decide +kernel
theorem dJ1_charAt_3b067_13 : decode cJ1_charAt_3b067 13 = .ok (.i2c, 1) := by decide +kernel
theorem dJ1_charAt_3b067_14 : decode cJ1_charAt_3b067 14 = .ok (.ireturn, 1) := by decide +kernel
theorem dJ2_getChar_3b067_0 : decode cJ2_getChar_3b067 0 = .ok (.getstatic 44, 3) := by decide +kernel
theorem dJ2_getChar_3b067_3 : decode cJ2_getChar_3b067 3 = .ok (.ifCond .ne 25, 3) := by decide +kernel
theorem dJ2_getChar_3b067_6 : decode cJ2_getChar_3b067 6 = .ok (.iload_n 1, 1) := by decide +kernel
theorem dJ2_getChar_3b067_7 : decode cJ2_getChar_3b067 7 = .ok (.ifCond .lt 11, 3) := by decide +kernel
theorem dJ2_getChar_3b067_10 : decode cJ2_getChar_3b067 10 = .ok (.iload_n 1, 1) := by decide +kernel
theorem dJ2_getChar_3b067_11 : decode cJ2_getChar_3b067 11 = .ok (.aload_n 0, 1) := by decide +kernel
theorem dJ2_getChar_3b067_12 : decode cJ2_getChar_3b067 12 = .ok (.invokestatic 48, 3) := by decide +kernel
theorem dJ2_getChar_3b067_15 : decode cJ2_getChar_3b067 15 = .ok (.if_icmp .lt 13, 3) := by decide +kernel
theorem dJ2_getChar_3b067_18 : decode cJ2_getChar_3b067 18 = .ok (.new 52, 3) := by decide +kernel
theorem dJ2_getChar_3b067_21 : decode cJ2_getChar_3b067 21 = .ok (.dup, 1) := by decide +kernel
theorem dJ2_getChar_3b067_22 : decode cJ2_getChar_3b067 22 = .ok (.ldc 54, 2) := by decide +kernel
theorem dJ2_getChar_3b067_24 : decode cJ2_getChar_3b067 24 = .ok (.invokespecial 56, 3) := by decide +kernel
theorem dJ2_getChar_3b067_27 : decode cJ2_getChar_3b067 27 = .ok (.athrow, 1) := by decide +kernel
theorem dJ2_getChar_3b067_28 : decode cJ2_getChar_3b067 28 = .ok (.iload_n 1, 1) := by decide +kernel
theorem dJ2_getChar_3b067_29 : decode cJ2_getChar_3b067 29 = .ok (.iconst 1, 1) := by decide +kernel
theorem dJ2_getChar_3b067_30 : decode cJ2_getChar_3b067 30 = .ok (.ishl, 1) := by decide +kernel
theorem dJ2_getChar_3b067_31 : decode cJ2_getChar_3b067 31 = .ok (.istore_n 1, 1) := by decide +kernel
theorem dJ2_getChar_3b067_32 : decode cJ2_getChar_3b067 32 = .ok (.aload_n 0, 1) := by decide +kernel
theorem dJ2_getChar_3b067_33 : decode cJ2_getChar_3b067 33 = .ok (.iload_n 1, 1) := by decide +kernel
theorem dJ2_getChar_3b067_34 : decode cJ2_getChar_3b067 34 = .ok (.iinc 1 1, 3) := by decide +kernel
theorem dJ2_getChar_3b067_37 : decode cJ2_getChar_3b067 37 = .ok (.baload, 1) := by decide +kernel
theorem dJ2_getChar_3b067_38 : decode cJ2_getChar_3b067 38 = .ok (.sipush 255, 3) := by decide +kernel
theorem dJ2_getChar_3b067_41 : decode cJ2_getChar_3b067 41 = .ok (.iand, 1) := by decide +kernel
theorem dJ2_getChar_3b067_42 : decode cJ2_getChar_3b067 42 = .ok (.getstatic 59, 3) := by decide +kernel
theorem dJ2_getChar_3b067_45 : decode cJ2_getChar_3b067 45 = .ok (.ishl, 1) := by decide +kernel
theorem dJ2_getChar_3b067_46 : decode cJ2_getChar_3b067 46 = .ok (.aload_n 0, 1) := by decide +kernel
theorem dJ2_getChar_3b067_47 : decode cJ2_getChar_3b067 47 = .ok (.iload_n 1, 1) := by decide +kernel
theorem dJ2_getChar_3b067_48 : decode cJ2_getChar_3b067 48 = .ok (.baload, 1) := by decide +kernel
theorem dJ2_getChar_3b067_49 : decode cJ2_getChar_3b067 49 = .ok (.sipush 255, 3) := by decide +kernel
theorem dJ2_getChar_3b067_52 : decode cJ2_getChar_3b067 52 = .ok (.iand, 1) := by decide +kernel
theorem dJ2_getChar_3b067_53 : decode cJ2_getChar_3b067 53 = .ok (.getstatic 63, 3) := by decide +kernel
theorem dJ2_getChar_3b067_56 : decode cJ2_getChar_3b067 56 = .ok (.ishl, 1) := by decide +kernel
theorem dJ2_getChar_3b067_57 : decode cJ2_getChar_3b067 57 = .ok (.ior, 1) := by decide +kernel
theorem dJ2_getChar_3b067_58 : decode cJ2_getChar_3b067 58 = .ok (.i2c, 1) := by decide +kernel
theorem dJ2_getChar_3b067_59 : decode cJ2_getChar_3b067 59 = .ok (.ireturn, 1) := by decide +kernel
theorem dJ2_length_9d52b_0 : decode cJ2_length_9d52b 0 = .ok (.aload_n 0, 1) := by decide +kernel
theorem dJ2_length_9d52b_1 : decode cJ2_length_9d52b 1 = .ok (.arraylength, 1) := by decide +kernel
theorem dJ2_length_9d52b_2 : decode cJ2_length_9d52b 2 = .ok (.iconst 1, 1) := by decide +kernel
theorem dJ2_length_9d52b_3 : decode cJ2_length_9d52b 3 = .ok (.ishr, 1) := by decide +kernel
theorem dJ2_length_9d52b_4 : decode cJ2_length_9d52b 4 = .ok (.ireturn, 1) := by decide +kernel
theorem dJ2_charAt_3b067_0 : decode cJ2_charAt_3b067 0 = .ok (.iload_n 1, 1) := by decide +kernel
theorem dJ2_charAt_3b067_1 : decode cJ2_charAt_3b067 1 = .ok (.aload_n 0, 1) := by decide +kernel
theorem dJ2_charAt_3b067_2 : decode cJ2_charAt_3b067 2 = .ok (.invokestatic 67, 3) := by decide +kernel
theorem dJ2_charAt_3b067_5 : decode cJ2_charAt_3b067 5 = .ok (.aload_n 0, 1) := by decide +kernel
theorem dJ2_charAt_3b067_6 : decode cJ2_charAt_3b067 6 = .ok (.iload_n 1, 1) := by decide +kernel
theorem dJ2_charAt_3b067_7 : decode cJ2_charAt_3b067 7 = .ok (.invokestatic 71, 3) := by decide +kernel
theorem dJ2_charAt_3b067_10 : decode cJ2_charAt_3b067 10 = .ok (.ireturn, 1) := by decide +kernel
theorem dJ2_checkIndex_2214a_0 : decode cJ2_checkIndex_2214a 0 = .ok (.iload_n 0, 1) := by decide +kernel
theorem dJ2_checkIndex_2214a_1 : decode cJ2_checkIndex_2214a 1 = .ok (.aload_n 1, 1) := by decide +kernel
theorem dJ2_checkIndex_2214a_2 : decode cJ2_checkIndex_2214a 2 = .ok (.invokestatic 48, 3) := by decide +kernel
theorem dJ2_checkIndex_2214a_5 : decode cJ2_checkIndex_2214a 5 = .ok (.invokestatic 414, 3) := by decide +kernel
theorem dJ2_checkIndex_2214a_8 : decode cJ2_checkIndex_2214a 8 = .ok (.return_, 1) := by decide +kernel
theorem dJ3_checkIndex_8e157_0 : decode cJ3_checkIndex_8e157 0 = .ok (.iload_n 0, 1) := by decide +kernel
theorem dJ3_checkIndex_8e157_1 : decode cJ3_checkIndex_8e157 1 = .ok (.ifCond .lt 8, 3) := by decide +kernel
theorem dJ3_checkIndex_8e157_4 : decode cJ3_checkIndex_8e157 4 = .ok (.iload_n 0, 1) := by decide +kernel
theorem dJ3_checkIndex_8e157_5 : decode cJ3_checkIndex_8e157 5 = .ok (.iload_n 1, 1) := by decide +kernel
theorem dJ3_checkIndex_8e157_6 : decode cJ3_checkIndex_8e157 6 = .ok (.if_icmp .lt 10, 3) := by decide +kernel
theorem dJ3_checkIndex_8e157_9 : decode cJ3_checkIndex_8e157 9 = .ok (.aload_n 2, 1) := by decide +kernel
theorem dJ3_checkIndex_8e157_10 : decode cJ3_checkIndex_8e157 10 = .ok (.iload_n 0, 1) := by decide +kernel
theorem dJ3_checkIndex_8e157_11 : decode cJ3_checkIndex_8e157 11 = .ok (.iload_n 1, 1) := by decide +kernel
theorem dJ3_checkIndex_8e157_12 : decode cJ3_checkIndex_8e157 12 = .ok (.invokestatic 95, 3) := by decide +kernel
theorem dJ3_checkIndex_8e157_15 : decode cJ3_checkIndex_8e157 15 = .ok (.athrow, 1) := by decide +kernel
theorem dJ3_checkIndex_8e157_16 : decode cJ3_checkIndex_8e157 16 = .ok (.iload_n 0, 1) := by decide +kernel
theorem dJ3_checkIndex_8e157_17 : decode cJ3_checkIndex_8e157 17 = .ok (.ireturn, 1) := by decide +kernel
theorem dL_law_0 : decode cL_law 0 = .ok (.new 7, 3) := by decide +kernel
theorem dL_law_3 : decode cL_law 3 = .ok (.dup, 1) := by decide +kernel
theorem dL_law_4 : decode cL_law 4 = .ok (.invokespecial 9, 3) := by decide +kernel
theorem dL_law_7 : decode cL_law 7 = .ok (.astore_n 1, 1) := by decide +kernel
theorem dL_law_8 : decode cL_law 8 = .ok (.new 10, 3) := by decide +kernel
theorem dL_law_11 : decode cL_law 11 = .ok (.dup, 1) := by decide +kernel
theorem dL_law_12 : decode cL_law 12 = .ok (.invokespecial 12, 3) := by decide +kernel
theorem dL_law_15 : decode cL_law 15 = .ok (.astore_n 2, 1) := by decide +kernel
theorem dL_law_16 : decode cL_law 16 = .ok (.iconst 0, 1) := by decide +kernel
theorem dL_law_17 : decode cL_law 17 = .ok (.istore_n 3, 1) := by decide +kernel
theorem dL_law_18 : decode cL_law 18 = .ok (.iload_n 3, 1) := by decide +kernel
theorem dL_law_19 : decode cL_law 19 = .ok (.aload_n 0, 1) := by decide +kernel
theorem dL_law_20 : decode cL_law 20 = .ok (.arraylength, 1) := by decide +kernel
theorem dL_law_21 : decode cL_law 21 = .ok (.bipush 6, 2) := by decide +kernel
theorem dL_law_23 : decode cL_law 23 = .ok (.isub, 1) := by decide +kernel
theorem dL_law_24 : decode cL_law 24 = .ok (.if_icmp .gt 1132, 3) := by decide +kernel
theorem dL_law_27 : decode cL_law 27 = .ok (.aload_n 0, 1) := by decide +kernel
theorem dL_law_28 : decode cL_law 28 = .ok (.iload_n 3, 1) := by decide +kernel
theorem dL_law_29 : decode cL_law 29 = .ok (.iaload, 1) := by decide +kernel
theorem dL_law_30 : decode cL_law 30 = .ok (.bipush 31, 2) := by decide +kernel
theorem dL_law_32 : decode cL_law 32 = .ok (.iand, 1) := by decide +kernel
theorem dL_law_33 : decode cL_law 33 = .ok (.tableswitch 1117 0 25 #[119, 182, 205, 218, 231, 264, 317, 380, 413, 436, 459, 492, 545, 588, 621, 664, 717, 760, 793, 836, 879, 922, 955, 998, 1051, 1094], 119) := by decide +kernel
theorem dL_law_152 : decode cL_law 152 = .ok (.aload_n 1, 1) := by decide +kernel
theorem dL_law_153 : decode cL_law 153 = .ok (.aload_n 0, 1) := by decide +kernel
theorem dL_law_154 : decode cL_law 154 = .ok (.iload_n 3, 1) := by decide +kernel
theorem dL_law_155 : decode cL_law 155 = .ok (.iconst 1, 1) := by decide +kernel
theorem dL_law_156 : decode cL_law 156 = .ok (.iadd, 1) := by decide +kernel
theorem dL_law_157 : decode cL_law 157 = .ok (.iaload, 1) := by decide +kernel
theorem dL_law_158 : decode cL_law 158 = .ok (.aload_n 0, 1) := by decide +kernel
theorem dL_law_159 : decode cL_law 159 = .ok (.iload_n 3, 1) := by decide +kernel
theorem dL_law_160 : decode cL_law 160 = .ok (.iconst 2, 1) := by decide +kernel
theorem dL_law_161 : decode cL_law 161 = .ok (.iadd, 1) := by decide +kernel
theorem dL_law_162 : decode cL_law 162 = .ok (.iaload, 1) := by decide +kernel
theorem dL_law_163 : decode cL_law 163 = .ok (.aload_n 0, 1) := by decide +kernel
theorem dL_law_164 : decode cL_law 164 = .ok (.iload_n 3, 1) := by decide +kernel
theorem dL_law_165 : decode cL_law 165 = .ok (.iconst 3, 1) := by decide +kernel
theorem dL_law_166 : decode cL_law 166 = .ok (.iadd, 1) := by decide +kernel
theorem dL_law_167 : decode cL_law 167 = .ok (.iaload, 1) := by decide +kernel
theorem dL_law_168 : decode cL_law 168 = .ok (.aload_n 0, 1) := by decide +kernel
theorem dL_law_169 : decode cL_law 169 = .ok (.iload_n 3, 1) := by decide +kernel
theorem dL_law_170 : decode cL_law 170 = .ok (.iconst 4, 1) := by decide +kernel
theorem dL_law_171 : decode cL_law 171 = .ok (.iadd, 1) := by decide +kernel
theorem dL_law_172 : decode cL_law 172 = .ok (.iaload, 1) := by decide +kernel
theorem dL_law_173 : decode cL_law 173 = .ok (.aload_n 0, 1) := by decide +kernel
theorem dL_law_174 : decode cL_law 174 = .ok (.iload_n 3, 1) := by decide +kernel
theorem dL_law_175 : decode cL_law 175 = .ok (.iconst 5, 1) := by decide +kernel
theorem dL_law_176 : decode cL_law 176 = .ok (.iadd, 1) := by decide +kernel
theorem dL_law_177 : decode cL_law 177 = .ok (.iaload, 1) := by decide +kernel
theorem dL_law_178 : decode cL_law 178 = .ok (.invokevirtual 13, 3) := by decide +kernel
theorem dL_law_181 : decode cL_law 181 = .ok (.aload_n 2, 1) := by decide +kernel
theorem dL_law_182 : decode cL_law 182 = .ok (.aload_n 0, 1) := by decide +kernel
theorem dL_law_183 : decode cL_law 183 = .ok (.iload_n 3, 1) := by decide +kernel
theorem dL_law_184 : decode cL_law 184 = .ok (.iconst 1, 1) := by decide +kernel
theorem dL_law_185 : decode cL_law 185 = .ok (.iadd, 1) := by decide +kernel
theorem dL_law_186 : decode cL_law 186 = .ok (.iaload, 1) := by decide +kernel
theorem dL_law_187 : decode cL_law 187 = .ok (.aload_n 0, 1) := by decide +kernel
theorem dL_law_188 : decode cL_law 188 = .ok (.iload_n 3, 1) := by decide +kernel
theorem dL_law_189 : decode cL_law 189 = .ok (.iconst 2, 1) := by decide +kernel
theorem dL_law_190 : decode cL_law 190 = .ok (.iadd, 1) := by decide +kernel
theorem dL_law_191 : decode cL_law 191 = .ok (.iaload, 1) := by decide +kernel
theorem dL_law_192 : decode cL_law 192 = .ok (.aload_n 0, 1) := by decide +kernel
theorem dL_law_193 : decode cL_law 193 = .ok (.iload_n 3, 1) := by decide +kernel
theorem dL_law_194 : decode cL_law 194 = .ok (.iconst 3, 1) := by decide +kernel
theorem dL_law_195 : decode cL_law 195 = .ok (.iadd, 1) := by decide +kernel
theorem dL_law_196 : decode cL_law 196 = .ok (.iaload, 1) := by decide +kernel
theorem dL_law_197 : decode cL_law 197 = .ok (.aload_n 0, 1) := by decide +kernel
theorem dL_law_198 : decode cL_law 198 = .ok (.iload_n 3, 1) := by decide +kernel
theorem dL_law_199 : decode cL_law 199 = .ok (.iconst 4, 1) := by decide +kernel
theorem dL_law_200 : decode cL_law 200 = .ok (.iadd, 1) := by decide +kernel
theorem dL_law_201 : decode cL_law 201 = .ok (.iaload, 1) := by decide +kernel
theorem dL_law_202 : decode cL_law 202 = .ok (.aload_n 0, 1) := by decide +kernel
theorem dL_law_203 : decode cL_law 203 = .ok (.iload_n 3, 1) := by decide +kernel
theorem dL_law_204 : decode cL_law 204 = .ok (.iconst 5, 1) := by decide +kernel
theorem dL_law_205 : decode cL_law 205 = .ok (.iadd, 1) := by decide +kernel
theorem dL_law_206 : decode cL_law 206 = .ok (.iaload, 1) := by decide +kernel
theorem dL_law_207 : decode cL_law 207 = .ok (.invokevirtual 17, 3) := by decide +kernel
theorem dL_law_210 : decode cL_law 210 = .ok (.if_icmp .eq 940, 3) := by decide +kernel
theorem dL_law_213 : decode cL_law 213 = .ok (.iconst 0, 1) := by decide +kernel
theorem dL_law_214 : decode cL_law 214 = .ok (.ireturn, 1) := by decide +kernel
theorem dL_law_215 : decode cL_law 215 = .ok (.aload_n 1, 1) := by decide +kernel
theorem dL_law_216 : decode cL_law 216 = .ok (.aload_n 0, 1) := by decide +kernel
theorem dL_law_217 : decode cL_law 217 = .ok (.iload_n 3, 1) := by decide +kernel
theorem dL_law_218 : decode cL_law 218 = .ok (.iconst 1, 1) := by decide +kernel
theorem dL_law_219 : decode cL_law 219 = .ok (.iadd, 1) := by decide +kernel
theorem dL_law_220 : decode cL_law 220 = .ok (.iaload, 1) := by decide +kernel
theorem dL_law_221 : decode cL_law 221 = .ok (.invokevirtual 18, 3) := by decide +kernel
theorem dL_law_224 : decode cL_law 224 = .ok (.aload_n 2, 1) := by decide +kernel
theorem dL_law_225 : decode cL_law 225 = .ok (.aload_n 0, 1) := by decide +kernel
theorem dL_law_226 : decode cL_law 226 = .ok (.iload_n 3, 1) := by decide +kernel
theorem dL_law_227 : decode cL_law 227 = .ok (.iconst 1, 1) := by decide +kernel
theorem dL_law_228 : decode cL_law 228 = .ok (.iadd, 1) := by decide +kernel
theorem dL_law_229 : decode cL_law 229 = .ok (.iaload, 1) := by decide +kernel
theorem dL_law_230 : decode cL_law 230 = .ok (.invokevirtual 22, 3) := by decide +kernel
theorem dL_law_233 : decode cL_law 233 = .ok (.if_icmp .eq 917, 3) := by decide +kernel
theorem dL_law_236 : decode cL_law 236 = .ok (.iconst 0, 1) := by decide +kernel
theorem dL_law_237 : decode cL_law 237 = .ok (.ireturn, 1) := by decide +kernel
theorem dL_law_238 : decode cL_law 238 = .ok (.aload_n 1, 1) := by decide +kernel
theorem dL_law_239 : decode cL_law 239 = .ok (.invokevirtual 23, 3) := by decide +kernel
theorem dL_law_242 : decode cL_law 242 = .ok (.aload_n 2, 1) := by decide +kernel
theorem dL_law_243 : decode cL_law 243 = .ok (.invokevirtual 27, 3) := by decide +kernel
theorem dL_law_246 : decode cL_law 246 = .ok (.if_icmp .eq 904, 3) := by decide +kernel
theorem dL_law_249 : decode cL_law 249 = .ok (.iconst 0, 1) := by decide +kernel
theorem dL_law_250 : decode cL_law 250 = .ok (.ireturn, 1) := by decide +kernel
theorem dL_law_251 : decode cL_law 251 = .ok (.aload_n 1, 1) := by decide +kernel
theorem dL_law_252 : decode cL_law 252 = .ok (.invokevirtual 28, 3) := by decide +kernel
theorem dL_law_255 : decode cL_law 255 = .ok (.aload_n 2, 1) := by decide +kernel
theorem dL_law_256 : decode cL_law 256 = .ok (.invokevirtual 31, 3) := by decide +kernel
theorem dL_law_259 : decode cL_law 259 = .ok (.if_icmp .eq 891, 3) := by decide +kernel
theorem dL_law_262 : decode cL_law 262 = .ok (.iconst 0, 1) := by decide +kernel
theorem dL_law_263 : decode cL_law 263 = .ok (.ireturn, 1) := by decide +kernel
theorem dL_law_264 : decode cL_law 264 = .ok (.aload_n 1, 1) := by decide +kernel
theorem dL_law_265 : decode cL_law 265 = .ok (.aload_n 0, 1) := by decide +kernel
theorem dL_law_266 : decode cL_law 266 = .ok (.iload_n 3, 1) := by decide +kernel
theorem dL_law_267 : decode cL_law 267 = .ok (.iconst 1, 1) := by decide +kernel
theorem dL_law_268 : decode cL_law 268 = .ok (.iadd, 1) := by decide +kernel
theorem dL_law_269 : decode cL_law 269 = .ok (.iaload, 1) := by decide +kernel
theorem dL_law_270 : decode cL_law 270 = .ok (.aload_n 0, 1) := by decide +kernel
theorem dL_law_271 : decode cL_law 271 = .ok (.iload_n 3, 1) := by decide +kernel
theorem dL_law_272 : decode cL_law 272 = .ok (.iconst 2, 1) := by decide +kernel
theorem dL_law_273 : decode cL_law 273 = .ok (.iadd, 1) := by decide +kernel
theorem dL_law_274 : decode cL_law 274 = .ok (.iaload, 1) := by decide +kernel
theorem dL_law_275 : decode cL_law 275 = .ok (.invokevirtual 32, 3) := by decide +kernel
theorem dL_law_278 : decode cL_law 278 = .ok (.aload_n 2, 1) := by decide +kernel
theorem dL_law_279 : decode cL_law 279 = .ok (.aload_n 0, 1) := by decide +kernel
theorem dL_law_280 : decode cL_law 280 = .ok (.iload_n 3, 1) := by decide +kernel
theorem dL_law_281 : decode cL_law 281 = .ok (.iconst 1, 1) := by decide +kernel
theorem dL_law_282 : decode cL_law 282 = .ok (.iadd, 1) := by decide +kernel
theorem dL_law_283 : decode cL_law 283 = .ok (.iaload, 1) := by decide +kernel
