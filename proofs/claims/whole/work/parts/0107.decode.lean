theorem dX12_ownedBy_47 : decode cX12_ownedBy 47 = .ok (.iconst (-1), 1) := by decide +kernel
theorem dX12_ownedBy_48 : decode cX12_ownedBy 48 = .ok (.if_icmp .eq 20, 3) := by decide +kernel
theorem dX12_ownedBy_51 : decode cX12_ownedBy 51 = .ok (.aload_n 0, 1) := by decide +kernel
theorem dX12_ownedBy_52 : decode cX12_ownedBy 52 = .ok (.getfield 134, 3) := by decide +kernel
theorem dX12_ownedBy_55 : decode cX12_ownedBy 55 = .ok (.iload 5, 2) := by decide +kernel
theorem dX12_ownedBy_57 : decode cX12_ownedBy 57 = .ok (.iaload, 1) := by decide +kernel
theorem dX12_ownedBy_58 : decode cX12_ownedBy 58 = .ok (.aload_n 0, 1) := by decide +kernel
theorem dX12_ownedBy_59 : decode cX12_ownedBy 59 = .ok (.getfield 134, 3) := by decide +kernel
theorem dX12_ownedBy_62 : decode cX12_ownedBy 62 = .ok (.iload 4, 2) := by decide +kernel
theorem dX12_ownedBy_64 : decode cX12_ownedBy 64 = .ok (.iaload, 1) := by decide +kernel
theorem dX12_ownedBy_65 : decode cX12_ownedBy 65 = .ok (.if_icmp .lt 7, 3) := by decide +kernel
theorem dX12_ownedBy_68 : decode cX12_ownedBy 68 = .ok (.iload 5, 2) := by decide +kernel
theorem dX12_ownedBy_70 : decode cX12_ownedBy 70 = .ok (.istore 4, 2) := by decide +kernel
theorem dX12_ownedBy_72 : decode cX12_ownedBy 72 = .ok (.iinc 5 1, 3) := by decide +kernel
theorem dX12_ownedBy_75 : decode cX12_ownedBy 75 = .ok (.goto (-69), 3) := by decide +kernel
theorem dX12_ownedBy_78 : decode cX12_ownedBy 78 = .ok (.iload 4, 2) := by decide +kernel
theorem dX12_ownedBy_80 : decode cX12_ownedBy 80 = .ok (.ireturn, 1) := by decide +kernel
theorem dX12_ownerOf_0 : decode cX12_ownerOf 0 = .ok (.aload_n 0, 1) := by decide +kernel
theorem dX12_ownerOf_1 : decode cX12_ownerOf 1 = .ok (.iload_n 1, 1) := by decide +kernel
theorem dX12_ownerOf_2 : decode cX12_ownerOf 2 = .ok (.iload_n 2, 1) := by decide +kernel
theorem dX12_ownerOf_3 : decode cX12_ownerOf 3 = .ok (.iload_n 3, 1) := by decide +kernel
theorem dX12_ownerOf_4 : decode cX12_ownerOf 4 = .ok (.invokevirtual 333, 3) := by decide +kernel
theorem dX12_ownerOf_7 : decode cX12_ownerOf 7 = .ok (.istore 4, 2) := by decide +kernel
theorem dX12_ownerOf_9 : decode cX12_ownerOf 9 = .ok (.iload 4, 2) := by decide +kernel
theorem dX12_ownerOf_11 : decode cX12_ownerOf 11 = .ok (.iconst (-1), 1) := by decide +kernel
theorem dX12_ownerOf_12 : decode cX12_ownerOf 12 = .ok (.if_icmp .ne 12, 3) := by decide +kernel
theorem dX12_ownerOf_15 : decode cX12_ownerOf 15 = .ok (.aload_n 0, 1) := by decide +kernel
theorem dX12_ownerOf_16 : decode cX12_ownerOf 16 = .ok (.getfield 119, 3) := by decide +kernel
theorem dX12_ownerOf_19 : decode cX12_ownerOf 19 = .ok (.iload_n 1, 1) := by decide +kernel
theorem dX12_ownerOf_20 : decode cX12_ownerOf 20 = .ok (.iaload, 1) := by decide +kernel
theorem dX12_ownerOf_21 : decode cX12_ownerOf 21 = .ok (.goto 10, 3) := by decide +kernel
theorem dX12_ownerOf_24 : decode cX12_ownerOf 24 = .ok (.aload_n 0, 1) := by decide +kernel
theorem dX12_ownerOf_25 : decode cX12_ownerOf 25 = .ok (.getfield 140, 3) := by decide +kernel
theorem dX12_ownerOf_28 : decode cX12_ownerOf 28 = .ok (.iload 4, 2) := by decide +kernel
theorem dX12_ownerOf_30 : decode cX12_ownerOf 30 = .ok (.iaload, 1) := by decide +kernel
theorem dX12_ownerOf_31 : decode cX12_ownerOf 31 = .ok (.ireturn, 1) := by decide +kernel
theorem dX12_owner_0 : decode cX12_owner 0 = .ok (.aload_n 0, 1) := by decide +kernel
theorem dX12_owner_1 : decode cX12_owner 1 = .ok (.iload_n 1, 1) := by decide +kernel
theorem dX12_owner_2 : decode cX12_owner 2 = .ok (.invokevirtual 326, 3) := by decide +kernel
theorem dX12_owner_5 : decode cX12_owner 5 = .ok (.ifCond .eq 28, 3) := by decide +kernel
theorem dX12_owner_8 : decode cX12_owner 8 = .ok (.iload_n 2, 1) := by decide +kernel
theorem dX12_owner_9 : decode cX12_owner 9 = .ok (.invokestatic 320, 3) := by decide +kernel
theorem dX12_owner_12 : decode cX12_owner 12 = .ok (.ifCond .eq 21, 3) := by decide +kernel
theorem dX12_owner_15 : decode cX12_owner 15 = .ok (.aload_n 0, 1) := by decide +kernel
theorem dX12_owner_16 : decode cX12_owner 16 = .ok (.iload_n 3, 1) := by decide +kernel
theorem dX12_owner_17 : decode cX12_owner 17 = .ok (.invokevirtual 336, 3) := by decide +kernel
theorem dX12_owner_20 : decode cX12_owner 20 = .ok (.ifCond .eq 13, 3) := by decide +kernel
theorem dX12_owner_23 : decode cX12_owner 23 = .ok (.aload_n 0, 1) := by decide +kernel
theorem dX12_owner_24 : decode cX12_owner 24 = .ok (.iload_n 1, 1) := by decide +kernel
theorem dX12_owner_25 : decode cX12_owner 25 = .ok (.iload_n 2, 1) := by decide +kernel
theorem dX12_owner_26 : decode cX12_owner 26 = .ok (.iload_n 3, 1) := by decide +kernel
theorem dX12_owner_27 : decode cX12_owner 27 = .ok (.invokevirtual 339, 3) := by decide +kernel
theorem dX12_owner_30 : decode cX12_owner 30 = .ok (.goto 4, 3) := by decide +kernel
theorem dX12_owner_33 : decode cX12_owner 33 = .ok (.iconst (-1), 1) := by decide +kernel
theorem dX12_owner_34 : decode cX12_owner 34 = .ok (.ireturn, 1) := by decide +kernel
theorem dX12_partedOf_0 : decode cX12_partedOf 0 = .ok (.aload_n 0, 1) := by decide +kernel
theorem dX12_partedOf_1 : decode cX12_partedOf 1 = .ok (.iload_n 2, 1) := by decide +kernel
theorem dX12_partedOf_2 : decode cX12_partedOf 2 = .ok (.iload_n 3, 1) := by decide +kernel
theorem dX12_partedOf_3 : decode cX12_partedOf 3 = .ok (.iload 4, 2) := by decide +kernel
theorem dX12_partedOf_5 : decode cX12_partedOf 5 = .ok (.invokevirtual 339, 3) := by decide +kernel
theorem dX12_partedOf_8 : decode cX12_partedOf 8 = .ok (.iload_n 1, 1) := by decide +kernel
theorem dX12_partedOf_9 : decode cX12_partedOf 9 = .ok (.if_icmp .ne 5, 3) := by decide +kernel
theorem dX12_partedOf_12 : decode cX12_partedOf 12 = .ok (.iconst (-1), 1) := by decide +kernel
theorem dX12_partedOf_13 : decode cX12_partedOf 13 = .ok (.ireturn, 1) := by decide +kernel
theorem dX12_partedOf_14 : decode cX12_partedOf 14 = .ok (.iload_n 3, 1) := by decide +kernel
theorem dX12_partedOf_15 : decode cX12_partedOf 15 = .ok (.istore 5, 2) := by decide +kernel
theorem dX12_partedOf_17 : decode cX12_partedOf 17 = .ok (.iload 5, 2) := by decide +kernel
theorem dX12_partedOf_19 : decode cX12_partedOf 19 = .ok (.ifCond .lt 56, 3) := by decide +kernel
theorem dX12_partedOf_22 : decode cX12_partedOf 22 = .ok (.aload_n 0, 1) := by decide +kernel
theorem dX12_partedOf_23 : decode cX12_partedOf 23 = .ok (.iload_n 2, 1) := by decide +kernel
theorem dX12_partedOf_24 : decode cX12_partedOf 24 = .ok (.iload 5, 2) := by decide +kernel
theorem dX12_partedOf_26 : decode cX12_partedOf 26 = .ok (.iload 4, 2) := by decide +kernel
theorem dX12_partedOf_28 : decode cX12_partedOf 28 = .ok (.invokevirtual 333, 3) := by decide +kernel
theorem dX12_partedOf_31 : decode cX12_partedOf 31 = .ok (.istore 6, 2) := by decide +kernel
theorem dX12_partedOf_33 : decode cX12_partedOf 33 = .ok (.aload_n 0, 1) := by decide +kernel
theorem dX12_partedOf_34 : decode cX12_partedOf 34 = .ok (.iload_n 2, 1) := by decide +kernel
theorem dX12_partedOf_35 : decode cX12_partedOf 35 = .ok (.iload 5, 2) := by decide +kernel
theorem dX12_partedOf_37 : decode cX12_partedOf 37 = .ok (.iload 4, 2) := by decide +kernel
theorem dX12_partedOf_39 : decode cX12_partedOf 39 = .ok (.invokevirtual 339, 3) := by decide +kernel
theorem dX12_partedOf_42 : decode cX12_partedOf 42 = .ok (.iload_n 1, 1) := by decide +kernel
theorem dX12_partedOf_43 : decode cX12_partedOf 43 = .ok (.if_icmp .ne 8, 3) := by decide +kernel
theorem dX12_partedOf_46 : decode cX12_partedOf 46 = .ok (.iload_n 3, 1) := by decide +kernel
theorem dX12_partedOf_47 : decode cX12_partedOf 47 = .ok (.iload 5, 2) := by decide +kernel
theorem dX12_partedOf_49 : decode cX12_partedOf 49 = .ok (.isub, 1) := by decide +kernel
theorem dX12_partedOf_50 : decode cX12_partedOf 50 = .ok (.ireturn, 1) := by decide +kernel
theorem dX12_partedOf_51 : decode cX12_partedOf 51 = .ok (.iload 6, 2) := by decide +kernel
theorem dX12_partedOf_53 : decode cX12_partedOf 53 = .ok (.iconst (-1), 1) := by decide +kernel
theorem dX12_partedOf_54 : decode cX12_partedOf 54 = .ok (.if_icmp .ne 7, 3) := by decide +kernel
theorem dX12_partedOf_57 : decode cX12_partedOf 57 = .ok (.iconst (-1), 1) := by decide +kernel
theorem dX12_partedOf_58 : decode cX12_partedOf 58 = .ok (.goto 12, 3) := by decide +kernel
theorem dX12_partedOf_61 : decode cX12_partedOf 61 = .ok (.aload_n 0, 1) := by decide +kernel
theorem dX12_partedOf_62 : decode cX12_partedOf 62 = .ok (.getfield 134, 3) := by decide +kernel
theorem dX12_partedOf_65 : decode cX12_partedOf 65 = .ok (.iload 6, 2) := by decide +kernel
theorem dX12_partedOf_67 : decode cX12_partedOf 67 = .ok (.iaload, 1) := by decide +kernel
theorem dX12_partedOf_68 : decode cX12_partedOf 68 = .ok (.iconst 1, 1) := by decide +kernel
theorem dX12_partedOf_69 : decode cX12_partedOf 69 = .ok (.isub, 1) := by decide +kernel
theorem dX12_partedOf_70 : decode cX12_partedOf 70 = .ok (.istore 5, 2) := by decide +kernel
theorem dX12_partedOf_72 : decode cX12_partedOf 72 = .ok (.goto (-55), 3) := by decide +kernel
theorem dX12_partedOf_75 : decode cX12_partedOf 75 = .ok (.iconst (-1), 1) := by decide +kernel
theorem dX12_partedOf_76 : decode cX12_partedOf 76 = .ok (.ireturn, 1) := by decide +kernel
theorem dX12_parted_0 : decode cX12_parted 0 = .ok (.iload_n 1, 1) := by decide +kernel
theorem dX12_parted_1 : decode cX12_parted 1 = .ok (.invokestatic 314, 3) := by decide +kernel
theorem dX12_parted_4 : decode cX12_parted 4 = .ok (.ifCond .eq 39, 3) := by decide +kernel
theorem dX12_parted_7 : decode cX12_parted 7 = .ok (.aload_n 0, 1) := by decide +kernel
theorem dX12_parted_8 : decode cX12_parted 8 = .ok (.iload_n 2, 1) := by decide +kernel
theorem dX12_parted_9 : decode cX12_parted 9 = .ok (.invokevirtual 326, 3) := by decide +kernel
theorem dX12_parted_12 : decode cX12_parted 12 = .ok (.ifCond .eq 31, 3) := by decide +kernel
theorem dX12_parted_15 : decode cX12_parted 15 = .ok (.iload_n 3, 1) := by decide +kernel
theorem dX12_parted_16 : decode cX12_parted 16 = .ok (.invokestatic 320, 3) := by decide +kernel
theorem dX12_parted_19 : decode cX12_parted 19 = .ok (.ifCond .eq 24, 3) := by decide +kernel
theorem dX12_parted_22 : decode cX12_parted 22 = .ok (.aload_n 0, 1) := by decide +kernel
theorem dX12_parted_23 : decode cX12_parted 23 = .ok (.iload 4, 2) := by decide +kernel
theorem dX12_parted_25 : decode cX12_parted 25 = .ok (.invokevirtual 336, 3) := by decide +kernel
theorem dX12_parted_28 : decode cX12_parted 28 = .ok (.ifCond .eq 15, 3) := by decide +kernel
theorem dX12_parted_31 : decode cX12_parted 31 = .ok (.aload_n 0, 1) := by decide +kernel
theorem dX12_parted_32 : decode cX12_parted 32 = .ok (.iload_n 1, 1) := by decide +kernel
theorem dX12_parted_33 : decode cX12_parted 33 = .ok (.iload_n 2, 1) := by decide +kernel
theorem dX12_parted_34 : decode cX12_parted 34 = .ok (.iload_n 3, 1) := by decide +kernel
theorem dX12_parted_35 : decode cX12_parted 35 = .ok (.iload 4, 2) := by decide +kernel
theorem dX12_parted_37 : decode cX12_parted 37 = .ok (.invokevirtual 342, 3) := by decide +kernel
theorem dX12_parted_40 : decode cX12_parted 40 = .ok (.goto 5, 3) := by decide +kernel
theorem dX12_parted_43 : decode cX12_parted 43 = .ok (.bipush (-2), 2) := by decide +kernel
theorem dX12_parted_45 : decode cX12_parted 45 = .ok (.ireturn, 1) := by decide +kernel
theorem dX12_value_0 : decode cX12_value 0 = .ok (.iconst 0, 1) := by decide +kernel
theorem dX12_value_1 : decode cX12_value 1 = .ok (.istore_n 3, 1) := by decide +kernel
theorem dX12_value_2 : decode cX12_value 2 = .ok (.iload_n 1, 1) := by decide +kernel
theorem dX12_value_3 : decode cX12_value 3 = .ok (.istore 4, 2) := by decide +kernel
theorem dX12_value_5 : decode cX12_value 5 = .ok (.iload 4, 2) := by decide +kernel
theorem dX12_value_7 : decode cX12_value 7 = .ok (.iload_n 2, 1) := by decide +kernel
theorem dX12_value_8 : decode cX12_value 8 = .ok (.if_icmp .ge 136, 3) := by decide +kernel
theorem dX12_value_11 : decode cX12_value 11 = .ok (.aload_n 0, 1) := by decide +kernel
theorem dX12_value_12 : decode cX12_value 12 = .ok (.getfield 83, 3) := by decide +kernel
theorem dX12_value_15 : decode cX12_value 15 = .ok (.iload 4, 2) := by decide +kernel
theorem dX12_value_17 : decode cX12_value 17 = .ok (.iaload, 1) := by decide +kernel
theorem dX12_value_18 : decode cX12_value 18 = .ok (.iconst 2, 1) := by decide +kernel
theorem dX12_value_19 : decode cX12_value 19 = .ok (.if_icmp .ge 47, 3) := by decide +kernel
theorem dX12_value_22 : decode cX12_value 22 = .ok (.aload_n 0, 1) := by decide +kernel
theorem dX12_value_23 : decode cX12_value 23 = .ok (.getfield 146, 3) := by decide +kernel
theorem dX12_value_26 : decode cX12_value 26 = .ok (.iload_n 3, 1) := by decide +kernel
theorem dX12_value_27 : decode cX12_value 27 = .ok (.aload_n 0, 1) := by decide +kernel
theorem dX12_value_28 : decode cX12_value 28 = .ok (.getfield 83, 3) := by decide +kernel
theorem dX12_value_31 : decode cX12_value 31 = .ok (.iload 4, 2) := by decide +kernel
theorem dX12_value_33 : decode cX12_value 33 = .ok (.iaload, 1) := by decide +kernel
theorem dX12_value_34 : decode cX12_value 34 = .ok (.ifCond .ne 13, 3) := by decide +kernel
theorem dX12_value_37 : decode cX12_value 37 = .ok (.aload_n 0, 1) := by decide +kernel
theorem dX12_value_38 : decode cX12_value 38 = .ok (.getfield 86, 3) := by decide +kernel
theorem dX12_value_41 : decode cX12_value 41 = .ok (.iload 4, 2) := by decide +kernel
theorem dX12_value_43 : decode cX12_value 43 = .ok (.iaload, 1) := by decide +kernel
theorem dX12_value_44 : decode cX12_value 44 = .ok (.goto 15, 3) := by decide +kernel
theorem dX12_value_47 : decode cX12_value 47 = .ok (.aload_n 0, 1) := by decide +kernel
theorem dX12_value_48 : decode cX12_value 48 = .ok (.getfield 143, 3) := by decide +kernel
theorem dX12_value_51 : decode cX12_value 51 = .ok (.aload_n 0, 1) := by decide +kernel
theorem dX12_value_52 : decode cX12_value 52 = .ok (.getfield 86, 3) := by decide +kernel
theorem dX12_value_55 : decode cX12_value 55 = .ok (.iload 4, 2) := by decide +kernel
theorem dX12_value_57 : decode cX12_value 57 = .ok (.iaload, 1) := by decide +kernel
theorem dX12_value_58 : decode cX12_value 58 = .ok (.iaload, 1) := by decide +kernel
theorem dX12_value_59 : decode cX12_value 59 = .ok (.iastore, 1) := by decide +kernel
theorem dX12_value_60 : decode cX12_value 60 = .ok (.iinc 3 1, 3) := by decide +kernel
theorem dX12_value_63 : decode cX12_value 63 = .ok (.goto 75, 3) := by decide +kernel
theorem dX12_value_66 : decode cX12_value 66 = .ok (.iinc 3 (-1), 3) := by decide +kernel
theorem dX12_value_69 : decode cX12_value 69 = .ok (.aload_n 0, 1) := by decide +kernel
theorem dX12_value_70 : decode cX12_value 70 = .ok (.getfield 146, 3) := by decide +kernel
theorem dX12_value_73 : decode cX12_value 73 = .ok (.iload_n 3, 1) := by decide +kernel
theorem dX12_value_74 : decode cX12_value 74 = .ok (.iconst 1, 1) := by decide +kernel
theorem dX12_value_75 : decode cX12_value 75 = .ok (.isub, 1) := by decide +kernel
theorem dX12_value_76 : decode cX12_value 76 = .ok (.iaload, 1) := by decide +kernel
theorem dX12_value_77 : decode cX12_value 77 = .ok (.istore 5, 2) := by decide +kernel
theorem dX12_value_79 : decode cX12_value 79 = .ok (.aload_n 0, 1) := by decide +kernel
theorem dX12_value_80 : decode cX12_value 80 = .ok (.getfield 146, 3) := by decide +kernel
theorem dX12_value_83 : decode cX12_value 83 = .ok (.iload_n 3, 1) := by decide +kernel
theorem dX12_value_84 : decode cX12_value 84 = .ok (.iaload, 1) := by decide +kernel
theorem dX12_value_85 : decode cX12_value 85 = .ok (.istore 6, 2) := by decide +kernel
theorem dX12_value_87 : decode cX12_value 87 = .ok (.aload_n 0, 1) := by decide +kernel
theorem dX12_value_88 : decode cX12_value 88 = .ok (.getfield 146, 3) := by decide +kernel
theorem dX12_value_91 : decode cX12_value 91 = .ok (.iload_n 3, 1) := by decide +kernel
theorem dX12_value_92 : decode cX12_value 92 = .ok (.iconst 1, 1) := by decide +kernel
theorem dX12_value_93 : decode cX12_value 93 = .ok (.isub, 1) := by decide +kernel
theorem dX12_value_94 : decode cX12_value 94 = .ok (.aload_n 0, 1) := by decide +kernel
theorem dX12_value_95 : decode cX12_value 95 = .ok (.getfield 83, 3) := by decide +kernel
theorem dX12_value_98 : decode cX12_value 98 = .ok (.iload 4, 2) := by decide +kernel
theorem dX12_value_100 : decode cX12_value 100 = .ok (.iaload, 1) := by decide +kernel
theorem dX12_value_101 : decode cX12_value 101 = .ok (.iconst 2, 1) := by decide +kernel
theorem dX12_value_102 : decode cX12_value 102 = .ok (.if_icmp .ne 11, 3) := by decide +kernel
theorem dX12_value_105 : decode cX12_value 105 = .ok (.iload 5, 2) := by decide +kernel
theorem dX12_value_107 : decode cX12_value 107 = .ok (.iload 6, 2) := by decide +kernel
theorem dX12_value_109 : decode cX12_value 109 = .ok (.iadd, 1) := by decide +kernel
theorem dX12_value_110 : decode cX12_value 110 = .ok (.goto 27, 3) := by decide +kernel
theorem dX12_value_113 : decode cX12_value 113 = .ok (.aload_n 0, 1) := by decide +kernel
theorem dX12_value_114 : decode cX12_value 114 = .ok (.getfield 83, 3) := by decide +kernel
theorem dX12_value_117 : decode cX12_value 117 = .ok (.iload 4, 2) := by decide +kernel
theorem dX12_value_119 : decode cX12_value 119 = .ok (.iaload, 1) := by decide +kernel
theorem dX12_value_120 : decode cX12_value 120 = .ok (.iconst 3, 1) := by decide +kernel
theorem dX12_value_121 : decode cX12_value 121 = .ok (.if_icmp .ne 11, 3) := by decide +kernel
theorem dX12_value_124 : decode cX12_value 124 = .ok (.iload 5, 2) := by decide +kernel
theorem dX12_value_126 : decode cX12_value 126 = .ok (.iload 6, 2) := by decide +kernel
theorem dX12_value_128 : decode cX12_value 128 = .ok (.isub, 1) := by decide +kernel
theorem dX12_value_129 : decode cX12_value 129 = .ok (.goto 8, 3) := by decide +kernel
theorem dX12_value_132 : decode cX12_value 132 = .ok (.iload 5, 2) := by decide +kernel
theorem dX12_value_134 : decode cX12_value 134 = .ok (.iload 6, 2) := by decide +kernel
theorem dX12_value_136 : decode cX12_value 136 = .ok (.imul, 1) := by decide +kernel
theorem dX12_value_137 : decode cX12_value 137 = .ok (.iastore, 1) := by decide +kernel
theorem dX12_value_138 : decode cX12_value 138 = .ok (.iinc 4 1, 3) := by decide +kernel
theorem dX12_value_141 : decode cX12_value 141 = .ok (.goto (-136), 3) := by decide +kernel
theorem dX12_value_144 : decode cX12_value 144 = .ok (.aload_n 0, 1) := by decide +kernel
theorem dX12_value_145 : decode cX12_value 145 = .ok (.getfield 146, 3) := by decide +kernel
theorem dX12_value_148 : decode cX12_value 148 = .ok (.iconst 0, 1) := by decide +kernel
theorem dX12_value_149 : decode cX12_value 149 = .ok (.iaload, 1) := by decide +kernel
theorem dX12_value_150 : decode cX12_value 150 = .ok (.ireturn, 1) := by decide +kernel
theorem dX12_holds_0 : decode cX12_holds 0 = .ok (.aload_n 0, 1) := by decide +kernel
theorem dX12_holds_1 : decode cX12_holds 1 = .ok (.getfield 58, 3) := by decide +kernel
theorem dX12_holds_4 : decode cX12_holds 4 = .ok (.iload_n 1, 1) := by decide +kernel
theorem dX12_holds_5 : decode cX12_holds 5 = .ok (.iaload, 1) := by decide +kernel
theorem dX12_holds_6 : decode cX12_holds 6 = .ok (.aload_n 0, 1) := by decide +kernel
theorem dX12_holds_7 : decode cX12_holds 7 = .ok (.getfield 61, 3) := by decide +kernel
theorem dX12_holds_10 : decode cX12_holds 10 = .ok (.iload_n 1, 1) := by decide +kernel
theorem dX12_holds_11 : decode cX12_holds 11 = .ok (.iaload, 1) := by decide +kernel
theorem dX12_holds_12 : decode cX12_holds 12 = .ok (.if_icmp .ne 5, 3) := by decide +kernel
theorem dX12_holds_15 : decode cX12_holds 15 = .ok (.iconst 1, 1) := by decide +kernel
theorem dX12_holds_16 : decode cX12_holds 16 = .ok (.ireturn, 1) := by decide +kernel
theorem dX12_holds_17 : decode cX12_holds 17 = .ok (.iconst 0, 1) := by decide +kernel
theorem dX12_holds_18 : decode cX12_holds 18 = .ok (.istore_n 2, 1) := by decide +kernel
theorem dX12_holds_19 : decode cX12_holds 19 = .ok (.aload_n 0, 1) := by decide +kernel
theorem dX12_holds_20 : decode cX12_holds 20 = .ok (.getfield 58, 3) := by decide +kernel
theorem dX12_holds_23 : decode cX12_holds 23 = .ok (.iload_n 1, 1) := by decide +kernel
theorem dX12_holds_24 : decode cX12_holds 24 = .ok (.iaload, 1) := by decide +kernel
theorem dX12_holds_25 : decode cX12_holds 25 = .ok (.istore_n 3, 1) := by decide +kernel
theorem dX12_holds_26 : decode cX12_holds 26 = .ok (.iload_n 3, 1) := by decide +kernel
theorem dX12_holds_27 : decode cX12_holds 27 = .ok (.aload_n 0, 1) := by decide +kernel
theorem dX12_holds_28 : decode cX12_holds 28 = .ok (.getfield 61, 3) := by decide +kernel
theorem dX12_holds_31 : decode cX12_holds 31 = .ok (.iload_n 1, 1) := by decide +kernel
theorem dX12_holds_32 : decode cX12_holds 32 = .ok (.iaload, 1) := by decide +kernel
theorem dX12_holds_33 : decode cX12_holds 33 = .ok (.if_icmp .ge 186, 3) := by decide +kernel
theorem dX12_holds_36 : decode cX12_holds 36 = .ok (.sipush 200, 3) := by decide +kernel
theorem dX12_holds_39 : decode cX12_holds 39 = .ok (.aload_n 0, 1) := by decide +kernel
theorem dX12_holds_40 : decode cX12_holds 40 = .ok (.getfield 266, 3) := by decide +kernel
theorem dX12_holds_43 : decode cX12_holds 43 = .ok (.imul, 1) := by decide +kernel
theorem dX12_holds_44 : decode cX12_holds 44 = .ok (.iload_n 3, 1) := by decide +kernel
theorem dX12_holds_45 : decode cX12_holds 45 = .ok (.iadd, 1) := by decide +kernel
theorem dX12_holds_46 : decode cX12_holds 46 = .ok (.istore 4, 2) := by decide +kernel
theorem dX12_holds_48 : decode cX12_holds 48 = .ok (.aload_n 0, 1) := by decide +kernel
theorem dX12_holds_49 : decode cX12_holds 49 = .ok (.getfield 79, 3) := by decide +kernel
theorem dX12_holds_52 : decode cX12_holds 52 = .ok (.iload 4, 2) := by decide +kernel
theorem dX12_holds_54 : decode cX12_holds 54 = .ok (.baload, 1) := by decide +kernel
theorem dX12_holds_55 : decode cX12_holds 55 = .ok (.ifCond .eq 9, 3) := by decide +kernel
theorem dX12_holds_58 : decode cX12_holds 58 = .ok (.iload_n 2, 1) := by decide +kernel
theorem dX12_holds_59 : decode cX12_holds 59 = .ok (.ifCond .eq 5, 3) := by decide +kernel
theorem dX12_holds_62 : decode cX12_holds 62 = .ok (.iconst 1, 1) := by decide +kernel
theorem dX12_holds_63 : decode cX12_holds 63 = .ok (.ireturn, 1) := by decide +kernel
theorem dX12_holds_64 : decode cX12_holds 64 = .ok (.aload_n 0, 1) := by decide +kernel
theorem dX12_holds_65 : decode cX12_holds 65 = .ok (.getfield 79, 3) := by decide +kernel
theorem dX12_holds_68 : decode cX12_holds 68 = .ok (.iload 4, 2) := by decide +kernel
theorem dX12_holds_70 : decode cX12_holds 70 = .ok (.baload, 1) := by decide +kernel
theorem dX12_holds_71 : decode cX12_holds 71 = .ok (.ifCond .eq 5, 3) := by decide +kernel
theorem dX12_holds_74 : decode cX12_holds 74 = .ok (.iconst 1, 1) := by decide +kernel
theorem dX12_holds_75 : decode cX12_holds 75 = .ok (.istore_n 2, 1) := by decide +kernel
theorem dX12_holds_76 : decode cX12_holds 76 = .ok (.iload_n 2, 1) := by decide +kernel
theorem dX12_holds_77 : decode cX12_holds 77 = .ok (.ifCond .ne 6, 3) := by decide +kernel
theorem dX12_holds_80 : decode cX12_holds 80 = .ok (.goto 133, 3) := by decide +kernel
theorem dX12_holds_83 : decode cX12_holds 83 = .ok (.aload_n 0, 1) := by decide +kernel
theorem dX12_holds_84 : decode cX12_holds 84 = .ok (.aload_n 0, 1) := by decide +kernel
theorem dX12_holds_85 : decode cX12_holds 85 = .ok (.getfield 70, 3) := by decide +kernel
theorem dX12_holds_88 : decode cX12_holds 88 = .ok (.iload 4, 2) := by decide +kernel
theorem dX12_holds_90 : decode cX12_holds 90 = .ok (.iaload, 1) := by decide +kernel
theorem dX12_holds_91 : decode cX12_holds 91 = .ok (.aload_n 0, 1) := by decide +kernel
theorem dX12_holds_92 : decode cX12_holds 92 = .ok (.getfield 73, 3) := by decide +kernel
theorem dX12_holds_95 : decode cX12_holds 95 = .ok (.iload 4, 2) := by decide +kernel
theorem dX12_holds_97 : decode cX12_holds 97 = .ok (.iaload, 1) := by decide +kernel
theorem dX12_holds_98 : decode cX12_holds 98 = .ok (.invokevirtual 346, 3) := by decide +kernel
theorem dX12_holds_101 : decode cX12_holds 101 = .ok (.istore 5, 2) := by decide +kernel
theorem dX12_holds_103 : decode cX12_holds 103 = .ok (.aload_n 0, 1) := by decide +kernel
theorem dX12_holds_104 : decode cX12_holds 104 = .ok (.aload_n 0, 1) := by decide +kernel
theorem dX12_holds_105 : decode cX12_holds 105 = .ok (.getfield 73, 3) := by decide +kernel
theorem dX12_holds_108 : decode cX12_holds 108 = .ok (.iload 4, 2) := by decide +kernel
theorem dX12_holds_110 : decode cX12_holds 110 = .ok (.iaload, 1) := by decide +kernel
theorem dX12_holds_111 : decode cX12_holds 111 = .ok (.aload_n 0, 1) := by decide +kernel
theorem dX12_holds_112 : decode cX12_holds 112 = .ok (.getfield 76, 3) := by decide +kernel
theorem dX12_holds_115 : decode cX12_holds 115 = .ok (.iload 4, 2) := by decide +kernel
theorem dX12_holds_117 : decode cX12_holds 117 = .ok (.iaload, 1) := by decide +kernel
theorem dX12_holds_118 : decode cX12_holds 118 = .ok (.invokevirtual 346, 3) := by decide +kernel
theorem dX12_holds_121 : decode cX12_holds 121 = .ok (.istore 6, 2) := by decide +kernel
theorem dX12_holds_123 : decode cX12_holds 123 = .ok (.aload_n 0, 1) := by decide +kernel
theorem dX12_holds_124 : decode cX12_holds 124 = .ok (.getfield 67, 3) := by decide +kernel
theorem dX12_holds_127 : decode cX12_holds 127 = .ok (.iload 4, 2) := by decide +kernel
theorem dX12_holds_129 : decode cX12_holds 129 = .ok (.iaload, 1) := by decide +kernel
theorem dX12_holds_130 : decode cX12_holds 130 = .ok (.ifCond .ne 18, 3) := by decide +kernel
theorem dX12_holds_133 : decode cX12_holds 133 = .ok (.iload 5, 2) := by decide +kernel
theorem dX12_holds_135 : decode cX12_holds 135 = .ok (.iload 6, 2) := by decide +kernel
theorem dX12_holds_137 : decode cX12_holds 137 = .ok (.if_icmp .ne 7, 3) := by decide +kernel
theorem dX12_holds_140 : decode cX12_holds 140 = .ok (.iconst 1, 1) := by decide +kernel
theorem dX12_holds_141 : decode cX12_holds 141 = .ok (.goto 71, 3) := by decide +kernel
theorem dX12_holds_144 : decode cX12_holds 144 = .ok (.iconst 0, 1) := by decide +kernel
theorem dX12_holds_145 : decode cX12_holds 145 = .ok (.goto 67, 3) := by decide +kernel
theorem dX12_holds_148 : decode cX12_holds 148 = .ok (.aload_n 0, 1) := by decide +kernel
theorem dX12_holds_149 : decode cX12_holds 149 = .ok (.getfield 67, 3) := by decide +kernel
theorem dX12_holds_152 : decode cX12_holds 152 = .ok (.iload 4, 2) := by decide +kernel
theorem dX12_holds_154 : decode cX12_holds 154 = .ok (.iaload, 1) := by decide +kernel
theorem dX12_holds_155 : decode cX12_holds 155 = .ok (.iconst 1, 1) := by decide +kernel
theorem dX12_holds_156 : decode cX12_holds 156 = .ok (.if_icmp .ne 18, 3) := by decide +kernel
theorem dX12_holds_159 : decode cX12_holds 159 = .ok (.iload 5, 2) := by decide +kernel
theorem dX12_holds_161 : decode cX12_holds 161 = .ok (.iload 6, 2) := by decide +kernel
theorem dX12_holds_163 : decode cX12_holds 163 = .ok (.if_icmp .eq 7, 3) := by decide +kernel
theorem dX12_holds_166 : decode cX12_holds 166 = .ok (.iconst 1, 1) := by decide +kernel
theorem dX12_holds_167 : decode cX12_holds 167 = .ok (.goto 45, 3) := by decide +kernel
theorem dX12_holds_170 : decode cX12_holds 170 = .ok (.iconst 0, 1) := by decide +kernel
theorem dX12_holds_171 : decode cX12_holds 171 = .ok (.goto 41, 3) := by decide +kernel
theorem dX12_holds_174 : decode cX12_holds 174 = .ok (.aload_n 0, 1) := by decide +kernel
theorem dX12_holds_175 : decode cX12_holds 175 = .ok (.getfield 67, 3) := by decide +kernel
theorem dX12_holds_178 : decode cX12_holds 178 = .ok (.iload 4, 2) := by decide +kernel
theorem dX12_holds_180 : decode cX12_holds 180 = .ok (.iaload, 1) := by decide +kernel
theorem dX12_holds_181 : decode cX12_holds 181 = .ok (.iconst 2, 1) := by decide +kernel
theorem dX12_holds_182 : decode cX12_holds 182 = .ok (.if_icmp .ne 18, 3) := by decide +kernel
theorem dX12_holds_185 : decode cX12_holds 185 = .ok (.iload 5, 2) := by decide +kernel
theorem dX12_holds_187 : decode cX12_holds 187 = .ok (.iload 6, 2) := by decide +kernel
theorem dX12_holds_189 : decode cX12_holds 189 = .ok (.if_icmp .ge 7, 3) := by decide +kernel
theorem dX12_holds_192 : decode cX12_holds 192 = .ok (.iconst 1, 1) := by decide +kernel
theorem dX12_holds_193 : decode cX12_holds 193 = .ok (.goto 19, 3) := by decide +kernel
theorem dX12_holds_196 : decode cX12_holds 196 = .ok (.iconst 0, 1) := by decide +kernel
theorem dX12_holds_197 : decode cX12_holds 197 = .ok (.goto 15, 3) := by decide +kernel
theorem dX12_holds_200 : decode cX12_holds 200 = .ok (.iload 5, 2) := by decide +kernel
theorem dX12_holds_202 : decode cX12_holds 202 = .ok (.iload 6, 2) := by decide +kernel
theorem dX12_holds_204 : decode cX12_holds 204 = .ok (.if_icmp .gt 7, 3) := by decide +kernel
theorem dX12_holds_207 : decode cX12_holds 207 = .ok (.iconst 1, 1) := by decide +kernel
theorem dX12_holds_208 : decode cX12_holds 208 = .ok (.goto 4, 3) := by decide +kernel
theorem dX12_holds_211 : decode cX12_holds 211 = .ok (.iconst 0, 1) := by decide +kernel
theorem dX12_holds_212 : decode cX12_holds 212 = .ok (.istore_n 2, 1) := by decide +kernel
theorem dX12_holds_213 : decode cX12_holds 213 = .ok (.iinc 3 1, 3) := by decide +kernel
theorem dX12_holds_216 : decode cX12_holds 216 = .ok (.goto (-190), 3) := by decide +kernel
theorem dX12_holds_219 : decode cX12_holds 219 = .ok (.iload_n 2, 1) := by decide +kernel
theorem dX12_holds_220 : decode cX12_holds 220 = .ok (.ireturn, 1) := by decide +kernel
theorem dX12_ruleOf_0 : decode cX12_ruleOf 0 = .ok (.iconst 0, 1) := by decide +kernel
theorem dX12_ruleOf_1 : decode cX12_ruleOf 1 = .ok (.istore_n 2, 1) := by decide +kernel
theorem dX12_ruleOf_2 : decode cX12_ruleOf 2 = .ok (.iload_n 2, 1) := by decide +kernel
theorem dX12_ruleOf_3 : decode cX12_ruleOf 3 = .ok (.aload_n 0, 1) := by decide +kernel
theorem dX12_ruleOf_4 : decode cX12_ruleOf 4 = .ok (.getfield 40, 3) := by decide +kernel
theorem dX12_ruleOf_7 : decode cX12_ruleOf 7 = .ok (.aload_n 0, 1) := by decide +kernel
theorem dX12_ruleOf_8 : decode cX12_ruleOf 8 = .ok (.getfield 266, 3) := by decide +kernel
theorem dX12_ruleOf_11 : decode cX12_ruleOf 11 = .ok (.iaload, 1) := by decide +kernel
theorem dX12_ruleOf_12 : decode cX12_ruleOf 12 = .ok (.if_icmp .ge 45, 3) := by decide +kernel
theorem dX12_ruleOf_15 : decode cX12_ruleOf 15 = .ok (.aload_n 0, 1) := by decide +kernel
theorem dX12_ruleOf_16 : decode cX12_ruleOf 16 = .ok (.getfield 43, 3) := by decide +kernel
theorem dX12_ruleOf_19 : decode cX12_ruleOf 19 = .ok (.bipush 16, 2) := by decide +kernel
theorem dX12_ruleOf_21 : decode cX12_ruleOf 21 = .ok (.aload_n 0, 1) := by decide +kernel
theorem dX12_ruleOf_22 : decode cX12_ruleOf 22 = .ok (.getfield 266, 3) := by decide +kernel
theorem dX12_ruleOf_25 : decode cX12_ruleOf 25 = .ok (.imul, 1) := by decide +kernel
theorem dX12_ruleOf_26 : decode cX12_ruleOf 26 = .ok (.iload_n 2, 1) := by decide +kernel
theorem dX12_ruleOf_27 : decode cX12_ruleOf 27 = .ok (.iadd, 1) := by decide +kernel
theorem dX12_ruleOf_28 : decode cX12_ruleOf 28 = .ok (.iaload, 1) := by decide +kernel
theorem dX12_ruleOf_29 : decode cX12_ruleOf 29 = .ok (.iload_n 1, 1) := by decide +kernel
theorem dX12_ruleOf_30 : decode cX12_ruleOf 30 = .ok (.if_icmp .ne 21, 3) := by decide +kernel
theorem dX12_ruleOf_33 : decode cX12_ruleOf 33 = .ok (.aload_n 0, 1) := by decide +kernel
theorem dX12_ruleOf_34 : decode cX12_ruleOf 34 = .ok (.bipush 16, 2) := by decide +kernel
theorem dX12_ruleOf_36 : decode cX12_ruleOf 36 = .ok (.aload_n 0, 1) := by decide +kernel
theorem dX12_ruleOf_37 : decode cX12_ruleOf 37 = .ok (.getfield 266, 3) := by decide +kernel
theorem dX12_ruleOf_40 : decode cX12_ruleOf 40 = .ok (.imul, 1) := by decide +kernel
theorem dX12_ruleOf_41 : decode cX12_ruleOf 41 = .ok (.iload_n 2, 1) := by decide +kernel
theorem dX12_ruleOf_42 : decode cX12_ruleOf 42 = .ok (.iadd, 1) := by decide +kernel
theorem dX12_ruleOf_43 : decode cX12_ruleOf 43 = .ok (.invokevirtual 350, 3) := by decide +kernel
theorem dX12_ruleOf_46 : decode cX12_ruleOf 46 = .ok (.ifCond .eq 5, 3) := by decide +kernel
theorem dX12_ruleOf_49 : decode cX12_ruleOf 49 = .ok (.iload_n 2, 1) := by decide +kernel
theorem dX12_ruleOf_50 : decode cX12_ruleOf 50 = .ok (.ireturn, 1) := by decide +kernel
theorem dX12_ruleOf_51 : decode cX12_ruleOf 51 = .ok (.iinc 2 1, 3) := by decide +kernel
theorem dX12_ruleOf_54 : decode cX12_ruleOf 54 = .ok (.goto (-52), 3) := by decide +kernel
theorem dX12_ruleOf_57 : decode cX12_ruleOf 57 = .ok (.iconst (-1), 1) := by decide +kernel
theorem dX12_ruleOf_58 : decode cX12_ruleOf 58 = .ok (.ireturn, 1) := by decide +kernel
theorem dX12_asks_0 : decode cX12_asks 0 = .ok (.iconst 0, 1) := by decide +kernel
theorem dX12_asks_1 : decode cX12_asks 1 = .ok (.istore_n 3, 1) := by decide +kernel
theorem dX12_asks_2 : decode cX12_asks 2 = .ok (.iload_n 3, 1) := by decide +kernel
theorem dX12_asks_3 : decode cX12_asks 3 = .ok (.bipush 9, 2) := by decide +kernel
theorem dX12_asks_5 : decode cX12_asks 5 = .ok (.if_icmp .ge 16, 3) := by decide +kernel
theorem dX12_asks_8 : decode cX12_asks 8 = .ok (.aload_n 0, 1) := by decide +kernel
theorem dX12_asks_9 : decode cX12_asks 9 = .ok (.getfield 143, 3) := by decide +kernel
theorem dX12_asks_12 : decode cX12_asks 12 = .ok (.iload_n 3, 1) := by decide +kernel
theorem dX12_asks_13 : decode cX12_asks 13 = .ok (.iconst 0, 1) := by decide +kernel
theorem dX12_asks_14 : decode cX12_asks 14 = .ok (.iastore, 1) := by decide +kernel
theorem dX12_asks_15 : decode cX12_asks 15 = .ok (.iinc 3 1, 3) := by decide +kernel
theorem dX12_asks_18 : decode cX12_asks 18 = .ok (.goto (-16), 3) := by decide +kernel
theorem dX12_asks_21 : decode cX12_asks 21 = .ok (.aload_n 0, 1) := by decide +kernel
theorem dX12_asks_22 : decode cX12_asks 22 = .ok (.getfield 143, 3) := by decide +kernel
theorem dX12_asks_25 : decode cX12_asks 25 = .ok (.iconst 0, 1) := by decide +kernel
theorem dX12_asks_26 : decode cX12_asks 26 = .ok (.aload_n 0, 1) := by decide +kernel
theorem dX12_asks_27 : decode cX12_asks 27 = .ok (.getfield 125, 3) := by decide +kernel
theorem dX12_asks_30 : decode cX12_asks 30 = .ok (.iload_n 1, 1) := by decide +kernel
theorem dX12_asks_31 : decode cX12_asks 31 = .ok (.iaload, 1) := by decide +kernel
theorem dX12_asks_32 : decode cX12_asks 32 = .ok (.aload_n 0, 1) := by decide +kernel
theorem dX12_asks_33 : decode cX12_asks 33 = .ok (.getfield 113, 3) := by decide +kernel
theorem dX12_asks_36 : decode cX12_asks 36 = .ok (.iload_n 2, 1) := by decide +kernel
theorem dX12_asks_37 : decode cX12_asks 37 = .ok (.iaload, 1) := by decide +kernel
theorem dX12_asks_38 : decode cX12_asks 38 = .ok (.if_icmp .le 19, 3) := by decide +kernel
theorem dX12_asks_41 : decode cX12_asks 41 = .ok (.aload_n 0, 1) := by decide +kernel
theorem dX12_asks_42 : decode cX12_asks 42 = .ok (.getfield 125, 3) := by decide +kernel
theorem dX12_asks_45 : decode cX12_asks 45 = .ok (.iload_n 1, 1) := by decide +kernel
theorem dX12_asks_46 : decode cX12_asks 46 = .ok (.iaload, 1) := by decide +kernel
theorem dX12_asks_47 : decode cX12_asks 47 = .ok (.aload_n 0, 1) := by decide +kernel
theorem dX12_asks_48 : decode cX12_asks 48 = .ok (.getfield 113, 3) := by decide +kernel
theorem dX12_asks_51 : decode cX12_asks 51 = .ok (.iload_n 2, 1) := by decide +kernel
theorem dX12_asks_52 : decode cX12_asks 52 = .ok (.iaload, 1) := by decide +kernel
theorem dX12_asks_53 : decode cX12_asks 53 = .ok (.isub, 1) := by decide +kernel
theorem dX12_asks_54 : decode cX12_asks 54 = .ok (.goto 4, 3) := by decide +kernel
theorem dX12_asks_57 : decode cX12_asks 57 = .ok (.iconst 0, 1) := by decide +kernel
theorem dX12_asks_58 : decode cX12_asks 58 = .ok (.iastore, 1) := by decide +kernel
theorem dX12_asks_59 : decode cX12_asks 59 = .ok (.aload_n 0, 1) := by decide +kernel
theorem dX12_asks_60 : decode cX12_asks 60 = .ok (.getfield 143, 3) := by decide +kernel
theorem dX12_asks_63 : decode cX12_asks 63 = .ok (.iconst 1, 1) := by decide +kernel
theorem dX12_asks_64 : decode cX12_asks 64 = .ok (.aload_n 0, 1) := by decide +kernel
theorem dX12_asks_65 : decode cX12_asks 65 = .ok (.getfield 116, 3) := by decide +kernel
theorem dX12_asks_68 : decode cX12_asks 68 = .ok (.iload_n 2, 1) := by decide +kernel
theorem dX12_asks_69 : decode cX12_asks 69 = .ok (.iaload, 1) := by decide +kernel
theorem dX12_asks_70 : decode cX12_asks 70 = .ok (.iastore, 1) := by decide +kernel
theorem dX12_asks_71 : decode cX12_asks 71 = .ok (.aload_n 0, 1) := by decide +kernel
theorem dX12_asks_72 : decode cX12_asks 72 = .ok (.getfield 143, 3) := by decide +kernel
theorem dX12_asks_75 : decode cX12_asks 75 = .ok (.iconst 2, 1) := by decide +kernel
theorem dX12_asks_76 : decode cX12_asks 76 = .ok (.aload_n 0, 1) := by decide +kernel
theorem dX12_asks_77 : decode cX12_asks 77 = .ok (.getfield 110, 3) := by decide +kernel
theorem dX12_asks_80 : decode cX12_asks 80 = .ok (.iload_n 2, 1) := by decide +kernel
theorem dX12_asks_81 : decode cX12_asks 81 = .ok (.iaload, 1) := by decide +kernel
theorem dX12_asks_82 : decode cX12_asks 82 = .ok (.iastore, 1) := by decide +kernel
theorem dX12_asks_83 : decode cX12_asks 83 = .ok (.aload_n 0, 1) := by decide +kernel
theorem dX12_asks_84 : decode cX12_asks 84 = .ok (.getfield 143, 3) := by decide +kernel
theorem dX12_asks_87 : decode cX12_asks 87 = .ok (.iconst 3, 1) := by decide +kernel
theorem dX12_asks_88 : decode cX12_asks 88 = .ok (.aload_n 0, 1) := by decide +kernel
theorem dX12_asks_89 : decode cX12_asks 89 = .ok (.getfield 98, 3) := by decide +kernel
theorem dX12_asks_92 : decode cX12_asks 92 = .ok (.aload_n 0, 1) := by decide +kernel
theorem dX12_asks_93 : decode cX12_asks 93 = .ok (.getfield 110, 3) := by decide +kernel
theorem dX12_asks_96 : decode cX12_asks 96 = .ok (.iload_n 2, 1) := by decide +kernel
theorem dX12_asks_97 : decode cX12_asks 97 = .ok (.iaload, 1) := by decide +kernel
theorem dX12_asks_98 : decode cX12_asks 98 = .ok (.iaload, 1) := by decide +kernel
theorem dX12_asks_99 : decode cX12_asks 99 = .ok (.iastore, 1) := by decide +kernel
theorem dX12_asks_100 : decode cX12_asks 100 = .ok (.return_, 1) := by decide +kernel
theorem dX12_classOf_0 : decode cX12_classOf 0 = .ok (.aload_n 0, 1) := by decide +kernel
theorem dX12_classOf_1 : decode cX12_classOf 1 = .ok (.iload_n 1, 1) := by decide +kernel
theorem dX12_classOf_2 : decode cX12_classOf 2 = .ok (.iload_n 2, 1) := by decide +kernel
theorem dX12_classOf_3 : decode cX12_classOf 3 = .ok (.invokevirtual 353, 3) := by decide +kernel
theorem dX12_classOf_6 : decode cX12_classOf 6 = .ok (.aload_n 0, 1) := by decide +kernel
theorem dX12_classOf_7 : decode cX12_classOf 7 = .ok (.iconst 1, 1) := by decide +kernel
theorem dX12_classOf_8 : decode cX12_classOf 8 = .ok (.invokevirtual 356, 3) := by decide +kernel
theorem dX12_classOf_11 : decode cX12_classOf 11 = .ok (.istore_n 3, 1) := by decide +kernel
theorem dX12_classOf_12 : decode cX12_classOf 12 = .ok (.iload_n 3, 1) := by decide +kernel
theorem dX12_classOf_13 : decode cX12_classOf 13 = .ok (.iconst (-1), 1) := by decide +kernel
theorem dX12_classOf_14 : decode cX12_classOf 14 = .ok (.if_icmp .ne 7, 3) := by decide +kernel
theorem dX12_classOf_17 : decode cX12_classOf 17 = .ok (.iconst (-1), 1) := by decide +kernel
theorem dX12_classOf_18 : decode cX12_classOf 18 = .ok (.goto 17, 3) := by decide +kernel
theorem dX12_classOf_21 : decode cX12_classOf 21 = .ok (.aload_n 0, 1) := by decide +kernel
theorem dX12_classOf_22 : decode cX12_classOf 22 = .ok (.getfield 46, 3) := by decide +kernel
theorem dX12_classOf_25 : decode cX12_classOf 25 = .ok (.bipush 16, 2) := by decide +kernel
theorem dX12_classOf_27 : decode cX12_classOf 27 = .ok (.aload_n 0, 1) := by decide +kernel
theorem dX12_classOf_28 : decode cX12_classOf 28 = .ok (.getfield 266, 3) := by decide +kernel
theorem dX12_classOf_31 : decode cX12_classOf 31 = .ok (.imul, 1) := by decide +kernel
theorem dX12_classOf_32 : decode cX12_classOf 32 = .ok (.iload_n 3, 1) := by decide +kernel
theorem dX12_classOf_33 : decode cX12_classOf 33 = .ok (.iadd, 1) := by decide +kernel
theorem dX12_classOf_34 : decode cX12_classOf 34 = .ok (.iaload, 1) := by decide +kernel
theorem dX12_classOf_35 : decode cX12_classOf 35 = .ok (.ireturn, 1) := by decide +kernel
theorem dX12_barOf_0 : decode cX12_barOf 0 = .ok (.aload_n 0, 1) := by decide +kernel
theorem dX12_barOf_1 : decode cX12_barOf 1 = .ok (.iload_n 2, 1) := by decide +kernel
theorem dX12_barOf_2 : decode cX12_barOf 2 = .ok (.iload_n 3, 1) := by decide +kernel
theorem dX12_barOf_3 : decode cX12_barOf 3 = .ok (.invokevirtual 359, 3) := by decide +kernel
theorem dX12_barOf_6 : decode cX12_barOf 6 = .ok (.istore 5, 2) := by decide +kernel
theorem dX12_barOf_8 : decode cX12_barOf 8 = .ok (.aload_n 0, 1) := by decide +kernel
theorem dX12_barOf_9 : decode cX12_barOf 9 = .ok (.iload_n 2, 1) := by decide +kernel
theorem dX12_barOf_10 : decode cX12_barOf 10 = .ok (.iload_n 3, 1) := by decide +kernel
theorem dX12_barOf_11 : decode cX12_barOf 11 = .ok (.invokevirtual 353, 3) := by decide +kernel
theorem dX12_barOf_14 : decode cX12_barOf 14 = .ok (.aload_n 0, 1) := by decide +kernel
theorem dX12_barOf_15 : decode cX12_barOf 15 = .ok (.iload_n 3, 1) := by decide +kernel
theorem dX12_barOf_16 : decode cX12_barOf 16 = .ok (.aload_n 0, 1) := by decide +kernel
theorem dX12_barOf_17 : decode cX12_barOf 17 = .ok (.getfield 125, 3) := by decide +kernel
theorem dX12_barOf_20 : decode cX12_barOf 20 = .ok (.iload_n 2, 1) := by decide +kernel
theorem dX12_barOf_21 : decode cX12_barOf 21 = .ok (.iaload, 1) := by decide +kernel
theorem dX12_barOf_22 : decode cX12_barOf 22 = .ok (.iload 4, 2) := by decide +kernel
theorem dX12_barOf_24 : decode cX12_barOf 24 = .ok (.invokevirtual 339, 3) := by decide +kernel
theorem dX12_barOf_27 : decode cX12_barOf 27 = .ok (.istore 6, 2) := by decide +kernel
theorem dX12_barOf_29 : decode cX12_barOf 29 = .ok (.aload_n 0, 1) := by decide +kernel
theorem dX12_barOf_30 : decode cX12_barOf 30 = .ok (.getfield 143, 3) := by decide +kernel
theorem dX12_barOf_33 : decode cX12_barOf 33 = .ok (.iconst 4, 1) := by decide +kernel
theorem dX12_barOf_34 : decode cX12_barOf 34 = .ok (.iload 5, 2) := by decide +kernel
theorem dX12_barOf_36 : decode cX12_barOf 36 = .ok (.iastore, 1) := by decide +kernel
theorem dX12_barOf_37 : decode cX12_barOf 37 = .ok (.aload_n 0, 1) := by decide +kernel
theorem dX12_barOf_38 : decode cX12_barOf 38 = .ok (.getfield 143, 3) := by decide +kernel
theorem dX12_barOf_41 : decode cX12_barOf 41 = .ok (.iconst 5, 1) := by decide +kernel
theorem dX12_barOf_42 : decode cX12_barOf 42 = .ok (.iload 6, 2) := by decide +kernel
theorem dX12_barOf_44 : decode cX12_barOf 44 = .ok (.iload_n 1, 1) := by decide +kernel
theorem dX12_barOf_45 : decode cX12_barOf 45 = .ok (.if_icmp .ne 7, 3) := by decide +kernel
theorem dX12_barOf_48 : decode cX12_barOf 48 = .ok (.iconst 1, 1) := by decide +kernel
theorem dX12_barOf_49 : decode cX12_barOf 49 = .ok (.goto 4, 3) := by decide +kernel
theorem dX12_barOf_52 : decode cX12_barOf 52 = .ok (.iconst 0, 1) := by decide +kernel
theorem dX12_barOf_53 : decode cX12_barOf 53 = .ok (.iastore, 1) := by decide +kernel
theorem dX12_barOf_54 : decode cX12_barOf 54 = .ok (.aload_n 0, 1) := by decide +kernel
theorem dX12_barOf_55 : decode cX12_barOf 55 = .ok (.getfield 143, 3) := by decide +kernel
theorem dX12_barOf_58 : decode cX12_barOf 58 = .ok (.bipush 6, 2) := by decide +kernel
theorem dX12_barOf_60 : decode cX12_barOf 60 = .ok (.aload_n 0, 1) := by decide +kernel
theorem dX12_barOf_61 : decode cX12_barOf 61 = .ok (.getfield 92, 3) := by decide +kernel
theorem dX12_barOf_64 : decode cX12_barOf 64 = .ok (.bipush 12, 2) := by decide +kernel
theorem dX12_barOf_66 : decode cX12_barOf 66 = .ok (.iload 6, 2) := by decide +kernel
theorem dX12_barOf_68 : decode cX12_barOf 68 = .ok (.imul, 1) := by decide +kernel
theorem dX12_barOf_69 : decode cX12_barOf 69 = .ok (.iload_n 1, 1) := by decide +kernel
theorem dX12_barOf_70 : decode cX12_barOf 70 = .ok (.iadd, 1) := by decide +kernel
theorem dX12_barOf_71 : decode cX12_barOf 71 = .ok (.baload, 1) := by decide +kernel
theorem dX12_barOf_72 : decode cX12_barOf 72 = .ok (.ifCond .eq 7, 3) := by decide +kernel
theorem dX12_barOf_75 : decode cX12_barOf 75 = .ok (.iconst 1, 1) := by decide +kernel
theorem dX12_barOf_76 : decode cX12_barOf 76 = .ok (.goto 4, 3) := by decide +kernel
theorem dX12_barOf_79 : decode cX12_barOf 79 = .ok (.iconst 0, 1) := by decide +kernel
theorem dX12_barOf_80 : decode cX12_barOf 80 = .ok (.iastore, 1) := by decide +kernel
theorem dX12_barOf_81 : decode cX12_barOf 81 = .ok (.aload_n 0, 1) := by decide +kernel
theorem dX12_barOf_82 : decode cX12_barOf 82 = .ok (.getfield 143, 3) := by decide +kernel
theorem dX12_barOf_85 : decode cX12_barOf 85 = .ok (.bipush 7, 2) := by decide +kernel
theorem dX12_barOf_87 : decode cX12_barOf 87 = .ok (.aload_n 0, 1) := by decide +kernel
theorem dX12_barOf_88 : decode cX12_barOf 88 = .ok (.iload_n 1, 1) := by decide +kernel
theorem dX12_barOf_89 : decode cX12_barOf 89 = .ok (.iload_n 3, 1) := by decide +kernel
theorem dX12_barOf_90 : decode cX12_barOf 90 = .ok (.aload_n 0, 1) := by decide +kernel
theorem dX12_barOf_91 : decode cX12_barOf 91 = .ok (.getfield 125, 3) := by decide +kernel
theorem dX12_barOf_94 : decode cX12_barOf 94 = .ok (.iload_n 2, 1) := by decide +kernel
theorem dX12_barOf_95 : decode cX12_barOf 95 = .ok (.iaload, 1) := by decide +kernel
theorem dX12_barOf_96 : decode cX12_barOf 96 = .ok (.iload 4, 2) := by decide +kernel
theorem dX12_barOf_98 : decode cX12_barOf 98 = .ok (.invokevirtual 342, 3) := by decide +kernel
theorem dX12_barOf_101 : decode cX12_barOf 101 = .ok (.iastore, 1) := by decide +kernel
theorem dX12_barOf_102 : decode cX12_barOf 102 = .ok (.aload_n 0, 1) := by decide +kernel
theorem dX12_barOf_103 : decode cX12_barOf 103 = .ok (.iconst 0, 1) := by decide +kernel
theorem dX12_barOf_104 : decode cX12_barOf 104 = .ok (.invokevirtual 356, 3) := by decide +kernel
theorem dX12_barOf_107 : decode cX12_barOf 107 = .ok (.ireturn, 1) := by decide +kernel
theorem dX12_barred_0 : decode cX12_barred 0 = .ok (.iload_n 1, 1) := by decide +kernel
theorem dX12_barred_1 : decode cX12_barred 1 = .ok (.invokestatic 314, 3) := by decide +kernel
theorem dX12_barred_4 : decode cX12_barred 4 = .ok (.ifCond .eq 40, 3) := by decide +kernel
theorem dX12_barred_7 : decode cX12_barred 7 = .ok (.aload_n 0, 1) := by decide +kernel
theorem dX12_barred_8 : decode cX12_barred 8 = .ok (.iload_n 2, 1) := by decide +kernel
theorem dX12_barred_9 : decode cX12_barred 9 = .ok (.invokevirtual 323, 3) := by decide +kernel
theorem dX12_barred_12 : decode cX12_barred 12 = .ok (.ifCond .eq 32, 3) := by decide +kernel
theorem dX12_barred_15 : decode cX12_barred 15 = .ok (.aload_n 0, 1) := by decide +kernel
theorem dX12_barred_16 : decode cX12_barred 16 = .ok (.iload_n 3, 1) := by decide +kernel
theorem dX12_barred_17 : decode cX12_barred 17 = .ok (.invokevirtual 326, 3) := by decide +kernel
theorem dX12_barred_20 : decode cX12_barred 20 = .ok (.ifCond .eq 24, 3) := by decide +kernel
theorem dX12_barred_23 : decode cX12_barred 23 = .ok (.aload_n 0, 1) := by decide +kernel
theorem dX12_barred_24 : decode cX12_barred 24 = .ok (.iload 4, 2) := by decide +kernel
theorem dX12_barred_26 : decode cX12_barred 26 = .ok (.invokevirtual 336, 3) := by decide +kernel
theorem dX12_barred_29 : decode cX12_barred 29 = .ok (.ifCond .eq 15, 3) := by decide +kernel
theorem dX12_barred_32 : decode cX12_barred 32 = .ok (.aload_n 0, 1) := by decide +kernel
theorem dX12_barred_33 : decode cX12_barred 33 = .ok (.iload_n 1, 1) := by decide +kernel
theorem dX12_barred_34 : decode cX12_barred 34 = .ok (.iload_n 2, 1) := by decide +kernel
theorem dX12_barred_35 : decode cX12_barred 35 = .ok (.iload_n 3, 1) := by decide +kernel
theorem dX12_barred_36 : decode cX12_barred 36 = .ok (.iload 4, 2) := by decide +kernel
theorem dX12_barred_38 : decode cX12_barred 38 = .ok (.invokevirtual 362, 3) := by decide +kernel
theorem dX12_barred_41 : decode cX12_barred 41 = .ok (.goto 4, 3) := by decide +kernel
theorem dX12_barred_44 : decode cX12_barred 44 = .ok (.iconst (-1), 1) := by decide +kernel
theorem dX12_barred_45 : decode cX12_barred 45 = .ok (.ireturn, 1) := by decide +kernel
theorem dX12_classed_0 : decode cX12_classed 0 = .ok (.aload_n 0, 1) := by decide +kernel
theorem dX12_classed_1 : decode cX12_classed 1 = .ok (.iload_n 1, 1) := by decide +kernel
theorem dX12_classed_2 : decode cX12_classed 2 = .ok (.invokevirtual 323, 3) := by decide +kernel
theorem dX12_classed_5 : decode cX12_classed 5 = .ok (.ifCond .eq 20, 3) := by decide +kernel
theorem dX12_classed_8 : decode cX12_classed 8 = .ok (.aload_n 0, 1) := by decide +kernel
theorem dX12_classed_9 : decode cX12_classed 9 = .ok (.iload_n 2, 1) := by decide +kernel
theorem dX12_classed_10 : decode cX12_classed 10 = .ok (.invokevirtual 326, 3) := by decide +kernel
theorem dX12_classed_13 : decode cX12_classed 13 = .ok (.ifCond .eq 12, 3) := by decide +kernel
theorem dX12_classed_16 : decode cX12_classed 16 = .ok (.aload_n 0, 1) := by decide +kernel
theorem dX12_classed_17 : decode cX12_classed 17 = .ok (.iload_n 1, 1) := by decide +kernel
theorem dX12_classed_18 : decode cX12_classed 18 = .ok (.iload_n 2, 1) := by decide +kernel
theorem dX12_classed_19 : decode cX12_classed 19 = .ok (.invokevirtual 359, 3) := by decide +kernel
theorem dX12_classed_22 : decode cX12_classed 22 = .ok (.goto 5, 3) := by decide +kernel
theorem dX12_classed_25 : decode cX12_classed 25 = .ok (.bipush (-2), 2) := by decide +kernel
theorem dX12_classed_27 : decode cX12_classed 27 = .ok (.ireturn, 1) := by decide +kernel
theorem dX12_enter_0 : decode cX12_enter 0 = .ok (.aload_n 0, 1) := by decide +kernel
theorem dX12_enter_1 : decode cX12_enter 1 = .ok (.iload_n 1, 1) := by decide +kernel
theorem dX12_enter_2 : decode cX12_enter 2 = .ok (.invokevirtual 323, 3) := by decide +kernel
theorem dX12_enter_5 : decode cX12_enter 5 = .ok (.ifCond .eq 25, 3) := by decide +kernel
theorem dX12_enter_8 : decode cX12_enter 8 = .ok (.aload_n 0, 1) := by decide +kernel
theorem dX12_enter_9 : decode cX12_enter 9 = .ok (.iload_n 2, 1) := by decide +kernel
theorem dX12_enter_10 : decode cX12_enter 10 = .ok (.invokevirtual 326, 3) := by decide +kernel
theorem dX12_enter_13 : decode cX12_enter 13 = .ok (.ifCond .eq 17, 3) := by decide +kernel
theorem dX12_enter_16 : decode cX12_enter 16 = .ok (.aload_n 0, 1) := by decide +kernel
theorem dX12_enter_17 : decode cX12_enter 17 = .ok (.getfield 128, 3) := by decide +kernel
theorem dX12_enter_20 : decode cX12_enter 20 = .ok (.bipush 20, 2) := by decide +kernel
theorem dX12_enter_22 : decode cX12_enter 22 = .ok (.iload_n 1, 1) := by decide +kernel
theorem dX12_enter_23 : decode cX12_enter 23 = .ok (.imul, 1) := by decide +kernel
theorem dX12_enter_24 : decode cX12_enter 24 = .ok (.iload_n 2, 1) := by decide +kernel
theorem dX12_enter_25 : decode cX12_enter 25 = .ok (.iadd, 1) := by decide +kernel
theorem dX12_enter_26 : decode cX12_enter 26 = .ok (.baload, 1) := by decide +kernel
theorem dX12_enter_27 : decode cX12_enter 27 = .ok (.ifCond .eq 5, 3) := by decide +kernel
theorem dX12_enter_30 : decode cX12_enter 30 = .ok (.iconst (-1), 1) := by decide +kernel
theorem dX12_enter_31 : decode cX12_enter 31 = .ok (.ireturn, 1) := by decide +kernel
theorem dX12_enter_32 : decode cX12_enter 32 = .ok (.aload_n 0, 1) := by decide +kernel
theorem dX12_enter_33 : decode cX12_enter 33 = .ok (.iload_n 1, 1) := by decide +kernel
theorem dX12_enter_34 : decode cX12_enter 34 = .ok (.iload_n 2, 1) := by decide +kernel
theorem dX12_enter_35 : decode cX12_enter 35 = .ok (.invokevirtual 359, 3) := by decide +kernel
theorem dX12_enter_38 : decode cX12_enter 38 = .ok (.istore_n 3, 1) := by decide +kernel
theorem dX12_enter_39 : decode cX12_enter 39 = .ok (.iload_n 3, 1) := by decide +kernel
theorem dX12_enter_40 : decode cX12_enter 40 = .ok (.iconst (-1), 1) := by decide +kernel
theorem dX12_enter_41 : decode cX12_enter 41 = .ok (.if_icmp .ne 6, 3) := by decide +kernel
theorem dX12_enter_44 : decode cX12_enter 44 = .ok (.bipush (-2), 2) := by decide +kernel
theorem dX12_enter_46 : decode cX12_enter 46 = .ok (.ireturn, 1) := by decide +kernel
theorem dX12_enter_47 : decode cX12_enter 47 = .ok (.aload_n 0, 1) := by decide +kernel
theorem dX12_enter_48 : decode cX12_enter 48 = .ok (.getfield 152, 3) := by decide +kernel
theorem dX12_enter_51 : decode cX12_enter 51 = .ok (.bipush 6, 2) := by decide +kernel
theorem dX12_enter_53 : decode cX12_enter 53 = .ok (.iload_n 1, 1) := by decide +kernel
theorem dX12_enter_54 : decode cX12_enter 54 = .ok (.imul, 1) := by decide +kernel
theorem dX12_enter_55 : decode cX12_enter 55 = .ok (.aload_n 0, 1) := by decide +kernel
theorem dX12_enter_56 : decode cX12_enter 56 = .ok (.getfield 110, 3) := by decide +kernel
theorem dX12_enter_59 : decode cX12_enter 59 = .ok (.iload_n 2, 1) := by decide +kernel
theorem dX12_enter_60 : decode cX12_enter 60 = .ok (.iaload, 1) := by decide +kernel
theorem dX12_enter_61 : decode cX12_enter 61 = .ok (.iadd, 1) := by decide +kernel
theorem dX12_enter_62 : decode cX12_enter 62 = .ok (.iaload, 1) := by decide +kernel
theorem dX12_enter_63 : decode cX12_enter 63 = .ok (.iconst (-1), 1) := by decide +kernel
theorem dX12_enter_64 : decode cX12_enter 64 = .ok (.if_icmp .eq 6, 3) := by decide +kernel
theorem dX12_enter_67 : decode cX12_enter 67 = .ok (.bipush (-3), 2) := by decide +kernel
theorem dX12_enter_69 : decode cX12_enter 69 = .ok (.ireturn, 1) := by decide +kernel
theorem dX12_enter_70 : decode cX12_enter 70 = .ok (.aload_n 0, 1) := by decide +kernel
theorem dX12_enter_71 : decode cX12_enter 71 = .ok (.getfield 128, 3) := by decide +kernel
theorem dX12_enter_74 : decode cX12_enter 74 = .ok (.bipush 20, 2) := by decide +kernel
theorem dX12_enter_76 : decode cX12_enter 76 = .ok (.iload_n 1, 1) := by decide +kernel
theorem dX12_enter_77 : decode cX12_enter 77 = .ok (.imul, 1) := by decide +kernel
theorem dX12_enter_78 : decode cX12_enter 78 = .ok (.iload_n 2, 1) := by decide +kernel
theorem dX12_enter_79 : decode cX12_enter 79 = .ok (.iadd, 1) := by decide +kernel
theorem dX12_enter_80 : decode cX12_enter 80 = .ok (.iconst 1, 1) := by decide +kernel
theorem dX12_enter_81 : decode cX12_enter 81 = .ok (.bastore, 1) := by decide +kernel
theorem dX12_enter_82 : decode cX12_enter 82 = .ok (.iload_n 3, 1) := by decide +kernel
theorem dX12_enter_83 : decode cX12_enter 83 = .ok (.ireturn, 1) := by decide +kernel
theorem dX12_handlersOf_0 : decode cX12_handlersOf 0 = .ok (.iconst 0, 1) := by decide +kernel
theorem dX12_handlersOf_1 : decode cX12_handlersOf 1 = .ok (.istore_n 3, 1) := by decide +kernel
theorem dX12_handlersOf_2 : decode cX12_handlersOf 2 = .ok (.iconst 0, 1) := by decide +kernel
theorem dX12_handlersOf_3 : decode cX12_handlersOf 3 = .ok (.istore 4, 2) := by decide +kernel
theorem dX12_handlersOf_5 : decode cX12_handlersOf 5 = .ok (.iload 4, 2) := by decide +kernel
theorem dX12_handlersOf_7 : decode cX12_handlersOf 7 = .ok (.aload_n 0, 1) := by decide +kernel
theorem dX12_handlersOf_8 : decode cX12_handlersOf 8 = .ok (.getfield 305, 3) := by decide +kernel
theorem dX12_handlersOf_11 : decode cX12_handlersOf 11 = .ok (.if_icmp .ge 47, 3) := by decide +kernel
theorem dX12_handlersOf_14 : decode cX12_handlersOf 14 = .ok (.aload_n 0, 1) := by decide +kernel
theorem dX12_handlersOf_15 : decode cX12_handlersOf 15 = .ok (.getfield 128, 3) := by decide +kernel
theorem dX12_handlersOf_18 : decode cX12_handlersOf 18 = .ok (.bipush 20, 2) := by decide +kernel
theorem dX12_handlersOf_20 : decode cX12_handlersOf 20 = .ok (.iload_n 1, 1) := by decide +kernel
theorem dX12_handlersOf_21 : decode cX12_handlersOf 21 = .ok (.imul, 1) := by decide +kernel
theorem dX12_handlersOf_22 : decode cX12_handlersOf 22 = .ok (.iload 4, 2) := by decide +kernel
theorem dX12_handlersOf_24 : decode cX12_handlersOf 24 = .ok (.iadd, 1) := by decide +kernel
theorem dX12_handlersOf_25 : decode cX12_handlersOf 25 = .ok (.baload, 1) := by decide +kernel
theorem dX12_handlersOf_26 : decode cX12_handlersOf 26 = .ok (.ifCond .eq 26, 3) := by decide +kernel
theorem dX12_handlersOf_29 : decode cX12_handlersOf 29 = .ok (.aload_n 0, 1) := by decide +kernel
theorem dX12_handlersOf_30 : decode cX12_handlersOf 30 = .ok (.getfield 110, 3) := by decide +kernel
theorem dX12_handlersOf_33 : decode cX12_handlersOf 33 = .ok (.iload 4, 2) := by decide +kernel
theorem dX12_handlersOf_35 : decode cX12_handlersOf 35 = .ok (.iaload, 1) := by decide +kernel
theorem dX12_handlersOf_36 : decode cX12_handlersOf 36 = .ok (.iload_n 2, 1) := by decide +kernel
theorem dX12_handlersOf_37 : decode cX12_handlersOf 37 = .ok (.if_icmp .ne 15, 3) := by decide +kernel
theorem dX12_handlersOf_40 : decode cX12_handlersOf 40 = .ok (.iload_n 3, 1) := by decide +kernel
theorem dX12_handlersOf_41 : decode cX12_handlersOf 41 = .ok (.iconst 1, 1) := by decide +kernel
theorem dX12_handlersOf_42 : decode cX12_handlersOf 42 = .ok (.aload_n 0, 1) := by decide +kernel
theorem dX12_handlersOf_43 : decode cX12_handlersOf 43 = .ok (.getfield 122, 3) := by decide +kernel
theorem dX12_handlersOf_46 : decode cX12_handlersOf 46 = .ok (.iload 4, 2) := by decide +kernel
theorem dX12_handlersOf_48 : decode cX12_handlersOf 48 = .ok (.iaload, 1) := by decide +kernel
theorem dX12_handlersOf_49 : decode cX12_handlersOf 49 = .ok (.ishl, 1) := by decide +kernel
theorem dX12_handlersOf_50 : decode cX12_handlersOf 50 = .ok (.ior, 1) := by decide +kernel
theorem dX12_handlersOf_51 : decode cX12_handlersOf 51 = .ok (.istore_n 3, 1) := by decide +kernel
theorem dX12_handlersOf_52 : decode cX12_handlersOf 52 = .ok (.iinc 4 1, 3) := by decide +kernel
theorem dX12_handlersOf_55 : decode cX12_handlersOf 55 = .ok (.goto (-50), 3) := by decide +kernel
theorem dX12_handlersOf_58 : decode cX12_handlersOf 58 = .ok (.iload_n 3, 1) := by decide +kernel
theorem dX12_handlersOf_59 : decode cX12_handlersOf 59 = .ok (.ireturn, 1) := by decide +kernel
theorem dX12_gathers_0 : decode cX12_gathers 0 = .ok (.iconst 0, 1) := by decide +kernel
theorem dX12_gathers_1 : decode cX12_gathers 1 = .ok (.istore_n 3, 1) := by decide +kernel
theorem dX12_gathers_2 : decode cX12_gathers 2 = .ok (.iload_n 3, 1) := by decide +kernel
theorem dX12_gathers_3 : decode cX12_gathers 3 = .ok (.aload_n 0, 1) := by decide +kernel
theorem dX12_gathers_4 : decode cX12_gathers 4 = .ok (.getfield 302, 3) := by decide +kernel
theorem dX12_gathers_7 : decode cX12_gathers 7 = .ok (.if_icmp .ge 201, 3) := by decide +kernel
theorem dX12_gathers_10 : decode cX12_gathers 10 = .ok (.aload_n 0, 1) := by decide +kernel
theorem dX12_gathers_11 : decode cX12_gathers 11 = .ok (.getfield 161, 3) := by decide +kernel
theorem dX12_gathers_14 : decode cX12_gathers 14 = .ok (.iload_n 3, 1) := by decide +kernel
theorem dX12_gathers_15 : decode cX12_gathers 15 = .ok (.iconst 0, 1) := by decide +kernel
theorem dX12_gathers_16 : decode cX12_gathers 16 = .ok (.iastore, 1) := by decide +kernel
theorem dX12_gathers_17 : decode cX12_gathers 17 = .ok (.aload_n 0, 1) := by decide +kernel
theorem dX12_gathers_18 : decode cX12_gathers 18 = .ok (.getfield 164, 3) := by decide +kernel
theorem dX12_gathers_21 : decode cX12_gathers 21 = .ok (.iload_n 3, 1) := by decide +kernel
theorem dX12_gathers_22 : decode cX12_gathers 22 = .ok (.iconst 0, 1) := by decide +kernel
theorem dX12_gathers_23 : decode cX12_gathers 23 = .ok (.iastore, 1) := by decide +kernel
theorem dX12_gathers_24 : decode cX12_gathers 24 = .ok (.aload_n 0, 1) := by decide +kernel
theorem dX12_gathers_25 : decode cX12_gathers 25 = .ok (.getfield 167, 3) := by decide +kernel
theorem dX12_gathers_28 : decode cX12_gathers 28 = .ok (.iload_n 3, 1) := by decide +kernel
theorem dX12_gathers_29 : decode cX12_gathers 29 = .ok (.aload_n 0, 1) := by decide +kernel
theorem dX12_gathers_30 : decode cX12_gathers 30 = .ok (.iload_n 1, 1) := by decide +kernel
theorem dX12_gathers_31 : decode cX12_gathers 31 = .ok (.iload_n 3, 1) := by decide +kernel
theorem dX12_gathers_32 : decode cX12_gathers 32 = .ok (.invokevirtual 365, 3) := by decide +kernel
theorem dX12_gathers_35 : decode cX12_gathers 35 = .ok (.iastore, 1) := by decide +kernel
theorem dX12_gathers_36 : decode cX12_gathers 36 = .ok (.iconst 0, 1) := by decide +kernel
theorem dX12_gathers_37 : decode cX12_gathers 37 = .ok (.istore 4, 2) := by decide +kernel
theorem dX12_gathers_39 : decode cX12_gathers 39 = .ok (.iload 4, 2) := by decide +kernel
theorem dX12_gathers_41 : decode cX12_gathers 41 = .ok (.bipush 12, 2) := by decide +kernel
theorem dX12_gathers_43 : decode cX12_gathers 43 = .ok (.if_icmp .ge 37, 3) := by decide +kernel
theorem dX12_gathers_46 : decode cX12_gathers 46 = .ok (.aload_n 0, 1) := by decide +kernel
theorem dX12_gathers_47 : decode cX12_gathers 47 = .ok (.getfield 95, 3) := by decide +kernel
theorem dX12_gathers_50 : decode cX12_gathers 50 = .ok (.iload 4, 2) := by decide +kernel
theorem dX12_gathers_52 : decode cX12_gathers 52 = .ok (.iaload, 1) := by decide +kernel
theorem dX12_gathers_53 : decode cX12_gathers 53 = .ok (.iload_n 3, 1) := by decide +kernel
theorem dX12_gathers_54 : decode cX12_gathers 54 = .ok (.ishr, 1) := by decide +kernel
theorem dX12_gathers_55 : decode cX12_gathers 55 = .ok (.iconst 1, 1) := by decide +kernel
theorem dX12_gathers_56 : decode cX12_gathers 56 = .ok (.iand, 1) := by decide +kernel
theorem dX12_gathers_57 : decode cX12_gathers 57 = .ok (.iconst 1, 1) := by decide +kernel
theorem dX12_gathers_58 : decode cX12_gathers 58 = .ok (.if_icmp .ne 16, 3) := by decide +kernel
theorem dX12_gathers_61 : decode cX12_gathers 61 = .ok (.aload_n 0, 1) := by decide +kernel
theorem dX12_gathers_62 : decode cX12_gathers 62 = .ok (.getfield 164, 3) := by decide +kernel
theorem dX12_gathers_65 : decode cX12_gathers 65 = .ok (.iload_n 3, 1) := by decide +kernel
theorem dX12_gathers_66 : decode cX12_gathers 66 = .ok (.dup2, 1) := by decide +kernel
theorem dX12_gathers_67 : decode cX12_gathers 67 = .ok (.iaload, 1) := by decide +kernel
theorem dX12_gathers_68 : decode cX12_gathers 68 = .ok (.iconst 1, 1) := by decide +kernel
theorem dX12_gathers_69 : decode cX12_gathers 69 = .ok (.iload 4, 2) := by decide +kernel
theorem dX12_gathers_71 : decode cX12_gathers 71 = .ok (.ishl, 1) := by decide +kernel
theorem dX12_gathers_72 : decode cX12_gathers 72 = .ok (.ior, 1) := by decide +kernel
theorem dX12_gathers_73 : decode cX12_gathers 73 = .ok (.iastore, 1) := by decide +kernel
theorem dX12_gathers_74 : decode cX12_gathers 74 = .ok (.iinc 4 1, 3) := by decide +kernel
theorem dX12_gathers_77 : decode cX12_gathers 77 = .ok (.goto (-38), 3) := by decide +kernel
theorem dX12_gathers_80 : decode cX12_gathers 80 = .ok (.iconst 0, 1) := by decide +kernel
theorem dX12_gathers_81 : decode cX12_gathers 81 = .ok (.istore 4, 2) := by decide +kernel
theorem dX12_gathers_83 : decode cX12_gathers 83 = .ok (.iload 4, 2) := by decide +kernel
theorem dX12_gathers_85 : decode cX12_gathers 85 = .ok (.aload_n 0, 1) := by decide +kernel
theorem dX12_gathers_86 : decode cX12_gathers 86 = .ok (.getfield 305, 3) := by decide +kernel
theorem dX12_gathers_89 : decode cX12_gathers 89 = .ok (.if_icmp .ge 113, 3) := by decide +kernel
theorem dX12_gathers_92 : decode cX12_gathers 92 = .ok (.aload_n 0, 1) := by decide +kernel
theorem dX12_gathers_93 : decode cX12_gathers 93 = .ok (.getfield 128, 3) := by decide +kernel
theorem dX12_gathers_96 : decode cX12_gathers 96 = .ok (.bipush 20, 2) := by decide +kernel
theorem dX12_gathers_98 : decode cX12_gathers 98 = .ok (.iload_n 1, 1) := by decide +kernel
theorem dX12_gathers_99 : decode cX12_gathers 99 = .ok (.imul, 1) := by decide +kernel
theorem dX12_gathers_100 : decode cX12_gathers 100 = .ok (.iload 4, 2) := by decide +kernel
theorem dX12_gathers_102 : decode cX12_gathers 102 = .ok (.iadd, 1) := by decide +kernel
theorem dX12_gathers_103 : decode cX12_gathers 103 = .ok (.baload, 1) := by decide +kernel
theorem dX12_gathers_104 : decode cX12_gathers 104 = .ok (.ifCond .eq 92, 3) := by decide +kernel
theorem dX12_gathers_107 : decode cX12_gathers 107 = .ok (.aload_n 0, 1) := by decide +kernel
theorem dX12_gathers_108 : decode cX12_gathers 108 = .ok (.getfield 110, 3) := by decide +kernel
theorem dX12_gathers_111 : decode cX12_gathers 111 = .ok (.iload 4, 2) := by decide +kernel
theorem dX12_gathers_113 : decode cX12_gathers 113 = .ok (.iaload, 1) := by decide +kernel
theorem dX12_gathers_114 : decode cX12_gathers 114 = .ok (.iload_n 3, 1) := by decide +kernel
theorem dX12_gathers_115 : decode cX12_gathers 115 = .ok (.if_icmp .eq 6, 3) := by decide +kernel
theorem dX12_gathers_118 : decode cX12_gathers 118 = .ok (.goto 78, 3) := by decide +kernel
theorem dX12_gathers_121 : decode cX12_gathers 121 = .ok (.aload_n 0, 1) := by decide +kernel
theorem dX12_gathers_122 : decode cX12_gathers 122 = .ok (.getfield 161, 3) := by decide +kernel
theorem dX12_gathers_125 : decode cX12_gathers 125 = .ok (.iload_n 3, 1) := by decide +kernel
theorem dX12_gathers_126 : decode cX12_gathers 126 = .ok (.dup2, 1) := by decide +kernel
theorem dX12_gathers_127 : decode cX12_gathers 127 = .ok (.iaload, 1) := by decide +kernel
theorem dX12_gathers_128 : decode cX12_gathers 128 = .ok (.aload_n 0, 1) := by decide +kernel
theorem dX12_gathers_129 : decode cX12_gathers 129 = .ok (.getfield 101, 3) := by decide +kernel
theorem dX12_gathers_132 : decode cX12_gathers 132 = .ok (.iload_n 3, 1) := by decide +kernel
theorem dX12_gathers_133 : decode cX12_gathers 133 = .ok (.iaload, 1) := by decide +kernel
theorem dX12_gathers_134 : decode cX12_gathers 134 = .ok (.iadd, 1) := by decide +kernel
theorem dX12_gathers_135 : decode cX12_gathers 135 = .ok (.iastore, 1) := by decide +kernel
theorem dX12_gathers_136 : decode cX12_gathers 136 = .ok (.iconst 0, 1) := by decide +kernel
theorem dX12_gathers_137 : decode cX12_gathers 137 = .ok (.istore 5, 2) := by decide +kernel
theorem dX12_gathers_139 : decode cX12_gathers 139 = .ok (.iload 5, 2) := by decide +kernel
theorem dX12_gathers_141 : decode cX12_gathers 141 = .ok (.bipush 12, 2) := by decide +kernel
theorem dX12_gathers_143 : decode cX12_gathers 143 = .ok (.if_icmp .ge 53, 3) := by decide +kernel
theorem dX12_gathers_146 : decode cX12_gathers 146 = .ok (.aload_n 0, 1) := by decide +kernel
theorem dX12_gathers_147 : decode cX12_gathers 147 = .ok (.getfield 164, 3) := by decide +kernel
theorem dX12_gathers_150 : decode cX12_gathers 150 = .ok (.iload_n 3, 1) := by decide +kernel
theorem dX12_gathers_151 : decode cX12_gathers 151 = .ok (.iaload, 1) := by decide +kernel
theorem dX12_gathers_152 : decode cX12_gathers 152 = .ok (.iload 5, 2) := by decide +kernel
theorem dX12_gathers_154 : decode cX12_gathers 154 = .ok (.ishr, 1) := by decide +kernel
theorem dX12_gathers_155 : decode cX12_gathers 155 = .ok (.iconst 1, 1) := by decide +kernel
theorem dX12_gathers_156 : decode cX12_gathers 156 = .ok (.iand, 1) := by decide +kernel
theorem dX12_gathers_157 : decode cX12_gathers 157 = .ok (.iconst 1, 1) := by decide +kernel
theorem dX12_gathers_158 : decode cX12_gathers 158 = .ok (.if_icmp .ne 32, 3) := by decide +kernel
theorem dX12_gathers_161 : decode cX12_gathers 161 = .ok (.aload_n 0, 1) := by decide +kernel
theorem dX12_gathers_162 : decode cX12_gathers 162 = .ok (.iload 5, 2) := by decide +kernel
theorem dX12_gathers_164 : decode cX12_gathers 164 = .ok (.iload_n 1, 1) := by decide +kernel
theorem dX12_gathers_165 : decode cX12_gathers 165 = .ok (.iload 4, 2) := by decide +kernel
theorem dX12_gathers_167 : decode cX12_gathers 167 = .ok (.iload_n 2, 1) := by decide +kernel
theorem dX12_gathers_168 : decode cX12_gathers 168 = .ok (.invokevirtual 362, 3) := by decide +kernel
theorem dX12_gathers_171 : decode cX12_gathers 171 = .ok (.iconst (-1), 1) := by decide +kernel
theorem dX12_gathers_172 : decode cX12_gathers 172 = .ok (.if_icmp .eq 18, 3) := by decide +kernel
theorem dX12_gathers_175 : decode cX12_gathers 175 = .ok (.aload_n 0, 1) := by decide +kernel
theorem dX12_gathers_176 : decode cX12_gathers 176 = .ok (.getfield 164, 3) := by decide +kernel
theorem dX12_gathers_179 : decode cX12_gathers 179 = .ok (.iload_n 3, 1) := by decide +kernel
theorem dX12_gathers_180 : decode cX12_gathers 180 = .ok (.dup2, 1) := by decide +kernel
theorem dX12_gathers_181 : decode cX12_gathers 181 = .ok (.iaload, 1) := by decide +kernel
theorem dX12_gathers_182 : decode cX12_gathers 182 = .ok (.iconst 1, 1) := by decide +kernel
theorem dX12_gathers_183 : decode cX12_gathers 183 = .ok (.iload 5, 2) := by decide +kernel
theorem dX12_gathers_185 : decode cX12_gathers 185 = .ok (.ishl, 1) := by decide +kernel
theorem dX12_gathers_186 : decode cX12_gathers 186 = .ok (.iconst (-1), 1) := by decide +kernel
theorem dX12_gathers_187 : decode cX12_gathers 187 = .ok (.ixor, 1) := by decide +kernel
theorem dX12_gathers_188 : decode cX12_gathers 188 = .ok (.iand, 1) := by decide +kernel
theorem dX12_gathers_189 : decode cX12_gathers 189 = .ok (.iastore, 1) := by decide +kernel
theorem dX12_gathers_190 : decode cX12_gathers 190 = .ok (.iinc 5 1, 3) := by decide +kernel
theorem dX12_gathers_193 : decode cX12_gathers 193 = .ok (.goto (-54), 3) := by decide +kernel
theorem dX12_gathers_196 : decode cX12_gathers 196 = .ok (.iinc 4 1, 3) := by decide +kernel
theorem dX12_gathers_199 : decode cX12_gathers 199 = .ok (.goto (-116), 3) := by decide +kernel
theorem dX12_gathers_202 : decode cX12_gathers 202 = .ok (.iinc 3 1, 3) := by decide +kernel
theorem dX12_gathers_205 : decode cX12_gathers 205 = .ok (.goto (-203), 3) := by decide +kernel
theorem dX12_gathers_208 : decode cX12_gathers 208 = .ok (.return_, 1) := by decide +kernel
theorem dX12_places_0 : decode cX12_places 0 = .ok (.aload_n 0, 1) := by decide +kernel
theorem dX12_places_1 : decode cX12_places 1 = .ok (.getfield 170, 3) := by decide +kernel
theorem dX12_places_4 : decode cX12_places 4 = .ok (.iload_n 1, 1) := by decide +kernel
theorem dX12_places_5 : decode cX12_places 5 = .ok (.iaload, 1) := by decide +kernel
theorem dX12_places_6 : decode cX12_places 6 = .ok (.istore_n 2, 1) := by decide +kernel
theorem dX12_places_7 : decode cX12_places 7 = .ok (.iconst 0, 1) := by decide +kernel
theorem dX12_places_8 : decode cX12_places 8 = .ok (.istore_n 3, 1) := by decide +kernel
theorem dX12_places_9 : decode cX12_places 9 = .ok (.aload_n 0, 1) := by decide +kernel
theorem dX12_places_10 : decode cX12_places 10 = .ok (.getfield 164, 3) := by decide +kernel
theorem dX12_places_13 : decode cX12_places 13 = .ok (.iload_n 2, 1) := by decide +kernel
theorem dX12_places_14 : decode cX12_places 14 = .ok (.iaload, 1) := by decide +kernel
theorem dX12_places_15 : decode cX12_places 15 = .ok (.istore 4, 2) := by decide +kernel
theorem dX12_places_17 : decode cX12_places 17 = .ok (.iconst 1, 1) := by decide +kernel
theorem dX12_places_18 : decode cX12_places 18 = .ok (.aload_n 0, 1) := by decide +kernel
theorem dX12_places_19 : decode cX12_places 19 = .ok (.getfield 195, 3) := by decide +kernel
theorem dX12_places_22 : decode cX12_places 22 = .ok (.ishl, 1) := by decide +kernel
theorem dX12_places_23 : decode cX12_places 23 = .ok (.iconst 1, 1) := by decide +kernel
theorem dX12_places_24 : decode cX12_places 24 = .ok (.isub, 1) := by decide +kernel
theorem dX12_places_25 : decode cX12_places 25 = .ok (.istore 5, 2) := by decide +kernel
theorem dX12_places_27 : decode cX12_places 27 = .ok (.iconst 0, 1) := by decide +kernel
theorem dX12_places_28 : decode cX12_places 28 = .ok (.istore 6, 2) := by decide +kernel
theorem dX12_places_30 : decode cX12_places 30 = .ok (.iconst 0, 1) := by decide +kernel
theorem dX12_places_31 : decode cX12_places 31 = .ok (.istore 7, 2) := by decide +kernel
theorem dX12_places_33 : decode cX12_places 33 = .ok (.iload 7, 2) := by decide +kernel
theorem dX12_places_35 : decode cX12_places 35 = .ok (.iload_n 1, 1) := by decide +kernel
theorem dX12_places_36 : decode cX12_places 36 = .ok (.if_icmp .ge 119, 3) := by decide +kernel
theorem dX12_places_39 : decode cX12_places 39 = .ok (.aload_n 0, 1) := by decide +kernel
theorem dX12_places_40 : decode cX12_places 40 = .ok (.getfield 170, 3) := by decide +kernel
theorem dX12_places_43 : decode cX12_places 43 = .ok (.iload 7, 2) := by decide +kernel
theorem dX12_places_45 : decode cX12_places 45 = .ok (.iaload, 1) := by decide +kernel
theorem dX12_places_46 : decode cX12_places 46 = .ok (.istore 8, 2) := by decide +kernel
theorem dX12_places_48 : decode cX12_places 48 = .ok (.aload_n 0, 1) := by decide +kernel
theorem dX12_places_49 : decode cX12_places 49 = .ok (.getfield 179, 3) := by decide +kernel
theorem dX12_places_52 : decode cX12_places 52 = .ok (.iload 8, 2) := by decide +kernel
theorem dX12_places_54 : decode cX12_places 54 = .ok (.iaload, 1) := by decide +kernel
theorem dX12_places_55 : decode cX12_places 55 = .ok (.iload_n 3, 1) := by decide +kernel
theorem dX12_places_56 : decode cX12_places 56 = .ok (.aload_n 0, 1) := by decide +kernel
theorem dX12_places_57 : decode cX12_places 57 = .ok (.getfield 161, 3) := by decide +kernel
theorem dX12_places_60 : decode cX12_places 60 = .ok (.iload_n 2, 1) := by decide +kernel
theorem dX12_places_61 : decode cX12_places 61 = .ok (.iaload, 1) := by decide +kernel
theorem dX12_places_62 : decode cX12_places 62 = .ok (.iadd, 1) := by decide +kernel
theorem dX12_places_63 : decode cX12_places 63 = .ok (.if_icmp .ge 86, 3) := by decide +kernel
theorem dX12_places_66 : decode cX12_places 66 = .ok (.iload_n 3, 1) := by decide +kernel
theorem dX12_places_67 : decode cX12_places 67 = .ok (.aload_n 0, 1) := by decide +kernel
theorem dX12_places_68 : decode cX12_places 68 = .ok (.getfield 179, 3) := by decide +kernel
theorem dX12_places_71 : decode cX12_places 71 = .ok (.iload 8, 2) := by decide +kernel
theorem dX12_places_73 : decode cX12_places 73 = .ok (.iaload, 1) := by decide +kernel
theorem dX12_places_74 : decode cX12_places 74 = .ok (.aload_n 0, 1) := by decide +kernel
theorem dX12_places_75 : decode cX12_places 75 = .ok (.getfield 161, 3) := by decide +kernel
theorem dX12_places_78 : decode cX12_places 78 = .ok (.iload 8, 2) := by decide +kernel
theorem dX12_places_80 : decode cX12_places 80 = .ok (.iaload, 1) := by decide +kernel
theorem dX12_places_81 : decode cX12_places 81 = .ok (.iadd, 1) := by decide +kernel
theorem dX12_places_82 : decode cX12_places 82 = .ok (.if_icmp .lt 6, 3) := by decide +kernel
theorem dX12_places_85 : decode cX12_places 85 = .ok (.goto 64, 3) := by decide +kernel
theorem dX12_places_88 : decode cX12_places 88 = .ok (.iload 5, 2) := by decide +kernel
theorem dX12_places_90 : decode cX12_places 90 = .ok (.iconst 1, 1) := by decide +kernel
theorem dX12_places_91 : decode cX12_places 91 = .ok (.aload_n 0, 1) := by decide +kernel
theorem dX12_places_92 : decode cX12_places 92 = .ok (.getfield 173, 3) := by decide +kernel
theorem dX12_places_95 : decode cX12_places 95 = .ok (.iload 8, 2) := by decide +kernel
theorem dX12_places_97 : decode cX12_places 97 = .ok (.iaload, 1) := by decide +kernel
theorem dX12_places_98 : decode cX12_places 98 = .ok (.ishl, 1) := by decide +kernel
theorem dX12_places_99 : decode cX12_places 99 = .ok (.iconst (-1), 1) := by decide +kernel
theorem dX12_places_100 : decode cX12_places 100 = .ok (.ixor, 1) := by decide +kernel
theorem dX12_places_101 : decode cX12_places 101 = .ok (.iand, 1) := by decide +kernel
theorem dX12_places_102 : decode cX12_places 102 = .ok (.istore 5, 2) := by decide +kernel
theorem dX12_places_104 : decode cX12_places 104 = .ok (.iload 4, 2) := by decide +kernel
theorem dX12_places_106 : decode cX12_places 106 = .ok (.iconst 1, 1) := by decide +kernel
theorem dX12_places_107 : decode cX12_places 107 = .ok (.aload_n 0, 1) := by decide +kernel
theorem dX12_places_108 : decode cX12_places 108 = .ok (.getfield 176, 3) := by decide +kernel
theorem dX12_places_111 : decode cX12_places 111 = .ok (.iload 8, 2) := by decide +kernel
theorem dX12_places_113 : decode cX12_places 113 = .ok (.iaload, 1) := by decide +kernel
theorem dX12_places_114 : decode cX12_places 114 = .ok (.ishl, 1) := by decide +kernel
theorem dX12_places_115 : decode cX12_places 115 = .ok (.iconst (-1), 1) := by decide +kernel
theorem dX12_places_116 : decode cX12_places 116 = .ok (.ixor, 1) := by decide +kernel
theorem dX12_places_117 : decode cX12_places 117 = .ok (.iand, 1) := by decide +kernel
theorem dX12_places_118 : decode cX12_places 118 = .ok (.istore 4, 2) := by decide +kernel
theorem dX12_places_120 : decode cX12_places 120 = .ok (.iload 6, 2) := by decide +kernel
theorem dX12_places_122 : decode cX12_places 122 = .ok (.ifCond .ne 20, 3) := by decide +kernel
theorem dX12_places_125 : decode cX12_places 125 = .ok (.aload_n 0, 1) := by decide +kernel
theorem dX12_places_126 : decode cX12_places 126 = .ok (.getfield 167, 3) := by decide +kernel
theorem dX12_places_129 : decode cX12_places 129 = .ok (.iload 8, 2) := by decide +kernel
theorem dX12_places_131 : decode cX12_places 131 = .ok (.iaload, 1) := by decide +kernel
theorem dX12_places_132 : decode cX12_places 132 = .ok (.aload_n 0, 1) := by decide +kernel
theorem dX12_places_133 : decode cX12_places 133 = .ok (.getfield 167, 3) := by decide +kernel
theorem dX12_places_136 : decode cX12_places 136 = .ok (.iload_n 2, 1) := by decide +kernel
theorem dX12_places_137 : decode cX12_places 137 = .ok (.iaload, 1) := by decide +kernel
theorem dX12_places_138 : decode cX12_places 138 = .ok (.iand, 1) := by decide +kernel
theorem dX12_places_139 : decode cX12_places 139 = .ok (.ifCond .eq 7, 3) := by decide +kernel
theorem dX12_places_142 : decode cX12_places 142 = .ok (.iconst 1, 1) := by decide +kernel
theorem dX12_places_143 : decode cX12_places 143 = .ok (.goto 4, 3) := by decide +kernel
theorem dX12_places_146 : decode cX12_places 146 = .ok (.iconst 0, 1) := by decide +kernel
theorem dX12_places_147 : decode cX12_places 147 = .ok (.istore 6, 2) := by decide +kernel
theorem dX12_places_149 : decode cX12_places 149 = .ok (.iinc 7 1, 3) := by decide +kernel
theorem dX12_places_152 : decode cX12_places 152 = .ok (.goto (-119), 3) := by decide +kernel
theorem dX12_places_155 : decode cX12_places 155 = .ok (.iload 6, 2) := by decide +kernel
theorem dX12_places_157 : decode cX12_places 157 = .ok (.ifCond .ne 46, 3) := by decide +kernel
theorem dX12_places_160 : decode cX12_places 160 = .ok (.iload 5, 2) := by decide +kernel
theorem dX12_places_162 : decode cX12_places 162 = .ok (.ifCond .eq 41, 3) := by decide +kernel
theorem dX12_places_165 : decode cX12_places 165 = .ok (.iload 4, 2) := by decide +kernel
theorem dX12_places_167 : decode cX12_places 167 = .ok (.ifCond .ne 6, 3) := by decide +kernel
theorem dX12_places_170 : decode cX12_places 170 = .ok (.goto 33, 3) := by decide +kernel
theorem dX12_places_173 : decode cX12_places 173 = .ok (.aload_n 0, 1) := by decide +kernel
theorem dX12_places_174 : decode cX12_places 174 = .ok (.getfield 179, 3) := by decide +kernel
theorem dX12_places_177 : decode cX12_places 177 = .ok (.iload_n 2, 1) := by decide +kernel
theorem dX12_places_178 : decode cX12_places 178 = .ok (.iload_n 3, 1) := by decide +kernel
theorem dX12_places_179 : decode cX12_places 179 = .ok (.iastore, 1) := by decide +kernel
theorem dX12_places_180 : decode cX12_places 180 = .ok (.aload_n 0, 1) := by decide +kernel
theorem dX12_places_181 : decode cX12_places 181 = .ok (.getfield 173, 3) := by decide +kernel
theorem dX12_places_184 : decode cX12_places 184 = .ok (.iload_n 2, 1) := by decide +kernel
theorem dX12_places_185 : decode cX12_places 185 = .ok (.iload 5, 2) := by decide +kernel
theorem dX12_places_187 : decode cX12_places 187 = .ok (.invokestatic 368, 3) := by decide +kernel
theorem dX12_places_190 : decode cX12_places 190 = .ok (.iastore, 1) := by decide +kernel
theorem dX12_places_191 : decode cX12_places 191 = .ok (.aload_n 0, 1) := by decide +kernel
theorem dX12_places_192 : decode cX12_places 192 = .ok (.getfield 176, 3) := by decide +kernel
theorem dX12_places_195 : decode cX12_places 195 = .ok (.iload_n 2, 1) := by decide +kernel
theorem dX12_places_196 : decode cX12_places 196 = .ok (.iload 4, 2) := by decide +kernel
theorem dX12_places_198 : decode cX12_places 198 = .ok (.invokestatic 368, 3) := by decide +kernel
theorem dX12_places_201 : decode cX12_places 201 = .ok (.iastore, 1) := by decide +kernel
theorem dX12_places_202 : decode cX12_places 202 = .ok (.return_, 1) := by decide +kernel
theorem dX12_places_203 : decode cX12_places 203 = .ok (.iinc 3 1, 3) := by decide +kernel
theorem dX12_places_206 : decode cX12_places 206 = .ok (.goto (-197), 3) := by decide +kernel
theorem dX12_least_0 : decode cX12_least 0 = .ok (.iconst 0, 1) := by decide +kernel
theorem dX12_least_1 : decode cX12_least 1 = .ok (.istore_n 1, 1) := by decide +kernel
theorem dX12_least_2 : decode cX12_least 2 = .ok (.iload_n 0, 1) := by decide +kernel
theorem dX12_least_3 : decode cX12_least 3 = .ok (.iload_n 1, 1) := by decide +kernel
theorem dX12_least_4 : decode cX12_least 4 = .ok (.ishr, 1) := by decide +kernel
theorem dX12_least_5 : decode cX12_least 5 = .ok (.iconst 1, 1) := by decide +kernel
theorem dX12_least_6 : decode cX12_least 6 = .ok (.iand, 1) := by decide +kernel
theorem dX12_least_7 : decode cX12_least 7 = .ok (.ifCond .ne 9, 3) := by decide +kernel
theorem dX12_least_10 : decode cX12_least 10 = .ok (.iinc 1 1, 3) := by decide +kernel
theorem dX12_least_13 : decode cX12_least 13 = .ok (.goto (-11), 3) := by decide +kernel
theorem dX12_least_16 : decode cX12_least 16 = .ok (.iload_n 1, 1) := by decide +kernel
theorem dX12_least_17 : decode cX12_least 17 = .ok (.ireturn, 1) := by decide +kernel
theorem dX12_nextOrder_0 : decode cX12_nextOrder 0 = .ok (.iload_n 1, 1) := by decide +kernel
theorem dX12_nextOrder_1 : decode cX12_nextOrder 1 = .ok (.iconst 2, 1) := by decide +kernel
theorem dX12_nextOrder_2 : decode cX12_nextOrder 2 = .ok (.isub, 1) := by decide +kernel
theorem dX12_nextOrder_3 : decode cX12_nextOrder 3 = .ok (.istore_n 2, 1) := by decide +kernel
theorem dX12_nextOrder_4 : decode cX12_nextOrder 4 = .ok (.iload_n 2, 1) := by decide +kernel
theorem dX12_nextOrder_5 : decode cX12_nextOrder 5 = .ok (.ifCond .lt 26, 3) := by decide +kernel
theorem dX12_nextOrder_8 : decode cX12_nextOrder 8 = .ok (.aload_n 0, 1) := by decide +kernel
theorem dX12_nextOrder_9 : decode cX12_nextOrder 9 = .ok (.getfield 170, 3) := by decide +kernel
theorem dX12_nextOrder_12 : decode cX12_nextOrder 12 = .ok (.iload_n 2, 1) := by decide +kernel
theorem dX12_nextOrder_13 : decode cX12_nextOrder 13 = .ok (.iaload, 1) := by decide +kernel
theorem dX12_nextOrder_14 : decode cX12_nextOrder 14 = .ok (.aload_n 0, 1) := by decide +kernel
theorem dX12_nextOrder_15 : decode cX12_nextOrder 15 = .ok (.getfield 170, 3) := by decide +kernel
theorem dX12_nextOrder_18 : decode cX12_nextOrder 18 = .ok (.iload_n 2, 1) := by decide +kernel
theorem dX12_nextOrder_19 : decode cX12_nextOrder 19 = .ok (.iconst 1, 1) := by decide +kernel
theorem dX12_nextOrder_20 : decode cX12_nextOrder 20 = .ok (.iadd, 1) := by decide +kernel
theorem dX12_nextOrder_21 : decode cX12_nextOrder 21 = .ok (.iaload, 1) := by decide +kernel
theorem dX12_nextOrder_22 : decode cX12_nextOrder 22 = .ok (.if_icmp .le 9, 3) := by decide +kernel
theorem dX12_nextOrder_25 : decode cX12_nextOrder 25 = .ok (.iinc 2 (-1), 3) := by decide +kernel
theorem dX12_nextOrder_28 : decode cX12_nextOrder 28 = .ok (.goto (-24), 3) := by decide +kernel
theorem dX12_nextOrder_31 : decode cX12_nextOrder 31 = .ok (.iload_n 2, 1) := by decide +kernel
theorem dX12_nextOrder_32 : decode cX12_nextOrder 32 = .ok (.ifCond .ge 5, 3) := by decide +kernel
theorem dX12_nextOrder_35 : decode cX12_nextOrder 35 = .ok (.iconst 0, 1) := by decide +kernel
theorem dX12_nextOrder_36 : decode cX12_nextOrder 36 = .ok (.ireturn, 1) := by decide +kernel
theorem dX12_nextOrder_37 : decode cX12_nextOrder 37 = .ok (.iload_n 1, 1) := by decide +kernel
theorem dX12_nextOrder_38 : decode cX12_nextOrder 38 = .ok (.iconst 1, 1) := by decide +kernel
theorem dX12_nextOrder_39 : decode cX12_nextOrder 39 = .ok (.isub, 1) := by decide +kernel
theorem dX12_nextOrder_40 : decode cX12_nextOrder 40 = .ok (.istore_n 3, 1) := by decide +kernel
theorem dX12_nextOrder_41 : decode cX12_nextOrder 41 = .ok (.aload_n 0, 1) := by decide +kernel
theorem dX12_nextOrder_42 : decode cX12_nextOrder 42 = .ok (.getfield 170, 3) := by decide +kernel
theorem dX12_nextOrder_45 : decode cX12_nextOrder 45 = .ok (.iload_n 3, 1) := by decide +kernel
theorem dX12_nextOrder_46 : decode cX12_nextOrder 46 = .ok (.iaload, 1) := by decide +kernel
theorem dX12_nextOrder_47 : decode cX12_nextOrder 47 = .ok (.aload_n 0, 1) := by decide +kernel
theorem dX12_nextOrder_48 : decode cX12_nextOrder 48 = .ok (.getfield 170, 3) := by decide +kernel
theorem dX12_nextOrder_51 : decode cX12_nextOrder 51 = .ok (.iload_n 2, 1) := by decide +kernel
theorem dX12_nextOrder_52 : decode cX12_nextOrder 52 = .ok (.iaload, 1) := by decide +kernel
theorem dX12_nextOrder_53 : decode cX12_nextOrder 53 = .ok (.if_icmp .ge 9, 3) := by decide +kernel
theorem dX12_nextOrder_56 : decode cX12_nextOrder 56 = .ok (.iinc 3 (-1), 3) := by decide +kernel
theorem dX12_nextOrder_59 : decode cX12_nextOrder 59 = .ok (.goto (-18), 3) := by decide +kernel
theorem dX12_nextOrder_62 : decode cX12_nextOrder 62 = .ok (.aload_n 0, 1) := by decide +kernel
theorem dX12_nextOrder_63 : decode cX12_nextOrder 63 = .ok (.getfield 170, 3) := by decide +kernel
theorem dX12_nextOrder_66 : decode cX12_nextOrder 66 = .ok (.iload_n 2, 1) := by decide +kernel
theorem dX12_nextOrder_67 : decode cX12_nextOrder 67 = .ok (.iaload, 1) := by decide +kernel
theorem dX12_nextOrder_68 : decode cX12_nextOrder 68 = .ok (.istore 4, 2) := by decide +kernel
theorem dX12_nextOrder_70 : decode cX12_nextOrder 70 = .ok (.aload_n 0, 1) := by decide +kernel
theorem dX12_nextOrder_71 : decode cX12_nextOrder 71 = .ok (.getfield 170, 3) := by decide +kernel
theorem dX12_nextOrder_74 : decode cX12_nextOrder 74 = .ok (.iload_n 2, 1) := by decide +kernel
theorem dX12_nextOrder_75 : decode cX12_nextOrder 75 = .ok (.aload_n 0, 1) := by decide +kernel
theorem dX12_nextOrder_76 : decode cX12_nextOrder 76 = .ok (.getfield 170, 3) := by decide +kernel
theorem dX12_nextOrder_79 : decode cX12_nextOrder 79 = .ok (.iload_n 3, 1) := by decide +kernel
theorem dX12_nextOrder_80 : decode cX12_nextOrder 80 = .ok (.iaload, 1) := by decide +kernel
theorem dX12_nextOrder_81 : decode cX12_nextOrder 81 = .ok (.iastore, 1) := by decide +kernel
theorem dX12_nextOrder_82 : decode cX12_nextOrder 82 = .ok (.aload_n 0, 1) := by decide +kernel
theorem dX12_nextOrder_83 : decode cX12_nextOrder 83 = .ok (.getfield 170, 3) := by decide +kernel
theorem dX12_nextOrder_86 : decode cX12_nextOrder 86 = .ok (.iload_n 3, 1) := by decide +kernel
theorem dX12_nextOrder_87 : decode cX12_nextOrder 87 = .ok (.iload 4, 2) := by decide +kernel
theorem dX12_nextOrder_89 : decode cX12_nextOrder 89 = .ok (.iastore, 1) := by decide +kernel
theorem dX12_nextOrder_90 : decode cX12_nextOrder 90 = .ok (.iload_n 2, 1) := by decide +kernel
theorem dX12_nextOrder_91 : decode cX12_nextOrder 91 = .ok (.iconst 1, 1) := by decide +kernel
theorem dX12_nextOrder_92 : decode cX12_nextOrder 92 = .ok (.iadd, 1) := by decide +kernel
theorem dX12_nextOrder_93 : decode cX12_nextOrder 93 = .ok (.istore 5, 2) := by decide +kernel
theorem dX12_nextOrder_95 : decode cX12_nextOrder 95 = .ok (.iload_n 1, 1) := by decide +kernel
theorem dX12_nextOrder_96 : decode cX12_nextOrder 96 = .ok (.iconst 1, 1) := by decide +kernel
theorem dX12_nextOrder_97 : decode cX12_nextOrder 97 = .ok (.isub, 1) := by decide +kernel
theorem dX12_nextOrder_98 : decode cX12_nextOrder 98 = .ok (.istore 6, 2) := by decide +kernel
theorem dX12_nextOrder_100 : decode cX12_nextOrder 100 = .ok (.iload 5, 2) := by decide +kernel
theorem dX12_nextOrder_102 : decode cX12_nextOrder 102 = .ok (.iload 6, 2) := by decide +kernel
theorem dX12_nextOrder_104 : decode cX12_nextOrder 104 = .ok (.if_icmp .ge 44, 3) := by decide +kernel
theorem dX12_nextOrder_107 : decode cX12_nextOrder 107 = .ok (.aload_n 0, 1) := by decide +kernel
theorem dX12_nextOrder_108 : decode cX12_nextOrder 108 = .ok (.getfield 170, 3) := by decide +kernel
theorem dX12_nextOrder_111 : decode cX12_nextOrder 111 = .ok (.iload 5, 2) := by decide +kernel
theorem dX12_nextOrder_113 : decode cX12_nextOrder 113 = .ok (.iaload, 1) := by decide +kernel
theorem dX12_nextOrder_114 : decode cX12_nextOrder 114 = .ok (.istore 4, 2) := by decide +kernel
theorem dX12_nextOrder_116 : decode cX12_nextOrder 116 = .ok (.aload_n 0, 1) := by decide +kernel
theorem dX12_nextOrder_117 : decode cX12_nextOrder 117 = .ok (.getfield 170, 3) := by decide +kernel
theorem dX12_nextOrder_120 : decode cX12_nextOrder 120 = .ok (.iload 5, 2) := by decide +kernel
theorem dX12_nextOrder_122 : decode cX12_nextOrder 122 = .ok (.aload_n 0, 1) := by decide +kernel
theorem dX12_nextOrder_123 : decode cX12_nextOrder 123 = .ok (.getfield 170, 3) := by decide +kernel
theorem dX12_nextOrder_126 : decode cX12_nextOrder 126 = .ok (.iload 6, 2) := by decide +kernel
theorem dX12_nextOrder_128 : decode cX12_nextOrder 128 = .ok (.iaload, 1) := by decide +kernel
theorem dX12_nextOrder_129 : decode cX12_nextOrder 129 = .ok (.iastore, 1) := by decide +kernel
theorem dX12_nextOrder_130 : decode cX12_nextOrder 130 = .ok (.aload_n 0, 1) := by decide +kernel
theorem dX12_nextOrder_131 : decode cX12_nextOrder 131 = .ok (.getfield 170, 3) := by decide +kernel
theorem dX12_nextOrder_134 : decode cX12_nextOrder 134 = .ok (.iload 6, 2) := by decide +kernel
theorem dX12_nextOrder_136 : decode cX12_nextOrder 136 = .ok (.iload 4, 2) := by decide +kernel
theorem dX12_nextOrder_138 : decode cX12_nextOrder 138 = .ok (.iastore, 1) := by decide +kernel
theorem dX12_nextOrder_139 : decode cX12_nextOrder 139 = .ok (.iinc 5 1, 3) := by decide +kernel
theorem dX12_nextOrder_142 : decode cX12_nextOrder 142 = .ok (.iinc 6 (-1), 3) := by decide +kernel
theorem dX12_nextOrder_145 : decode cX12_nextOrder 145 = .ok (.goto (-45), 3) := by decide +kernel
theorem dX12_nextOrder_148 : decode cX12_nextOrder 148 = .ok (.iconst 1, 1) := by decide +kernel
theorem dX12_nextOrder_149 : decode cX12_nextOrder 149 = .ok (.ireturn, 1) := by decide +kernel
theorem dX12_plan_0 : decode cX12_plan 0 = .ok (.aload_n 0, 1) := by decide +kernel
theorem dX12_plan_1 : decode cX12_plan 1 = .ok (.iload_n 1, 1) := by decide +kernel
theorem dX12_plan_2 : decode cX12_plan 2 = .ok (.invokevirtual 323, 3) := by decide +kernel
theorem dX12_plan_5 : decode cX12_plan 5 = .ok (.ifCond .eq 11, 3) := by decide +kernel
theorem dX12_plan_8 : decode cX12_plan 8 = .ok (.aload_n 0, 1) := by decide +kernel
theorem dX12_plan_9 : decode cX12_plan 9 = .ok (.iload_n 2, 1) := by decide +kernel
theorem dX12_plan_10 : decode cX12_plan 10 = .ok (.invokevirtual 336, 3) := by decide +kernel
theorem dX12_plan_13 : decode cX12_plan 13 = .ok (.ifCond .ne 5, 3) := by decide +kernel
theorem dX12_plan_16 : decode cX12_plan 16 = .ok (.iconst (-1), 1) := by decide +kernel
theorem dX12_plan_17 : decode cX12_plan 17 = .ok (.ireturn, 1) := by decide +kernel
theorem dX12_plan_18 : decode cX12_plan 18 = .ok (.aload_n 0, 1) := by decide +kernel
theorem dX12_plan_19 : decode cX12_plan 19 = .ok (.iload_n 1, 1) := by decide +kernel
theorem dX12_plan_20 : decode cX12_plan 20 = .ok (.iload_n 2, 1) := by decide +kernel
theorem dX12_plan_21 : decode cX12_plan 21 = .ok (.invokevirtual 371, 3) := by decide +kernel
theorem dX12_plan_24 : decode cX12_plan 24 = .ok (.iconst 0, 1) := by decide +kernel
theorem dX12_plan_25 : decode cX12_plan 25 = .ok (.istore_n 3, 1) := by decide +kernel
theorem dX12_plan_26 : decode cX12_plan 26 = .ok (.iconst 0, 1) := by decide +kernel
theorem dX12_plan_27 : decode cX12_plan 27 = .ok (.istore 4, 2) := by decide +kernel
theorem dX12_plan_29 : decode cX12_plan 29 = .ok (.iload 4, 2) := by decide +kernel
theorem dX12_plan_31 : decode cX12_plan 31 = .ok (.aload_n 0, 1) := by decide +kernel
theorem dX12_plan_32 : decode cX12_plan 32 = .ok (.getfield 302, 3) := by decide +kernel
theorem dX12_plan_35 : decode cX12_plan 35 = .ok (.if_icmp .ge 46, 3) := by decide +kernel
theorem dX12_plan_38 : decode cX12_plan 38 = .ok (.aload_n 0, 1) := by decide +kernel
theorem dX12_plan_39 : decode cX12_plan 39 = .ok (.getfield 161, 3) := by decide +kernel
theorem dX12_plan_42 : decode cX12_plan 42 = .ok (.iload 4, 2) := by decide +kernel
theorem dX12_plan_44 : decode cX12_plan 44 = .ok (.iaload, 1) := by decide +kernel
theorem dX12_plan_45 : decode cX12_plan 45 = .ok (.ifCond .ne 6, 3) := by decide +kernel
theorem dX12_plan_48 : decode cX12_plan 48 = .ok (.goto 27, 3) := by decide +kernel
theorem dX12_plan_51 : decode cX12_plan 51 = .ok (.aload_n 0, 1) := by decide +kernel
theorem dX12_plan_52 : decode cX12_plan 52 = .ok (.getfield 164, 3) := by decide +kernel
theorem dX12_plan_55 : decode cX12_plan 55 = .ok (.iload 4, 2) := by decide +kernel
theorem dX12_plan_57 : decode cX12_plan 57 = .ok (.iaload, 1) := by decide +kernel
theorem dX12_plan_58 : decode cX12_plan 58 = .ok (.ifCond .ne 6, 3) := by decide +kernel
theorem dX12_plan_61 : decode cX12_plan 61 = .ok (.bipush (-2), 2) := by decide +kernel
theorem dX12_plan_63 : decode cX12_plan 63 = .ok (.ireturn, 1) := by decide +kernel
theorem dX12_plan_64 : decode cX12_plan 64 = .ok (.aload_n 0, 1) := by decide +kernel
theorem dX12_plan_65 : decode cX12_plan 65 = .ok (.getfield 170, 3) := by decide +kernel
theorem dX12_plan_68 : decode cX12_plan 68 = .ok (.iload_n 3, 1) := by decide +kernel
theorem dX12_plan_69 : decode cX12_plan 69 = .ok (.iload 4, 2) := by decide +kernel
theorem dX12_plan_71 : decode cX12_plan 71 = .ok (.iastore, 1) := by decide +kernel
theorem dX12_plan_72 : decode cX12_plan 72 = .ok (.iinc 3 1, 3) := by decide +kernel
theorem dX12_plan_75 : decode cX12_plan 75 = .ok (.iinc 4 1, 3) := by decide +kernel
theorem dX12_plan_78 : decode cX12_plan 78 = .ok (.goto (-49), 3) := by decide +kernel
theorem dX12_plan_81 : decode cX12_plan 81 = .ok (.iconst (-1), 1) := by decide +kernel
theorem dX12_plan_82 : decode cX12_plan 82 = .ok (.istore 4, 2) := by decide +kernel
theorem dX12_plan_84 : decode cX12_plan 84 = .ok (.iconst 0, 1) := by decide +kernel
theorem dX12_plan_85 : decode cX12_plan 85 = .ok (.istore 5, 2) := by decide +kernel
theorem dX12_plan_87 : decode cX12_plan 87 = .ok (.iconst 1, 1) := by decide +kernel
theorem dX12_plan_88 : decode cX12_plan 88 = .ok (.istore 6, 2) := by decide +kernel
theorem dX12_plan_90 : decode cX12_plan 90 = .ok (.iload 6, 2) := by decide +kernel
theorem dX12_plan_92 : decode cX12_plan 92 = .ok (.ifCond .eq 180, 3) := by decide +kernel
theorem dX12_plan_95 : decode cX12_plan 95 = .ok (.iconst 0, 1) := by decide +kernel
theorem dX12_plan_96 : decode cX12_plan 96 = .ok (.istore 7, 2) := by decide +kernel
theorem dX12_plan_98 : decode cX12_plan 98 = .ok (.iconst 0, 1) := by decide +kernel
theorem dX12_plan_99 : decode cX12_plan 99 = .ok (.istore 8, 2) := by decide +kernel
theorem dX12_plan_101 : decode cX12_plan 101 = .ok (.iconst 0, 1) := by decide +kernel
theorem dX12_plan_102 : decode cX12_plan 102 = .ok (.istore 9, 2) := by decide +kernel
theorem dX12_plan_104 : decode cX12_plan 104 = .ok (.iload 9, 2) := by decide +kernel
theorem dX12_plan_106 : decode cX12_plan 106 = .ok (.iload_n 3, 1) := by decide +kernel
theorem dX12_plan_107 : decode cX12_plan 107 = .ok (.if_icmp .ge 60, 3) := by decide +kernel
theorem dX12_plan_110 : decode cX12_plan 110 = .ok (.aload_n 0, 1) := by decide +kernel
theorem dX12_plan_111 : decode cX12_plan 111 = .ok (.iload 9, 2) := by decide +kernel
theorem dX12_plan_113 : decode cX12_plan 113 = .ok (.invokevirtual 374, 3) := by decide +kernel
theorem dX12_plan_116 : decode cX12_plan 116 = .ok (.aload_n 0, 1) := by decide +kernel
theorem dX12_plan_117 : decode cX12_plan 117 = .ok (.getfield 179, 3) := by decide +kernel
theorem dX12_plan_120 : decode cX12_plan 120 = .ok (.aload_n 0, 1) := by decide +kernel
theorem dX12_plan_121 : decode cX12_plan 121 = .ok (.getfield 170, 3) := by decide +kernel
theorem dX12_plan_124 : decode cX12_plan 124 = .ok (.iload 9, 2) := by decide +kernel
theorem dX12_plan_126 : decode cX12_plan 126 = .ok (.iaload, 1) := by decide +kernel
theorem dX12_plan_127 : decode cX12_plan 127 = .ok (.iaload, 1) := by decide +kernel
theorem dX12_plan_128 : decode cX12_plan 128 = .ok (.aload_n 0, 1) := by decide +kernel
theorem dX12_plan_129 : decode cX12_plan 129 = .ok (.getfield 161, 3) := by decide +kernel
theorem dX12_plan_132 : decode cX12_plan 132 = .ok (.aload_n 0, 1) := by decide +kernel
theorem dX12_plan_133 : decode cX12_plan 133 = .ok (.getfield 170, 3) := by decide +kernel
theorem dX12_plan_136 : decode cX12_plan 136 = .ok (.iload 9, 2) := by decide +kernel
theorem dX12_plan_138 : decode cX12_plan 138 = .ok (.iaload, 1) := by decide +kernel
theorem dX12_plan_139 : decode cX12_plan 139 = .ok (.iaload, 1) := by decide +kernel
theorem dX12_plan_140 : decode cX12_plan 140 = .ok (.iadd, 1) := by decide +kernel
theorem dX12_plan_141 : decode cX12_plan 141 = .ok (.istore 10, 2) := by decide +kernel
theorem dX12_plan_143 : decode cX12_plan 143 = .ok (.iload 8, 2) := by decide +kernel
theorem dX12_plan_145 : decode cX12_plan 145 = .ok (.iload 10, 2) := by decide +kernel
theorem dX12_plan_147 : decode cX12_plan 147 = .ok (.iadd, 1) := by decide +kernel
theorem dX12_plan_148 : decode cX12_plan 148 = .ok (.istore 8, 2) := by decide +kernel
theorem dX12_plan_150 : decode cX12_plan 150 = .ok (.iload 10, 2) := by decide +kernel
theorem dX12_plan_152 : decode cX12_plan 152 = .ok (.iload 7, 2) := by decide +kernel
theorem dX12_plan_154 : decode cX12_plan 154 = .ok (.if_icmp .le 7, 3) := by decide +kernel
theorem dX12_plan_157 : decode cX12_plan 157 = .ok (.iload 10, 2) := by decide +kernel
theorem dX12_plan_159 : decode cX12_plan 159 = .ok (.istore 7, 2) := by decide +kernel
theorem dX12_plan_161 : decode cX12_plan 161 = .ok (.iinc 9 1, 3) := by decide +kernel
theorem dX12_plan_164 : decode cX12_plan 164 = .ok (.goto (-60), 3) := by decide +kernel
theorem dX12_plan_167 : decode cX12_plan 167 = .ok (.iload 4, 2) := by decide +kernel
theorem dX12_plan_169 : decode cX12_plan 169 = .ok (.iconst (-1), 1) := by decide +kernel
theorem dX12_plan_170 : decode cX12_plan 170 = .ok (.if_icmp .eq 24, 3) := by decide +kernel
theorem dX12_plan_173 : decode cX12_plan 173 = .ok (.iload 7, 2) := by decide +kernel
theorem dX12_plan_175 : decode cX12_plan 175 = .ok (.iload 4, 2) := by decide +kernel
theorem dX12_plan_177 : decode cX12_plan 177 = .ok (.if_icmp .lt 17, 3) := by decide +kernel
theorem dX12_plan_180 : decode cX12_plan 180 = .ok (.iload 7, 2) := by decide +kernel
theorem dX12_plan_182 : decode cX12_plan 182 = .ok (.iload 4, 2) := by decide +kernel
theorem dX12_plan_184 : decode cX12_plan 184 = .ok (.if_icmp .ne 78, 3) := by decide +kernel
theorem dX12_plan_187 : decode cX12_plan 187 = .ok (.iload 8, 2) := by decide +kernel
theorem dX12_plan_189 : decode cX12_plan 189 = .ok (.iload 5, 2) := by decide +kernel
theorem dX12_plan_191 : decode cX12_plan 191 = .ok (.if_icmp .ge 71, 3) := by decide +kernel
theorem dX12_plan_194 : decode cX12_plan 194 = .ok (.iload 7, 2) := by decide +kernel
theorem dX12_plan_196 : decode cX12_plan 196 = .ok (.istore 4, 2) := by decide +kernel
theorem dX12_plan_198 : decode cX12_plan 198 = .ok (.iload 8, 2) := by decide +kernel
theorem dX12_plan_200 : decode cX12_plan 200 = .ok (.istore 5, 2) := by decide +kernel
theorem dX12_plan_202 : decode cX12_plan 202 = .ok (.iconst 0, 1) := by decide +kernel
theorem dX12_plan_203 : decode cX12_plan 203 = .ok (.istore 9, 2) := by decide +kernel
theorem dX12_plan_205 : decode cX12_plan 205 = .ok (.iload 9, 2) := by decide +kernel
theorem dX12_plan_207 : decode cX12_plan 207 = .ok (.aload_n 0, 1) := by decide +kernel
theorem dX12_plan_208 : decode cX12_plan 208 = .ok (.getfield 302, 3) := by decide +kernel
theorem dX12_plan_211 : decode cX12_plan 211 = .ok (.if_icmp .ge 51, 3) := by decide +kernel
theorem dX12_plan_214 : decode cX12_plan 214 = .ok (.aload_n 0, 1) := by decide +kernel
theorem dX12_plan_215 : decode cX12_plan 215 = .ok (.getfield 182, 3) := by decide +kernel
theorem dX12_plan_218 : decode cX12_plan 218 = .ok (.iload 9, 2) := by decide +kernel
theorem dX12_plan_220 : decode cX12_plan 220 = .ok (.aload_n 0, 1) := by decide +kernel
theorem dX12_plan_221 : decode cX12_plan 221 = .ok (.getfield 173, 3) := by decide +kernel
theorem dX12_plan_224 : decode cX12_plan 224 = .ok (.iload 9, 2) := by decide +kernel
theorem dX12_plan_226 : decode cX12_plan 226 = .ok (.iaload, 1) := by decide +kernel
theorem dX12_plan_227 : decode cX12_plan 227 = .ok (.iastore, 1) := by decide +kernel
theorem dX12_plan_228 : decode cX12_plan 228 = .ok (.aload_n 0, 1) := by decide +kernel
theorem dX12_plan_229 : decode cX12_plan 229 = .ok (.getfield 185, 3) := by decide +kernel
theorem dX12_plan_232 : decode cX12_plan 232 = .ok (.iload 9, 2) := by decide +kernel
theorem dX12_plan_234 : decode cX12_plan 234 = .ok (.aload_n 0, 1) := by decide +kernel
theorem dX12_plan_235 : decode cX12_plan 235 = .ok (.getfield 176, 3) := by decide +kernel
theorem dX12_plan_238 : decode cX12_plan 238 = .ok (.iload 9, 2) := by decide +kernel
theorem dX12_plan_240 : decode cX12_plan 240 = .ok (.iaload, 1) := by decide +kernel
theorem dX12_plan_241 : decode cX12_plan 241 = .ok (.iastore, 1) := by decide +kernel
theorem dX12_plan_242 : decode cX12_plan 242 = .ok (.aload_n 0, 1) := by decide +kernel
theorem dX12_plan_243 : decode cX12_plan 243 = .ok (.getfield 188, 3) := by decide +kernel
theorem dX12_plan_246 : decode cX12_plan 246 = .ok (.iload 9, 2) := by decide +kernel
theorem dX12_plan_248 : decode cX12_plan 248 = .ok (.aload_n 0, 1) := by decide +kernel
theorem dX12_plan_249 : decode cX12_plan 249 = .ok (.getfield 179, 3) := by decide +kernel
theorem dX12_plan_252 : decode cX12_plan 252 = .ok (.iload 9, 2) := by decide +kernel
theorem dX12_plan_254 : decode cX12_plan 254 = .ok (.iaload, 1) := by decide +kernel
theorem dX12_plan_255 : decode cX12_plan 255 = .ok (.iastore, 1) := by decide +kernel
theorem dX12_plan_256 : decode cX12_plan 256 = .ok (.iinc 9 1, 3) := by decide +kernel
theorem dX12_plan_259 : decode cX12_plan 259 = .ok (.goto (-54), 3) := by decide +kernel
theorem dX12_plan_262 : decode cX12_plan 262 = .ok (.aload_n 0, 1) := by decide +kernel
theorem dX12_plan_263 : decode cX12_plan 263 = .ok (.iload_n 3, 1) := by decide +kernel
theorem dX12_plan_264 : decode cX12_plan 264 = .ok (.invokevirtual 377, 3) := by decide +kernel
theorem dX12_plan_267 : decode cX12_plan 267 = .ok (.istore 6, 2) := by decide +kernel
theorem dX12_plan_269 : decode cX12_plan 269 = .ok (.goto (-179), 3) := by decide +kernel
theorem dX12_plan_272 : decode cX12_plan 272 = .ok (.iconst 0, 1) := by decide +kernel
theorem dX12_plan_273 : decode cX12_plan 273 = .ok (.istore 7, 2) := by decide +kernel
theorem dX12_plan_275 : decode cX12_plan 275 = .ok (.iload 7, 2) := by decide +kernel
theorem dX12_plan_277 : decode cX12_plan 277 = .ok (.aload_n 0, 1) := by decide +kernel
theorem dX12_plan_278 : decode cX12_plan 278 = .ok (.getfield 302, 3) := by decide +kernel
theorem dX12_plan_281 : decode cX12_plan 281 = .ok (.if_icmp .ge 96, 3) := by decide +kernel
theorem dX12_plan_284 : decode cX12_plan 284 = .ok (.bipush 6, 2) := by decide +kernel
theorem dX12_plan_286 : decode cX12_plan 286 = .ok (.iload_n 1, 1) := by decide +kernel
theorem dX12_plan_287 : decode cX12_plan 287 = .ok (.imul, 1) := by decide +kernel
theorem dX12_plan_288 : decode cX12_plan 288 = .ok (.iload 7, 2) := by decide +kernel
theorem dX12_plan_290 : decode cX12_plan 290 = .ok (.iadd, 1) := by decide +kernel
theorem dX12_plan_291 : decode cX12_plan 291 = .ok (.istore 8, 2) := by decide +kernel
theorem dX12_plan_293 : decode cX12_plan 293 = .ok (.aload_n 0, 1) := by decide +kernel
theorem dX12_plan_294 : decode cX12_plan 294 = .ok (.getfield 152, 3) := by decide +kernel
theorem dX12_plan_297 : decode cX12_plan 297 = .ok (.iload 8, 2) := by decide +kernel
theorem dX12_plan_299 : decode cX12_plan 299 = .ok (.aload_n 0, 1) := by decide +kernel
theorem dX12_plan_300 : decode cX12_plan 300 = .ok (.getfield 161, 3) := by decide +kernel
theorem dX12_plan_303 : decode cX12_plan 303 = .ok (.iload 7, 2) := by decide +kernel
theorem dX12_plan_305 : decode cX12_plan 305 = .ok (.iaload, 1) := by decide +kernel
theorem dX12_plan_306 : decode cX12_plan 306 = .ok (.ifCond .ne 7, 3) := by decide +kernel
theorem dX12_plan_309 : decode cX12_plan 309 = .ok (.iconst (-1), 1) := by decide +kernel
theorem dX12_plan_310 : decode cX12_plan 310 = .ok (.goto 10, 3) := by decide +kernel
theorem dX12_plan_313 : decode cX12_plan 313 = .ok (.aload_n 0, 1) := by decide +kernel
theorem dX12_plan_314 : decode cX12_plan 314 = .ok (.getfield 185, 3) := by decide +kernel
theorem dX12_plan_317 : decode cX12_plan 317 = .ok (.iload 7, 2) := by decide +kernel
theorem dX12_plan_319 : decode cX12_plan 319 = .ok (.iaload, 1) := by decide +kernel
theorem dX12_plan_320 : decode cX12_plan 320 = .ok (.iastore, 1) := by decide +kernel
theorem dX12_plan_321 : decode cX12_plan 321 = .ok (.aload_n 0, 1) := by decide +kernel
theorem dX12_plan_322 : decode cX12_plan 322 = .ok (.getfield 149, 3) := by decide +kernel
theorem dX12_plan_325 : decode cX12_plan 325 = .ok (.iload 8, 2) := by decide +kernel
theorem dX12_plan_327 : decode cX12_plan 327 = .ok (.aload_n 0, 1) := by decide +kernel
theorem dX12_plan_328 : decode cX12_plan 328 = .ok (.getfield 182, 3) := by decide +kernel
theorem dX12_plan_331 : decode cX12_plan 331 = .ok (.iload 7, 2) := by decide +kernel
theorem dX12_plan_333 : decode cX12_plan 333 = .ok (.iaload, 1) := by decide +kernel
theorem dX12_plan_334 : decode cX12_plan 334 = .ok (.iastore, 1) := by decide +kernel
theorem dX12_plan_335 : decode cX12_plan 335 = .ok (.aload_n 0, 1) := by decide +kernel
theorem dX12_plan_336 : decode cX12_plan 336 = .ok (.getfield 155, 3) := by decide +kernel
theorem dX12_plan_339 : decode cX12_plan 339 = .ok (.iload 8, 2) := by decide +kernel
theorem dX12_plan_341 : decode cX12_plan 341 = .ok (.aload_n 0, 1) := by decide +kernel
theorem dX12_plan_342 : decode cX12_plan 342 = .ok (.getfield 188, 3) := by decide +kernel
theorem dX12_plan_345 : decode cX12_plan 345 = .ok (.iload 7, 2) := by decide +kernel
theorem dX12_plan_347 : decode cX12_plan 347 = .ok (.iaload, 1) := by decide +kernel
theorem dX12_plan_348 : decode cX12_plan 348 = .ok (.iastore, 1) := by decide +kernel
theorem dX12_plan_349 : decode cX12_plan 349 = .ok (.aload_n 0, 1) := by decide +kernel
theorem dX12_plan_350 : decode cX12_plan 350 = .ok (.getfield 158, 3) := by decide +kernel
theorem dX12_plan_353 : decode cX12_plan 353 = .ok (.iload 8, 2) := by decide +kernel
theorem dX12_plan_355 : decode cX12_plan 355 = .ok (.aload_n 0, 1) := by decide +kernel
theorem dX12_plan_356 : decode cX12_plan 356 = .ok (.getfield 188, 3) := by decide +kernel
theorem dX12_plan_359 : decode cX12_plan 359 = .ok (.iload 7, 2) := by decide +kernel
theorem dX12_plan_361 : decode cX12_plan 361 = .ok (.iaload, 1) := by decide +kernel
theorem dX12_plan_362 : decode cX12_plan 362 = .ok (.aload_n 0, 1) := by decide +kernel
theorem dX12_plan_363 : decode cX12_plan 363 = .ok (.getfield 161, 3) := by decide +kernel
theorem dX12_plan_366 : decode cX12_plan 366 = .ok (.iload 7, 2) := by decide +kernel
theorem dX12_plan_368 : decode cX12_plan 368 = .ok (.iaload, 1) := by decide +kernel
theorem dX12_plan_369 : decode cX12_plan 369 = .ok (.iadd, 1) := by decide +kernel
theorem dX12_plan_370 : decode cX12_plan 370 = .ok (.iastore, 1) := by decide +kernel
theorem dX12_plan_371 : decode cX12_plan 371 = .ok (.iinc 7 1, 3) := by decide +kernel
theorem dX12_plan_374 : decode cX12_plan 374 = .ok (.goto (-99), 3) := by decide +kernel
theorem dX12_plan_377 : decode cX12_plan 377 = .ok (.iload 4, 2) := by decide +kernel
theorem dX12_plan_379 : decode cX12_plan 379 = .ok (.ireturn, 1) := by decide +kernel
theorem dX12_isPlanned_0 : decode cX12_isPlanned 0 = .ok (.aload_n 0, 1) := by decide +kernel
