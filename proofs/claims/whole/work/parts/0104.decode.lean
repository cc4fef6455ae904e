theorem dX9_addStep_19 : decode cX9_addStep 19 = .ok (.iastore, 1) := by decide +kernel
theorem dX9_addStep_20 : decode cX9_addStep 20 = .ok (.aload_n 0, 1) := by decide +kernel
theorem dX9_addStep_21 : decode cX9_addStep 21 = .ok (.getfield 33, 3) := by decide +kernel
theorem dX9_addStep_24 : decode cX9_addStep 24 = .ok (.aload_n 0, 1) := by decide +kernel
theorem dX9_addStep_25 : decode cX9_addStep 25 = .ok (.getfield 43, 3) := by decide +kernel
theorem dX9_addStep_28 : decode cX9_addStep 28 = .ok (.iload_n 2, 1) := by decide +kernel
theorem dX9_addStep_29 : decode cX9_addStep 29 = .ok (.iastore, 1) := by decide +kernel
theorem dX9_addStep_30 : decode cX9_addStep 30 = .ok (.aload_n 0, 1) := by decide +kernel
theorem dX9_addStep_31 : decode cX9_addStep 31 = .ok (.dup, 1) := by decide +kernel
theorem dX9_addStep_32 : decode cX9_addStep 32 = .ok (.getfield 43, 3) := by decide +kernel
theorem dX9_addStep_35 : decode cX9_addStep 35 = .ok (.iconst 1, 1) := by decide +kernel
theorem dX9_addStep_36 : decode cX9_addStep 36 = .ok (.iadd, 1) := by decide +kernel
theorem dX9_addStep_37 : decode cX9_addStep 37 = .ok (.putfield 43, 3) := by decide +kernel
theorem dX9_addStep_40 : decode cX9_addStep 40 = .ok (.return_, 1) := by decide +kernel
theorem dX9_addRule_0 : decode cX9_addRule 0 = .ok (.aload_n 0, 1) := by decide +kernel
theorem dX9_addRule_1 : decode cX9_addRule 1 = .ok (.getfield 39, 3) := by decide +kernel
theorem dX9_addRule_4 : decode cX9_addRule 4 = .ok (.bipush 16, 2) := by decide +kernel
theorem dX9_addRule_6 : decode cX9_addRule 6 = .ok (.if_icmp .ge 78, 3) := by decide +kernel
theorem dX9_addRule_9 : decode cX9_addRule 9 = .ok (.aload_n 0, 1) := by decide +kernel
theorem dX9_addRule_10 : decode cX9_addRule 10 = .ok (.getfield 9, 3) := by decide +kernel
theorem dX9_addRule_13 : decode cX9_addRule 13 = .ok (.aload_n 0, 1) := by decide +kernel
theorem dX9_addRule_14 : decode cX9_addRule 14 = .ok (.getfield 39, 3) := by decide +kernel
theorem dX9_addRule_17 : decode cX9_addRule 17 = .ok (.iload_n 1, 1) := by decide +kernel
theorem dX9_addRule_18 : decode cX9_addRule 18 = .ok (.iastore, 1) := by decide +kernel
theorem dX9_addRule_19 : decode cX9_addRule 19 = .ok (.aload_n 0, 1) := by decide +kernel
theorem dX9_addRule_20 : decode cX9_addRule 20 = .ok (.getfield 15, 3) := by decide +kernel
theorem dX9_addRule_23 : decode cX9_addRule 23 = .ok (.aload_n 0, 1) := by decide +kernel
theorem dX9_addRule_24 : decode cX9_addRule 24 = .ok (.getfield 39, 3) := by decide +kernel
theorem dX9_addRule_27 : decode cX9_addRule 27 = .ok (.iload_n 2, 1) := by decide +kernel
theorem dX9_addRule_28 : decode cX9_addRule 28 = .ok (.iastore, 1) := by decide +kernel
theorem dX9_addRule_29 : decode cX9_addRule 29 = .ok (.aload_n 0, 1) := by decide +kernel
theorem dX9_addRule_30 : decode cX9_addRule 30 = .ok (.getfield 18, 3) := by decide +kernel
theorem dX9_addRule_33 : decode cX9_addRule 33 = .ok (.aload_n 0, 1) := by decide +kernel
theorem dX9_addRule_34 : decode cX9_addRule 34 = .ok (.getfield 39, 3) := by decide +kernel
theorem dX9_addRule_37 : decode cX9_addRule 37 = .ok (.iload_n 3, 1) := by decide +kernel
theorem dX9_addRule_38 : decode cX9_addRule 38 = .ok (.iastore, 1) := by decide +kernel
theorem dX9_addRule_39 : decode cX9_addRule 39 = .ok (.aload_n 0, 1) := by decide +kernel
theorem dX9_addRule_40 : decode cX9_addRule 40 = .ok (.getfield 21, 3) := by decide +kernel
theorem dX9_addRule_43 : decode cX9_addRule 43 = .ok (.aload_n 0, 1) := by decide +kernel
theorem dX9_addRule_44 : decode cX9_addRule 44 = .ok (.getfield 39, 3) := by decide +kernel
theorem dX9_addRule_47 : decode cX9_addRule 47 = .ok (.iload 4, 2) := by decide +kernel
theorem dX9_addRule_49 : decode cX9_addRule 49 = .ok (.iastore, 1) := by decide +kernel
theorem dX9_addRule_50 : decode cX9_addRule 50 = .ok (.aload_n 0, 1) := by decide +kernel
theorem dX9_addRule_51 : decode cX9_addRule 51 = .ok (.getfield 24, 3) := by decide +kernel
theorem dX9_addRule_54 : decode cX9_addRule 54 = .ok (.aload_n 0, 1) := by decide +kernel
theorem dX9_addRule_55 : decode cX9_addRule 55 = .ok (.getfield 39, 3) := by decide +kernel
theorem dX9_addRule_58 : decode cX9_addRule 58 = .ok (.iload 5, 2) := by decide +kernel
theorem dX9_addRule_60 : decode cX9_addRule 60 = .ok (.iastore, 1) := by decide +kernel
theorem dX9_addRule_61 : decode cX9_addRule 61 = .ok (.aload_n 0, 1) := by decide +kernel
theorem dX9_addRule_62 : decode cX9_addRule 62 = .ok (.getfield 27, 3) := by decide +kernel
theorem dX9_addRule_65 : decode cX9_addRule 65 = .ok (.aload_n 0, 1) := by decide +kernel
theorem dX9_addRule_66 : decode cX9_addRule 66 = .ok (.getfield 39, 3) := by decide +kernel
theorem dX9_addRule_69 : decode cX9_addRule 69 = .ok (.aload_n 0, 1) := by decide +kernel
theorem dX9_addRule_70 : decode cX9_addRule 70 = .ok (.getfield 43, 3) := by decide +kernel
theorem dX9_addRule_73 : decode cX9_addRule 73 = .ok (.iastore, 1) := by decide +kernel
theorem dX9_addRule_74 : decode cX9_addRule 74 = .ok (.aload_n 0, 1) := by decide +kernel
theorem dX9_addRule_75 : decode cX9_addRule 75 = .ok (.dup, 1) := by decide +kernel
theorem dX9_addRule_76 : decode cX9_addRule 76 = .ok (.getfield 39, 3) := by decide +kernel
theorem dX9_addRule_79 : decode cX9_addRule 79 = .ok (.iconst 1, 1) := by decide +kernel
theorem dX9_addRule_80 : decode cX9_addRule 80 = .ok (.iadd, 1) := by decide +kernel
theorem dX9_addRule_81 : decode cX9_addRule 81 = .ok (.putfield 39, 3) := by decide +kernel
theorem dX9_addRule_84 : decode cX9_addRule 84 = .ok (.return_, 1) := by decide +kernel
theorem dX9_copyFrom_0 : decode cX9_copyFrom 0 = .ok (.aload_n 1, 1) := by decide +kernel
theorem dX9_copyFrom_1 : decode cX9_copyFrom 1 = .ok (.getfield 9, 3) := by decide +kernel
theorem dX9_copyFrom_4 : decode cX9_copyFrom 4 = .ok (.iconst 0, 1) := by decide +kernel
theorem dX9_copyFrom_5 : decode cX9_copyFrom 5 = .ok (.aload_n 0, 1) := by decide +kernel
theorem dX9_copyFrom_6 : decode cX9_copyFrom 6 = .ok (.getfield 9, 3) := by decide +kernel
theorem dX9_copyFrom_9 : decode cX9_copyFrom 9 = .ok (.iconst 0, 1) := by decide +kernel
theorem dX9_copyFrom_10 : decode cX9_copyFrom 10 = .ok (.bipush 16, 2) := by decide +kernel
theorem dX9_copyFrom_12 : decode cX9_copyFrom 12 = .ok (.invokestatic 46, 3) := by decide +kernel
theorem dX9_copyFrom_15 : decode cX9_copyFrom 15 = .ok (.aload_n 1, 1) := by decide +kernel
theorem dX9_copyFrom_16 : decode cX9_copyFrom 16 = .ok (.getfield 15, 3) := by decide +kernel
theorem dX9_copyFrom_19 : decode cX9_copyFrom 19 = .ok (.iconst 0, 1) := by decide +kernel
theorem dX9_copyFrom_20 : decode cX9_copyFrom 20 = .ok (.aload_n 0, 1) := by decide +kernel
theorem dX9_copyFrom_21 : decode cX9_copyFrom 21 = .ok (.getfield 15, 3) := by decide +kernel
theorem dX9_copyFrom_24 : decode cX9_copyFrom 24 = .ok (.iconst 0, 1) := by decide +kernel
theorem dX9_copyFrom_25 : decode cX9_copyFrom 25 = .ok (.bipush 16, 2) := by decide +kernel
theorem dX9_copyFrom_27 : decode cX9_copyFrom 27 = .ok (.invokestatic 46, 3) := by decide +kernel
theorem dX9_copyFrom_30 : decode cX9_copyFrom 30 = .ok (.aload_n 1, 1) := by decide +kernel
theorem dX9_copyFrom_31 : decode cX9_copyFrom 31 = .ok (.getfield 18, 3) := by decide +kernel
theorem dX9_copyFrom_34 : decode cX9_copyFrom 34 = .ok (.iconst 0, 1) := by decide +kernel
theorem dX9_copyFrom_35 : decode cX9_copyFrom 35 = .ok (.aload_n 0, 1) := by decide +kernel
theorem dX9_copyFrom_36 : decode cX9_copyFrom 36 = .ok (.getfield 18, 3) := by decide +kernel
theorem dX9_copyFrom_39 : decode cX9_copyFrom 39 = .ok (.iconst 0, 1) := by decide +kernel
theorem dX9_copyFrom_40 : decode cX9_copyFrom 40 = .ok (.bipush 16, 2) := by decide +kernel
theorem dX9_copyFrom_42 : decode cX9_copyFrom 42 = .ok (.invokestatic 46, 3) := by decide +kernel
theorem dX9_copyFrom_45 : decode cX9_copyFrom 45 = .ok (.aload_n 1, 1) := by decide +kernel
theorem dX9_copyFrom_46 : decode cX9_copyFrom 46 = .ok (.getfield 21, 3) := by decide +kernel
theorem dX9_copyFrom_49 : decode cX9_copyFrom 49 = .ok (.iconst 0, 1) := by decide +kernel
theorem dX9_copyFrom_50 : decode cX9_copyFrom 50 = .ok (.aload_n 0, 1) := by decide +kernel
theorem dX9_copyFrom_51 : decode cX9_copyFrom 51 = .ok (.getfield 21, 3) := by decide +kernel
theorem dX9_copyFrom_54 : decode cX9_copyFrom 54 = .ok (.iconst 0, 1) := by decide +kernel
theorem dX9_copyFrom_55 : decode cX9_copyFrom 55 = .ok (.bipush 16, 2) := by decide +kernel
theorem dX9_copyFrom_57 : decode cX9_copyFrom 57 = .ok (.invokestatic 46, 3) := by decide +kernel
theorem dX9_copyFrom_60 : decode cX9_copyFrom 60 = .ok (.aload_n 1, 1) := by decide +kernel
theorem dX9_copyFrom_61 : decode cX9_copyFrom 61 = .ok (.getfield 24, 3) := by decide +kernel
theorem dX9_copyFrom_64 : decode cX9_copyFrom 64 = .ok (.iconst 0, 1) := by decide +kernel
theorem dX9_copyFrom_65 : decode cX9_copyFrom 65 = .ok (.aload_n 0, 1) := by decide +kernel
theorem dX9_copyFrom_66 : decode cX9_copyFrom 66 = .ok (.getfield 24, 3) := by decide +kernel
theorem dX9_copyFrom_69 : decode cX9_copyFrom 69 = .ok (.iconst 0, 1) := by decide +kernel
theorem dX9_copyFrom_70 : decode cX9_copyFrom 70 = .ok (.bipush 16, 2) := by decide +kernel
theorem dX9_copyFrom_72 : decode cX9_copyFrom 72 = .ok (.invokestatic 46, 3) := by decide +kernel
theorem dX9_copyFrom_75 : decode cX9_copyFrom 75 = .ok (.aload_n 1, 1) := by decide +kernel
theorem dX9_copyFrom_76 : decode cX9_copyFrom 76 = .ok (.getfield 27, 3) := by decide +kernel
theorem dX9_copyFrom_79 : decode cX9_copyFrom 79 = .ok (.iconst 0, 1) := by decide +kernel
theorem dX9_copyFrom_80 : decode cX9_copyFrom 80 = .ok (.aload_n 0, 1) := by decide +kernel
theorem dX9_copyFrom_81 : decode cX9_copyFrom 81 = .ok (.getfield 27, 3) := by decide +kernel
theorem dX9_copyFrom_84 : decode cX9_copyFrom 84 = .ok (.iconst 0, 1) := by decide +kernel
theorem dX9_copyFrom_85 : decode cX9_copyFrom 85 = .ok (.bipush 16, 2) := by decide +kernel
theorem dX9_copyFrom_87 : decode cX9_copyFrom 87 = .ok (.invokestatic 46, 3) := by decide +kernel
theorem dX9_copyFrom_90 : decode cX9_copyFrom 90 = .ok (.aload_n 1, 1) := by decide +kernel
theorem dX9_copyFrom_91 : decode cX9_copyFrom 91 = .ok (.getfield 30, 3) := by decide +kernel
theorem dX9_copyFrom_94 : decode cX9_copyFrom 94 = .ok (.iconst 0, 1) := by decide +kernel
theorem dX9_copyFrom_95 : decode cX9_copyFrom 95 = .ok (.aload_n 0, 1) := by decide +kernel
theorem dX9_copyFrom_96 : decode cX9_copyFrom 96 = .ok (.getfield 30, 3) := by decide +kernel
theorem dX9_copyFrom_99 : decode cX9_copyFrom 99 = .ok (.iconst 0, 1) := by decide +kernel
theorem dX9_copyFrom_100 : decode cX9_copyFrom 100 = .ok (.sipush 400, 3) := by decide +kernel
theorem dX9_copyFrom_103 : decode cX9_copyFrom 103 = .ok (.invokestatic 46, 3) := by decide +kernel
theorem dX9_copyFrom_106 : decode cX9_copyFrom 106 = .ok (.aload_n 1, 1) := by decide +kernel
theorem dX9_copyFrom_107 : decode cX9_copyFrom 107 = .ok (.getfield 33, 3) := by decide +kernel
theorem dX9_copyFrom_110 : decode cX9_copyFrom 110 = .ok (.iconst 0, 1) := by decide +kernel
theorem dX9_copyFrom_111 : decode cX9_copyFrom 111 = .ok (.aload_n 0, 1) := by decide +kernel
theorem dX9_copyFrom_112 : decode cX9_copyFrom 112 = .ok (.getfield 33, 3) := by decide +kernel
theorem dX9_copyFrom_115 : decode cX9_copyFrom 115 = .ok (.iconst 0, 1) := by decide +kernel
theorem dX9_copyFrom_116 : decode cX9_copyFrom 116 = .ok (.sipush 400, 3) := by decide +kernel
theorem dX9_copyFrom_119 : decode cX9_copyFrom 119 = .ok (.invokestatic 46, 3) := by decide +kernel
theorem dX9_copyFrom_122 : decode cX9_copyFrom 122 = .ok (.aload_n 0, 1) := by decide +kernel
theorem dX9_copyFrom_123 : decode cX9_copyFrom 123 = .ok (.aload_n 1, 1) := by decide +kernel
theorem dX9_copyFrom_124 : decode cX9_copyFrom 124 = .ok (.getfield 39, 3) := by decide +kernel
theorem dX9_copyFrom_127 : decode cX9_copyFrom 127 = .ok (.putfield 39, 3) := by decide +kernel
theorem dX9_copyFrom_130 : decode cX9_copyFrom 130 = .ok (.aload_n 0, 1) := by decide +kernel
theorem dX9_copyFrom_131 : decode cX9_copyFrom 131 = .ok (.aload_n 1, 1) := by decide +kernel
theorem dX9_copyFrom_132 : decode cX9_copyFrom 132 = .ok (.getfield 43, 3) := by decide +kernel
theorem dX9_copyFrom_135 : decode cX9_copyFrom 135 = .ok (.putfield 43, 3) := by decide +kernel
theorem dX9_copyFrom_138 : decode cX9_copyFrom 138 = .ok (.return_, 1) := by decide +kernel
theorem dX9_firstOfKind_0 : decode cX9_firstOfKind 0 = .ok (.iconst 0, 1) := by decide +kernel
theorem dX9_firstOfKind_1 : decode cX9_firstOfKind 1 = .ok (.istore_n 2, 1) := by decide +kernel
theorem dX9_firstOfKind_2 : decode cX9_firstOfKind 2 = .ok (.iload_n 2, 1) := by decide +kernel
theorem dX9_firstOfKind_3 : decode cX9_firstOfKind 3 = .ok (.aload_n 0, 1) := by decide +kernel
theorem dX9_firstOfKind_4 : decode cX9_firstOfKind 4 = .ok (.getfield 39, 3) := by decide +kernel
theorem dX9_firstOfKind_7 : decode cX9_firstOfKind 7 = .ok (.if_icmp .ge 21, 3) := by decide +kernel
theorem dX9_firstOfKind_10 : decode cX9_firstOfKind 10 = .ok (.aload_n 0, 1) := by decide +kernel
theorem dX9_firstOfKind_11 : decode cX9_firstOfKind 11 = .ok (.getfield 9, 3) := by decide +kernel
theorem dX9_firstOfKind_14 : decode cX9_firstOfKind 14 = .ok (.iload_n 2, 1) := by decide +kernel
theorem dX9_firstOfKind_15 : decode cX9_firstOfKind 15 = .ok (.iaload, 1) := by decide +kernel
theorem dX9_firstOfKind_16 : decode cX9_firstOfKind 16 = .ok (.iload_n 1, 1) := by decide +kernel
theorem dX9_firstOfKind_17 : decode cX9_firstOfKind 17 = .ok (.if_icmp .ne 5, 3) := by decide +kernel
theorem dX9_firstOfKind_20 : decode cX9_firstOfKind 20 = .ok (.iload_n 2, 1) := by decide +kernel
theorem dX9_firstOfKind_21 : decode cX9_firstOfKind 21 = .ok (.ireturn, 1) := by decide +kernel
theorem dX9_firstOfKind_22 : decode cX9_firstOfKind 22 = .ok (.iinc 2 1, 3) := by decide +kernel
theorem dX9_firstOfKind_25 : decode cX9_firstOfKind 25 = .ok (.goto (-23), 3) := by decide +kernel
theorem dX9_firstOfKind_28 : decode cX9_firstOfKind 28 = .ok (.iconst (-1), 1) := by decide +kernel
theorem dX9_firstOfKind_29 : decode cX9_firstOfKind 29 = .ok (.ireturn, 1) := by decide +kernel
theorem dX9_firstHolding_0 : decode cX9_firstHolding 0 = .ok (.iconst 0, 1) := by decide +kernel
theorem dX9_firstHolding_1 : decode cX9_firstHolding 1 = .ok (.istore_n 3, 1) := by decide +kernel
theorem dX9_firstHolding_2 : decode cX9_firstHolding 2 = .ok (.iload_n 3, 1) := by decide +kernel
theorem dX9_firstHolding_3 : decode cX9_firstHolding 3 = .ok (.aload_n 0, 1) := by decide +kernel
theorem dX9_firstHolding_4 : decode cX9_firstHolding 4 = .ok (.getfield 39, 3) := by decide +kernel
theorem dX9_firstHolding_7 : decode cX9_firstHolding 7 = .ok (.if_icmp .ge 68, 3) := by decide +kernel
theorem dX9_firstHolding_10 : decode cX9_firstHolding 10 = .ok (.aload_n 0, 1) := by decide +kernel
theorem dX9_firstHolding_11 : decode cX9_firstHolding 11 = .ok (.getfield 24, 3) := by decide +kernel
theorem dX9_firstHolding_14 : decode cX9_firstHolding 14 = .ok (.iload_n 3, 1) := by decide +kernel
theorem dX9_firstHolding_15 : decode cX9_firstHolding 15 = .ok (.iaload, 1) := by decide +kernel
theorem dX9_firstHolding_16 : decode cX9_firstHolding 16 = .ok (.aload_n 0, 1) := by decide +kernel
theorem dX9_firstHolding_17 : decode cX9_firstHolding 17 = .ok (.getfield 27, 3) := by decide +kernel
theorem dX9_firstHolding_20 : decode cX9_firstHolding 20 = .ok (.iload_n 3, 1) := by decide +kernel
theorem dX9_firstHolding_21 : decode cX9_firstHolding 21 = .ok (.iaload, 1) := by decide +kernel
theorem dX9_firstHolding_22 : decode cX9_firstHolding 22 = .ok (.if_icmp .ne 7, 3) := by decide +kernel
theorem dX9_firstHolding_25 : decode cX9_firstHolding 25 = .ok (.iconst 1, 1) := by decide +kernel
theorem dX9_firstHolding_26 : decode cX9_firstHolding 26 = .ok (.goto 4, 3) := by decide +kernel
theorem dX9_firstHolding_29 : decode cX9_firstHolding 29 = .ok (.iconst 0, 1) := by decide +kernel
theorem dX9_firstHolding_30 : decode cX9_firstHolding 30 = .ok (.istore 4, 2) := by decide +kernel
theorem dX9_firstHolding_32 : decode cX9_firstHolding 32 = .ok (.aload_n 0, 1) := by decide +kernel
theorem dX9_firstHolding_33 : decode cX9_firstHolding 33 = .ok (.getfield 9, 3) := by decide +kernel
theorem dX9_firstHolding_36 : decode cX9_firstHolding 36 = .ok (.iload_n 3, 1) := by decide +kernel
theorem dX9_firstHolding_37 : decode cX9_firstHolding 37 = .ok (.iaload, 1) := by decide +kernel
theorem dX9_firstHolding_38 : decode cX9_firstHolding 38 = .ok (.iload_n 1, 1) := by decide +kernel
theorem dX9_firstHolding_39 : decode cX9_firstHolding 39 = .ok (.if_icmp .ne 30, 3) := by decide +kernel
theorem dX9_firstHolding_42 : decode cX9_firstHolding 42 = .ok (.iload 4, 2) := by decide +kernel
theorem dX9_firstHolding_44 : decode cX9_firstHolding 44 = .ok (.ifCond .ne 23, 3) := by decide +kernel
theorem dX9_firstHolding_47 : decode cX9_firstHolding 47 = .ok (.aload_n 0, 1) := by decide +kernel
theorem dX9_firstHolding_48 : decode cX9_firstHolding 48 = .ok (.aload_n 0, 1) := by decide +kernel
theorem dX9_firstHolding_49 : decode cX9_firstHolding 49 = .ok (.getfield 24, 3) := by decide +kernel
theorem dX9_firstHolding_52 : decode cX9_firstHolding 52 = .ok (.iload_n 3, 1) := by decide +kernel
theorem dX9_firstHolding_53 : decode cX9_firstHolding 53 = .ok (.iaload, 1) := by decide +kernel
theorem dX9_firstHolding_54 : decode cX9_firstHolding 54 = .ok (.aload_n 0, 1) := by decide +kernel
theorem dX9_firstHolding_55 : decode cX9_firstHolding 55 = .ok (.getfield 27, 3) := by decide +kernel
theorem dX9_firstHolding_58 : decode cX9_firstHolding 58 = .ok (.iload_n 3, 1) := by decide +kernel
theorem dX9_firstHolding_59 : decode cX9_firstHolding 59 = .ok (.iaload, 1) := by decide +kernel
theorem dX9_firstHolding_60 : decode cX9_firstHolding 60 = .ok (.aload_n 2, 1) := by decide +kernel
theorem dX9_firstHolding_61 : decode cX9_firstHolding 61 = .ok (.invokevirtual 52, 3) := by decide +kernel
theorem dX9_firstHolding_64 : decode cX9_firstHolding 64 = .ok (.ifCond .eq 5, 3) := by decide +kernel
theorem dX9_firstHolding_67 : decode cX9_firstHolding 67 = .ok (.iload_n 3, 1) := by decide +kernel
theorem dX9_firstHolding_68 : decode cX9_firstHolding 68 = .ok (.ireturn, 1) := by decide +kernel
theorem dX9_firstHolding_69 : decode cX9_firstHolding 69 = .ok (.iinc 3 1, 3) := by decide +kernel
theorem dX9_firstHolding_72 : decode cX9_firstHolding 72 = .ok (.goto (-70), 3) := by decide +kernel
theorem dX9_firstHolding_75 : decode cX9_firstHolding 75 = .ok (.iconst (-1), 1) := by decide +kernel
theorem dX9_firstHolding_76 : decode cX9_firstHolding 76 = .ok (.ireturn, 1) := by decide +kernel
theorem dX9_termOf_0 : decode cX9_termOf 0 = .ok (.iload_n 1, 1) := by decide +kernel
theorem dX9_termOf_1 : decode cX9_termOf 1 = .ok (.ifCond .lt 11, 3) := by decide +kernel
theorem dX9_termOf_4 : decode cX9_termOf 4 = .ok (.iload_n 1, 1) := by decide +kernel
theorem dX9_termOf_5 : decode cX9_termOf 5 = .ok (.aload_n 0, 1) := by decide +kernel
theorem dX9_termOf_6 : decode cX9_termOf 6 = .ok (.getfield 39, 3) := by decide +kernel
theorem dX9_termOf_9 : decode cX9_termOf 9 = .ok (.if_icmp .lt 5, 3) := by decide +kernel
theorem dX9_termOf_12 : decode cX9_termOf 12 = .ok (.iconst 0, 1) := by decide +kernel
theorem dX9_termOf_13 : decode cX9_termOf 13 = .ok (.ireturn, 1) := by decide +kernel
theorem dX9_termOf_14 : decode cX9_termOf 14 = .ok (.aload_n 0, 1) := by decide +kernel
theorem dX9_termOf_15 : decode cX9_termOf 15 = .ok (.aload_n 0, 1) := by decide +kernel
theorem dX9_termOf_16 : decode cX9_termOf 16 = .ok (.getfield 21, 3) := by decide +kernel
theorem dX9_termOf_19 : decode cX9_termOf 19 = .ok (.iload_n 1, 1) := by decide +kernel
theorem dX9_termOf_20 : decode cX9_termOf 20 = .ok (.iaload, 1) := by decide +kernel
theorem dX9_termOf_21 : decode cX9_termOf 21 = .ok (.aload_n 0, 1) := by decide +kernel
theorem dX9_termOf_22 : decode cX9_termOf 22 = .ok (.getfield 24, 3) := by decide +kernel
theorem dX9_termOf_25 : decode cX9_termOf 25 = .ok (.iload_n 1, 1) := by decide +kernel
theorem dX9_termOf_26 : decode cX9_termOf 26 = .ok (.iaload, 1) := by decide +kernel
theorem dX9_termOf_27 : decode cX9_termOf 27 = .ok (.aload_n 2, 1) := by decide +kernel
theorem dX9_termOf_28 : decode cX9_termOf 28 = .ok (.invokevirtual 52, 3) := by decide +kernel
theorem dX9_termOf_31 : decode cX9_termOf 31 = .ok (.ireturn, 1) := by decide +kernel
theorem dX9_valueOf_0 : decode cX9_valueOf 0 = .ok (.iconst 0, 1) := by decide +kernel
theorem dX9_valueOf_1 : decode cX9_valueOf 1 = .ok (.istore 4, 2) := by decide +kernel
theorem dX9_valueOf_3 : decode cX9_valueOf 3 = .ok (.iload_n 1, 1) := by decide +kernel
theorem dX9_valueOf_4 : decode cX9_valueOf 4 = .ok (.istore 5, 2) := by decide +kernel
theorem dX9_valueOf_6 : decode cX9_valueOf 6 = .ok (.iload 5, 2) := by decide +kernel
theorem dX9_valueOf_8 : decode cX9_valueOf 8 = .ok (.iload_n 2, 1) := by decide +kernel
theorem dX9_valueOf_9 : decode cX9_valueOf 9 = .ok (.if_icmp .ge 321, 3) := by decide +kernel
theorem dX9_valueOf_12 : decode cX9_valueOf 12 = .ok (.iload 5, 2) := by decide +kernel
theorem dX9_valueOf_14 : decode cX9_valueOf 14 = .ok (.aload_n 0, 1) := by decide +kernel
theorem dX9_valueOf_15 : decode cX9_valueOf 15 = .ok (.getfield 43, 3) := by decide +kernel
theorem dX9_valueOf_18 : decode cX9_valueOf 18 = .ok (.if_icmp .ge 312, 3) := by decide +kernel
theorem dX9_valueOf_21 : decode cX9_valueOf 21 = .ok (.aload_n 0, 1) := by decide +kernel
theorem dX9_valueOf_22 : decode cX9_valueOf 22 = .ok (.getfield 30, 3) := by decide +kernel
theorem dX9_valueOf_25 : decode cX9_valueOf 25 = .ok (.iload 5, 2) := by decide +kernel
theorem dX9_valueOf_27 : decode cX9_valueOf 27 = .ok (.iaload, 1) := by decide +kernel
theorem dX9_valueOf_28 : decode cX9_valueOf 28 = .ok (.istore 6, 2) := by decide +kernel
theorem dX9_valueOf_30 : decode cX9_valueOf 30 = .ok (.iload 6, 2) := by decide +kernel
theorem dX9_valueOf_32 : decode cX9_valueOf 32 = .ok (.bipush 16, 2) := by decide +kernel
theorem dX9_valueOf_34 : decode cX9_valueOf 34 = .ok (.if_icmp .ne 31, 3) := by decide +kernel
theorem dX9_valueOf_37 : decode cX9_valueOf 37 = .ok (.iload 4, 2) := by decide +kernel
theorem dX9_valueOf_39 : decode cX9_valueOf 39 = .ok (.sipush 400, 3) := by decide +kernel
theorem dX9_valueOf_42 : decode cX9_valueOf 42 = .ok (.if_icmp .ge 23, 3) := by decide +kernel
theorem dX9_valueOf_45 : decode cX9_valueOf 45 = .ok (.aload_n 0, 1) := by decide +kernel
theorem dX9_valueOf_46 : decode cX9_valueOf 46 = .ok (.getfield 36, 3) := by decide +kernel
theorem dX9_valueOf_49 : decode cX9_valueOf 49 = .ok (.iload 4, 2) := by decide +kernel
theorem dX9_valueOf_51 : decode cX9_valueOf 51 = .ok (.aload_n 0, 1) := by decide +kernel
theorem dX9_valueOf_52 : decode cX9_valueOf 52 = .ok (.getfield 33, 3) := by decide +kernel
theorem dX9_valueOf_55 : decode cX9_valueOf 55 = .ok (.iload 5, 2) := by decide +kernel
theorem dX9_valueOf_57 : decode cX9_valueOf 57 = .ok (.iaload, 1) := by decide +kernel
theorem dX9_valueOf_58 : decode cX9_valueOf 58 = .ok (.iastore, 1) := by decide +kernel
theorem dX9_valueOf_59 : decode cX9_valueOf 59 = .ok (.iinc 4 1, 3) := by decide +kernel
theorem dX9_valueOf_62 : decode cX9_valueOf 62 = .ok (.goto 262, 3) := by decide +kernel
theorem dX9_valueOf_65 : decode cX9_valueOf 65 = .ok (.iload 6, 2) := by decide +kernel
theorem dX9_valueOf_67 : decode cX9_valueOf 67 = .ok (.ifCond .lt 35, 3) := by decide +kernel
theorem dX9_valueOf_70 : decode cX9_valueOf 70 = .ok (.iload 6, 2) := by decide +kernel
theorem dX9_valueOf_72 : decode cX9_valueOf 72 = .ok (.aload_n 3, 1) := by decide +kernel
theorem dX9_valueOf_73 : decode cX9_valueOf 73 = .ok (.arraylength, 1) := by decide +kernel
theorem dX9_valueOf_74 : decode cX9_valueOf 74 = .ok (.if_icmp .ge 28, 3) := by decide +kernel
theorem dX9_valueOf_77 : decode cX9_valueOf 77 = .ok (.iload 4, 2) := by decide +kernel
theorem dX9_valueOf_79 : decode cX9_valueOf 79 = .ok (.sipush 400, 3) := by decide +kernel
theorem dX9_valueOf_82 : decode cX9_valueOf 82 = .ok (.if_icmp .ge 20, 3) := by decide +kernel
theorem dX9_valueOf_85 : decode cX9_valueOf 85 = .ok (.aload_n 0, 1) := by decide +kernel
theorem dX9_valueOf_86 : decode cX9_valueOf 86 = .ok (.getfield 36, 3) := by decide +kernel
theorem dX9_valueOf_89 : decode cX9_valueOf 89 = .ok (.iload 4, 2) := by decide +kernel
theorem dX9_valueOf_91 : decode cX9_valueOf 91 = .ok (.aload_n 3, 1) := by decide +kernel
theorem dX9_valueOf_92 : decode cX9_valueOf 92 = .ok (.iload 6, 2) := by decide +kernel
theorem dX9_valueOf_94 : decode cX9_valueOf 94 = .ok (.iaload, 1) := by decide +kernel
theorem dX9_valueOf_95 : decode cX9_valueOf 95 = .ok (.iastore, 1) := by decide +kernel
theorem dX9_valueOf_96 : decode cX9_valueOf 96 = .ok (.iinc 4 1, 3) := by decide +kernel
theorem dX9_valueOf_99 : decode cX9_valueOf 99 = .ok (.goto 225, 3) := by decide +kernel
theorem dX9_valueOf_102 : decode cX9_valueOf 102 = .ok (.iload 4, 2) := by decide +kernel
theorem dX9_valueOf_104 : decode cX9_valueOf 104 = .ok (.iconst 2, 1) := by decide +kernel
theorem dX9_valueOf_105 : decode cX9_valueOf 105 = .ok (.if_icmp .lt 219, 3) := by decide +kernel
theorem dX9_valueOf_108 : decode cX9_valueOf 108 = .ok (.aload_n 0, 1) := by decide +kernel
theorem dX9_valueOf_109 : decode cX9_valueOf 109 = .ok (.getfield 36, 3) := by decide +kernel
theorem dX9_valueOf_112 : decode cX9_valueOf 112 = .ok (.iload 4, 2) := by decide +kernel
theorem dX9_valueOf_114 : decode cX9_valueOf 114 = .ok (.iconst 2, 1) := by decide +kernel
theorem dX9_valueOf_115 : decode cX9_valueOf 115 = .ok (.isub, 1) := by decide +kernel
theorem dX9_valueOf_116 : decode cX9_valueOf 116 = .ok (.iaload, 1) := by decide +kernel
theorem dX9_valueOf_117 : decode cX9_valueOf 117 = .ok (.istore 7, 2) := by decide +kernel
theorem dX9_valueOf_119 : decode cX9_valueOf 119 = .ok (.aload_n 0, 1) := by decide +kernel
theorem dX9_valueOf_120 : decode cX9_valueOf 120 = .ok (.getfield 36, 3) := by decide +kernel
theorem dX9_valueOf_123 : decode cX9_valueOf 123 = .ok (.iload 4, 2) := by decide +kernel
theorem dX9_valueOf_125 : decode cX9_valueOf 125 = .ok (.iconst 1, 1) := by decide +kernel
theorem dX9_valueOf_126 : decode cX9_valueOf 126 = .ok (.isub, 1) := by decide +kernel
theorem dX9_valueOf_127 : decode cX9_valueOf 127 = .ok (.iaload, 1) := by decide +kernel
theorem dX9_valueOf_128 : decode cX9_valueOf 128 = .ok (.istore 8, 2) := by decide +kernel
theorem dX9_valueOf_130 : decode cX9_valueOf 130 = .ok (.iconst 0, 1) := by decide +kernel
theorem dX9_valueOf_131 : decode cX9_valueOf 131 = .ok (.istore 9, 2) := by decide +kernel
theorem dX9_valueOf_133 : decode cX9_valueOf 133 = .ok (.iload 6, 2) := by decide +kernel
theorem dX9_valueOf_135 : decode cX9_valueOf 135 = .ok (.tableswitch 175 14 24 #[165, 155, 175, 175, 57, 67, 77, 87, 104, 121, 138], 57) := by decide +kernel
theorem dX9_valueOf_192 : decode cX9_valueOf 192 = .ok (.iload 7, 2) := by decide +kernel
theorem dX9_valueOf_194 : decode cX9_valueOf 194 = .ok (.iload 8, 2) := by decide +kernel
theorem dX9_valueOf_196 : decode cX9_valueOf 196 = .ok (.iadd, 1) := by decide +kernel
theorem dX9_valueOf_197 : decode cX9_valueOf 197 = .ok (.istore 9, 2) := by decide +kernel
theorem dX9_valueOf_199 : decode cX9_valueOf 199 = .ok (.goto 111, 3) := by decide +kernel
theorem dX9_valueOf_202 : decode cX9_valueOf 202 = .ok (.iload 7, 2) := by decide +kernel
theorem dX9_valueOf_204 : decode cX9_valueOf 204 = .ok (.iload 8, 2) := by decide +kernel
theorem dX9_valueOf_206 : decode cX9_valueOf 206 = .ok (.isub, 1) := by decide +kernel
theorem dX9_valueOf_207 : decode cX9_valueOf 207 = .ok (.istore 9, 2) := by decide +kernel
theorem dX9_valueOf_209 : decode cX9_valueOf 209 = .ok (.goto 101, 3) := by decide +kernel
theorem dX9_valueOf_212 : decode cX9_valueOf 212 = .ok (.iload 7, 2) := by decide +kernel
theorem dX9_valueOf_214 : decode cX9_valueOf 214 = .ok (.iload 8, 2) := by decide +kernel
theorem dX9_valueOf_216 : decode cX9_valueOf 216 = .ok (.imul, 1) := by decide +kernel
theorem dX9_valueOf_217 : decode cX9_valueOf 217 = .ok (.istore 9, 2) := by decide +kernel
theorem dX9_valueOf_219 : decode cX9_valueOf 219 = .ok (.goto 91, 3) := by decide +kernel
theorem dX9_valueOf_222 : decode cX9_valueOf 222 = .ok (.iload 7, 2) := by decide +kernel
theorem dX9_valueOf_224 : decode cX9_valueOf 224 = .ok (.iload 8, 2) := by decide +kernel
theorem dX9_valueOf_226 : decode cX9_valueOf 226 = .ok (.if_icmp .ne 7, 3) := by decide +kernel
theorem dX9_valueOf_229 : decode cX9_valueOf 229 = .ok (.iconst 1, 1) := by decide +kernel
theorem dX9_valueOf_230 : decode cX9_valueOf 230 = .ok (.goto 4, 3) := by decide +kernel
theorem dX9_valueOf_233 : decode cX9_valueOf 233 = .ok (.iconst 0, 1) := by decide +kernel
theorem dX9_valueOf_234 : decode cX9_valueOf 234 = .ok (.istore 9, 2) := by decide +kernel
theorem dX9_valueOf_236 : decode cX9_valueOf 236 = .ok (.goto 74, 3) := by decide +kernel
theorem dX9_valueOf_239 : decode cX9_valueOf 239 = .ok (.iload 7, 2) := by decide +kernel
theorem dX9_valueOf_241 : decode cX9_valueOf 241 = .ok (.iload 8, 2) := by decide +kernel
theorem dX9_valueOf_243 : decode cX9_valueOf 243 = .ok (.if_icmp .eq 7, 3) := by decide +kernel
theorem dX9_valueOf_246 : decode cX9_valueOf 246 = .ok (.iconst 1, 1) := by decide +kernel
theorem dX9_valueOf_247 : decode cX9_valueOf 247 = .ok (.goto 4, 3) := by decide +kernel
theorem dX9_valueOf_250 : decode cX9_valueOf 250 = .ok (.iconst 0, 1) := by decide +kernel
theorem dX9_valueOf_251 : decode cX9_valueOf 251 = .ok (.istore 9, 2) := by decide +kernel
theorem dX9_valueOf_253 : decode cX9_valueOf 253 = .ok (.goto 57, 3) := by decide +kernel
theorem dX9_valueOf_256 : decode cX9_valueOf 256 = .ok (.iload 7, 2) := by decide +kernel
theorem dX9_valueOf_258 : decode cX9_valueOf 258 = .ok (.iload 8, 2) := by decide +kernel
theorem dX9_valueOf_260 : decode cX9_valueOf 260 = .ok (.if_icmp .ge 7, 3) := by decide +kernel
theorem dX9_valueOf_263 : decode cX9_valueOf 263 = .ok (.iconst 1, 1) := by decide +kernel
theorem dX9_valueOf_264 : decode cX9_valueOf 264 = .ok (.goto 4, 3) := by decide +kernel
theorem dX9_valueOf_267 : decode cX9_valueOf 267 = .ok (.iconst 0, 1) := by decide +kernel
theorem dX9_valueOf_268 : decode cX9_valueOf 268 = .ok (.istore 9, 2) := by decide +kernel
theorem dX9_valueOf_270 : decode cX9_valueOf 270 = .ok (.goto 40, 3) := by decide +kernel
theorem dX9_valueOf_273 : decode cX9_valueOf 273 = .ok (.iload 7, 2) := by decide +kernel
theorem dX9_valueOf_275 : decode cX9_valueOf 275 = .ok (.iload 8, 2) := by decide +kernel
theorem dX9_valueOf_277 : decode cX9_valueOf 277 = .ok (.if_icmp .gt 7, 3) := by decide +kernel
theorem dX9_valueOf_280 : decode cX9_valueOf 280 = .ok (.iconst 1, 1) := by decide +kernel
theorem dX9_valueOf_281 : decode cX9_valueOf 281 = .ok (.goto 4, 3) := by decide +kernel
theorem dX9_valueOf_284 : decode cX9_valueOf 284 = .ok (.iconst 0, 1) := by decide +kernel
theorem dX9_valueOf_285 : decode cX9_valueOf 285 = .ok (.istore 9, 2) := by decide +kernel
theorem dX9_valueOf_287 : decode cX9_valueOf 287 = .ok (.goto 23, 3) := by decide +kernel
theorem dX9_valueOf_290 : decode cX9_valueOf 290 = .ok (.iload 7, 2) := by decide +kernel
theorem dX9_valueOf_292 : decode cX9_valueOf 292 = .ok (.iload 8, 2) := by decide +kernel
theorem dX9_valueOf_294 : decode cX9_valueOf 294 = .ok (.iand, 1) := by decide +kernel
theorem dX9_valueOf_295 : decode cX9_valueOf 295 = .ok (.istore 9, 2) := by decide +kernel
theorem dX9_valueOf_297 : decode cX9_valueOf 297 = .ok (.goto 13, 3) := by decide +kernel
theorem dX9_valueOf_300 : decode cX9_valueOf 300 = .ok (.iload 7, 2) := by decide +kernel
theorem dX9_valueOf_302 : decode cX9_valueOf 302 = .ok (.iload 8, 2) := by decide +kernel
theorem dX9_valueOf_304 : decode cX9_valueOf 304 = .ok (.ior, 1) := by decide +kernel
theorem dX9_valueOf_305 : decode cX9_valueOf 305 = .ok (.istore 9, 2) := by decide +kernel
theorem dX9_valueOf_307 : decode cX9_valueOf 307 = .ok (.goto 3, 3) := by decide +kernel
theorem dX9_valueOf_310 : decode cX9_valueOf 310 = .ok (.aload_n 0, 1) := by decide +kernel
theorem dX9_valueOf_311 : decode cX9_valueOf 311 = .ok (.getfield 36, 3) := by decide +kernel
theorem dX9_valueOf_314 : decode cX9_valueOf 314 = .ok (.iload 4, 2) := by decide +kernel
theorem dX9_valueOf_316 : decode cX9_valueOf 316 = .ok (.iconst 2, 1) := by decide +kernel
theorem dX9_valueOf_317 : decode cX9_valueOf 317 = .ok (.isub, 1) := by decide +kernel
theorem dX9_valueOf_318 : decode cX9_valueOf 318 = .ok (.iload 9, 2) := by decide +kernel
theorem dX9_valueOf_320 : decode cX9_valueOf 320 = .ok (.iastore, 1) := by decide +kernel
theorem dX9_valueOf_321 : decode cX9_valueOf 321 = .ok (.iinc 4 (-1), 3) := by decide +kernel
theorem dX9_valueOf_324 : decode cX9_valueOf 324 = .ok (.iinc 5 1, 3) := by decide +kernel
theorem dX9_valueOf_327 : decode cX9_valueOf 327 = .ok (.goto (-321), 3) := by decide +kernel
theorem dX9_valueOf_330 : decode cX9_valueOf 330 = .ok (.iload 4, 2) := by decide +kernel
theorem dX9_valueOf_332 : decode cX9_valueOf 332 = .ok (.ifCond .le 12, 3) := by decide +kernel
theorem dX9_valueOf_335 : decode cX9_valueOf 335 = .ok (.aload_n 0, 1) := by decide +kernel
theorem dX9_valueOf_336 : decode cX9_valueOf 336 = .ok (.getfield 36, 3) := by decide +kernel
theorem dX9_valueOf_339 : decode cX9_valueOf 339 = .ok (.iconst 0, 1) := by decide +kernel
theorem dX9_valueOf_340 : decode cX9_valueOf 340 = .ok (.iaload, 1) := by decide +kernel
theorem dX9_valueOf_341 : decode cX9_valueOf 341 = .ok (.goto 4, 3) := by decide +kernel
theorem dX9_valueOf_344 : decode cX9_valueOf 344 = .ok (.iconst 0, 1) := by decide +kernel
theorem dX9_valueOf_345 : decode cX9_valueOf 345 = .ok (.ireturn, 1) := by decide +kernel
theorem dX10_init_0 : decode cX10_init 0 = .ok (.aload_n 0, 1) := by decide +kernel
theorem dX10_init_1 : decode cX10_init 1 = .ok (.invokespecial 3, 3) := by decide +kernel
theorem dX10_init_4 : decode cX10_init 4 = .ok (.aload_n 0, 1) := by decide +kernel
theorem dX10_init_5 : decode cX10_init 5 = .ok (.bipush 24, 2) := by decide +kernel
theorem dX10_init_7 : decode cX10_init 7 = .ok (.newarray .int, 2) := by decide +kernel
theorem dX10_init_9 : decode cX10_init 9 = .ok (.putfield 9, 3) := by decide +kernel
theorem dX10_init_12 : decode cX10_init 12 = .ok (.aload_n 0, 1) := by decide +kernel
theorem dX10_init_13 : decode cX10_init 13 = .ok (.invokevirtual 15, 3) := by decide +kernel
theorem dX10_init_16 : decode cX10_init 16 = .ok (.return_, 1) := by decide +kernel
theorem dX10_clear_0 : decode cX10_clear 0 = .ok (.iconst 0, 1) := by decide +kernel
theorem dX10_clear_1 : decode cX10_clear 1 = .ok (.istore_n 1, 1) := by decide +kernel
theorem dX10_clear_2 : decode cX10_clear 2 = .ok (.iload_n 1, 1) := by decide +kernel
theorem dX10_clear_3 : decode cX10_clear 3 = .ok (.bipush 24, 2) := by decide +kernel
theorem dX10_clear_5 : decode cX10_clear 5 = .ok (.if_icmp .ge 16, 3) := by decide +kernel
theorem dX10_clear_8 : decode cX10_clear 8 = .ok (.aload_n 0, 1) := by decide +kernel
theorem dX10_clear_9 : decode cX10_clear 9 = .ok (.getfield 9, 3) := by decide +kernel
theorem dX10_clear_12 : decode cX10_clear 12 = .ok (.iload_n 1, 1) := by decide +kernel
theorem dX10_clear_13 : decode cX10_clear 13 = .ok (.iconst (-1), 1) := by decide +kernel
theorem dX10_clear_14 : decode cX10_clear 14 = .ok (.iastore, 1) := by decide +kernel
theorem dX10_clear_15 : decode cX10_clear 15 = .ok (.iinc 1 1, 3) := by decide +kernel
theorem dX10_clear_18 : decode cX10_clear 18 = .ok (.goto (-16), 3) := by decide +kernel
theorem dX10_clear_21 : decode cX10_clear 21 = .ok (.return_, 1) := by decide +kernel
theorem dX10_copyFrom_0 : decode cX10_copyFrom 0 = .ok (.aload_n 1, 1) := by decide +kernel
theorem dX10_copyFrom_1 : decode cX10_copyFrom 1 = .ok (.getfield 9, 3) := by decide +kernel
theorem dX10_copyFrom_4 : decode cX10_copyFrom 4 = .ok (.iconst 0, 1) := by decide +kernel
theorem dX10_copyFrom_5 : decode cX10_copyFrom 5 = .ok (.aload_n 0, 1) := by decide +kernel
theorem dX10_copyFrom_6 : decode cX10_copyFrom 6 = .ok (.getfield 9, 3) := by decide +kernel
theorem dX10_copyFrom_9 : decode cX10_copyFrom 9 = .ok (.iconst 0, 1) := by decide +kernel
theorem dX10_copyFrom_10 : decode cX10_copyFrom 10 = .ok (.bipush 24, 2) := by decide +kernel
theorem dX10_copyFrom_12 : decode cX10_copyFrom 12 = .ok (.invokestatic 18, 3) := by decide +kernel
theorem dX10_copyFrom_15 : decode cX10_copyFrom 15 = .ok (.return_, 1) := by decide +kernel
theorem dX10_at_0 : decode cX10_at 0 = .ok (.iload_n 1, 1) := by decide +kernel
theorem dX10_at_1 : decode cX10_at 1 = .ok (.iconst 0, 1) := by decide +kernel
theorem dX10_at_2 : decode cX10_at 2 = .ok (.iconst 5, 1) := by decide +kernel
theorem dX10_at_3 : decode cX10_at 3 = .ok (.invokestatic 24, 3) := by decide +kernel
theorem dX10_at_6 : decode cX10_at 6 = .ok (.ifCond .eq 12, 3) := by decide +kernel
theorem dX10_at_9 : decode cX10_at 9 = .ok (.iload_n 2, 1) := by decide +kernel
theorem dX10_at_10 : decode cX10_at 10 = .ok (.iconst 0, 1) := by decide +kernel
theorem dX10_at_11 : decode cX10_at 11 = .ok (.iconst 3, 1) := by decide +kernel
theorem dX10_at_12 : decode cX10_at 12 = .ok (.invokestatic 24, 3) := by decide +kernel
theorem dX10_at_15 : decode cX10_at 15 = .ok (.ifCond .ne 5, 3) := by decide +kernel
theorem dX10_at_18 : decode cX10_at 18 = .ok (.iconst (-1), 1) := by decide +kernel
theorem dX10_at_19 : decode cX10_at 19 = .ok (.ireturn, 1) := by decide +kernel
theorem dX10_at_20 : decode cX10_at 20 = .ok (.aload_n 0, 1) := by decide +kernel
theorem dX10_at_21 : decode cX10_at 21 = .ok (.getfield 9, 3) := by decide +kernel
theorem dX10_at_24 : decode cX10_at 24 = .ok (.iload_n 1, 1) := by decide +kernel
theorem dX10_at_25 : decode cX10_at 25 = .ok (.iconst 4, 1) := by decide +kernel
theorem dX10_at_26 : decode cX10_at 26 = .ok (.imul, 1) := by decide +kernel
theorem dX10_at_27 : decode cX10_at 27 = .ok (.iload_n 2, 1) := by decide +kernel
theorem dX10_at_28 : decode cX10_at 28 = .ok (.iadd, 1) := by decide +kernel
theorem dX10_at_29 : decode cX10_at 29 = .ok (.iaload, 1) := by decide +kernel
theorem dX10_at_30 : decode cX10_at 30 = .ok (.ireturn, 1) := by decide +kernel
theorem dX10_put_0 : decode cX10_put 0 = .ok (.iload_n 1, 1) := by decide +kernel
theorem dX10_put_1 : decode cX10_put 1 = .ok (.iconst 0, 1) := by decide +kernel
theorem dX10_put_2 : decode cX10_put 2 = .ok (.iconst 5, 1) := by decide +kernel
theorem dX10_put_3 : decode cX10_put 3 = .ok (.invokestatic 24, 3) := by decide +kernel
theorem dX10_put_6 : decode cX10_put 6 = .ok (.ifCond .eq 49, 3) := by decide +kernel
theorem dX10_put_9 : decode cX10_put 9 = .ok (.aload_n 0, 1) := by decide +kernel
theorem dX10_put_10 : decode cX10_put 10 = .ok (.getfield 9, 3) := by decide +kernel
theorem dX10_put_13 : decode cX10_put 13 = .ok (.iload_n 1, 1) := by decide +kernel
theorem dX10_put_14 : decode cX10_put 14 = .ok (.iconst 4, 1) := by decide +kernel
theorem dX10_put_15 : decode cX10_put 15 = .ok (.imul, 1) := by decide +kernel
theorem dX10_put_16 : decode cX10_put 16 = .ok (.iconst 0, 1) := by decide +kernel
theorem dX10_put_17 : decode cX10_put 17 = .ok (.iadd, 1) := by decide +kernel
theorem dX10_put_18 : decode cX10_put 18 = .ok (.iload_n 2, 1) := by decide +kernel
theorem dX10_put_19 : decode cX10_put 19 = .ok (.iastore, 1) := by decide +kernel
theorem dX10_put_20 : decode cX10_put 20 = .ok (.aload_n 0, 1) := by decide +kernel
theorem dX10_put_21 : decode cX10_put 21 = .ok (.getfield 9, 3) := by decide +kernel
theorem dX10_put_24 : decode cX10_put 24 = .ok (.iload_n 1, 1) := by decide +kernel
theorem dX10_put_25 : decode cX10_put 25 = .ok (.iconst 4, 1) := by decide +kernel
theorem dX10_put_26 : decode cX10_put 26 = .ok (.imul, 1) := by decide +kernel
theorem dX10_put_27 : decode cX10_put 27 = .ok (.iconst 1, 1) := by decide +kernel
theorem dX10_put_28 : decode cX10_put 28 = .ok (.iadd, 1) := by decide +kernel
theorem dX10_put_29 : decode cX10_put 29 = .ok (.iload_n 3, 1) := by decide +kernel
theorem dX10_put_30 : decode cX10_put 30 = .ok (.iastore, 1) := by decide +kernel
theorem dX10_put_31 : decode cX10_put 31 = .ok (.aload_n 0, 1) := by decide +kernel
theorem dX10_put_32 : decode cX10_put 32 = .ok (.getfield 9, 3) := by decide +kernel
theorem dX10_put_35 : decode cX10_put 35 = .ok (.iload_n 1, 1) := by decide +kernel
theorem dX10_put_36 : decode cX10_put 36 = .ok (.iconst 4, 1) := by decide +kernel
theorem dX10_put_37 : decode cX10_put 37 = .ok (.imul, 1) := by decide +kernel
theorem dX10_put_38 : decode cX10_put 38 = .ok (.iconst 2, 1) := by decide +kernel
theorem dX10_put_39 : decode cX10_put 39 = .ok (.iadd, 1) := by decide +kernel
theorem dX10_put_40 : decode cX10_put 40 = .ok (.iload 4, 2) := by decide +kernel
theorem dX10_put_42 : decode cX10_put 42 = .ok (.iastore, 1) := by decide +kernel
theorem dX10_put_43 : decode cX10_put 43 = .ok (.aload_n 0, 1) := by decide +kernel
theorem dX10_put_44 : decode cX10_put 44 = .ok (.getfield 9, 3) := by decide +kernel
theorem dX10_put_47 : decode cX10_put 47 = .ok (.iload_n 1, 1) := by decide +kernel
theorem dX10_put_48 : decode cX10_put 48 = .ok (.iconst 4, 1) := by decide +kernel
theorem dX10_put_49 : decode cX10_put 49 = .ok (.imul, 1) := by decide +kernel
theorem dX10_put_50 : decode cX10_put 50 = .ok (.iconst 3, 1) := by decide +kernel
theorem dX10_put_51 : decode cX10_put 51 = .ok (.iadd, 1) := by decide +kernel
theorem dX10_put_52 : decode cX10_put 52 = .ok (.iload 5, 2) := by decide +kernel
theorem dX10_put_54 : decode cX10_put 54 = .ok (.iastore, 1) := by decide +kernel
theorem dX10_put_55 : decode cX10_put 55 = .ok (.return_, 1) := by decide +kernel
theorem dX10_has_0 : decode cX10_has 0 = .ok (.aload_n 0, 1) := by decide +kernel
theorem dX10_has_1 : decode cX10_has 1 = .ok (.iload_n 1, 1) := by decide +kernel
theorem dX10_has_2 : decode cX10_has 2 = .ok (.iconst 1, 1) := by decide +kernel
theorem dX10_has_3 : decode cX10_has 3 = .ok (.invokevirtual 28, 3) := by decide +kernel
theorem dX10_has_6 : decode cX10_has 6 = .ok (.iconst (-1), 1) := by decide +kernel
theorem dX10_has_7 : decode cX10_has 7 = .ok (.if_icmp .eq 7, 3) := by decide +kernel
theorem dX10_has_10 : decode cX10_has 10 = .ok (.iconst 1, 1) := by decide +kernel
theorem dX10_has_11 : decode cX10_has 11 = .ok (.goto 4, 3) := by decide +kernel
theorem dX10_has_14 : decode cX10_has 14 = .ok (.iconst 0, 1) := by decide +kernel
theorem dX10_has_15 : decode cX10_has 15 = .ok (.ireturn, 1) := by decide +kernel
theorem dX10_overlaps_0 : decode cX10_overlaps 0 = .ok (.iload_n 1, 1) := by decide +kernel
theorem dX10_overlaps_1 : decode cX10_overlaps 1 = .ok (.ifCond .lt 9, 3) := by decide +kernel
theorem dX10_overlaps_4 : decode cX10_overlaps 4 = .ok (.iload_n 1, 1) := by decide +kernel
theorem dX10_overlaps_5 : decode cX10_overlaps 5 = .ok (.bipush 6, 2) := by decide +kernel
theorem dX10_overlaps_7 : decode cX10_overlaps 7 = .ok (.if_icmp .lt 5, 3) := by decide +kernel
theorem dX10_overlaps_10 : decode cX10_overlaps 10 = .ok (.iconst 0, 1) := by decide +kernel
theorem dX10_overlaps_11 : decode cX10_overlaps 11 = .ok (.ireturn, 1) := by decide +kernel
theorem dX10_overlaps_12 : decode cX10_overlaps 12 = .ok (.iload_n 1, 1) := by decide +kernel
theorem dX10_overlaps_13 : decode cX10_overlaps 13 = .ok (.iconst 4, 1) := by decide +kernel
theorem dX10_overlaps_14 : decode cX10_overlaps 14 = .ok (.imul, 1) := by decide +kernel
theorem dX10_overlaps_15 : decode cX10_overlaps 15 = .ok (.istore 4, 2) := by decide +kernel
theorem dX10_overlaps_17 : decode cX10_overlaps 17 = .ok (.aload_n 0, 1) := by decide +kernel
theorem dX10_overlaps_18 : decode cX10_overlaps 18 = .ok (.getfield 9, 3) := by decide +kernel
theorem dX10_overlaps_21 : decode cX10_overlaps 21 = .ok (.iload 4, 2) := by decide +kernel
theorem dX10_overlaps_23 : decode cX10_overlaps 23 = .ok (.iconst 1, 1) := by decide +kernel
theorem dX10_overlaps_24 : decode cX10_overlaps 24 = .ok (.iadd, 1) := by decide +kernel
theorem dX10_overlaps_25 : decode cX10_overlaps 25 = .ok (.iaload, 1) := by decide +kernel
theorem dX10_overlaps_26 : decode cX10_overlaps 26 = .ok (.iconst (-1), 1) := by decide +kernel
theorem dX10_overlaps_27 : decode cX10_overlaps 27 = .ok (.if_icmp .eq 33, 3) := by decide +kernel
theorem dX10_overlaps_30 : decode cX10_overlaps 30 = .ok (.aload_n 0, 1) := by decide +kernel
theorem dX10_overlaps_31 : decode cX10_overlaps 31 = .ok (.getfield 9, 3) := by decide +kernel
theorem dX10_overlaps_34 : decode cX10_overlaps 34 = .ok (.iload 4, 2) := by decide +kernel
theorem dX10_overlaps_36 : decode cX10_overlaps 36 = .ok (.iconst 2, 1) := by decide +kernel
theorem dX10_overlaps_37 : decode cX10_overlaps 37 = .ok (.iadd, 1) := by decide +kernel
theorem dX10_overlaps_38 : decode cX10_overlaps 38 = .ok (.iaload, 1) := by decide +kernel
theorem dX10_overlaps_39 : decode cX10_overlaps 39 = .ok (.iload_n 3, 1) := by decide +kernel
theorem dX10_overlaps_40 : decode cX10_overlaps 40 = .ok (.if_icmp .ge 20, 3) := by decide +kernel
theorem dX10_overlaps_43 : decode cX10_overlaps 43 = .ok (.iload_n 2, 1) := by decide +kernel
theorem dX10_overlaps_44 : decode cX10_overlaps 44 = .ok (.aload_n 0, 1) := by decide +kernel
theorem dX10_overlaps_45 : decode cX10_overlaps 45 = .ok (.getfield 9, 3) := by decide +kernel
theorem dX10_overlaps_48 : decode cX10_overlaps 48 = .ok (.iload 4, 2) := by decide +kernel
theorem dX10_overlaps_50 : decode cX10_overlaps 50 = .ok (.iconst 3, 1) := by decide +kernel
theorem dX10_overlaps_51 : decode cX10_overlaps 51 = .ok (.iadd, 1) := by decide +kernel
theorem dX10_overlaps_52 : decode cX10_overlaps 52 = .ok (.iaload, 1) := by decide +kernel
theorem dX10_overlaps_53 : decode cX10_overlaps 53 = .ok (.if_icmp .ge 7, 3) := by decide +kernel
theorem dX10_overlaps_56 : decode cX10_overlaps 56 = .ok (.iconst 1, 1) := by decide +kernel
theorem dX10_overlaps_57 : decode cX10_overlaps 57 = .ok (.goto 4, 3) := by decide +kernel
theorem dX10_overlaps_60 : decode cX10_overlaps 60 = .ok (.iconst 0, 1) := by decide +kernel
theorem dX10_overlaps_61 : decode cX10_overlaps 61 = .ok (.ireturn, 1) := by decide +kernel
theorem dX11_init_0 : decode cX11_init 0 = .ok (.aload_n 0, 1) := by decide +kernel
theorem dX11_init_1 : decode cX11_init 1 = .ok (.invokespecial 1, 3) := by decide +kernel
theorem dX11_init_4 : decode cX11_init 4 = .ok (.aload_n 0, 1) := by decide +kernel
theorem dX11_init_5 : decode cX11_init 5 = .ok (.new 7, 3) := by decide +kernel
theorem dX11_init_8 : decode cX11_init 8 = .ok (.dup, 1) := by decide +kernel
theorem dX11_init_9 : decode cX11_init 9 = .ok (.invokespecial 9, 3) := by decide +kernel
theorem dX11_init_12 : decode cX11_init 12 = .ok (.putfield 10, 3) := by decide +kernel
theorem dX11_init_15 : decode cX11_init 15 = .ok (.aload_n 0, 1) := by decide +kernel
theorem dX11_init_16 : decode cX11_init 16 = .ok (.new 16, 3) := by decide +kernel
theorem dX11_init_19 : decode cX11_init 19 = .ok (.dup, 1) := by decide +kernel
theorem dX11_init_20 : decode cX11_init 20 = .ok (.invokespecial 18, 3) := by decide +kernel
theorem dX11_init_23 : decode cX11_init 23 = .ok (.putfield 19, 3) := by decide +kernel
theorem dX11_init_26 : decode cX11_init 26 = .ok (.aload_n 0, 1) := by decide +kernel
theorem dX11_init_27 : decode cX11_init 27 = .ok (.new 23, 3) := by decide +kernel
theorem dX11_init_30 : decode cX11_init 30 = .ok (.dup, 1) := by decide +kernel
theorem dX11_init_31 : decode cX11_init 31 = .ok (.new 25, 3) := by decide +kernel
theorem dX11_init_34 : decode cX11_init 34 = .ok (.dup, 1) := by decide +kernel
theorem dX11_init_35 : decode cX11_init 35 = .ok (.aload_n 0, 1) := by decide +kernel
theorem dX11_init_36 : decode cX11_init 36 = .ok (.getfield 10, 3) := by decide +kernel
theorem dX11_init_39 : decode cX11_init 39 = .ok (.invokespecial 27, 3) := by decide +kernel
theorem dX11_init_42 : decode cX11_init 42 = .ok (.new 16, 3) := by decide +kernel
theorem dX11_init_45 : decode cX11_init 45 = .ok (.dup, 1) := by decide +kernel
theorem dX11_init_46 : decode cX11_init 46 = .ok (.invokespecial 18, 3) := by decide +kernel
theorem dX11_init_49 : decode cX11_init 49 = .ok (.invokespecial 30, 3) := by decide +kernel
theorem dX11_init_52 : decode cX11_init 52 = .ok (.putfield 33, 3) := by decide +kernel
theorem dX11_init_55 : decode cX11_init 55 = .ok (.aload_n 0, 1) := by decide +kernel
theorem dX11_init_56 : decode cX11_init 56 = .ok (.new 37, 3) := by decide +kernel
theorem dX11_init_59 : decode cX11_init 59 = .ok (.dup, 1) := by decide +kernel
theorem dX11_init_60 : decode cX11_init 60 = .ok (.invokespecial 39, 3) := by decide +kernel
theorem dX11_init_63 : decode cX11_init 63 = .ok (.putfield 40, 3) := by decide +kernel
theorem dX11_init_66 : decode cX11_init 66 = .ok (.aload_n 0, 1) := by decide +kernel
theorem dX11_init_67 : decode cX11_init 67 = .ok (.new 44, 3) := by decide +kernel
theorem dX11_init_70 : decode cX11_init 70 = .ok (.dup, 1) := by decide +kernel
theorem dX11_init_71 : decode cX11_init 71 = .ok (.aload_n 0, 1) := by decide +kernel
theorem dX11_init_72 : decode cX11_init 72 = .ok (.getfield 40, 3) := by decide +kernel
theorem dX11_init_75 : decode cX11_init 75 = .ok (.invokespecial 46, 3) := by decide +kernel
theorem dX11_init_78 : decode cX11_init 78 = .ok (.putfield 49, 3) := by decide +kernel
theorem dX11_init_81 : decode cX11_init 81 = .ok (.aload_n 0, 1) := by decide +kernel
theorem dX11_init_82 : decode cX11_init 82 = .ok (.new 53, 3) := by decide +kernel
theorem dX11_init_85 : decode cX11_init 85 = .ok (.dup, 1) := by decide +kernel
theorem dX11_init_86 : decode cX11_init 86 = .ok (.aload_n 0, 1) := by decide +kernel
theorem dX11_init_87 : decode cX11_init 87 = .ok (.getfield 19, 3) := by decide +kernel
theorem dX11_init_90 : decode cX11_init 90 = .ok (.aload_n 0, 1) := by decide +kernel
theorem dX11_init_91 : decode cX11_init 91 = .ok (.getfield 40, 3) := by decide +kernel
theorem dX11_init_94 : decode cX11_init 94 = .ok (.aload_n 0, 1) := by decide +kernel
theorem dX11_init_95 : decode cX11_init 95 = .ok (.getfield 49, 3) := by decide +kernel
theorem dX11_init_98 : decode cX11_init 98 = .ok (.invokespecial 55, 3) := by decide +kernel
theorem dX11_init_101 : decode cX11_init 101 = .ok (.putfield 58, 3) := by decide +kernel
theorem dX11_init_104 : decode cX11_init 104 = .ok (.aload_n 0, 1) := by decide +kernel
theorem dX11_init_105 : decode cX11_init 105 = .ok (.new 62, 3) := by decide +kernel
theorem dX11_init_108 : decode cX11_init 108 = .ok (.dup, 1) := by decide +kernel
theorem dX11_init_109 : decode cX11_init 109 = .ok (.aload_n 0, 1) := by decide +kernel
theorem dX11_init_110 : decode cX11_init 110 = .ok (.getfield 40, 3) := by decide +kernel
theorem dX11_init_113 : decode cX11_init 113 = .ok (.aload_n 0, 1) := by decide +kernel
theorem dX11_init_114 : decode cX11_init 114 = .ok (.getfield 58, 3) := by decide +kernel
theorem dX11_init_117 : decode cX11_init 117 = .ok (.invokespecial 64, 3) := by decide +kernel
theorem dX11_init_120 : decode cX11_init 120 = .ok (.putfield 67, 3) := by decide +kernel
theorem dX11_init_123 : decode cX11_init 123 = .ok (.aload_n 0, 1) := by decide +kernel
theorem dX11_init_124 : decode cX11_init 124 = .ok (.new 71, 3) := by decide +kernel
theorem dX11_init_127 : decode cX11_init 127 = .ok (.dup, 1) := by decide +kernel
theorem dX11_init_128 : decode cX11_init 128 = .ok (.aload_n 0, 1) := by decide +kernel
theorem dX11_init_129 : decode cX11_init 129 = .ok (.getfield 40, 3) := by decide +kernel
theorem dX11_init_132 : decode cX11_init 132 = .ok (.aload_n 0, 1) := by decide +kernel
theorem dX11_init_133 : decode cX11_init 133 = .ok (.getfield 49, 3) := by decide +kernel
theorem dX11_init_136 : decode cX11_init 136 = .ok (.aload_n 0, 1) := by decide +kernel
theorem dX11_init_137 : decode cX11_init 137 = .ok (.getfield 58, 3) := by decide +kernel
theorem dX11_init_140 : decode cX11_init 140 = .ok (.invokespecial 73, 3) := by decide +kernel
theorem dX11_init_143 : decode cX11_init 143 = .ok (.putfield 76, 3) := by decide +kernel
theorem dX11_init_146 : decode cX11_init 146 = .ok (.aload_n 0, 1) := by decide +kernel
theorem dX11_init_147 : decode cX11_init 147 = .ok (.iconst 5, 1) := by decide +kernel
theorem dX11_init_148 : decode cX11_init 148 = .ok (.anewarray 80, 3) := by decide +kernel
theorem dX11_init_151 : decode cX11_init 151 = .ok (.putfield 82, 3) := by decide +kernel
theorem dX11_init_154 : decode cX11_init 154 = .ok (.iconst 0, 1) := by decide +kernel
theorem dX11_init_155 : decode cX11_init 155 = .ok (.istore_n 1, 1) := by decide +kernel
theorem dX11_init_156 : decode cX11_init 156 = .ok (.iload_n 1, 1) := by decide +kernel
theorem dX11_init_157 : decode cX11_init 157 = .ok (.iconst 5, 1) := by decide +kernel
theorem dX11_init_158 : decode cX11_init 158 = .ok (.if_icmp .ge 23, 3) := by decide +kernel
theorem dX11_init_161 : decode cX11_init 161 = .ok (.aload_n 0, 1) := by decide +kernel
theorem dX11_init_162 : decode cX11_init 162 = .ok (.getfield 82, 3) := by decide +kernel
theorem dX11_init_165 : decode cX11_init 165 = .ok (.iload_n 1, 1) := by decide +kernel
theorem dX11_init_166 : decode cX11_init 166 = .ok (.new 80, 3) := by decide +kernel
theorem dX11_init_169 : decode cX11_init 169 = .ok (.dup, 1) := by decide +kernel
theorem dX11_init_170 : decode cX11_init 170 = .ok (.iload_n 1, 1) := by decide +kernel
theorem dX11_init_171 : decode cX11_init 171 = .ok (.invokespecial 86, 3) := by decide +kernel
theorem dX11_init_174 : decode cX11_init 174 = .ok (.aastore, 1) := by decide +kernel
theorem dX11_init_175 : decode cX11_init 175 = .ok (.iinc 1 1, 3) := by decide +kernel
theorem dX11_init_178 : decode cX11_init 178 = .ok (.goto (-22), 3) := by decide +kernel
theorem dX11_init_181 : decode cX11_init 181 = .ok (.aload_n 0, 1) := by decide +kernel
theorem dX11_init_182 : decode cX11_init 182 = .ok (.iconst 0, 1) := by decide +kernel
theorem dX11_init_183 : decode cX11_init 183 = .ok (.putfield 89, 3) := by decide +kernel
theorem dX11_init_186 : decode cX11_init 186 = .ok (.aload_n 0, 1) := by decide +kernel
theorem dX11_init_187 : decode cX11_init 187 = .ok (.iconst 1, 1) := by decide +kernel
theorem dX11_init_188 : decode cX11_init 188 = .ok (.putfield 93, 3) := by decide +kernel
theorem dX11_init_191 : decode cX11_init 191 = .ok (.aload_n 0, 1) := by decide +kernel
theorem dX11_init_192 : decode cX11_init 192 = .ok (.iconst (-1), 1) := by decide +kernel
theorem dX11_init_193 : decode cX11_init 193 = .ok (.putfield 96, 3) := by decide +kernel
theorem dX11_init_196 : decode cX11_init 196 = .ok (.return_, 1) := by decide +kernel
theorem dX11_feed_0 : decode cX11_feed 0 = .ok (.aload_n 0, 1) := by decide +kernel
theorem dX11_feed_1 : decode cX11_feed 1 = .ok (.getfield 10, 3) := by decide +kernel
theorem dX11_feed_4 : decode cX11_feed 4 = .ok (.getfield 99, 3) := by decide +kernel
theorem dX11_feed_7 : decode cX11_feed 7 = .ok (.sipush 1980, 3) := by decide +kernel
theorem dX11_feed_10 : decode cX11_feed 10 = .ok (.if_icmp .le 5, 3) := by decide +kernel
theorem dX11_feed_13 : decode cX11_feed 13 = .ok (.iconst (-1), 1) := by decide +kernel
theorem dX11_feed_14 : decode cX11_feed 14 = .ok (.ireturn, 1) := by decide +kernel
theorem dX11_feed_15 : decode cX11_feed 15 = .ok (.aload_n 0, 1) := by decide +kernel
theorem dX11_feed_16 : decode cX11_feed 16 = .ok (.getfield 10, 3) := by decide +kernel
theorem dX11_feed_19 : decode cX11_feed 19 = .ok (.iload_n 1, 1) := by decide +kernel
theorem dX11_feed_20 : decode cX11_feed 20 = .ok (.invokevirtual 102, 3) := by decide +kernel
theorem dX11_feed_23 : decode cX11_feed 23 = .ok (.aload_n 0, 1) := by decide +kernel
theorem dX11_feed_24 : decode cX11_feed 24 = .ok (.getfield 10, 3) := by decide +kernel
theorem dX11_feed_27 : decode cX11_feed 27 = .ok (.iload_n 2, 1) := by decide +kernel
theorem dX11_feed_28 : decode cX11_feed 28 = .ok (.invokevirtual 102, 3) := by decide +kernel
theorem dX11_feed_31 : decode cX11_feed 31 = .ok (.aload_n 0, 1) := by decide +kernel
theorem dX11_feed_32 : decode cX11_feed 32 = .ok (.getfield 10, 3) := by decide +kernel
theorem dX11_feed_35 : decode cX11_feed 35 = .ok (.iload_n 3, 1) := by decide +kernel
theorem dX11_feed_36 : decode cX11_feed 36 = .ok (.invokevirtual 102, 3) := by decide +kernel
theorem dX11_feed_39 : decode cX11_feed 39 = .ok (.aload_n 0, 1) := by decide +kernel
theorem dX11_feed_40 : decode cX11_feed 40 = .ok (.getfield 10, 3) := by decide +kernel
theorem dX11_feed_43 : decode cX11_feed 43 = .ok (.iload 4, 2) := by decide +kernel
theorem dX11_feed_45 : decode cX11_feed 45 = .ok (.invokevirtual 102, 3) := by decide +kernel
theorem dX11_feed_48 : decode cX11_feed 48 = .ok (.aload_n 0, 1) := by decide +kernel
theorem dX11_feed_49 : decode cX11_feed 49 = .ok (.getfield 10, 3) := by decide +kernel
theorem dX11_feed_52 : decode cX11_feed 52 = .ok (.iload 5, 2) := by decide +kernel
theorem dX11_feed_54 : decode cX11_feed 54 = .ok (.invokevirtual 102, 3) := by decide +kernel
theorem dX11_feed_57 : decode cX11_feed 57 = .ok (.aload_n 0, 1) := by decide +kernel
theorem dX11_feed_58 : decode cX11_feed 58 = .ok (.getfield 10, 3) := by decide +kernel
theorem dX11_feed_61 : decode cX11_feed 61 = .ok (.getfield 99, 3) := by decide +kernel
theorem dX11_feed_64 : decode cX11_feed 64 = .ok (.ireturn, 1) := by decide +kernel
theorem dX11_back_0 : decode cX11_back 0 = .ok (.iload_n 1, 1) := by decide +kernel
theorem dX11_back_1 : decode cX11_back 1 = .ok (.ifCond .lt 14, 3) := by decide +kernel
theorem dX11_back_4 : decode cX11_back 4 = .ok (.iload_n 1, 1) := by decide +kernel
theorem dX11_back_5 : decode cX11_back 5 = .ok (.aload_n 0, 1) := by decide +kernel
theorem dX11_back_6 : decode cX11_back 6 = .ok (.getfield 10, 3) := by decide +kernel
theorem dX11_back_9 : decode cX11_back 9 = .ok (.getfield 99, 3) := by decide +kernel
theorem dX11_back_12 : decode cX11_back 12 = .ok (.if_icmp .le 5, 3) := by decide +kernel
theorem dX11_back_15 : decode cX11_back 15 = .ok (.iconst (-1), 1) := by decide +kernel
theorem dX11_back_16 : decode cX11_back 16 = .ok (.ireturn, 1) := by decide +kernel
theorem dX11_back_17 : decode cX11_back 17 = .ok (.aload_n 0, 1) := by decide +kernel
theorem dX11_back_18 : decode cX11_back 18 = .ok (.getfield 10, 3) := by decide +kernel
theorem dX11_back_21 : decode cX11_back 21 = .ok (.dup, 1) := by decide +kernel
theorem dX11_back_22 : decode cX11_back 22 = .ok (.getfield 99, 3) := by decide +kernel
theorem dX11_back_25 : decode cX11_back 25 = .ok (.iload_n 1, 1) := by decide +kernel
theorem dX11_back_26 : decode cX11_back 26 = .ok (.isub, 1) := by decide +kernel
theorem dX11_back_27 : decode cX11_back 27 = .ok (.putfield 99, 3) := by decide +kernel
theorem dX11_back_30 : decode cX11_back 30 = .ok (.aload_n 0, 1) := by decide +kernel
theorem dX11_back_31 : decode cX11_back 31 = .ok (.getfield 10, 3) := by decide +kernel
theorem dX11_back_34 : decode cX11_back 34 = .ok (.getfield 99, 3) := by decide +kernel
theorem dX11_back_37 : decode cX11_back 37 = .ok (.ireturn, 1) := by decide +kernel
theorem dX11_read_0 : decode cX11_read 0 = .ok (.aload_n 0, 1) := by decide +kernel
theorem dX11_read_1 : decode cX11_read 1 = .ok (.getfield 33, 3) := by decide +kernel
theorem dX11_read_4 : decode cX11_read 4 = .ok (.invokevirtual 105, 3) := by decide +kernel
theorem dX11_read_7 : decode cX11_read 7 = .ok (.aload_n 0, 1) := by decide +kernel
theorem dX11_read_8 : decode cX11_read 8 = .ok (.getfield 10, 3) := by decide +kernel
theorem dX11_read_11 : decode cX11_read 11 = .ok (.iconst 0, 1) := by decide +kernel
theorem dX11_read_12 : decode cX11_read 12 = .ok (.putfield 99, 3) := by decide +kernel
theorem dX11_read_15 : decode cX11_read 15 = .ok (.aload_n 0, 1) := by decide +kernel
theorem dX11_read_16 : decode cX11_read 16 = .ok (.aload_n 0, 1) := by decide +kernel
theorem dX11_read_17 : decode cX11_read 17 = .ok (.getfield 33, 3) := by decide +kernel
theorem dX11_read_20 : decode cX11_read 20 = .ok (.getfield 108, 3) := by decide +kernel
theorem dX11_read_23 : decode cX11_read 23 = .ok (.putfield 96, 3) := by decide +kernel
theorem dX11_read_26 : decode cX11_read 26 = .ok (.aload_n 0, 1) := by decide +kernel
theorem dX11_read_27 : decode cX11_read 27 = .ok (.getfield 33, 3) := by decide +kernel
theorem dX11_read_30 : decode cX11_read 30 = .ok (.getfield 111, 3) := by decide +kernel
theorem dX11_read_33 : decode cX11_read 33 = .ok (.ifCond .ne 17, 3) := by decide +kernel
theorem dX11_read_36 : decode cX11_read 36 = .ok (.aload_n 0, 1) := by decide +kernel
theorem dX11_read_37 : decode cX11_read 37 = .ok (.getfield 19, 3) := by decide +kernel
theorem dX11_read_40 : decode cX11_read 40 = .ok (.aload_n 0, 1) := by decide +kernel
theorem dX11_read_41 : decode cX11_read 41 = .ok (.getfield 33, 3) := by decide +kernel
theorem dX11_read_44 : decode cX11_read 44 = .ok (.getfield 114, 3) := by decide +kernel
theorem dX11_read_47 : decode cX11_read 47 = .ok (.invokevirtual 117, 3) := by decide +kernel
theorem dX11_read_50 : decode cX11_read 50 = .ok (.aload_n 0, 1) := by decide +kernel
theorem dX11_read_51 : decode cX11_read 51 = .ok (.getfield 33, 3) := by decide +kernel
theorem dX11_read_54 : decode cX11_read 54 = .ok (.getfield 111, 3) := by decide +kernel
theorem dX11_read_57 : decode cX11_read 57 = .ok (.ireturn, 1) := by decide +kernel
theorem dX11_place_0 : decode cX11_place 0 = .ok (.aload_n 0, 1) := by decide +kernel
theorem dX11_place_1 : decode cX11_place 1 = .ok (.getfield 96, 3) := by decide +kernel
theorem dX11_place_4 : decode cX11_place 4 = .ok (.ireturn, 1) := by decide +kernel
theorem dX11_kin_0 : decode cX11_kin 0 = .ok (.iload_n 1, 1) := by decide +kernel
theorem dX11_kin_1 : decode cX11_kin 1 = .ok (.invokestatic 121, 3) := by decide +kernel
theorem dX11_kin_4 : decode cX11_kin 4 = .ok (.ifCond .eq 27, 3) := by decide +kernel
theorem dX11_kin_7 : decode cX11_kin 7 = .ok (.iload_n 2, 1) := by decide +kernel
theorem dX11_kin_8 : decode cX11_kin 8 = .ok (.invokestatic 121, 3) := by decide +kernel
theorem dX11_kin_11 : decode cX11_kin 11 = .ok (.ifCond .eq 20, 3) := by decide +kernel
theorem dX11_kin_14 : decode cX11_kin 14 = .ok (.iload_n 1, 1) := by decide +kernel
theorem dX11_kin_15 : decode cX11_kin 15 = .ok (.iload_n 2, 1) := by decide +kernel
theorem dX11_kin_16 : decode cX11_kin 16 = .ok (.if_icmp .eq 15, 3) := by decide +kernel
theorem dX11_kin_19 : decode cX11_kin 19 = .ok (.aload_n 0, 1) := by decide +kernel
theorem dX11_kin_20 : decode cX11_kin 20 = .ok (.getfield 40, 3) := by decide +kernel
theorem dX11_kin_23 : decode cX11_kin 23 = .ok (.iload_n 1, 1) := by decide +kernel
theorem dX11_kin_24 : decode cX11_kin 24 = .ok (.iload_n 2, 1) := by decide +kernel
theorem dX11_kin_25 : decode cX11_kin 25 = .ok (.invokevirtual 125, 3) := by decide +kernel
theorem dX11_kin_28 : decode cX11_kin 28 = .ok (.ifCond .eq 5, 3) := by decide +kernel
theorem dX11_kin_31 : decode cX11_kin 31 = .ok (.iconst 0, 1) := by decide +kernel
theorem dX11_kin_32 : decode cX11_kin 32 = .ok (.ireturn, 1) := by decide +kernel
theorem dX11_kin_33 : decode cX11_kin 33 = .ok (.aload_n 0, 1) := by decide +kernel
theorem dX11_kin_34 : decode cX11_kin 34 = .ok (.getfield 40, 3) := by decide +kernel
theorem dX11_kin_37 : decode cX11_kin 37 = .ok (.iload_n 1, 1) := by decide +kernel
theorem dX11_kin_38 : decode cX11_kin 38 = .ok (.iload_n 2, 1) := by decide +kernel
theorem dX11_kin_39 : decode cX11_kin 39 = .ok (.invokevirtual 129, 3) := by decide +kernel
theorem dX11_kin_42 : decode cX11_kin 42 = .ok (.iconst 1, 1) := by decide +kernel
theorem dX11_kin_43 : decode cX11_kin 43 = .ok (.ireturn, 1) := by decide +kernel
theorem dX11_breed_0 : decode cX11_breed 0 = .ok (.iload_n 1, 1) := by decide +kernel
theorem dX11_breed_1 : decode cX11_breed 1 = .ok (.iconst 0, 1) := by decide +kernel
theorem dX11_breed_2 : decode cX11_breed 2 = .ok (.iconst 2, 1) := by decide +kernel
theorem dX11_breed_3 : decode cX11_breed 3 = .ok (.invokestatic 133, 3) := by decide +kernel
theorem dX11_breed_6 : decode cX11_breed 6 = .ok (.ifCond .eq 38, 3) := by decide +kernel
theorem dX11_breed_9 : decode cX11_breed 9 = .ok (.iload_n 2, 1) := by decide +kernel
theorem dX11_breed_10 : decode cX11_breed 10 = .ok (.iconst 1, 1) := by decide +kernel
theorem dX11_breed_11 : decode cX11_breed 11 = .ok (.bipush 9, 2) := by decide +kernel
theorem dX11_breed_13 : decode cX11_breed 13 = .ok (.invokestatic 133, 3) := by decide +kernel
theorem dX11_breed_16 : decode cX11_breed 16 = .ok (.ifCond .eq 28, 3) := by decide +kernel
theorem dX11_breed_19 : decode cX11_breed 19 = .ok (.iload_n 3, 1) := by decide +kernel
theorem dX11_breed_20 : decode cX11_breed 20 = .ok (.iconst 0, 1) := by decide +kernel
theorem dX11_breed_21 : decode cX11_breed 21 = .ok (.bipush 99, 2) := by decide +kernel
theorem dX11_breed_23 : decode cX11_breed 23 = .ok (.invokestatic 133, 3) := by decide +kernel
theorem dX11_breed_26 : decode cX11_breed 26 = .ok (.ifCond .eq 18, 3) := by decide +kernel
theorem dX11_breed_29 : decode cX11_breed 29 = .ok (.iload 4, 2) := by decide +kernel
theorem dX11_breed_31 : decode cX11_breed 31 = .ok (.iload_n 3, 1) := by decide +kernel
theorem dX11_breed_32 : decode cX11_breed 32 = .ok (.bipush 99, 2) := by decide +kernel
theorem dX11_breed_34 : decode cX11_breed 34 = .ok (.invokestatic 133, 3) := by decide +kernel
theorem dX11_breed_37 : decode cX11_breed 37 = .ok (.ifCond .eq 7, 3) := by decide +kernel
theorem dX11_breed_40 : decode cX11_breed 40 = .ok (.iconst 1, 1) := by decide +kernel
theorem dX11_breed_41 : decode cX11_breed 41 = .ok (.goto 4, 3) := by decide +kernel
theorem dX11_breed_44 : decode cX11_breed 44 = .ok (.iconst 0, 1) := by decide +kernel
theorem dX11_breed_45 : decode cX11_breed 45 = .ok (.istore 5, 2) := by decide +kernel
theorem dX11_breed_47 : decode cX11_breed 47 = .ok (.iload 5, 2) := by decide +kernel
theorem dX11_breed_49 : decode cX11_breed 49 = .ok (.ifCond .eq 15, 3) := by decide +kernel
theorem dX11_breed_52 : decode cX11_breed 52 = .ok (.aload_n 0, 1) := by decide +kernel
theorem dX11_breed_53 : decode cX11_breed 53 = .ok (.getfield 40, 3) := by decide +kernel
theorem dX11_breed_56 : decode cX11_breed 56 = .ok (.getfield 137, 3) := by decide +kernel
theorem dX11_breed_59 : decode cX11_breed 59 = .ok (.bipush 6, 2) := by decide +kernel
theorem dX11_breed_61 : decode cX11_breed 61 = .ok (.if_icmp .lt 5, 3) := by decide +kernel
theorem dX11_breed_64 : decode cX11_breed 64 = .ok (.iconst (-1), 1) := by decide +kernel
theorem dX11_breed_65 : decode cX11_breed 65 = .ok (.ireturn, 1) := by decide +kernel
theorem dX11_breed_66 : decode cX11_breed 66 = .ok (.aload_n 0, 1) := by decide +kernel
theorem dX11_breed_67 : decode cX11_breed 67 = .ok (.getfield 40, 3) := by decide +kernel
theorem dX11_breed_70 : decode cX11_breed 70 = .ok (.iload_n 1, 1) := by decide +kernel
theorem dX11_breed_71 : decode cX11_breed 71 = .ok (.iload_n 2, 1) := by decide +kernel
theorem dX11_breed_72 : decode cX11_breed 72 = .ok (.iload_n 3, 1) := by decide +kernel
theorem dX11_breed_73 : decode cX11_breed 73 = .ok (.iload 4, 2) := by decide +kernel
theorem dX11_breed_75 : decode cX11_breed 75 = .ok (.invokevirtual 140, 3) := by decide +kernel
theorem dX11_breed_78 : decode cX11_breed 78 = .ok (.ireturn, 1) := by decide +kernel
theorem dX11_dog_0 : decode cX11_dog 0 = .ok (.aload_n 0, 1) := by decide +kernel
theorem dX11_dog_1 : decode cX11_dog 1 = .ok (.iload_n 1, 1) := by decide +kernel
theorem dX11_dog_2 : decode cX11_dog 2 = .ok (.invokevirtual 144, 3) := by decide +kernel
theorem dX11_dog_5 : decode cX11_dog 5 = .ok (.ifCond .eq 39, 3) := by decide +kernel
theorem dX11_dog_8 : decode cX11_dog 8 = .ok (.iload_n 2, 1) := by decide +kernel
theorem dX11_dog_9 : decode cX11_dog 9 = .ok (.invokestatic 147, 3) := by decide +kernel
theorem dX11_dog_12 : decode cX11_dog 12 = .ok (.ifCond .eq 32, 3) := by decide +kernel
theorem dX11_dog_15 : decode cX11_dog 15 = .ok (.iload_n 3, 1) := by decide +kernel
theorem dX11_dog_16 : decode cX11_dog 16 = .ok (.iconst 0, 1) := by decide +kernel
theorem dX11_dog_17 : decode cX11_dog 17 = .ok (.iconst 1, 1) := by decide +kernel
theorem dX11_dog_18 : decode cX11_dog 18 = .ok (.invokestatic 133, 3) := by decide +kernel
theorem dX11_dog_21 : decode cX11_dog 21 = .ok (.ifCond .eq 23, 3) := by decide +kernel
theorem dX11_dog_24 : decode cX11_dog 24 = .ok (.iload 4, 2) := by decide +kernel
theorem dX11_dog_26 : decode cX11_dog 26 = .ok (.invokestatic 121, 3) := by decide +kernel
theorem dX11_dog_29 : decode cX11_dog 29 = .ok (.ifCond .eq 15, 3) := by decide +kernel
theorem dX11_dog_32 : decode cX11_dog 32 = .ok (.iload 5, 2) := by decide +kernel
theorem dX11_dog_34 : decode cX11_dog 34 = .ok (.invokestatic 121, 3) := by decide +kernel
theorem dX11_dog_37 : decode cX11_dog 37 = .ok (.ifCond .eq 7, 3) := by decide +kernel
theorem dX11_dog_40 : decode cX11_dog 40 = .ok (.iconst 1, 1) := by decide +kernel
theorem dX11_dog_41 : decode cX11_dog 41 = .ok (.goto 4, 3) := by decide +kernel
theorem dX11_dog_44 : decode cX11_dog 44 = .ok (.iconst 0, 1) := by decide +kernel
theorem dX11_dog_45 : decode cX11_dog 45 = .ok (.istore 6, 2) := by decide +kernel
theorem dX11_dog_47 : decode cX11_dog 47 = .ok (.iload 6, 2) := by decide +kernel
theorem dX11_dog_49 : decode cX11_dog 49 = .ok (.ifCond .eq 15, 3) := by decide +kernel
theorem dX11_dog_52 : decode cX11_dog 52 = .ok (.aload_n 0, 1) := by decide +kernel
theorem dX11_dog_53 : decode cX11_dog 53 = .ok (.getfield 40, 3) := by decide +kernel
theorem dX11_dog_56 : decode cX11_dog 56 = .ok (.getfield 150, 3) := by decide +kernel
theorem dX11_dog_59 : decode cX11_dog 59 = .ok (.bipush 20, 2) := by decide +kernel
theorem dX11_dog_61 : decode cX11_dog 61 = .ok (.if_icmp .lt 5, 3) := by decide +kernel
theorem dX11_dog_64 : decode cX11_dog 64 = .ok (.iconst (-1), 1) := by decide +kernel
theorem dX11_dog_65 : decode cX11_dog 65 = .ok (.ireturn, 1) := by decide +kernel
theorem dX11_dog_66 : decode cX11_dog 66 = .ok (.aload_n 0, 1) := by decide +kernel
theorem dX11_dog_67 : decode cX11_dog 67 = .ok (.getfield 40, 3) := by decide +kernel
theorem dX11_dog_70 : decode cX11_dog 70 = .ok (.iload_n 1, 1) := by decide +kernel
theorem dX11_dog_71 : decode cX11_dog 71 = .ok (.iload_n 2, 1) := by decide +kernel
theorem dX11_dog_72 : decode cX11_dog 72 = .ok (.iload_n 3, 1) := by decide +kernel
theorem dX11_dog_73 : decode cX11_dog 73 = .ok (.iload 4, 2) := by decide +kernel
theorem dX11_dog_75 : decode cX11_dog 75 = .ok (.iload 5, 2) := by decide +kernel
theorem dX11_dog_77 : decode cX11_dog 77 = .ok (.invokevirtual 153, 3) := by decide +kernel
theorem dX11_dog_80 : decode cX11_dog 80 = .ok (.ireturn, 1) := by decide +kernel
theorem dX11_permits_0 : decode cX11_permits 0 = .ok (.iload_n 1, 1) := by decide +kernel
theorem dX11_permits_1 : decode cX11_permits 1 = .ok (.invokestatic 121, 3) := by decide +kernel
theorem dX11_permits_4 : decode cX11_permits 4 = .ok (.ifCond .eq 13, 3) := by decide +kernel
theorem dX11_permits_7 : decode cX11_permits 7 = .ok (.iload_n 2, 1) := by decide +kernel
theorem dX11_permits_8 : decode cX11_permits 8 = .ok (.iconst 0, 1) := by decide +kernel
theorem dX11_permits_9 : decode cX11_permits 9 = .ok (.bipush 63, 2) := by decide +kernel
theorem dX11_permits_11 : decode cX11_permits 11 = .ok (.invokestatic 133, 3) := by decide +kernel
theorem dX11_permits_14 : decode cX11_permits 14 = .ok (.ifCond .ne 5, 3) := by decide +kernel
theorem dX11_permits_17 : decode cX11_permits 17 = .ok (.iconst 0, 1) := by decide +kernel
theorem dX11_permits_18 : decode cX11_permits 18 = .ok (.ireturn, 1) := by decide +kernel
theorem dX11_permits_19 : decode cX11_permits 19 = .ok (.aload_n 0, 1) := by decide +kernel
theorem dX11_permits_20 : decode cX11_permits 20 = .ok (.getfield 40, 3) := by decide +kernel
theorem dX11_permits_23 : decode cX11_permits 23 = .ok (.getfield 157, 3) := by decide +kernel
theorem dX11_permits_26 : decode cX11_permits 26 = .ok (.iload_n 1, 1) := by decide +kernel
theorem dX11_permits_27 : decode cX11_permits 27 = .ok (.iload_n 2, 1) := by decide +kernel
theorem dX11_permits_28 : decode cX11_permits 28 = .ok (.iastore, 1) := by decide +kernel
theorem dX11_permits_29 : decode cX11_permits 29 = .ok (.iconst 1, 1) := by decide +kernel
theorem dX11_permits_30 : decode cX11_permits 30 = .ok (.ireturn, 1) := by decide +kernel
theorem dX11_rings_0 : decode cX11_rings 0 = .ok (.iload_n 1, 1) := by decide +kernel
theorem dX11_rings_1 : decode cX11_rings 1 = .ok (.iconst 1, 1) := by decide +kernel
theorem dX11_rings_2 : decode cX11_rings 2 = .ok (.iconst 3, 1) := by decide +kernel
theorem dX11_rings_3 : decode cX11_rings 3 = .ok (.invokestatic 133, 3) := by decide +kernel
theorem dX11_rings_6 : decode cX11_rings 6 = .ok (.ifCond .ne 5, 3) := by decide +kernel
theorem dX11_rings_9 : decode cX11_rings 9 = .ok (.iconst 0, 1) := by decide +kernel
theorem dX11_rings_10 : decode cX11_rings 10 = .ok (.ireturn, 1) := by decide +kernel
theorem dX11_rings_11 : decode cX11_rings 11 = .ok (.aload_n 0, 1) := by decide +kernel
theorem dX11_rings_12 : decode cX11_rings 12 = .ok (.iload_n 1, 1) := by decide +kernel
theorem dX11_rings_13 : decode cX11_rings 13 = .ok (.putfield 93, 3) := by decide +kernel
theorem dX11_rings_16 : decode cX11_rings 16 = .ok (.iconst 1, 1) := by decide +kernel
theorem dX11_rings_17 : decode cX11_rings 17 = .ok (.ireturn, 1) := by decide +kernel
theorem dX11_show_0 : decode cX11_show 0 = .ok (.aload_n 0, 1) := by decide +kernel
theorem dX11_show_1 : decode cX11_show 1 = .ok (.getfield 89, 3) := by decide +kernel
theorem dX11_show_4 : decode cX11_show 4 = .ok (.iconst 5, 1) := by decide +kernel
theorem dX11_show_5 : decode cX11_show 5 = .ok (.if_icmp .ge 10, 3) := by decide +kernel
theorem dX11_show_8 : decode cX11_show 8 = .ok (.iload_n 1, 1) := by decide +kernel
theorem dX11_show_9 : decode cX11_show 9 = .ok (.invokestatic 147, 3) := by decide +kernel
theorem dX11_show_12 : decode cX11_show 12 = .ok (.ifCond .ne 5, 3) := by decide +kernel
theorem dX11_show_15 : decode cX11_show 15 = .ok (.iconst (-1), 1) := by decide +kernel
theorem dX11_show_16 : decode cX11_show 16 = .ok (.ireturn, 1) := by decide +kernel
theorem dX11_show_17 : decode cX11_show 17 = .ok (.aload_n 0, 1) := by decide +kernel
theorem dX11_show_18 : decode cX11_show 18 = .ok (.getfield 89, 3) := by decide +kernel
theorem dX11_show_21 : decode cX11_show 21 = .ok (.ifCond .le 23, 3) := by decide +kernel
theorem dX11_show_24 : decode cX11_show 24 = .ok (.iload_n 1, 1) := by decide +kernel
theorem dX11_show_25 : decode cX11_show 25 = .ok (.aload_n 0, 1) := by decide +kernel
theorem dX11_show_26 : decode cX11_show 26 = .ok (.getfield 82, 3) := by decide +kernel
theorem dX11_show_29 : decode cX11_show 29 = .ok (.aload_n 0, 1) := by decide +kernel
theorem dX11_show_30 : decode cX11_show 30 = .ok (.getfield 89, 3) := by decide +kernel
theorem dX11_show_33 : decode cX11_show 33 = .ok (.iconst 1, 1) := by decide +kernel
theorem dX11_show_34 : decode cX11_show 34 = .ok (.isub, 1) := by decide +kernel
theorem dX11_show_35 : decode cX11_show 35 = .ok (.aaload, 1) := by decide +kernel
theorem dX11_show_36 : decode cX11_show 36 = .ok (.getfield 161, 3) := by decide +kernel
theorem dX11_show_39 : decode cX11_show 39 = .ok (.if_icmp .gt 5, 3) := by decide +kernel
theorem dX11_show_42 : decode cX11_show 42 = .ok (.iconst (-1), 1) := by decide +kernel
theorem dX11_show_43 : decode cX11_show 43 = .ok (.ireturn, 1) := by decide +kernel
theorem dX11_show_44 : decode cX11_show 44 = .ok (.aload_n 0, 1) := by decide +kernel
theorem dX11_show_45 : decode cX11_show 45 = .ok (.getfield 82, 3) := by decide +kernel
theorem dX11_show_48 : decode cX11_show 48 = .ok (.aload_n 0, 1) := by decide +kernel
theorem dX11_show_49 : decode cX11_show 49 = .ok (.getfield 89, 3) := by decide +kernel
theorem dX11_show_52 : decode cX11_show 52 = .ok (.aaload, 1) := by decide +kernel
theorem dX11_show_53 : decode cX11_show 53 = .ok (.iload_n 1, 1) := by decide +kernel
theorem dX11_show_54 : decode cX11_show 54 = .ok (.putfield 161, 3) := by decide +kernel
theorem dX11_show_57 : decode cX11_show 57 = .ok (.aload_n 0, 1) := by decide +kernel
theorem dX11_show_58 : decode cX11_show 58 = .ok (.dup, 1) := by decide +kernel
theorem dX11_show_59 : decode cX11_show 59 = .ok (.getfield 89, 3) := by decide +kernel
theorem dX11_show_62 : decode cX11_show 62 = .ok (.iconst 1, 1) := by decide +kernel
theorem dX11_show_63 : decode cX11_show 63 = .ok (.iadd, 1) := by decide +kernel
theorem dX11_show_64 : decode cX11_show 64 = .ok (.putfield 89, 3) := by decide +kernel
theorem dX11_show_67 : decode cX11_show 67 = .ok (.aload_n 0, 1) := by decide +kernel
theorem dX11_show_68 : decode cX11_show 68 = .ok (.getfield 89, 3) := by decide +kernel
theorem dX11_show_71 : decode cX11_show 71 = .ok (.iconst 1, 1) := by decide +kernel
theorem dX11_show_72 : decode cX11_show 72 = .ok (.isub, 1) := by decide +kernel
theorem dX11_show_73 : decode cX11_show 73 = .ok (.ireturn, 1) := by decide +kernel
theorem dX11_enter_0 : decode cX11_enter 0 = .ok (.aload_n 0, 1) := by decide +kernel
theorem dX11_enter_1 : decode cX11_enter 1 = .ok (.iload_n 1, 1) := by decide +kernel
theorem dX11_enter_2 : decode cX11_enter 2 = .ok (.invokevirtual 164, 3) := by decide +kernel
theorem dX11_enter_5 : decode cX11_enter 5 = .ok (.ifCond .eq 24, 3) := by decide +kernel
theorem dX11_enter_8 : decode cX11_enter 8 = .ok (.aload_n 0, 1) := by decide +kernel
theorem dX11_enter_9 : decode cX11_enter 9 = .ok (.iload_n 2, 1) := by decide +kernel
theorem dX11_enter_10 : decode cX11_enter 10 = .ok (.invokevirtual 167, 3) := by decide +kernel
theorem dX11_enter_13 : decode cX11_enter 13 = .ok (.ifCond .eq 16, 3) := by decide +kernel
theorem dX11_enter_16 : decode cX11_enter 16 = .ok (.aload_n 0, 1) := by decide +kernel
theorem dX11_enter_17 : decode cX11_enter 17 = .ok (.getfield 82, 3) := by decide +kernel
theorem dX11_enter_20 : decode cX11_enter 20 = .ok (.iload_n 1, 1) := by decide +kernel
theorem dX11_enter_21 : decode cX11_enter 21 = .ok (.aaload, 1) := by decide +kernel
theorem dX11_enter_22 : decode cX11_enter 22 = .ok (.iload_n 2, 1) := by decide +kernel
theorem dX11_enter_23 : decode cX11_enter 23 = .ok (.invokevirtual 170, 3) := by decide +kernel
theorem dX11_enter_26 : decode cX11_enter 26 = .ok (.ifCond .eq 5, 3) := by decide +kernel
theorem dX11_enter_29 : decode cX11_enter 29 = .ok (.iconst (-1), 1) := by decide +kernel
theorem dX11_enter_30 : decode cX11_enter 30 = .ok (.ireturn, 1) := by decide +kernel
theorem dX11_enter_31 : decode cX11_enter 31 = .ok (.aload_n 0, 1) := by decide +kernel
theorem dX11_enter_32 : decode cX11_enter 32 = .ok (.getfield 58, 3) := by decide +kernel
theorem dX11_enter_35 : decode cX11_enter 35 = .ok (.aload_n 0, 1) := by decide +kernel
theorem dX11_enter_36 : decode cX11_enter 36 = .ok (.getfield 82, 3) := by decide +kernel
theorem dX11_enter_39 : decode cX11_enter 39 = .ok (.iload_n 1, 1) := by decide +kernel
theorem dX11_enter_40 : decode cX11_enter 40 = .ok (.aaload, 1) := by decide +kernel
theorem dX11_enter_41 : decode cX11_enter 41 = .ok (.iload_n 2, 1) := by decide +kernel
theorem dX11_enter_42 : decode cX11_enter 42 = .ok (.invokevirtual 173, 3) := by decide +kernel
theorem dX11_enter_45 : decode cX11_enter 45 = .ok (.istore_n 3, 1) := by decide +kernel
theorem dX11_enter_46 : decode cX11_enter 46 = .ok (.iload_n 3, 1) := by decide +kernel
theorem dX11_enter_47 : decode cX11_enter 47 = .ok (.iconst (-1), 1) := by decide +kernel
theorem dX11_enter_48 : decode cX11_enter 48 = .ok (.if_icmp .ne 6, 3) := by decide +kernel
theorem dX11_enter_51 : decode cX11_enter 51 = .ok (.bipush (-2), 2) := by decide +kernel
theorem dX11_enter_53 : decode cX11_enter 53 = .ok (.ireturn, 1) := by decide +kernel
theorem dX11_enter_54 : decode cX11_enter 54 = .ok (.aload_n 0, 1) := by decide +kernel
theorem dX11_enter_55 : decode cX11_enter 55 = .ok (.getfield 82, 3) := by decide +kernel
theorem dX11_enter_58 : decode cX11_enter 58 = .ok (.iload_n 1, 1) := by decide +kernel
theorem dX11_enter_59 : decode cX11_enter 59 = .ok (.aaload, 1) := by decide +kernel
theorem dX11_enter_60 : decode cX11_enter 60 = .ok (.getfield 177, 3) := by decide +kernel
theorem dX11_enter_63 : decode cX11_enter 63 = .ok (.aload_n 0, 1) := by decide +kernel
theorem dX11_enter_64 : decode cX11_enter 64 = .ok (.getfield 40, 3) := by decide +kernel
theorem dX11_enter_67 : decode cX11_enter 67 = .ok (.getfield 181, 3) := by decide +kernel
theorem dX11_enter_70 : decode cX11_enter 70 = .ok (.iload_n 2, 1) := by decide +kernel
theorem dX11_enter_71 : decode cX11_enter 71 = .ok (.iaload, 1) := by decide +kernel
theorem dX11_enter_72 : decode cX11_enter 72 = .ok (.invokevirtual 184, 3) := by decide +kernel
theorem dX11_enter_75 : decode cX11_enter 75 = .ok (.ifCond .eq 6, 3) := by decide +kernel
theorem dX11_enter_78 : decode cX11_enter 78 = .ok (.bipush (-3), 2) := by decide +kernel
theorem dX11_enter_80 : decode cX11_enter 80 = .ok (.ireturn, 1) := by decide +kernel
theorem dX11_enter_81 : decode cX11_enter 81 = .ok (.aload_n 0, 1) := by decide +kernel
theorem dX11_enter_82 : decode cX11_enter 82 = .ok (.getfield 82, 3) := by decide +kernel
theorem dX11_enter_85 : decode cX11_enter 85 = .ok (.iload_n 1, 1) := by decide +kernel
theorem dX11_enter_86 : decode cX11_enter 86 = .ok (.aaload, 1) := by decide +kernel
theorem dX11_enter_87 : decode cX11_enter 87 = .ok (.iload_n 2, 1) := by decide +kernel
theorem dX11_enter_88 : decode cX11_enter 88 = .ok (.invokevirtual 189, 3) := by decide +kernel
theorem dX11_enter_91 : decode cX11_enter 91 = .ok (.iload_n 3, 1) := by decide +kernel
theorem dX11_enter_92 : decode cX11_enter 92 = .ok (.ireturn, 1) := by decide +kernel
theorem dX11_fact_0 : decode cX11_fact 0 = .ok (.aload_n 0, 1) := by decide +kernel
theorem dX11_fact_1 : decode cX11_fact 1 = .ok (.iload_n 2, 1) := by decide +kernel
theorem dX11_fact_2 : decode cX11_fact 2 = .ok (.invokevirtual 164, 3) := by decide +kernel
theorem dX11_fact_5 : decode cX11_fact 5 = .ok (.ifCond .eq 33, 3) := by decide +kernel
theorem dX11_fact_8 : decode cX11_fact 8 = .ok (.aload_n 0, 1) := by decide +kernel
theorem dX11_fact_9 : decode cX11_fact 9 = .ok (.iload_n 3, 1) := by decide +kernel
theorem dX11_fact_10 : decode cX11_fact 10 = .ok (.invokevirtual 167, 3) := by decide +kernel
theorem dX11_fact_13 : decode cX11_fact 13 = .ok (.ifCond .eq 25, 3) := by decide +kernel
theorem dX11_fact_16 : decode cX11_fact 16 = .ok (.iload_n 1, 1) := by decide +kernel
theorem dX11_fact_17 : decode cX11_fact 17 = .ok (.iload 4, 2) := by decide +kernel
theorem dX11_fact_19 : decode cX11_fact 19 = .ok (.invokestatic 192, 3) := by decide +kernel
theorem dX11_fact_22 : decode cX11_fact 22 = .ok (.ifCond .eq 16, 3) := by decide +kernel
theorem dX11_fact_25 : decode cX11_fact 25 = .ok (.aload_n 0, 1) := by decide +kernel
theorem dX11_fact_26 : decode cX11_fact 26 = .ok (.getfield 49, 3) := by decide +kernel
theorem dX11_fact_29 : decode cX11_fact 29 = .ok (.getfield 195, 3) := by decide +kernel
theorem dX11_fact_32 : decode cX11_fact 32 = .ok (.sipush 200, 3) := by decide +kernel
theorem dX11_fact_35 : decode cX11_fact 35 = .ok (.if_icmp .lt 5, 3) := by decide +kernel
theorem dX11_fact_38 : decode cX11_fact 38 = .ok (.iconst (-1), 1) := by decide +kernel
theorem dX11_fact_39 : decode cX11_fact 39 = .ok (.ireturn, 1) := by decide +kernel
theorem dX11_fact_40 : decode cX11_fact 40 = .ok (.aload_n 0, 1) := by decide +kernel
theorem dX11_fact_41 : decode cX11_fact 41 = .ok (.getfield 49, 3) := by decide +kernel
theorem dX11_fact_44 : decode cX11_fact 44 = .ok (.iload_n 1, 1) := by decide +kernel
theorem dX11_fact_45 : decode cX11_fact 45 = .ok (.iload_n 2, 1) := by decide +kernel
theorem dX11_fact_46 : decode cX11_fact 46 = .ok (.iload_n 3, 1) := by decide +kernel
theorem dX11_fact_47 : decode cX11_fact 47 = .ok (.iload 4, 2) := by decide +kernel
theorem dX11_fact_49 : decode cX11_fact 49 = .ok (.iconst (-1), 1) := by decide +kernel
theorem dX11_fact_50 : decode cX11_fact 50 = .ok (.invokevirtual 198, 3) := by decide +kernel
theorem dX11_fact_53 : decode cX11_fact 53 = .ok (.ireturn, 1) := by decide +kernel
theorem dX11_owned_0 : decode cX11_owned 0 = .ok (.aload_n 0, 1) := by decide +kernel
theorem dX11_owned_1 : decode cX11_owned 1 = .ok (.iload_n 1, 1) := by decide +kernel
theorem dX11_owned_2 : decode cX11_owned 2 = .ok (.invokevirtual 167, 3) := by decide +kernel
theorem dX11_owned_5 : decode cX11_owned 5 = .ok (.ifCond .eq 30, 3) := by decide +kernel
theorem dX11_owned_8 : decode cX11_owned 8 = .ok (.iload_n 2, 1) := by decide +kernel
theorem dX11_owned_9 : decode cX11_owned 9 = .ok (.invokestatic 121, 3) := by decide +kernel
theorem dX11_owned_12 : decode cX11_owned 12 = .ok (.ifCond .eq 23, 3) := by decide +kernel
theorem dX11_owned_15 : decode cX11_owned 15 = .ok (.iload_n 3, 1) := by decide +kernel
theorem dX11_owned_16 : decode cX11_owned 16 = .ok (.invokestatic 147, 3) := by decide +kernel
theorem dX11_owned_19 : decode cX11_owned 19 = .ok (.ifCond .eq 16, 3) := by decide +kernel
theorem dX11_owned_22 : decode cX11_owned 22 = .ok (.aload_n 0, 1) := by decide +kernel
theorem dX11_owned_23 : decode cX11_owned 23 = .ok (.getfield 49, 3) := by decide +kernel
theorem dX11_owned_26 : decode cX11_owned 26 = .ok (.getfield 195, 3) := by decide +kernel
theorem dX11_owned_29 : decode cX11_owned 29 = .ok (.sipush 200, 3) := by decide +kernel
theorem dX11_owned_32 : decode cX11_owned 32 = .ok (.if_icmp .lt 5, 3) := by decide +kernel
theorem dX11_owned_35 : decode cX11_owned 35 = .ok (.iconst (-1), 1) := by decide +kernel
theorem dX11_owned_36 : decode cX11_owned 36 = .ok (.ireturn, 1) := by decide +kernel
theorem dX11_owned_37 : decode cX11_owned 37 = .ok (.aload_n 0, 1) := by decide +kernel
theorem dX11_owned_38 : decode cX11_owned 38 = .ok (.getfield 49, 3) := by decide +kernel
theorem dX11_owned_41 : decode cX11_owned 41 = .ok (.iconst 4, 1) := by decide +kernel
theorem dX11_owned_42 : decode cX11_owned 42 = .ok (.iconst (-1), 1) := by decide +kernel
theorem dX11_owned_43 : decode cX11_owned 43 = .ok (.iload_n 1, 1) := by decide +kernel
theorem dX11_owned_44 : decode cX11_owned 44 = .ok (.iload_n 2, 1) := by decide +kernel
theorem dX11_owned_45 : decode cX11_owned 45 = .ok (.iload_n 3, 1) := by decide +kernel
theorem dX11_owned_46 : decode cX11_owned 46 = .ok (.invokevirtual 198, 3) := by decide +kernel
theorem dX11_owned_49 : decode cX11_owned 49 = .ok (.ireturn, 1) := by decide +kernel
theorem dX11_plan_0 : decode cX11_plan 0 = .ok (.aload_n 0, 1) := by decide +kernel
theorem dX11_plan_1 : decode cX11_plan 1 = .ok (.iload_n 1, 1) := by decide +kernel
theorem dX11_plan_2 : decode cX11_plan 2 = .ok (.invokevirtual 164, 3) := by decide +kernel
theorem dX11_plan_5 : decode cX11_plan 5 = .ok (.ifCond .eq 11, 3) := by decide +kernel
theorem dX11_plan_8 : decode cX11_plan 8 = .ok (.aload_n 0, 1) := by decide +kernel
theorem dX11_plan_9 : decode cX11_plan 9 = .ok (.iload_n 2, 1) := by decide +kernel
theorem dX11_plan_10 : decode cX11_plan 10 = .ok (.invokevirtual 201, 3) := by decide +kernel
theorem dX11_plan_13 : decode cX11_plan 13 = .ok (.ifCond .ne 5, 3) := by decide +kernel
theorem dX11_plan_16 : decode cX11_plan 16 = .ok (.iconst (-1), 1) := by decide +kernel
theorem dX11_plan_17 : decode cX11_plan 17 = .ok (.ireturn, 1) := by decide +kernel
theorem dX11_plan_18 : decode cX11_plan 18 = .ok (.aload_n 0, 1) := by decide +kernel
theorem dX11_plan_19 : decode cX11_plan 19 = .ok (.getfield 67, 3) := by decide +kernel
theorem dX11_plan_22 : decode cX11_plan 22 = .ok (.aload_n 0, 1) := by decide +kernel
theorem dX11_plan_23 : decode cX11_plan 23 = .ok (.getfield 82, 3) := by decide +kernel
theorem dX11_plan_26 : decode cX11_plan 26 = .ok (.iload_n 1, 1) := by decide +kernel
theorem dX11_plan_27 : decode cX11_plan 27 = .ok (.aaload, 1) := by decide +kernel
theorem dX11_plan_28 : decode cX11_plan 28 = .ok (.iload_n 2, 1) := by decide +kernel
theorem dX11_plan_29 : decode cX11_plan 29 = .ok (.aload_n 0, 1) := by decide +kernel
theorem dX11_plan_30 : decode cX11_plan 30 = .ok (.getfield 93, 3) := by decide +kernel
theorem dX11_plan_33 : decode cX11_plan 33 = .ok (.invokevirtual 204, 3) := by decide +kernel
theorem dX11_plan_36 : decode cX11_plan 36 = .ok (.ifCond .ne 6, 3) := by decide +kernel
theorem dX11_plan_39 : decode cX11_plan 39 = .ok (.bipush (-2), 2) := by decide +kernel
theorem dX11_plan_41 : decode cX11_plan 41 = .ok (.ireturn, 1) := by decide +kernel
theorem dX11_plan_42 : decode cX11_plan 42 = .ok (.aload_n 0, 1) := by decide +kernel
theorem dX11_plan_43 : decode cX11_plan 43 = .ok (.getfield 82, 3) := by decide +kernel
theorem dX11_plan_46 : decode cX11_plan 46 = .ok (.iload_n 1, 1) := by decide +kernel
theorem dX11_plan_47 : decode cX11_plan 47 = .ok (.aaload, 1) := by decide +kernel
theorem dX11_plan_48 : decode cX11_plan 48 = .ok (.getfield 177, 3) := by decide +kernel
theorem dX11_plan_51 : decode cX11_plan 51 = .ok (.aload_n 0, 1) := by decide +kernel
theorem dX11_plan_52 : decode cX11_plan 52 = .ok (.getfield 67, 3) := by decide +kernel
theorem dX11_plan_55 : decode cX11_plan 55 = .ok (.getfield 208, 3) := by decide +kernel
theorem dX11_plan_58 : decode cX11_plan 58 = .ok (.invokevirtual 211, 3) := by decide +kernel
theorem dX11_plan_61 : decode cX11_plan 61 = .ok (.aload_n 0, 1) := by decide +kernel
theorem dX11_plan_62 : decode cX11_plan 62 = .ok (.getfield 67, 3) := by decide +kernel
theorem dX11_plan_65 : decode cX11_plan 65 = .ok (.getfield 214, 3) := by decide +kernel
theorem dX11_plan_68 : decode cX11_plan 68 = .ok (.ireturn, 1) := by decide +kernel
theorem dX11_planned_0 : decode cX11_planned 0 = .ok (.aload_n 0, 1) := by decide +kernel
theorem dX11_planned_1 : decode cX11_planned 1 = .ok (.iload_n 1, 1) := by decide +kernel
theorem dX11_planned_2 : decode cX11_planned 2 = .ok (.invokevirtual 164, 3) := by decide +kernel
theorem dX11_planned_5 : decode cX11_planned 5 = .ok (.ifCond .eq 20, 3) := by decide +kernel
theorem dX11_planned_8 : decode cX11_planned 8 = .ok (.aload_n 0, 1) := by decide +kernel
theorem dX11_planned_9 : decode cX11_planned 9 = .ok (.iload_n 2, 1) := by decide +kernel
theorem dX11_planned_10 : decode cX11_planned 10 = .ok (.invokevirtual 144, 3) := by decide +kernel
theorem dX11_planned_13 : decode cX11_planned 13 = .ok (.ifCond .eq 12, 3) := by decide +kernel
theorem dX11_planned_16 : decode cX11_planned 16 = .ok (.iload_n 3, 1) := by decide +kernel
theorem dX11_planned_17 : decode cX11_planned 17 = .ok (.iconst 0, 1) := by decide +kernel
theorem dX11_planned_18 : decode cX11_planned 18 = .ok (.iconst 3, 1) := by decide +kernel
theorem dX11_planned_19 : decode cX11_planned 19 = .ok (.invokestatic 133, 3) := by decide +kernel
theorem dX11_planned_22 : decode cX11_planned 22 = .ok (.ifCond .ne 5, 3) := by decide +kernel
theorem dX11_planned_25 : decode cX11_planned 25 = .ok (.iconst (-1), 1) := by decide +kernel
theorem dX11_planned_26 : decode cX11_planned 26 = .ok (.ireturn, 1) := by decide +kernel
theorem dX11_planned_27 : decode cX11_planned 27 = .ok (.aload_n 0, 1) := by decide +kernel
theorem dX11_planned_28 : decode cX11_planned 28 = .ok (.getfield 82, 3) := by decide +kernel
theorem dX11_planned_31 : decode cX11_planned 31 = .ok (.iload_n 1, 1) := by decide +kernel
theorem dX11_planned_32 : decode cX11_planned 32 = .ok (.aaload, 1) := by decide +kernel
theorem dX11_planned_33 : decode cX11_planned 33 = .ok (.getfield 177, 3) := by decide +kernel
theorem dX11_planned_36 : decode cX11_planned 36 = .ok (.iload_n 2, 1) := by decide +kernel
theorem dX11_planned_37 : decode cX11_planned 37 = .ok (.iload_n 3, 1) := by decide +kernel
theorem dX11_planned_38 : decode cX11_planned 38 = .ok (.invokevirtual 217, 3) := by decide +kernel
theorem dX11_planned_41 : decode cX11_planned 41 = .ok (.ireturn, 1) := by decide +kernel
theorem dX11_barred_0 : decode cX11_barred 0 = .ok (.iload_n 1, 1) := by decide +kernel
theorem dX11_barred_1 : decode cX11_barred 1 = .ok (.invokestatic 121, 3) := by decide +kernel
theorem dX11_barred_4 : decode cX11_barred 4 = .ok (.ifCond .eq 28, 3) := by decide +kernel
theorem dX11_barred_7 : decode cX11_barred 7 = .ok (.aload_n 0, 1) := by decide +kernel
theorem dX11_barred_8 : decode cX11_barred 8 = .ok (.iload_n 2, 1) := by decide +kernel
theorem dX11_barred_9 : decode cX11_barred 9 = .ok (.invokevirtual 164, 3) := by decide +kernel
theorem dX11_barred_12 : decode cX11_barred 12 = .ok (.ifCond .eq 20, 3) := by decide +kernel
theorem dX11_barred_15 : decode cX11_barred 15 = .ok (.aload_n 0, 1) := by decide +kernel
theorem dX11_barred_16 : decode cX11_barred 16 = .ok (.iload_n 3, 1) := by decide +kernel
theorem dX11_barred_17 : decode cX11_barred 17 = .ok (.invokevirtual 167, 3) := by decide +kernel
theorem dX11_barred_20 : decode cX11_barred 20 = .ok (.ifCond .eq 12, 3) := by decide +kernel
theorem dX11_barred_23 : decode cX11_barred 23 = .ok (.aload_n 0, 1) := by decide +kernel
theorem dX11_barred_24 : decode cX11_barred 24 = .ok (.iload 4, 2) := by decide +kernel
theorem dX11_barred_26 : decode cX11_barred 26 = .ok (.invokevirtual 201, 3) := by decide +kernel
theorem dX11_barred_29 : decode cX11_barred 29 = .ok (.ifCond .ne 5, 3) := by decide +kernel
theorem dX11_barred_32 : decode cX11_barred 32 = .ok (.iconst (-1), 1) := by decide +kernel
theorem dX11_barred_33 : decode cX11_barred 33 = .ok (.ireturn, 1) := by decide +kernel
theorem dX11_barred_34 : decode cX11_barred 34 = .ok (.aload_n 0, 1) := by decide +kernel
theorem dX11_barred_35 : decode cX11_barred 35 = .ok (.getfield 58, 3) := by decide +kernel
theorem dX11_barred_38 : decode cX11_barred 38 = .ok (.iload_n 1, 1) := by decide +kernel
theorem dX11_barred_39 : decode cX11_barred 39 = .ok (.aload_n 0, 1) := by decide +kernel
theorem dX11_barred_40 : decode cX11_barred 40 = .ok (.getfield 82, 3) := by decide +kernel
theorem dX11_barred_43 : decode cX11_barred 43 = .ok (.iload_n 2, 1) := by decide +kernel
theorem dX11_barred_44 : decode cX11_barred 44 = .ok (.aaload, 1) := by decide +kernel
theorem dX11_barred_45 : decode cX11_barred 45 = .ok (.iload_n 3, 1) := by decide +kernel
theorem dX11_barred_46 : decode cX11_barred 46 = .ok (.iload 4, 2) := by decide +kernel
theorem dX11_barred_48 : decode cX11_barred 48 = .ok (.invokevirtual 221, 3) := by decide +kernel
theorem dX11_barred_51 : decode cX11_barred 51 = .ok (.ireturn, 1) := by decide +kernel
theorem dX11_clash_0 : decode cX11_clash 0 = .ok (.aload_n 0, 1) := by decide +kernel
theorem dX11_clash_1 : decode cX11_clash 1 = .ok (.iload_n 1, 1) := by decide +kernel
theorem dX11_clash_2 : decode cX11_clash 2 = .ok (.invokevirtual 164, 3) := by decide +kernel
theorem dX11_clash_5 : decode cX11_clash 5 = .ok (.ifCond .eq 22, 3) := by decide +kernel
theorem dX11_clash_8 : decode cX11_clash 8 = .ok (.aload_n 0, 1) := by decide +kernel
theorem dX11_clash_9 : decode cX11_clash 9 = .ok (.iload_n 2, 1) := by decide +kernel
theorem dX11_clash_10 : decode cX11_clash 10 = .ok (.invokevirtual 144, 3) := by decide +kernel
theorem dX11_clash_13 : decode cX11_clash 13 = .ok (.ifCond .eq 14, 3) := by decide +kernel
theorem dX11_clash_16 : decode cX11_clash 16 = .ok (.iload_n 3, 1) := by decide +kernel
theorem dX11_clash_17 : decode cX11_clash 17 = .ok (.iconst 0, 1) := by decide +kernel
theorem dX11_clash_18 : decode cX11_clash 18 = .ok (.sipush 9999, 3) := by decide +kernel
theorem dX11_clash_21 : decode cX11_clash 21 = .ok (.invokestatic 133, 3) := by decide +kernel
theorem dX11_clash_24 : decode cX11_clash 24 = .ok (.ifCond .ne 5, 3) := by decide +kernel
theorem dX11_clash_27 : decode cX11_clash 27 = .ok (.iconst (-1), 1) := by decide +kernel
theorem dX11_clash_28 : decode cX11_clash 28 = .ok (.ireturn, 1) := by decide +kernel
theorem dX11_clash_29 : decode cX11_clash 29 = .ok (.aload_n 0, 1) := by decide +kernel
theorem dX11_clash_30 : decode cX11_clash 30 = .ok (.aload_n 0, 1) := by decide +kernel
theorem dX11_clash_31 : decode cX11_clash 31 = .ok (.getfield 82, 3) := by decide +kernel
theorem dX11_clash_34 : decode cX11_clash 34 = .ok (.iload_n 1, 1) := by decide +kernel
theorem dX11_clash_35 : decode cX11_clash 35 = .ok (.aaload, 1) := by decide +kernel
theorem dX11_clash_36 : decode cX11_clash 36 = .ok (.iload_n 2, 1) := by decide +kernel
theorem dX11_clash_37 : decode cX11_clash 37 = .ok (.iload_n 3, 1) := by decide +kernel
theorem dX11_clash_38 : decode cX11_clash 38 = .ok (.invokevirtual 225, 3) := by decide +kernel
theorem dX11_clash_41 : decode cX11_clash 41 = .ok (.istore 4, 2) := by decide +kernel
theorem dX11_clash_43 : decode cX11_clash 43 = .ok (.iload 4, 2) := by decide +kernel
theorem dX11_clash_45 : decode cX11_clash 45 = .ok (.ifCond .ne 7, 3) := by decide +kernel
theorem dX11_clash_48 : decode cX11_clash 48 = .ok (.iconst (-1), 1) := by decide +kernel
theorem dX11_clash_49 : decode cX11_clash 49 = .ok (.goto 8, 3) := by decide +kernel
theorem dX11_clash_52 : decode cX11_clash 52 = .ok (.iload 4, 2) := by decide +kernel
theorem dX11_clash_54 : decode cX11_clash 54 = .ok (.invokestatic 229, 3) := by decide +kernel
theorem dX11_clash_57 : decode cX11_clash 57 = .ok (.ireturn, 1) := by decide +kernel
theorem dX11_classed_0 : decode cX11_classed 0 = .ok (.aload_n 0, 1) := by decide +kernel
theorem dX11_classed_1 : decode cX11_classed 1 = .ok (.iload_n 1, 1) := by decide +kernel
theorem dX11_classed_2 : decode cX11_classed 2 = .ok (.invokevirtual 164, 3) := by decide +kernel
theorem dX11_classed_5 : decode cX11_classed 5 = .ok (.ifCond .eq 11, 3) := by decide +kernel
theorem dX11_classed_8 : decode cX11_classed 8 = .ok (.aload_n 0, 1) := by decide +kernel
theorem dX11_classed_9 : decode cX11_classed 9 = .ok (.iload_n 2, 1) := by decide +kernel
theorem dX11_classed_10 : decode cX11_classed 10 = .ok (.invokevirtual 167, 3) := by decide +kernel
theorem dX11_classed_13 : decode cX11_classed 13 = .ok (.ifCond .ne 6, 3) := by decide +kernel
theorem dX11_classed_16 : decode cX11_classed 16 = .ok (.bipush (-2), 2) := by decide +kernel
theorem dX11_classed_18 : decode cX11_classed 18 = .ok (.ireturn, 1) := by decide +kernel
theorem dX11_classed_19 : decode cX11_classed 19 = .ok (.aload_n 0, 1) := by decide +kernel
theorem dX11_classed_20 : decode cX11_classed 20 = .ok (.getfield 58, 3) := by decide +kernel
theorem dX11_classed_23 : decode cX11_classed 23 = .ok (.aload_n 0, 1) := by decide +kernel
theorem dX11_classed_24 : decode cX11_classed 24 = .ok (.getfield 82, 3) := by decide +kernel
theorem dX11_classed_27 : decode cX11_classed 27 = .ok (.iload_n 1, 1) := by decide +kernel
theorem dX11_classed_28 : decode cX11_classed 28 = .ok (.aaload, 1) := by decide +kernel
theorem dX11_classed_29 : decode cX11_classed 29 = .ok (.iload_n 2, 1) := by decide +kernel
theorem dX11_classed_30 : decode cX11_classed 30 = .ok (.invokevirtual 173, 3) := by decide +kernel
theorem dX11_classed_33 : decode cX11_classed 33 = .ok (.ireturn, 1) := by decide +kernel
theorem dX11_counts_0 : decode cX11_counts 0 = .ok (.aload_n 0, 1) := by decide +kernel
theorem dX11_counts_1 : decode cX11_counts 1 = .ok (.iload_n 1, 1) := by decide +kernel
theorem dX11_counts_2 : decode cX11_counts 2 = .ok (.invokevirtual 164, 3) := by decide +kernel
theorem dX11_counts_5 : decode cX11_counts 5 = .ok (.ifCond .eq 19, 3) := by decide +kernel
theorem dX11_counts_8 : decode cX11_counts 8 = .ok (.aload_n 0, 1) := by decide +kernel
theorem dX11_counts_9 : decode cX11_counts 9 = .ok (.iload_n 2, 1) := by decide +kernel
theorem dX11_counts_10 : decode cX11_counts 10 = .ok (.invokevirtual 167, 3) := by decide +kernel
theorem dX11_counts_13 : decode cX11_counts 13 = .ok (.ifCond .eq 11, 3) := by decide +kernel
theorem dX11_counts_16 : decode cX11_counts 16 = .ok (.aload_n 0, 1) := by decide +kernel
theorem dX11_counts_17 : decode cX11_counts 17 = .ok (.iload_n 3, 1) := by decide +kernel
theorem dX11_counts_18 : decode cX11_counts 18 = .ok (.invokevirtual 201, 3) := by decide +kernel
theorem dX11_counts_21 : decode cX11_counts 21 = .ok (.ifCond .ne 5, 3) := by decide +kernel
theorem dX11_counts_24 : decode cX11_counts 24 = .ok (.iconst (-1), 1) := by decide +kernel
theorem dX11_counts_25 : decode cX11_counts 25 = .ok (.ireturn, 1) := by decide +kernel
theorem dX11_counts_26 : decode cX11_counts 26 = .ok (.aload_n 0, 1) := by decide +kernel
theorem dX11_counts_27 : decode cX11_counts 27 = .ok (.getfield 76, 3) := by decide +kernel
theorem dX11_counts_30 : decode cX11_counts 30 = .ok (.aload_n 0, 1) := by decide +kernel
theorem dX11_counts_31 : decode cX11_counts 31 = .ok (.getfield 82, 3) := by decide +kernel
theorem dX11_counts_34 : decode cX11_counts 34 = .ok (.iload_n 1, 1) := by decide +kernel
theorem dX11_counts_35 : decode cX11_counts 35 = .ok (.aaload, 1) := by decide +kernel
theorem dX11_counts_36 : decode cX11_counts 36 = .ok (.iload_n 2, 1) := by decide +kernel
theorem dX11_counts_37 : decode cX11_counts 37 = .ok (.iload_n 3, 1) := by decide +kernel
theorem dX11_counts_38 : decode cX11_counts 38 = .ok (.invokevirtual 235, 3) := by decide +kernel
theorem dX11_counts_41 : decode cX11_counts 41 = .ok (.ireturn, 1) := by decide +kernel
theorem dX11_winner_0 : decode cX11_winner 0 = .ok (.aload_n 0, 1) := by decide +kernel
theorem dX11_winner_1 : decode cX11_winner 1 = .ok (.iload_n 1, 1) := by decide +kernel
theorem dX11_winner_2 : decode cX11_winner 2 = .ok (.invokevirtual 164, 3) := by decide +kernel
theorem dX11_winner_5 : decode cX11_winner 5 = .ok (.ifCond .eq 19, 3) := by decide +kernel
theorem dX11_winner_8 : decode cX11_winner 8 = .ok (.aload_n 0, 1) := by decide +kernel
theorem dX11_winner_9 : decode cX11_winner 9 = .ok (.iload_n 2, 1) := by decide +kernel
theorem dX11_winner_10 : decode cX11_winner 10 = .ok (.invokevirtual 144, 3) := by decide +kernel
theorem dX11_winner_13 : decode cX11_winner 13 = .ok (.ifCond .eq 11, 3) := by decide +kernel
theorem dX11_winner_16 : decode cX11_winner 16 = .ok (.aload_n 0, 1) := by decide +kernel
theorem dX11_winner_17 : decode cX11_winner 17 = .ok (.iload_n 3, 1) := by decide +kernel
theorem dX11_winner_18 : decode cX11_winner 18 = .ok (.invokevirtual 201, 3) := by decide +kernel
theorem dX11_winner_21 : decode cX11_winner 21 = .ok (.ifCond .ne 5, 3) := by decide +kernel
theorem dX11_winner_24 : decode cX11_winner 24 = .ok (.iconst (-1), 1) := by decide +kernel
theorem dX11_winner_25 : decode cX11_winner 25 = .ok (.ireturn, 1) := by decide +kernel
theorem dX11_winner_26 : decode cX11_winner 26 = .ok (.aload_n 0, 1) := by decide +kernel
theorem dX11_winner_27 : decode cX11_winner 27 = .ok (.getfield 76, 3) := by decide +kernel
theorem dX11_winner_30 : decode cX11_winner 30 = .ok (.aload_n 0, 1) := by decide +kernel
theorem dX11_winner_31 : decode cX11_winner 31 = .ok (.getfield 82, 3) := by decide +kernel
theorem dX11_winner_34 : decode cX11_winner 34 = .ok (.iload_n 1, 1) := by decide +kernel
theorem dX11_winner_35 : decode cX11_winner 35 = .ok (.aaload, 1) := by decide +kernel
theorem dX11_winner_36 : decode cX11_winner 36 = .ok (.iload_n 2, 1) := by decide +kernel
theorem dX11_winner_37 : decode cX11_winner 37 = .ok (.iload_n 3, 1) := by decide +kernel
theorem dX11_winner_38 : decode cX11_winner 38 = .ok (.invokevirtual 238, 3) := by decide +kernel
theorem dX11_winner_41 : decode cX11_winner 41 = .ok (.ireturn, 1) := by decide +kernel
theorem dX11_points_0 : decode cX11_points 0 = .ok (.aload_n 0, 1) := by decide +kernel
theorem dX11_points_1 : decode cX11_points 1 = .ok (.iload_n 1, 1) := by decide +kernel
theorem dX11_points_2 : decode cX11_points 2 = .ok (.invokevirtual 164, 3) := by decide +kernel
theorem dX11_points_5 : decode cX11_points 5 = .ok (.ifCond .eq 19, 3) := by decide +kernel
theorem dX11_points_8 : decode cX11_points 8 = .ok (.aload_n 0, 1) := by decide +kernel
theorem dX11_points_9 : decode cX11_points 9 = .ok (.iload_n 2, 1) := by decide +kernel
theorem dX11_points_10 : decode cX11_points 10 = .ok (.invokevirtual 167, 3) := by decide +kernel
theorem dX11_points_13 : decode cX11_points 13 = .ok (.ifCond .eq 11, 3) := by decide +kernel
theorem dX11_points_16 : decode cX11_points 16 = .ok (.aload_n 0, 1) := by decide +kernel
theorem dX11_points_17 : decode cX11_points 17 = .ok (.iload_n 3, 1) := by decide +kernel
theorem dX11_points_18 : decode cX11_points 18 = .ok (.invokevirtual 201, 3) := by decide +kernel
theorem dX11_points_21 : decode cX11_points 21 = .ok (.ifCond .ne 5, 3) := by decide +kernel
theorem dX11_points_24 : decode cX11_points 24 = .ok (.iconst 0, 1) := by decide +kernel
theorem dX11_points_25 : decode cX11_points 25 = .ok (.ireturn, 1) := by decide +kernel
theorem dX11_points_26 : decode cX11_points 26 = .ok (.aload_n 0, 1) := by decide +kernel
theorem dX11_points_27 : decode cX11_points 27 = .ok (.getfield 76, 3) := by decide +kernel
theorem dX11_points_30 : decode cX11_points 30 = .ok (.aload_n 0, 1) := by decide +kernel
theorem dX11_points_31 : decode cX11_points 31 = .ok (.getfield 82, 3) := by decide +kernel
theorem dX11_points_34 : decode cX11_points 34 = .ok (.iload_n 1, 1) := by decide +kernel
theorem dX11_points_35 : decode cX11_points 35 = .ok (.aaload, 1) := by decide +kernel
theorem dX11_points_36 : decode cX11_points 36 = .ok (.aload_n 0, 1) := by decide +kernel
theorem dX11_points_37 : decode cX11_points 37 = .ok (.getfield 40, 3) := by decide +kernel
theorem dX11_points_40 : decode cX11_points 40 = .ok (.getfield 181, 3) := by decide +kernel
theorem dX11_points_43 : decode cX11_points 43 = .ok (.iload_n 2, 1) := by decide +kernel
theorem dX11_points_44 : decode cX11_points 44 = .ok (.iaload, 1) := by decide +kernel
theorem dX11_points_45 : decode cX11_points 45 = .ok (.iload_n 3, 1) := by decide +kernel
theorem dX11_points_46 : decode cX11_points 46 = .ok (.invokevirtual 238, 3) := by decide +kernel
theorem dX11_points_49 : decode cX11_points 49 = .ok (.iload_n 2, 1) := by decide +kernel
theorem dX11_points_50 : decode cX11_points 50 = .ok (.if_icmp .eq 5, 3) := by decide +kernel
theorem dX11_points_53 : decode cX11_points 53 = .ok (.iconst 0, 1) := by decide +kernel
theorem dX11_points_54 : decode cX11_points 54 = .ok (.ireturn, 1) := by decide +kernel
theorem dX11_points_55 : decode cX11_points 55 = .ok (.aload_n 0, 1) := by decide +kernel
theorem dX11_points_56 : decode cX11_points 56 = .ok (.getfield 76, 3) := by decide +kernel
theorem dX11_points_59 : decode cX11_points 59 = .ok (.aload_n 0, 1) := by decide +kernel
theorem dX11_points_60 : decode cX11_points 60 = .ok (.getfield 82, 3) := by decide +kernel
theorem dX11_points_63 : decode cX11_points 63 = .ok (.iload_n 1, 1) := by decide +kernel
theorem dX11_points_64 : decode cX11_points 64 = .ok (.aaload, 1) := by decide +kernel
theorem dX11_points_65 : decode cX11_points 65 = .ok (.iload_n 2, 1) := by decide +kernel
theorem dX11_points_66 : decode cX11_points 66 = .ok (.iload_n 3, 1) := by decide +kernel
theorem dX11_points_67 : decode cX11_points 67 = .ok (.invokevirtual 241, 3) := by decide +kernel
theorem dX11_points_70 : decode cX11_points 70 = .ok (.ireturn, 1) := by decide +kernel
theorem dX11_title_0 : decode cX11_title 0 = .ok (.aload_n 0, 1) := by decide +kernel
theorem dX11_title_1 : decode cX11_title 1 = .ok (.getfield 19, 3) := by decide +kernel
theorem dX11_title_4 : decode cX11_title 4 = .ok (.bipush 12, 2) := by decide +kernel
theorem dX11_title_6 : decode cX11_title 6 = .ok (.invokevirtual 244, 3) := by decide +kernel
