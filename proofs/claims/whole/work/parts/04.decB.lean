theorem dX4_init_0 : decode cX4_init 0 = .ok (.aload_n 0, 1) := by decide +kernel
theorem dX4_init_1 : decode cX4_init 1 = .ok (.invokespecial 3, 3) := by decide +kernel
theorem dX4_init_4 : decode cX4_init 4 = .ok (.aload_n 0, 1) := by decide +kernel
theorem dX4_init_5 : decode cX4_init 5 = .ok (.iconst 1, 1) := by decide +kernel
theorem dX4_init_6 : decode cX4_init 6 = .ok (.putfield 9, 3) := by decide +kernel
theorem dX4_init_9 : decode cX4_init 9 = .ok (.aload_n 0, 1) := by decide +kernel
theorem dX4_init_10 : decode cX4_init 10 = .ok (.iconst 3, 1) := by decide +kernel
theorem dX4_init_11 : decode cX4_init 11 = .ok (.newarray .int, 2) := by decide +kernel
theorem dX4_init_13 : decode cX4_init 13 = .ok (.putfield 15, 3) := by decide +kernel
theorem dX4_init_16 : decode cX4_init 16 = .ok (.aload_n 0, 1) := by decide +kernel
theorem dX4_init_17 : decode cX4_init 17 = .ok (.iconst 4, 1) := by decide +kernel
theorem dX4_init_18 : decode cX4_init 18 = .ok (.newarray .int, 2) := by decide +kernel
theorem dX4_init_20 : decode cX4_init 20 = .ok (.putfield 19, 3) := by decide +kernel
theorem dX4_init_23 : decode cX4_init 23 = .ok (.aload_n 0, 1) := by decide +kernel
theorem dX4_init_24 : decode cX4_init 24 = .ok (.bipush 8, 2) := by decide +kernel
theorem dX4_init_26 : decode cX4_init 26 = .ok (.newarray .int, 2) := by decide +kernel
theorem dX4_init_28 : decode cX4_init 28 = .ok (.putfield 22, 3) := by decide +kernel
theorem dX4_init_31 : decode cX4_init 31 = .ok (.aload_n 0, 1) := by decide +kernel
theorem dX4_init_32 : decode cX4_init 32 = .ok (.bipush 36, 2) := by decide +kernel
theorem dX4_init_34 : decode cX4_init 34 = .ok (.newarray .int, 2) := by decide +kernel
theorem dX4_init_36 : decode cX4_init 36 = .ok (.putfield 25, 3) := by decide +kernel
theorem dX4_init_39 : decode cX4_init 39 = .ok (.aload_n 0, 1) := by decide +kernel
theorem dX4_init_40 : decode cX4_init 40 = .ok (.bipush 12, 2) := by decide +kernel
theorem dX4_init_42 : decode cX4_init 42 = .ok (.newarray .int, 2) := by decide +kernel
theorem dX4_init_44 : decode cX4_init 44 = .ok (.putfield 28, 3) := by decide +kernel
theorem dX4_init_47 : decode cX4_init 47 = .ok (.aload_n 0, 1) := by decide +kernel
theorem dX4_init_48 : decode cX4_init 48 = .ok (.bipush 12, 2) := by decide +kernel
theorem dX4_init_50 : decode cX4_init 50 = .ok (.newarray .int, 2) := by decide +kernel
theorem dX4_init_52 : decode cX4_init 52 = .ok (.putfield 31, 3) := by decide +kernel
theorem dX4_init_55 : decode cX4_init 55 = .ok (.aload_n 0, 1) := by decide +kernel
theorem dX4_init_56 : decode cX4_init 56 = .ok (.bipush 12, 2) := by decide +kernel
theorem dX4_init_58 : decode cX4_init 58 = .ok (.newarray .int, 2) := by decide +kernel
theorem dX4_init_60 : decode cX4_init 60 = .ok (.putfield 34, 3) := by decide +kernel
theorem dX4_init_63 : decode cX4_init 63 = .ok (.aload_n 0, 1) := by decide +kernel
theorem dX4_init_64 : decode cX4_init 64 = .ok (.bipush 12, 2) := by decide +kernel
theorem dX4_init_66 : decode cX4_init 66 = .ok (.newarray .int, 2) := by decide +kernel
theorem dX4_init_68 : decode cX4_init 68 = .ok (.putfield 37, 3) := by decide +kernel
theorem dX4_init_71 : decode cX4_init 71 = .ok (.aload_n 0, 1) := by decide +kernel
theorem dX4_init_72 : decode cX4_init 72 = .ok (.bipush 12, 2) := by decide +kernel
theorem dX4_init_74 : decode cX4_init 74 = .ok (.newarray .int, 2) := by decide +kernel
theorem dX4_init_76 : decode cX4_init 76 = .ok (.putfield 40, 3) := by decide +kernel
theorem dX4_init_79 : decode cX4_init 79 = .ok (.aload_n 0, 1) := by decide +kernel
theorem dX4_init_80 : decode cX4_init 80 = .ok (.bipush 12, 2) := by decide +kernel
theorem dX4_init_82 : decode cX4_init 82 = .ok (.newarray .int, 2) := by decide +kernel
theorem dX4_init_84 : decode cX4_init 84 = .ok (.putfield 43, 3) := by decide +kernel
theorem dX4_init_87 : decode cX4_init 87 = .ok (.aload_n 0, 1) := by decide +kernel
theorem dX4_init_88 : decode cX4_init 88 = .ok (.bipush 12, 2) := by decide +kernel
theorem dX4_init_90 : decode cX4_init 90 = .ok (.newarray .int, 2) := by decide +kernel
theorem dX4_init_92 : decode cX4_init 92 = .ok (.putfield 46, 3) := by decide +kernel
theorem dX4_init_95 : decode cX4_init 95 = .ok (.aload_n 0, 1) := by decide +kernel
theorem dX4_init_96 : decode cX4_init 96 = .ok (.getfield 15, 3) := by decide +kernel
theorem dX4_init_99 : decode cX4_init 99 = .ok (.iconst 1, 1) := by decide +kernel
theorem dX4_init_100 : decode cX4_init 100 = .ok (.invokestatic 49, 3) := by decide +kernel
theorem dX4_init_103 : decode cX4_init 103 = .ok (.aload_n 0, 1) := by decide +kernel
theorem dX4_init_104 : decode cX4_init 104 = .ok (.getfield 22, 3) := by decide +kernel
theorem dX4_init_107 : decode cX4_init 107 = .ok (.iconst 1, 1) := by decide +kernel
theorem dX4_init_108 : decode cX4_init 108 = .ok (.invokestatic 49, 3) := by decide +kernel
theorem dX4_init_111 : decode cX4_init 111 = .ok (.aload_n 0, 1) := by decide +kernel
theorem dX4_init_112 : decode cX4_init 112 = .ok (.getfield 31, 3) := by decide +kernel
theorem dX4_init_115 : decode cX4_init 115 = .ok (.iconst (-1), 1) := by decide +kernel
theorem dX4_init_116 : decode cX4_init 116 = .ok (.invokestatic 49, 3) := by decide +kernel
theorem dX4_init_119 : decode cX4_init 119 = .ok (.aload_n 0, 1) := by decide +kernel
theorem dX4_init_120 : decode cX4_init 120 = .ok (.getfield 19, 3) := by decide +kernel
theorem dX4_init_123 : decode cX4_init 123 = .ok (.iconst 0, 1) := by decide +kernel
theorem dX4_init_124 : decode cX4_init 124 = .ok (.bipush 60, 2) := by decide +kernel
theorem dX4_init_126 : decode cX4_init 126 = .ok (.iastore, 1) := by decide +kernel
theorem dX4_init_127 : decode cX4_init 127 = .ok (.aload_n 0, 1) := by decide +kernel
theorem dX4_init_128 : decode cX4_init 128 = .ok (.getfield 19, 3) := by decide +kernel
theorem dX4_init_131 : decode cX4_init 131 = .ok (.iconst 1, 1) := by decide +kernel
theorem dX4_init_132 : decode cX4_init 132 = .ok (.iconst 2, 1) := by decide +kernel
theorem dX4_init_133 : decode cX4_init 133 = .ok (.iastore, 1) := by decide +kernel
theorem dX4_init_134 : decode cX4_init 134 = .ok (.aload_n 0, 1) := by decide +kernel
theorem dX4_init_135 : decode cX4_init 135 = .ok (.getfield 19, 3) := by decide +kernel
theorem dX4_init_138 : decode cX4_init 138 = .ok (.iconst 2, 1) := by decide +kernel
theorem dX4_init_139 : decode cX4_init 139 = .ok (.iconst 5, 1) := by decide +kernel
theorem dX4_init_140 : decode cX4_init 140 = .ok (.iastore, 1) := by decide +kernel
theorem dX4_init_141 : decode cX4_init 141 = .ok (.return_, 1) := by decide +kernel
theorem dX4_copyFrom_0 : decode cX4_copyFrom 0 = .ok (.aload_n 0, 1) := by decide +kernel
theorem dX4_copyFrom_1 : decode cX4_copyFrom 1 = .ok (.aload_n 1, 1) := by decide +kernel
theorem dX4_copyFrom_2 : decode cX4_copyFrom 2 = .ok (.getfield 9, 3) := by decide +kernel
theorem dX4_copyFrom_5 : decode cX4_copyFrom 5 = .ok (.putfield 9, 3) := by decide +kernel
theorem dX4_copyFrom_8 : decode cX4_copyFrom 8 = .ok (.aload_n 0, 1) := by decide +kernel
theorem dX4_copyFrom_9 : decode cX4_copyFrom 9 = .ok (.aload_n 1, 1) := by decide +kernel
theorem dX4_copyFrom_10 : decode cX4_copyFrom 10 = .ok (.getfield 55, 3) := by decide +kernel
theorem dX4_copyFrom_13 : decode cX4_copyFrom 13 = .ok (.putfield 55, 3) := by decide +kernel
theorem dX4_copyFrom_16 : decode cX4_copyFrom 16 = .ok (.aload_n 1, 1) := by decide +kernel
theorem dX4_copyFrom_17 : decode cX4_copyFrom 17 = .ok (.getfield 15, 3) := by decide +kernel
theorem dX4_copyFrom_20 : decode cX4_copyFrom 20 = .ok (.aload_n 0, 1) := by decide +kernel
theorem dX4_copyFrom_21 : decode cX4_copyFrom 21 = .ok (.getfield 15, 3) := by decide +kernel
theorem dX4_copyFrom_24 : decode cX4_copyFrom 24 = .ok (.invokestatic 58, 3) := by decide +kernel
theorem dX4_copyFrom_27 : decode cX4_copyFrom 27 = .ok (.aload_n 1, 1) := by decide +kernel
theorem dX4_copyFrom_28 : decode cX4_copyFrom 28 = .ok (.getfield 19, 3) := by decide +kernel
theorem dX4_copyFrom_31 : decode cX4_copyFrom 31 = .ok (.aload_n 0, 1) := by decide +kernel
theorem dX4_copyFrom_32 : decode cX4_copyFrom 32 = .ok (.getfield 19, 3) := by decide +kernel
theorem dX4_copyFrom_35 : decode cX4_copyFrom 35 = .ok (.invokestatic 58, 3) := by decide +kernel
theorem dX4_copyFrom_38 : decode cX4_copyFrom 38 = .ok (.aload_n 1, 1) := by decide +kernel
theorem dX4_copyFrom_39 : decode cX4_copyFrom 39 = .ok (.getfield 22, 3) := by decide +kernel
theorem dX4_copyFrom_42 : decode cX4_copyFrom 42 = .ok (.aload_n 0, 1) := by decide +kernel
theorem dX4_copyFrom_43 : decode cX4_copyFrom 43 = .ok (.getfield 22, 3) := by decide +kernel
theorem dX4_copyFrom_46 : decode cX4_copyFrom 46 = .ok (.invokestatic 58, 3) := by decide +kernel
theorem dX4_copyFrom_49 : decode cX4_copyFrom 49 = .ok (.aload_n 1, 1) := by decide +kernel
theorem dX4_copyFrom_50 : decode cX4_copyFrom 50 = .ok (.getfield 25, 3) := by decide +kernel
theorem dX4_copyFrom_53 : decode cX4_copyFrom 53 = .ok (.aload_n 0, 1) := by decide +kernel
theorem dX4_copyFrom_54 : decode cX4_copyFrom 54 = .ok (.getfield 25, 3) := by decide +kernel
theorem dX4_copyFrom_57 : decode cX4_copyFrom 57 = .ok (.invokestatic 58, 3) := by decide +kernel
theorem dX4_copyFrom_60 : decode cX4_copyFrom 60 = .ok (.aload_n 1, 1) := by decide +kernel
theorem dX4_copyFrom_61 : decode cX4_copyFrom 61 = .ok (.getfield 28, 3) := by decide +kernel
theorem dX4_copyFrom_64 : decode cX4_copyFrom 64 = .ok (.aload_n 0, 1) := by decide +kernel
theorem dX4_copyFrom_65 : decode cX4_copyFrom 65 = .ok (.getfield 28, 3) := by decide +kernel
theorem dX4_copyFrom_68 : decode cX4_copyFrom 68 = .ok (.invokestatic 58, 3) := by decide +kernel
theorem dX4_copyFrom_71 : decode cX4_copyFrom 71 = .ok (.aload_n 1, 1) := by decide +kernel
theorem dX4_copyFrom_72 : decode cX4_copyFrom 72 = .ok (.getfield 31, 3) := by decide +kernel
theorem dX4_copyFrom_75 : decode cX4_copyFrom 75 = .ok (.aload_n 0, 1) := by decide +kernel
theorem dX4_copyFrom_76 : decode cX4_copyFrom 76 = .ok (.getfield 31, 3) := by decide +kernel
theorem dX4_copyFrom_79 : decode cX4_copyFrom 79 = .ok (.invokestatic 58, 3) := by decide +kernel
theorem dX4_copyFrom_82 : decode cX4_copyFrom 82 = .ok (.aload_n 1, 1) := by decide +kernel
theorem dX4_copyFrom_83 : decode cX4_copyFrom 83 = .ok (.getfield 34, 3) := by decide +kernel
theorem dX4_copyFrom_86 : decode cX4_copyFrom 86 = .ok (.aload_n 0, 1) := by decide +kernel
theorem dX4_copyFrom_87 : decode cX4_copyFrom 87 = .ok (.getfield 34, 3) := by decide +kernel
theorem dX4_copyFrom_90 : decode cX4_copyFrom 90 = .ok (.invokestatic 58, 3) := by decide +kernel
theorem dX4_copyFrom_93 : decode cX4_copyFrom 93 = .ok (.aload_n 1, 1) := by decide +kernel
theorem dX4_copyFrom_94 : decode cX4_copyFrom 94 = .ok (.getfield 37, 3) := by decide +kernel
theorem dX4_copyFrom_97 : decode cX4_copyFrom 97 = .ok (.aload_n 0, 1) := by decide +kernel
theorem dX4_copyFrom_98 : decode cX4_copyFrom 98 = .ok (.getfield 37, 3) := by decide +kernel
theorem dX4_copyFrom_101 : decode cX4_copyFrom 101 = .ok (.invokestatic 58, 3) := by decide +kernel
theorem dX4_copyFrom_104 : decode cX4_copyFrom 104 = .ok (.aload_n 1, 1) := by decide +kernel
theorem dX4_copyFrom_105 : decode cX4_copyFrom 105 = .ok (.getfield 40, 3) := by decide +kernel
theorem dX4_copyFrom_108 : decode cX4_copyFrom 108 = .ok (.aload_n 0, 1) := by decide +kernel
theorem dX4_copyFrom_109 : decode cX4_copyFrom 109 = .ok (.getfield 40, 3) := by decide +kernel
theorem dX4_copyFrom_112 : decode cX4_copyFrom 112 = .ok (.invokestatic 58, 3) := by decide +kernel
theorem dX4_copyFrom_115 : decode cX4_copyFrom 115 = .ok (.aload_n 1, 1) := by decide +kernel
theorem dX4_copyFrom_116 : decode cX4_copyFrom 116 = .ok (.getfield 43, 3) := by decide +kernel
theorem dX4_copyFrom_119 : decode cX4_copyFrom 119 = .ok (.aload_n 0, 1) := by decide +kernel
theorem dX4_copyFrom_120 : decode cX4_copyFrom 120 = .ok (.getfield 43, 3) := by decide +kernel
theorem dX4_copyFrom_123 : decode cX4_copyFrom 123 = .ok (.invokestatic 58, 3) := by decide +kernel
theorem dX4_copyFrom_126 : decode cX4_copyFrom 126 = .ok (.aload_n 1, 1) := by decide +kernel
theorem dX4_copyFrom_127 : decode cX4_copyFrom 127 = .ok (.getfield 46, 3) := by decide +kernel
theorem dX4_copyFrom_130 : decode cX4_copyFrom 130 = .ok (.aload_n 0, 1) := by decide +kernel
theorem dX4_copyFrom_131 : decode cX4_copyFrom 131 = .ok (.getfield 46, 3) := by decide +kernel
theorem dX4_copyFrom_134 : decode cX4_copyFrom 134 = .ok (.invokestatic 58, 3) := by decide +kernel
theorem dX4_copyFrom_137 : decode cX4_copyFrom 137 = .ok (.return_, 1) := by decide +kernel
theorem dX4_copyRow_0 : decode cX4_copyRow 0 = .ok (.aload_n 0, 1) := by decide +kernel
theorem dX4_copyRow_1 : decode cX4_copyRow 1 = .ok (.iconst 0, 1) := by decide +kernel
theorem dX4_copyRow_2 : decode cX4_copyRow 2 = .ok (.aload_n 1, 1) := by decide +kernel
theorem dX4_copyRow_3 : decode cX4_copyRow 3 = .ok (.iconst 0, 1) := by decide +kernel
theorem dX4_copyRow_4 : decode cX4_copyRow 4 = .ok (.aload_n 0, 1) := by decide +kernel
theorem dX4_copyRow_5 : decode cX4_copyRow 5 = .ok (.arraylength, 1) := by decide +kernel
theorem dX4_copyRow_6 : decode cX4_copyRow 6 = .ok (.aload_n 1, 1) := by decide +kernel
theorem dX4_copyRow_7 : decode cX4_copyRow 7 = .ok (.arraylength, 1) := by decide +kernel
theorem dX4_copyRow_8 : decode cX4_copyRow 8 = .ok (.invokestatic 62, 3) := by decide +kernel
theorem dX4_copyRow_11 : decode cX4_copyRow 11 = .ok (.invokestatic 68, 3) := by decide +kernel
theorem dX4_copyRow_14 : decode cX4_copyRow 14 = .ok (.return_, 1) := by decide +kernel
theorem dX4_hasTask_0 : decode cX4_hasTask 0 = .ok (.iload_n 1, 1) := by decide +kernel
theorem dX4_hasTask_1 : decode cX4_hasTask 1 = .ok (.iconst 0, 1) := by decide +kernel
theorem dX4_hasTask_2 : decode cX4_hasTask 2 = .ok (.aload_n 0, 1) := by decide +kernel
theorem dX4_hasTask_3 : decode cX4_hasTask 3 = .ok (.getfield 55, 3) := by decide +kernel
theorem dX4_hasTask_6 : decode cX4_hasTask 6 = .ok (.iconst 1, 1) := by decide +kernel
theorem dX4_hasTask_7 : decode cX4_hasTask 7 = .ok (.isub, 1) := by decide +kernel
theorem dX4_hasTask_8 : decode cX4_hasTask 8 = .ok (.invokestatic 74, 3) := by decide +kernel
theorem dX4_hasTask_11 : decode cX4_hasTask 11 = .ok (.ireturn, 1) := by decide +kernel
theorem dX4_totalDemand_0 : decode cX4_totalDemand 0 = .ok (.iconst 0, 1) := by decide +kernel
theorem dX4_totalDemand_1 : decode cX4_totalDemand 1 = .ok (.istore_n 1, 1) := by decide +kernel
theorem dX4_totalDemand_2 : decode cX4_totalDemand 2 = .ok (.iconst 0, 1) := by decide +kernel
theorem dX4_totalDemand_3 : decode cX4_totalDemand 3 = .ok (.istore_n 2, 1) := by decide +kernel
theorem dX4_totalDemand_4 : decode cX4_totalDemand 4 = .ok (.iload_n 2, 1) := by decide +kernel
theorem dX4_totalDemand_5 : decode cX4_totalDemand 5 = .ok (.aload_n 0, 1) := by decide +kernel
theorem dX4_totalDemand_6 : decode cX4_totalDemand 6 = .ok (.getfield 9, 3) := by decide +kernel
theorem dX4_totalDemand_9 : decode cX4_totalDemand 9 = .ok (.if_icmp .ge 18, 3) := by decide +kernel
theorem dX4_totalDemand_12 : decode cX4_totalDemand 12 = .ok (.iload_n 1, 1) := by decide +kernel
theorem dX4_totalDemand_13 : decode cX4_totalDemand 13 = .ok (.aload_n 0, 1) := by decide +kernel
theorem dX4_totalDemand_14 : decode cX4_totalDemand 14 = .ok (.getfield 15, 3) := by decide +kernel
theorem dX4_totalDemand_17 : decode cX4_totalDemand 17 = .ok (.iload_n 2, 1) := by decide +kernel
theorem dX4_totalDemand_18 : decode cX4_totalDemand 18 = .ok (.iaload, 1) := by decide +kernel
theorem dX4_totalDemand_19 : decode cX4_totalDemand 19 = .ok (.iadd, 1) := by decide +kernel
theorem dX4_totalDemand_20 : decode cX4_totalDemand 20 = .ok (.istore_n 1, 1) := by decide +kernel
theorem dX4_totalDemand_21 : decode cX4_totalDemand 21 = .ok (.iinc 2 1, 3) := by decide +kernel
theorem dX4_totalDemand_24 : decode cX4_totalDemand 24 = .ok (.goto (-20), 3) := by decide +kernel
theorem dX4_totalDemand_27 : decode cX4_totalDemand 27 = .ok (.iload_n 1, 1) := by decide +kernel
theorem dX4_totalDemand_28 : decode cX4_totalDemand 28 = .ok (.ireturn, 1) := by decide +kernel
theorem dX4_capacity_0 : decode cX4_capacity 0 = .ok (.iload_n 1, 1) := by decide +kernel
theorem dX4_capacity_1 : decode cX4_capacity 1 = .ok (.aload_n 0, 1) := by decide +kernel
theorem dX4_capacity_2 : decode cX4_capacity 2 = .ok (.getfield 19, 3) := by decide +kernel
theorem dX4_capacity_5 : decode cX4_capacity 5 = .ok (.iconst 0, 1) := by decide +kernel
theorem dX4_capacity_6 : decode cX4_capacity 6 = .ok (.iaload, 1) := by decide +kernel
theorem dX4_capacity_7 : decode cX4_capacity 7 = .ok (.imul, 1) := by decide +kernel
theorem dX4_capacity_8 : decode cX4_capacity 8 = .ok (.aload_n 0, 1) := by decide +kernel
theorem dX4_capacity_9 : decode cX4_capacity 9 = .ok (.invokevirtual 78, 3) := by decide +kernel
theorem dX4_capacity_12 : decode cX4_capacity 12 = .ok (.imul, 1) := by decide +kernel
theorem dX4_capacity_13 : decode cX4_capacity 13 = .ok (.ireturn, 1) := by decide +kernel
theorem dX4_weightedTime_0 : decode cX4_weightedTime 0 = .ok (.iconst 0, 1) := by decide +kernel
theorem dX4_weightedTime_1 : decode cX4_weightedTime 1 = .ok (.istore_n 2, 1) := by decide +kernel
theorem dX4_weightedTime_2 : decode cX4_weightedTime 2 = .ok (.iconst 0, 1) := by decide +kernel
theorem dX4_weightedTime_3 : decode cX4_weightedTime 3 = .ok (.istore_n 3, 1) := by decide +kernel
theorem dX4_weightedTime_4 : decode cX4_weightedTime 4 = .ok (.iload_n 3, 1) := by decide +kernel
theorem dX4_weightedTime_5 : decode cX4_weightedTime 5 = .ok (.aload_n 0, 1) := by decide +kernel
theorem dX4_weightedTime_6 : decode cX4_weightedTime 6 = .ok (.getfield 9, 3) := by decide +kernel
theorem dX4_weightedTime_9 : decode cX4_weightedTime 9 = .ok (.if_icmp .ge 29, 3) := by decide +kernel
theorem dX4_weightedTime_12 : decode cX4_weightedTime 12 = .ok (.iload_n 2, 1) := by decide +kernel
theorem dX4_weightedTime_13 : decode cX4_weightedTime 13 = .ok (.aload_n 0, 1) := by decide +kernel
theorem dX4_weightedTime_14 : decode cX4_weightedTime 14 = .ok (.getfield 15, 3) := by decide +kernel
theorem dX4_weightedTime_17 : decode cX4_weightedTime 17 = .ok (.iload_n 3, 1) := by decide +kernel
theorem dX4_weightedTime_18 : decode cX4_weightedTime 18 = .ok (.iaload, 1) := by decide +kernel
theorem dX4_weightedTime_19 : decode cX4_weightedTime 19 = .ok (.aload_n 0, 1) := by decide +kernel
theorem dX4_weightedTime_20 : decode cX4_weightedTime 20 = .ok (.getfield 25, 3) := by decide +kernel
theorem dX4_weightedTime_23 : decode cX4_weightedTime 23 = .ok (.iload_n 1, 1) := by decide +kernel
theorem dX4_weightedTime_24 : decode cX4_weightedTime 24 = .ok (.iconst 3, 1) := by decide +kernel
theorem dX4_weightedTime_25 : decode cX4_weightedTime 25 = .ok (.imul, 1) := by decide +kernel
theorem dX4_weightedTime_26 : decode cX4_weightedTime 26 = .ok (.iload_n 3, 1) := by decide +kernel
theorem dX4_weightedTime_27 : decode cX4_weightedTime 27 = .ok (.iadd, 1) := by decide +kernel
theorem dX4_weightedTime_28 : decode cX4_weightedTime 28 = .ok (.iaload, 1) := by decide +kernel
theorem dX4_weightedTime_29 : decode cX4_weightedTime 29 = .ok (.imul, 1) := by decide +kernel
theorem dX4_weightedTime_30 : decode cX4_weightedTime 30 = .ok (.iadd, 1) := by decide +kernel
theorem dX4_weightedTime_31 : decode cX4_weightedTime 31 = .ok (.istore_n 2, 1) := by decide +kernel
theorem dX4_weightedTime_32 : decode cX4_weightedTime 32 = .ok (.iinc 3 1, 3) := by decide +kernel
theorem dX4_weightedTime_35 : decode cX4_weightedTime 35 = .ok (.goto (-31), 3) := by decide +kernel
theorem dX4_weightedTime_38 : decode cX4_weightedTime 38 = .ok (.iload_n 2, 1) := by decide +kernel
theorem dX4_weightedTime_39 : decode cX4_weightedTime 39 = .ok (.ireturn, 1) := by decide +kernel
theorem dX4_weightedTimes_0 : decode cX4_weightedTimes 0 = .ok (.iconst 0, 1) := by decide +kernel
theorem dX4_weightedTimes_1 : decode cX4_weightedTimes 1 = .ok (.istore_n 2, 1) := by decide +kernel
theorem dX4_weightedTimes_2 : decode cX4_weightedTimes 2 = .ok (.iconst 0, 1) := by decide +kernel
theorem dX4_weightedTimes_3 : decode cX4_weightedTimes 3 = .ok (.istore_n 3, 1) := by decide +kernel
theorem dX4_weightedTimes_4 : decode cX4_weightedTimes 4 = .ok (.iload_n 3, 1) := by decide +kernel
theorem dX4_weightedTimes_5 : decode cX4_weightedTimes 5 = .ok (.aload_n 0, 1) := by decide +kernel
theorem dX4_weightedTimes_6 : decode cX4_weightedTimes 6 = .ok (.getfield 55, 3) := by decide +kernel
theorem dX4_weightedTimes_9 : decode cX4_weightedTimes 9 = .ok (.if_icmp .ge 29, 3) := by decide +kernel
theorem dX4_weightedTimes_12 : decode cX4_weightedTimes 12 = .ok (.iload_n 2, 1) := by decide +kernel
theorem dX4_weightedTimes_13 : decode cX4_weightedTimes 13 = .ok (.iload_n 1, 1) := by decide +kernel
theorem dX4_weightedTimes_14 : decode cX4_weightedTimes 14 = .ok (.iload_n 3, 1) := by decide +kernel
theorem dX4_weightedTimes_15 : decode cX4_weightedTimes 15 = .ok (.invokestatic 82, 3) := by decide +kernel
theorem dX4_weightedTimes_18 : decode cX4_weightedTimes 18 = .ok (.ifCond .eq 11, 3) := by decide +kernel
theorem dX4_weightedTimes_21 : decode cX4_weightedTimes 21 = .ok (.aload_n 0, 1) := by decide +kernel
theorem dX4_weightedTimes_22 : decode cX4_weightedTimes 22 = .ok (.iload_n 3, 1) := by decide +kernel
theorem dX4_weightedTimes_23 : decode cX4_weightedTimes 23 = .ok (.invokevirtual 86, 3) := by decide +kernel
theorem dX4_weightedTimes_26 : decode cX4_weightedTimes 26 = .ok (.goto 4, 3) := by decide +kernel
theorem dX4_weightedTimes_29 : decode cX4_weightedTimes 29 = .ok (.iconst 0, 1) := by decide +kernel
theorem dX4_weightedTimes_30 : decode cX4_weightedTimes 30 = .ok (.iadd, 1) := by decide +kernel
theorem dX4_weightedTimes_31 : decode cX4_weightedTimes 31 = .ok (.istore_n 2, 1) := by decide +kernel
theorem dX4_weightedTimes_32 : decode cX4_weightedTimes 32 = .ok (.iinc 3 1, 3) := by decide +kernel
theorem dX4_weightedTimes_35 : decode cX4_weightedTimes 35 = .ok (.goto (-31), 3) := by decide +kernel
theorem dX4_weightedTimes_38 : decode cX4_weightedTimes 38 = .ok (.iload_n 2, 1) := by decide +kernel
theorem dX4_weightedTimes_39 : decode cX4_weightedTimes 39 = .ok (.ireturn, 1) := by decide +kernel
theorem dX4_priorityOf_0 : decode cX4_priorityOf 0 = .ok (.iload_n 2, 1) := by decide +kernel
theorem dX4_priorityOf_1 : decode cX4_priorityOf 1 = .ok (.tableswitch 60 0 2 #[27, 44, 50], 27) := by decide +kernel
theorem dX4_priorityOf_28 : decode cX4_priorityOf 28 = .ok (.aload_n 0, 1) := by decide +kernel
theorem dX4_priorityOf_29 : decode cX4_priorityOf 29 = .ok (.iload_n 1, 1) := by decide +kernel
theorem dX4_priorityOf_30 : decode cX4_priorityOf 30 = .ok (.invokevirtual 86, 3) := by decide +kernel
theorem dX4_priorityOf_33 : decode cX4_priorityOf 33 = .ok (.aload_n 0, 1) := by decide +kernel
theorem dX4_priorityOf_34 : decode cX4_priorityOf 34 = .ok (.aload_n 0, 1) := by decide +kernel
theorem dX4_priorityOf_35 : decode cX4_priorityOf 35 = .ok (.getfield 40, 3) := by decide +kernel
theorem dX4_priorityOf_38 : decode cX4_priorityOf 38 = .ok (.iload_n 1, 1) := by decide +kernel
theorem dX4_priorityOf_39 : decode cX4_priorityOf 39 = .ok (.iaload, 1) := by decide +kernel
theorem dX4_priorityOf_40 : decode cX4_priorityOf 40 = .ok (.invokevirtual 90, 3) := by decide +kernel
theorem dX4_priorityOf_43 : decode cX4_priorityOf 43 = .ok (.iadd, 1) := by decide +kernel
theorem dX4_priorityOf_44 : decode cX4_priorityOf 44 = .ok (.ireturn, 1) := by decide +kernel
theorem dX4_priorityOf_45 : decode cX4_priorityOf 45 = .ok (.aload_n 0, 1) := by decide +kernel
theorem dX4_priorityOf_46 : decode cX4_priorityOf 46 = .ok (.iload_n 1, 1) := by decide +kernel
theorem dX4_priorityOf_47 : decode cX4_priorityOf 47 = .ok (.invokevirtual 86, 3) := by decide +kernel
theorem dX4_priorityOf_50 : decode cX4_priorityOf 50 = .ok (.ireturn, 1) := by decide +kernel
theorem dX4_priorityOf_51 : decode cX4_priorityOf 51 = .ok (.aload_n 0, 1) := by decide +kernel
theorem dX4_priorityOf_52 : decode cX4_priorityOf 52 = .ok (.getfield 40, 3) := by decide +kernel
theorem dX4_priorityOf_55 : decode cX4_priorityOf 55 = .ok (.iload_n 1, 1) := by decide +kernel
theorem dX4_priorityOf_56 : decode cX4_priorityOf 56 = .ok (.iaload, 1) := by decide +kernel
theorem dX4_priorityOf_57 : decode cX4_priorityOf 57 = .ok (.invokestatic 93, 3) := by decide +kernel
theorem dX4_priorityOf_60 : decode cX4_priorityOf 60 = .ok (.ireturn, 1) := by decide +kernel
theorem dX4_priorityOf_61 : decode cX4_priorityOf 61 = .ok (.iconst 0, 1) := by decide +kernel
theorem dX4_priorityOf_62 : decode cX4_priorityOf 62 = .ok (.ireturn, 1) := by decide +kernel
theorem dX4_append_0 : decode cX4_append 0 = .ok (.aload_n 0, 1) := by decide +kernel
theorem dX4_append_1 : decode cX4_append 1 = .ok (.getfield 55, 3) := by decide +kernel
theorem dX4_append_4 : decode cX4_append 4 = .ok (.istore 5, 2) := by decide +kernel
theorem dX4_append_6 : decode cX4_append 6 = .ok (.aload_n 0, 1) := by decide +kernel
theorem dX4_append_7 : decode cX4_append 7 = .ok (.dup, 1) := by decide +kernel
theorem dX4_append_8 : decode cX4_append 8 = .ok (.getfield 55, 3) := by decide +kernel
theorem dX4_append_11 : decode cX4_append 11 = .ok (.iconst 1, 1) := by decide +kernel
theorem dX4_append_12 : decode cX4_append 12 = .ok (.iadd, 1) := by decide +kernel
theorem dX4_append_13 : decode cX4_append 13 = .ok (.putfield 55, 3) := by decide +kernel
theorem dX4_append_16 : decode cX4_append 16 = .ok (.aload_n 0, 1) := by decide +kernel
theorem dX4_append_17 : decode cX4_append 17 = .ok (.getfield 25, 3) := by decide +kernel
theorem dX4_append_20 : decode cX4_append 20 = .ok (.iload 5, 2) := by decide +kernel
theorem dX4_append_22 : decode cX4_append 22 = .ok (.iconst 3, 1) := by decide +kernel
theorem dX4_append_23 : decode cX4_append 23 = .ok (.imul, 1) := by decide +kernel
theorem dX4_append_24 : decode cX4_append 24 = .ok (.iload_n 1, 1) := by decide +kernel
theorem dX4_append_25 : decode cX4_append 25 = .ok (.iastore, 1) := by decide +kernel
theorem dX4_append_26 : decode cX4_append 26 = .ok (.aload_n 0, 1) := by decide +kernel
theorem dX4_append_27 : decode cX4_append 27 = .ok (.getfield 25, 3) := by decide +kernel
theorem dX4_append_30 : decode cX4_append 30 = .ok (.iload 5, 2) := by decide +kernel
theorem dX4_append_32 : decode cX4_append 32 = .ok (.iconst 3, 1) := by decide +kernel
theorem dX4_append_33 : decode cX4_append 33 = .ok (.imul, 1) := by decide +kernel
theorem dX4_append_34 : decode cX4_append 34 = .ok (.iconst 1, 1) := by decide +kernel
theorem dX4_append_35 : decode cX4_append 35 = .ok (.iadd, 1) := by decide +kernel
theorem dX4_append_36 : decode cX4_append 36 = .ok (.iload_n 2, 1) := by decide +kernel
theorem dX4_append_37 : decode cX4_append 37 = .ok (.iastore, 1) := by decide +kernel
theorem dX4_append_38 : decode cX4_append 38 = .ok (.aload_n 0, 1) := by decide +kernel
theorem dX4_append_39 : decode cX4_append 39 = .ok (.getfield 25, 3) := by decide +kernel
theorem dX4_append_42 : decode cX4_append 42 = .ok (.iload 5, 2) := by decide +kernel
theorem dX4_append_44 : decode cX4_append 44 = .ok (.iconst 3, 1) := by decide +kernel
theorem dX4_append_45 : decode cX4_append 45 = .ok (.imul, 1) := by decide +kernel
theorem dX4_append_46 : decode cX4_append 46 = .ok (.iconst 2, 1) := by decide +kernel
theorem dX4_append_47 : decode cX4_append 47 = .ok (.iadd, 1) := by decide +kernel
theorem dX4_append_48 : decode cX4_append 48 = .ok (.iload_n 3, 1) := by decide +kernel
theorem dX4_append_49 : decode cX4_append 49 = .ok (.iastore, 1) := by decide +kernel
theorem dX4_append_50 : decode cX4_append 50 = .ok (.aload_n 0, 1) := by decide +kernel
theorem dX4_append_51 : decode cX4_append 51 = .ok (.getfield 28, 3) := by decide +kernel
theorem dX4_append_54 : decode cX4_append 54 = .ok (.iload 5, 2) := by decide +kernel
theorem dX4_append_56 : decode cX4_append 56 = .ok (.iload 4, 2) := by decide +kernel
theorem dX4_append_58 : decode cX4_append 58 = .ok (.iastore, 1) := by decide +kernel
theorem dX4_append_59 : decode cX4_append 59 = .ok (.iload 5, 2) := by decide +kernel
theorem dX4_append_61 : decode cX4_append 61 = .ok (.ireturn, 1) := by decide +kernel
theorem dX4_isDirectlyBefore_0 : decode cX4_isDirectlyBefore 0 = .ok (.aload_n 0, 1) := by decide +kernel
theorem dX4_isDirectlyBefore_1 : decode cX4_isDirectlyBefore 1 = .ok (.getfield 34, 3) := by decide +kernel
theorem dX4_isDirectlyBefore_4 : decode cX4_isDirectlyBefore 4 = .ok (.iload_n 2, 1) := by decide +kernel
theorem dX4_isDirectlyBefore_5 : decode cX4_isDirectlyBefore 5 = .ok (.iaload, 1) := by decide +kernel
theorem dX4_isDirectlyBefore_6 : decode cX4_isDirectlyBefore 6 = .ok (.iload_n 1, 1) := by decide +kernel
theorem dX4_isDirectlyBefore_7 : decode cX4_isDirectlyBefore 7 = .ok (.invokestatic 82, 3) := by decide +kernel
theorem dX4_isDirectlyBefore_10 : decode cX4_isDirectlyBefore 10 = .ok (.ireturn, 1) := by decide +kernel
theorem dX4_isBefore_0 : decode cX4_isBefore 0 = .ok (.aload_n 0, 1) := by decide +kernel
theorem dX4_isBefore_1 : decode cX4_isBefore 1 = .ok (.getfield 37, 3) := by decide +kernel
theorem dX4_isBefore_4 : decode cX4_isBefore 4 = .ok (.iload_n 2, 1) := by decide +kernel
theorem dX4_isBefore_5 : decode cX4_isBefore 5 = .ok (.iaload, 1) := by decide +kernel
theorem dX4_isBefore_6 : decode cX4_isBefore 6 = .ok (.iload_n 1, 1) := by decide +kernel
theorem dX4_isBefore_7 : decode cX4_isBefore 7 = .ok (.invokestatic 82, 3) := by decide +kernel
theorem dX4_isBefore_10 : decode cX4_isBefore 10 = .ok (.ireturn, 1) := by decide +kernel
theorem dX4_link_0 : decode cX4_link 0 = .ok (.aload_n 0, 1) := by decide +kernel
theorem dX4_link_1 : decode cX4_link 1 = .ok (.getfield 34, 3) := by decide +kernel
theorem dX4_link_4 : decode cX4_link 4 = .ok (.iload_n 2, 1) := by decide +kernel
theorem dX4_link_5 : decode cX4_link 5 = .ok (.dup2, 1) := by decide +kernel
theorem dX4_link_6 : decode cX4_link 6 = .ok (.iaload, 1) := by decide +kernel
theorem dX4_link_7 : decode cX4_link 7 = .ok (.iconst 1, 1) := by decide +kernel
theorem dX4_link_8 : decode cX4_link 8 = .ok (.iload_n 1, 1) := by decide +kernel
theorem dX4_link_9 : decode cX4_link 9 = .ok (.ishl, 1) := by decide +kernel
theorem dX4_link_10 : decode cX4_link 10 = .ok (.ior, 1) := by decide +kernel
theorem dX4_link_11 : decode cX4_link 11 = .ok (.iastore, 1) := by decide +kernel
theorem dX4_link_12 : decode cX4_link 12 = .ok (.aload_n 0, 1) := by decide +kernel
theorem dX4_link_13 : decode cX4_link 13 = .ok (.invokevirtual 98, 3) := by decide +kernel
theorem dX4_link_16 : decode cX4_link 16 = .ok (.return_, 1) := by decide +kernel
theorem dX4_unlink_0 : decode cX4_unlink 0 = .ok (.aload_n 0, 1) := by decide +kernel
theorem dX4_unlink_1 : decode cX4_unlink 1 = .ok (.getfield 34, 3) := by decide +kernel
theorem dX4_unlink_4 : decode cX4_unlink 4 = .ok (.iload_n 2, 1) := by decide +kernel
theorem dX4_unlink_5 : decode cX4_unlink 5 = .ok (.dup2, 1) := by decide +kernel
theorem dX4_unlink_6 : decode cX4_unlink 6 = .ok (.iaload, 1) := by decide +kernel
theorem dX4_unlink_7 : decode cX4_unlink 7 = .ok (.iconst 1, 1) := by decide +kernel
theorem dX4_unlink_8 : decode cX4_unlink 8 = .ok (.iload_n 1, 1) := by decide +kernel
theorem dX4_unlink_9 : decode cX4_unlink 9 = .ok (.ishl, 1) := by decide +kernel
theorem dX4_unlink_10 : decode cX4_unlink 10 = .ok (.iconst (-1), 1) := by decide +kernel
theorem dX4_unlink_11 : decode cX4_unlink 11 = .ok (.ixor, 1) := by decide +kernel
theorem dX4_unlink_12 : decode cX4_unlink 12 = .ok (.iand, 1) := by decide +kernel
theorem dX4_unlink_13 : decode cX4_unlink 13 = .ok (.iastore, 1) := by decide +kernel
theorem dX4_unlink_14 : decode cX4_unlink 14 = .ok (.aload_n 0, 1) := by decide +kernel
theorem dX4_unlink_15 : decode cX4_unlink 15 = .ok (.getfield 34, 3) := by decide +kernel
theorem dX4_unlink_18 : decode cX4_unlink 18 = .ok (.iload_n 1, 1) := by decide +kernel
theorem dX4_unlink_19 : decode cX4_unlink 19 = .ok (.dup2, 1) := by decide +kernel
theorem dX4_unlink_20 : decode cX4_unlink 20 = .ok (.iaload, 1) := by decide +kernel
theorem dX4_unlink_21 : decode cX4_unlink 21 = .ok (.iconst 1, 1) := by decide +kernel
theorem dX4_unlink_22 : decode cX4_unlink 22 = .ok (.iload_n 2, 1) := by decide +kernel
theorem dX4_unlink_23 : decode cX4_unlink 23 = .ok (.ishl, 1) := by decide +kernel
theorem dX4_unlink_24 : decode cX4_unlink 24 = .ok (.iconst (-1), 1) := by decide +kernel
theorem dX4_unlink_25 : decode cX4_unlink 25 = .ok (.ixor, 1) := by decide +kernel
theorem dX4_unlink_26 : decode cX4_unlink 26 = .ok (.iand, 1) := by decide +kernel
theorem dX4_unlink_27 : decode cX4_unlink 27 = .ok (.iastore, 1) := by decide +kernel
theorem dX4_unlink_28 : decode cX4_unlink 28 = .ok (.aload_n 0, 1) := by decide +kernel
theorem dX4_unlink_29 : decode cX4_unlink 29 = .ok (.invokevirtual 98, 3) := by decide +kernel
theorem dX4_unlink_32 : decode cX4_unlink 32 = .ok (.return_, 1) := by decide +kernel
theorem dX4_followChains_0 : decode cX4_followChains 0 = .ok (.aload_n 0, 1) := by decide +kernel
theorem dX4_followChains_1 : decode cX4_followChains 1 = .ok (.getfield 34, 3) := by decide +kernel
theorem dX4_followChains_4 : decode cX4_followChains 4 = .ok (.iconst 0, 1) := by decide +kernel
theorem dX4_followChains_5 : decode cX4_followChains 5 = .ok (.aload_n 0, 1) := by decide +kernel
theorem dX4_followChains_6 : decode cX4_followChains 6 = .ok (.getfield 37, 3) := by decide +kernel
theorem dX4_followChains_9 : decode cX4_followChains 9 = .ok (.iconst 0, 1) := by decide +kernel
theorem dX4_followChains_10 : decode cX4_followChains 10 = .ok (.bipush 12, 2) := by decide +kernel
theorem dX4_followChains_12 : decode cX4_followChains 12 = .ok (.invokestatic 68, 3) := by decide +kernel
theorem dX4_followChains_15 : decode cX4_followChains 15 = .ok (.iconst 0, 1) := by decide +kernel
theorem dX4_followChains_16 : decode cX4_followChains 16 = .ok (.istore_n 1, 1) := by decide +kernel
theorem dX4_followChains_17 : decode cX4_followChains 17 = .ok (.iload_n 1, 1) := by decide +kernel
theorem dX4_followChains_18 : decode cX4_followChains 18 = .ok (.bipush 12, 2) := by decide +kernel
theorem dX4_followChains_20 : decode cX4_followChains 20 = .ok (.if_icmp .ge 55, 3) := by decide +kernel
theorem dX4_followChains_23 : decode cX4_followChains 23 = .ok (.iconst 0, 1) := by decide +kernel
theorem dX4_followChains_24 : decode cX4_followChains 24 = .ok (.istore_n 2, 1) := by decide +kernel
theorem dX4_followChains_25 : decode cX4_followChains 25 = .ok (.iload_n 2, 1) := by decide +kernel
theorem dX4_followChains_26 : decode cX4_followChains 26 = .ok (.bipush 12, 2) := by decide +kernel
theorem dX4_followChains_28 : decode cX4_followChains 28 = .ok (.if_icmp .ge 41, 3) := by decide +kernel
theorem dX4_followChains_31 : decode cX4_followChains 31 = .ok (.aload_n 0, 1) := by decide +kernel
theorem dX4_followChains_32 : decode cX4_followChains 32 = .ok (.getfield 37, 3) := by decide +kernel
theorem dX4_followChains_35 : decode cX4_followChains 35 = .ok (.iload_n 2, 1) := by decide +kernel
theorem dX4_followChains_36 : decode cX4_followChains 36 = .ok (.dup2, 1) := by decide +kernel
theorem dX4_followChains_37 : decode cX4_followChains 37 = .ok (.iaload, 1) := by decide +kernel
theorem dX4_followChains_38 : decode cX4_followChains 38 = .ok (.aload_n 0, 1) := by decide +kernel
theorem dX4_followChains_39 : decode cX4_followChains 39 = .ok (.getfield 37, 3) := by decide +kernel
theorem dX4_followChains_42 : decode cX4_followChains 42 = .ok (.iload_n 2, 1) := by decide +kernel
theorem dX4_followChains_43 : decode cX4_followChains 43 = .ok (.iaload, 1) := by decide +kernel
theorem dX4_followChains_44 : decode cX4_followChains 44 = .ok (.iload_n 1, 1) := by decide +kernel
theorem dX4_followChains_45 : decode cX4_followChains 45 = .ok (.invokestatic 82, 3) := by decide +kernel
theorem dX4_followChains_48 : decode cX4_followChains 48 = .ok (.ifCond .eq 12, 3) := by decide +kernel
theorem dX4_followChains_51 : decode cX4_followChains 51 = .ok (.aload_n 0, 1) := by decide +kernel
theorem dX4_followChains_52 : decode cX4_followChains 52 = .ok (.getfield 37, 3) := by decide +kernel
theorem dX4_followChains_55 : decode cX4_followChains 55 = .ok (.iload_n 1, 1) := by decide +kernel
theorem dX4_followChains_56 : decode cX4_followChains 56 = .ok (.iaload, 1) := by decide +kernel
theorem dX4_followChains_57 : decode cX4_followChains 57 = .ok (.goto 4, 3) := by decide +kernel
theorem dX4_followChains_60 : decode cX4_followChains 60 = .ok (.iconst 0, 1) := by decide +kernel
theorem dX4_followChains_61 : decode cX4_followChains 61 = .ok (.ior, 1) := by decide +kernel
theorem dX4_followChains_62 : decode cX4_followChains 62 = .ok (.iastore, 1) := by decide +kernel
theorem dX4_followChains_63 : decode cX4_followChains 63 = .ok (.iinc 2 1, 3) := by decide +kernel
theorem dX4_followChains_66 : decode cX4_followChains 66 = .ok (.goto (-41), 3) := by decide +kernel
theorem dX4_followChains_69 : decode cX4_followChains 69 = .ok (.iinc 1 1, 3) := by decide +kernel
theorem dX4_followChains_72 : decode cX4_followChains 72 = .ok (.goto (-55), 3) := by decide +kernel
theorem dX4_followChains_75 : decode cX4_followChains 75 = .ok (.aload_n 0, 1) := by decide +kernel
theorem dX4_followChains_76 : decode cX4_followChains 76 = .ok (.getfield 40, 3) := by decide +kernel
theorem dX4_followChains_79 : decode cX4_followChains 79 = .ok (.iconst 0, 1) := by decide +kernel
theorem dX4_followChains_80 : decode cX4_followChains 80 = .ok (.invokestatic 49, 3) := by decide +kernel
theorem dX4_followChains_83 : decode cX4_followChains 83 = .ok (.iconst 0, 1) := by decide +kernel
theorem dX4_followChains_84 : decode cX4_followChains 84 = .ok (.istore_n 1, 1) := by decide +kernel
theorem dX4_followChains_85 : decode cX4_followChains 85 = .ok (.iload_n 1, 1) := by decide +kernel
theorem dX4_followChains_86 : decode cX4_followChains 86 = .ok (.bipush 12, 2) := by decide +kernel
theorem dX4_followChains_88 : decode cX4_followChains 88 = .ok (.if_icmp .ge 52, 3) := by decide +kernel
theorem dX4_followChains_91 : decode cX4_followChains 91 = .ok (.iconst 0, 1) := by decide +kernel
theorem dX4_followChains_92 : decode cX4_followChains 92 = .ok (.istore_n 2, 1) := by decide +kernel
theorem dX4_followChains_93 : decode cX4_followChains 93 = .ok (.iload_n 2, 1) := by decide +kernel
theorem dX4_followChains_94 : decode cX4_followChains 94 = .ok (.bipush 12, 2) := by decide +kernel
theorem dX4_followChains_96 : decode cX4_followChains 96 = .ok (.if_icmp .ge 38, 3) := by decide +kernel
theorem dX4_followChains_99 : decode cX4_followChains 99 = .ok (.aload_n 0, 1) := by decide +kernel
theorem dX4_followChains_100 : decode cX4_followChains 100 = .ok (.getfield 40, 3) := by decide +kernel
theorem dX4_followChains_103 : decode cX4_followChains 103 = .ok (.iload_n 1, 1) := by decide +kernel
theorem dX4_followChains_104 : decode cX4_followChains 104 = .ok (.dup2, 1) := by decide +kernel
theorem dX4_followChains_105 : decode cX4_followChains 105 = .ok (.iaload, 1) := by decide +kernel
theorem dX4_followChains_106 : decode cX4_followChains 106 = .ok (.aload_n 0, 1) := by decide +kernel
theorem dX4_followChains_107 : decode cX4_followChains 107 = .ok (.getfield 37, 3) := by decide +kernel
theorem dX4_followChains_110 : decode cX4_followChains 110 = .ok (.iload_n 2, 1) := by decide +kernel
theorem dX4_followChains_111 : decode cX4_followChains 111 = .ok (.iaload, 1) := by decide +kernel
theorem dX4_followChains_112 : decode cX4_followChains 112 = .ok (.iload_n 1, 1) := by decide +kernel
theorem dX4_followChains_113 : decode cX4_followChains 113 = .ok (.invokestatic 82, 3) := by decide +kernel
theorem dX4_followChains_116 : decode cX4_followChains 116 = .ok (.ifCond .eq 9, 3) := by decide +kernel
theorem dX4_followChains_119 : decode cX4_followChains 119 = .ok (.iconst 1, 1) := by decide +kernel
theorem dX4_followChains_120 : decode cX4_followChains 120 = .ok (.iload_n 2, 1) := by decide +kernel
theorem dX4_followChains_121 : decode cX4_followChains 121 = .ok (.ishl, 1) := by decide +kernel
theorem dX4_followChains_122 : decode cX4_followChains 122 = .ok (.goto 4, 3) := by decide +kernel
theorem dX4_followChains_125 : decode cX4_followChains 125 = .ok (.iconst 0, 1) := by decide +kernel
theorem dX4_followChains_126 : decode cX4_followChains 126 = .ok (.ior, 1) := by decide +kernel
theorem dX4_followChains_127 : decode cX4_followChains 127 = .ok (.iastore, 1) := by decide +kernel
theorem dX4_followChains_128 : decode cX4_followChains 128 = .ok (.iinc 2 1, 3) := by decide +kernel
theorem dX4_followChains_131 : decode cX4_followChains 131 = .ok (.goto (-38), 3) := by decide +kernel
theorem dX4_followChains_134 : decode cX4_followChains 134 = .ok (.iinc 1 1, 3) := by decide +kernel
theorem dX4_followChains_137 : decode cX4_followChains 137 = .ok (.goto (-52), 3) := by decide +kernel
theorem dX4_followChains_140 : decode cX4_followChains 140 = .ok (.return_, 1) := by decide +kernel
theorem dX4_pairKind_0 : decode cX4_pairKind 0 = .ok (.aload_n 0, 1) := by decide +kernel
theorem dX4_pairKind_1 : decode cX4_pairKind 1 = .ok (.getfield 43, 3) := by decide +kernel
theorem dX4_pairKind_4 : decode cX4_pairKind 4 = .ok (.iload_n 1, 1) := by decide +kernel
theorem dX4_pairKind_5 : decode cX4_pairKind 5 = .ok (.iaload, 1) := by decide +kernel
theorem dX4_pairKind_6 : decode cX4_pairKind 6 = .ok (.iload_n 2, 1) := by decide +kernel
theorem dX4_pairKind_7 : decode cX4_pairKind 7 = .ok (.invokestatic 82, 3) := by decide +kernel
theorem dX4_pairKind_10 : decode cX4_pairKind 10 = .ok (.ifCond .eq 5, 3) := by decide +kernel
theorem dX4_pairKind_13 : decode cX4_pairKind 13 = .ok (.iconst 1, 1) := by decide +kernel
theorem dX4_pairKind_14 : decode cX4_pairKind 14 = .ok (.ireturn, 1) := by decide +kernel
theorem dX4_pairKind_15 : decode cX4_pairKind 15 = .ok (.aload_n 0, 1) := by decide +kernel
theorem dX4_pairKind_16 : decode cX4_pairKind 16 = .ok (.getfield 46, 3) := by decide +kernel
theorem dX4_pairKind_19 : decode cX4_pairKind 19 = .ok (.iload_n 1, 1) := by decide +kernel
theorem dX4_pairKind_20 : decode cX4_pairKind 20 = .ok (.iaload, 1) := by decide +kernel
theorem dX4_pairKind_21 : decode cX4_pairKind 21 = .ok (.iload_n 2, 1) := by decide +kernel
theorem dX4_pairKind_22 : decode cX4_pairKind 22 = .ok (.invokestatic 82, 3) := by decide +kernel
theorem dX4_pairKind_25 : decode cX4_pairKind 25 = .ok (.ifCond .eq 7, 3) := by decide +kernel
theorem dX4_pairKind_28 : decode cX4_pairKind 28 = .ok (.iconst 2, 1) := by decide +kernel
theorem dX4_pairKind_29 : decode cX4_pairKind 29 = .ok (.goto 4, 3) := by decide +kernel
theorem dX4_pairKind_32 : decode cX4_pairKind 32 = .ok (.iconst 0, 1) := by decide +kernel
theorem dX4_pairKind_33 : decode cX4_pairKind 33 = .ok (.ireturn, 1) := by decide +kernel
theorem dX4_join_0 : decode cX4_join 0 = .ok (.aload_n 0, 1) := by decide +kernel
theorem dX4_join_1 : decode cX4_join 1 = .ok (.iload_n 1, 1) := by decide +kernel
theorem dX4_join_2 : decode cX4_join 2 = .ok (.iload_n 2, 1) := by decide +kernel
theorem dX4_join_3 : decode cX4_join 3 = .ok (.invokevirtual 101, 3) := by decide +kernel
theorem dX4_join_6 : decode cX4_join 6 = .ok (.iload_n 3, 1) := by decide +kernel
theorem dX4_join_7 : decode cX4_join 7 = .ok (.ifCond .eq 10, 3) := by decide +kernel
theorem dX4_join_10 : decode cX4_join 10 = .ok (.aload_n 0, 1) := by decide +kernel
theorem dX4_join_11 : decode cX4_join 11 = .ok (.getfield 43, 3) := by decide +kernel
theorem dX4_join_14 : decode cX4_join 14 = .ok (.goto 7, 3) := by decide +kernel
theorem dX4_join_17 : decode cX4_join 17 = .ok (.aload_n 0, 1) := by decide +kernel
theorem dX4_join_18 : decode cX4_join 18 = .ok (.getfield 46, 3) := by decide +kernel
theorem dX4_join_21 : decode cX4_join 21 = .ok (.astore 4, 2) := by decide +kernel
theorem dX4_join_23 : decode cX4_join 23 = .ok (.aload 4, 2) := by decide +kernel
theorem dX4_join_25 : decode cX4_join 25 = .ok (.iload_n 1, 1) := by decide +kernel
theorem dX4_join_26 : decode cX4_join 26 = .ok (.dup2, 1) := by decide +kernel
theorem dX4_join_27 : decode cX4_join 27 = .ok (.iaload, 1) := by decide +kernel
theorem dX4_join_28 : decode cX4_join 28 = .ok (.iconst 1, 1) := by decide +kernel
theorem dX4_join_29 : decode cX4_join 29 = .ok (.iload_n 2, 1) := by decide +kernel
theorem dX4_join_30 : decode cX4_join 30 = .ok (.ishl, 1) := by decide +kernel
theorem dX4_join_31 : decode cX4_join 31 = .ok (.ior, 1) := by decide +kernel
theorem dX4_join_32 : decode cX4_join 32 = .ok (.iastore, 1) := by decide +kernel
theorem dX4_join_33 : decode cX4_join 33 = .ok (.aload 4, 2) := by decide +kernel
theorem dX4_join_35 : decode cX4_join 35 = .ok (.iload_n 2, 1) := by decide +kernel
theorem dX4_join_36 : decode cX4_join 36 = .ok (.dup2, 1) := by decide +kernel
theorem dX4_join_37 : decode cX4_join 37 = .ok (.iaload, 1) := by decide +kernel
theorem dX4_join_38 : decode cX4_join 38 = .ok (.iconst 1, 1) := by decide +kernel
theorem dX4_join_39 : decode cX4_join 39 = .ok (.iload_n 1, 1) := by decide +kernel
theorem dX4_join_40 : decode cX4_join 40 = .ok (.ishl, 1) := by decide +kernel
theorem dX4_join_41 : decode cX4_join 41 = .ok (.ior, 1) := by decide +kernel
theorem dX4_join_42 : decode cX4_join 42 = .ok (.iastore, 1) := by decide +kernel
theorem dX4_join_43 : decode cX4_join 43 = .ok (.return_, 1) := by decide +kernel
theorem dX4_unpair_0 : decode cX4_unpair 0 = .ok (.aload_n 0, 1) := by decide +kernel
theorem dX4_unpair_1 : decode cX4_unpair 1 = .ok (.getfield 43, 3) := by decide +kernel
theorem dX4_unpair_4 : decode cX4_unpair 4 = .ok (.iload_n 1, 1) := by decide +kernel
theorem dX4_unpair_5 : decode cX4_unpair 5 = .ok (.dup2, 1) := by decide +kernel
theorem dX4_unpair_6 : decode cX4_unpair 6 = .ok (.iaload, 1) := by decide +kernel
theorem dX4_unpair_7 : decode cX4_unpair 7 = .ok (.iconst 1, 1) := by decide +kernel
theorem dX4_unpair_8 : decode cX4_unpair 8 = .ok (.iload_n 2, 1) := by decide +kernel
theorem dX4_unpair_9 : decode cX4_unpair 9 = .ok (.ishl, 1) := by decide +kernel
theorem dX4_unpair_10 : decode cX4_unpair 10 = .ok (.iconst (-1), 1) := by decide +kernel
theorem dX4_unpair_11 : decode cX4_unpair 11 = .ok (.ixor, 1) := by decide +kernel
theorem dX4_unpair_12 : decode cX4_unpair 12 = .ok (.iand, 1) := by decide +kernel
theorem dX4_unpair_13 : decode cX4_unpair 13 = .ok (.iastore, 1) := by decide +kernel
theorem dX4_unpair_14 : decode cX4_unpair 14 = .ok (.aload_n 0, 1) := by decide +kernel
theorem dX4_unpair_15 : decode cX4_unpair 15 = .ok (.getfield 43, 3) := by decide +kernel
theorem dX4_unpair_18 : decode cX4_unpair 18 = .ok (.iload_n 2, 1) := by decide +kernel
theorem dX4_unpair_19 : decode cX4_unpair 19 = .ok (.dup2, 1) := by decide +kernel
theorem dX4_unpair_20 : decode cX4_unpair 20 = .ok (.iaload, 1) := by decide +kernel
theorem dX4_unpair_21 : decode cX4_unpair 21 = .ok (.iconst 1, 1) := by decide +kernel
theorem dX4_unpair_22 : decode cX4_unpair 22 = .ok (.iload_n 1, 1) := by decide +kernel
theorem dX4_unpair_23 : decode cX4_unpair 23 = .ok (.ishl, 1) := by decide +kernel
theorem dX4_unpair_24 : decode cX4_unpair 24 = .ok (.iconst (-1), 1) := by decide +kernel
theorem dX4_unpair_25 : decode cX4_unpair 25 = .ok (.ixor, 1) := by decide +kernel
theorem dX4_unpair_26 : decode cX4_unpair 26 = .ok (.iand, 1) := by decide +kernel
theorem dX4_unpair_27 : decode cX4_unpair 27 = .ok (.iastore, 1) := by decide +kernel
theorem dX4_unpair_28 : decode cX4_unpair 28 = .ok (.aload_n 0, 1) := by decide +kernel
theorem dX4_unpair_29 : decode cX4_unpair 29 = .ok (.getfield 46, 3) := by decide +kernel
theorem dX4_unpair_32 : decode cX4_unpair 32 = .ok (.iload_n 1, 1) := by decide +kernel
theorem dX4_unpair_33 : decode cX4_unpair 33 = .ok (.dup2, 1) := by decide +kernel
theorem dX4_unpair_34 : decode cX4_unpair 34 = .ok (.iaload, 1) := by decide +kernel
theorem dX4_unpair_35 : decode cX4_unpair 35 = .ok (.iconst 1, 1) := by decide +kernel
theorem dX4_unpair_36 : decode cX4_unpair 36 = .ok (.iload_n 2, 1) := by decide +kernel
theorem dX4_unpair_37 : decode cX4_unpair 37 = .ok (.ishl, 1) := by decide +kernel
theorem dX4_unpair_38 : decode cX4_unpair 38 = .ok (.iconst (-1), 1) := by decide +kernel
theorem dX4_unpair_39 : decode cX4_unpair 39 = .ok (.ixor, 1) := by decide +kernel
theorem dX4_unpair_40 : decode cX4_unpair 40 = .ok (.iand, 1) := by decide +kernel
theorem dX4_unpair_41 : decode cX4_unpair 41 = .ok (.iastore, 1) := by decide +kernel
theorem dX4_unpair_42 : decode cX4_unpair 42 = .ok (.aload_n 0, 1) := by decide +kernel
theorem dX4_unpair_43 : decode cX4_unpair 43 = .ok (.getfield 46, 3) := by decide +kernel
theorem dX4_unpair_46 : decode cX4_unpair 46 = .ok (.iload_n 2, 1) := by decide +kernel
theorem dX4_unpair_47 : decode cX4_unpair 47 = .ok (.dup2, 1) := by decide +kernel
theorem dX4_unpair_48 : decode cX4_unpair 48 = .ok (.iaload, 1) := by decide +kernel
theorem dX4_unpair_49 : decode cX4_unpair 49 = .ok (.iconst 1, 1) := by decide +kernel
theorem dX4_unpair_50 : decode cX4_unpair 50 = .ok (.iload_n 1, 1) := by decide +kernel
theorem dX4_unpair_51 : decode cX4_unpair 51 = .ok (.ishl, 1) := by decide +kernel
theorem dX4_unpair_52 : decode cX4_unpair 52 = .ok (.iconst (-1), 1) := by decide +kernel
theorem dX4_unpair_53 : decode cX4_unpair 53 = .ok (.ixor, 1) := by decide +kernel
theorem dX4_unpair_54 : decode cX4_unpair 54 = .ok (.iand, 1) := by decide +kernel
theorem dX4_unpair_55 : decode cX4_unpair 55 = .ok (.iastore, 1) := by decide +kernel
theorem dX4_unpair_56 : decode cX4_unpair 56 = .ok (.return_, 1) := by decide +kernel
theorem dX4_takeAllOut_0 : decode cX4_takeAllOut 0 = .ok (.aload_n 0, 1) := by decide +kernel
theorem dX4_takeAllOut_1 : decode cX4_takeAllOut 1 = .ok (.getfield 31, 3) := by decide +kernel
theorem dX4_takeAllOut_4 : decode cX4_takeAllOut 4 = .ok (.iconst (-1), 1) := by decide +kernel
theorem dX4_takeAllOut_5 : decode cX4_takeAllOut 5 = .ok (.invokestatic 49, 3) := by decide +kernel
theorem dX4_takeAllOut_8 : decode cX4_takeAllOut 8 = .ok (.return_, 1) := by decide +kernel
theorem dX5_init_0 : decode cX5_init 0 = .ok (.aload_n 0, 1) := by decide +kernel
theorem dX5_init_1 : decode cX5_init 1 = .ok (.invokespecial 3, 3) := by decide +kernel
theorem dX5_init_4 : decode cX5_init 4 = .ok (.aload_n 0, 1) := by decide +kernel
theorem dX5_init_5 : decode cX5_init 5 = .ok (.new 9, 3) := by decide +kernel
theorem dX5_init_8 : decode cX5_init 8 = .ok (.dup, 1) := by decide +kernel
theorem dX5_init_9 : decode cX5_init 9 = .ok (.invokespecial 11, 3) := by decide +kernel
theorem dX5_init_12 : decode cX5_init 12 = .ok (.putfield 12, 3) := by decide +kernel
theorem dX5_init_15 : decode cX5_init 15 = .ok (.aload_n 0, 1) := by decide +kernel
theorem dX5_init_16 : decode cX5_init 16 = .ok (.aload_n 1, 1) := by decide +kernel
theorem dX5_init_17 : decode cX5_init 17 = .ok (.putfield 18, 3) := by decide +kernel
theorem dX5_init_20 : decode cX5_init 20 = .ok (.return_, 1) := by decide +kernel
theorem dX5_tasksIn_0 : decode cX5_tasksIn 0 = .ok (.iconst 0, 1) := by decide +kernel
theorem dX5_tasksIn_1 : decode cX5_tasksIn 1 = .ok (.istore_n 3, 1) := by decide +kernel
theorem dX5_tasksIn_2 : decode cX5_tasksIn 2 = .ok (.iconst 0, 1) := by decide +kernel
theorem dX5_tasksIn_3 : decode cX5_tasksIn 3 = .ok (.istore 4, 2) := by decide +kernel
theorem dX5_tasksIn_5 : decode cX5_tasksIn 5 = .ok (.iload 4, 2) := by decide +kernel
theorem dX5_tasksIn_7 : decode cX5_tasksIn 7 = .ok (.bipush 12, 2) := by decide +kernel
theorem dX5_tasksIn_9 : decode cX5_tasksIn 9 = .ok (.if_icmp .ge 38, 3) := by decide +kernel
theorem dX5_tasksIn_12 : decode cX5_tasksIn 12 = .ok (.iload_n 3, 1) := by decide +kernel
theorem dX5_tasksIn_13 : decode cX5_tasksIn 13 = .ok (.aload_n 0, 1) := by decide +kernel
theorem dX5_tasksIn_14 : decode cX5_tasksIn 14 = .ok (.getfield 18, 3) := by decide +kernel
theorem dX5_tasksIn_17 : decode cX5_tasksIn 17 = .ok (.getfield 22, 3) := by decide +kernel
theorem dX5_tasksIn_20 : decode cX5_tasksIn 20 = .ok (.iload 4, 2) := by decide +kernel
theorem dX5_tasksIn_22 : decode cX5_tasksIn 22 = .ok (.iaload, 1) := by decide +kernel
theorem dX5_tasksIn_23 : decode cX5_tasksIn 23 = .ok (.iload_n 1, 1) := by decide +kernel
theorem dX5_tasksIn_24 : decode cX5_tasksIn 24 = .ok (.iload_n 2, 1) := by decide +kernel
theorem dX5_tasksIn_25 : decode cX5_tasksIn 25 = .ok (.invokestatic 28, 3) := by decide +kernel
theorem dX5_tasksIn_28 : decode cX5_tasksIn 28 = .ok (.ifCond .eq 10, 3) := by decide +kernel
theorem dX5_tasksIn_31 : decode cX5_tasksIn 31 = .ok (.iconst 1, 1) := by decide +kernel
theorem dX5_tasksIn_32 : decode cX5_tasksIn 32 = .ok (.iload 4, 2) := by decide +kernel
theorem dX5_tasksIn_34 : decode cX5_tasksIn 34 = .ok (.ishl, 1) := by decide +kernel
theorem dX5_tasksIn_35 : decode cX5_tasksIn 35 = .ok (.goto 4, 3) := by decide +kernel
theorem dX5_tasksIn_38 : decode cX5_tasksIn 38 = .ok (.iconst 0, 1) := by decide +kernel
theorem dX5_tasksIn_39 : decode cX5_tasksIn 39 = .ok (.ior, 1) := by decide +kernel
theorem dX5_tasksIn_40 : decode cX5_tasksIn 40 = .ok (.istore_n 3, 1) := by decide +kernel
theorem dX5_tasksIn_41 : decode cX5_tasksIn 41 = .ok (.iinc 4 1, 3) := by decide +kernel
theorem dX5_tasksIn_44 : decode cX5_tasksIn 44 = .ok (.goto (-39), 3) := by decide +kernel
theorem dX5_tasksIn_47 : decode cX5_tasksIn 47 = .ok (.iload_n 3, 1) := by decide +kernel
theorem dX5_tasksIn_48 : decode cX5_tasksIn 48 = .ok (.ireturn, 1) := by decide +kernel
theorem dX5_placed_0 : decode cX5_placed 0 = .ok (.aload_n 0, 1) := by decide +kernel
theorem dX5_placed_1 : decode cX5_placed 1 = .ok (.iconst 0, 1) := by decide +kernel
theorem dX5_placed_2 : decode cX5_placed 2 = .ok (.bipush 7, 2) := by decide +kernel
theorem dX5_placed_4 : decode cX5_placed 4 = .ok (.invokevirtual 32, 3) := by decide +kernel
theorem dX5_placed_7 : decode cX5_placed 7 = .ok (.ireturn, 1) := by decide +kernel
theorem dX5_isUsed_0 : decode cX5_isUsed 0 = .ok (.aload_n 0, 1) := by decide +kernel
theorem dX5_isUsed_1 : decode cX5_isUsed 1 = .ok (.iload_n 1, 1) := by decide +kernel
theorem dX5_isUsed_2 : decode cX5_isUsed 2 = .ok (.iload_n 1, 1) := by decide +kernel
theorem dX5_isUsed_3 : decode cX5_isUsed 3 = .ok (.invokevirtual 32, 3) := by decide +kernel
theorem dX5_isUsed_6 : decode cX5_isUsed 6 = .ok (.ifCond .eq 7, 3) := by decide +kernel
theorem dX5_isUsed_9 : decode cX5_isUsed 9 = .ok (.iconst 1, 1) := by decide +kernel
theorem dX5_isUsed_10 : decode cX5_isUsed 10 = .ok (.goto 4, 3) := by decide +kernel
theorem dX5_isUsed_13 : decode cX5_isUsed 13 = .ok (.iconst 0, 1) := by decide +kernel
theorem dX5_isUsed_14 : decode cX5_isUsed 14 = .ok (.ireturn, 1) := by decide +kernel
theorem dX5_workIn_0 : decode cX5_workIn 0 = .ok (.aload_n 0, 1) := by decide +kernel
theorem dX5_workIn_1 : decode cX5_workIn 1 = .ok (.getfield 12, 3) := by decide +kernel
theorem dX5_workIn_4 : decode cX5_workIn 4 = .ok (.aload_n 0, 1) := by decide +kernel
theorem dX5_workIn_5 : decode cX5_workIn 5 = .ok (.getfield 18, 3) := by decide +kernel
theorem dX5_workIn_8 : decode cX5_workIn 8 = .ok (.aload_n 0, 1) := by decide +kernel
theorem dX5_workIn_9 : decode cX5_workIn 9 = .ok (.iload_n 1, 1) := by decide +kernel
theorem dX5_workIn_10 : decode cX5_workIn 10 = .ok (.iload_n 1, 1) := by decide +kernel
theorem dX5_workIn_11 : decode cX5_workIn 11 = .ok (.invokevirtual 32, 3) := by decide +kernel
theorem dX5_workIn_14 : decode cX5_workIn 14 = .ok (.invokevirtual 36, 3) := by decide +kernel
theorem dX5_workIn_17 : decode cX5_workIn 17 = .ok (.aload_n 0, 1) := by decide +kernel
theorem dX5_workIn_18 : decode cX5_workIn 18 = .ok (.getfield 12, 3) := by decide +kernel
theorem dX5_workIn_21 : decode cX5_workIn 21 = .ok (.areturn, 1) := by decide +kernel
theorem dX5_loadOf_0 : decode cX5_loadOf 0 = .ok (.aload_n 0, 1) := by decide +kernel
theorem dX5_loadOf_1 : decode cX5_loadOf 1 = .ok (.iload_n 1, 1) := by decide +kernel
theorem dX5_loadOf_2 : decode cX5_loadOf 2 = .ok (.invokevirtual 40, 3) := by decide +kernel
theorem dX5_loadOf_5 : decode cX5_loadOf 5 = .ok (.getfield 44, 3) := by decide +kernel
theorem dX5_loadOf_8 : decode cX5_loadOf 8 = .ok (.ireturn, 1) := by decide +kernel
theorem dX5_lackOf_0 : decode cX5_lackOf 0 = .ok (.aload_n 0, 1) := by decide +kernel
theorem dX5_lackOf_1 : decode cX5_lackOf 1 = .ok (.iload_n 1, 1) := by decide +kernel
theorem dX5_lackOf_2 : decode cX5_lackOf 2 = .ok (.invokevirtual 40, 3) := by decide +kernel
theorem dX5_lackOf_5 : decode cX5_lackOf 5 = .ok (.aload_n 0, 1) := by decide +kernel
theorem dX5_lackOf_6 : decode cX5_lackOf 6 = .ok (.getfield 18, 3) := by decide +kernel
theorem dX5_lackOf_9 : decode cX5_lackOf 9 = .ok (.aload_n 0, 1) := by decide +kernel
theorem dX5_lackOf_10 : decode cX5_lackOf 10 = .ok (.getfield 18, 3) := by decide +kernel
theorem dX5_lackOf_13 : decode cX5_lackOf 13 = .ok (.getfield 48, 3) := by decide +kernel
theorem dX5_lackOf_16 : decode cX5_lackOf 16 = .ok (.iload_n 1, 1) := by decide +kernel
theorem dX5_lackOf_17 : decode cX5_lackOf 17 = .ok (.iaload, 1) := by decide +kernel
theorem dX5_lackOf_18 : decode cX5_lackOf 18 = .ok (.invokevirtual 51, 3) := by decide +kernel
theorem dX5_lackOf_21 : decode cX5_lackOf 21 = .ok (.ireturn, 1) := by decide +kernel
theorem dX5_isFitting_0 : decode cX5_isFitting 0 = .ok (.aload_n 0, 1) := by decide +kernel
theorem dX5_isFitting_1 : decode cX5_isFitting 1 = .ok (.iload_n 1, 1) := by decide +kernel
theorem dX5_isFitting_2 : decode cX5_isFitting 2 = .ok (.invokevirtual 40, 3) := by decide +kernel
theorem dX5_isFitting_5 : decode cX5_isFitting 5 = .ok (.aload_n 0, 1) := by decide +kernel
theorem dX5_isFitting_6 : decode cX5_isFitting 6 = .ok (.getfield 18, 3) := by decide +kernel
theorem dX5_isFitting_9 : decode cX5_isFitting 9 = .ok (.aload_n 0, 1) := by decide +kernel
theorem dX5_isFitting_10 : decode cX5_isFitting 10 = .ok (.getfield 18, 3) := by decide +kernel
theorem dX5_isFitting_13 : decode cX5_isFitting 13 = .ok (.getfield 48, 3) := by decide +kernel
theorem dX5_isFitting_16 : decode cX5_isFitting 16 = .ok (.iload_n 1, 1) := by decide +kernel
theorem dX5_isFitting_17 : decode cX5_isFitting 17 = .ok (.iaload, 1) := by decide +kernel
theorem dX5_isFitting_18 : decode cX5_isFitting 18 = .ok (.invokevirtual 55, 3) := by decide +kernel
theorem dX5_isFitting_21 : decode cX5_isFitting 21 = .ok (.ireturn, 1) := by decide +kernel
theorem dX5_refusal_0 : decode cX5_refusal 0 = .ok (.aload_n 0, 1) := by decide +kernel
theorem dX5_refusal_1 : decode cX5_refusal 1 = .ok (.iconst 0, 1) := by decide +kernel
theorem dX5_refusal_2 : decode cX5_refusal 2 = .ok (.iload_n 2, 1) := by decide +kernel
theorem dX5_refusal_3 : decode cX5_refusal 3 = .ok (.iconst 1, 1) := by decide +kernel
theorem dX5_refusal_4 : decode cX5_refusal 4 = .ok (.isub, 1) := by decide +kernel
theorem dX5_refusal_5 : decode cX5_refusal 5 = .ok (.invokevirtual 32, 3) := by decide +kernel
theorem dX5_refusal_8 : decode cX5_refusal 8 = .ok (.istore_n 3, 1) := by decide +kernel
theorem dX5_refusal_9 : decode cX5_refusal 9 = .ok (.aload_n 0, 1) := by decide +kernel
theorem dX5_refusal_10 : decode cX5_refusal 10 = .ok (.iload_n 2, 1) := by decide +kernel
theorem dX5_refusal_11 : decode cX5_refusal 11 = .ok (.iload_n 2, 1) := by decide +kernel
theorem dX5_refusal_12 : decode cX5_refusal 12 = .ok (.invokevirtual 32, 3) := by decide +kernel
theorem dX5_refusal_15 : decode cX5_refusal 15 = .ok (.istore 4, 2) := by decide +kernel
theorem dX5_refusal_17 : decode cX5_refusal 17 = .ok (.aload_n 0, 1) := by decide +kernel
theorem dX5_refusal_18 : decode cX5_refusal 18 = .ok (.iload_n 2, 1) := by decide +kernel
theorem dX5_refusal_19 : decode cX5_refusal 19 = .ok (.iconst 1, 1) := by decide +kernel
theorem dX5_refusal_20 : decode cX5_refusal 20 = .ok (.iadd, 1) := by decide +kernel
theorem dX5_refusal_21 : decode cX5_refusal 21 = .ok (.bipush 7, 2) := by decide +kernel
theorem dX5_refusal_23 : decode cX5_refusal 23 = .ok (.invokevirtual 32, 3) := by decide +kernel
theorem dX5_refusal_26 : decode cX5_refusal 26 = .ok (.istore 5, 2) := by decide +kernel
theorem dX5_refusal_28 : decode cX5_refusal 28 = .ok (.aload_n 0, 1) := by decide +kernel
theorem dX5_refusal_29 : decode cX5_refusal 29 = .ok (.getfield 18, 3) := by decide +kernel
theorem dX5_refusal_32 : decode cX5_refusal 32 = .ok (.getfield 59, 3) := by decide +kernel
theorem dX5_refusal_35 : decode cX5_refusal 35 = .ok (.iload_n 1, 1) := by decide +kernel
theorem dX5_refusal_36 : decode cX5_refusal 36 = .ok (.iaload, 1) := by decide +kernel
theorem dX5_refusal_37 : decode cX5_refusal 37 = .ok (.iload 5, 2) := by decide +kernel
theorem dX5_refusal_39 : decode cX5_refusal 39 = .ok (.iand, 1) := by decide +kernel
theorem dX5_refusal_40 : decode cX5_refusal 40 = .ok (.ifCond .eq 5, 3) := by decide +kernel
theorem dX5_refusal_43 : decode cX5_refusal 43 = .ok (.iconst 1, 1) := by decide +kernel
theorem dX5_refusal_44 : decode cX5_refusal 44 = .ok (.ireturn, 1) := by decide +kernel
theorem dX5_refusal_45 : decode cX5_refusal 45 = .ok (.aload_n 0, 1) := by decide +kernel
theorem dX5_refusal_46 : decode cX5_refusal 46 = .ok (.getfield 18, 3) := by decide +kernel
theorem dX5_refusal_49 : decode cX5_refusal 49 = .ok (.getfield 62, 3) := by decide +kernel
theorem dX5_refusal_52 : decode cX5_refusal 52 = .ok (.iload_n 1, 1) := by decide +kernel
theorem dX5_refusal_53 : decode cX5_refusal 53 = .ok (.iaload, 1) := by decide +kernel
theorem dX5_refusal_54 : decode cX5_refusal 54 = .ok (.iload_n 3, 1) := by decide +kernel
theorem dX5_refusal_55 : decode cX5_refusal 55 = .ok (.iand, 1) := by decide +kernel
theorem dX5_refusal_56 : decode cX5_refusal 56 = .ok (.ifCond .eq 5, 3) := by decide +kernel
theorem dX5_refusal_59 : decode cX5_refusal 59 = .ok (.iconst 2, 1) := by decide +kernel
theorem dX5_refusal_60 : decode cX5_refusal 60 = .ok (.ireturn, 1) := by decide +kernel
theorem dX5_refusal_61 : decode cX5_refusal 61 = .ok (.aload_n 0, 1) := by decide +kernel
theorem dX5_refusal_62 : decode cX5_refusal 62 = .ok (.getfield 18, 3) := by decide +kernel
theorem dX5_refusal_65 : decode cX5_refusal 65 = .ok (.getfield 65, 3) := by decide +kernel
theorem dX5_refusal_68 : decode cX5_refusal 68 = .ok (.iload_n 1, 1) := by decide +kernel
theorem dX5_refusal_69 : decode cX5_refusal 69 = .ok (.iaload, 1) := by decide +kernel
theorem dX5_refusal_70 : decode cX5_refusal 70 = .ok (.iload 4, 2) := by decide +kernel
theorem dX5_refusal_72 : decode cX5_refusal 72 = .ok (.iand, 1) := by decide +kernel
theorem dX5_refusal_73 : decode cX5_refusal 73 = .ok (.ifCond .eq 5, 3) := by decide +kernel
theorem dX5_refusal_76 : decode cX5_refusal 76 = .ok (.iconst 3, 1) := by decide +kernel
theorem dX5_refusal_77 : decode cX5_refusal 77 = .ok (.ireturn, 1) := by decide +kernel
theorem dX5_refusal_78 : decode cX5_refusal 78 = .ok (.aload_n 0, 1) := by decide +kernel
theorem dX5_refusal_79 : decode cX5_refusal 79 = .ok (.getfield 18, 3) := by decide +kernel
theorem dX5_refusal_82 : decode cX5_refusal 82 = .ok (.getfield 68, 3) := by decide +kernel
theorem dX5_refusal_85 : decode cX5_refusal 85 = .ok (.iload_n 1, 1) := by decide +kernel
theorem dX5_refusal_86 : decode cX5_refusal 86 = .ok (.iaload, 1) := by decide +kernel
theorem dX5_refusal_87 : decode cX5_refusal 87 = .ok (.iload_n 3, 1) := by decide +kernel
theorem dX5_refusal_88 : decode cX5_refusal 88 = .ok (.iload 5, 2) := by decide +kernel
theorem dX5_refusal_90 : decode cX5_refusal 90 = .ok (.ior, 1) := by decide +kernel
theorem dX5_refusal_91 : decode cX5_refusal 91 = .ok (.iand, 1) := by decide +kernel
theorem dX5_refusal_92 : decode cX5_refusal 92 = .ok (.ifCond .eq 5, 3) := by decide +kernel
theorem dX5_refusal_95 : decode cX5_refusal 95 = .ok (.iconst 4, 1) := by decide +kernel
theorem dX5_refusal_96 : decode cX5_refusal 96 = .ok (.ireturn, 1) := by decide +kernel
theorem dX5_refusal_97 : decode cX5_refusal 97 = .ok (.aload_n 0, 1) := by decide +kernel
theorem dX5_refusal_98 : decode cX5_refusal 98 = .ok (.getfield 12, 3) := by decide +kernel
theorem dX5_refusal_101 : decode cX5_refusal 101 = .ok (.aload_n 0, 1) := by decide +kernel
theorem dX5_refusal_102 : decode cX5_refusal 102 = .ok (.getfield 18, 3) := by decide +kernel
theorem dX5_refusal_105 : decode cX5_refusal 105 = .ok (.iload 4, 2) := by decide +kernel
theorem dX5_refusal_107 : decode cX5_refusal 107 = .ok (.iconst 1, 1) := by decide +kernel
theorem dX5_refusal_108 : decode cX5_refusal 108 = .ok (.iload_n 1, 1) := by decide +kernel
theorem dX5_refusal_109 : decode cX5_refusal 109 = .ok (.ishl, 1) := by decide +kernel
theorem dX5_refusal_110 : decode cX5_refusal 110 = .ok (.ior, 1) := by decide +kernel
theorem dX5_refusal_111 : decode cX5_refusal 111 = .ok (.invokevirtual 36, 3) := by decide +kernel
theorem dX5_refusal_114 : decode cX5_refusal 114 = .ok (.aload_n 0, 1) := by decide +kernel
theorem dX5_refusal_115 : decode cX5_refusal 115 = .ok (.getfield 12, 3) := by decide +kernel
theorem dX5_refusal_118 : decode cX5_refusal 118 = .ok (.aload_n 0, 1) := by decide +kernel
theorem dX5_refusal_119 : decode cX5_refusal 119 = .ok (.getfield 18, 3) := by decide +kernel
theorem dX5_refusal_122 : decode cX5_refusal 122 = .ok (.invokevirtual 71, 3) := by decide +kernel
theorem dX5_refusal_125 : decode cX5_refusal 125 = .ok (.ifCond .ne 5, 3) := by decide +kernel
theorem dX5_refusal_128 : decode cX5_refusal 128 = .ok (.iconst 5, 1) := by decide +kernel
theorem dX5_refusal_129 : decode cX5_refusal 129 = .ok (.ireturn, 1) := by decide +kernel
theorem dX5_refusal_130 : decode cX5_refusal 130 = .ok (.aload_n 0, 1) := by decide +kernel
theorem dX5_refusal_131 : decode cX5_refusal 131 = .ok (.getfield 12, 3) := by decide +kernel
theorem dX5_refusal_134 : decode cX5_refusal 134 = .ok (.aload_n 0, 1) := by decide +kernel
theorem dX5_refusal_135 : decode cX5_refusal 135 = .ok (.getfield 18, 3) := by decide +kernel
theorem dX5_refusal_138 : decode cX5_refusal 138 = .ok (.aload_n 0, 1) := by decide +kernel
theorem dX5_refusal_139 : decode cX5_refusal 139 = .ok (.getfield 18, 3) := by decide +kernel
theorem dX5_refusal_142 : decode cX5_refusal 142 = .ok (.getfield 48, 3) := by decide +kernel
theorem dX5_refusal_145 : decode cX5_refusal 145 = .ok (.iload_n 2, 1) := by decide +kernel
theorem dX5_refusal_146 : decode cX5_refusal 146 = .ok (.iaload, 1) := by decide +kernel
theorem dX5_refusal_147 : decode cX5_refusal 147 = .ok (.invokevirtual 55, 3) := by decide +kernel
theorem dX5_refusal_150 : decode cX5_refusal 150 = .ok (.ifCond .eq 7, 3) := by decide +kernel
theorem dX5_refusal_153 : decode cX5_refusal 153 = .ok (.iconst 0, 1) := by decide +kernel
theorem dX5_refusal_154 : decode cX5_refusal 154 = .ok (.goto 5, 3) := by decide +kernel
theorem dX5_refusal_157 : decode cX5_refusal 157 = .ok (.bipush 6, 2) := by decide +kernel
theorem dX5_refusal_159 : decode cX5_refusal 159 = .ok (.ireturn, 1) := by decide +kernel
theorem dX5_lowestFor_0 : decode cX5_lowestFor 0 = .ok (.iconst 0, 1) := by decide +kernel
theorem dX5_lowestFor_1 : decode cX5_lowestFor 1 = .ok (.istore_n 2, 1) := by decide +kernel
theorem dX5_lowestFor_2 : decode cX5_lowestFor 2 = .ok (.iload_n 2, 1) := by decide +kernel
theorem dX5_lowestFor_3 : decode cX5_lowestFor 3 = .ok (.bipush 8, 2) := by decide +kernel
theorem dX5_lowestFor_5 : decode cX5_lowestFor 5 = .ok (.if_icmp .ge 20, 3) := by decide +kernel
theorem dX5_lowestFor_8 : decode cX5_lowestFor 8 = .ok (.aload_n 0, 1) := by decide +kernel
theorem dX5_lowestFor_9 : decode cX5_lowestFor 9 = .ok (.iload_n 1, 1) := by decide +kernel
theorem dX5_lowestFor_10 : decode cX5_lowestFor 10 = .ok (.iload_n 2, 1) := by decide +kernel
theorem dX5_lowestFor_11 : decode cX5_lowestFor 11 = .ok (.invokevirtual 75, 3) := by decide +kernel
theorem dX5_lowestFor_14 : decode cX5_lowestFor 14 = .ok (.ifCond .ne 5, 3) := by decide +kernel
theorem dX5_lowestFor_17 : decode cX5_lowestFor 17 = .ok (.iload_n 2, 1) := by decide +kernel
theorem dX5_lowestFor_18 : decode cX5_lowestFor 18 = .ok (.ireturn, 1) := by decide +kernel
theorem dX5_lowestFor_19 : decode cX5_lowestFor 19 = .ok (.iinc 2 1, 3) := by decide +kernel
theorem dX5_lowestFor_22 : decode cX5_lowestFor 22 = .ok (.goto (-20), 3) := by decide +kernel
theorem dX5_lowestFor_25 : decode cX5_lowestFor 25 = .ok (.iconst (-1), 1) := by decide +kernel
theorem dX5_lowestFor_26 : decode cX5_lowestFor 26 = .ok (.ireturn, 1) := by decide +kernel
theorem dX5_fillBy_0 : decode cX5_fillBy 0 = .ok (.aload_n 0, 1) := by decide +kernel
theorem dX5_fillBy_1 : decode cX5_fillBy 1 = .ok (.getfield 18, 3) := by decide +kernel
theorem dX5_fillBy_4 : decode cX5_fillBy 4 = .ok (.invokevirtual 78, 3) := by decide +kernel
theorem dX5_fillBy_7 : decode cX5_fillBy 7 = .ok (.iconst 0, 1) := by decide +kernel
theorem dX5_fillBy_8 : decode cX5_fillBy 8 = .ok (.istore_n 2, 1) := by decide +kernel
theorem dX5_fillBy_9 : decode cX5_fillBy 9 = .ok (.iload_n 2, 1) := by decide +kernel
theorem dX5_fillBy_10 : decode cX5_fillBy 10 = .ok (.aload_n 0, 1) := by decide +kernel
theorem dX5_fillBy_11 : decode cX5_fillBy 11 = .ok (.getfield 18, 3) := by decide +kernel
theorem dX5_fillBy_14 : decode cX5_fillBy 14 = .ok (.getfield 81, 3) := by decide +kernel
theorem dX5_fillBy_17 : decode cX5_fillBy 17 = .ok (.if_icmp .ge 47, 3) := by decide +kernel
theorem dX5_fillBy_20 : decode cX5_fillBy 20 = .ok (.aload_n 0, 1) := by decide +kernel
theorem dX5_fillBy_21 : decode cX5_fillBy 21 = .ok (.iload_n 1, 1) := by decide +kernel
theorem dX5_fillBy_22 : decode cX5_fillBy 22 = .ok (.invokevirtual 84, 3) := by decide +kernel
theorem dX5_fillBy_25 : decode cX5_fillBy 25 = .ok (.istore_n 3, 1) := by decide +kernel
theorem dX5_fillBy_26 : decode cX5_fillBy 26 = .ok (.aload_n 0, 1) := by decide +kernel
theorem dX5_fillBy_27 : decode cX5_fillBy 27 = .ok (.iload_n 3, 1) := by decide +kernel
theorem dX5_fillBy_28 : decode cX5_fillBy 28 = .ok (.invokevirtual 88, 3) := by decide +kernel
theorem dX5_fillBy_31 : decode cX5_fillBy 31 = .ok (.istore 4, 2) := by decide +kernel
theorem dX5_fillBy_33 : decode cX5_fillBy 33 = .ok (.iload 4, 2) := by decide +kernel
theorem dX5_fillBy_35 : decode cX5_fillBy 35 = .ok (.iconst (-1), 1) := by decide +kernel
theorem dX5_fillBy_36 : decode cX5_fillBy 36 = .ok (.if_icmp .ne 11, 3) := by decide +kernel
theorem dX5_fillBy_39 : decode cX5_fillBy 39 = .ok (.aload_n 0, 1) := by decide +kernel
theorem dX5_fillBy_40 : decode cX5_fillBy 40 = .ok (.iload_n 3, 1) := by decide +kernel
theorem dX5_fillBy_41 : decode cX5_fillBy 41 = .ok (.bipush 7, 2) := by decide +kernel
theorem dX5_fillBy_43 : decode cX5_fillBy 43 = .ok (.invokevirtual 75, 3) := by decide +kernel
theorem dX5_fillBy_46 : decode cX5_fillBy 46 = .ok (.ireturn, 1) := by decide +kernel
theorem dX5_fillBy_47 : decode cX5_fillBy 47 = .ok (.aload_n 0, 1) := by decide +kernel
theorem dX5_fillBy_48 : decode cX5_fillBy 48 = .ok (.getfield 18, 3) := by decide +kernel
theorem dX5_fillBy_51 : decode cX5_fillBy 51 = .ok (.getfield 22, 3) := by decide +kernel
theorem dX5_fillBy_54 : decode cX5_fillBy 54 = .ok (.iload_n 3, 1) := by decide +kernel
theorem dX5_fillBy_55 : decode cX5_fillBy 55 = .ok (.iload 4, 2) := by decide +kernel
theorem dX5_fillBy_57 : decode cX5_fillBy 57 = .ok (.iastore, 1) := by decide +kernel
theorem dX5_fillBy_58 : decode cX5_fillBy 58 = .ok (.iinc 2 1, 3) := by decide +kernel
theorem dX5_fillBy_61 : decode cX5_fillBy 61 = .ok (.goto (-52), 3) := by decide +kernel
theorem dX5_fillBy_64 : decode cX5_fillBy 64 = .ok (.iconst 0, 1) := by decide +kernel
theorem dX5_fillBy_65 : decode cX5_fillBy 65 = .ok (.ireturn, 1) := by decide +kernel
theorem dX5_nextToFill_0 : decode cX5_nextToFill 0 = .ok (.aload_n 0, 1) := by decide +kernel
theorem dX5_nextToFill_1 : decode cX5_nextToFill 1 = .ok (.invokevirtual 91, 3) := by decide +kernel
theorem dX5_nextToFill_4 : decode cX5_nextToFill 4 = .ok (.istore_n 2, 1) := by decide +kernel
theorem dX5_nextToFill_5 : decode cX5_nextToFill 5 = .ok (.iconst 0, 1) := by decide +kernel
theorem dX5_nextToFill_6 : decode cX5_nextToFill 6 = .ok (.istore_n 3, 1) := by decide +kernel
theorem dX5_nextToFill_7 : decode cX5_nextToFill 7 = .ok (.iconst (-1), 1) := by decide +kernel
theorem dX5_nextToFill_8 : decode cX5_nextToFill 8 = .ok (.istore 4, 2) := by decide +kernel
theorem dX5_nextToFill_10 : decode cX5_nextToFill 10 = .ok (.iconst 0, 1) := by decide +kernel
theorem dX5_nextToFill_11 : decode cX5_nextToFill 11 = .ok (.istore 5, 2) := by decide +kernel
theorem dX5_nextToFill_13 : decode cX5_nextToFill 13 = .ok (.iload 5, 2) := by decide +kernel
theorem dX5_nextToFill_15 : decode cX5_nextToFill 15 = .ok (.aload_n 0, 1) := by decide +kernel
theorem dX5_nextToFill_16 : decode cX5_nextToFill 16 = .ok (.getfield 18, 3) := by decide +kernel
theorem dX5_nextToFill_19 : decode cX5_nextToFill 19 = .ok (.getfield 81, 3) := by decide +kernel
theorem dX5_nextToFill_22 : decode cX5_nextToFill 22 = .ok (.if_icmp .ge 70, 3) := by decide +kernel
theorem dX5_nextToFill_25 : decode cX5_nextToFill 25 = .ok (.iload_n 2, 1) := by decide +kernel
theorem dX5_nextToFill_26 : decode cX5_nextToFill 26 = .ok (.iload 5, 2) := by decide +kernel
theorem dX5_nextToFill_28 : decode cX5_nextToFill 28 = .ok (.invokestatic 95, 3) := by decide +kernel
theorem dX5_nextToFill_31 : decode cX5_nextToFill 31 = .ok (.ifCond .ne 55, 3) := by decide +kernel
theorem dX5_nextToFill_34 : decode cX5_nextToFill 34 = .ok (.aload_n 0, 1) := by decide +kernel
theorem dX5_nextToFill_35 : decode cX5_nextToFill 35 = .ok (.getfield 18, 3) := by decide +kernel
theorem dX5_nextToFill_38 : decode cX5_nextToFill 38 = .ok (.getfield 59, 3) := by decide +kernel
theorem dX5_nextToFill_41 : decode cX5_nextToFill 41 = .ok (.iload 5, 2) := by decide +kernel
theorem dX5_nextToFill_43 : decode cX5_nextToFill 43 = .ok (.iaload, 1) := by decide +kernel
theorem dX5_nextToFill_44 : decode cX5_nextToFill 44 = .ok (.iload_n 2, 1) := by decide +kernel
theorem dX5_nextToFill_45 : decode cX5_nextToFill 45 = .ok (.iconst (-1), 1) := by decide +kernel
theorem dX5_nextToFill_46 : decode cX5_nextToFill 46 = .ok (.ixor, 1) := by decide +kernel
theorem dX5_nextToFill_47 : decode cX5_nextToFill 47 = .ok (.iand, 1) := by decide +kernel
theorem dX5_nextToFill_48 : decode cX5_nextToFill 48 = .ok (.ifCond .ne 38, 3) := by decide +kernel
theorem dX5_nextToFill_51 : decode cX5_nextToFill 51 = .ok (.aload_n 0, 1) := by decide +kernel
theorem dX5_nextToFill_52 : decode cX5_nextToFill 52 = .ok (.getfield 18, 3) := by decide +kernel
theorem dX5_nextToFill_55 : decode cX5_nextToFill 55 = .ok (.iload 5, 2) := by decide +kernel
theorem dX5_nextToFill_57 : decode cX5_nextToFill 57 = .ok (.iload_n 1, 1) := by decide +kernel
theorem dX5_nextToFill_58 : decode cX5_nextToFill 58 = .ok (.invokevirtual 99, 3) := by decide +kernel
theorem dX5_nextToFill_61 : decode cX5_nextToFill 61 = .ok (.istore 6, 2) := by decide +kernel
theorem dX5_nextToFill_63 : decode cX5_nextToFill 63 = .ok (.iload 6, 2) := by decide +kernel
theorem dX5_nextToFill_65 : decode cX5_nextToFill 65 = .ok (.iload 4, 2) := by decide +kernel
theorem dX5_nextToFill_67 : decode cX5_nextToFill 67 = .ok (.if_icmp .le 8, 3) := by decide +kernel
theorem dX5_nextToFill_70 : decode cX5_nextToFill 70 = .ok (.iload 5, 2) := by decide +kernel
theorem dX5_nextToFill_72 : decode cX5_nextToFill 72 = .ok (.goto 4, 3) := by decide +kernel
theorem dX5_nextToFill_75 : decode cX5_nextToFill 75 = .ok (.iload_n 3, 1) := by decide +kernel
theorem dX5_nextToFill_76 : decode cX5_nextToFill 76 = .ok (.istore_n 3, 1) := by decide +kernel
theorem dX5_nextToFill_77 : decode cX5_nextToFill 77 = .ok (.iload 4, 2) := by decide +kernel
theorem dX5_nextToFill_79 : decode cX5_nextToFill 79 = .ok (.iload 6, 2) := by decide +kernel
theorem dX5_nextToFill_81 : decode cX5_nextToFill 81 = .ok (.invokestatic 102, 3) := by decide +kernel
theorem dX5_nextToFill_84 : decode cX5_nextToFill 84 = .ok (.istore 4, 2) := by decide +kernel
theorem dX5_nextToFill_86 : decode cX5_nextToFill 86 = .ok (.iinc 5 1, 3) := by decide +kernel
theorem dX5_nextToFill_89 : decode cX5_nextToFill 89 = .ok (.goto (-76), 3) := by decide +kernel
theorem dX5_nextToFill_92 : decode cX5_nextToFill 92 = .ok (.iload_n 3, 1) := by decide +kernel
theorem dX5_nextToFill_93 : decode cX5_nextToFill 93 = .ok (.ireturn, 1) := by decide +kernel
theorem dX5_countUsed_0 : decode cX5_countUsed 0 = .ok (.iconst 0, 1) := by decide +kernel
theorem dX5_countUsed_1 : decode cX5_countUsed 1 = .ok (.istore_n 1, 1) := by decide +kernel
theorem dX5_countUsed_2 : decode cX5_countUsed 2 = .ok (.iconst 0, 1) := by decide +kernel
theorem dX5_countUsed_3 : decode cX5_countUsed 3 = .ok (.istore_n 2, 1) := by decide +kernel
theorem dX5_countUsed_4 : decode cX5_countUsed 4 = .ok (.iload_n 2, 1) := by decide +kernel
theorem dX5_countUsed_5 : decode cX5_countUsed 5 = .ok (.bipush 8, 2) := by decide +kernel
theorem dX5_countUsed_7 : decode cX5_countUsed 7 = .ok (.if_icmp .ge 25, 3) := by decide +kernel
theorem dX5_countUsed_10 : decode cX5_countUsed 10 = .ok (.iload_n 1, 1) := by decide +kernel
theorem dX5_countUsed_11 : decode cX5_countUsed 11 = .ok (.aload_n 0, 1) := by decide +kernel
theorem dX5_countUsed_12 : decode cX5_countUsed 12 = .ok (.iload_n 2, 1) := by decide +kernel
theorem dX5_countUsed_13 : decode cX5_countUsed 13 = .ok (.invokevirtual 107, 3) := by decide +kernel
theorem dX5_countUsed_16 : decode cX5_countUsed 16 = .ok (.ifCond .eq 7, 3) := by decide +kernel
theorem dX5_countUsed_19 : decode cX5_countUsed 19 = .ok (.iconst 1, 1) := by decide +kernel
theorem dX5_countUsed_20 : decode cX5_countUsed 20 = .ok (.goto 4, 3) := by decide +kernel
theorem dX5_countUsed_23 : decode cX5_countUsed 23 = .ok (.iconst 0, 1) := by decide +kernel
theorem dX5_countUsed_24 : decode cX5_countUsed 24 = .ok (.iadd, 1) := by decide +kernel
theorem dX5_countUsed_25 : decode cX5_countUsed 25 = .ok (.istore_n 1, 1) := by decide +kernel
theorem dX5_countUsed_26 : decode cX5_countUsed 26 = .ok (.iinc 2 1, 3) := by decide +kernel
theorem dX5_countUsed_29 : decode cX5_countUsed 29 = .ok (.goto (-25), 3) := by decide +kernel
theorem dX5_countUsed_32 : decode cX5_countUsed 32 = .ok (.iload_n 1, 1) := by decide +kernel
theorem dX5_countUsed_33 : decode cX5_countUsed 33 = .ok (.ireturn, 1) := by decide +kernel
theorem dX5_usedCopies_0 : decode cX5_usedCopies 0 = .ok (.iconst 0, 1) := by decide +kernel
theorem dX5_usedCopies_1 : decode cX5_usedCopies 1 = .ok (.istore_n 1, 1) := by decide +kernel
theorem dX5_usedCopies_2 : decode cX5_usedCopies 2 = .ok (.iconst 0, 1) := by decide +kernel
theorem dX5_usedCopies_3 : decode cX5_usedCopies 3 = .ok (.istore_n 2, 1) := by decide +kernel
theorem dX5_usedCopies_4 : decode cX5_usedCopies 4 = .ok (.iload_n 2, 1) := by decide +kernel
theorem dX5_usedCopies_5 : decode cX5_usedCopies 5 = .ok (.bipush 8, 2) := by decide +kernel
theorem dX5_usedCopies_7 : decode cX5_usedCopies 7 = .ok (.if_icmp .ge 33, 3) := by decide +kernel
theorem dX5_usedCopies_10 : decode cX5_usedCopies 10 = .ok (.iload_n 1, 1) := by decide +kernel
theorem dX5_usedCopies_11 : decode cX5_usedCopies 11 = .ok (.aload_n 0, 1) := by decide +kernel
theorem dX5_usedCopies_12 : decode cX5_usedCopies 12 = .ok (.iload_n 2, 1) := by decide +kernel
theorem dX5_usedCopies_13 : decode cX5_usedCopies 13 = .ok (.invokevirtual 107, 3) := by decide +kernel
theorem dX5_usedCopies_16 : decode cX5_usedCopies 16 = .ok (.ifCond .eq 15, 3) := by decide +kernel
theorem dX5_usedCopies_19 : decode cX5_usedCopies 19 = .ok (.aload_n 0, 1) := by decide +kernel
theorem dX5_usedCopies_20 : decode cX5_usedCopies 20 = .ok (.getfield 18, 3) := by decide +kernel
theorem dX5_usedCopies_23 : decode cX5_usedCopies 23 = .ok (.getfield 48, 3) := by decide +kernel
theorem dX5_usedCopies_26 : decode cX5_usedCopies 26 = .ok (.iload_n 2, 1) := by decide +kernel
theorem dX5_usedCopies_27 : decode cX5_usedCopies 27 = .ok (.iaload, 1) := by decide +kernel
theorem dX5_usedCopies_28 : decode cX5_usedCopies 28 = .ok (.goto 4, 3) := by decide +kernel
theorem dX5_usedCopies_31 : decode cX5_usedCopies 31 = .ok (.iconst 0, 1) := by decide +kernel
theorem dX5_usedCopies_32 : decode cX5_usedCopies 32 = .ok (.iadd, 1) := by decide +kernel
theorem dX5_usedCopies_33 : decode cX5_usedCopies 33 = .ok (.istore_n 1, 1) := by decide +kernel
theorem dX5_usedCopies_34 : decode cX5_usedCopies 34 = .ok (.iinc 2 1, 3) := by decide +kernel
theorem dX5_usedCopies_37 : decode cX5_usedCopies 37 = .ok (.goto (-33), 3) := by decide +kernel
theorem dX5_usedCopies_40 : decode cX5_usedCopies 40 = .ok (.iload_n 1, 1) := by decide +kernel
theorem dX5_usedCopies_41 : decode cX5_usedCopies 41 = .ok (.ireturn, 1) := by decide +kernel
theorem dX5_busiest_0 : decode cX5_busiest 0 = .ok (.iconst 0, 1) := by decide +kernel
theorem dX5_busiest_1 : decode cX5_busiest 1 = .ok (.istore_n 1, 1) := by decide +kernel
theorem dX5_busiest_2 : decode cX5_busiest 2 = .ok (.aload_n 0, 1) := by decide +kernel
theorem dX5_busiest_3 : decode cX5_busiest 3 = .ok (.iconst 0, 1) := by decide +kernel
theorem dX5_busiest_4 : decode cX5_busiest 4 = .ok (.invokevirtual 111, 3) := by decide +kernel
theorem dX5_busiest_7 : decode cX5_busiest 7 = .ok (.istore_n 2, 1) := by decide +kernel
theorem dX5_busiest_8 : decode cX5_busiest 8 = .ok (.iconst 1, 1) := by decide +kernel
theorem dX5_busiest_9 : decode cX5_busiest 9 = .ok (.istore_n 3, 1) := by decide +kernel
theorem dX5_busiest_10 : decode cX5_busiest 10 = .ok (.iload_n 3, 1) := by decide +kernel
theorem dX5_busiest_11 : decode cX5_busiest 11 = .ok (.bipush 8, 2) := by decide +kernel
theorem dX5_busiest_13 : decode cX5_busiest 13 = .ok (.if_icmp .ge 47, 3) := by decide +kernel
theorem dX5_busiest_16 : decode cX5_busiest 16 = .ok (.aload_n 0, 1) := by decide +kernel
theorem dX5_busiest_17 : decode cX5_busiest 17 = .ok (.iload_n 3, 1) := by decide +kernel
theorem dX5_busiest_18 : decode cX5_busiest 18 = .ok (.invokevirtual 111, 3) := by decide +kernel
theorem dX5_busiest_21 : decode cX5_busiest 21 = .ok (.istore 4, 2) := by decide +kernel
theorem dX5_busiest_23 : decode cX5_busiest 23 = .ok (.iload 4, 2) := by decide +kernel
theorem dX5_busiest_25 : decode cX5_busiest 25 = .ok (.aload_n 0, 1) := by decide +kernel
theorem dX5_busiest_26 : decode cX5_busiest 26 = .ok (.getfield 18, 3) := by decide +kernel
theorem dX5_busiest_29 : decode cX5_busiest 29 = .ok (.getfield 48, 3) := by decide +kernel
theorem dX5_busiest_32 : decode cX5_busiest 32 = .ok (.iload_n 1, 1) := by decide +kernel
theorem dX5_busiest_33 : decode cX5_busiest 33 = .ok (.iaload, 1) := by decide +kernel
theorem dX5_busiest_34 : decode cX5_busiest 34 = .ok (.imul, 1) := by decide +kernel
theorem dX5_busiest_35 : decode cX5_busiest 35 = .ok (.iload_n 2, 1) := by decide +kernel
theorem dX5_busiest_36 : decode cX5_busiest 36 = .ok (.aload_n 0, 1) := by decide +kernel
theorem dX5_busiest_37 : decode cX5_busiest 37 = .ok (.getfield 18, 3) := by decide +kernel
theorem dX5_busiest_40 : decode cX5_busiest 40 = .ok (.getfield 48, 3) := by decide +kernel
theorem dX5_busiest_43 : decode cX5_busiest 43 = .ok (.iload_n 3, 1) := by decide +kernel
theorem dX5_busiest_44 : decode cX5_busiest 44 = .ok (.iaload, 1) := by decide +kernel
theorem dX5_busiest_45 : decode cX5_busiest 45 = .ok (.imul, 1) := by decide +kernel
theorem dX5_busiest_46 : decode cX5_busiest 46 = .ok (.if_icmp .le 8, 3) := by decide +kernel
theorem dX5_busiest_49 : decode cX5_busiest 49 = .ok (.iload_n 3, 1) := by decide +kernel
theorem dX5_busiest_50 : decode cX5_busiest 50 = .ok (.istore_n 1, 1) := by decide +kernel
theorem dX5_busiest_51 : decode cX5_busiest 51 = .ok (.iload 4, 2) := by decide +kernel
theorem dX5_busiest_53 : decode cX5_busiest 53 = .ok (.istore_n 2, 1) := by decide +kernel
theorem dX5_busiest_54 : decode cX5_busiest 54 = .ok (.iinc 3 1, 3) := by decide +kernel
theorem dX5_busiest_57 : decode cX5_busiest 57 = .ok (.goto (-47), 3) := by decide +kernel
theorem dX5_busiest_60 : decode cX5_busiest 60 = .ok (.iload_n 1, 1) := by decide +kernel
theorem dX5_busiest_61 : decode cX5_busiest 61 = .ok (.ireturn, 1) := by decide +kernel
theorem dX5_sumOfLoads_0 : decode cX5_sumOfLoads 0 = .ok (.iconst 0, 1) := by decide +kernel
theorem dX5_sumOfLoads_1 : decode cX5_sumOfLoads 1 = .ok (.istore_n 1, 1) := by decide +kernel
theorem dX5_sumOfLoads_2 : decode cX5_sumOfLoads 2 = .ok (.iconst 0, 1) := by decide +kernel
theorem dX5_sumOfLoads_3 : decode cX5_sumOfLoads 3 = .ok (.istore_n 2, 1) := by decide +kernel
theorem dX5_sumOfLoads_4 : decode cX5_sumOfLoads 4 = .ok (.iload_n 2, 1) := by decide +kernel
theorem dX5_sumOfLoads_5 : decode cX5_sumOfLoads 5 = .ok (.bipush 8, 2) := by decide +kernel
theorem dX5_sumOfLoads_7 : decode cX5_sumOfLoads 7 = .ok (.if_icmp .ge 17, 3) := by decide +kernel
theorem dX5_sumOfLoads_10 : decode cX5_sumOfLoads 10 = .ok (.iload_n 1, 1) := by decide +kernel
theorem dX5_sumOfLoads_11 : decode cX5_sumOfLoads 11 = .ok (.aload_n 0, 1) := by decide +kernel
theorem dX5_sumOfLoads_12 : decode cX5_sumOfLoads 12 = .ok (.iload_n 2, 1) := by decide +kernel
theorem dX5_sumOfLoads_13 : decode cX5_sumOfLoads 13 = .ok (.invokevirtual 111, 3) := by decide +kernel
theorem dX5_sumOfLoads_16 : decode cX5_sumOfLoads 16 = .ok (.iadd, 1) := by decide +kernel
theorem dX5_sumOfLoads_17 : decode cX5_sumOfLoads 17 = .ok (.istore_n 1, 1) := by decide +kernel
theorem dX5_sumOfLoads_18 : decode cX5_sumOfLoads 18 = .ok (.iinc 2 1, 3) := by decide +kernel
theorem dX5_sumOfLoads_21 : decode cX5_sumOfLoads 21 = .ok (.goto (-17), 3) := by decide +kernel
theorem dX5_sumOfLoads_24 : decode cX5_sumOfLoads 24 = .ok (.iload_n 1, 1) := by decide +kernel
theorem dX5_sumOfLoads_25 : decode cX5_sumOfLoads 25 = .ok (.ireturn, 1) := by decide +kernel
theorem dX5_countRefused_0 : decode cX5_countRefused 0 = .ok (.iconst 0, 1) := by decide +kernel
theorem dX5_countRefused_1 : decode cX5_countRefused 1 = .ok (.istore_n 1, 1) := by decide +kernel
theorem dX5_countRefused_2 : decode cX5_countRefused 2 = .ok (.iconst 0, 1) := by decide +kernel
theorem dX5_countRefused_3 : decode cX5_countRefused 3 = .ok (.istore_n 2, 1) := by decide +kernel
theorem dX5_countRefused_4 : decode cX5_countRefused 4 = .ok (.iload_n 2, 1) := by decide +kernel
theorem dX5_countRefused_5 : decode cX5_countRefused 5 = .ok (.aload_n 0, 1) := by decide +kernel
theorem dX5_countRefused_6 : decode cX5_countRefused 6 = .ok (.getfield 18, 3) := by decide +kernel
theorem dX5_countRefused_9 : decode cX5_countRefused 9 = .ok (.getfield 81, 3) := by decide +kernel
theorem dX5_countRefused_12 : decode cX5_countRefused 12 = .ok (.if_icmp .ge 43, 3) := by decide +kernel
theorem dX5_countRefused_15 : decode cX5_countRefused 15 = .ok (.aload_n 0, 1) := by decide +kernel
theorem dX5_countRefused_16 : decode cX5_countRefused 16 = .ok (.getfield 18, 3) := by decide +kernel
theorem dX5_countRefused_19 : decode cX5_countRefused 19 = .ok (.getfield 22, 3) := by decide +kernel
theorem dX5_countRefused_22 : decode cX5_countRefused 22 = .ok (.iload_n 2, 1) := by decide +kernel
theorem dX5_countRefused_23 : decode cX5_countRefused 23 = .ok (.iaload, 1) := by decide +kernel
theorem dX5_countRefused_24 : decode cX5_countRefused 24 = .ok (.istore_n 3, 1) := by decide +kernel
theorem dX5_countRefused_25 : decode cX5_countRefused 25 = .ok (.iload_n 1, 1) := by decide +kernel
theorem dX5_countRefused_26 : decode cX5_countRefused 26 = .ok (.iload_n 3, 1) := by decide +kernel
theorem dX5_countRefused_27 : decode cX5_countRefused 27 = .ok (.invokestatic 114, 3) := by decide +kernel
theorem dX5_countRefused_30 : decode cX5_countRefused 30 = .ok (.ifCond .eq 16, 3) := by decide +kernel
theorem dX5_countRefused_33 : decode cX5_countRefused 33 = .ok (.aload_n 0, 1) := by decide +kernel
theorem dX5_countRefused_34 : decode cX5_countRefused 34 = .ok (.iload_n 2, 1) := by decide +kernel
theorem dX5_countRefused_35 : decode cX5_countRefused 35 = .ok (.iload_n 3, 1) := by decide +kernel
theorem dX5_countRefused_36 : decode cX5_countRefused 36 = .ok (.invokevirtual 75, 3) := by decide +kernel
theorem dX5_countRefused_39 : decode cX5_countRefused 39 = .ok (.ifCond .eq 7, 3) := by decide +kernel
theorem dX5_countRefused_42 : decode cX5_countRefused 42 = .ok (.iconst 1, 1) := by decide +kernel
theorem dX5_countRefused_43 : decode cX5_countRefused 43 = .ok (.goto 4, 3) := by decide +kernel
theorem dX5_countRefused_46 : decode cX5_countRefused 46 = .ok (.iconst 0, 1) := by decide +kernel
theorem dX5_countRefused_47 : decode cX5_countRefused 47 = .ok (.iadd, 1) := by decide +kernel
theorem dX5_countRefused_48 : decode cX5_countRefused 48 = .ok (.istore_n 1, 1) := by decide +kernel
theorem dX5_countRefused_49 : decode cX5_countRefused 49 = .ok (.iinc 2 1, 3) := by decide +kernel
theorem dX5_countRefused_52 : decode cX5_countRefused 52 = .ok (.goto (-48), 3) := by decide +kernel
theorem dX5_countRefused_55 : decode cX5_countRefused 55 = .ok (.iload_n 1, 1) := by decide +kernel
theorem dX5_countRefused_56 : decode cX5_countRefused 56 = .ok (.ireturn, 1) := by decide +kernel
theorem dX5_countUnfitting_0 : decode cX5_countUnfitting 0 = .ok (.iconst 0, 1) := by decide +kernel
theorem dX5_countUnfitting_1 : decode cX5_countUnfitting 1 = .ok (.istore_n 1, 1) := by decide +kernel
theorem dX5_countUnfitting_2 : decode cX5_countUnfitting 2 = .ok (.iconst 0, 1) := by decide +kernel
theorem dX5_countUnfitting_3 : decode cX5_countUnfitting 3 = .ok (.istore_n 2, 1) := by decide +kernel
theorem dX5_countUnfitting_4 : decode cX5_countUnfitting 4 = .ok (.iload_n 2, 1) := by decide +kernel
theorem dX5_countUnfitting_5 : decode cX5_countUnfitting 5 = .ok (.bipush 8, 2) := by decide +kernel
theorem dX5_countUnfitting_7 : decode cX5_countUnfitting 7 = .ok (.if_icmp .ge 25, 3) := by decide +kernel
theorem dX5_countUnfitting_10 : decode cX5_countUnfitting 10 = .ok (.iload_n 1, 1) := by decide +kernel
theorem dX5_countUnfitting_11 : decode cX5_countUnfitting 11 = .ok (.aload_n 0, 1) := by decide +kernel
theorem dX5_countUnfitting_12 : decode cX5_countUnfitting 12 = .ok (.iload_n 2, 1) := by decide +kernel
theorem dX5_countUnfitting_13 : decode cX5_countUnfitting 13 = .ok (.invokevirtual 117, 3) := by decide +kernel
theorem dX5_countUnfitting_16 : decode cX5_countUnfitting 16 = .ok (.ifCond .eq 7, 3) := by decide +kernel
theorem dX5_countUnfitting_19 : decode cX5_countUnfitting 19 = .ok (.iconst 0, 1) := by decide +kernel
theorem dX5_countUnfitting_20 : decode cX5_countUnfitting 20 = .ok (.goto 4, 3) := by decide +kernel
theorem dX5_countUnfitting_23 : decode cX5_countUnfitting 23 = .ok (.iconst 1, 1) := by decide +kernel
theorem dX5_countUnfitting_24 : decode cX5_countUnfitting 24 = .ok (.iadd, 1) := by decide +kernel
theorem dX5_countUnfitting_25 : decode cX5_countUnfitting 25 = .ok (.istore_n 1, 1) := by decide +kernel
theorem dX5_countUnfitting_26 : decode cX5_countUnfitting 26 = .ok (.iinc 2 1, 3) := by decide +kernel
theorem dX5_countUnfitting_29 : decode cX5_countUnfitting 29 = .ok (.goto (-25), 3) := by decide +kernel
theorem dX5_countUnfitting_32 : decode cX5_countUnfitting 32 = .ok (.iload_n 1, 1) := by decide +kernel
theorem dX5_countUnfitting_33 : decode cX5_countUnfitting 33 = .ok (.ireturn, 1) := by decide +kernel
theorem dX5_sumOfSquares_0 : decode cX5_sumOfSquares 0 = .ok (.lconst 0, 1) := by decide +kernel
theorem dX5_sumOfSquares_1 : decode cX5_sumOfSquares 1 = .ok (.lstore_n 1, 1) := by decide +kernel
theorem dX5_sumOfSquares_2 : decode cX5_sumOfSquares 2 = .ok (.iconst 0, 1) := by decide +kernel
theorem dX5_sumOfSquares_3 : decode cX5_sumOfSquares 3 = .ok (.istore_n 3, 1) := by decide +kernel
theorem dX5_sumOfSquares_4 : decode cX5_sumOfSquares 4 = .ok (.iload_n 3, 1) := by decide +kernel
theorem dX5_sumOfSquares_5 : decode cX5_sumOfSquares 5 = .ok (.bipush 8, 2) := by decide +kernel
theorem dX5_sumOfSquares_7 : decode cX5_sumOfSquares 7 = .ok (.if_icmp .ge 37, 3) := by decide +kernel
theorem dX5_sumOfSquares_10 : decode cX5_sumOfSquares 10 = .ok (.aload_n 0, 1) := by decide +kernel
theorem dX5_sumOfSquares_11 : decode cX5_sumOfSquares 11 = .ok (.iload_n 3, 1) := by decide +kernel
theorem dX5_sumOfSquares_12 : decode cX5_sumOfSquares 12 = .ok (.invokevirtual 107, 3) := by decide +kernel
theorem dX5_sumOfSquares_15 : decode cX5_sumOfSquares 15 = .ok (.ifCond .eq 12, 3) := by decide +kernel
theorem dX5_sumOfSquares_18 : decode cX5_sumOfSquares 18 = .ok (.aload_n 0, 1) := by decide +kernel
theorem dX5_sumOfSquares_19 : decode cX5_sumOfSquares 19 = .ok (.iload_n 3, 1) := by decide +kernel
theorem dX5_sumOfSquares_20 : decode cX5_sumOfSquares 20 = .ok (.invokevirtual 120, 3) := by decide +kernel
theorem dX5_sumOfSquares_23 : decode cX5_sumOfSquares 23 = .ok (.i2l, 1) := by decide +kernel
theorem dX5_sumOfSquares_24 : decode cX5_sumOfSquares 24 = .ok (.goto 4, 3) := by decide +kernel
theorem dX5_sumOfSquares_27 : decode cX5_sumOfSquares 27 = .ok (.lconst 0, 1) := by decide +kernel
theorem dX5_sumOfSquares_28 : decode cX5_sumOfSquares 28 = .ok (.lstore 4, 2) := by decide +kernel
theorem dX5_sumOfSquares_30 : decode cX5_sumOfSquares 30 = .ok (.lload_n 1, 1) := by decide +kernel
theorem dX5_sumOfSquares_31 : decode cX5_sumOfSquares 31 = .ok (.lload 4, 2) := by decide +kernel
theorem dX5_sumOfSquares_33 : decode cX5_sumOfSquares 33 = .ok (.lload 4, 2) := by decide +kernel
theorem dX5_sumOfSquares_35 : decode cX5_sumOfSquares 35 = .ok (.lmul, 1) := by decide +kernel
theorem dX5_sumOfSquares_36 : decode cX5_sumOfSquares 36 = .ok (.ladd, 1) := by decide +kernel
theorem dX5_sumOfSquares_37 : decode cX5_sumOfSquares 37 = .ok (.lstore_n 1, 1) := by decide +kernel
theorem dX5_sumOfSquares_38 : decode cX5_sumOfSquares 38 = .ok (.iinc 3 1, 3) := by decide +kernel
theorem dX5_sumOfSquares_41 : decode cX5_sumOfSquares 41 = .ok (.goto (-37), 3) := by decide +kernel
theorem dX5_sumOfSquares_44 : decode cX5_sumOfSquares 44 = .ok (.lload_n 1, 1) := by decide +kernel
theorem dX5_sumOfSquares_45 : decode cX5_sumOfSquares 45 = .ok (.lreturn, 1) := by decide +kernel
theorem dX6_init_0 : decode cX6_init 0 = .ok (.aload_n 0, 1) := by decide +kernel
theorem dX6_init_1 : decode cX6_init 1 = .ok (.invokespecial 3, 3) := by decide +kernel
theorem dX6_init_4 : decode cX6_init 4 = .ok (.aload_n 0, 1) := by decide +kernel
theorem dX6_init_5 : decode cX6_init 5 = .ok (.bipush 12, 2) := by decide +kernel
theorem dX6_init_7 : decode cX6_init 7 = .ok (.newarray .int, 2) := by decide +kernel
theorem dX6_init_9 : decode cX6_init 9 = .ok (.putfield 9, 3) := by decide +kernel
theorem dX6_init_12 : decode cX6_init 12 = .ok (.aload_n 0, 1) := by decide +kernel
theorem dX6_init_13 : decode cX6_init 13 = .ok (.iconst 3, 1) := by decide +kernel
theorem dX6_init_14 : decode cX6_init 14 = .ok (.newarray .int, 2) := by decide +kernel
theorem dX6_init_16 : decode cX6_init 16 = .ok (.putfield 15, 3) := by decide +kernel
theorem dX6_init_19 : decode cX6_init 19 = .ok (.aload_n 0, 1) := by decide +kernel
theorem dX6_init_20 : decode cX6_init 20 = .ok (.iconst 3, 1) := by decide +kernel
theorem dX6_init_21 : decode cX6_init 21 = .ok (.newarray .int, 2) := by decide +kernel
theorem dX6_init_23 : decode cX6_init 23 = .ok (.putfield 18, 3) := by decide +kernel
theorem dX6_init_26 : decode cX6_init 26 = .ok (.return_, 1) := by decide +kernel
theorem dX6_measure_0 : decode cX6_measure 0 = .ok (.aload_n 0, 1) := by decide +kernel
theorem dX6_measure_1 : decode cX6_measure 1 = .ok (.aload_n 1, 1) := by decide +kernel
theorem dX6_measure_2 : decode cX6_measure 2 = .ok (.iload_n 2, 1) := by decide +kernel
theorem dX6_measure_3 : decode cX6_measure 3 = .ok (.invokevirtual 21, 3) := by decide +kernel
theorem dX6_measure_6 : decode cX6_measure 6 = .ok (.aload_n 0, 1) := by decide +kernel
theorem dX6_measure_7 : decode cX6_measure 7 = .ok (.aload_n 1, 1) := by decide +kernel
theorem dX6_measure_8 : decode cX6_measure 8 = .ok (.invokevirtual 25, 3) := by decide +kernel
theorem dX6_measure_11 : decode cX6_measure 11 = .ok (.aload_n 0, 1) := by decide +kernel
theorem dX6_measure_12 : decode cX6_measure 12 = .ok (.iconst 0, 1) := by decide +kernel
theorem dX6_measure_13 : decode cX6_measure 13 = .ok (.putfield 29, 3) := by decide +kernel
theorem dX6_measure_16 : decode cX6_measure 16 = .ok (.aload_n 0, 1) := by decide +kernel
theorem dX6_measure_17 : decode cX6_measure 17 = .ok (.iconst 0, 1) := by decide +kernel
theorem dX6_measure_18 : decode cX6_measure 18 = .ok (.putfield 33, 3) := by decide +kernel
theorem dX6_measure_21 : decode cX6_measure 21 = .ok (.aload_n 0, 1) := by decide +kernel
theorem dX6_measure_22 : decode cX6_measure 22 = .ok (.iconst 0, 1) := by decide +kernel
theorem dX6_measure_23 : decode cX6_measure 23 = .ok (.putfield 36, 3) := by decide +kernel
theorem dX6_measure_26 : decode cX6_measure 26 = .ok (.iconst 0, 1) := by decide +kernel
theorem dX6_measure_27 : decode cX6_measure 27 = .ok (.istore_n 3, 1) := by decide +kernel
theorem dX6_measure_28 : decode cX6_measure 28 = .ok (.iload_n 3, 1) := by decide +kernel
theorem dX6_measure_29 : decode cX6_measure 29 = .ok (.aload_n 1, 1) := by decide +kernel
theorem dX6_measure_30 : decode cX6_measure 30 = .ok (.getfield 39, 3) := by decide +kernel
theorem dX6_measure_33 : decode cX6_measure 33 = .ok (.if_icmp .ge 101, 3) := by decide +kernel
theorem dX6_measure_36 : decode cX6_measure 36 = .ok (.aload_n 0, 1) := by decide +kernel
theorem dX6_measure_37 : decode cX6_measure 37 = .ok (.getfield 15, 3) := by decide +kernel
theorem dX6_measure_40 : decode cX6_measure 40 = .ok (.iload_n 3, 1) := by decide +kernel
theorem dX6_measure_41 : decode cX6_measure 41 = .ok (.aload_n 0, 1) := by decide +kernel
theorem dX6_measure_42 : decode cX6_measure 42 = .ok (.aload_n 1, 1) := by decide +kernel
theorem dX6_measure_43 : decode cX6_measure 43 = .ok (.iload_n 3, 1) := by decide +kernel
theorem dX6_measure_44 : decode cX6_measure 44 = .ok (.invokevirtual 44, 3) := by decide +kernel
theorem dX6_measure_47 : decode cX6_measure 47 = .ok (.iastore, 1) := by decide +kernel
theorem dX6_measure_48 : decode cX6_measure 48 = .ok (.aload_n 0, 1) := by decide +kernel
theorem dX6_measure_49 : decode cX6_measure 49 = .ok (.getfield 18, 3) := by decide +kernel
theorem dX6_measure_52 : decode cX6_measure 52 = .ok (.iload_n 3, 1) := by decide +kernel
theorem dX6_measure_53 : decode cX6_measure 53 = .ok (.aload_n 0, 1) := by decide +kernel
theorem dX6_measure_54 : decode cX6_measure 54 = .ok (.aload_n 1, 1) := by decide +kernel
theorem dX6_measure_55 : decode cX6_measure 55 = .ok (.iload_n 3, 1) := by decide +kernel
theorem dX6_measure_56 : decode cX6_measure 56 = .ok (.invokevirtual 48, 3) := by decide +kernel
theorem dX6_measure_59 : decode cX6_measure 59 = .ok (.aload_n 0, 1) := by decide +kernel
theorem dX6_measure_60 : decode cX6_measure 60 = .ok (.getfield 15, 3) := by decide +kernel
theorem dX6_measure_63 : decode cX6_measure 63 = .ok (.iload_n 3, 1) := by decide +kernel
theorem dX6_measure_64 : decode cX6_measure 64 = .ok (.iaload, 1) := by decide +kernel
theorem dX6_measure_65 : decode cX6_measure 65 = .ok (.aload_n 1, 1) := by decide +kernel
theorem dX6_measure_66 : decode cX6_measure 66 = .ok (.getfield 51, 3) := by decide +kernel
theorem dX6_measure_69 : decode cX6_measure 69 = .ok (.iconst 1, 1) := by decide +kernel
theorem dX6_measure_70 : decode cX6_measure 70 = .ok (.iaload, 1) := by decide +kernel
theorem dX6_measure_71 : decode cX6_measure 71 = .ok (.imul, 1) := by decide +kernel
theorem dX6_measure_72 : decode cX6_measure 72 = .ok (.iadd, 1) := by decide +kernel
theorem dX6_measure_73 : decode cX6_measure 73 = .ok (.iastore, 1) := by decide +kernel
theorem dX6_measure_74 : decode cX6_measure 74 = .ok (.aload_n 0, 1) := by decide +kernel
theorem dX6_measure_75 : decode cX6_measure 75 = .ok (.dup, 1) := by decide +kernel
theorem dX6_measure_76 : decode cX6_measure 76 = .ok (.getfield 29, 3) := by decide +kernel
theorem dX6_measure_79 : decode cX6_measure 79 = .ok (.aload_n 1, 1) := by decide +kernel
theorem dX6_measure_80 : decode cX6_measure 80 = .ok (.getfield 54, 3) := by decide +kernel
theorem dX6_measure_83 : decode cX6_measure 83 = .ok (.iload_n 3, 1) := by decide +kernel
theorem dX6_measure_84 : decode cX6_measure 84 = .ok (.iaload, 1) := by decide +kernel
theorem dX6_measure_85 : decode cX6_measure 85 = .ok (.aload_n 0, 1) := by decide +kernel
theorem dX6_measure_86 : decode cX6_measure 86 = .ok (.getfield 18, 3) := by decide +kernel
theorem dX6_measure_89 : decode cX6_measure 89 = .ok (.iload_n 3, 1) := by decide +kernel
theorem dX6_measure_90 : decode cX6_measure 90 = .ok (.iaload, 1) := by decide +kernel
theorem dX6_measure_91 : decode cX6_measure 91 = .ok (.imul, 1) := by decide +kernel
theorem dX6_measure_92 : decode cX6_measure 92 = .ok (.iadd, 1) := by decide +kernel
theorem dX6_measure_93 : decode cX6_measure 93 = .ok (.putfield 29, 3) := by decide +kernel
theorem dX6_measure_96 : decode cX6_measure 96 = .ok (.aload_n 0, 1) := by decide +kernel
theorem dX6_measure_97 : decode cX6_measure 97 = .ok (.aload_n 0, 1) := by decide +kernel
theorem dX6_measure_98 : decode cX6_measure 98 = .ok (.getfield 33, 3) := by decide +kernel
theorem dX6_measure_101 : decode cX6_measure 101 = .ok (.aload_n 0, 1) := by decide +kernel
theorem dX6_measure_102 : decode cX6_measure 102 = .ok (.getfield 18, 3) := by decide +kernel
theorem dX6_measure_105 : decode cX6_measure 105 = .ok (.iload_n 3, 1) := by decide +kernel
theorem dX6_measure_106 : decode cX6_measure 106 = .ok (.iaload, 1) := by decide +kernel
theorem dX6_measure_107 : decode cX6_measure 107 = .ok (.invokestatic 57, 3) := by decide +kernel
theorem dX6_measure_110 : decode cX6_measure 110 = .ok (.putfield 33, 3) := by decide +kernel
theorem dX6_measure_113 : decode cX6_measure 113 = .ok (.aload_n 0, 1) := by decide +kernel
theorem dX6_measure_114 : decode cX6_measure 114 = .ok (.dup, 1) := by decide +kernel
theorem dX6_measure_115 : decode cX6_measure 115 = .ok (.getfield 36, 3) := by decide +kernel
theorem dX6_measure_118 : decode cX6_measure 118 = .ok (.aload_n 1, 1) := by decide +kernel
theorem dX6_measure_119 : decode cX6_measure 119 = .ok (.getfield 54, 3) := by decide +kernel
theorem dX6_measure_122 : decode cX6_measure 122 = .ok (.iload_n 3, 1) := by decide +kernel
theorem dX6_measure_123 : decode cX6_measure 123 = .ok (.iaload, 1) := by decide +kernel
theorem dX6_measure_124 : decode cX6_measure 124 = .ok (.iadd, 1) := by decide +kernel
theorem dX6_measure_125 : decode cX6_measure 125 = .ok (.putfield 36, 3) := by decide +kernel
theorem dX6_measure_128 : decode cX6_measure 128 = .ok (.iinc 3 1, 3) := by decide +kernel
theorem dX6_measure_131 : decode cX6_measure 131 = .ok (.goto (-103), 3) := by decide +kernel
theorem dX6_measure_134 : decode cX6_measure 134 = .ok (.return_, 1) := by decide +kernel
theorem dX6_lack_0 : decode cX6_lack 0 = .ok (.iload_n 2, 1) := by decide +kernel
theorem dX6_lack_1 : decode cX6_lack 1 = .ok (.aload_n 1, 1) := by decide +kernel
theorem dX6_lack_2 : decode cX6_lack 2 = .ok (.getfield 51, 3) := by decide +kernel
theorem dX6_lack_5 : decode cX6_lack 5 = .ok (.iconst 0, 1) := by decide +kernel
theorem dX6_lack_6 : decode cX6_lack 6 = .ok (.iaload, 1) := by decide +kernel
theorem dX6_lack_7 : decode cX6_lack 7 = .ok (.imul, 1) := by decide +kernel
theorem dX6_lack_8 : decode cX6_lack 8 = .ok (.aload_n 0, 1) := by decide +kernel
theorem dX6_lack_9 : decode cX6_lack 9 = .ok (.getfield 36, 3) := by decide +kernel
theorem dX6_lack_12 : decode cX6_lack 12 = .ok (.imul, 1) := by decide +kernel
theorem dX6_lack_13 : decode cX6_lack 13 = .ok (.aload_n 0, 1) := by decide +kernel
theorem dX6_lack_14 : decode cX6_lack 14 = .ok (.getfield 29, 3) := by decide +kernel
theorem dX6_lack_17 : decode cX6_lack 17 = .ok (.isub, 1) := by decide +kernel
theorem dX6_lack_18 : decode cX6_lack 18 = .ok (.ireturn, 1) := by decide +kernel
theorem dX6_isWithinToolLimit_0 : decode cX6_isWithinToolLimit 0 = .ok (.aload_n 0, 1) := by decide +kernel
theorem dX6_isWithinToolLimit_1 : decode cX6_isWithinToolLimit 1 = .ok (.getfield 63, 3) := by decide +kernel
theorem dX6_isWithinToolLimit_4 : decode cX6_isWithinToolLimit 4 = .ok (.invokestatic 66, 3) := by decide +kernel
theorem dX6_isWithinToolLimit_7 : decode cX6_isWithinToolLimit 7 = .ok (.aload_n 1, 1) := by decide +kernel
theorem dX6_isWithinToolLimit_8 : decode cX6_isWithinToolLimit 8 = .ok (.getfield 51, 3) := by decide +kernel
theorem dX6_isWithinToolLimit_11 : decode cX6_isWithinToolLimit 11 = .ok (.iconst 2, 1) := by decide +kernel
theorem dX6_isWithinToolLimit_12 : decode cX6_isWithinToolLimit 12 = .ok (.iaload, 1) := by decide +kernel
theorem dX6_isWithinToolLimit_13 : decode cX6_isWithinToolLimit 13 = .ok (.if_icmp .gt 7, 3) := by decide +kernel
theorem dX6_isWithinToolLimit_16 : decode cX6_isWithinToolLimit 16 = .ok (.iconst 1, 1) := by decide +kernel
theorem dX6_isWithinToolLimit_17 : decode cX6_isWithinToolLimit 17 = .ok (.goto 4, 3) := by decide +kernel
theorem dX6_isWithinToolLimit_20 : decode cX6_isWithinToolLimit 20 = .ok (.iconst 0, 1) := by decide +kernel
theorem dX6_isWithinToolLimit_21 : decode cX6_isWithinToolLimit 21 = .ok (.ireturn, 1) := by decide +kernel
theorem dX6_fits_0 : decode cX6_fits 0 = .ok (.aload_n 1, 1) := by decide +kernel
theorem dX6_fits_1 : decode cX6_fits 1 = .ok (.getfield 51, 3) := by decide +kernel
theorem dX6_fits_4 : decode cX6_fits 4 = .ok (.iconst 3, 1) := by decide +kernel
theorem dX6_fits_5 : decode cX6_fits 5 = .ok (.iaload, 1) := by decide +kernel
theorem dX6_fits_6 : decode cX6_fits 6 = .ok (.iconst 1, 1) := by decide +kernel
theorem dX6_fits_7 : decode cX6_fits 7 = .ok (.if_icmp .ne 24, 3) := by decide +kernel
theorem dX6_fits_10 : decode cX6_fits 10 = .ok (.aload_n 0, 1) := by decide +kernel
theorem dX6_fits_11 : decode cX6_fits 11 = .ok (.getfield 33, 3) := by decide +kernel
theorem dX6_fits_14 : decode cX6_fits 14 = .ok (.iload_n 2, 1) := by decide +kernel
theorem dX6_fits_15 : decode cX6_fits 15 = .ok (.aload_n 1, 1) := by decide +kernel
theorem dX6_fits_16 : decode cX6_fits 16 = .ok (.getfield 51, 3) := by decide +kernel
theorem dX6_fits_19 : decode cX6_fits 19 = .ok (.iconst 0, 1) := by decide +kernel
theorem dX6_fits_20 : decode cX6_fits 20 = .ok (.iaload, 1) := by decide +kernel
theorem dX6_fits_21 : decode cX6_fits 21 = .ok (.imul, 1) := by decide +kernel
theorem dX6_fits_22 : decode cX6_fits 22 = .ok (.if_icmp .gt 7, 3) := by decide +kernel
theorem dX6_fits_25 : decode cX6_fits 25 = .ok (.iconst 1, 1) := by decide +kernel
theorem dX6_fits_26 : decode cX6_fits 26 = .ok (.goto 4, 3) := by decide +kernel
theorem dX6_fits_29 : decode cX6_fits 29 = .ok (.iconst 0, 1) := by decide +kernel
theorem dX6_fits_30 : decode cX6_fits 30 = .ok (.ireturn, 1) := by decide +kernel
theorem dX6_fits_31 : decode cX6_fits 31 = .ok (.aload_n 0, 1) := by decide +kernel
theorem dX6_fits_32 : decode cX6_fits 32 = .ok (.aload_n 1, 1) := by decide +kernel
theorem dX6_fits_33 : decode cX6_fits 33 = .ok (.iload_n 2, 1) := by decide +kernel
theorem dX6_fits_34 : decode cX6_fits 34 = .ok (.invokevirtual 72, 3) := by decide +kernel
theorem dX6_fits_37 : decode cX6_fits 37 = .ok (.ifCond .lt 7, 3) := by decide +kernel
theorem dX6_fits_40 : decode cX6_fits 40 = .ok (.iconst 1, 1) := by decide +kernel
theorem dX6_fits_41 : decode cX6_fits 41 = .ok (.goto 4, 3) := by decide +kernel
theorem dX6_fits_44 : decode cX6_fits 44 = .ok (.iconst 0, 1) := by decide +kernel
theorem dX6_fits_45 : decode cX6_fits 45 = .ok (.ireturn, 1) := by decide +kernel
theorem dX6_arrange_0 : decode cX6_arrange 0 = .ok (.iload_n 2, 1) := by decide +kernel
theorem dX6_arrange_1 : decode cX6_arrange 1 = .ok (.istore_n 3, 1) := by decide +kernel
theorem dX6_arrange_2 : decode cX6_arrange 2 = .ok (.aload_n 0, 1) := by decide +kernel
theorem dX6_arrange_3 : decode cX6_arrange 3 = .ok (.iconst 0, 1) := by decide +kernel
theorem dX6_arrange_4 : decode cX6_arrange 4 = .ok (.putfield 75, 3) := by decide +kernel
theorem dX6_arrange_7 : decode cX6_arrange 7 = .ok (.iconst 0, 1) := by decide +kernel
theorem dX6_arrange_8 : decode cX6_arrange 8 = .ok (.istore 4, 2) := by decide +kernel
theorem dX6_arrange_10 : decode cX6_arrange 10 = .ok (.iload 4, 2) := by decide +kernel
theorem dX6_arrange_12 : decode cX6_arrange 12 = .ok (.bipush 12, 2) := by decide +kernel
theorem dX6_arrange_14 : decode cX6_arrange 14 = .ok (.if_icmp .ge 78, 3) := by decide +kernel
theorem dX6_arrange_17 : decode cX6_arrange 17 = .ok (.iload_n 3, 1) := by decide +kernel
theorem dX6_arrange_18 : decode cX6_arrange 18 = .ok (.ifCond .eq 74, 3) := by decide +kernel
theorem dX6_arrange_21 : decode cX6_arrange 21 = .ok (.iconst 0, 1) := by decide +kernel
theorem dX6_arrange_22 : decode cX6_arrange 22 = .ok (.istore 5, 2) := by decide +kernel
theorem dX6_arrange_24 : decode cX6_arrange 24 = .ok (.iload 5, 2) := by decide +kernel
theorem dX6_arrange_26 : decode cX6_arrange 26 = .ok (.bipush 11, 2) := by decide +kernel
theorem dX6_arrange_28 : decode cX6_arrange 28 = .ok (.if_icmp .ge 30, 3) := by decide +kernel
theorem dX6_arrange_31 : decode cX6_arrange 31 = .ok (.iload_n 3, 1) := by decide +kernel
theorem dX6_arrange_32 : decode cX6_arrange 32 = .ok (.iload 5, 2) := by decide +kernel
theorem dX6_arrange_34 : decode cX6_arrange 34 = .ok (.ishr, 1) := by decide +kernel
theorem dX6_arrange_35 : decode cX6_arrange 35 = .ok (.iconst 1, 1) := by decide +kernel
theorem dX6_arrange_36 : decode cX6_arrange 36 = .ok (.iand, 1) := by decide +kernel
theorem dX6_arrange_37 : decode cX6_arrange 37 = .ok (.ifCond .eq 15, 3) := by decide +kernel
theorem dX6_arrange_40 : decode cX6_arrange 40 = .ok (.aload_n 1, 1) := by decide +kernel
theorem dX6_arrange_41 : decode cX6_arrange 41 = .ok (.getfield 78, 3) := by decide +kernel
theorem dX6_arrange_44 : decode cX6_arrange 44 = .ok (.iload 5, 2) := by decide +kernel
theorem dX6_arrange_46 : decode cX6_arrange 46 = .ok (.iaload, 1) := by decide +kernel
theorem dX6_arrange_47 : decode cX6_arrange 47 = .ok (.iload_n 3, 1) := by decide +kernel
theorem dX6_arrange_48 : decode cX6_arrange 48 = .ok (.iand, 1) := by decide +kernel
theorem dX6_arrange_49 : decode cX6_arrange 49 = .ok (.ifCond .eq 9, 3) := by decide +kernel
theorem dX6_arrange_52 : decode cX6_arrange 52 = .ok (.iinc 5 1, 3) := by decide +kernel
theorem dX6_arrange_55 : decode cX6_arrange 55 = .ok (.goto (-31), 3) := by decide +kernel
theorem dX6_arrange_58 : decode cX6_arrange 58 = .ok (.aload_n 0, 1) := by decide +kernel
theorem dX6_arrange_59 : decode cX6_arrange 59 = .ok (.getfield 9, 3) := by decide +kernel
theorem dX6_arrange_62 : decode cX6_arrange 62 = .ok (.iload 4, 2) := by decide +kernel
theorem dX6_arrange_64 : decode cX6_arrange 64 = .ok (.iload 5, 2) := by decide +kernel
theorem dX6_arrange_66 : decode cX6_arrange 66 = .ok (.iastore, 1) := by decide +kernel
theorem dX6_arrange_67 : decode cX6_arrange 67 = .ok (.aload_n 0, 1) := by decide +kernel
theorem dX6_arrange_68 : decode cX6_arrange 68 = .ok (.dup, 1) := by decide +kernel
theorem dX6_arrange_69 : decode cX6_arrange 69 = .ok (.getfield 75, 3) := by decide +kernel
theorem dX6_arrange_72 : decode cX6_arrange 72 = .ok (.iconst 1, 1) := by decide +kernel
theorem dX6_arrange_73 : decode cX6_arrange 73 = .ok (.iadd, 1) := by decide +kernel
theorem dX6_arrange_74 : decode cX6_arrange 74 = .ok (.putfield 75, 3) := by decide +kernel
theorem dX6_arrange_77 : decode cX6_arrange 77 = .ok (.iload_n 3, 1) := by decide +kernel
theorem dX6_arrange_78 : decode cX6_arrange 78 = .ok (.iconst 1, 1) := by decide +kernel
theorem dX6_arrange_79 : decode cX6_arrange 79 = .ok (.iload 5, 2) := by decide +kernel
theorem dX6_arrange_81 : decode cX6_arrange 81 = .ok (.ishl, 1) := by decide +kernel
theorem dX6_arrange_82 : decode cX6_arrange 82 = .ok (.iconst (-1), 1) := by decide +kernel
theorem dX6_arrange_83 : decode cX6_arrange 83 = .ok (.ixor, 1) := by decide +kernel
theorem dX6_arrange_84 : decode cX6_arrange 84 = .ok (.iand, 1) := by decide +kernel
theorem dX6_arrange_85 : decode cX6_arrange 85 = .ok (.istore_n 3, 1) := by decide +kernel
theorem dX6_arrange_86 : decode cX6_arrange 86 = .ok (.iinc 4 1, 3) := by decide +kernel
theorem dX6_arrange_89 : decode cX6_arrange 89 = .ok (.goto (-79), 3) := by decide +kernel
theorem dX6_arrange_92 : decode cX6_arrange 92 = .ok (.return_, 1) := by decide +kernel
theorem dX6_collectTools_0 : decode cX6_collectTools 0 = .ok (.aload_n 0, 1) := by decide +kernel
theorem dX6_collectTools_1 : decode cX6_collectTools 1 = .ok (.iconst 0, 1) := by decide +kernel
theorem dX6_collectTools_2 : decode cX6_collectTools 2 = .ok (.putfield 63, 3) := by decide +kernel
theorem dX6_collectTools_5 : decode cX6_collectTools 5 = .ok (.iconst 0, 1) := by decide +kernel
theorem dX6_collectTools_6 : decode cX6_collectTools 6 = .ok (.istore_n 2, 1) := by decide +kernel
theorem dX6_collectTools_7 : decode cX6_collectTools 7 = .ok (.iload_n 2, 1) := by decide +kernel
theorem dX6_collectTools_8 : decode cX6_collectTools 8 = .ok (.aload_n 0, 1) := by decide +kernel
theorem dX6_collectTools_9 : decode cX6_collectTools 9 = .ok (.getfield 75, 3) := by decide +kernel
theorem dX6_collectTools_12 : decode cX6_collectTools 12 = .ok (.if_icmp .ge 41, 3) := by decide +kernel
theorem dX6_collectTools_15 : decode cX6_collectTools 15 = .ok (.aload_n 1, 1) := by decide +kernel
theorem dX6_collectTools_16 : decode cX6_collectTools 16 = .ok (.getfield 81, 3) := by decide +kernel
theorem dX6_collectTools_19 : decode cX6_collectTools 19 = .ok (.aload_n 0, 1) := by decide +kernel
theorem dX6_collectTools_20 : decode cX6_collectTools 20 = .ok (.getfield 9, 3) := by decide +kernel
theorem dX6_collectTools_23 : decode cX6_collectTools 23 = .ok (.iload_n 2, 1) := by decide +kernel
theorem dX6_collectTools_24 : decode cX6_collectTools 24 = .ok (.iaload, 1) := by decide +kernel
theorem dX6_collectTools_25 : decode cX6_collectTools 25 = .ok (.iaload, 1) := by decide +kernel
theorem dX6_collectTools_26 : decode cX6_collectTools 26 = .ok (.istore_n 3, 1) := by decide +kernel
theorem dX6_collectTools_27 : decode cX6_collectTools 27 = .ok (.aload_n 0, 1) := by decide +kernel
theorem dX6_collectTools_28 : decode cX6_collectTools 28 = .ok (.dup, 1) := by decide +kernel
theorem dX6_collectTools_29 : decode cX6_collectTools 29 = .ok (.getfield 63, 3) := by decide +kernel
theorem dX6_collectTools_32 : decode cX6_collectTools 32 = .ok (.iload_n 3, 1) := by decide +kernel
theorem dX6_collectTools_33 : decode cX6_collectTools 33 = .ok (.ifCond .ne 7, 3) := by decide +kernel
theorem dX6_collectTools_36 : decode cX6_collectTools 36 = .ok (.iconst 0, 1) := by decide +kernel
theorem dX6_collectTools_37 : decode cX6_collectTools 37 = .ok (.goto 6, 3) := by decide +kernel
theorem dX6_collectTools_40 : decode cX6_collectTools 40 = .ok (.iconst 1, 1) := by decide +kernel
theorem dX6_collectTools_41 : decode cX6_collectTools 41 = .ok (.iload_n 3, 1) := by decide +kernel
theorem dX6_collectTools_42 : decode cX6_collectTools 42 = .ok (.ishl, 1) := by decide +kernel
theorem dX6_collectTools_43 : decode cX6_collectTools 43 = .ok (.ior, 1) := by decide +kernel
theorem dX6_collectTools_44 : decode cX6_collectTools 44 = .ok (.putfield 63, 3) := by decide +kernel
theorem dX6_collectTools_47 : decode cX6_collectTools 47 = .ok (.iinc 2 1, 3) := by decide +kernel
theorem dX6_collectTools_50 : decode cX6_collectTools 50 = .ok (.goto (-43), 3) := by decide +kernel
theorem dX6_collectTools_53 : decode cX6_collectTools 53 = .ok (.return_, 1) := by decide +kernel
theorem dX6_sumTimes_0 : decode cX6_sumTimes 0 = .ok (.iconst 0, 1) := by decide +kernel
theorem dX6_sumTimes_1 : decode cX6_sumTimes 1 = .ok (.istore_n 3, 1) := by decide +kernel
theorem dX6_sumTimes_2 : decode cX6_sumTimes 2 = .ok (.iconst 0, 1) := by decide +kernel
theorem dX6_sumTimes_3 : decode cX6_sumTimes 3 = .ok (.istore 4, 2) := by decide +kernel
theorem dX6_sumTimes_5 : decode cX6_sumTimes 5 = .ok (.iload 4, 2) := by decide +kernel
theorem dX6_sumTimes_7 : decode cX6_sumTimes 7 = .ok (.aload_n 0, 1) := by decide +kernel
theorem dX6_sumTimes_8 : decode cX6_sumTimes 8 = .ok (.getfield 75, 3) := by decide +kernel
theorem dX6_sumTimes_11 : decode cX6_sumTimes 11 = .ok (.if_icmp .ge 28, 3) := by decide +kernel
theorem dX6_sumTimes_14 : decode cX6_sumTimes 14 = .ok (.iload_n 3, 1) := by decide +kernel
theorem dX6_sumTimes_15 : decode cX6_sumTimes 15 = .ok (.aload_n 1, 1) := by decide +kernel
theorem dX6_sumTimes_16 : decode cX6_sumTimes 16 = .ok (.getfield 83, 3) := by decide +kernel
theorem dX6_sumTimes_19 : decode cX6_sumTimes 19 = .ok (.aload_n 0, 1) := by decide +kernel
theorem dX6_sumTimes_20 : decode cX6_sumTimes 20 = .ok (.getfield 9, 3) := by decide +kernel
theorem dX6_sumTimes_23 : decode cX6_sumTimes 23 = .ok (.iload 4, 2) := by decide +kernel
theorem dX6_sumTimes_25 : decode cX6_sumTimes 25 = .ok (.iaload, 1) := by decide +kernel
theorem dX6_sumTimes_26 : decode cX6_sumTimes 26 = .ok (.iconst 3, 1) := by decide +kernel
theorem dX6_sumTimes_27 : decode cX6_sumTimes 27 = .ok (.imul, 1) := by decide +kernel
theorem dX6_sumTimes_28 : decode cX6_sumTimes 28 = .ok (.iload_n 2, 1) := by decide +kernel
theorem dX6_sumTimes_29 : decode cX6_sumTimes 29 = .ok (.iadd, 1) := by decide +kernel
theorem dX6_sumTimes_30 : decode cX6_sumTimes 30 = .ok (.iaload, 1) := by decide +kernel
theorem dX6_sumTimes_31 : decode cX6_sumTimes 31 = .ok (.iadd, 1) := by decide +kernel
theorem dX6_sumTimes_32 : decode cX6_sumTimes 32 = .ok (.istore_n 3, 1) := by decide +kernel
theorem dX6_sumTimes_33 : decode cX6_sumTimes 33 = .ok (.iinc 4 1, 3) := by decide +kernel
theorem dX6_sumTimes_36 : decode cX6_sumTimes 36 = .ok (.goto (-31), 3) := by decide +kernel
theorem dX6_sumTimes_39 : decode cX6_sumTimes 39 = .ok (.iload_n 3, 1) := by decide +kernel
theorem dX6_sumTimes_40 : decode cX6_sumTimes 40 = .ok (.ireturn, 1) := by decide +kernel
theorem dX6_countChanges_0 : decode cX6_countChanges 0 = .ok (.iconst 0, 1) := by decide +kernel
theorem dX6_countChanges_1 : decode cX6_countChanges 1 = .ok (.istore_n 3, 1) := by decide +kernel
theorem dX6_countChanges_2 : decode cX6_countChanges 2 = .ok (.iconst 0, 1) := by decide +kernel
theorem dX6_countChanges_3 : decode cX6_countChanges 3 = .ok (.istore 4, 2) := by decide +kernel
theorem dX6_countChanges_5 : decode cX6_countChanges 5 = .ok (.iconst 0, 1) := by decide +kernel
theorem dX6_countChanges_6 : decode cX6_countChanges 6 = .ok (.istore 5, 2) := by decide +kernel
theorem dX6_countChanges_8 : decode cX6_countChanges 8 = .ok (.iconst 0, 1) := by decide +kernel
theorem dX6_countChanges_9 : decode cX6_countChanges 9 = .ok (.istore 6, 2) := by decide +kernel
theorem dX6_countChanges_11 : decode cX6_countChanges 11 = .ok (.iload 6, 2) := by decide +kernel
theorem dX6_countChanges_13 : decode cX6_countChanges 13 = .ok (.aload_n 0, 1) := by decide +kernel
theorem dX6_countChanges_14 : decode cX6_countChanges 14 = .ok (.getfield 75, 3) := by decide +kernel
theorem dX6_countChanges_17 : decode cX6_countChanges 17 = .ok (.if_icmp .ge 84, 3) := by decide +kernel
theorem dX6_countChanges_20 : decode cX6_countChanges 20 = .ok (.aload_n 1, 1) := by decide +kernel
theorem dX6_countChanges_21 : decode cX6_countChanges 21 = .ok (.getfield 81, 3) := by decide +kernel
theorem dX6_countChanges_24 : decode cX6_countChanges 24 = .ok (.aload_n 0, 1) := by decide +kernel
theorem dX6_countChanges_25 : decode cX6_countChanges 25 = .ok (.getfield 9, 3) := by decide +kernel
theorem dX6_countChanges_28 : decode cX6_countChanges 28 = .ok (.iload 6, 2) := by decide +kernel
theorem dX6_countChanges_30 : decode cX6_countChanges 30 = .ok (.iaload, 1) := by decide +kernel
theorem dX6_countChanges_31 : decode cX6_countChanges 31 = .ok (.iaload, 1) := by decide +kernel
theorem dX6_countChanges_32 : decode cX6_countChanges 32 = .ok (.istore 7, 2) := by decide +kernel
theorem dX6_countChanges_34 : decode cX6_countChanges 34 = .ok (.iload 7, 2) := by decide +kernel
theorem dX6_countChanges_36 : decode cX6_countChanges 36 = .ok (.ifCond .eq 59, 3) := by decide +kernel
theorem dX6_countChanges_39 : decode cX6_countChanges 39 = .ok (.aload_n 1, 1) := by decide +kernel
theorem dX6_countChanges_40 : decode cX6_countChanges 40 = .ok (.getfield 83, 3) := by decide +kernel
theorem dX6_countChanges_43 : decode cX6_countChanges 43 = .ok (.aload_n 0, 1) := by decide +kernel
theorem dX6_countChanges_44 : decode cX6_countChanges 44 = .ok (.getfield 9, 3) := by decide +kernel
theorem dX6_countChanges_47 : decode cX6_countChanges 47 = .ok (.iload 6, 2) := by decide +kernel
theorem dX6_countChanges_49 : decode cX6_countChanges 49 = .ok (.iaload, 1) := by decide +kernel
theorem dX6_countChanges_50 : decode cX6_countChanges 50 = .ok (.iconst 3, 1) := by decide +kernel
theorem dX6_countChanges_51 : decode cX6_countChanges 51 = .ok (.imul, 1) := by decide +kernel
theorem dX6_countChanges_52 : decode cX6_countChanges 52 = .ok (.iload_n 2, 1) := by decide +kernel
theorem dX6_countChanges_53 : decode cX6_countChanges 53 = .ok (.iadd, 1) := by decide +kernel
theorem dX6_countChanges_54 : decode cX6_countChanges 54 = .ok (.iaload, 1) := by decide +kernel
theorem dX6_countChanges_55 : decode cX6_countChanges 55 = .ok (.ifCond .le 40, 3) := by decide +kernel
theorem dX6_countChanges_58 : decode cX6_countChanges 58 = .ok (.iload 5, 2) := by decide +kernel
theorem dX6_countChanges_60 : decode cX6_countChanges 60 = .ok (.iload 4, 2) := by decide +kernel
theorem dX6_countChanges_62 : decode cX6_countChanges 62 = .ok (.ifCond .eq 14, 3) := by decide +kernel
theorem dX6_countChanges_65 : decode cX6_countChanges 65 = .ok (.iload 7, 2) := by decide +kernel
theorem dX6_countChanges_67 : decode cX6_countChanges 67 = .ok (.iload 4, 2) := by decide +kernel
theorem dX6_countChanges_69 : decode cX6_countChanges 69 = .ok (.if_icmp .eq 7, 3) := by decide +kernel
theorem dX6_countChanges_72 : decode cX6_countChanges 72 = .ok (.iconst 1, 1) := by decide +kernel
theorem dX6_countChanges_73 : decode cX6_countChanges 73 = .ok (.goto 4, 3) := by decide +kernel
theorem dX6_countChanges_76 : decode cX6_countChanges 76 = .ok (.iconst 0, 1) := by decide +kernel
theorem dX6_countChanges_77 : decode cX6_countChanges 77 = .ok (.iadd, 1) := by decide +kernel
theorem dX6_countChanges_78 : decode cX6_countChanges 78 = .ok (.istore 5, 2) := by decide +kernel
theorem dX6_countChanges_80 : decode cX6_countChanges 80 = .ok (.iload_n 3, 1) := by decide +kernel
theorem dX6_countChanges_81 : decode cX6_countChanges 81 = .ok (.ifCond .ne 8, 3) := by decide +kernel
theorem dX6_countChanges_84 : decode cX6_countChanges 84 = .ok (.iload 7, 2) := by decide +kernel
theorem dX6_countChanges_86 : decode cX6_countChanges 86 = .ok (.goto 4, 3) := by decide +kernel
theorem dX6_countChanges_89 : decode cX6_countChanges 89 = .ok (.iload_n 3, 1) := by decide +kernel
theorem dX6_countChanges_90 : decode cX6_countChanges 90 = .ok (.istore_n 3, 1) := by decide +kernel
theorem dX6_countChanges_91 : decode cX6_countChanges 91 = .ok (.iload 7, 2) := by decide +kernel
theorem dX6_countChanges_93 : decode cX6_countChanges 93 = .ok (.istore 4, 2) := by decide +kernel
theorem dX6_countChanges_95 : decode cX6_countChanges 95 = .ok (.iinc 6 1, 3) := by decide +kernel
theorem dX6_countChanges_98 : decode cX6_countChanges 98 = .ok (.goto (-87), 3) := by decide +kernel
theorem dX6_countChanges_101 : decode cX6_countChanges 101 = .ok (.iload 4, 2) := by decide +kernel
theorem dX6_countChanges_103 : decode cX6_countChanges 103 = .ok (.iload_n 3, 1) := by decide +kernel
theorem dX6_countChanges_104 : decode cX6_countChanges 104 = .ok (.if_icmp .ne 8, 3) := by decide +kernel
theorem dX6_countChanges_107 : decode cX6_countChanges 107 = .ok (.iload 5, 2) := by decide +kernel
theorem dX6_countChanges_109 : decode cX6_countChanges 109 = .ok (.goto 7, 3) := by decide +kernel
theorem dX6_countChanges_112 : decode cX6_countChanges 112 = .ok (.iload 5, 2) := by decide +kernel
theorem dX6_countChanges_114 : decode cX6_countChanges 114 = .ok (.iconst 1, 1) := by decide +kernel
theorem dX6_countChanges_115 : decode cX6_countChanges 115 = .ok (.iadd, 1) := by decide +kernel
theorem dX6_countChanges_116 : decode cX6_countChanges 116 = .ok (.ireturn, 1) := by decide +kernel
