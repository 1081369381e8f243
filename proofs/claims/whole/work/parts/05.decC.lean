theorem dX7_init_0 : decode cX7_init 0 = .ok (.aload_n 0, 1) := by decide +kernel
theorem dX7_init_1 : decode cX7_init 1 = .ok (.invokespecial 3, 3) := by decide +kernel
theorem dX7_init_4 : decode cX7_init 4 = .ok (.aload_n 0, 1) := by decide +kernel
theorem dX7_init_5 : decode cX7_init 5 = .ok (.new 9, 3) := by decide +kernel
theorem dX7_init_8 : decode cX7_init 8 = .ok (.dup, 1) := by decide +kernel
theorem dX7_init_9 : decode cX7_init 9 = .ok (.invokespecial 11, 3) := by decide +kernel
theorem dX7_init_12 : decode cX7_init 12 = .ok (.putfield 12, 3) := by decide +kernel
theorem dX7_init_15 : decode cX7_init 15 = .ok (.aload_n 0, 1) := by decide +kernel
theorem dX7_init_16 : decode cX7_init 16 = .ok (.new 9, 3) := by decide +kernel
theorem dX7_init_19 : decode cX7_init 19 = .ok (.dup, 1) := by decide +kernel
theorem dX7_init_20 : decode cX7_init 20 = .ok (.invokespecial 11, 3) := by decide +kernel
theorem dX7_init_23 : decode cX7_init 23 = .ok (.putfield 16, 3) := by decide +kernel
theorem dX7_init_26 : decode cX7_init 26 = .ok (.aload_n 0, 1) := by decide +kernel
theorem dX7_init_27 : decode cX7_init 27 = .ok (.new 19, 3) := by decide +kernel
theorem dX7_init_30 : decode cX7_init 30 = .ok (.dup, 1) := by decide +kernel
theorem dX7_init_31 : decode cX7_init 31 = .ok (.aload_n 0, 1) := by decide +kernel
theorem dX7_init_32 : decode cX7_init 32 = .ok (.getfield 12, 3) := by decide +kernel
theorem dX7_init_35 : decode cX7_init 35 = .ok (.invokespecial 21, 3) := by decide +kernel
theorem dX7_init_38 : decode cX7_init 38 = .ok (.putfield 24, 3) := by decide +kernel
theorem dX7_init_41 : decode cX7_init 41 = .ok (.aload_n 0, 1) := by decide +kernel
theorem dX7_init_42 : decode cX7_init 42 = .ok (.new 28, 3) := by decide +kernel
theorem dX7_init_45 : decode cX7_init 45 = .ok (.dup, 1) := by decide +kernel
theorem dX7_init_46 : decode cX7_init 46 = .ok (.aload_n 0, 1) := by decide +kernel
theorem dX7_init_47 : decode cX7_init 47 = .ok (.getfield 12, 3) := by decide +kernel
theorem dX7_init_50 : decode cX7_init 50 = .ok (.invokespecial 30, 3) := by decide +kernel
theorem dX7_init_53 : decode cX7_init 53 = .ok (.putfield 31, 3) := by decide +kernel
theorem dX7_init_56 : decode cX7_init 56 = .ok (.aload_n 0, 1) := by decide +kernel
theorem dX7_init_57 : decode cX7_init 57 = .ok (.new 35, 3) := by decide +kernel
theorem dX7_init_60 : decode cX7_init 60 = .ok (.dup, 1) := by decide +kernel
theorem dX7_init_61 : decode cX7_init 61 = .ok (.invokespecial 37, 3) := by decide +kernel
theorem dX7_init_64 : decode cX7_init 64 = .ok (.putfield 38, 3) := by decide +kernel
theorem dX7_init_67 : decode cX7_init 67 = .ok (.aload_n 0, 1) := by decide +kernel
theorem dX7_init_68 : decode cX7_init 68 = .ok (.new 42, 3) := by decide +kernel
theorem dX7_init_71 : decode cX7_init 71 = .ok (.dup, 1) := by decide +kernel
theorem dX7_init_72 : decode cX7_init 72 = .ok (.invokespecial 44, 3) := by decide +kernel
theorem dX7_init_75 : decode cX7_init 75 = .ok (.putfield 45, 3) := by decide +kernel
theorem dX7_init_78 : decode cX7_init 78 = .ok (.return_, 1) := by decide +kernel
theorem dX7_setModels_0 : decode cX7_setModels 0 = .ok (.iload_n 1, 1) := by decide +kernel
theorem dX7_setModels_1 : decode cX7_setModels 1 = .ok (.iconst 1, 1) := by decide +kernel
theorem dX7_setModels_2 : decode cX7_setModels 2 = .ok (.iconst 3, 1) := by decide +kernel
theorem dX7_setModels_3 : decode cX7_setModels 3 = .ok (.invokestatic 49, 3) := by decide +kernel
theorem dX7_setModels_6 : decode cX7_setModels 6 = .ok (.invokestatic 53, 3) := by decide +kernel
theorem dX7_setModels_9 : decode cX7_setModels 9 = .ok (.aload_n 0, 1) := by decide +kernel
theorem dX7_setModels_10 : decode cX7_setModels 10 = .ok (.invokevirtual 57, 3) := by decide +kernel
theorem dX7_setModels_13 : decode cX7_setModels 13 = .ok (.aload_n 0, 1) := by decide +kernel
theorem dX7_setModels_14 : decode cX7_setModels 14 = .ok (.getfield 12, 3) := by decide +kernel
theorem dX7_setModels_17 : decode cX7_setModels 17 = .ok (.getfield 60, 3) := by decide +kernel
theorem dX7_setModels_20 : decode cX7_setModels 20 = .ok (.istore_n 2, 1) := by decide +kernel
theorem dX7_setModels_21 : decode cX7_setModels 21 = .ok (.aload_n 0, 1) := by decide +kernel
theorem dX7_setModels_22 : decode cX7_setModels 22 = .ok (.getfield 12, 3) := by decide +kernel
theorem dX7_setModels_25 : decode cX7_setModels 25 = .ok (.iload_n 1, 1) := by decide +kernel
theorem dX7_setModels_26 : decode cX7_setModels 26 = .ok (.putfield 60, 3) := by decide +kernel
theorem dX7_setModels_29 : decode cX7_setModels 29 = .ok (.iload_n 2, 1) := by decide +kernel
theorem dX7_setModels_30 : decode cX7_setModels 30 = .ok (.ireturn, 1) := by decide +kernel
theorem dX7_setDemand_0 : decode cX7_setDemand 0 = .ok (.iload_n 1, 1) := by decide +kernel
theorem dX7_setDemand_1 : decode cX7_setDemand 1 = .ok (.iconst 0, 1) := by decide +kernel
theorem dX7_setDemand_2 : decode cX7_setDemand 2 = .ok (.iconst 2, 1) := by decide +kernel
theorem dX7_setDemand_3 : decode cX7_setDemand 3 = .ok (.invokestatic 49, 3) := by decide +kernel
theorem dX7_setDemand_6 : decode cX7_setDemand 6 = .ok (.invokestatic 64, 3) := by decide +kernel
theorem dX7_setDemand_9 : decode cX7_setDemand 9 = .ok (.iload_n 2, 1) := by decide +kernel
theorem dX7_setDemand_10 : decode cX7_setDemand 10 = .ok (.iconst 1, 1) := by decide +kernel
theorem dX7_setDemand_11 : decode cX7_setDemand 11 = .ok (.bipush 9, 2) := by decide +kernel
theorem dX7_setDemand_13 : decode cX7_setDemand 13 = .ok (.invokestatic 49, 3) := by decide +kernel
theorem dX7_setDemand_16 : decode cX7_setDemand 16 = .ok (.invokestatic 53, 3) := by decide +kernel
theorem dX7_setDemand_19 : decode cX7_setDemand 19 = .ok (.aload_n 0, 1) := by decide +kernel
theorem dX7_setDemand_20 : decode cX7_setDemand 20 = .ok (.invokevirtual 57, 3) := by decide +kernel
theorem dX7_setDemand_23 : decode cX7_setDemand 23 = .ok (.aload_n 0, 1) := by decide +kernel
theorem dX7_setDemand_24 : decode cX7_setDemand 24 = .ok (.getfield 12, 3) := by decide +kernel
theorem dX7_setDemand_27 : decode cX7_setDemand 27 = .ok (.getfield 67, 3) := by decide +kernel
theorem dX7_setDemand_30 : decode cX7_setDemand 30 = .ok (.iload_n 1, 1) := by decide +kernel
theorem dX7_setDemand_31 : decode cX7_setDemand 31 = .ok (.iaload, 1) := by decide +kernel
theorem dX7_setDemand_32 : decode cX7_setDemand 32 = .ok (.istore_n 3, 1) := by decide +kernel
theorem dX7_setDemand_33 : decode cX7_setDemand 33 = .ok (.aload_n 0, 1) := by decide +kernel
theorem dX7_setDemand_34 : decode cX7_setDemand 34 = .ok (.getfield 12, 3) := by decide +kernel
theorem dX7_setDemand_37 : decode cX7_setDemand 37 = .ok (.getfield 67, 3) := by decide +kernel
theorem dX7_setDemand_40 : decode cX7_setDemand 40 = .ok (.iload_n 1, 1) := by decide +kernel
theorem dX7_setDemand_41 : decode cX7_setDemand 41 = .ok (.iload_n 2, 1) := by decide +kernel
theorem dX7_setDemand_42 : decode cX7_setDemand 42 = .ok (.iastore, 1) := by decide +kernel
theorem dX7_setDemand_43 : decode cX7_setDemand 43 = .ok (.iload_n 3, 1) := by decide +kernel
theorem dX7_setDemand_44 : decode cX7_setDemand 44 = .ok (.ireturn, 1) := by decide +kernel
theorem dX7_setRule_0 : decode cX7_setRule 0 = .ok (.iload_n 1, 1) := by decide +kernel
theorem dX7_setRule_1 : decode cX7_setRule 1 = .ok (.iload_n 2, 1) := by decide +kernel
theorem dX7_setRule_2 : decode cX7_setRule 2 = .ok (.invokestatic 71, 3) := by decide +kernel
theorem dX7_setRule_5 : decode cX7_setRule 5 = .ok (.invokestatic 53, 3) := by decide +kernel
theorem dX7_setRule_8 : decode cX7_setRule 8 = .ok (.aload_n 0, 1) := by decide +kernel
theorem dX7_setRule_9 : decode cX7_setRule 9 = .ok (.invokevirtual 57, 3) := by decide +kernel
theorem dX7_setRule_12 : decode cX7_setRule 12 = .ok (.aload_n 0, 1) := by decide +kernel
theorem dX7_setRule_13 : decode cX7_setRule 13 = .ok (.getfield 12, 3) := by decide +kernel
theorem dX7_setRule_16 : decode cX7_setRule 16 = .ok (.getfield 75, 3) := by decide +kernel
theorem dX7_setRule_19 : decode cX7_setRule 19 = .ok (.iload_n 1, 1) := by decide +kernel
theorem dX7_setRule_20 : decode cX7_setRule 20 = .ok (.iaload, 1) := by decide +kernel
theorem dX7_setRule_21 : decode cX7_setRule 21 = .ok (.istore_n 3, 1) := by decide +kernel
theorem dX7_setRule_22 : decode cX7_setRule 22 = .ok (.aload_n 0, 1) := by decide +kernel
theorem dX7_setRule_23 : decode cX7_setRule 23 = .ok (.getfield 12, 3) := by decide +kernel
theorem dX7_setRule_26 : decode cX7_setRule 26 = .ok (.getfield 75, 3) := by decide +kernel
theorem dX7_setRule_29 : decode cX7_setRule 29 = .ok (.iload_n 1, 1) := by decide +kernel
theorem dX7_setRule_30 : decode cX7_setRule 30 = .ok (.iload_n 2, 1) := by decide +kernel
theorem dX7_setRule_31 : decode cX7_setRule 31 = .ok (.iastore, 1) := by decide +kernel
theorem dX7_setRule_32 : decode cX7_setRule 32 = .ok (.iload_n 3, 1) := by decide +kernel
theorem dX7_setRule_33 : decode cX7_setRule 33 = .ok (.ireturn, 1) := by decide +kernel
theorem dX7_rule_0 : decode cX7_rule 0 = .ok (.iload_n 1, 1) := by decide +kernel
theorem dX7_rule_1 : decode cX7_rule 1 = .ok (.iconst 0, 1) := by decide +kernel
theorem dX7_rule_2 : decode cX7_rule 2 = .ok (.bipush 8, 2) := by decide +kernel
theorem dX7_rule_4 : decode cX7_rule 4 = .ok (.invokestatic 49, 3) := by decide +kernel
theorem dX7_rule_7 : decode cX7_rule 7 = .ok (.invokestatic 53, 3) := by decide +kernel
theorem dX7_rule_10 : decode cX7_rule 10 = .ok (.iload_n 1, 1) := by decide +kernel
theorem dX7_rule_11 : decode cX7_rule 11 = .ok (.iconst 4, 1) := by decide +kernel
theorem dX7_rule_12 : decode cX7_rule 12 = .ok (.if_icmp .ge 13, 3) := by decide +kernel
theorem dX7_rule_15 : decode cX7_rule 15 = .ok (.aload_n 0, 1) := by decide +kernel
theorem dX7_rule_16 : decode cX7_rule 16 = .ok (.getfield 12, 3) := by decide +kernel
theorem dX7_rule_19 : decode cX7_rule 19 = .ok (.getfield 75, 3) := by decide +kernel
theorem dX7_rule_22 : decode cX7_rule 22 = .ok (.iload_n 1, 1) := by decide +kernel
theorem dX7_rule_23 : decode cX7_rule 23 = .ok (.iaload, 1) := by decide +kernel
theorem dX7_rule_24 : decode cX7_rule 24 = .ok (.ireturn, 1) := by decide +kernel
theorem dX7_rule_25 : decode cX7_rule 25 = .ok (.iload_n 1, 1) := by decide +kernel
theorem dX7_rule_26 : decode cX7_rule 26 = .ok (.iconst 4, 1) := by decide +kernel
theorem dX7_rule_27 : decode cX7_rule 27 = .ok (.if_icmp .ne 11, 3) := by decide +kernel
theorem dX7_rule_30 : decode cX7_rule 30 = .ok (.aload_n 0, 1) := by decide +kernel
theorem dX7_rule_31 : decode cX7_rule 31 = .ok (.getfield 12, 3) := by decide +kernel
theorem dX7_rule_34 : decode cX7_rule 34 = .ok (.getfield 60, 3) := by decide +kernel
theorem dX7_rule_37 : decode cX7_rule 37 = .ok (.ireturn, 1) := by decide +kernel
theorem dX7_rule_38 : decode cX7_rule 38 = .ok (.iload_n 1, 1) := by decide +kernel
theorem dX7_rule_39 : decode cX7_rule 39 = .ok (.iconst 5, 1) := by decide +kernel
theorem dX7_rule_40 : decode cX7_rule 40 = .ok (.if_icmp .ne 13, 3) := by decide +kernel
theorem dX7_rule_43 : decode cX7_rule 43 = .ok (.aload_n 0, 1) := by decide +kernel
theorem dX7_rule_44 : decode cX7_rule 44 = .ok (.getfield 12, 3) := by decide +kernel
theorem dX7_rule_47 : decode cX7_rule 47 = .ok (.invokevirtual 78, 3) := by decide +kernel
theorem dX7_rule_50 : decode cX7_rule 50 = .ok (.goto 15, 3) := by decide +kernel
theorem dX7_rule_53 : decode cX7_rule 53 = .ok (.aload_n 0, 1) := by decide +kernel
theorem dX7_rule_54 : decode cX7_rule 54 = .ok (.getfield 12, 3) := by decide +kernel
theorem dX7_rule_57 : decode cX7_rule 57 = .ok (.getfield 67, 3) := by decide +kernel
theorem dX7_rule_60 : decode cX7_rule 60 = .ok (.iload_n 1, 1) := by decide +kernel
theorem dX7_rule_61 : decode cX7_rule 61 = .ok (.bipush 6, 2) := by decide +kernel
theorem dX7_rule_63 : decode cX7_rule 63 = .ok (.isub, 1) := by decide +kernel
theorem dX7_rule_64 : decode cX7_rule 64 = .ok (.iaload, 1) := by decide +kernel
theorem dX7_rule_65 : decode cX7_rule 65 = .ok (.ireturn, 1) := by decide +kernel
theorem dX7_setCopies_0 : decode cX7_setCopies 0 = .ok (.iload_n 1, 1) := by decide +kernel
theorem dX7_setCopies_1 : decode cX7_setCopies 1 = .ok (.invokestatic 82, 3) := by decide +kernel
theorem dX7_setCopies_4 : decode cX7_setCopies 4 = .ok (.invokestatic 64, 3) := by decide +kernel
theorem dX7_setCopies_7 : decode cX7_setCopies 7 = .ok (.iload_n 2, 1) := by decide +kernel
theorem dX7_setCopies_8 : decode cX7_setCopies 8 = .ok (.iconst 1, 1) := by decide +kernel
theorem dX7_setCopies_9 : decode cX7_setCopies 9 = .ok (.iconst 3, 1) := by decide +kernel
theorem dX7_setCopies_10 : decode cX7_setCopies 10 = .ok (.invokestatic 49, 3) := by decide +kernel
theorem dX7_setCopies_13 : decode cX7_setCopies 13 = .ok (.invokestatic 53, 3) := by decide +kernel
theorem dX7_setCopies_16 : decode cX7_setCopies 16 = .ok (.aload_n 0, 1) := by decide +kernel
theorem dX7_setCopies_17 : decode cX7_setCopies 17 = .ok (.invokevirtual 57, 3) := by decide +kernel
theorem dX7_setCopies_20 : decode cX7_setCopies 20 = .ok (.aload_n 0, 1) := by decide +kernel
theorem dX7_setCopies_21 : decode cX7_setCopies 21 = .ok (.getfield 12, 3) := by decide +kernel
theorem dX7_setCopies_24 : decode cX7_setCopies 24 = .ok (.getfield 86, 3) := by decide +kernel
theorem dX7_setCopies_27 : decode cX7_setCopies 27 = .ok (.iload_n 1, 1) := by decide +kernel
theorem dX7_setCopies_28 : decode cX7_setCopies 28 = .ok (.iaload, 1) := by decide +kernel
theorem dX7_setCopies_29 : decode cX7_setCopies 29 = .ok (.istore_n 3, 1) := by decide +kernel
theorem dX7_setCopies_30 : decode cX7_setCopies 30 = .ok (.aload_n 0, 1) := by decide +kernel
theorem dX7_setCopies_31 : decode cX7_setCopies 31 = .ok (.getfield 12, 3) := by decide +kernel
theorem dX7_setCopies_34 : decode cX7_setCopies 34 = .ok (.getfield 86, 3) := by decide +kernel
theorem dX7_setCopies_37 : decode cX7_setCopies 37 = .ok (.iload_n 1, 1) := by decide +kernel
theorem dX7_setCopies_38 : decode cX7_setCopies 38 = .ok (.iload_n 2, 1) := by decide +kernel
theorem dX7_setCopies_39 : decode cX7_setCopies 39 = .ok (.iastore, 1) := by decide +kernel
theorem dX7_setCopies_40 : decode cX7_setCopies 40 = .ok (.iload_n 3, 1) := by decide +kernel
theorem dX7_setCopies_41 : decode cX7_setCopies 41 = .ok (.ireturn, 1) := by decide +kernel
theorem dX7_addTask_0 : decode cX7_addTask 0 = .ok (.iload_n 1, 1) := by decide +kernel
theorem dX7_addTask_1 : decode cX7_addTask 1 = .ok (.iload_n 2, 1) := by decide +kernel
theorem dX7_addTask_2 : decode cX7_addTask 2 = .ok (.iload_n 3, 1) := by decide +kernel
theorem dX7_addTask_3 : decode cX7_addTask 3 = .ok (.iload 4, 2) := by decide +kernel
theorem dX7_addTask_5 : decode cX7_addTask 5 = .ok (.invokestatic 89, 3) := by decide +kernel
theorem dX7_addTask_8 : decode cX7_addTask 8 = .ok (.invokestatic 53, 3) := by decide +kernel
theorem dX7_addTask_11 : decode cX7_addTask 11 = .ok (.aload_n 0, 1) := by decide +kernel
theorem dX7_addTask_12 : decode cX7_addTask 12 = .ok (.getfield 12, 3) := by decide +kernel
theorem dX7_addTask_15 : decode cX7_addTask 15 = .ok (.getfield 93, 3) := by decide +kernel
theorem dX7_addTask_18 : decode cX7_addTask 18 = .ok (.bipush 12, 2) := by decide +kernel
theorem dX7_addTask_20 : decode cX7_addTask 20 = .ok (.if_icmp .ge 7, 3) := by decide +kernel
theorem dX7_addTask_23 : decode cX7_addTask 23 = .ok (.iconst 1, 1) := by decide +kernel
theorem dX7_addTask_24 : decode cX7_addTask 24 = .ok (.goto 4, 3) := by decide +kernel
theorem dX7_addTask_27 : decode cX7_addTask 27 = .ok (.iconst 0, 1) := by decide +kernel
theorem dX7_addTask_28 : decode cX7_addTask 28 = .ok (.invokestatic 96, 3) := by decide +kernel
theorem dX7_addTask_31 : decode cX7_addTask 31 = .ok (.aload_n 0, 1) := by decide +kernel
theorem dX7_addTask_32 : decode cX7_addTask 32 = .ok (.invokevirtual 57, 3) := by decide +kernel
theorem dX7_addTask_35 : decode cX7_addTask 35 = .ok (.aload_n 0, 1) := by decide +kernel
theorem dX7_addTask_36 : decode cX7_addTask 36 = .ok (.getfield 12, 3) := by decide +kernel
theorem dX7_addTask_39 : decode cX7_addTask 39 = .ok (.iload_n 1, 1) := by decide +kernel
theorem dX7_addTask_40 : decode cX7_addTask 40 = .ok (.iload_n 2, 1) := by decide +kernel
theorem dX7_addTask_41 : decode cX7_addTask 41 = .ok (.iload_n 3, 1) := by decide +kernel
theorem dX7_addTask_42 : decode cX7_addTask 42 = .ok (.iload 4, 2) := by decide +kernel
theorem dX7_addTask_44 : decode cX7_addTask 44 = .ok (.invokevirtual 99, 3) := by decide +kernel
theorem dX7_addTask_47 : decode cX7_addTask 47 = .ok (.ireturn, 1) := by decide +kernel
theorem dX7_setTime_0 : decode cX7_setTime 0 = .ok (.aload_n 0, 1) := by decide +kernel
theorem dX7_setTime_1 : decode cX7_setTime 1 = .ok (.getfield 12, 3) := by decide +kernel
theorem dX7_setTime_4 : decode cX7_setTime 4 = .ok (.iload_n 1, 1) := by decide +kernel
theorem dX7_setTime_5 : decode cX7_setTime 5 = .ok (.invokevirtual 103, 3) := by decide +kernel
theorem dX7_setTime_8 : decode cX7_setTime 8 = .ok (.ifCond .eq 16, 3) := by decide +kernel
theorem dX7_setTime_11 : decode cX7_setTime 11 = .ok (.iload_n 2, 1) := by decide +kernel
theorem dX7_setTime_12 : decode cX7_setTime 12 = .ok (.iconst 0, 1) := by decide +kernel
theorem dX7_setTime_13 : decode cX7_setTime 13 = .ok (.iconst 2, 1) := by decide +kernel
theorem dX7_setTime_14 : decode cX7_setTime 14 = .ok (.invokestatic 49, 3) := by decide +kernel
theorem dX7_setTime_17 : decode cX7_setTime 17 = .ok (.ifCond .eq 7, 3) := by decide +kernel
theorem dX7_setTime_20 : decode cX7_setTime 20 = .ok (.iconst 1, 1) := by decide +kernel
theorem dX7_setTime_21 : decode cX7_setTime 21 = .ok (.goto 4, 3) := by decide +kernel
theorem dX7_setTime_24 : decode cX7_setTime 24 = .ok (.iconst 0, 1) := by decide +kernel
theorem dX7_setTime_25 : decode cX7_setTime 25 = .ok (.invokestatic 64, 3) := by decide +kernel
theorem dX7_setTime_28 : decode cX7_setTime 28 = .ok (.iload_n 3, 1) := by decide +kernel
theorem dX7_setTime_29 : decode cX7_setTime 29 = .ok (.invokestatic 106, 3) := by decide +kernel
theorem dX7_setTime_32 : decode cX7_setTime 32 = .ok (.invokestatic 53, 3) := by decide +kernel
theorem dX7_setTime_35 : decode cX7_setTime 35 = .ok (.aload_n 0, 1) := by decide +kernel
theorem dX7_setTime_36 : decode cX7_setTime 36 = .ok (.invokevirtual 57, 3) := by decide +kernel
theorem dX7_setTime_39 : decode cX7_setTime 39 = .ok (.aload_n 0, 1) := by decide +kernel
theorem dX7_setTime_40 : decode cX7_setTime 40 = .ok (.getfield 12, 3) := by decide +kernel
theorem dX7_setTime_43 : decode cX7_setTime 43 = .ok (.getfield 109, 3) := by decide +kernel
theorem dX7_setTime_46 : decode cX7_setTime 46 = .ok (.iload_n 1, 1) := by decide +kernel
theorem dX7_setTime_47 : decode cX7_setTime 47 = .ok (.iconst 3, 1) := by decide +kernel
theorem dX7_setTime_48 : decode cX7_setTime 48 = .ok (.imul, 1) := by decide +kernel
theorem dX7_setTime_49 : decode cX7_setTime 49 = .ok (.iload_n 2, 1) := by decide +kernel
theorem dX7_setTime_50 : decode cX7_setTime 50 = .ok (.iadd, 1) := by decide +kernel
theorem dX7_setTime_51 : decode cX7_setTime 51 = .ok (.iaload, 1) := by decide +kernel
theorem dX7_setTime_52 : decode cX7_setTime 52 = .ok (.istore 4, 2) := by decide +kernel
theorem dX7_setTime_54 : decode cX7_setTime 54 = .ok (.aload_n 0, 1) := by decide +kernel
theorem dX7_setTime_55 : decode cX7_setTime 55 = .ok (.getfield 12, 3) := by decide +kernel
theorem dX7_setTime_58 : decode cX7_setTime 58 = .ok (.getfield 109, 3) := by decide +kernel
theorem dX7_setTime_61 : decode cX7_setTime 61 = .ok (.iload_n 1, 1) := by decide +kernel
theorem dX7_setTime_62 : decode cX7_setTime 62 = .ok (.iconst 3, 1) := by decide +kernel
theorem dX7_setTime_63 : decode cX7_setTime 63 = .ok (.imul, 1) := by decide +kernel
theorem dX7_setTime_64 : decode cX7_setTime 64 = .ok (.iload_n 2, 1) := by decide +kernel
theorem dX7_setTime_65 : decode cX7_setTime 65 = .ok (.iadd, 1) := by decide +kernel
theorem dX7_setTime_66 : decode cX7_setTime 66 = .ok (.iload_n 3, 1) := by decide +kernel
theorem dX7_setTime_67 : decode cX7_setTime 67 = .ok (.iastore, 1) := by decide +kernel
theorem dX7_setTime_68 : decode cX7_setTime 68 = .ok (.iload 4, 2) := by decide +kernel
theorem dX7_setTime_70 : decode cX7_setTime 70 = .ok (.ireturn, 1) := by decide +kernel
theorem dX7_setTool_0 : decode cX7_setTool 0 = .ok (.aload_n 0, 1) := by decide +kernel
theorem dX7_setTool_1 : decode cX7_setTool 1 = .ok (.getfield 12, 3) := by decide +kernel
theorem dX7_setTool_4 : decode cX7_setTool 4 = .ok (.iload_n 1, 1) := by decide +kernel
theorem dX7_setTool_5 : decode cX7_setTool 5 = .ok (.invokevirtual 103, 3) := by decide +kernel
theorem dX7_setTool_8 : decode cX7_setTool 8 = .ok (.invokestatic 64, 3) := by decide +kernel
theorem dX7_setTool_11 : decode cX7_setTool 11 = .ok (.iload_n 2, 1) := by decide +kernel
theorem dX7_setTool_12 : decode cX7_setTool 12 = .ok (.invokestatic 112, 3) := by decide +kernel
theorem dX7_setTool_15 : decode cX7_setTool 15 = .ok (.invokestatic 53, 3) := by decide +kernel
theorem dX7_setTool_18 : decode cX7_setTool 18 = .ok (.aload_n 0, 1) := by decide +kernel
theorem dX7_setTool_19 : decode cX7_setTool 19 = .ok (.invokevirtual 57, 3) := by decide +kernel
theorem dX7_setTool_22 : decode cX7_setTool 22 = .ok (.aload_n 0, 1) := by decide +kernel
theorem dX7_setTool_23 : decode cX7_setTool 23 = .ok (.getfield 12, 3) := by decide +kernel
theorem dX7_setTool_26 : decode cX7_setTool 26 = .ok (.getfield 115, 3) := by decide +kernel
theorem dX7_setTool_29 : decode cX7_setTool 29 = .ok (.iload_n 1, 1) := by decide +kernel
theorem dX7_setTool_30 : decode cX7_setTool 30 = .ok (.iaload, 1) := by decide +kernel
theorem dX7_setTool_31 : decode cX7_setTool 31 = .ok (.istore_n 3, 1) := by decide +kernel
theorem dX7_setTool_32 : decode cX7_setTool 32 = .ok (.aload_n 0, 1) := by decide +kernel
theorem dX7_setTool_33 : decode cX7_setTool 33 = .ok (.getfield 12, 3) := by decide +kernel
theorem dX7_setTool_36 : decode cX7_setTool 36 = .ok (.getfield 115, 3) := by decide +kernel
theorem dX7_setTool_39 : decode cX7_setTool 39 = .ok (.iload_n 1, 1) := by decide +kernel
theorem dX7_setTool_40 : decode cX7_setTool 40 = .ok (.iload_n 2, 1) := by decide +kernel
theorem dX7_setTool_41 : decode cX7_setTool 41 = .ok (.iastore, 1) := by decide +kernel
theorem dX7_setTool_42 : decode cX7_setTool 42 = .ok (.iload_n 3, 1) := by decide +kernel
theorem dX7_setTool_43 : decode cX7_setTool 43 = .ok (.ireturn, 1) := by decide +kernel
theorem dX7_before_0 : decode cX7_before 0 = .ok (.aload_n 0, 1) := by decide +kernel
theorem dX7_before_1 : decode cX7_before 1 = .ok (.getfield 12, 3) := by decide +kernel
theorem dX7_before_4 : decode cX7_before 4 = .ok (.iload_n 1, 1) := by decide +kernel
theorem dX7_before_5 : decode cX7_before 5 = .ok (.invokevirtual 103, 3) := by decide +kernel
theorem dX7_before_8 : decode cX7_before 8 = .ok (.ifCond .eq 18, 3) := by decide +kernel
theorem dX7_before_11 : decode cX7_before 11 = .ok (.aload_n 0, 1) := by decide +kernel
theorem dX7_before_12 : decode cX7_before 12 = .ok (.getfield 12, 3) := by decide +kernel
theorem dX7_before_15 : decode cX7_before 15 = .ok (.iload_n 2, 1) := by decide +kernel
theorem dX7_before_16 : decode cX7_before 16 = .ok (.invokevirtual 103, 3) := by decide +kernel
theorem dX7_before_19 : decode cX7_before 19 = .ok (.ifCond .eq 7, 3) := by decide +kernel
theorem dX7_before_22 : decode cX7_before 22 = .ok (.iconst 1, 1) := by decide +kernel
theorem dX7_before_23 : decode cX7_before 23 = .ok (.goto 4, 3) := by decide +kernel
theorem dX7_before_26 : decode cX7_before 26 = .ok (.iconst 0, 1) := by decide +kernel
theorem dX7_before_27 : decode cX7_before 27 = .ok (.invokestatic 64, 3) := by decide +kernel
theorem dX7_before_30 : decode cX7_before 30 = .ok (.iload_n 1, 1) := by decide +kernel
theorem dX7_before_31 : decode cX7_before 31 = .ok (.iload_n 2, 1) := by decide +kernel
theorem dX7_before_32 : decode cX7_before 32 = .ok (.if_icmp .eq 19, 3) := by decide +kernel
theorem dX7_before_35 : decode cX7_before 35 = .ok (.aload_n 0, 1) := by decide +kernel
theorem dX7_before_36 : decode cX7_before 36 = .ok (.getfield 12, 3) := by decide +kernel
theorem dX7_before_39 : decode cX7_before 39 = .ok (.iload_n 1, 1) := by decide +kernel
theorem dX7_before_40 : decode cX7_before 40 = .ok (.iload_n 2, 1) := by decide +kernel
theorem dX7_before_41 : decode cX7_before 41 = .ok (.invokevirtual 118, 3) := by decide +kernel
theorem dX7_before_44 : decode cX7_before 44 = .ok (.ifCond .ne 7, 3) := by decide +kernel
theorem dX7_before_47 : decode cX7_before 47 = .ok (.iconst 1, 1) := by decide +kernel
theorem dX7_before_48 : decode cX7_before 48 = .ok (.goto 4, 3) := by decide +kernel
theorem dX7_before_51 : decode cX7_before 51 = .ok (.iconst 0, 1) := by decide +kernel
theorem dX7_before_52 : decode cX7_before 52 = .ok (.invokestatic 53, 3) := by decide +kernel
theorem dX7_before_55 : decode cX7_before 55 = .ok (.aload_n 0, 1) := by decide +kernel
theorem dX7_before_56 : decode cX7_before 56 = .ok (.getfield 12, 3) := by decide +kernel
theorem dX7_before_59 : decode cX7_before 59 = .ok (.iload_n 2, 1) := by decide +kernel
theorem dX7_before_60 : decode cX7_before 60 = .ok (.iload_n 1, 1) := by decide +kernel
theorem dX7_before_61 : decode cX7_before 61 = .ok (.invokevirtual 121, 3) := by decide +kernel
theorem dX7_before_64 : decode cX7_before 64 = .ok (.ifCond .ne 7, 3) := by decide +kernel
theorem dX7_before_67 : decode cX7_before 67 = .ok (.iconst 1, 1) := by decide +kernel
theorem dX7_before_68 : decode cX7_before 68 = .ok (.goto 4, 3) := by decide +kernel
theorem dX7_before_71 : decode cX7_before 71 = .ok (.iconst 0, 1) := by decide +kernel
theorem dX7_before_72 : decode cX7_before 72 = .ok (.invokestatic 124, 3) := by decide +kernel
theorem dX7_before_75 : decode cX7_before 75 = .ok (.aload_n 0, 1) := by decide +kernel
theorem dX7_before_76 : decode cX7_before 76 = .ok (.invokevirtual 57, 3) := by decide +kernel
theorem dX7_before_79 : decode cX7_before 79 = .ok (.aload_n 0, 1) := by decide +kernel
theorem dX7_before_80 : decode cX7_before 80 = .ok (.getfield 12, 3) := by decide +kernel
theorem dX7_before_83 : decode cX7_before 83 = .ok (.iload_n 1, 1) := by decide +kernel
theorem dX7_before_84 : decode cX7_before 84 = .ok (.iload_n 2, 1) := by decide +kernel
theorem dX7_before_85 : decode cX7_before 85 = .ok (.invokevirtual 127, 3) := by decide +kernel
theorem dX7_before_88 : decode cX7_before 88 = .ok (.aload_n 0, 1) := by decide +kernel
theorem dX7_before_89 : decode cX7_before 89 = .ok (.getfield 12, 3) := by decide +kernel
theorem dX7_before_92 : decode cX7_before 92 = .ok (.getfield 131, 3) := by decide +kernel
theorem dX7_before_95 : decode cX7_before 95 = .ok (.iload_n 2, 1) := by decide +kernel
theorem dX7_before_96 : decode cX7_before 96 = .ok (.iaload, 1) := by decide +kernel
theorem dX7_before_97 : decode cX7_before 97 = .ok (.invokestatic 134, 3) := by decide +kernel
theorem dX7_before_100 : decode cX7_before 100 = .ok (.ireturn, 1) := by decide +kernel
theorem dX7_pair_0 : decode cX7_pair 0 = .ok (.aload_n 0, 1) := by decide +kernel
theorem dX7_pair_1 : decode cX7_pair 1 = .ok (.getfield 12, 3) := by decide +kernel
theorem dX7_pair_4 : decode cX7_pair 4 = .ok (.iload_n 1, 1) := by decide +kernel
theorem dX7_pair_5 : decode cX7_pair 5 = .ok (.invokevirtual 103, 3) := by decide +kernel
theorem dX7_pair_8 : decode cX7_pair 8 = .ok (.ifCond .eq 18, 3) := by decide +kernel
theorem dX7_pair_11 : decode cX7_pair 11 = .ok (.aload_n 0, 1) := by decide +kernel
theorem dX7_pair_12 : decode cX7_pair 12 = .ok (.getfield 12, 3) := by decide +kernel
theorem dX7_pair_15 : decode cX7_pair 15 = .ok (.iload_n 2, 1) := by decide +kernel
theorem dX7_pair_16 : decode cX7_pair 16 = .ok (.invokevirtual 103, 3) := by decide +kernel
theorem dX7_pair_19 : decode cX7_pair 19 = .ok (.ifCond .eq 7, 3) := by decide +kernel
theorem dX7_pair_22 : decode cX7_pair 22 = .ok (.iconst 1, 1) := by decide +kernel
theorem dX7_pair_23 : decode cX7_pair 23 = .ok (.goto 4, 3) := by decide +kernel
theorem dX7_pair_26 : decode cX7_pair 26 = .ok (.iconst 0, 1) := by decide +kernel
theorem dX7_pair_27 : decode cX7_pair 27 = .ok (.invokestatic 64, 3) := by decide +kernel
theorem dX7_pair_30 : decode cX7_pair 30 = .ok (.iload_n 1, 1) := by decide +kernel
theorem dX7_pair_31 : decode cX7_pair 31 = .ok (.iload_n 2, 1) := by decide +kernel
theorem dX7_pair_32 : decode cX7_pair 32 = .ok (.if_icmp .eq 7, 3) := by decide +kernel
theorem dX7_pair_35 : decode cX7_pair 35 = .ok (.iconst 1, 1) := by decide +kernel
theorem dX7_pair_36 : decode cX7_pair 36 = .ok (.goto 4, 3) := by decide +kernel
theorem dX7_pair_39 : decode cX7_pair 39 = .ok (.iconst 0, 1) := by decide +kernel
theorem dX7_pair_40 : decode cX7_pair 40 = .ok (.invokestatic 53, 3) := by decide +kernel
theorem dX7_pair_43 : decode cX7_pair 43 = .ok (.aload_n 0, 1) := by decide +kernel
theorem dX7_pair_44 : decode cX7_pair 44 = .ok (.invokevirtual 57, 3) := by decide +kernel
theorem dX7_pair_47 : decode cX7_pair 47 = .ok (.aload_n 0, 1) := by decide +kernel
theorem dX7_pair_48 : decode cX7_pair 48 = .ok (.getfield 12, 3) := by decide +kernel
theorem dX7_pair_51 : decode cX7_pair 51 = .ok (.iload_n 1, 1) := by decide +kernel
theorem dX7_pair_52 : decode cX7_pair 52 = .ok (.iload_n 2, 1) := by decide +kernel
theorem dX7_pair_53 : decode cX7_pair 53 = .ok (.invokevirtual 140, 3) := by decide +kernel
theorem dX7_pair_56 : decode cX7_pair 56 = .ok (.istore 4, 2) := by decide +kernel
theorem dX7_pair_58 : decode cX7_pair 58 = .ok (.aload_n 0, 1) := by decide +kernel
theorem dX7_pair_59 : decode cX7_pair 59 = .ok (.getfield 12, 3) := by decide +kernel
theorem dX7_pair_62 : decode cX7_pair 62 = .ok (.iload_n 1, 1) := by decide +kernel
theorem dX7_pair_63 : decode cX7_pair 63 = .ok (.iload_n 2, 1) := by decide +kernel
theorem dX7_pair_64 : decode cX7_pair 64 = .ok (.iload_n 3, 1) := by decide +kernel
theorem dX7_pair_65 : decode cX7_pair 65 = .ok (.invokevirtual 144, 3) := by decide +kernel
theorem dX7_pair_68 : decode cX7_pair 68 = .ok (.iload 4, 2) := by decide +kernel
theorem dX7_pair_70 : decode cX7_pair 70 = .ok (.ireturn, 1) := by decide +kernel
theorem dX7_drop_0 : decode cX7_drop 0 = .ok (.aload_n 0, 1) := by decide +kernel
theorem dX7_drop_1 : decode cX7_drop 1 = .ok (.getfield 12, 3) := by decide +kernel
theorem dX7_drop_4 : decode cX7_drop 4 = .ok (.iload_n 1, 1) := by decide +kernel
theorem dX7_drop_5 : decode cX7_drop 5 = .ok (.invokevirtual 103, 3) := by decide +kernel
theorem dX7_drop_8 : decode cX7_drop 8 = .ok (.ifCond .eq 18, 3) := by decide +kernel
theorem dX7_drop_11 : decode cX7_drop 11 = .ok (.aload_n 0, 1) := by decide +kernel
theorem dX7_drop_12 : decode cX7_drop 12 = .ok (.getfield 12, 3) := by decide +kernel
theorem dX7_drop_15 : decode cX7_drop 15 = .ok (.iload_n 2, 1) := by decide +kernel
theorem dX7_drop_16 : decode cX7_drop 16 = .ok (.invokevirtual 103, 3) := by decide +kernel
theorem dX7_drop_19 : decode cX7_drop 19 = .ok (.ifCond .eq 7, 3) := by decide +kernel
theorem dX7_drop_22 : decode cX7_drop 22 = .ok (.iconst 1, 1) := by decide +kernel
theorem dX7_drop_23 : decode cX7_drop 23 = .ok (.goto 4, 3) := by decide +kernel
theorem dX7_drop_26 : decode cX7_drop 26 = .ok (.iconst 0, 1) := by decide +kernel
theorem dX7_drop_27 : decode cX7_drop 27 = .ok (.invokestatic 64, 3) := by decide +kernel
theorem dX7_drop_30 : decode cX7_drop 30 = .ok (.aload_n 0, 1) := by decide +kernel
theorem dX7_drop_31 : decode cX7_drop 31 = .ok (.getfield 12, 3) := by decide +kernel
theorem dX7_drop_34 : decode cX7_drop 34 = .ok (.iload_n 1, 1) := by decide +kernel
theorem dX7_drop_35 : decode cX7_drop 35 = .ok (.iload_n 2, 1) := by decide +kernel
theorem dX7_drop_36 : decode cX7_drop 36 = .ok (.invokevirtual 118, 3) := by decide +kernel
theorem dX7_drop_39 : decode cX7_drop 39 = .ok (.ifCond .ne 15, 3) := by decide +kernel
theorem dX7_drop_42 : decode cX7_drop 42 = .ok (.aload_n 0, 1) := by decide +kernel
theorem dX7_drop_43 : decode cX7_drop 43 = .ok (.getfield 12, 3) := by decide +kernel
theorem dX7_drop_46 : decode cX7_drop 46 = .ok (.iload_n 2, 1) := by decide +kernel
theorem dX7_drop_47 : decode cX7_drop 47 = .ok (.iload_n 1, 1) := by decide +kernel
theorem dX7_drop_48 : decode cX7_drop 48 = .ok (.invokevirtual 118, 3) := by decide +kernel
theorem dX7_drop_51 : decode cX7_drop 51 = .ok (.ifCond .eq 7, 3) := by decide +kernel
theorem dX7_drop_54 : decode cX7_drop 54 = .ok (.iconst 1, 1) := by decide +kernel
theorem dX7_drop_55 : decode cX7_drop 55 = .ok (.goto 4, 3) := by decide +kernel
theorem dX7_drop_58 : decode cX7_drop 58 = .ok (.iconst 0, 1) := by decide +kernel
theorem dX7_drop_59 : decode cX7_drop 59 = .ok (.istore_n 3, 1) := by decide +kernel
theorem dX7_drop_60 : decode cX7_drop 60 = .ok (.aload_n 0, 1) := by decide +kernel
theorem dX7_drop_61 : decode cX7_drop 61 = .ok (.getfield 12, 3) := by decide +kernel
theorem dX7_drop_64 : decode cX7_drop 64 = .ok (.iload_n 1, 1) := by decide +kernel
theorem dX7_drop_65 : decode cX7_drop 65 = .ok (.iload_n 2, 1) := by decide +kernel
theorem dX7_drop_66 : decode cX7_drop 66 = .ok (.invokevirtual 140, 3) := by decide +kernel
theorem dX7_drop_69 : decode cX7_drop 69 = .ok (.ifCond .eq 7, 3) := by decide +kernel
theorem dX7_drop_72 : decode cX7_drop 72 = .ok (.iconst 2, 1) := by decide +kernel
theorem dX7_drop_73 : decode cX7_drop 73 = .ok (.goto 4, 3) := by decide +kernel
theorem dX7_drop_76 : decode cX7_drop 76 = .ok (.iconst 0, 1) := by decide +kernel
theorem dX7_drop_77 : decode cX7_drop 77 = .ok (.istore 4, 2) := by decide +kernel
theorem dX7_drop_79 : decode cX7_drop 79 = .ok (.iload_n 3, 1) := by decide +kernel
theorem dX7_drop_80 : decode cX7_drop 80 = .ok (.iload 4, 2) := by decide +kernel
theorem dX7_drop_82 : decode cX7_drop 82 = .ok (.iadd, 1) := by decide +kernel
theorem dX7_drop_83 : decode cX7_drop 83 = .ok (.ifCond .le 7, 3) := by decide +kernel
theorem dX7_drop_86 : decode cX7_drop 86 = .ok (.iconst 1, 1) := by decide +kernel
theorem dX7_drop_87 : decode cX7_drop 87 = .ok (.goto 4, 3) := by decide +kernel
theorem dX7_drop_90 : decode cX7_drop 90 = .ok (.iconst 0, 1) := by decide +kernel
theorem dX7_drop_91 : decode cX7_drop 91 = .ok (.invokestatic 148, 3) := by decide +kernel
theorem dX7_drop_94 : decode cX7_drop 94 = .ok (.aload_n 0, 1) := by decide +kernel
theorem dX7_drop_95 : decode cX7_drop 95 = .ok (.invokevirtual 57, 3) := by decide +kernel
theorem dX7_drop_98 : decode cX7_drop 98 = .ok (.aload_n 0, 1) := by decide +kernel
theorem dX7_drop_99 : decode cX7_drop 99 = .ok (.getfield 12, 3) := by decide +kernel
theorem dX7_drop_102 : decode cX7_drop 102 = .ok (.iload_n 1, 1) := by decide +kernel
theorem dX7_drop_103 : decode cX7_drop 103 = .ok (.iload_n 2, 1) := by decide +kernel
theorem dX7_drop_104 : decode cX7_drop 104 = .ok (.invokevirtual 151, 3) := by decide +kernel
theorem dX7_drop_107 : decode cX7_drop 107 = .ok (.aload_n 0, 1) := by decide +kernel
theorem dX7_drop_108 : decode cX7_drop 108 = .ok (.getfield 12, 3) := by decide +kernel
theorem dX7_drop_111 : decode cX7_drop 111 = .ok (.iload_n 1, 1) := by decide +kernel
theorem dX7_drop_112 : decode cX7_drop 112 = .ok (.iload_n 2, 1) := by decide +kernel
theorem dX7_drop_113 : decode cX7_drop 113 = .ok (.invokevirtual 154, 3) := by decide +kernel
theorem dX7_drop_116 : decode cX7_drop 116 = .ok (.iload_n 3, 1) := by decide +kernel
theorem dX7_drop_117 : decode cX7_drop 117 = .ok (.iload 4, 2) := by decide +kernel
theorem dX7_drop_119 : decode cX7_drop 119 = .ok (.iadd, 1) := by decide +kernel
theorem dX7_drop_120 : decode cX7_drop 120 = .ok (.ireturn, 1) := by decide +kernel
theorem dX7_task_0 : decode cX7_task 0 = .ok (.aload_n 0, 1) := by decide +kernel
theorem dX7_task_1 : decode cX7_task 1 = .ok (.getfield 12, 3) := by decide +kernel
theorem dX7_task_4 : decode cX7_task 4 = .ok (.iload_n 1, 1) := by decide +kernel
theorem dX7_task_5 : decode cX7_task 5 = .ok (.invokevirtual 103, 3) := by decide +kernel
theorem dX7_task_8 : decode cX7_task 8 = .ok (.invokestatic 64, 3) := by decide +kernel
theorem dX7_task_11 : decode cX7_task 11 = .ok (.iload_n 2, 1) := by decide +kernel
theorem dX7_task_12 : decode cX7_task 12 = .ok (.iconst 0, 1) := by decide +kernel
theorem dX7_task_13 : decode cX7_task 13 = .ok (.bipush 11, 2) := by decide +kernel
theorem dX7_task_15 : decode cX7_task 15 = .ok (.invokestatic 49, 3) := by decide +kernel
theorem dX7_task_18 : decode cX7_task 18 = .ok (.invokestatic 53, 3) := by decide +kernel
theorem dX7_task_21 : decode cX7_task 21 = .ok (.iload_n 2, 1) := by decide +kernel
theorem dX7_task_22 : decode cX7_task 22 = .ok (.tableswitch 138 3 11 #[50, 60, 69, 79, 89, 99, 109, 119, 129], 50) := by decide +kernel
theorem dX7_task_72 : decode cX7_task 72 = .ok (.aload_n 0, 1) := by decide +kernel
theorem dX7_task_73 : decode cX7_task 73 = .ok (.getfield 12, 3) := by decide +kernel
theorem dX7_task_76 : decode cX7_task 76 = .ok (.getfield 115, 3) := by decide +kernel
theorem dX7_task_79 : decode cX7_task 79 = .ok (.iload_n 1, 1) := by decide +kernel
theorem dX7_task_80 : decode cX7_task 80 = .ok (.iaload, 1) := by decide +kernel
theorem dX7_task_81 : decode cX7_task 81 = .ok (.ireturn, 1) := by decide +kernel
theorem dX7_task_82 : decode cX7_task 82 = .ok (.aload_n 0, 1) := by decide +kernel
theorem dX7_task_83 : decode cX7_task 83 = .ok (.getfield 12, 3) := by decide +kernel
theorem dX7_task_86 : decode cX7_task 86 = .ok (.iload_n 1, 1) := by decide +kernel
theorem dX7_task_87 : decode cX7_task 87 = .ok (.invokevirtual 157, 3) := by decide +kernel
theorem dX7_task_90 : decode cX7_task 90 = .ok (.ireturn, 1) := by decide +kernel
theorem dX7_task_91 : decode cX7_task 91 = .ok (.aload_n 0, 1) := by decide +kernel
theorem dX7_task_92 : decode cX7_task 92 = .ok (.getfield 12, 3) := by decide +kernel
theorem dX7_task_95 : decode cX7_task 95 = .ok (.getfield 160, 3) := by decide +kernel
theorem dX7_task_98 : decode cX7_task 98 = .ok (.iload_n 1, 1) := by decide +kernel
theorem dX7_task_99 : decode cX7_task 99 = .ok (.iaload, 1) := by decide +kernel
theorem dX7_task_100 : decode cX7_task 100 = .ok (.ireturn, 1) := by decide +kernel
theorem dX7_task_101 : decode cX7_task 101 = .ok (.aload_n 0, 1) := by decide +kernel
theorem dX7_task_102 : decode cX7_task 102 = .ok (.getfield 12, 3) := by decide +kernel
theorem dX7_task_105 : decode cX7_task 105 = .ok (.getfield 131, 3) := by decide +kernel
theorem dX7_task_108 : decode cX7_task 108 = .ok (.iload_n 1, 1) := by decide +kernel
theorem dX7_task_109 : decode cX7_task 109 = .ok (.iaload, 1) := by decide +kernel
theorem dX7_task_110 : decode cX7_task 110 = .ok (.ireturn, 1) := by decide +kernel
theorem dX7_task_111 : decode cX7_task 111 = .ok (.aload_n 0, 1) := by decide +kernel
theorem dX7_task_112 : decode cX7_task 112 = .ok (.getfield 12, 3) := by decide +kernel
theorem dX7_task_115 : decode cX7_task 115 = .ok (.getfield 163, 3) := by decide +kernel
theorem dX7_task_118 : decode cX7_task 118 = .ok (.iload_n 1, 1) := by decide +kernel
theorem dX7_task_119 : decode cX7_task 119 = .ok (.iaload, 1) := by decide +kernel
theorem dX7_task_120 : decode cX7_task 120 = .ok (.ireturn, 1) := by decide +kernel
theorem dX7_task_121 : decode cX7_task 121 = .ok (.aload_n 0, 1) := by decide +kernel
theorem dX7_task_122 : decode cX7_task 122 = .ok (.getfield 12, 3) := by decide +kernel
theorem dX7_task_125 : decode cX7_task 125 = .ok (.getfield 166, 3) := by decide +kernel
theorem dX7_task_128 : decode cX7_task 128 = .ok (.iload_n 1, 1) := by decide +kernel
theorem dX7_task_129 : decode cX7_task 129 = .ok (.iaload, 1) := by decide +kernel
theorem dX7_task_130 : decode cX7_task 130 = .ok (.ireturn, 1) := by decide +kernel
theorem dX7_task_131 : decode cX7_task 131 = .ok (.aload_n 0, 1) := by decide +kernel
theorem dX7_task_132 : decode cX7_task 132 = .ok (.getfield 12, 3) := by decide +kernel
theorem dX7_task_135 : decode cX7_task 135 = .ok (.getfield 169, 3) := by decide +kernel
theorem dX7_task_138 : decode cX7_task 138 = .ok (.iload_n 1, 1) := by decide +kernel
theorem dX7_task_139 : decode cX7_task 139 = .ok (.iaload, 1) := by decide +kernel
theorem dX7_task_140 : decode cX7_task 140 = .ok (.ireturn, 1) := by decide +kernel
theorem dX7_task_141 : decode cX7_task 141 = .ok (.aload_n 0, 1) := by decide +kernel
theorem dX7_task_142 : decode cX7_task 142 = .ok (.getfield 12, 3) := by decide +kernel
theorem dX7_task_145 : decode cX7_task 145 = .ok (.getfield 172, 3) := by decide +kernel
theorem dX7_task_148 : decode cX7_task 148 = .ok (.iload_n 1, 1) := by decide +kernel
theorem dX7_task_149 : decode cX7_task 149 = .ok (.iaload, 1) := by decide +kernel
theorem dX7_task_150 : decode cX7_task 150 = .ok (.ireturn, 1) := by decide +kernel
theorem dX7_task_151 : decode cX7_task 151 = .ok (.aload_n 0, 1) := by decide +kernel
theorem dX7_task_152 : decode cX7_task 152 = .ok (.getfield 24, 3) := by decide +kernel
theorem dX7_task_155 : decode cX7_task 155 = .ok (.iload_n 1, 1) := by decide +kernel
theorem dX7_task_156 : decode cX7_task 156 = .ok (.invokevirtual 175, 3) := by decide +kernel
theorem dX7_task_159 : decode cX7_task 159 = .ok (.ireturn, 1) := by decide +kernel
theorem dX7_task_160 : decode cX7_task 160 = .ok (.aload_n 0, 1) := by decide +kernel
theorem dX7_task_161 : decode cX7_task 161 = .ok (.getfield 12, 3) := by decide +kernel
theorem dX7_task_164 : decode cX7_task 164 = .ok (.getfield 109, 3) := by decide +kernel
theorem dX7_task_167 : decode cX7_task 167 = .ok (.iload_n 1, 1) := by decide +kernel
theorem dX7_task_168 : decode cX7_task 168 = .ok (.iconst 3, 1) := by decide +kernel
theorem dX7_task_169 : decode cX7_task 169 = .ok (.imul, 1) := by decide +kernel
theorem dX7_task_170 : decode cX7_task 170 = .ok (.iload_n 2, 1) := by decide +kernel
theorem dX7_task_171 : decode cX7_task 171 = .ok (.iadd, 1) := by decide +kernel
theorem dX7_task_172 : decode cX7_task 172 = .ok (.iaload, 1) := by decide +kernel
theorem dX7_task_173 : decode cX7_task 173 = .ok (.ireturn, 1) := by decide +kernel
theorem dX7_priority_0 : decode cX7_priority 0 = .ok (.aload_n 0, 1) := by decide +kernel
theorem dX7_priority_1 : decode cX7_priority 1 = .ok (.getfield 12, 3) := by decide +kernel
theorem dX7_priority_4 : decode cX7_priority 4 = .ok (.iload_n 1, 1) := by decide +kernel
theorem dX7_priority_5 : decode cX7_priority 5 = .ok (.invokevirtual 103, 3) := by decide +kernel
theorem dX7_priority_8 : decode cX7_priority 8 = .ok (.invokestatic 64, 3) := by decide +kernel
theorem dX7_priority_11 : decode cX7_priority 11 = .ok (.iload_n 2, 1) := by decide +kernel
theorem dX7_priority_12 : decode cX7_priority 12 = .ok (.invokestatic 178, 3) := by decide +kernel
theorem dX7_priority_15 : decode cX7_priority 15 = .ok (.invokestatic 53, 3) := by decide +kernel
theorem dX7_priority_18 : decode cX7_priority 18 = .ok (.aload_n 0, 1) := by decide +kernel
theorem dX7_priority_19 : decode cX7_priority 19 = .ok (.getfield 12, 3) := by decide +kernel
theorem dX7_priority_22 : decode cX7_priority 22 = .ok (.iload_n 1, 1) := by decide +kernel
theorem dX7_priority_23 : decode cX7_priority 23 = .ok (.iload_n 2, 1) := by decide +kernel
theorem dX7_priority_24 : decode cX7_priority 24 = .ok (.invokevirtual 181, 3) := by decide +kernel
theorem dX7_priority_27 : decode cX7_priority 27 = .ok (.ireturn, 1) := by decide +kernel
theorem dX7_size_0 : decode cX7_size 0 = .ok (.aload_n 0, 1) := by decide +kernel
theorem dX7_size_1 : decode cX7_size 1 = .ok (.getfield 12, 3) := by decide +kernel
theorem dX7_size_4 : decode cX7_size 4 = .ok (.getfield 93, 3) := by decide +kernel
theorem dX7_size_7 : decode cX7_size 7 = .ok (.ireturn, 1) := by decide +kernel
theorem dX7_assign_0 : decode cX7_assign 0 = .ok (.aload_n 0, 1) := by decide +kernel
theorem dX7_assign_1 : decode cX7_assign 1 = .ok (.getfield 12, 3) := by decide +kernel
theorem dX7_assign_4 : decode cX7_assign 4 = .ok (.iload_n 1, 1) := by decide +kernel
theorem dX7_assign_5 : decode cX7_assign 5 = .ok (.invokevirtual 103, 3) := by decide +kernel
theorem dX7_assign_8 : decode cX7_assign 8 = .ok (.ifCond .eq 19, 3) := by decide +kernel
theorem dX7_assign_11 : decode cX7_assign 11 = .ok (.iload_n 2, 1) := by decide +kernel
theorem dX7_assign_12 : decode cX7_assign 12 = .ok (.iconst (-1), 1) := by decide +kernel
theorem dX7_assign_13 : decode cX7_assign 13 = .ok (.if_icmp .eq 10, 3) := by decide +kernel
theorem dX7_assign_16 : decode cX7_assign 16 = .ok (.iload_n 2, 1) := by decide +kernel
theorem dX7_assign_17 : decode cX7_assign 17 = .ok (.invokestatic 82, 3) := by decide +kernel
theorem dX7_assign_20 : decode cX7_assign 20 = .ok (.ifCond .eq 7, 3) := by decide +kernel
theorem dX7_assign_23 : decode cX7_assign 23 = .ok (.iconst 1, 1) := by decide +kernel
theorem dX7_assign_24 : decode cX7_assign 24 = .ok (.goto 4, 3) := by decide +kernel
theorem dX7_assign_27 : decode cX7_assign 27 = .ok (.iconst 0, 1) := by decide +kernel
theorem dX7_assign_28 : decode cX7_assign 28 = .ok (.invokestatic 64, 3) := by decide +kernel
theorem dX7_assign_31 : decode cX7_assign 31 = .ok (.iload_n 2, 1) := by decide +kernel
theorem dX7_assign_32 : decode cX7_assign 32 = .ok (.iconst (-1), 1) := by decide +kernel
theorem dX7_assign_33 : decode cX7_assign 33 = .ok (.if_icmp .ne 7, 3) := by decide +kernel
theorem dX7_assign_36 : decode cX7_assign 36 = .ok (.iconst 0, 1) := by decide +kernel
theorem dX7_assign_37 : decode cX7_assign 37 = .ok (.goto 12, 3) := by decide +kernel
theorem dX7_assign_40 : decode cX7_assign 40 = .ok (.aload_n 0, 1) := by decide +kernel
theorem dX7_assign_41 : decode cX7_assign 41 = .ok (.getfield 24, 3) := by decide +kernel
theorem dX7_assign_44 : decode cX7_assign 44 = .ok (.iload_n 1, 1) := by decide +kernel
theorem dX7_assign_45 : decode cX7_assign 45 = .ok (.iload_n 2, 1) := by decide +kernel
theorem dX7_assign_46 : decode cX7_assign 46 = .ok (.invokevirtual 184, 3) := by decide +kernel
theorem dX7_assign_49 : decode cX7_assign 49 = .ok (.istore_n 3, 1) := by decide +kernel
theorem dX7_assign_50 : decode cX7_assign 50 = .ok (.aload_n 0, 1) := by decide +kernel
theorem dX7_assign_51 : decode cX7_assign 51 = .ok (.iload_n 3, 1) := by decide +kernel
theorem dX7_assign_52 : decode cX7_assign 52 = .ok (.invokevirtual 187, 3) := by decide +kernel
theorem dX7_assign_55 : decode cX7_assign 55 = .ok (.iload_n 3, 1) := by decide +kernel
theorem dX7_assign_56 : decode cX7_assign 56 = .ok (.ifCond .ne 7, 3) := by decide +kernel
theorem dX7_assign_59 : decode cX7_assign 59 = .ok (.iconst 1, 1) := by decide +kernel
theorem dX7_assign_60 : decode cX7_assign 60 = .ok (.goto 4, 3) := by decide +kernel
theorem dX7_assign_63 : decode cX7_assign 63 = .ok (.iconst 0, 1) := by decide +kernel
theorem dX7_assign_64 : decode cX7_assign 64 = .ok (.invokestatic 124, 3) := by decide +kernel
theorem dX7_assign_67 : decode cX7_assign 67 = .ok (.aload_n 0, 1) := by decide +kernel
theorem dX7_assign_68 : decode cX7_assign 68 = .ok (.invokevirtual 57, 3) := by decide +kernel
theorem dX7_assign_71 : decode cX7_assign 71 = .ok (.aload_n 0, 1) := by decide +kernel
theorem dX7_assign_72 : decode cX7_assign 72 = .ok (.getfield 12, 3) := by decide +kernel
theorem dX7_assign_75 : decode cX7_assign 75 = .ok (.getfield 160, 3) := by decide +kernel
theorem dX7_assign_78 : decode cX7_assign 78 = .ok (.iload_n 1, 1) := by decide +kernel
theorem dX7_assign_79 : decode cX7_assign 79 = .ok (.iaload, 1) := by decide +kernel
theorem dX7_assign_80 : decode cX7_assign 80 = .ok (.istore 4, 2) := by decide +kernel
theorem dX7_assign_82 : decode cX7_assign 82 = .ok (.aload_n 0, 1) := by decide +kernel
theorem dX7_assign_83 : decode cX7_assign 83 = .ok (.getfield 12, 3) := by decide +kernel
theorem dX7_assign_86 : decode cX7_assign 86 = .ok (.getfield 160, 3) := by decide +kernel
theorem dX7_assign_89 : decode cX7_assign 89 = .ok (.iload_n 1, 1) := by decide +kernel
theorem dX7_assign_90 : decode cX7_assign 90 = .ok (.iload_n 2, 1) := by decide +kernel
theorem dX7_assign_91 : decode cX7_assign 91 = .ok (.iastore, 1) := by decide +kernel
theorem dX7_assign_92 : decode cX7_assign 92 = .ok (.iload 4, 2) := by decide +kernel
theorem dX7_assign_94 : decode cX7_assign 94 = .ok (.ireturn, 1) := by decide +kernel
theorem dX7_reason_0 : decode cX7_reason 0 = .ok (.aload_n 0, 1) := by decide +kernel
theorem dX7_reason_1 : decode cX7_reason 1 = .ok (.getfield 12, 3) := by decide +kernel
theorem dX7_reason_4 : decode cX7_reason 4 = .ok (.iload_n 1, 1) := by decide +kernel
theorem dX7_reason_5 : decode cX7_reason 5 = .ok (.invokevirtual 103, 3) := by decide +kernel
theorem dX7_reason_8 : decode cX7_reason 8 = .ok (.ifCond .eq 14, 3) := by decide +kernel
theorem dX7_reason_11 : decode cX7_reason 11 = .ok (.iload_n 2, 1) := by decide +kernel
theorem dX7_reason_12 : decode cX7_reason 12 = .ok (.invokestatic 82, 3) := by decide +kernel
theorem dX7_reason_15 : decode cX7_reason 15 = .ok (.ifCond .eq 7, 3) := by decide +kernel
theorem dX7_reason_18 : decode cX7_reason 18 = .ok (.iconst 1, 1) := by decide +kernel
theorem dX7_reason_19 : decode cX7_reason 19 = .ok (.goto 4, 3) := by decide +kernel
theorem dX7_reason_22 : decode cX7_reason 22 = .ok (.iconst 0, 1) := by decide +kernel
theorem dX7_reason_23 : decode cX7_reason 23 = .ok (.invokestatic 64, 3) := by decide +kernel
theorem dX7_reason_26 : decode cX7_reason 26 = .ok (.aload_n 0, 1) := by decide +kernel
theorem dX7_reason_27 : decode cX7_reason 27 = .ok (.getfield 24, 3) := by decide +kernel
theorem dX7_reason_30 : decode cX7_reason 30 = .ok (.iload_n 1, 1) := by decide +kernel
theorem dX7_reason_31 : decode cX7_reason 31 = .ok (.iload_n 2, 1) := by decide +kernel
theorem dX7_reason_32 : decode cX7_reason 32 = .ok (.invokevirtual 184, 3) := by decide +kernel
theorem dX7_reason_35 : decode cX7_reason 35 = .ok (.ireturn, 1) := by decide +kernel
theorem dX7_whyNot_0 : decode cX7_whyNot 0 = .ok (.aload_n 0, 1) := by decide +kernel
theorem dX7_whyNot_1 : decode cX7_whyNot 1 = .ok (.getfield 191, 3) := by decide +kernel
theorem dX7_whyNot_4 : decode cX7_whyNot 4 = .ok (.ifCond .eq 7, 3) := by decide +kernel
theorem dX7_whyNot_7 : decode cX7_whyNot 7 = .ok (.iconst 1, 1) := by decide +kernel
theorem dX7_whyNot_8 : decode cX7_whyNot 8 = .ok (.goto 4, 3) := by decide +kernel
theorem dX7_whyNot_11 : decode cX7_whyNot 11 = .ok (.iconst 0, 1) := by decide +kernel
theorem dX7_whyNot_12 : decode cX7_whyNot 12 = .ok (.invokestatic 148, 3) := by decide +kernel
theorem dX7_whyNot_15 : decode cX7_whyNot 15 = .ok (.aload_n 0, 1) := by decide +kernel
theorem dX7_whyNot_16 : decode cX7_whyNot 16 = .ok (.getfield 191, 3) := by decide +kernel
theorem dX7_whyNot_19 : decode cX7_whyNot 19 = .ok (.ireturn, 1) := by decide +kernel
theorem dX7_station_0 : decode cX7_station 0 = .ok (.iload_n 1, 1) := by decide +kernel
theorem dX7_station_1 : decode cX7_station 1 = .ok (.invokestatic 82, 3) := by decide +kernel
theorem dX7_station_4 : decode cX7_station 4 = .ok (.invokestatic 64, 3) := by decide +kernel
theorem dX7_station_7 : decode cX7_station 7 = .ok (.iload_n 2, 1) := by decide +kernel
theorem dX7_station_8 : decode cX7_station 8 = .ok (.iconst 0, 1) := by decide +kernel
theorem dX7_station_9 : decode cX7_station 9 = .ok (.iconst 5, 1) := by decide +kernel
theorem dX7_station_10 : decode cX7_station 10 = .ok (.invokestatic 49, 3) := by decide +kernel
theorem dX7_station_13 : decode cX7_station 13 = .ok (.invokestatic 53, 3) := by decide +kernel
theorem dX7_station_16 : decode cX7_station 16 = .ok (.iload_n 2, 1) := by decide +kernel
theorem dX7_station_17 : decode cX7_station 17 = .ok (.tableswitch 93 0 4 #[35, 45, 55, 64, 81], 35) := by decide +kernel
theorem dX7_station_52 : decode cX7_station 52 = .ok (.aload_n 0, 1) := by decide +kernel
theorem dX7_station_53 : decode cX7_station 53 = .ok (.getfield 24, 3) := by decide +kernel
theorem dX7_station_56 : decode cX7_station 56 = .ok (.iload_n 1, 1) := by decide +kernel
theorem dX7_station_57 : decode cX7_station 57 = .ok (.iload_n 1, 1) := by decide +kernel
theorem dX7_station_58 : decode cX7_station 58 = .ok (.invokevirtual 194, 3) := by decide +kernel
theorem dX7_station_61 : decode cX7_station 61 = .ok (.ireturn, 1) := by decide +kernel
theorem dX7_station_62 : decode cX7_station 62 = .ok (.aload_n 0, 1) := by decide +kernel
theorem dX7_station_63 : decode cX7_station 63 = .ok (.getfield 12, 3) := by decide +kernel
theorem dX7_station_66 : decode cX7_station 66 = .ok (.getfield 86, 3) := by decide +kernel
theorem dX7_station_69 : decode cX7_station 69 = .ok (.iload_n 1, 1) := by decide +kernel
theorem dX7_station_70 : decode cX7_station 70 = .ok (.iaload, 1) := by decide +kernel
theorem dX7_station_71 : decode cX7_station 71 = .ok (.ireturn, 1) := by decide +kernel
theorem dX7_station_72 : decode cX7_station 72 = .ok (.aload_n 0, 1) := by decide +kernel
theorem dX7_station_73 : decode cX7_station 73 = .ok (.getfield 24, 3) := by decide +kernel
theorem dX7_station_76 : decode cX7_station 76 = .ok (.iload_n 1, 1) := by decide +kernel
theorem dX7_station_77 : decode cX7_station 77 = .ok (.invokevirtual 197, 3) := by decide +kernel
theorem dX7_station_80 : decode cX7_station 80 = .ok (.ireturn, 1) := by decide +kernel
theorem dX7_station_81 : decode cX7_station 81 = .ok (.aload_n 0, 1) := by decide +kernel
theorem dX7_station_82 : decode cX7_station 82 = .ok (.getfield 24, 3) := by decide +kernel
theorem dX7_station_85 : decode cX7_station 85 = .ok (.iload_n 1, 1) := by decide +kernel
theorem dX7_station_86 : decode cX7_station 86 = .ok (.invokevirtual 200, 3) := by decide +kernel
theorem dX7_station_89 : decode cX7_station 89 = .ok (.ifCond .eq 7, 3) := by decide +kernel
theorem dX7_station_92 : decode cX7_station 92 = .ok (.iconst 1, 1) := by decide +kernel
theorem dX7_station_93 : decode cX7_station 93 = .ok (.goto 4, 3) := by decide +kernel
theorem dX7_station_96 : decode cX7_station 96 = .ok (.iconst 0, 1) := by decide +kernel
theorem dX7_station_97 : decode cX7_station 97 = .ok (.ireturn, 1) := by decide +kernel
theorem dX7_station_98 : decode cX7_station 98 = .ok (.aload_n 0, 1) := by decide +kernel
theorem dX7_station_99 : decode cX7_station 99 = .ok (.getfield 24, 3) := by decide +kernel
theorem dX7_station_102 : decode cX7_station 102 = .ok (.iload_n 1, 1) := by decide +kernel
theorem dX7_station_103 : decode cX7_station 103 = .ok (.invokevirtual 203, 3) := by decide +kernel
theorem dX7_station_106 : decode cX7_station 106 = .ok (.getfield 207, 3) := by decide +kernel
theorem dX7_station_109 : decode cX7_station 109 = .ok (.ireturn, 1) := by decide +kernel
theorem dX7_station_110 : decode cX7_station 110 = .ok (.aload_n 0, 1) := by decide +kernel
theorem dX7_station_111 : decode cX7_station 111 = .ok (.getfield 24, 3) := by decide +kernel
theorem dX7_station_114 : decode cX7_station 114 = .ok (.iload_n 1, 1) := by decide +kernel
theorem dX7_station_115 : decode cX7_station 115 = .ok (.invokevirtual 211, 3) := by decide +kernel
theorem dX7_station_118 : decode cX7_station 118 = .ok (.ireturn, 1) := by decide +kernel
theorem dX7_time_0 : decode cX7_time 0 = .ok (.iload_n 1, 1) := by decide +kernel
theorem dX7_time_1 : decode cX7_time 1 = .ok (.invokestatic 82, 3) := by decide +kernel
theorem dX7_time_4 : decode cX7_time 4 = .ok (.ifCond .eq 24, 3) := by decide +kernel
theorem dX7_time_7 : decode cX7_time 7 = .ok (.iload_n 2, 1) := by decide +kernel
theorem dX7_time_8 : decode cX7_time 8 = .ok (.iconst 0, 1) := by decide +kernel
theorem dX7_time_9 : decode cX7_time 9 = .ok (.aload_n 0, 1) := by decide +kernel
theorem dX7_time_10 : decode cX7_time 10 = .ok (.getfield 12, 3) := by decide +kernel
theorem dX7_time_13 : decode cX7_time 13 = .ok (.getfield 60, 3) := by decide +kernel
theorem dX7_time_16 : decode cX7_time 16 = .ok (.iconst 1, 1) := by decide +kernel
theorem dX7_time_17 : decode cX7_time 17 = .ok (.isub, 1) := by decide +kernel
theorem dX7_time_18 : decode cX7_time 18 = .ok (.invokestatic 49, 3) := by decide +kernel
theorem dX7_time_21 : decode cX7_time 21 = .ok (.ifCond .eq 7, 3) := by decide +kernel
theorem dX7_time_24 : decode cX7_time 24 = .ok (.iconst 1, 1) := by decide +kernel
theorem dX7_time_25 : decode cX7_time 25 = .ok (.goto 4, 3) := by decide +kernel
theorem dX7_time_28 : decode cX7_time 28 = .ok (.iconst 0, 1) := by decide +kernel
theorem dX7_time_29 : decode cX7_time 29 = .ok (.invokestatic 64, 3) := by decide +kernel
theorem dX7_time_32 : decode cX7_time 32 = .ok (.aload_n 0, 1) := by decide +kernel
theorem dX7_time_33 : decode cX7_time 33 = .ok (.getfield 24, 3) := by decide +kernel
theorem dX7_time_36 : decode cX7_time 36 = .ok (.iload_n 1, 1) := by decide +kernel
theorem dX7_time_37 : decode cX7_time 37 = .ok (.invokevirtual 203, 3) := by decide +kernel
theorem dX7_time_40 : decode cX7_time 40 = .ok (.astore 4, 2) := by decide +kernel
theorem dX7_time_42 : decode cX7_time 42 = .ok (.iload_n 3, 1) := by decide +kernel
theorem dX7_time_43 : decode cX7_time 43 = .ok (.ifCond .eq 13, 3) := by decide +kernel
theorem dX7_time_46 : decode cX7_time 46 = .ok (.aload 4, 2) := by decide +kernel
theorem dX7_time_48 : decode cX7_time 48 = .ok (.getfield 214, 3) := by decide +kernel
theorem dX7_time_51 : decode cX7_time 51 = .ok (.iload_n 2, 1) := by decide +kernel
theorem dX7_time_52 : decode cX7_time 52 = .ok (.iaload, 1) := by decide +kernel
theorem dX7_time_53 : decode cX7_time 53 = .ok (.goto 10, 3) := by decide +kernel
theorem dX7_time_56 : decode cX7_time 56 = .ok (.aload 4, 2) := by decide +kernel
theorem dX7_time_58 : decode cX7_time 58 = .ok (.getfield 217, 3) := by decide +kernel
theorem dX7_time_61 : decode cX7_time 61 = .ok (.iload_n 2, 1) := by decide +kernel
theorem dX7_time_62 : decode cX7_time 62 = .ok (.iaload, 1) := by decide +kernel
theorem dX7_time_63 : decode cX7_time 63 = .ok (.ireturn, 1) := by decide +kernel
theorem dX7_sequence_0 : decode cX7_sequence 0 = .ok (.iload_n 1, 1) := by decide +kernel
theorem dX7_sequence_1 : decode cX7_sequence 1 = .ok (.invokestatic 82, 3) := by decide +kernel
theorem dX7_sequence_4 : decode cX7_sequence 4 = .ok (.invokestatic 64, 3) := by decide +kernel
theorem dX7_sequence_7 : decode cX7_sequence 7 = .ok (.aload_n 0, 1) := by decide +kernel
theorem dX7_sequence_8 : decode cX7_sequence 8 = .ok (.getfield 24, 3) := by decide +kernel
theorem dX7_sequence_11 : decode cX7_sequence 11 = .ok (.iload_n 1, 1) := by decide +kernel
theorem dX7_sequence_12 : decode cX7_sequence 12 = .ok (.invokevirtual 203, 3) := by decide +kernel
theorem dX7_sequence_15 : decode cX7_sequence 15 = .ok (.astore_n 3, 1) := by decide +kernel
theorem dX7_sequence_16 : decode cX7_sequence 16 = .ok (.iload_n 2, 1) := by decide +kernel
theorem dX7_sequence_17 : decode cX7_sequence 17 = .ok (.iconst 0, 1) := by decide +kernel
theorem dX7_sequence_18 : decode cX7_sequence 18 = .ok (.aload_n 3, 1) := by decide +kernel
theorem dX7_sequence_19 : decode cX7_sequence 19 = .ok (.getfield 218, 3) := by decide +kernel
theorem dX7_sequence_22 : decode cX7_sequence 22 = .ok (.iconst 1, 1) := by decide +kernel
theorem dX7_sequence_23 : decode cX7_sequence 23 = .ok (.isub, 1) := by decide +kernel
theorem dX7_sequence_24 : decode cX7_sequence 24 = .ok (.invokestatic 49, 3) := by decide +kernel
theorem dX7_sequence_27 : decode cX7_sequence 27 = .ok (.invokestatic 148, 3) := by decide +kernel
theorem dX7_sequence_30 : decode cX7_sequence 30 = .ok (.aload_n 3, 1) := by decide +kernel
theorem dX7_sequence_31 : decode cX7_sequence 31 = .ok (.getfield 221, 3) := by decide +kernel
theorem dX7_sequence_34 : decode cX7_sequence 34 = .ok (.iload_n 2, 1) := by decide +kernel
theorem dX7_sequence_35 : decode cX7_sequence 35 = .ok (.iaload, 1) := by decide +kernel
theorem dX7_sequence_36 : decode cX7_sequence 36 = .ok (.ireturn, 1) := by decide +kernel
theorem dX7_line_0 : decode cX7_line 0 = .ok (.iload_n 1, 1) := by decide +kernel
theorem dX7_line_1 : decode cX7_line 1 = .ok (.iconst 0, 1) := by decide +kernel
theorem dX7_line_2 : decode cX7_line 2 = .ok (.bipush 7, 2) := by decide +kernel
theorem dX7_line_4 : decode cX7_line 4 = .ok (.invokestatic 49, 3) := by decide +kernel
theorem dX7_line_7 : decode cX7_line 7 = .ok (.invokestatic 53, 3) := by decide +kernel
theorem dX7_line_10 : decode cX7_line 10 = .ok (.iload_n 1, 1) := by decide +kernel
theorem dX7_line_11 : decode cX7_line 11 = .ok (.tableswitch 100 0 6 #[41, 49, 57, 68, 76, 84, 92], 41) := by decide +kernel
theorem dX7_line_52 : decode cX7_line 52 = .ok (.aload_n 0, 1) := by decide +kernel
theorem dX7_line_53 : decode cX7_line 53 = .ok (.getfield 24, 3) := by decide +kernel
theorem dX7_line_56 : decode cX7_line 56 = .ok (.invokevirtual 224, 3) := by decide +kernel
theorem dX7_line_59 : decode cX7_line 59 = .ok (.ireturn, 1) := by decide +kernel
theorem dX7_line_60 : decode cX7_line 60 = .ok (.aload_n 0, 1) := by decide +kernel
theorem dX7_line_61 : decode cX7_line 61 = .ok (.getfield 24, 3) := by decide +kernel
theorem dX7_line_64 : decode cX7_line 64 = .ok (.invokevirtual 227, 3) := by decide +kernel
theorem dX7_line_67 : decode cX7_line 67 = .ok (.ireturn, 1) := by decide +kernel
theorem dX7_line_68 : decode cX7_line 68 = .ok (.aload_n 0, 1) := by decide +kernel
theorem dX7_line_69 : decode cX7_line 69 = .ok (.getfield 24, 3) := by decide +kernel
theorem dX7_line_72 : decode cX7_line 72 = .ok (.invokevirtual 230, 3) := by decide +kernel
theorem dX7_line_75 : decode cX7_line 75 = .ok (.invokestatic 134, 3) := by decide +kernel
theorem dX7_line_78 : decode cX7_line 78 = .ok (.ireturn, 1) := by decide +kernel
theorem dX7_line_79 : decode cX7_line 79 = .ok (.aload_n 0, 1) := by decide +kernel
theorem dX7_line_80 : decode cX7_line 80 = .ok (.getfield 24, 3) := by decide +kernel
theorem dX7_line_83 : decode cX7_line 83 = .ok (.invokevirtual 233, 3) := by decide +kernel
theorem dX7_line_86 : decode cX7_line 86 = .ok (.ireturn, 1) := by decide +kernel
theorem dX7_line_87 : decode cX7_line 87 = .ok (.aload_n 0, 1) := by decide +kernel
theorem dX7_line_88 : decode cX7_line 88 = .ok (.getfield 24, 3) := by decide +kernel
theorem dX7_line_91 : decode cX7_line 91 = .ok (.invokevirtual 236, 3) := by decide +kernel
theorem dX7_line_94 : decode cX7_line 94 = .ok (.ireturn, 1) := by decide +kernel
theorem dX7_line_95 : decode cX7_line 95 = .ok (.aload_n 0, 1) := by decide +kernel
theorem dX7_line_96 : decode cX7_line 96 = .ok (.getfield 24, 3) := by decide +kernel
theorem dX7_line_99 : decode cX7_line 99 = .ok (.invokevirtual 239, 3) := by decide +kernel
theorem dX7_line_102 : decode cX7_line 102 = .ok (.ireturn, 1) := by decide +kernel
theorem dX7_line_103 : decode cX7_line 103 = .ok (.aload_n 0, 1) := by decide +kernel
theorem dX7_line_104 : decode cX7_line 104 = .ok (.getfield 24, 3) := by decide +kernel
theorem dX7_line_107 : decode cX7_line 107 = .ok (.invokevirtual 242, 3) := by decide +kernel
theorem dX7_line_110 : decode cX7_line 110 = .ok (.ireturn, 1) := by decide +kernel
theorem dX7_line_111 : decode cX7_line 111 = .ok (.aload_n 0, 1) := by decide +kernel
theorem dX7_line_112 : decode cX7_line 112 = .ok (.getfield 12, 3) := by decide +kernel
theorem dX7_line_115 : decode cX7_line 115 = .ok (.sipush 4095, 3) := by decide +kernel
theorem dX7_line_118 : decode cX7_line 118 = .ok (.invokevirtual 245, 3) := by decide +kernel
theorem dX7_line_121 : decode cX7_line 121 = .ok (.aload_n 0, 1) := by decide +kernel
theorem dX7_line_122 : decode cX7_line 122 = .ok (.getfield 12, 3) := by decide +kernel
theorem dX7_line_125 : decode cX7_line 125 = .ok (.iconst 1, 1) := by decide +kernel
theorem dX7_line_126 : decode cX7_line 126 = .ok (.invokevirtual 248, 3) := by decide +kernel
theorem dX7_line_129 : decode cX7_line 129 = .ok (.invokestatic 251, 3) := by decide +kernel
theorem dX7_line_132 : decode cX7_line 132 = .ok (.ireturn, 1) := by decide +kernel
theorem dX7_efficiency_0 : decode cX7_efficiency 0 = .ok (.aload_n 0, 1) := by decide +kernel
theorem dX7_efficiency_1 : decode cX7_efficiency 1 = .ok (.getfield 12, 3) := by decide +kernel
theorem dX7_efficiency_4 : decode cX7_efficiency 4 = .ok (.aload_n 0, 1) := by decide +kernel
theorem dX7_efficiency_5 : decode cX7_efficiency 5 = .ok (.getfield 24, 3) := by decide +kernel
theorem dX7_efficiency_8 : decode cX7_efficiency 8 = .ok (.invokevirtual 227, 3) := by decide +kernel
theorem dX7_efficiency_11 : decode cX7_efficiency 11 = .ok (.invokevirtual 248, 3) := by decide +kernel
theorem dX7_efficiency_14 : decode cX7_efficiency 14 = .ok (.istore_n 1, 1) := by decide +kernel
theorem dX7_efficiency_15 : decode cX7_efficiency 15 = .ok (.iload_n 1, 1) := by decide +kernel
theorem dX7_efficiency_16 : decode cX7_efficiency 16 = .ok (.ifCond .gt 14, 3) := by decide +kernel
theorem dX7_efficiency_19 : decode cX7_efficiency 19 = .ok (.new 254, 3) := by decide +kernel
theorem dX7_efficiency_22 : decode cX7_efficiency 22 = .ok (.dup, 1) := by decide +kernel
theorem dX7_efficiency_23 : decode cX7_efficiency 23 = .ok (.ldc_w 256, 3) := by decide +kernel
theorem dX7_efficiency_26 : decode cX7_efficiency 26 = .ok (.invokespecial 258, 3) := by decide +kernel
theorem dX7_efficiency_29 : decode cX7_efficiency 29 = .ok (.athrow, 1) := by decide +kernel
theorem dX7_efficiency_30 : decode cX7_efficiency 30 = .ok (.aload_n 0, 1) := by decide +kernel
theorem dX7_efficiency_31 : decode cX7_efficiency 31 = .ok (.getfield 12, 3) := by decide +kernel
theorem dX7_efficiency_34 : decode cX7_efficiency 34 = .ok (.aload_n 0, 1) := by decide +kernel
theorem dX7_efficiency_35 : decode cX7_efficiency 35 = .ok (.getfield 24, 3) := by decide +kernel
theorem dX7_efficiency_38 : decode cX7_efficiency 38 = .ok (.invokevirtual 230, 3) := by decide +kernel
theorem dX7_efficiency_41 : decode cX7_efficiency 41 = .ok (.invokevirtual 245, 3) := by decide +kernel
theorem dX7_efficiency_44 : decode cX7_efficiency 44 = .ok (.i2f, 1) := by decide +kernel
theorem dX7_efficiency_45 : decode cX7_efficiency 45 = .ok (.iload_n 1, 1) := by decide +kernel
theorem dX7_efficiency_46 : decode cX7_efficiency 46 = .ok (.i2f, 1) := by decide +kernel
theorem dX7_efficiency_47 : decode cX7_efficiency 47 = .ok (.fdiv, 1) := by decide +kernel
theorem dX7_efficiency_48 : decode cX7_efficiency 48 = .ok (.freturn, 1) := by decide +kernel
theorem dX7_unevenness_0 : decode cX7_unevenness 0 = .ok (.aload_n 0, 1) := by decide +kernel
theorem dX7_unevenness_1 : decode cX7_unevenness 1 = .ok (.getfield 24, 3) := by decide +kernel
theorem dX7_unevenness_4 : decode cX7_unevenness 4 = .ok (.invokevirtual 261, 3) := by decide +kernel
theorem dX7_unevenness_7 : decode cX7_unevenness 7 = .ok (.lreturn, 1) := by decide +kernel
theorem dX7_clearLine_0 : decode cX7_clearLine 0 = .ok (.aload_n 0, 1) := by decide +kernel
theorem dX7_clearLine_1 : decode cX7_clearLine 1 = .ok (.invokevirtual 57, 3) := by decide +kernel
theorem dX7_clearLine_4 : decode cX7_clearLine 4 = .ok (.aload_n 0, 1) := by decide +kernel
theorem dX7_clearLine_5 : decode cX7_clearLine 5 = .ok (.getfield 24, 3) := by decide +kernel
theorem dX7_clearLine_8 : decode cX7_clearLine 8 = .ok (.invokevirtual 230, 3) := by decide +kernel
theorem dX7_clearLine_11 : decode cX7_clearLine 11 = .ok (.invokestatic 134, 3) := by decide +kernel
theorem dX7_clearLine_14 : decode cX7_clearLine 14 = .ok (.istore_n 1, 1) := by decide +kernel
theorem dX7_clearLine_15 : decode cX7_clearLine 15 = .ok (.aload_n 0, 1) := by decide +kernel
theorem dX7_clearLine_16 : decode cX7_clearLine 16 = .ok (.getfield 12, 3) := by decide +kernel
theorem dX7_clearLine_19 : decode cX7_clearLine 19 = .ok (.invokevirtual 265, 3) := by decide +kernel
theorem dX7_clearLine_22 : decode cX7_clearLine 22 = .ok (.iload_n 1, 1) := by decide +kernel
theorem dX7_clearLine_23 : decode cX7_clearLine 23 = .ok (.ireturn, 1) := by decide +kernel
theorem dX7_fill_0 : decode cX7_fill 0 = .ok (.iload_n 1, 1) := by decide +kernel
theorem dX7_fill_1 : decode cX7_fill 1 = .ok (.invokestatic 178, 3) := by decide +kernel
theorem dX7_fill_4 : decode cX7_fill 4 = .ok (.invokestatic 53, 3) := by decide +kernel
theorem dX7_fill_7 : decode cX7_fill 7 = .ok (.aload_n 0, 1) := by decide +kernel
theorem dX7_fill_8 : decode cX7_fill 8 = .ok (.getfield 38, 3) := by decide +kernel
theorem dX7_fill_11 : decode cX7_fill 11 = .ok (.aload_n 0, 1) := by decide +kernel
theorem dX7_fill_12 : decode cX7_fill 12 = .ok (.getfield 12, 3) := by decide +kernel
theorem dX7_fill_15 : decode cX7_fill 15 = .ok (.invokevirtual 268, 3) := by decide +kernel
theorem dX7_fill_18 : decode cX7_fill 18 = .ok (.aload_n 0, 1) := by decide +kernel
theorem dX7_fill_19 : decode cX7_fill 19 = .ok (.getfield 24, 3) := by decide +kernel
theorem dX7_fill_22 : decode cX7_fill 22 = .ok (.iload_n 1, 1) := by decide +kernel
theorem dX7_fill_23 : decode cX7_fill 23 = .ok (.invokevirtual 271, 3) := by decide +kernel
theorem dX7_fill_26 : decode cX7_fill 26 = .ok (.istore_n 2, 1) := by decide +kernel
theorem dX7_fill_27 : decode cX7_fill 27 = .ok (.iload_n 2, 1) := by decide +kernel
theorem dX7_fill_28 : decode cX7_fill 28 = .ok (.ifCond .eq 14, 3) := by decide +kernel
theorem dX7_fill_31 : decode cX7_fill 31 = .ok (.aload_n 0, 1) := by decide +kernel
theorem dX7_fill_32 : decode cX7_fill 32 = .ok (.getfield 38, 3) := by decide +kernel
theorem dX7_fill_35 : decode cX7_fill 35 = .ok (.aload_n 0, 1) := by decide +kernel
theorem dX7_fill_36 : decode cX7_fill 36 = .ok (.getfield 12, 3) := by decide +kernel
theorem dX7_fill_39 : decode cX7_fill 39 = .ok (.invokevirtual 274, 3) := by decide +kernel
theorem dX7_fill_42 : decode cX7_fill 42 = .ok (.aload_n 0, 1) := by decide +kernel
theorem dX7_fill_43 : decode cX7_fill 43 = .ok (.iload_n 2, 1) := by decide +kernel
theorem dX7_fill_44 : decode cX7_fill 44 = .ok (.invokevirtual 187, 3) := by decide +kernel
theorem dX7_fill_47 : decode cX7_fill 47 = .ok (.iload_n 2, 1) := by decide +kernel
theorem dX7_fill_48 : decode cX7_fill 48 = .ok (.ifCond .ne 7, 3) := by decide +kernel
theorem dX7_fill_51 : decode cX7_fill 51 = .ok (.iconst 1, 1) := by decide +kernel
theorem dX7_fill_52 : decode cX7_fill 52 = .ok (.goto 4, 3) := by decide +kernel
theorem dX7_fill_55 : decode cX7_fill 55 = .ok (.iconst 0, 1) := by decide +kernel
theorem dX7_fill_56 : decode cX7_fill 56 = .ok (.invokestatic 124, 3) := by decide +kernel
theorem dX7_fill_59 : decode cX7_fill 59 = .ok (.aload_n 0, 1) := by decide +kernel
theorem dX7_fill_60 : decode cX7_fill 60 = .ok (.getfield 38, 3) := by decide +kernel
theorem dX7_fill_63 : decode cX7_fill 63 = .ok (.invokevirtual 277, 3) := by decide +kernel
theorem dX7_fill_66 : decode cX7_fill 66 = .ok (.aload_n 0, 1) := by decide +kernel
theorem dX7_fill_67 : decode cX7_fill 67 = .ok (.getfield 24, 3) := by decide +kernel
theorem dX7_fill_70 : decode cX7_fill 70 = .ok (.invokevirtual 224, 3) := by decide +kernel
theorem dX7_fill_73 : decode cX7_fill 73 = .ok (.ireturn, 1) := by decide +kernel
theorem dX7_least_0 : decode cX7_least 0 = .ok (.aload_n 0, 1) := by decide +kernel
theorem dX7_least_1 : decode cX7_least 1 = .ok (.getfield 12, 3) := by decide +kernel
theorem dX7_least_4 : decode cX7_least 4 = .ok (.getfield 93, 3) := by decide +kernel
theorem dX7_least_7 : decode cX7_least 7 = .ok (.bipush 8, 2) := by decide +kernel
theorem dX7_least_9 : decode cX7_least 9 = .ok (.if_icmp .gt 7, 3) := by decide +kernel
theorem dX7_least_12 : decode cX7_least 12 = .ok (.iconst 1, 1) := by decide +kernel
theorem dX7_least_13 : decode cX7_least 13 = .ok (.goto 4, 3) := by decide +kernel
theorem dX7_least_16 : decode cX7_least 16 = .ok (.iconst 0, 1) := by decide +kernel
theorem dX7_least_17 : decode cX7_least 17 = .ok (.invokestatic 96, 3) := by decide +kernel
theorem dX7_least_20 : decode cX7_least 20 = .ok (.aload_n 0, 1) := by decide +kernel
theorem dX7_least_21 : decode cX7_least 21 = .ok (.getfield 31, 3) := by decide +kernel
theorem dX7_least_24 : decode cX7_least 24 = .ok (.invokevirtual 280, 3) := by decide +kernel
theorem dX7_least_27 : decode cX7_least 27 = .ok (.istore_n 1, 1) := by decide +kernel
theorem dX7_least_28 : decode cX7_least 28 = .ok (.iload_n 1, 1) := by decide +kernel
theorem dX7_least_29 : decode cX7_least 29 = .ok (.ifCond .lt 7, 3) := by decide +kernel
theorem dX7_least_32 : decode cX7_least 32 = .ok (.iconst 1, 1) := by decide +kernel
theorem dX7_least_33 : decode cX7_least 33 = .ok (.goto 4, 3) := by decide +kernel
theorem dX7_least_36 : decode cX7_least 36 = .ok (.iconst 0, 1) := by decide +kernel
theorem dX7_least_37 : decode cX7_least 37 = .ok (.invokestatic 148, 3) := by decide +kernel
theorem dX7_least_40 : decode cX7_least 40 = .ok (.iload_n 1, 1) := by decide +kernel
theorem dX7_least_41 : decode cX7_least 41 = .ok (.ireturn, 1) := by decide +kernel
theorem dX7_ways_0 : decode cX7_ways 0 = .ok (.iload_n 1, 1) := by decide +kernel
theorem dX7_ways_1 : decode cX7_ways 1 = .ok (.iconst 0, 1) := by decide +kernel
theorem dX7_ways_2 : decode cX7_ways 2 = .ok (.bipush 8, 2) := by decide +kernel
theorem dX7_ways_4 : decode cX7_ways 4 = .ok (.invokestatic 49, 3) := by decide +kernel
theorem dX7_ways_7 : decode cX7_ways 7 = .ok (.invokestatic 53, 3) := by decide +kernel
theorem dX7_ways_10 : decode cX7_ways 10 = .ok (.aload_n 0, 1) := by decide +kernel
theorem dX7_ways_11 : decode cX7_ways 11 = .ok (.getfield 12, 3) := by decide +kernel
theorem dX7_ways_14 : decode cX7_ways 14 = .ok (.getfield 93, 3) := by decide +kernel
theorem dX7_ways_17 : decode cX7_ways 17 = .ok (.bipush 8, 2) := by decide +kernel
theorem dX7_ways_19 : decode cX7_ways 19 = .ok (.if_icmp .gt 7, 3) := by decide +kernel
theorem dX7_ways_22 : decode cX7_ways 22 = .ok (.iconst 1, 1) := by decide +kernel
theorem dX7_ways_23 : decode cX7_ways 23 = .ok (.goto 4, 3) := by decide +kernel
theorem dX7_ways_26 : decode cX7_ways 26 = .ok (.iconst 0, 1) := by decide +kernel
theorem dX7_ways_27 : decode cX7_ways 27 = .ok (.invokestatic 96, 3) := by decide +kernel
theorem dX7_ways_30 : decode cX7_ways 30 = .ok (.aload_n 0, 1) := by decide +kernel
theorem dX7_ways_31 : decode cX7_ways 31 = .ok (.getfield 31, 3) := by decide +kernel
theorem dX7_ways_34 : decode cX7_ways 34 = .ok (.iload_n 1, 1) := by decide +kernel
theorem dX7_ways_35 : decode cX7_ways 35 = .ok (.invokevirtual 283, 3) := by decide +kernel
theorem dX7_ways_38 : decode cX7_ways 38 = .ok (.lreturn, 1) := by decide +kernel
theorem dX7_takeLeast_0 : decode cX7_takeLeast 0 = .ok (.aload_n 0, 1) := by decide +kernel
theorem dX7_takeLeast_1 : decode cX7_takeLeast 1 = .ok (.getfield 12, 3) := by decide +kernel
theorem dX7_takeLeast_4 : decode cX7_takeLeast 4 = .ok (.getfield 93, 3) := by decide +kernel
theorem dX7_takeLeast_7 : decode cX7_takeLeast 7 = .ok (.bipush 8, 2) := by decide +kernel
theorem dX7_takeLeast_9 : decode cX7_takeLeast 9 = .ok (.if_icmp .gt 7, 3) := by decide +kernel
theorem dX7_takeLeast_12 : decode cX7_takeLeast 12 = .ok (.iconst 1, 1) := by decide +kernel
theorem dX7_takeLeast_13 : decode cX7_takeLeast 13 = .ok (.goto 4, 3) := by decide +kernel
theorem dX7_takeLeast_16 : decode cX7_takeLeast 16 = .ok (.iconst 0, 1) := by decide +kernel
theorem dX7_takeLeast_17 : decode cX7_takeLeast 17 = .ok (.invokestatic 96, 3) := by decide +kernel
theorem dX7_takeLeast_20 : decode cX7_takeLeast 20 = .ok (.aload_n 0, 1) := by decide +kernel
theorem dX7_takeLeast_21 : decode cX7_takeLeast 21 = .ok (.getfield 31, 3) := by decide +kernel
theorem dX7_takeLeast_24 : decode cX7_takeLeast 24 = .ok (.invokevirtual 280, 3) := by decide +kernel
theorem dX7_takeLeast_27 : decode cX7_takeLeast 27 = .ok (.ifCond .lt 7, 3) := by decide +kernel
theorem dX7_takeLeast_30 : decode cX7_takeLeast 30 = .ok (.iconst 1, 1) := by decide +kernel
theorem dX7_takeLeast_31 : decode cX7_takeLeast 31 = .ok (.goto 4, 3) := by decide +kernel
theorem dX7_takeLeast_34 : decode cX7_takeLeast 34 = .ok (.iconst 0, 1) := by decide +kernel
theorem dX7_takeLeast_35 : decode cX7_takeLeast 35 = .ok (.invokestatic 148, 3) := by decide +kernel
theorem dX7_takeLeast_38 : decode cX7_takeLeast 38 = .ok (.aload_n 0, 1) := by decide +kernel
theorem dX7_takeLeast_39 : decode cX7_takeLeast 39 = .ok (.invokevirtual 57, 3) := by decide +kernel
theorem dX7_takeLeast_42 : decode cX7_takeLeast 42 = .ok (.iconst 0, 1) := by decide +kernel
theorem dX7_takeLeast_43 : decode cX7_takeLeast 43 = .ok (.istore_n 1, 1) := by decide +kernel
theorem dX7_takeLeast_44 : decode cX7_takeLeast 44 = .ok (.iconst 0, 1) := by decide +kernel
theorem dX7_takeLeast_45 : decode cX7_takeLeast 45 = .ok (.istore_n 2, 1) := by decide +kernel
theorem dX7_takeLeast_46 : decode cX7_takeLeast 46 = .ok (.iload_n 2, 1) := by decide +kernel
theorem dX7_takeLeast_47 : decode cX7_takeLeast 47 = .ok (.aload_n 0, 1) := by decide +kernel
theorem dX7_takeLeast_48 : decode cX7_takeLeast 48 = .ok (.getfield 12, 3) := by decide +kernel
theorem dX7_takeLeast_51 : decode cX7_takeLeast 51 = .ok (.getfield 93, 3) := by decide +kernel
theorem dX7_takeLeast_54 : decode cX7_takeLeast 54 = .ok (.if_icmp .ge 49, 3) := by decide +kernel
theorem dX7_takeLeast_57 : decode cX7_takeLeast 57 = .ok (.aload_n 0, 1) := by decide +kernel
theorem dX7_takeLeast_58 : decode cX7_takeLeast 58 = .ok (.getfield 31, 3) := by decide +kernel
theorem dX7_takeLeast_61 : decode cX7_takeLeast 61 = .ok (.iload_n 2, 1) := by decide +kernel
theorem dX7_takeLeast_62 : decode cX7_takeLeast 62 = .ok (.invokevirtual 287, 3) := by decide +kernel
theorem dX7_takeLeast_65 : decode cX7_takeLeast 65 = .ok (.istore_n 3, 1) := by decide +kernel
theorem dX7_takeLeast_66 : decode cX7_takeLeast 66 = .ok (.iload_n 1, 1) := by decide +kernel
theorem dX7_takeLeast_67 : decode cX7_takeLeast 67 = .ok (.aload_n 0, 1) := by decide +kernel
theorem dX7_takeLeast_68 : decode cX7_takeLeast 68 = .ok (.getfield 12, 3) := by decide +kernel
theorem dX7_takeLeast_71 : decode cX7_takeLeast 71 = .ok (.getfield 160, 3) := by decide +kernel
theorem dX7_takeLeast_74 : decode cX7_takeLeast 74 = .ok (.iload_n 2, 1) := by decide +kernel
theorem dX7_takeLeast_75 : decode cX7_takeLeast 75 = .ok (.iaload, 1) := by decide +kernel
theorem dX7_takeLeast_76 : decode cX7_takeLeast 76 = .ok (.iload_n 3, 1) := by decide +kernel
theorem dX7_takeLeast_77 : decode cX7_takeLeast 77 = .ok (.if_icmp .ne 7, 3) := by decide +kernel
theorem dX7_takeLeast_80 : decode cX7_takeLeast 80 = .ok (.iconst 0, 1) := by decide +kernel
theorem dX7_takeLeast_81 : decode cX7_takeLeast 81 = .ok (.goto 4, 3) := by decide +kernel
theorem dX7_takeLeast_84 : decode cX7_takeLeast 84 = .ok (.iconst 1, 1) := by decide +kernel
theorem dX7_takeLeast_85 : decode cX7_takeLeast 85 = .ok (.iadd, 1) := by decide +kernel
theorem dX7_takeLeast_86 : decode cX7_takeLeast 86 = .ok (.istore_n 1, 1) := by decide +kernel
theorem dX7_takeLeast_87 : decode cX7_takeLeast 87 = .ok (.aload_n 0, 1) := by decide +kernel
theorem dX7_takeLeast_88 : decode cX7_takeLeast 88 = .ok (.getfield 12, 3) := by decide +kernel
theorem dX7_takeLeast_91 : decode cX7_takeLeast 91 = .ok (.getfield 160, 3) := by decide +kernel
theorem dX7_takeLeast_94 : decode cX7_takeLeast 94 = .ok (.iload_n 2, 1) := by decide +kernel
theorem dX7_takeLeast_95 : decode cX7_takeLeast 95 = .ok (.iload_n 3, 1) := by decide +kernel
theorem dX7_takeLeast_96 : decode cX7_takeLeast 96 = .ok (.iastore, 1) := by decide +kernel
theorem dX7_takeLeast_97 : decode cX7_takeLeast 97 = .ok (.iinc 2 1, 3) := by decide +kernel
theorem dX7_takeLeast_100 : decode cX7_takeLeast 100 = .ok (.goto (-54), 3) := by decide +kernel
theorem dX7_takeLeast_103 : decode cX7_takeLeast 103 = .ok (.iload_n 1, 1) := by decide +kernel
theorem dX7_takeLeast_104 : decode cX7_takeLeast 104 = .ok (.ireturn, 1) := by decide +kernel
theorem dX7_feed_0 : decode cX7_feed 0 = .ok (.aload_n 0, 1) := by decide +kernel
theorem dX7_feed_1 : decode cX7_feed 1 = .ok (.getfield 45, 3) := by decide +kernel
theorem dX7_feed_4 : decode cX7_feed 4 = .ok (.getfield 290, 3) := by decide +kernel
theorem dX7_feed_7 : decode cX7_feed 7 = .ok (.bipush 80, 2) := by decide +kernel
theorem dX7_feed_9 : decode cX7_feed 9 = .ok (.if_icmp .ge 7, 3) := by decide +kernel
theorem dX7_feed_12 : decode cX7_feed 12 = .ok (.iconst 1, 1) := by decide +kernel
theorem dX7_feed_13 : decode cX7_feed 13 = .ok (.goto 4, 3) := by decide +kernel
theorem dX7_feed_16 : decode cX7_feed 16 = .ok (.iconst 0, 1) := by decide +kernel
theorem dX7_feed_17 : decode cX7_feed 17 = .ok (.invokestatic 96, 3) := by decide +kernel
theorem dX7_feed_20 : decode cX7_feed 20 = .ok (.aload_n 0, 1) := by decide +kernel
theorem dX7_feed_21 : decode cX7_feed 21 = .ok (.getfield 45, 3) := by decide +kernel
theorem dX7_feed_24 : decode cX7_feed 24 = .ok (.iload_n 1, 1) := by decide +kernel
theorem dX7_feed_25 : decode cX7_feed 25 = .ok (.invokevirtual 293, 3) := by decide +kernel
theorem dX7_feed_28 : decode cX7_feed 28 = .ok (.aload_n 0, 1) := by decide +kernel
theorem dX7_feed_29 : decode cX7_feed 29 = .ok (.getfield 45, 3) := by decide +kernel
theorem dX7_feed_32 : decode cX7_feed 32 = .ok (.getfield 290, 3) := by decide +kernel
theorem dX7_feed_35 : decode cX7_feed 35 = .ok (.ireturn, 1) := by decide +kernel
theorem dX7_read_0 : decode cX7_read 0 = .ok (.aload_n 0, 1) := by decide +kernel
theorem dX7_read_1 : decode cX7_read 1 = .ok (.getfield 45, 3) := by decide +kernel
theorem dX7_read_4 : decode cX7_read 4 = .ok (.invokevirtual 296, 3) := by decide +kernel
theorem dX7_read_7 : decode cX7_read 7 = .ok (.istore_n 1, 1) := by decide +kernel
theorem dX7_read_8 : decode cX7_read 8 = .ok (.iload_n 1, 1) := by decide +kernel
theorem dX7_read_9 : decode cX7_read 9 = .ok (.ifCond .lt 15, 3) := by decide +kernel
theorem dX7_read_12 : decode cX7_read 12 = .ok (.aload_n 0, 1) := by decide +kernel
theorem dX7_read_13 : decode cX7_read 13 = .ok (.getfield 45, 3) := by decide +kernel
theorem dX7_read_16 : decode cX7_read 16 = .ok (.invokevirtual 299, 3) := by decide +kernel
theorem dX7_read_19 : decode cX7_read 19 = .ok (.bipush (-100), 2) := by decide +kernel
theorem dX7_read_21 : decode cX7_read 21 = .ok (.iload_n 1, 1) := by decide +kernel
theorem dX7_read_22 : decode cX7_read 22 = .ok (.isub, 1) := by decide +kernel
theorem dX7_read_23 : decode cX7_read 23 = .ok (.ireturn, 1) := by decide +kernel
theorem dX7_read_24 : decode cX7_read 24 = .ok (.aload_n 0, 1) := by decide +kernel
theorem dX7_read_25 : decode cX7_read 25 = .ok (.getfield 38, 3) := by decide +kernel
theorem dX7_read_28 : decode cX7_read 28 = .ok (.aload_n 0, 1) := by decide +kernel
theorem dX7_read_29 : decode cX7_read 29 = .ok (.getfield 12, 3) := by decide +kernel
theorem dX7_read_32 : decode cX7_read 32 = .ok (.invokevirtual 268, 3) := by decide +kernel
theorem dX7_read_35 : decode cX7_read 35 = .ok (.aload_n 0, 1) := by decide +kernel
theorem dX7_read_36 : decode cX7_read 36 = .ok (.invokevirtual 302, 3) := by decide +kernel
theorem dX7_read_39 : decode cX7_read 39 = .ok (.istore_n 2, 1) := by decide +kernel
theorem dX7_read_40 : decode cX7_read 40 = .ok (.aload_n 0, 1) := by decide +kernel
theorem dX7_read_41 : decode cX7_read 41 = .ok (.getfield 45, 3) := by decide +kernel
theorem dX7_read_44 : decode cX7_read 44 = .ok (.invokevirtual 299, 3) := by decide +kernel
theorem dX7_read_47 : decode cX7_read 47 = .ok (.iload_n 2, 1) := by decide +kernel
theorem dX7_read_48 : decode cX7_read 48 = .ok (.ifCond .ge 14, 3) := by decide +kernel
theorem dX7_read_51 : decode cX7_read 51 = .ok (.aload_n 0, 1) := by decide +kernel
theorem dX7_read_52 : decode cX7_read 52 = .ok (.getfield 38, 3) := by decide +kernel
theorem dX7_read_55 : decode cX7_read 55 = .ok (.aload_n 0, 1) := by decide +kernel
theorem dX7_read_56 : decode cX7_read 56 = .ok (.getfield 12, 3) := by decide +kernel
theorem dX7_read_59 : decode cX7_read 59 = .ok (.invokevirtual 274, 3) := by decide +kernel
theorem dX7_read_62 : decode cX7_read 62 = .ok (.iload_n 2, 1) := by decide +kernel
theorem dX7_read_63 : decode cX7_read 63 = .ok (.ifCond .lt 7, 3) := by decide +kernel
theorem dX7_read_66 : decode cX7_read 66 = .ok (.iconst 1, 1) := by decide +kernel
theorem dX7_read_67 : decode cX7_read 67 = .ok (.goto 4, 3) := by decide +kernel
theorem dX7_read_70 : decode cX7_read 70 = .ok (.iconst 0, 1) := by decide +kernel
theorem dX7_read_71 : decode cX7_read 71 = .ok (.invokestatic 124, 3) := by decide +kernel
theorem dX7_read_74 : decode cX7_read 74 = .ok (.aload_n 0, 1) := by decide +kernel
theorem dX7_read_75 : decode cX7_read 75 = .ok (.getfield 38, 3) := by decide +kernel
theorem dX7_read_78 : decode cX7_read 78 = .ok (.invokevirtual 277, 3) := by decide +kernel
theorem dX7_read_81 : decode cX7_read 81 = .ok (.iload_n 2, 1) := by decide +kernel
theorem dX7_read_82 : decode cX7_read 82 = .ok (.ireturn, 1) := by decide +kernel
theorem dX7_undo_0 : decode cX7_undo 0 = .ok (.aload_n 0, 1) := by decide +kernel
theorem dX7_undo_1 : decode cX7_undo 1 = .ok (.getfield 38, 3) := by decide +kernel
theorem dX7_undo_4 : decode cX7_undo 4 = .ok (.getfield 305, 3) := by decide +kernel
theorem dX7_undo_7 : decode cX7_undo 7 = .ok (.ifCond .le 7, 3) := by decide +kernel
theorem dX7_undo_10 : decode cX7_undo 10 = .ok (.iconst 1, 1) := by decide +kernel
theorem dX7_undo_11 : decode cX7_undo 11 = .ok (.goto 4, 3) := by decide +kernel
theorem dX7_undo_14 : decode cX7_undo 14 = .ok (.iconst 0, 1) := by decide +kernel
theorem dX7_undo_15 : decode cX7_undo 15 = .ok (.invokestatic 96, 3) := by decide +kernel
theorem dX7_undo_18 : decode cX7_undo 18 = .ok (.aload_n 0, 1) := by decide +kernel
theorem dX7_undo_19 : decode cX7_undo 19 = .ok (.getfield 38, 3) := by decide +kernel
theorem dX7_undo_22 : decode cX7_undo 22 = .ok (.aload_n 0, 1) := by decide +kernel
theorem dX7_undo_23 : decode cX7_undo 23 = .ok (.getfield 12, 3) := by decide +kernel
theorem dX7_undo_26 : decode cX7_undo 26 = .ok (.invokevirtual 306, 3) := by decide +kernel
theorem dX7_undo_29 : decode cX7_undo 29 = .ok (.aload_n 0, 1) := by decide +kernel
theorem dX7_undo_30 : decode cX7_undo 30 = .ok (.getfield 38, 3) := by decide +kernel
theorem dX7_undo_33 : decode cX7_undo 33 = .ok (.getfield 305, 3) := by decide +kernel
theorem dX7_undo_36 : decode cX7_undo 36 = .ok (.ireturn, 1) := by decide +kernel
theorem dX7_save_0 : decode cX7_save 0 = .ok (.aload_n 0, 1) := by decide +kernel
theorem dX7_save_1 : decode cX7_save 1 = .ok (.getfield 16, 3) := by decide +kernel
theorem dX7_save_4 : decode cX7_save 4 = .ok (.aload_n 0, 1) := by decide +kernel
theorem dX7_save_5 : decode cX7_save 5 = .ok (.getfield 12, 3) := by decide +kernel
theorem dX7_save_8 : decode cX7_save 8 = .ok (.invokevirtual 309, 3) := by decide +kernel
theorem dX7_save_11 : decode cX7_save 11 = .ok (.aload_n 0, 1) := by decide +kernel
theorem dX7_save_12 : decode cX7_save 12 = .ok (.iconst 1, 1) := by decide +kernel
theorem dX7_save_13 : decode cX7_save 13 = .ok (.putfield 312, 3) := by decide +kernel
theorem dX7_save_16 : decode cX7_save 16 = .ok (.aload_n 0, 1) := by decide +kernel
theorem dX7_save_17 : decode cX7_save 17 = .ok (.getfield 12, 3) := by decide +kernel
theorem dX7_save_20 : decode cX7_save 20 = .ok (.getfield 93, 3) := by decide +kernel
theorem dX7_save_23 : decode cX7_save 23 = .ok (.ireturn, 1) := by decide +kernel
theorem dX7_restore_0 : decode cX7_restore 0 = .ok (.aload_n 0, 1) := by decide +kernel
theorem dX7_restore_1 : decode cX7_restore 1 = .ok (.getfield 312, 3) := by decide +kernel
theorem dX7_restore_4 : decode cX7_restore 4 = .ok (.invokestatic 96, 3) := by decide +kernel
theorem dX7_restore_7 : decode cX7_restore 7 = .ok (.aload_n 0, 1) := by decide +kernel
theorem dX7_restore_8 : decode cX7_restore 8 = .ok (.getfield 12, 3) := by decide +kernel
theorem dX7_restore_11 : decode cX7_restore 11 = .ok (.aload_n 0, 1) := by decide +kernel
theorem dX7_restore_12 : decode cX7_restore 12 = .ok (.getfield 16, 3) := by decide +kernel
theorem dX7_restore_15 : decode cX7_restore 15 = .ok (.invokevirtual 309, 3) := by decide +kernel
theorem dX7_restore_18 : decode cX7_restore 18 = .ok (.aload_n 0, 1) := by decide +kernel
theorem dX7_restore_19 : decode cX7_restore 19 = .ok (.getfield 38, 3) := by decide +kernel
theorem dX7_restore_22 : decode cX7_restore 22 = .ok (.invokevirtual 316, 3) := by decide +kernel
theorem dX7_restore_25 : decode cX7_restore 25 = .ok (.aload_n 0, 1) := by decide +kernel
theorem dX7_restore_26 : decode cX7_restore 26 = .ok (.getfield 12, 3) := by decide +kernel
theorem dX7_restore_29 : decode cX7_restore 29 = .ok (.getfield 93, 3) := by decide +kernel
theorem dX7_restore_32 : decode cX7_restore 32 = .ok (.ireturn, 1) := by decide +kernel
theorem dX7_checkIndex_0 : decode cX7_checkIndex 0 = .ok (.iload_n 0, 1) := by decide +kernel
theorem dX7_checkIndex_1 : decode cX7_checkIndex 1 = .ok (.ifCond .ne 14, 3) := by decide +kernel
theorem dX7_checkIndex_4 : decode cX7_checkIndex 4 = .ok (.new 317, 3) := by decide +kernel
theorem dX7_checkIndex_7 : decode cX7_checkIndex 7 = .ok (.dup, 1) := by decide +kernel
theorem dX7_checkIndex_8 : decode cX7_checkIndex 8 = .ok (.ldc_w 319, 3) := by decide +kernel
theorem dX7_checkIndex_11 : decode cX7_checkIndex 11 = .ok (.invokespecial 321, 3) := by decide +kernel
theorem dX7_checkIndex_14 : decode cX7_checkIndex 14 = .ok (.athrow, 1) := by decide +kernel
theorem dX7_checkIndex_15 : decode cX7_checkIndex 15 = .ok (.return_, 1) := by decide +kernel
theorem dX7_checkArgument_0 : decode cX7_checkArgument 0 = .ok (.iload_n 0, 1) := by decide +kernel
theorem dX7_checkArgument_1 : decode cX7_checkArgument 1 = .ok (.ifCond .ne 14, 3) := by decide +kernel
theorem dX7_checkArgument_4 : decode cX7_checkArgument 4 = .ok (.new 322, 3) := by decide +kernel
theorem dX7_checkArgument_7 : decode cX7_checkArgument 7 = .ok (.dup, 1) := by decide +kernel
theorem dX7_checkArgument_8 : decode cX7_checkArgument 8 = .ok (.ldc_w 324, 3) := by decide +kernel
theorem dX7_checkArgument_11 : decode cX7_checkArgument 11 = .ok (.invokespecial 326, 3) := by decide +kernel
theorem dX7_checkArgument_14 : decode cX7_checkArgument 14 = .ok (.athrow, 1) := by decide +kernel
theorem dX7_checkArgument_15 : decode cX7_checkArgument 15 = .ok (.return_, 1) := by decide +kernel
theorem dX7_checkState_0 : decode cX7_checkState 0 = .ok (.iload_n 0, 1) := by decide +kernel
theorem dX7_checkState_1 : decode cX7_checkState 1 = .ok (.ifCond .ne 14, 3) := by decide +kernel
theorem dX7_checkState_4 : decode cX7_checkState 4 = .ok (.new 327, 3) := by decide +kernel
theorem dX7_checkState_7 : decode cX7_checkState 7 = .ok (.dup, 1) := by decide +kernel
theorem dX7_checkState_8 : decode cX7_checkState 8 = .ok (.ldc_w 329, 3) := by decide +kernel
theorem dX7_checkState_11 : decode cX7_checkState 11 = .ok (.invokespecial 331, 3) := by decide +kernel
theorem dX7_checkState_14 : decode cX7_checkState 14 = .ok (.athrow, 1) := by decide +kernel
theorem dX7_checkState_15 : decode cX7_checkState 15 = .ok (.return_, 1) := by decide +kernel
theorem dX7_checkSupported_0 : decode cX7_checkSupported 0 = .ok (.iload_n 0, 1) := by decide +kernel
theorem dX7_checkSupported_1 : decode cX7_checkSupported 1 = .ok (.ifCond .ne 14, 3) := by decide +kernel
theorem dX7_checkSupported_4 : decode cX7_checkSupported 4 = .ok (.new 332, 3) := by decide +kernel
theorem dX7_checkSupported_7 : decode cX7_checkSupported 7 = .ok (.dup, 1) := by decide +kernel
theorem dX7_checkSupported_8 : decode cX7_checkSupported 8 = .ok (.ldc_w 334, 3) := by decide +kernel
theorem dX7_checkSupported_11 : decode cX7_checkSupported 11 = .ok (.invokespecial 336, 3) := by decide +kernel
theorem dX7_checkSupported_14 : decode cX7_checkSupported 14 = .ok (.athrow, 1) := by decide +kernel
theorem dX7_checkSupported_15 : decode cX7_checkSupported 15 = .ok (.return_, 1) := by decide +kernel
theorem dX7_checkElement_0 : decode cX7_checkElement 0 = .ok (.iload_n 0, 1) := by decide +kernel
theorem dX7_checkElement_1 : decode cX7_checkElement 1 = .ok (.ifCond .ne 14, 3) := by decide +kernel
theorem dX7_checkElement_4 : decode cX7_checkElement 4 = .ok (.new 337, 3) := by decide +kernel
theorem dX7_checkElement_7 : decode cX7_checkElement 7 = .ok (.dup, 1) := by decide +kernel
theorem dX7_checkElement_8 : decode cX7_checkElement 8 = .ok (.ldc_w 339, 3) := by decide +kernel
theorem dX7_checkElement_11 : decode cX7_checkElement 11 = .ok (.invokespecial 341, 3) := by decide +kernel
theorem dX7_checkElement_14 : decode cX7_checkElement 14 = .ok (.athrow, 1) := by decide +kernel
theorem dX7_checkElement_15 : decode cX7_checkElement 15 = .ok (.return_, 1) := by decide +kernel
theorem dX7_isIn_0 : decode cX7_isIn 0 = .ok (.iload_n 0, 1) := by decide +kernel
theorem dX7_isIn_1 : decode cX7_isIn 1 = .ok (.iload_n 1, 1) := by decide +kernel
theorem dX7_isIn_2 : decode cX7_isIn 2 = .ok (.if_icmp .lt 12, 3) := by decide +kernel
theorem dX7_isIn_5 : decode cX7_isIn 5 = .ok (.iload_n 0, 1) := by decide +kernel
theorem dX7_isIn_6 : decode cX7_isIn 6 = .ok (.iload_n 2, 1) := by decide +kernel
theorem dX7_isIn_7 : decode cX7_isIn 7 = .ok (.if_icmp .gt 7, 3) := by decide +kernel
theorem dX7_isIn_10 : decode cX7_isIn 10 = .ok (.iconst 1, 1) := by decide +kernel
theorem dX7_isIn_11 : decode cX7_isIn 11 = .ok (.goto 4, 3) := by decide +kernel
theorem dX7_isIn_14 : decode cX7_isIn 14 = .ok (.iconst 0, 1) := by decide +kernel
theorem dX7_isIn_15 : decode cX7_isIn 15 = .ok (.ireturn, 1) := by decide +kernel
theorem dX7_isStation_0 : decode cX7_isStation 0 = .ok (.iload_n 0, 1) := by decide +kernel
theorem dX7_isStation_1 : decode cX7_isStation 1 = .ok (.iconst 0, 1) := by decide +kernel
theorem dX7_isStation_2 : decode cX7_isStation 2 = .ok (.bipush 7, 2) := by decide +kernel
theorem dX7_isStation_4 : decode cX7_isStation 4 = .ok (.invokestatic 49, 3) := by decide +kernel
theorem dX7_isStation_7 : decode cX7_isStation 7 = .ok (.ireturn, 1) := by decide +kernel
theorem dX7_isPriority_0 : decode cX7_isPriority 0 = .ok (.iload_n 0, 1) := by decide +kernel
theorem dX7_isPriority_1 : decode cX7_isPriority 1 = .ok (.iconst 0, 1) := by decide +kernel
theorem dX7_isPriority_2 : decode cX7_isPriority 2 = .ok (.iconst 3, 1) := by decide +kernel
theorem dX7_isPriority_3 : decode cX7_isPriority 3 = .ok (.invokestatic 49, 3) := by decide +kernel
theorem dX7_isPriority_6 : decode cX7_isPriority 6 = .ok (.ireturn, 1) := by decide +kernel
theorem dX7_isTime_0 : decode cX7_isTime 0 = .ok (.iload_n 0, 1) := by decide +kernel
theorem dX7_isTime_1 : decode cX7_isTime 1 = .ok (.iconst 0, 1) := by decide +kernel
theorem dX7_isTime_2 : decode cX7_isTime 2 = .ok (.bipush 99, 2) := by decide +kernel
theorem dX7_isTime_4 : decode cX7_isTime 4 = .ok (.invokestatic 49, 3) := by decide +kernel
theorem dX7_isTime_7 : decode cX7_isTime 7 = .ok (.ireturn, 1) := by decide +kernel
theorem dX7_isTool_0 : decode cX7_isTool 0 = .ok (.iload_n 0, 1) := by decide +kernel
theorem dX7_isTool_1 : decode cX7_isTool 1 = .ok (.iconst 0, 1) := by decide +kernel
theorem dX7_isTool_2 : decode cX7_isTool 2 = .ok (.iconst 5, 1) := by decide +kernel
theorem dX7_isTool_3 : decode cX7_isTool 3 = .ok (.invokestatic 49, 3) := by decide +kernel
theorem dX7_isTool_6 : decode cX7_isTool 6 = .ok (.ireturn, 1) := by decide +kernel
theorem dX7_isTaskData_0 : decode cX7_isTaskData 0 = .ok (.iload_n 0, 1) := by decide +kernel
theorem dX7_isTaskData_1 : decode cX7_isTaskData 1 = .ok (.invokestatic 106, 3) := by decide +kernel
theorem dX7_isTaskData_4 : decode cX7_isTaskData 4 = .ok (.ifCond .eq 28, 3) := by decide +kernel
theorem dX7_isTaskData_7 : decode cX7_isTaskData 7 = .ok (.iload_n 1, 1) := by decide +kernel
theorem dX7_isTaskData_8 : decode cX7_isTaskData 8 = .ok (.invokestatic 106, 3) := by decide +kernel
theorem dX7_isTaskData_11 : decode cX7_isTaskData 11 = .ok (.ifCond .eq 21, 3) := by decide +kernel
theorem dX7_isTaskData_14 : decode cX7_isTaskData 14 = .ok (.iload_n 2, 1) := by decide +kernel
theorem dX7_isTaskData_15 : decode cX7_isTaskData 15 = .ok (.invokestatic 106, 3) := by decide +kernel
theorem dX7_isTaskData_18 : decode cX7_isTaskData 18 = .ok (.ifCond .eq 14, 3) := by decide +kernel
theorem dX7_isTaskData_21 : decode cX7_isTaskData 21 = .ok (.iload_n 3, 1) := by decide +kernel
theorem dX7_isTaskData_22 : decode cX7_isTaskData 22 = .ok (.invokestatic 112, 3) := by decide +kernel
theorem dX7_isTaskData_25 : decode cX7_isTaskData 25 = .ok (.ifCond .eq 7, 3) := by decide +kernel
theorem dX7_isTaskData_28 : decode cX7_isTaskData 28 = .ok (.iconst 1, 1) := by decide +kernel
theorem dX7_isTaskData_29 : decode cX7_isTaskData 29 = .ok (.goto 4, 3) := by decide +kernel
theorem dX7_isTaskData_32 : decode cX7_isTaskData 32 = .ok (.iconst 0, 1) := by decide +kernel
theorem dX7_isTaskData_33 : decode cX7_isTaskData 33 = .ok (.ireturn, 1) := by decide +kernel
theorem dX7_isRuleValue_0 : decode cX7_isRuleValue 0 = .ok (.iload_n 0, 1) := by decide +kernel
theorem dX7_isRuleValue_1 : decode cX7_isRuleValue 1 = .ok (.iconst 0, 1) := by decide +kernel
theorem dX7_isRuleValue_2 : decode cX7_isRuleValue 2 = .ok (.iconst 3, 1) := by decide +kernel
theorem dX7_isRuleValue_3 : decode cX7_isRuleValue 3 = .ok (.invokestatic 49, 3) := by decide +kernel
theorem dX7_isRuleValue_6 : decode cX7_isRuleValue 6 = .ok (.ifCond .eq 24, 3) := by decide +kernel
theorem dX7_isRuleValue_9 : decode cX7_isRuleValue 9 = .ok (.iload_n 1, 1) := by decide +kernel
theorem dX7_isRuleValue_10 : decode cX7_isRuleValue 10 = .ok (.getstatic 342, 3) := by decide +kernel
theorem dX7_isRuleValue_13 : decode cX7_isRuleValue 13 = .ok (.iload_n 0, 1) := by decide +kernel
theorem dX7_isRuleValue_14 : decode cX7_isRuleValue 14 = .ok (.iaload, 1) := by decide +kernel
theorem dX7_isRuleValue_15 : decode cX7_isRuleValue 15 = .ok (.getstatic 345, 3) := by decide +kernel
theorem dX7_isRuleValue_18 : decode cX7_isRuleValue 18 = .ok (.iload_n 0, 1) := by decide +kernel
theorem dX7_isRuleValue_19 : decode cX7_isRuleValue 19 = .ok (.iaload, 1) := by decide +kernel
theorem dX7_isRuleValue_20 : decode cX7_isRuleValue 20 = .ok (.invokestatic 49, 3) := by decide +kernel
theorem dX7_isRuleValue_23 : decode cX7_isRuleValue 23 = .ok (.ifCond .eq 7, 3) := by decide +kernel
theorem dX7_isRuleValue_26 : decode cX7_isRuleValue 26 = .ok (.iconst 1, 1) := by decide +kernel
theorem dX7_isRuleValue_27 : decode cX7_isRuleValue 27 = .ok (.goto 4, 3) := by decide +kernel
theorem dX7_isRuleValue_30 : decode cX7_isRuleValue 30 = .ok (.iconst 0, 1) := by decide +kernel
theorem dX7_isRuleValue_31 : decode cX7_isRuleValue 31 = .ok (.ireturn, 1) := by decide +kernel
theorem dX7_quotientUp_0 : decode cX7_quotientUp 0 = .ok (.iload_n 1, 1) := by decide +kernel
theorem dX7_quotientUp_1 : decode cX7_quotientUp 1 = .ok (.ifCond .gt 7, 3) := by decide +kernel
theorem dX7_quotientUp_4 : decode cX7_quotientUp 4 = .ok (.iconst 0, 1) := by decide +kernel
theorem dX7_quotientUp_5 : decode cX7_quotientUp 5 = .ok (.goto 10, 3) := by decide +kernel
theorem dX7_quotientUp_8 : decode cX7_quotientUp 8 = .ok (.iload_n 0, 1) := by decide +kernel
theorem dX7_quotientUp_9 : decode cX7_quotientUp 9 = .ok (.iload_n 1, 1) := by decide +kernel
theorem dX7_quotientUp_10 : decode cX7_quotientUp 10 = .ok (.iadd, 1) := by decide +kernel
theorem dX7_quotientUp_11 : decode cX7_quotientUp 11 = .ok (.iconst 1, 1) := by decide +kernel
theorem dX7_quotientUp_12 : decode cX7_quotientUp 12 = .ok (.isub, 1) := by decide +kernel
theorem dX7_quotientUp_13 : decode cX7_quotientUp 13 = .ok (.iload_n 1, 1) := by decide +kernel
theorem dX7_quotientUp_14 : decode cX7_quotientUp 14 = .ok (.idiv, 1) := by decide +kernel
theorem dX7_quotientUp_15 : decode cX7_quotientUp 15 = .ok (.ireturn, 1) := by decide +kernel
theorem dX7_has_0 : decode cX7_has 0 = .ok (.iload_n 0, 1) := by decide +kernel
theorem dX7_has_1 : decode cX7_has 1 = .ok (.iload_n 1, 1) := by decide +kernel
theorem dX7_has_2 : decode cX7_has 2 = .ok (.ishr, 1) := by decide +kernel
theorem dX7_has_3 : decode cX7_has 3 = .ok (.iconst 1, 1) := by decide +kernel
theorem dX7_has_4 : decode cX7_has 4 = .ok (.iand, 1) := by decide +kernel
theorem dX7_has_5 : decode cX7_has 5 = .ok (.ifCond .eq 7, 3) := by decide +kernel
theorem dX7_has_8 : decode cX7_has 8 = .ok (.iconst 1, 1) := by decide +kernel
theorem dX7_has_9 : decode cX7_has 9 = .ok (.goto 4, 3) := by decide +kernel
theorem dX7_has_12 : decode cX7_has 12 = .ok (.iconst 0, 1) := by decide +kernel
theorem dX7_has_13 : decode cX7_has 13 = .ok (.ireturn, 1) := by decide +kernel
theorem dX7_remember_0 : decode cX7_remember 0 = .ok (.aload_n 0, 1) := by decide +kernel
theorem dX7_remember_1 : decode cX7_remember 1 = .ok (.getfield 38, 3) := by decide +kernel
theorem dX7_remember_4 : decode cX7_remember 4 = .ok (.aload_n 0, 1) := by decide +kernel
theorem dX7_remember_5 : decode cX7_remember 5 = .ok (.getfield 12, 3) := by decide +kernel
theorem dX7_remember_8 : decode cX7_remember 8 = .ok (.invokevirtual 268, 3) := by decide +kernel
theorem dX7_remember_11 : decode cX7_remember 11 = .ok (.aload_n 0, 1) := by decide +kernel
theorem dX7_remember_12 : decode cX7_remember 12 = .ok (.getfield 38, 3) := by decide +kernel
theorem dX7_remember_15 : decode cX7_remember 15 = .ok (.invokevirtual 277, 3) := by decide +kernel
theorem dX7_remember_18 : decode cX7_remember 18 = .ok (.return_, 1) := by decide +kernel
theorem dX7_keepReason_0 : decode cX7_keepReason 0 = .ok (.iload_n 1, 1) := by decide +kernel
theorem dX7_keepReason_1 : decode cX7_keepReason 1 = .ok (.ifCond .eq 8, 3) := by decide +kernel
theorem dX7_keepReason_4 : decode cX7_keepReason 4 = .ok (.aload_n 0, 1) := by decide +kernel
theorem dX7_keepReason_5 : decode cX7_keepReason 5 = .ok (.iload_n 1, 1) := by decide +kernel
theorem dX7_keepReason_6 : decode cX7_keepReason 6 = .ok (.putfield 191, 3) := by decide +kernel
theorem dX7_keepReason_9 : decode cX7_keepReason 9 = .ok (.return_, 1) := by decide +kernel
theorem dX7_carryOutAll_0 : decode cX7_carryOutAll 0 = .ok (.aload_n 0, 1) := by decide +kernel
theorem dX7_carryOutAll_1 : decode cX7_carryOutAll 1 = .ok (.getfield 45, 3) := by decide +kernel
theorem dX7_carryOutAll_4 : decode cX7_carryOutAll 4 = .ok (.invokevirtual 348, 3) := by decide +kernel
theorem dX7_carryOutAll_7 : decode cX7_carryOutAll 7 = .ok (.iconst 1, 1) := by decide +kernel
theorem dX7_carryOutAll_8 : decode cX7_carryOutAll 8 = .ok (.istore_n 1, 1) := by decide +kernel
theorem dX7_carryOutAll_9 : decode cX7_carryOutAll 9 = .ok (.iconst 0, 1) := by decide +kernel
theorem dX7_carryOutAll_10 : decode cX7_carryOutAll 10 = .ok (.istore_n 2, 1) := by decide +kernel
theorem dX7_carryOutAll_11 : decode cX7_carryOutAll 11 = .ok (.iload_n 1, 1) := by decide +kernel
theorem dX7_carryOutAll_12 : decode cX7_carryOutAll 12 = .ok (.ifCond .eq 44, 3) := by decide +kernel
theorem dX7_carryOutAll_15 : decode cX7_carryOutAll 15 = .ok (.iload_n 2, 1) := by decide +kernel
theorem dX7_carryOutAll_16 : decode cX7_carryOutAll 16 = .ok (.bipush 80, 2) := by decide +kernel
theorem dX7_carryOutAll_18 : decode cX7_carryOutAll 18 = .ok (.if_icmp .ge 38, 3) := by decide +kernel
theorem dX7_carryOutAll_21 : decode cX7_carryOutAll 21 = .ok (.aload_n 0, 1) := by decide +kernel
theorem dX7_carryOutAll_22 : decode cX7_carryOutAll 22 = .ok (.getfield 45, 3) := by decide +kernel
theorem dX7_carryOutAll_25 : decode cX7_carryOutAll 25 = .ok (.invokevirtual 351, 3) := by decide +kernel
theorem dX7_carryOutAll_28 : decode cX7_carryOutAll 28 = .ok (.ifCond .eq 10, 3) := by decide +kernel
theorem dX7_carryOutAll_31 : decode cX7_carryOutAll 31 = .ok (.aload_n 0, 1) := by decide +kernel
theorem dX7_carryOutAll_32 : decode cX7_carryOutAll 32 = .ok (.invokevirtual 355, 3) := by decide +kernel
theorem dX7_carryOutAll_35 : decode cX7_carryOutAll 35 = .ok (.ifCond .ne 5, 3) := by decide +kernel
theorem dX7_carryOutAll_38 : decode cX7_carryOutAll 38 = .ok (.iconst (-1), 1) := by decide +kernel
theorem dX7_carryOutAll_39 : decode cX7_carryOutAll 39 = .ok (.ireturn, 1) := by decide +kernel
theorem dX7_carryOutAll_40 : decode cX7_carryOutAll 40 = .ok (.iinc 2 1, 3) := by decide +kernel
theorem dX7_carryOutAll_43 : decode cX7_carryOutAll 43 = .ok (.aload_n 0, 1) := by decide +kernel
theorem dX7_carryOutAll_44 : decode cX7_carryOutAll 44 = .ok (.getfield 45, 3) := by decide +kernel
theorem dX7_carryOutAll_47 : decode cX7_carryOutAll 47 = .ok (.bipush 59, 2) := by decide +kernel
theorem dX7_carryOutAll_49 : decode cX7_carryOutAll 49 = .ok (.invokevirtual 358, 3) := by decide +kernel
theorem dX7_carryOutAll_52 : decode cX7_carryOutAll 52 = .ok (.istore_n 1, 1) := by decide +kernel
theorem dX7_carryOutAll_53 : decode cX7_carryOutAll 53 = .ok (.goto (-42), 3) := by decide +kernel
theorem dX7_carryOutAll_56 : decode cX7_carryOutAll 56 = .ok (.iload_n 2, 1) := by decide +kernel
theorem dX7_carryOutAll_57 : decode cX7_carryOutAll 57 = .ok (.ireturn, 1) := by decide +kernel
theorem dX7_isCarriedOut_0 : decode cX7_isCarriedOut 0 = .ok (.aload_n 0, 1) := by decide +kernel
theorem dX7_isCarriedOut_1 : decode cX7_isCarriedOut 1 = .ok (.getfield 45, 3) := by decide +kernel
theorem dX7_isCarriedOut_4 : decode cX7_isCarriedOut 4 = .ok (.getfield 362, 3) := by decide +kernel
theorem dX7_isCarriedOut_7 : decode cX7_isCarriedOut 7 = .ok (.astore_n 1, 1) := by decide +kernel
theorem dX7_isCarriedOut_8 : decode cX7_isCarriedOut 8 = .ok (.aload_n 0, 1) := by decide +kernel
theorem dX7_isCarriedOut_9 : decode cX7_isCarriedOut 9 = .ok (.getfield 45, 3) := by decide +kernel
theorem dX7_isCarriedOut_12 : decode cX7_isCarriedOut 12 = .ok (.getfield 366, 3) := by decide +kernel
theorem dX7_isCarriedOut_15 : decode cX7_isCarriedOut 15 = .ok (.iconst 0, 1) := by decide +kernel
theorem dX7_isCarriedOut_16 : decode cX7_isCarriedOut 16 = .ok (.iaload, 1) := by decide +kernel
theorem dX7_isCarriedOut_17 : decode cX7_isCarriedOut 17 = .ok (.istore_n 2, 1) := by decide +kernel
theorem dX7_isCarriedOut_18 : decode cX7_isCarriedOut 18 = .ok (.aload_n 0, 1) := by decide +kernel
theorem dX7_isCarriedOut_19 : decode cX7_isCarriedOut 19 = .ok (.getfield 45, 3) := by decide +kernel
theorem dX7_isCarriedOut_22 : decode cX7_isCarriedOut 22 = .ok (.getfield 366, 3) := by decide +kernel
theorem dX7_isCarriedOut_25 : decode cX7_isCarriedOut 25 = .ok (.iconst 1, 1) := by decide +kernel
theorem dX7_isCarriedOut_26 : decode cX7_isCarriedOut 26 = .ok (.iaload, 1) := by decide +kernel
theorem dX7_isCarriedOut_27 : decode cX7_isCarriedOut 27 = .ok (.istore_n 3, 1) := by decide +kernel
theorem dX7_isCarriedOut_28 : decode cX7_isCarriedOut 28 = .ok (.aload_n 1, 1) := by decide +kernel
theorem dX7_isCarriedOut_29 : decode cX7_isCarriedOut 29 = .ok (.getstatic 369, 3) := by decide +kernel
theorem dX7_isCarriedOut_32 : decode cX7_isCarriedOut 32 = .ok (.if_acmp .ne 28, 3) := by decide +kernel
theorem dX7_isCarriedOut_35 : decode cX7_isCarriedOut 35 = .ok (.aload_n 0, 1) := by decide +kernel
theorem dX7_isCarriedOut_36 : decode cX7_isCarriedOut 36 = .ok (.iload_n 2, 1) := by decide +kernel
theorem dX7_isCarriedOut_37 : decode cX7_isCarriedOut 37 = .ok (.iload_n 3, 1) := by decide +kernel
theorem dX7_isCarriedOut_38 : decode cX7_isCarriedOut 38 = .ok (.aload_n 0, 1) := by decide +kernel
theorem dX7_isCarriedOut_39 : decode cX7_isCarriedOut 39 = .ok (.getfield 45, 3) := by decide +kernel
theorem dX7_isCarriedOut_42 : decode cX7_isCarriedOut 42 = .ok (.getfield 366, 3) := by decide +kernel
theorem dX7_isCarriedOut_45 : decode cX7_isCarriedOut 45 = .ok (.iconst 2, 1) := by decide +kernel
theorem dX7_isCarriedOut_46 : decode cX7_isCarriedOut 46 = .ok (.iaload, 1) := by decide +kernel
theorem dX7_isCarriedOut_47 : decode cX7_isCarriedOut 47 = .ok (.aload_n 0, 1) := by decide +kernel
theorem dX7_isCarriedOut_48 : decode cX7_isCarriedOut 48 = .ok (.getfield 45, 3) := by decide +kernel
theorem dX7_isCarriedOut_51 : decode cX7_isCarriedOut 51 = .ok (.getfield 366, 3) := by decide +kernel
theorem dX7_isCarriedOut_54 : decode cX7_isCarriedOut 54 = .ok (.iconst 3, 1) := by decide +kernel
theorem dX7_isCarriedOut_55 : decode cX7_isCarriedOut 55 = .ok (.iaload, 1) := by decide +kernel
theorem dX7_isCarriedOut_56 : decode cX7_isCarriedOut 56 = .ok (.invokevirtual 374, 3) := by decide +kernel
theorem dX7_isCarriedOut_59 : decode cX7_isCarriedOut 59 = .ok (.ireturn, 1) := by decide +kernel
theorem dX7_isCarriedOut_60 : decode cX7_isCarriedOut 60 = .ok (.aload_n 1, 1) := by decide +kernel
theorem dX7_isCarriedOut_61 : decode cX7_isCarriedOut 61 = .ok (.getstatic 377, 3) := by decide +kernel
theorem dX7_isCarriedOut_64 : decode cX7_isCarriedOut 64 = .ok (.if_acmp .ne 10, 3) := by decide +kernel
theorem dX7_isCarriedOut_67 : decode cX7_isCarriedOut 67 = .ok (.aload_n 0, 1) := by decide +kernel
theorem dX7_isCarriedOut_68 : decode cX7_isCarriedOut 68 = .ok (.iload_n 2, 1) := by decide +kernel
theorem dX7_isCarriedOut_69 : decode cX7_isCarriedOut 69 = .ok (.iload_n 3, 1) := by decide +kernel
theorem dX7_isCarriedOut_70 : decode cX7_isCarriedOut 70 = .ok (.invokevirtual 380, 3) := by decide +kernel
theorem dX7_isCarriedOut_73 : decode cX7_isCarriedOut 73 = .ok (.ireturn, 1) := by decide +kernel
theorem dX7_isCarriedOut_74 : decode cX7_isCarriedOut 74 = .ok (.aload_n 1, 1) := by decide +kernel
theorem dX7_isCarriedOut_75 : decode cX7_isCarriedOut 75 = .ok (.getstatic 383, 3) := by decide +kernel
theorem dX7_isCarriedOut_78 : decode cX7_isCarriedOut 78 = .ok (.if_acmp .ne 10, 3) := by decide +kernel
theorem dX7_isCarriedOut_81 : decode cX7_isCarriedOut 81 = .ok (.aload_n 0, 1) := by decide +kernel
theorem dX7_isCarriedOut_82 : decode cX7_isCarriedOut 82 = .ok (.iload_n 2, 1) := by decide +kernel
theorem dX7_isCarriedOut_83 : decode cX7_isCarriedOut 83 = .ok (.iload_n 3, 1) := by decide +kernel
theorem dX7_isCarriedOut_84 : decode cX7_isCarriedOut 84 = .ok (.invokevirtual 386, 3) := by decide +kernel
theorem dX7_isCarriedOut_87 : decode cX7_isCarriedOut 87 = .ok (.ireturn, 1) := by decide +kernel
theorem dX7_isCarriedOut_88 : decode cX7_isCarriedOut 88 = .ok (.aload_n 1, 1) := by decide +kernel
theorem dX7_isCarriedOut_89 : decode cX7_isCarriedOut 89 = .ok (.getstatic 389, 3) := by decide +kernel
theorem dX7_isCarriedOut_92 : decode cX7_isCarriedOut 92 = .ok (.if_acmp .ne 9, 3) := by decide +kernel
theorem dX7_isCarriedOut_95 : decode cX7_isCarriedOut 95 = .ok (.aload_n 0, 1) := by decide +kernel
theorem dX7_isCarriedOut_96 : decode cX7_isCarriedOut 96 = .ok (.iload_n 2, 1) := by decide +kernel
theorem dX7_isCarriedOut_97 : decode cX7_isCarriedOut 97 = .ok (.invokevirtual 392, 3) := by decide +kernel
theorem dX7_isCarriedOut_100 : decode cX7_isCarriedOut 100 = .ok (.ireturn, 1) := by decide +kernel
theorem dX7_isCarriedOut_101 : decode cX7_isCarriedOut 101 = .ok (.aload_n 0, 1) := by decide +kernel
theorem dX7_isCarriedOut_102 : decode cX7_isCarriedOut 102 = .ok (.iload_n 2, 1) := by decide +kernel
theorem dX7_isCarriedOut_103 : decode cX7_isCarriedOut 103 = .ok (.iload_n 3, 1) := by decide +kernel
theorem dX7_isCarriedOut_104 : decode cX7_isCarriedOut 104 = .ok (.aload_n 1, 1) := by decide +kernel
theorem dX7_isCarriedOut_105 : decode cX7_isCarriedOut 105 = .ok (.getstatic 395, 3) := by decide +kernel
theorem dX7_isCarriedOut_108 : decode cX7_isCarriedOut 108 = .ok (.if_acmp .ne 7, 3) := by decide +kernel
theorem dX7_isCarriedOut_111 : decode cX7_isCarriedOut 111 = .ok (.iconst 1, 1) := by decide +kernel
theorem dX7_isCarriedOut_112 : decode cX7_isCarriedOut 112 = .ok (.goto 4, 3) := by decide +kernel
theorem dX7_isCarriedOut_115 : decode cX7_isCarriedOut 115 = .ok (.iconst 0, 1) := by decide +kernel
theorem dX7_isCarriedOut_116 : decode cX7_isCarriedOut 116 = .ok (.invokevirtual 398, 3) := by decide +kernel
theorem dX7_isCarriedOut_119 : decode cX7_isCarriedOut 119 = .ok (.ireturn, 1) := by decide +kernel
theorem dX7_isAdded_0 : decode cX7_isAdded 0 = .ok (.iload_n 1, 1) := by decide +kernel
theorem dX7_isAdded_1 : decode cX7_isAdded 1 = .ok (.iload_n 2, 1) := by decide +kernel
theorem dX7_isAdded_2 : decode cX7_isAdded 2 = .ok (.iload_n 3, 1) := by decide +kernel
theorem dX7_isAdded_3 : decode cX7_isAdded 3 = .ok (.iload 4, 2) := by decide +kernel
theorem dX7_isAdded_5 : decode cX7_isAdded 5 = .ok (.invokestatic 89, 3) := by decide +kernel
theorem dX7_isAdded_8 : decode cX7_isAdded 8 = .ok (.ifCond .eq 15, 3) := by decide +kernel
theorem dX7_isAdded_11 : decode cX7_isAdded 11 = .ok (.aload_n 0, 1) := by decide +kernel
theorem dX7_isAdded_12 : decode cX7_isAdded 12 = .ok (.getfield 12, 3) := by decide +kernel
theorem dX7_isAdded_15 : decode cX7_isAdded 15 = .ok (.getfield 93, 3) := by decide +kernel
theorem dX7_isAdded_18 : decode cX7_isAdded 18 = .ok (.bipush 12, 2) := by decide +kernel
theorem dX7_isAdded_20 : decode cX7_isAdded 20 = .ok (.if_icmp .lt 5, 3) := by decide +kernel
theorem dX7_isAdded_23 : decode cX7_isAdded 23 = .ok (.iconst 0, 1) := by decide +kernel
theorem dX7_isAdded_24 : decode cX7_isAdded 24 = .ok (.ireturn, 1) := by decide +kernel
theorem dX7_isAdded_25 : decode cX7_isAdded 25 = .ok (.aload_n 0, 1) := by decide +kernel
theorem dX7_isAdded_26 : decode cX7_isAdded 26 = .ok (.getfield 12, 3) := by decide +kernel
theorem dX7_isAdded_29 : decode cX7_isAdded 29 = .ok (.iload_n 1, 1) := by decide +kernel
theorem dX7_isAdded_30 : decode cX7_isAdded 30 = .ok (.iload_n 2, 1) := by decide +kernel
theorem dX7_isAdded_31 : decode cX7_isAdded 31 = .ok (.iload_n 3, 1) := by decide +kernel
theorem dX7_isAdded_32 : decode cX7_isAdded 32 = .ok (.iload 4, 2) := by decide +kernel
theorem dX7_isAdded_34 : decode cX7_isAdded 34 = .ok (.invokevirtual 99, 3) := by decide +kernel
theorem dX7_isAdded_37 : decode cX7_isAdded 37 = .ok (.pop, 1) := by decide +kernel
theorem dX7_isAdded_38 : decode cX7_isAdded 38 = .ok (.iconst 1, 1) := by decide +kernel
theorem dX7_isAdded_39 : decode cX7_isAdded 39 = .ok (.ireturn, 1) := by decide +kernel
theorem dX7_isLinked_0 : decode cX7_isLinked 0 = .ok (.aload_n 0, 1) := by decide +kernel
theorem dX7_isLinked_1 : decode cX7_isLinked 1 = .ok (.getfield 12, 3) := by decide +kernel
theorem dX7_isLinked_4 : decode cX7_isLinked 4 = .ok (.iload_n 1, 1) := by decide +kernel
theorem dX7_isLinked_5 : decode cX7_isLinked 5 = .ok (.invokevirtual 103, 3) := by decide +kernel
theorem dX7_isLinked_8 : decode cX7_isLinked 8 = .ok (.ifCond .eq 19, 3) := by decide +kernel
theorem dX7_isLinked_11 : decode cX7_isLinked 11 = .ok (.aload_n 0, 1) := by decide +kernel
theorem dX7_isLinked_12 : decode cX7_isLinked 12 = .ok (.getfield 12, 3) := by decide +kernel
theorem dX7_isLinked_15 : decode cX7_isLinked 15 = .ok (.iload_n 2, 1) := by decide +kernel
theorem dX7_isLinked_16 : decode cX7_isLinked 16 = .ok (.invokevirtual 103, 3) := by decide +kernel
theorem dX7_isLinked_19 : decode cX7_isLinked 19 = .ok (.ifCond .eq 8, 3) := by decide +kernel
theorem dX7_isLinked_22 : decode cX7_isLinked 22 = .ok (.iload_n 1, 1) := by decide +kernel
theorem dX7_isLinked_23 : decode cX7_isLinked 23 = .ok (.iload_n 2, 1) := by decide +kernel
theorem dX7_isLinked_24 : decode cX7_isLinked 24 = .ok (.if_icmp .ne 5, 3) := by decide +kernel
theorem dX7_isLinked_27 : decode cX7_isLinked 27 = .ok (.iconst 0, 1) := by decide +kernel
theorem dX7_isLinked_28 : decode cX7_isLinked 28 = .ok (.ireturn, 1) := by decide +kernel
theorem dX7_isLinked_29 : decode cX7_isLinked 29 = .ok (.aload_n 0, 1) := by decide +kernel
theorem dX7_isLinked_30 : decode cX7_isLinked 30 = .ok (.getfield 12, 3) := by decide +kernel
theorem dX7_isLinked_33 : decode cX7_isLinked 33 = .ok (.iload_n 1, 1) := by decide +kernel
theorem dX7_isLinked_34 : decode cX7_isLinked 34 = .ok (.iload_n 2, 1) := by decide +kernel
theorem dX7_isLinked_35 : decode cX7_isLinked 35 = .ok (.invokevirtual 118, 3) := by decide +kernel
theorem dX7_isLinked_38 : decode cX7_isLinked 38 = .ok (.ifCond .ne 15, 3) := by decide +kernel
theorem dX7_isLinked_41 : decode cX7_isLinked 41 = .ok (.aload_n 0, 1) := by decide +kernel
theorem dX7_isLinked_42 : decode cX7_isLinked 42 = .ok (.getfield 12, 3) := by decide +kernel
theorem dX7_isLinked_45 : decode cX7_isLinked 45 = .ok (.iload_n 2, 1) := by decide +kernel
theorem dX7_isLinked_46 : decode cX7_isLinked 46 = .ok (.iload_n 1, 1) := by decide +kernel
theorem dX7_isLinked_47 : decode cX7_isLinked 47 = .ok (.invokevirtual 121, 3) := by decide +kernel
theorem dX7_isLinked_50 : decode cX7_isLinked 50 = .ok (.ifCond .eq 5, 3) := by decide +kernel
theorem dX7_isLinked_53 : decode cX7_isLinked 53 = .ok (.iconst 0, 1) := by decide +kernel
theorem dX7_isLinked_54 : decode cX7_isLinked 54 = .ok (.ireturn, 1) := by decide +kernel
theorem dX7_isLinked_55 : decode cX7_isLinked 55 = .ok (.aload_n 0, 1) := by decide +kernel
theorem dX7_isLinked_56 : decode cX7_isLinked 56 = .ok (.getfield 12, 3) := by decide +kernel
theorem dX7_isLinked_59 : decode cX7_isLinked 59 = .ok (.iload_n 1, 1) := by decide +kernel
theorem dX7_isLinked_60 : decode cX7_isLinked 60 = .ok (.iload_n 2, 1) := by decide +kernel
theorem dX7_isLinked_61 : decode cX7_isLinked 61 = .ok (.invokevirtual 127, 3) := by decide +kernel
theorem dX7_isLinked_64 : decode cX7_isLinked 64 = .ok (.iconst 1, 1) := by decide +kernel
theorem dX7_isLinked_65 : decode cX7_isLinked 65 = .ok (.ireturn, 1) := by decide +kernel
theorem dX7_isPaired_0 : decode cX7_isPaired 0 = .ok (.aload_n 0, 1) := by decide +kernel
theorem dX7_isPaired_1 : decode cX7_isPaired 1 = .ok (.getfield 12, 3) := by decide +kernel
theorem dX7_isPaired_4 : decode cX7_isPaired 4 = .ok (.iload_n 1, 1) := by decide +kernel
theorem dX7_isPaired_5 : decode cX7_isPaired 5 = .ok (.invokevirtual 103, 3) := by decide +kernel
theorem dX7_isPaired_8 : decode cX7_isPaired 8 = .ok (.ifCond .eq 19, 3) := by decide +kernel
theorem dX7_isPaired_11 : decode cX7_isPaired 11 = .ok (.aload_n 0, 1) := by decide +kernel
theorem dX7_isPaired_12 : decode cX7_isPaired 12 = .ok (.getfield 12, 3) := by decide +kernel
theorem dX7_isPaired_15 : decode cX7_isPaired 15 = .ok (.iload_n 2, 1) := by decide +kernel
theorem dX7_isPaired_16 : decode cX7_isPaired 16 = .ok (.invokevirtual 103, 3) := by decide +kernel
theorem dX7_isPaired_19 : decode cX7_isPaired 19 = .ok (.ifCond .eq 8, 3) := by decide +kernel
theorem dX7_isPaired_22 : decode cX7_isPaired 22 = .ok (.iload_n 1, 1) := by decide +kernel
theorem dX7_isPaired_23 : decode cX7_isPaired 23 = .ok (.iload_n 2, 1) := by decide +kernel
theorem dX7_isPaired_24 : decode cX7_isPaired 24 = .ok (.if_icmp .ne 5, 3) := by decide +kernel
theorem dX7_isPaired_27 : decode cX7_isPaired 27 = .ok (.iconst 0, 1) := by decide +kernel
theorem dX7_isPaired_28 : decode cX7_isPaired 28 = .ok (.ireturn, 1) := by decide +kernel
theorem dX7_isPaired_29 : decode cX7_isPaired 29 = .ok (.aload_n 0, 1) := by decide +kernel
theorem dX7_isPaired_30 : decode cX7_isPaired 30 = .ok (.getfield 12, 3) := by decide +kernel
theorem dX7_isPaired_33 : decode cX7_isPaired 33 = .ok (.iload_n 1, 1) := by decide +kernel
theorem dX7_isPaired_34 : decode cX7_isPaired 34 = .ok (.iload_n 2, 1) := by decide +kernel
theorem dX7_isPaired_35 : decode cX7_isPaired 35 = .ok (.iload_n 3, 1) := by decide +kernel
theorem dX7_isPaired_36 : decode cX7_isPaired 36 = .ok (.invokevirtual 144, 3) := by decide +kernel
theorem dX7_isPaired_39 : decode cX7_isPaired 39 = .ok (.iconst 1, 1) := by decide +kernel
theorem dX7_isPaired_40 : decode cX7_isPaired 40 = .ok (.ireturn, 1) := by decide +kernel
theorem dX7_isPut_0 : decode cX7_isPut 0 = .ok (.aload_n 0, 1) := by decide +kernel
theorem dX7_isPut_1 : decode cX7_isPut 1 = .ok (.getfield 12, 3) := by decide +kernel
theorem dX7_isPut_4 : decode cX7_isPut 4 = .ok (.iload_n 1, 1) := by decide +kernel
theorem dX7_isPut_5 : decode cX7_isPut 5 = .ok (.invokevirtual 103, 3) := by decide +kernel
theorem dX7_isPut_8 : decode cX7_isPut 8 = .ok (.ifCond .eq 10, 3) := by decide +kernel
theorem dX7_isPut_11 : decode cX7_isPut 11 = .ok (.iload_n 2, 1) := by decide +kernel
theorem dX7_isPut_12 : decode cX7_isPut 12 = .ok (.invokestatic 82, 3) := by decide +kernel
theorem dX7_isPut_15 : decode cX7_isPut 15 = .ok (.ifCond .ne 5, 3) := by decide +kernel
theorem dX7_isPut_18 : decode cX7_isPut 18 = .ok (.iconst 0, 1) := by decide +kernel
theorem dX7_isPut_19 : decode cX7_isPut 19 = .ok (.ireturn, 1) := by decide +kernel
theorem dX7_isPut_20 : decode cX7_isPut 20 = .ok (.aload_n 0, 1) := by decide +kernel
theorem dX7_isPut_21 : decode cX7_isPut 21 = .ok (.getfield 24, 3) := by decide +kernel
theorem dX7_isPut_24 : decode cX7_isPut 24 = .ok (.iload_n 1, 1) := by decide +kernel
theorem dX7_isPut_25 : decode cX7_isPut 25 = .ok (.iload_n 2, 1) := by decide +kernel
theorem dX7_isPut_26 : decode cX7_isPut 26 = .ok (.invokevirtual 184, 3) := by decide +kernel
theorem dX7_isPut_29 : decode cX7_isPut 29 = .ok (.istore_n 3, 1) := by decide +kernel
theorem dX7_isPut_30 : decode cX7_isPut 30 = .ok (.aload_n 0, 1) := by decide +kernel
theorem dX7_isPut_31 : decode cX7_isPut 31 = .ok (.iload_n 3, 1) := by decide +kernel
theorem dX7_isPut_32 : decode cX7_isPut 32 = .ok (.invokevirtual 187, 3) := by decide +kernel
theorem dX7_isPut_35 : decode cX7_isPut 35 = .ok (.iload_n 3, 1) := by decide +kernel
theorem dX7_isPut_36 : decode cX7_isPut 36 = .ok (.ifCond .ne 13, 3) := by decide +kernel
theorem dX7_isPut_39 : decode cX7_isPut 39 = .ok (.aload_n 0, 1) := by decide +kernel
theorem dX7_isPut_40 : decode cX7_isPut 40 = .ok (.getfield 12, 3) := by decide +kernel
theorem dX7_isPut_43 : decode cX7_isPut 43 = .ok (.getfield 160, 3) := by decide +kernel
theorem dX7_isPut_46 : decode cX7_isPut 46 = .ok (.iload_n 1, 1) := by decide +kernel
theorem dX7_isPut_47 : decode cX7_isPut 47 = .ok (.iload_n 2, 1) := by decide +kernel
theorem dX7_isPut_48 : decode cX7_isPut 48 = .ok (.iastore, 1) := by decide +kernel
theorem dX7_isPut_49 : decode cX7_isPut 49 = .ok (.iload_n 3, 1) := by decide +kernel
theorem dX7_isPut_50 : decode cX7_isPut 50 = .ok (.ifCond .ne 7, 3) := by decide +kernel
theorem dX7_isPut_53 : decode cX7_isPut 53 = .ok (.iconst 1, 1) := by decide +kernel
theorem dX7_isPut_54 : decode cX7_isPut 54 = .ok (.goto 4, 3) := by decide +kernel
theorem dX7_isPut_57 : decode cX7_isPut 57 = .ok (.iconst 0, 1) := by decide +kernel
theorem dX7_isPut_58 : decode cX7_isPut 58 = .ok (.ireturn, 1) := by decide +kernel
theorem dX7_isCycleSet_0 : decode cX7_isCycleSet 0 = .ok (.iconst 0, 1) := by decide +kernel
theorem dX7_isCycleSet_1 : decode cX7_isCycleSet 1 = .ok (.iload_n 1, 1) := by decide +kernel
theorem dX7_isCycleSet_2 : decode cX7_isCycleSet 2 = .ok (.invokestatic 71, 3) := by decide +kernel
theorem dX7_isCycleSet_5 : decode cX7_isCycleSet 5 = .ok (.ifCond .ne 5, 3) := by decide +kernel
theorem dX7_isCycleSet_8 : decode cX7_isCycleSet 8 = .ok (.iconst 0, 1) := by decide +kernel
theorem dX7_isCycleSet_9 : decode cX7_isCycleSet 9 = .ok (.ireturn, 1) := by decide +kernel
theorem dX7_isCycleSet_10 : decode cX7_isCycleSet 10 = .ok (.aload_n 0, 1) := by decide +kernel
theorem dX7_isCycleSet_11 : decode cX7_isCycleSet 11 = .ok (.getfield 12, 3) := by decide +kernel
theorem dX7_isCycleSet_14 : decode cX7_isCycleSet 14 = .ok (.getfield 75, 3) := by decide +kernel
theorem dX7_isCycleSet_17 : decode cX7_isCycleSet 17 = .ok (.iconst 0, 1) := by decide +kernel
theorem dX7_isCycleSet_18 : decode cX7_isCycleSet 18 = .ok (.iload_n 1, 1) := by decide +kernel
theorem dX7_isCycleSet_19 : decode cX7_isCycleSet 19 = .ok (.iastore, 1) := by decide +kernel
theorem dX7_isCycleSet_20 : decode cX7_isCycleSet 20 = .ok (.iconst 1, 1) := by decide +kernel
theorem dX7_isCycleSet_21 : decode cX7_isCycleSet 21 = .ok (.ireturn, 1) := by decide +kernel
