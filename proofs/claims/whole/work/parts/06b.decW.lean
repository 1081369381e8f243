theorem dL_setModels_0 : decode cL_setModels 0 = .ok (.aload_n 2, 1) := by decide +kernel
theorem dL_setModels_1 : decode cL_setModels 1 = .ok (.iconst 0, 1) := by decide +kernel
theorem dL_setModels_2 : decode cL_setModels 2 = .ok (.aload_n 0, 1) := by decide +kernel
theorem dL_setModels_3 : decode cL_setModels 3 = .ok (.iload_n 1, 1) := by decide +kernel
theorem dL_setModels_4 : decode cL_setModels 4 = .ok (.invokevirtual 7, 3) := by decide +kernel
theorem dL_setModels_7 : decode cL_setModels 7 = .ok (.i2l, 1) := by decide +kernel
theorem dL_setModels_8 : decode cL_setModels 8 = .ok (.lastore, 1) := by decide +kernel
theorem dL_setModels_9 : decode cL_setModels 9 = .ok (.goto 6, 3) := by decide +kernel
theorem dL_setModels_12 : decode cL_setModels 12 = .ok (.astore_n 3, 1) := by decide +kernel
theorem dL_setModels_13 : decode cL_setModels 13 = .ok (.iconst 1, 1) := by decide +kernel
theorem dL_setModels_14 : decode cL_setModels 14 = .ok (.ireturn, 1) := by decide +kernel
theorem dL_setModels_15 : decode cL_setModels 15 = .ok (.iconst 0, 1) := by decide +kernel
theorem dL_setModels_16 : decode cL_setModels 16 = .ok (.ireturn, 1) := by decide +kernel
theorem dL_setDemand_0 : decode cL_setDemand 0 = .ok (.aload_n 3, 1) := by decide +kernel
theorem dL_setDemand_1 : decode cL_setDemand 1 = .ok (.iconst 0, 1) := by decide +kernel
theorem dL_setDemand_2 : decode cL_setDemand 2 = .ok (.aload_n 0, 1) := by decide +kernel
theorem dL_setDemand_3 : decode cL_setDemand 3 = .ok (.iload_n 1, 1) := by decide +kernel
theorem dL_setDemand_4 : decode cL_setDemand 4 = .ok (.iload_n 2, 1) := by decide +kernel
theorem dL_setDemand_5 : decode cL_setDemand 5 = .ok (.invokevirtual 15, 3) := by decide +kernel
theorem dL_setDemand_8 : decode cL_setDemand 8 = .ok (.i2l, 1) := by decide +kernel
theorem dL_setDemand_9 : decode cL_setDemand 9 = .ok (.lastore, 1) := by decide +kernel
theorem dL_setDemand_10 : decode cL_setDemand 10 = .ok (.goto 11, 3) := by decide +kernel
theorem dL_setDemand_13 : decode cL_setDemand 13 = .ok (.astore 4, 2) := by decide +kernel
theorem dL_setDemand_15 : decode cL_setDemand 15 = .ok (.iconst 1, 1) := by decide +kernel
theorem dL_setDemand_16 : decode cL_setDemand 16 = .ok (.ireturn, 1) := by decide +kernel
theorem dL_setDemand_17 : decode cL_setDemand 17 = .ok (.astore 4, 2) := by decide +kernel
theorem dL_setDemand_19 : decode cL_setDemand 19 = .ok (.iconst 2, 1) := by decide +kernel
theorem dL_setDemand_20 : decode cL_setDemand 20 = .ok (.ireturn, 1) := by decide +kernel
theorem dL_setDemand_21 : decode cL_setDemand 21 = .ok (.iconst 0, 1) := by decide +kernel
theorem dL_setDemand_22 : decode cL_setDemand 22 = .ok (.ireturn, 1) := by decide +kernel
theorem dL_setRule_0 : decode cL_setRule 0 = .ok (.aload_n 3, 1) := by decide +kernel
theorem dL_setRule_1 : decode cL_setRule 1 = .ok (.iconst 0, 1) := by decide +kernel
theorem dL_setRule_2 : decode cL_setRule 2 = .ok (.aload_n 0, 1) := by decide +kernel
theorem dL_setRule_3 : decode cL_setRule 3 = .ok (.iload_n 1, 1) := by decide +kernel
theorem dL_setRule_4 : decode cL_setRule 4 = .ok (.iload_n 2, 1) := by decide +kernel
theorem dL_setRule_5 : decode cL_setRule 5 = .ok (.invokevirtual 21, 3) := by decide +kernel
theorem dL_setRule_8 : decode cL_setRule 8 = .ok (.i2l, 1) := by decide +kernel
theorem dL_setRule_9 : decode cL_setRule 9 = .ok (.lastore, 1) := by decide +kernel
theorem dL_setRule_10 : decode cL_setRule 10 = .ok (.goto 7, 3) := by decide +kernel
theorem dL_setRule_13 : decode cL_setRule 13 = .ok (.astore 4, 2) := by decide +kernel
theorem dL_setRule_15 : decode cL_setRule 15 = .ok (.iconst 1, 1) := by decide +kernel
theorem dL_setRule_16 : decode cL_setRule 16 = .ok (.ireturn, 1) := by decide +kernel
theorem dL_setRule_17 : decode cL_setRule 17 = .ok (.iconst 0, 1) := by decide +kernel
theorem dL_setRule_18 : decode cL_setRule 18 = .ok (.ireturn, 1) := by decide +kernel
theorem dL_rule_0 : decode cL_rule 0 = .ok (.aload_n 2, 1) := by decide +kernel
theorem dL_rule_1 : decode cL_rule 1 = .ok (.iconst 0, 1) := by decide +kernel
theorem dL_rule_2 : decode cL_rule 2 = .ok (.aload_n 0, 1) := by decide +kernel
theorem dL_rule_3 : decode cL_rule 3 = .ok (.iload_n 1, 1) := by decide +kernel
theorem dL_rule_4 : decode cL_rule 4 = .ok (.invokevirtual 24, 3) := by decide +kernel
theorem dL_rule_7 : decode cL_rule 7 = .ok (.i2l, 1) := by decide +kernel
theorem dL_rule_8 : decode cL_rule 8 = .ok (.lastore, 1) := by decide +kernel
theorem dL_rule_9 : decode cL_rule 9 = .ok (.goto 6, 3) := by decide +kernel
theorem dL_rule_12 : decode cL_rule 12 = .ok (.astore_n 3, 1) := by decide +kernel
theorem dL_rule_13 : decode cL_rule 13 = .ok (.iconst 1, 1) := by decide +kernel
theorem dL_rule_14 : decode cL_rule 14 = .ok (.ireturn, 1) := by decide +kernel
theorem dL_rule_15 : decode cL_rule 15 = .ok (.iconst 0, 1) := by decide +kernel
theorem dL_rule_16 : decode cL_rule 16 = .ok (.ireturn, 1) := by decide +kernel
theorem dL_setCopies_0 : decode cL_setCopies 0 = .ok (.aload_n 3, 1) := by decide +kernel
theorem dL_setCopies_1 : decode cL_setCopies 1 = .ok (.iconst 0, 1) := by decide +kernel
theorem dL_setCopies_2 : decode cL_setCopies 2 = .ok (.aload_n 0, 1) := by decide +kernel
theorem dL_setCopies_3 : decode cL_setCopies 3 = .ok (.iload_n 1, 1) := by decide +kernel
theorem dL_setCopies_4 : decode cL_setCopies 4 = .ok (.iload_n 2, 1) := by decide +kernel
theorem dL_setCopies_5 : decode cL_setCopies 5 = .ok (.invokevirtual 27, 3) := by decide +kernel
theorem dL_setCopies_8 : decode cL_setCopies 8 = .ok (.i2l, 1) := by decide +kernel
theorem dL_setCopies_9 : decode cL_setCopies 9 = .ok (.lastore, 1) := by decide +kernel
theorem dL_setCopies_10 : decode cL_setCopies 10 = .ok (.goto 11, 3) := by decide +kernel
theorem dL_setCopies_13 : decode cL_setCopies 13 = .ok (.astore 4, 2) := by decide +kernel
theorem dL_setCopies_15 : decode cL_setCopies 15 = .ok (.iconst 1, 1) := by decide +kernel
theorem dL_setCopies_16 : decode cL_setCopies 16 = .ok (.ireturn, 1) := by decide +kernel
theorem dL_setCopies_17 : decode cL_setCopies 17 = .ok (.astore 4, 2) := by decide +kernel
theorem dL_setCopies_19 : decode cL_setCopies 19 = .ok (.iconst 2, 1) := by decide +kernel
theorem dL_setCopies_20 : decode cL_setCopies 20 = .ok (.ireturn, 1) := by decide +kernel
theorem dL_setCopies_21 : decode cL_setCopies 21 = .ok (.iconst 0, 1) := by decide +kernel
theorem dL_setCopies_22 : decode cL_setCopies 22 = .ok (.ireturn, 1) := by decide +kernel
theorem dL_addTask_0 : decode cL_addTask 0 = .ok (.aload 5, 2) := by decide +kernel
theorem dL_addTask_2 : decode cL_addTask 2 = .ok (.iconst 0, 1) := by decide +kernel
theorem dL_addTask_3 : decode cL_addTask 3 = .ok (.aload_n 0, 1) := by decide +kernel
theorem dL_addTask_4 : decode cL_addTask 4 = .ok (.iload_n 1, 1) := by decide +kernel
theorem dL_addTask_5 : decode cL_addTask 5 = .ok (.iload_n 2, 1) := by decide +kernel
theorem dL_addTask_6 : decode cL_addTask 6 = .ok (.iload_n 3, 1) := by decide +kernel
theorem dL_addTask_7 : decode cL_addTask 7 = .ok (.iload 4, 2) := by decide +kernel
theorem dL_addTask_9 : decode cL_addTask 9 = .ok (.invokevirtual 30, 3) := by decide +kernel
theorem dL_addTask_12 : decode cL_addTask 12 = .ok (.i2l, 1) := by decide +kernel
theorem dL_addTask_13 : decode cL_addTask 13 = .ok (.lastore, 1) := by decide +kernel
theorem dL_addTask_14 : decode cL_addTask 14 = .ok (.goto 11, 3) := by decide +kernel
theorem dL_addTask_17 : decode cL_addTask 17 = .ok (.astore 6, 2) := by decide +kernel
theorem dL_addTask_19 : decode cL_addTask 19 = .ok (.iconst 1, 1) := by decide +kernel
theorem dL_addTask_20 : decode cL_addTask 20 = .ok (.ireturn, 1) := by decide +kernel
theorem dL_addTask_21 : decode cL_addTask 21 = .ok (.astore 6, 2) := by decide +kernel
theorem dL_addTask_23 : decode cL_addTask 23 = .ok (.iconst 2, 1) := by decide +kernel
theorem dL_addTask_24 : decode cL_addTask 24 = .ok (.ireturn, 1) := by decide +kernel
theorem dL_addTask_25 : decode cL_addTask 25 = .ok (.iconst 0, 1) := by decide +kernel
theorem dL_addTask_26 : decode cL_addTask 26 = .ok (.ireturn, 1) := by decide +kernel
theorem dL_setTime_0 : decode cL_setTime 0 = .ok (.aload 4, 2) := by decide +kernel
theorem dL_setTime_2 : decode cL_setTime 2 = .ok (.iconst 0, 1) := by decide +kernel
theorem dL_setTime_3 : decode cL_setTime 3 = .ok (.aload_n 0, 1) := by decide +kernel
theorem dL_setTime_4 : decode cL_setTime 4 = .ok (.iload_n 1, 1) := by decide +kernel
theorem dL_setTime_5 : decode cL_setTime 5 = .ok (.iload_n 2, 1) := by decide +kernel
theorem dL_setTime_6 : decode cL_setTime 6 = .ok (.iload_n 3, 1) := by decide +kernel
theorem dL_setTime_7 : decode cL_setTime 7 = .ok (.invokevirtual 36, 3) := by decide +kernel
theorem dL_setTime_10 : decode cL_setTime 10 = .ok (.i2l, 1) := by decide +kernel
theorem dL_setTime_11 : decode cL_setTime 11 = .ok (.lastore, 1) := by decide +kernel
theorem dL_setTime_12 : decode cL_setTime 12 = .ok (.goto 11, 3) := by decide +kernel
theorem dL_setTime_15 : decode cL_setTime 15 = .ok (.astore 5, 2) := by decide +kernel
theorem dL_setTime_17 : decode cL_setTime 17 = .ok (.iconst 1, 1) := by decide +kernel
theorem dL_setTime_18 : decode cL_setTime 18 = .ok (.ireturn, 1) := by decide +kernel
theorem dL_setTime_19 : decode cL_setTime 19 = .ok (.astore 5, 2) := by decide +kernel
theorem dL_setTime_21 : decode cL_setTime 21 = .ok (.iconst 2, 1) := by decide +kernel
theorem dL_setTime_22 : decode cL_setTime 22 = .ok (.ireturn, 1) := by decide +kernel
theorem dL_setTime_23 : decode cL_setTime 23 = .ok (.iconst 0, 1) := by decide +kernel
theorem dL_setTime_24 : decode cL_setTime 24 = .ok (.ireturn, 1) := by decide +kernel
theorem dL_setTool_0 : decode cL_setTool 0 = .ok (.aload_n 3, 1) := by decide +kernel
theorem dL_setTool_1 : decode cL_setTool 1 = .ok (.iconst 0, 1) := by decide +kernel
theorem dL_setTool_2 : decode cL_setTool 2 = .ok (.aload_n 0, 1) := by decide +kernel
theorem dL_setTool_3 : decode cL_setTool 3 = .ok (.iload_n 1, 1) := by decide +kernel
theorem dL_setTool_4 : decode cL_setTool 4 = .ok (.iload_n 2, 1) := by decide +kernel
theorem dL_setTool_5 : decode cL_setTool 5 = .ok (.invokevirtual 40, 3) := by decide +kernel
theorem dL_setTool_8 : decode cL_setTool 8 = .ok (.i2l, 1) := by decide +kernel
theorem dL_setTool_9 : decode cL_setTool 9 = .ok (.lastore, 1) := by decide +kernel
theorem dL_setTool_10 : decode cL_setTool 10 = .ok (.goto 11, 3) := by decide +kernel
theorem dL_setTool_13 : decode cL_setTool 13 = .ok (.astore 4, 2) := by decide +kernel
theorem dL_setTool_15 : decode cL_setTool 15 = .ok (.iconst 1, 1) := by decide +kernel
theorem dL_setTool_16 : decode cL_setTool 16 = .ok (.ireturn, 1) := by decide +kernel
theorem dL_setTool_17 : decode cL_setTool 17 = .ok (.astore 4, 2) := by decide +kernel
theorem dL_setTool_19 : decode cL_setTool 19 = .ok (.iconst 2, 1) := by decide +kernel
theorem dL_setTool_20 : decode cL_setTool 20 = .ok (.ireturn, 1) := by decide +kernel
theorem dL_setTool_21 : decode cL_setTool 21 = .ok (.iconst 0, 1) := by decide +kernel
theorem dL_setTool_22 : decode cL_setTool 22 = .ok (.ireturn, 1) := by decide +kernel
theorem dL_before_0 : decode cL_before 0 = .ok (.aload_n 3, 1) := by decide +kernel
theorem dL_before_1 : decode cL_before 1 = .ok (.iconst 0, 1) := by decide +kernel
theorem dL_before_2 : decode cL_before 2 = .ok (.aload_n 0, 1) := by decide +kernel
theorem dL_before_3 : decode cL_before 3 = .ok (.iload_n 1, 1) := by decide +kernel
theorem dL_before_4 : decode cL_before 4 = .ok (.iload_n 2, 1) := by decide +kernel
theorem dL_before_5 : decode cL_before 5 = .ok (.invokevirtual 43, 3) := by decide +kernel
theorem dL_before_8 : decode cL_before 8 = .ok (.i2l, 1) := by decide +kernel
theorem dL_before_9 : decode cL_before 9 = .ok (.lastore, 1) := by decide +kernel
theorem dL_before_10 : decode cL_before 10 = .ok (.goto 15, 3) := by decide +kernel
theorem dL_before_13 : decode cL_before 13 = .ok (.astore 4, 2) := by decide +kernel
theorem dL_before_15 : decode cL_before 15 = .ok (.iconst 1, 1) := by decide +kernel
theorem dL_before_16 : decode cL_before 16 = .ok (.ireturn, 1) := by decide +kernel
theorem dL_before_17 : decode cL_before 17 = .ok (.astore 4, 2) := by decide +kernel
theorem dL_before_19 : decode cL_before 19 = .ok (.iconst 2, 1) := by decide +kernel
theorem dL_before_20 : decode cL_before 20 = .ok (.ireturn, 1) := by decide +kernel
theorem dL_before_21 : decode cL_before 21 = .ok (.astore 4, 2) := by decide +kernel
theorem dL_before_23 : decode cL_before 23 = .ok (.iconst 3, 1) := by decide +kernel
theorem dL_before_24 : decode cL_before 24 = .ok (.ireturn, 1) := by decide +kernel
theorem dL_before_25 : decode cL_before 25 = .ok (.iconst 0, 1) := by decide +kernel
theorem dL_before_26 : decode cL_before 26 = .ok (.ireturn, 1) := by decide +kernel
theorem dL_pair_0 : decode cL_pair 0 = .ok (.aload 4, 2) := by decide +kernel
theorem dL_pair_2 : decode cL_pair 2 = .ok (.iconst 0, 1) := by decide +kernel
theorem dL_pair_3 : decode cL_pair 3 = .ok (.aload_n 0, 1) := by decide +kernel
theorem dL_pair_4 : decode cL_pair 4 = .ok (.iload_n 1, 1) := by decide +kernel
theorem dL_pair_5 : decode cL_pair 5 = .ok (.iload_n 2, 1) := by decide +kernel
theorem dL_pair_6 : decode cL_pair 6 = .ok (.iload_n 3, 1) := by decide +kernel
theorem dL_pair_7 : decode cL_pair 7 = .ok (.invokevirtual 48, 3) := by decide +kernel
theorem dL_pair_10 : decode cL_pair 10 = .ok (.i2l, 1) := by decide +kernel
theorem dL_pair_11 : decode cL_pair 11 = .ok (.lastore, 1) := by decide +kernel
theorem dL_pair_12 : decode cL_pair 12 = .ok (.goto 11, 3) := by decide +kernel
theorem dL_pair_15 : decode cL_pair 15 = .ok (.astore 5, 2) := by decide +kernel
theorem dL_pair_17 : decode cL_pair 17 = .ok (.iconst 1, 1) := by decide +kernel
theorem dL_pair_18 : decode cL_pair 18 = .ok (.ireturn, 1) := by decide +kernel
theorem dL_pair_19 : decode cL_pair 19 = .ok (.astore 5, 2) := by decide +kernel
theorem dL_pair_21 : decode cL_pair 21 = .ok (.iconst 2, 1) := by decide +kernel
theorem dL_pair_22 : decode cL_pair 22 = .ok (.ireturn, 1) := by decide +kernel
theorem dL_pair_23 : decode cL_pair 23 = .ok (.iconst 0, 1) := by decide +kernel
theorem dL_pair_24 : decode cL_pair 24 = .ok (.ireturn, 1) := by decide +kernel
theorem dL_drop_0 : decode cL_drop 0 = .ok (.aload_n 3, 1) := by decide +kernel
theorem dL_drop_1 : decode cL_drop 1 = .ok (.iconst 0, 1) := by decide +kernel
theorem dL_drop_2 : decode cL_drop 2 = .ok (.aload_n 0, 1) := by decide +kernel
theorem dL_drop_3 : decode cL_drop 3 = .ok (.iload_n 1, 1) := by decide +kernel
theorem dL_drop_4 : decode cL_drop 4 = .ok (.iload_n 2, 1) := by decide +kernel
theorem dL_drop_5 : decode cL_drop 5 = .ok (.invokevirtual 52, 3) := by decide +kernel
theorem dL_drop_8 : decode cL_drop 8 = .ok (.i2l, 1) := by decide +kernel
theorem dL_drop_9 : decode cL_drop 9 = .ok (.lastore, 1) := by decide +kernel
theorem dL_drop_10 : decode cL_drop 10 = .ok (.goto 11, 3) := by decide +kernel
theorem dL_drop_13 : decode cL_drop 13 = .ok (.astore 4, 2) := by decide +kernel
theorem dL_drop_15 : decode cL_drop 15 = .ok (.iconst 1, 1) := by decide +kernel
theorem dL_drop_16 : decode cL_drop 16 = .ok (.ireturn, 1) := by decide +kernel
theorem dL_drop_17 : decode cL_drop 17 = .ok (.astore 4, 2) := by decide +kernel
theorem dL_drop_19 : decode cL_drop 19 = .ok (.iconst 2, 1) := by decide +kernel
theorem dL_drop_20 : decode cL_drop 20 = .ok (.ireturn, 1) := by decide +kernel
theorem dL_drop_21 : decode cL_drop 21 = .ok (.iconst 0, 1) := by decide +kernel
theorem dL_drop_22 : decode cL_drop 22 = .ok (.ireturn, 1) := by decide +kernel
theorem dL_task_0 : decode cL_task 0 = .ok (.aload_n 3, 1) := by decide +kernel
theorem dL_task_1 : decode cL_task 1 = .ok (.iconst 0, 1) := by decide +kernel
theorem dL_task_2 : decode cL_task 2 = .ok (.aload_n 0, 1) := by decide +kernel
theorem dL_task_3 : decode cL_task 3 = .ok (.iload_n 1, 1) := by decide +kernel
theorem dL_task_4 : decode cL_task 4 = .ok (.iload_n 2, 1) := by decide +kernel
theorem dL_task_5 : decode cL_task 5 = .ok (.invokevirtual 57, 3) := by decide +kernel
theorem dL_task_8 : decode cL_task 8 = .ok (.i2l, 1) := by decide +kernel
theorem dL_task_9 : decode cL_task 9 = .ok (.lastore, 1) := by decide +kernel
theorem dL_task_10 : decode cL_task 10 = .ok (.goto 11, 3) := by decide +kernel
theorem dL_task_13 : decode cL_task 13 = .ok (.astore 4, 2) := by decide +kernel
theorem dL_task_15 : decode cL_task 15 = .ok (.iconst 1, 1) := by decide +kernel
theorem dL_task_16 : decode cL_task 16 = .ok (.ireturn, 1) := by decide +kernel
theorem dL_task_17 : decode cL_task 17 = .ok (.astore 4, 2) := by decide +kernel
theorem dL_task_19 : decode cL_task 19 = .ok (.iconst 2, 1) := by decide +kernel
theorem dL_task_20 : decode cL_task 20 = .ok (.ireturn, 1) := by decide +kernel
theorem dL_task_21 : decode cL_task 21 = .ok (.iconst 0, 1) := by decide +kernel
theorem dL_task_22 : decode cL_task 22 = .ok (.ireturn, 1) := by decide +kernel
theorem dL_priority_0 : decode cL_priority 0 = .ok (.aload_n 3, 1) := by decide +kernel
theorem dL_priority_1 : decode cL_priority 1 = .ok (.iconst 0, 1) := by decide +kernel
theorem dL_priority_2 : decode cL_priority 2 = .ok (.aload_n 0, 1) := by decide +kernel
theorem dL_priority_3 : decode cL_priority 3 = .ok (.iload_n 1, 1) := by decide +kernel
theorem dL_priority_4 : decode cL_priority 4 = .ok (.iload_n 2, 1) := by decide +kernel
theorem dL_priority_5 : decode cL_priority 5 = .ok (.invokevirtual 60, 3) := by decide +kernel
theorem dL_priority_8 : decode cL_priority 8 = .ok (.i2l, 1) := by decide +kernel
theorem dL_priority_9 : decode cL_priority 9 = .ok (.lastore, 1) := by decide +kernel
theorem dL_priority_10 : decode cL_priority 10 = .ok (.goto 11, 3) := by decide +kernel
theorem dL_priority_13 : decode cL_priority 13 = .ok (.astore 4, 2) := by decide +kernel
theorem dL_priority_15 : decode cL_priority 15 = .ok (.iconst 1, 1) := by decide +kernel
theorem dL_priority_16 : decode cL_priority 16 = .ok (.ireturn, 1) := by decide +kernel
theorem dL_priority_17 : decode cL_priority 17 = .ok (.astore 4, 2) := by decide +kernel
theorem dL_priority_19 : decode cL_priority 19 = .ok (.iconst 2, 1) := by decide +kernel
theorem dL_priority_20 : decode cL_priority 20 = .ok (.ireturn, 1) := by decide +kernel
theorem dL_priority_21 : decode cL_priority 21 = .ok (.iconst 0, 1) := by decide +kernel
theorem dL_priority_22 : decode cL_priority 22 = .ok (.ireturn, 1) := by decide +kernel
theorem dL_assign_0 : decode cL_assign 0 = .ok (.aload_n 3, 1) := by decide +kernel
theorem dL_assign_1 : decode cL_assign 1 = .ok (.iconst 0, 1) := by decide +kernel
theorem dL_assign_2 : decode cL_assign 2 = .ok (.aload_n 0, 1) := by decide +kernel
theorem dL_assign_3 : decode cL_assign 3 = .ok (.iload_n 1, 1) := by decide +kernel
theorem dL_assign_4 : decode cL_assign 4 = .ok (.iload_n 2, 1) := by decide +kernel
theorem dL_assign_5 : decode cL_assign 5 = .ok (.invokevirtual 63, 3) := by decide +kernel
theorem dL_assign_8 : decode cL_assign 8 = .ok (.i2l, 1) := by decide +kernel
theorem dL_assign_9 : decode cL_assign 9 = .ok (.lastore, 1) := by decide +kernel
theorem dL_assign_10 : decode cL_assign 10 = .ok (.goto 11, 3) := by decide +kernel
theorem dL_assign_13 : decode cL_assign 13 = .ok (.astore 4, 2) := by decide +kernel
theorem dL_assign_15 : decode cL_assign 15 = .ok (.iconst 1, 1) := by decide +kernel
theorem dL_assign_16 : decode cL_assign 16 = .ok (.ireturn, 1) := by decide +kernel
theorem dL_assign_17 : decode cL_assign 17 = .ok (.astore 4, 2) := by decide +kernel
theorem dL_assign_19 : decode cL_assign 19 = .ok (.iconst 2, 1) := by decide +kernel
theorem dL_assign_20 : decode cL_assign 20 = .ok (.ireturn, 1) := by decide +kernel
theorem dL_assign_21 : decode cL_assign 21 = .ok (.iconst 0, 1) := by decide +kernel
theorem dL_assign_22 : decode cL_assign 22 = .ok (.ireturn, 1) := by decide +kernel
theorem dL_reason_0 : decode cL_reason 0 = .ok (.aload_n 3, 1) := by decide +kernel
theorem dL_reason_1 : decode cL_reason 1 = .ok (.iconst 0, 1) := by decide +kernel
theorem dL_reason_2 : decode cL_reason 2 = .ok (.aload_n 0, 1) := by decide +kernel
theorem dL_reason_3 : decode cL_reason 3 = .ok (.iload_n 1, 1) := by decide +kernel
theorem dL_reason_4 : decode cL_reason 4 = .ok (.iload_n 2, 1) := by decide +kernel
theorem dL_reason_5 : decode cL_reason 5 = .ok (.invokevirtual 66, 3) := by decide +kernel
theorem dL_reason_8 : decode cL_reason 8 = .ok (.i2l, 1) := by decide +kernel
theorem dL_reason_9 : decode cL_reason 9 = .ok (.lastore, 1) := by decide +kernel
theorem dL_reason_10 : decode cL_reason 10 = .ok (.goto 7, 3) := by decide +kernel
theorem dL_reason_13 : decode cL_reason 13 = .ok (.astore 4, 2) := by decide +kernel
theorem dL_reason_15 : decode cL_reason 15 = .ok (.iconst 1, 1) := by decide +kernel
theorem dL_reason_16 : decode cL_reason 16 = .ok (.ireturn, 1) := by decide +kernel
theorem dL_reason_17 : decode cL_reason 17 = .ok (.iconst 0, 1) := by decide +kernel
theorem dL_reason_18 : decode cL_reason 18 = .ok (.ireturn, 1) := by decide +kernel
theorem dL_whyNot_0 : decode cL_whyNot 0 = .ok (.aload_n 1, 1) := by decide +kernel
theorem dL_whyNot_1 : decode cL_whyNot 1 = .ok (.iconst 0, 1) := by decide +kernel
theorem dL_whyNot_2 : decode cL_whyNot 2 = .ok (.aload_n 0, 1) := by decide +kernel
theorem dL_whyNot_3 : decode cL_whyNot 3 = .ok (.invokevirtual 69, 3) := by decide +kernel
theorem dL_whyNot_6 : decode cL_whyNot 6 = .ok (.i2l, 1) := by decide +kernel
theorem dL_whyNot_7 : decode cL_whyNot 7 = .ok (.lastore, 1) := by decide +kernel
theorem dL_whyNot_8 : decode cL_whyNot 8 = .ok (.goto 6, 3) := by decide +kernel
theorem dL_whyNot_11 : decode cL_whyNot 11 = .ok (.astore_n 2, 1) := by decide +kernel
theorem dL_whyNot_12 : decode cL_whyNot 12 = .ok (.iconst 1, 1) := by decide +kernel
theorem dL_whyNot_13 : decode cL_whyNot 13 = .ok (.ireturn, 1) := by decide +kernel
theorem dL_whyNot_14 : decode cL_whyNot 14 = .ok (.iconst 0, 1) := by decide +kernel
theorem dL_whyNot_15 : decode cL_whyNot 15 = .ok (.ireturn, 1) := by decide +kernel
theorem dL_station_0 : decode cL_station 0 = .ok (.aload_n 3, 1) := by decide +kernel
theorem dL_station_1 : decode cL_station 1 = .ok (.iconst 0, 1) := by decide +kernel
theorem dL_station_2 : decode cL_station 2 = .ok (.aload_n 0, 1) := by decide +kernel
theorem dL_station_3 : decode cL_station 3 = .ok (.iload_n 1, 1) := by decide +kernel
theorem dL_station_4 : decode cL_station 4 = .ok (.iload_n 2, 1) := by decide +kernel
theorem dL_station_5 : decode cL_station 5 = .ok (.invokevirtual 73, 3) := by decide +kernel
theorem dL_station_8 : decode cL_station 8 = .ok (.i2l, 1) := by decide +kernel
theorem dL_station_9 : decode cL_station 9 = .ok (.lastore, 1) := by decide +kernel
theorem dL_station_10 : decode cL_station 10 = .ok (.goto 11, 3) := by decide +kernel
theorem dL_station_13 : decode cL_station 13 = .ok (.astore 4, 2) := by decide +kernel
theorem dL_station_15 : decode cL_station 15 = .ok (.iconst 1, 1) := by decide +kernel
theorem dL_station_16 : decode cL_station 16 = .ok (.ireturn, 1) := by decide +kernel
theorem dL_station_17 : decode cL_station 17 = .ok (.astore 4, 2) := by decide +kernel
theorem dL_station_19 : decode cL_station 19 = .ok (.iconst 2, 1) := by decide +kernel
theorem dL_station_20 : decode cL_station 20 = .ok (.ireturn, 1) := by decide +kernel
theorem dL_station_21 : decode cL_station 21 = .ok (.iconst 0, 1) := by decide +kernel
theorem dL_station_22 : decode cL_station 22 = .ok (.ireturn, 1) := by decide +kernel
theorem dL_time_0 : decode cL_time 0 = .ok (.aload 4, 2) := by decide +kernel
theorem dL_time_2 : decode cL_time 2 = .ok (.iconst 0, 1) := by decide +kernel
theorem dL_time_3 : decode cL_time 3 = .ok (.aload_n 0, 1) := by decide +kernel
theorem dL_time_4 : decode cL_time 4 = .ok (.iload_n 1, 1) := by decide +kernel
theorem dL_time_5 : decode cL_time 5 = .ok (.iload_n 2, 1) := by decide +kernel
theorem dL_time_6 : decode cL_time 6 = .ok (.iload_n 3, 1) := by decide +kernel
theorem dL_time_7 : decode cL_time 7 = .ok (.invokevirtual 76, 3) := by decide +kernel
theorem dL_time_10 : decode cL_time 10 = .ok (.i2l, 1) := by decide +kernel
theorem dL_time_11 : decode cL_time 11 = .ok (.lastore, 1) := by decide +kernel
theorem dL_time_12 : decode cL_time 12 = .ok (.goto 7, 3) := by decide +kernel
theorem dL_time_15 : decode cL_time 15 = .ok (.astore 5, 2) := by decide +kernel
theorem dL_time_17 : decode cL_time 17 = .ok (.iconst 1, 1) := by decide +kernel
theorem dL_time_18 : decode cL_time 18 = .ok (.ireturn, 1) := by decide +kernel
theorem dL_time_19 : decode cL_time 19 = .ok (.iconst 0, 1) := by decide +kernel
theorem dL_time_20 : decode cL_time 20 = .ok (.ireturn, 1) := by decide +kernel
theorem dL_sequence_0 : decode cL_sequence 0 = .ok (.aload_n 3, 1) := by decide +kernel
theorem dL_sequence_1 : decode cL_sequence 1 = .ok (.iconst 0, 1) := by decide +kernel
theorem dL_sequence_2 : decode cL_sequence 2 = .ok (.aload_n 0, 1) := by decide +kernel
theorem dL_sequence_3 : decode cL_sequence 3 = .ok (.iload_n 1, 1) := by decide +kernel
theorem dL_sequence_4 : decode cL_sequence 4 = .ok (.iload_n 2, 1) := by decide +kernel
theorem dL_sequence_5 : decode cL_sequence 5 = .ok (.invokevirtual 79, 3) := by decide +kernel
theorem dL_sequence_8 : decode cL_sequence 8 = .ok (.i2l, 1) := by decide +kernel
theorem dL_sequence_9 : decode cL_sequence 9 = .ok (.lastore, 1) := by decide +kernel
theorem dL_sequence_10 : decode cL_sequence 10 = .ok (.goto 11, 3) := by decide +kernel
theorem dL_sequence_13 : decode cL_sequence 13 = .ok (.astore 4, 2) := by decide +kernel
theorem dL_sequence_15 : decode cL_sequence 15 = .ok (.iconst 1, 1) := by decide +kernel
theorem dL_sequence_16 : decode cL_sequence 16 = .ok (.ireturn, 1) := by decide +kernel
theorem dL_sequence_17 : decode cL_sequence 17 = .ok (.astore 4, 2) := by decide +kernel
theorem dL_sequence_19 : decode cL_sequence 19 = .ok (.iconst 2, 1) := by decide +kernel
theorem dL_sequence_20 : decode cL_sequence 20 = .ok (.ireturn, 1) := by decide +kernel
theorem dL_sequence_21 : decode cL_sequence 21 = .ok (.iconst 0, 1) := by decide +kernel
theorem dL_sequence_22 : decode cL_sequence 22 = .ok (.ireturn, 1) := by decide +kernel
theorem dL_line_0 : decode cL_line 0 = .ok (.aload_n 2, 1) := by decide +kernel
theorem dL_line_1 : decode cL_line 1 = .ok (.iconst 0, 1) := by decide +kernel
theorem dL_line_2 : decode cL_line 2 = .ok (.aload_n 0, 1) := by decide +kernel
theorem dL_line_3 : decode cL_line 3 = .ok (.iload_n 1, 1) := by decide +kernel
theorem dL_line_4 : decode cL_line 4 = .ok (.invokevirtual 82, 3) := by decide +kernel
theorem dL_line_7 : decode cL_line 7 = .ok (.i2l, 1) := by decide +kernel
theorem dL_line_8 : decode cL_line 8 = .ok (.lastore, 1) := by decide +kernel
theorem dL_line_9 : decode cL_line 9 = .ok (.goto 6, 3) := by decide +kernel
theorem dL_line_12 : decode cL_line 12 = .ok (.astore_n 3, 1) := by decide +kernel
theorem dL_line_13 : decode cL_line 13 = .ok (.iconst 1, 1) := by decide +kernel
theorem dL_line_14 : decode cL_line 14 = .ok (.ireturn, 1) := by decide +kernel
theorem dL_line_15 : decode cL_line 15 = .ok (.iconst 0, 1) := by decide +kernel
theorem dL_line_16 : decode cL_line 16 = .ok (.ireturn, 1) := by decide +kernel
theorem dL_efficiency_0 : decode cL_efficiency 0 = .ok (.aload_n 1, 1) := by decide +kernel
theorem dL_efficiency_1 : decode cL_efficiency 1 = .ok (.iconst 0, 1) := by decide +kernel
theorem dL_efficiency_2 : decode cL_efficiency 2 = .ok (.aload_n 0, 1) := by decide +kernel
theorem dL_efficiency_3 : decode cL_efficiency 3 = .ok (.invokevirtual 85, 3) := by decide +kernel
theorem dL_efficiency_6 : decode cL_efficiency 6 = .ok (.f2d, 1) := by decide +kernel
theorem dL_efficiency_7 : decode cL_efficiency 7 = .ok (.dastore, 1) := by decide +kernel
theorem dL_efficiency_8 : decode cL_efficiency 8 = .ok (.goto 6, 3) := by decide +kernel
theorem dL_efficiency_11 : decode cL_efficiency 11 = .ok (.astore_n 2, 1) := by decide +kernel
theorem dL_efficiency_12 : decode cL_efficiency 12 = .ok (.iconst 1, 1) := by decide +kernel
theorem dL_efficiency_13 : decode cL_efficiency 13 = .ok (.ireturn, 1) := by decide +kernel
theorem dL_efficiency_14 : decode cL_efficiency 14 = .ok (.iconst 0, 1) := by decide +kernel
theorem dL_efficiency_15 : decode cL_efficiency 15 = .ok (.ireturn, 1) := by decide +kernel
theorem dL_fill_0 : decode cL_fill 0 = .ok (.aload_n 2, 1) := by decide +kernel
theorem dL_fill_1 : decode cL_fill 1 = .ok (.iconst 0, 1) := by decide +kernel
theorem dL_fill_2 : decode cL_fill 2 = .ok (.aload_n 0, 1) := by decide +kernel
theorem dL_fill_3 : decode cL_fill 3 = .ok (.iload_n 1, 1) := by decide +kernel
theorem dL_fill_4 : decode cL_fill 4 = .ok (.invokevirtual 91, 3) := by decide +kernel
theorem dL_fill_7 : decode cL_fill 7 = .ok (.i2l, 1) := by decide +kernel
theorem dL_fill_8 : decode cL_fill 8 = .ok (.lastore, 1) := by decide +kernel
theorem dL_fill_9 : decode cL_fill 9 = .ok (.goto 9, 3) := by decide +kernel
theorem dL_fill_12 : decode cL_fill 12 = .ok (.astore_n 3, 1) := by decide +kernel
theorem dL_fill_13 : decode cL_fill 13 = .ok (.iconst 1, 1) := by decide +kernel
theorem dL_fill_14 : decode cL_fill 14 = .ok (.ireturn, 1) := by decide +kernel
theorem dL_fill_15 : decode cL_fill 15 = .ok (.astore_n 3, 1) := by decide +kernel
theorem dL_fill_16 : decode cL_fill 16 = .ok (.iconst 2, 1) := by decide +kernel
theorem dL_fill_17 : decode cL_fill 17 = .ok (.ireturn, 1) := by decide +kernel
theorem dL_fill_18 : decode cL_fill 18 = .ok (.iconst 0, 1) := by decide +kernel
theorem dL_fill_19 : decode cL_fill 19 = .ok (.ireturn, 1) := by decide +kernel
theorem dL_least_0 : decode cL_least 0 = .ok (.aload_n 1, 1) := by decide +kernel
theorem dL_least_1 : decode cL_least 1 = .ok (.iconst 0, 1) := by decide +kernel
theorem dL_least_2 : decode cL_least 2 = .ok (.aload_n 0, 1) := by decide +kernel
theorem dL_least_3 : decode cL_least 3 = .ok (.invokevirtual 94, 3) := by decide +kernel
theorem dL_least_6 : decode cL_least 6 = .ok (.i2l, 1) := by decide +kernel
theorem dL_least_7 : decode cL_least 7 = .ok (.lastore, 1) := by decide +kernel
theorem dL_least_8 : decode cL_least 8 = .ok (.goto 9, 3) := by decide +kernel
theorem dL_least_11 : decode cL_least 11 = .ok (.astore_n 2, 1) := by decide +kernel
theorem dL_least_12 : decode cL_least 12 = .ok (.iconst 1, 1) := by decide +kernel
theorem dL_least_13 : decode cL_least 13 = .ok (.ireturn, 1) := by decide +kernel
theorem dL_least_14 : decode cL_least 14 = .ok (.astore_n 2, 1) := by decide +kernel
theorem dL_least_15 : decode cL_least 15 = .ok (.iconst 2, 1) := by decide +kernel
theorem dL_least_16 : decode cL_least 16 = .ok (.ireturn, 1) := by decide +kernel
theorem dL_least_17 : decode cL_least 17 = .ok (.iconst 0, 1) := by decide +kernel
theorem dL_least_18 : decode cL_least 18 = .ok (.ireturn, 1) := by decide +kernel
theorem dL_ways_0 : decode cL_ways 0 = .ok (.aload_n 2, 1) := by decide +kernel
theorem dL_ways_1 : decode cL_ways 1 = .ok (.iconst 0, 1) := by decide +kernel
theorem dL_ways_2 : decode cL_ways 2 = .ok (.aload_n 0, 1) := by decide +kernel
theorem dL_ways_3 : decode cL_ways 3 = .ok (.iload_n 1, 1) := by decide +kernel
theorem dL_ways_4 : decode cL_ways 4 = .ok (.invokevirtual 97, 3) := by decide +kernel
theorem dL_ways_7 : decode cL_ways 7 = .ok (.lastore, 1) := by decide +kernel
theorem dL_ways_8 : decode cL_ways 8 = .ok (.goto 9, 3) := by decide +kernel
theorem dL_ways_11 : decode cL_ways 11 = .ok (.astore_n 3, 1) := by decide +kernel
theorem dL_ways_12 : decode cL_ways 12 = .ok (.iconst 1, 1) := by decide +kernel
theorem dL_ways_13 : decode cL_ways 13 = .ok (.ireturn, 1) := by decide +kernel
theorem dL_ways_14 : decode cL_ways 14 = .ok (.astore_n 3, 1) := by decide +kernel
theorem dL_ways_15 : decode cL_ways 15 = .ok (.iconst 2, 1) := by decide +kernel
theorem dL_ways_16 : decode cL_ways 16 = .ok (.ireturn, 1) := by decide +kernel
theorem dL_ways_17 : decode cL_ways 17 = .ok (.iconst 0, 1) := by decide +kernel
theorem dL_ways_18 : decode cL_ways 18 = .ok (.ireturn, 1) := by decide +kernel
theorem dL_takeLeast_0 : decode cL_takeLeast 0 = .ok (.aload_n 1, 1) := by decide +kernel
theorem dL_takeLeast_1 : decode cL_takeLeast 1 = .ok (.iconst 0, 1) := by decide +kernel
theorem dL_takeLeast_2 : decode cL_takeLeast 2 = .ok (.aload_n 0, 1) := by decide +kernel
theorem dL_takeLeast_3 : decode cL_takeLeast 3 = .ok (.invokevirtual 101, 3) := by decide +kernel
theorem dL_takeLeast_6 : decode cL_takeLeast 6 = .ok (.i2l, 1) := by decide +kernel
theorem dL_takeLeast_7 : decode cL_takeLeast 7 = .ok (.lastore, 1) := by decide +kernel
theorem dL_takeLeast_8 : decode cL_takeLeast 8 = .ok (.goto 9, 3) := by decide +kernel
theorem dL_takeLeast_11 : decode cL_takeLeast 11 = .ok (.astore_n 2, 1) := by decide +kernel
theorem dL_takeLeast_12 : decode cL_takeLeast 12 = .ok (.iconst 1, 1) := by decide +kernel
theorem dL_takeLeast_13 : decode cL_takeLeast 13 = .ok (.ireturn, 1) := by decide +kernel
theorem dL_takeLeast_14 : decode cL_takeLeast 14 = .ok (.astore_n 2, 1) := by decide +kernel
theorem dL_takeLeast_15 : decode cL_takeLeast 15 = .ok (.iconst 2, 1) := by decide +kernel
theorem dL_takeLeast_16 : decode cL_takeLeast 16 = .ok (.ireturn, 1) := by decide +kernel
theorem dL_takeLeast_17 : decode cL_takeLeast 17 = .ok (.iconst 0, 1) := by decide +kernel
theorem dL_takeLeast_18 : decode cL_takeLeast 18 = .ok (.ireturn, 1) := by decide +kernel
theorem dL_feed_0 : decode cL_feed 0 = .ok (.aload_n 2, 1) := by decide +kernel
theorem dL_feed_1 : decode cL_feed 1 = .ok (.iconst 0, 1) := by decide +kernel
theorem dL_feed_2 : decode cL_feed 2 = .ok (.aload_n 0, 1) := by decide +kernel
theorem dL_feed_3 : decode cL_feed 3 = .ok (.iload_n 1, 1) := by decide +kernel
theorem dL_feed_4 : decode cL_feed 4 = .ok (.invokevirtual 104, 3) := by decide +kernel
theorem dL_feed_7 : decode cL_feed 7 = .ok (.i2l, 1) := by decide +kernel
theorem dL_feed_8 : decode cL_feed 8 = .ok (.lastore, 1) := by decide +kernel
theorem dL_feed_9 : decode cL_feed 9 = .ok (.goto 6, 3) := by decide +kernel
theorem dL_feed_12 : decode cL_feed 12 = .ok (.astore_n 3, 1) := by decide +kernel
theorem dL_feed_13 : decode cL_feed 13 = .ok (.iconst 1, 1) := by decide +kernel
theorem dL_feed_14 : decode cL_feed 14 = .ok (.ireturn, 1) := by decide +kernel
theorem dL_feed_15 : decode cL_feed 15 = .ok (.iconst 0, 1) := by decide +kernel
theorem dL_feed_16 : decode cL_feed 16 = .ok (.ireturn, 1) := by decide +kernel
theorem dL_read_0 : decode cL_read 0 = .ok (.aload_n 1, 1) := by decide +kernel
theorem dL_read_1 : decode cL_read 1 = .ok (.iconst 0, 1) := by decide +kernel
theorem dL_read_2 : decode cL_read 2 = .ok (.aload_n 0, 1) := by decide +kernel
theorem dL_read_3 : decode cL_read 3 = .ok (.invokevirtual 108, 3) := by decide +kernel
theorem dL_read_6 : decode cL_read 6 = .ok (.i2l, 1) := by decide +kernel
theorem dL_read_7 : decode cL_read 7 = .ok (.lastore, 1) := by decide +kernel
theorem dL_read_8 : decode cL_read 8 = .ok (.goto 6, 3) := by decide +kernel
theorem dL_read_11 : decode cL_read 11 = .ok (.astore_n 2, 1) := by decide +kernel
theorem dL_read_12 : decode cL_read 12 = .ok (.iconst 1, 1) := by decide +kernel
theorem dL_read_13 : decode cL_read 13 = .ok (.ireturn, 1) := by decide +kernel
theorem dL_read_14 : decode cL_read 14 = .ok (.iconst 0, 1) := by decide +kernel
theorem dL_read_15 : decode cL_read 15 = .ok (.ireturn, 1) := by decide +kernel
theorem dL_undo_0 : decode cL_undo 0 = .ok (.aload_n 1, 1) := by decide +kernel
theorem dL_undo_1 : decode cL_undo 1 = .ok (.iconst 0, 1) := by decide +kernel
theorem dL_undo_2 : decode cL_undo 2 = .ok (.aload_n 0, 1) := by decide +kernel
theorem dL_undo_3 : decode cL_undo 3 = .ok (.invokevirtual 111, 3) := by decide +kernel
theorem dL_undo_6 : decode cL_undo 6 = .ok (.i2l, 1) := by decide +kernel
theorem dL_undo_7 : decode cL_undo 7 = .ok (.lastore, 1) := by decide +kernel
theorem dL_undo_8 : decode cL_undo 8 = .ok (.goto 6, 3) := by decide +kernel
theorem dL_undo_11 : decode cL_undo 11 = .ok (.astore_n 2, 1) := by decide +kernel
theorem dL_undo_12 : decode cL_undo 12 = .ok (.iconst 1, 1) := by decide +kernel
theorem dL_undo_13 : decode cL_undo 13 = .ok (.ireturn, 1) := by decide +kernel
theorem dL_undo_14 : decode cL_undo 14 = .ok (.iconst 0, 1) := by decide +kernel
theorem dL_undo_15 : decode cL_undo 15 = .ok (.ireturn, 1) := by decide +kernel
theorem dL_restore_0 : decode cL_restore 0 = .ok (.aload_n 1, 1) := by decide +kernel
theorem dL_restore_1 : decode cL_restore 1 = .ok (.iconst 0, 1) := by decide +kernel
theorem dL_restore_2 : decode cL_restore 2 = .ok (.aload_n 0, 1) := by decide +kernel
theorem dL_restore_3 : decode cL_restore 3 = .ok (.invokevirtual 114, 3) := by decide +kernel
theorem dL_restore_6 : decode cL_restore 6 = .ok (.i2l, 1) := by decide +kernel
theorem dL_restore_7 : decode cL_restore 7 = .ok (.lastore, 1) := by decide +kernel
theorem dL_restore_8 : decode cL_restore 8 = .ok (.goto 6, 3) := by decide +kernel
theorem dL_restore_11 : decode cL_restore 11 = .ok (.astore_n 2, 1) := by decide +kernel
theorem dL_restore_12 : decode cL_restore 12 = .ok (.iconst 1, 1) := by decide +kernel
theorem dL_restore_13 : decode cL_restore 13 = .ok (.ireturn, 1) := by decide +kernel
theorem dL_restore_14 : decode cL_restore 14 = .ok (.iconst 0, 1) := by decide +kernel
theorem dL_restore_15 : decode cL_restore 15 = .ok (.ireturn, 1) := by decide +kernel
