theorem dX1_init_0 : decode cX1_init 0 = .ok (.aload_n 0, 1) := by decide +kernel
theorem dX1_init_1 : decode cX1_init 1 = .ok (.invokespecial 3, 3) := by decide +kernel
theorem dX1_init_4 : decode cX1_init 4 = .ok (.aload_n 0, 1) := by decide +kernel
theorem dX1_init_5 : decode cX1_init 5 = .ok (.bipush 9, 2) := by decide +kernel
theorem dX1_init_7 : decode cX1_init 7 = .ok (.anewarray 9, 3) := by decide +kernel
theorem dX1_init_10 : decode cX1_init 10 = .ok (.putfield 11, 3) := by decide +kernel
theorem dX1_init_13 : decode cX1_init 13 = .ok (.iconst 0, 1) := by decide +kernel
theorem dX1_init_14 : decode cX1_init 14 = .ok (.istore_n 1, 1) := by decide +kernel
theorem dX1_init_15 : decode cX1_init 15 = .ok (.iload_n 1, 1) := by decide +kernel
theorem dX1_init_16 : decode cX1_init 16 = .ok (.bipush 9, 2) := by decide +kernel
theorem dX1_init_18 : decode cX1_init 18 = .ok (.if_icmp .ge 22, 3) := by decide +kernel
theorem dX1_init_21 : decode cX1_init 21 = .ok (.aload_n 0, 1) := by decide +kernel
theorem dX1_init_22 : decode cX1_init 22 = .ok (.getfield 11, 3) := by decide +kernel
theorem dX1_init_25 : decode cX1_init 25 = .ok (.iload_n 1, 1) := by decide +kernel
theorem dX1_init_26 : decode cX1_init 26 = .ok (.new 9, 3) := by decide +kernel
theorem dX1_init_29 : decode cX1_init 29 = .ok (.dup, 1) := by decide +kernel
theorem dX1_init_30 : decode cX1_init 30 = .ok (.invokespecial 15, 3) := by decide +kernel
theorem dX1_init_33 : decode cX1_init 33 = .ok (.aastore, 1) := by decide +kernel
theorem dX1_init_34 : decode cX1_init 34 = .ok (.iinc 1 1, 3) := by decide +kernel
theorem dX1_init_37 : decode cX1_init 37 = .ok (.goto (-22), 3) := by decide +kernel
theorem dX1_init_40 : decode cX1_init 40 = .ok (.return_, 1) := by decide +kernel
theorem dX1_begin_0 : decode cX1_begin 0 = .ok (.aload_n 0, 1) := by decide +kernel
theorem dX1_begin_1 : decode cX1_begin 1 = .ok (.getfield 11, 3) := by decide +kernel
theorem dX1_begin_4 : decode cX1_begin 4 = .ok (.aload_n 0, 1) := by decide +kernel
theorem dX1_begin_5 : decode cX1_begin 5 = .ok (.getfield 16, 3) := by decide +kernel
theorem dX1_begin_8 : decode cX1_begin 8 = .ok (.aaload, 1) := by decide +kernel
theorem dX1_begin_9 : decode cX1_begin 9 = .ok (.aload_n 1, 1) := by decide +kernel
theorem dX1_begin_10 : decode cX1_begin 10 = .ok (.invokevirtual 20, 3) := by decide +kernel
theorem dX1_begin_13 : decode cX1_begin 13 = .ok (.return_, 1) := by decide +kernel
theorem dX1_finish_0 : decode cX1_finish 0 = .ok (.aload_n 0, 1) := by decide +kernel
theorem dX1_finish_1 : decode cX1_finish 1 = .ok (.aload_n 0, 1) := by decide +kernel
theorem dX1_finish_2 : decode cX1_finish 2 = .ok (.getfield 16, 3) := by decide +kernel
theorem dX1_finish_5 : decode cX1_finish 5 = .ok (.iconst 1, 1) := by decide +kernel
theorem dX1_finish_6 : decode cX1_finish 6 = .ok (.iadd, 1) := by decide +kernel
theorem dX1_finish_7 : decode cX1_finish 7 = .ok (.bipush 9, 2) := by decide +kernel
theorem dX1_finish_9 : decode cX1_finish 9 = .ok (.if_icmp .ge 12, 3) := by decide +kernel
theorem dX1_finish_12 : decode cX1_finish 12 = .ok (.aload_n 0, 1) := by decide +kernel
theorem dX1_finish_13 : decode cX1_finish 13 = .ok (.getfield 16, 3) := by decide +kernel
theorem dX1_finish_16 : decode cX1_finish 16 = .ok (.iconst 1, 1) := by decide +kernel
theorem dX1_finish_17 : decode cX1_finish 17 = .ok (.iadd, 1) := by decide +kernel
theorem dX1_finish_18 : decode cX1_finish 18 = .ok (.goto 4, 3) := by decide +kernel
theorem dX1_finish_21 : decode cX1_finish 21 = .ok (.iconst 0, 1) := by decide +kernel
theorem dX1_finish_22 : decode cX1_finish 22 = .ok (.putfield 16, 3) := by decide +kernel
theorem dX1_finish_25 : decode cX1_finish 25 = .ok (.aload_n 0, 1) := by decide +kernel
theorem dX1_finish_26 : decode cX1_finish 26 = .ok (.aload_n 0, 1) := by decide +kernel
theorem dX1_finish_27 : decode cX1_finish 27 = .ok (.getfield 24, 3) := by decide +kernel
theorem dX1_finish_30 : decode cX1_finish 30 = .ok (.iconst 1, 1) := by decide +kernel
theorem dX1_finish_31 : decode cX1_finish 31 = .ok (.iadd, 1) := by decide +kernel
theorem dX1_finish_32 : decode cX1_finish 32 = .ok (.bipush 8, 2) := by decide +kernel
theorem dX1_finish_34 : decode cX1_finish 34 = .ok (.invokestatic 27, 3) := by decide +kernel
theorem dX1_finish_37 : decode cX1_finish 37 = .ok (.putfield 24, 3) := by decide +kernel
theorem dX1_finish_40 : decode cX1_finish 40 = .ok (.return_, 1) := by decide +kernel
theorem dX1_cancel_0 : decode cX1_cancel 0 = .ok (.aload_n 1, 1) := by decide +kernel
theorem dX1_cancel_1 : decode cX1_cancel 1 = .ok (.aload_n 0, 1) := by decide +kernel
theorem dX1_cancel_2 : decode cX1_cancel 2 = .ok (.getfield 11, 3) := by decide +kernel
theorem dX1_cancel_5 : decode cX1_cancel 5 = .ok (.aload_n 0, 1) := by decide +kernel
theorem dX1_cancel_6 : decode cX1_cancel 6 = .ok (.getfield 16, 3) := by decide +kernel
theorem dX1_cancel_9 : decode cX1_cancel 9 = .ok (.aaload, 1) := by decide +kernel
theorem dX1_cancel_10 : decode cX1_cancel 10 = .ok (.invokevirtual 20, 3) := by decide +kernel
theorem dX1_cancel_13 : decode cX1_cancel 13 = .ok (.return_, 1) := by decide +kernel
theorem dX1_stepBack_0 : decode cX1_stepBack 0 = .ok (.aload_n 0, 1) := by decide +kernel
theorem dX1_stepBack_1 : decode cX1_stepBack 1 = .ok (.aload_n 0, 1) := by decide +kernel
theorem dX1_stepBack_2 : decode cX1_stepBack 2 = .ok (.getfield 16, 3) := by decide +kernel
theorem dX1_stepBack_5 : decode cX1_stepBack 5 = .ok (.ifCond .le 12, 3) := by decide +kernel
theorem dX1_stepBack_8 : decode cX1_stepBack 8 = .ok (.aload_n 0, 1) := by decide +kernel
theorem dX1_stepBack_9 : decode cX1_stepBack 9 = .ok (.getfield 16, 3) := by decide +kernel
theorem dX1_stepBack_12 : decode cX1_stepBack 12 = .ok (.iconst 1, 1) := by decide +kernel
theorem dX1_stepBack_13 : decode cX1_stepBack 13 = .ok (.isub, 1) := by decide +kernel
theorem dX1_stepBack_14 : decode cX1_stepBack 14 = .ok (.goto 5, 3) := by decide +kernel
theorem dX1_stepBack_17 : decode cX1_stepBack 17 = .ok (.bipush 8, 2) := by decide +kernel
theorem dX1_stepBack_19 : decode cX1_stepBack 19 = .ok (.putfield 16, 3) := by decide +kernel
theorem dX1_stepBack_22 : decode cX1_stepBack 22 = .ok (.aload_n 0, 1) := by decide +kernel
theorem dX1_stepBack_23 : decode cX1_stepBack 23 = .ok (.dup, 1) := by decide +kernel
theorem dX1_stepBack_24 : decode cX1_stepBack 24 = .ok (.getfield 24, 3) := by decide +kernel
theorem dX1_stepBack_27 : decode cX1_stepBack 27 = .ok (.iconst 1, 1) := by decide +kernel
theorem dX1_stepBack_28 : decode cX1_stepBack 28 = .ok (.isub, 1) := by decide +kernel
theorem dX1_stepBack_29 : decode cX1_stepBack 29 = .ok (.putfield 24, 3) := by decide +kernel
theorem dX1_stepBack_32 : decode cX1_stepBack 32 = .ok (.aload_n 1, 1) := by decide +kernel
theorem dX1_stepBack_33 : decode cX1_stepBack 33 = .ok (.aload_n 0, 1) := by decide +kernel
theorem dX1_stepBack_34 : decode cX1_stepBack 34 = .ok (.getfield 11, 3) := by decide +kernel
theorem dX1_stepBack_37 : decode cX1_stepBack 37 = .ok (.aload_n 0, 1) := by decide +kernel
theorem dX1_stepBack_38 : decode cX1_stepBack 38 = .ok (.getfield 16, 3) := by decide +kernel
theorem dX1_stepBack_41 : decode cX1_stepBack 41 = .ok (.aaload, 1) := by decide +kernel
theorem dX1_stepBack_42 : decode cX1_stepBack 42 = .ok (.invokevirtual 20, 3) := by decide +kernel
theorem dX1_stepBack_45 : decode cX1_stepBack 45 = .ok (.return_, 1) := by decide +kernel
theorem dX1_clear_0 : decode cX1_clear 0 = .ok (.aload_n 0, 1) := by decide +kernel
theorem dX1_clear_1 : decode cX1_clear 1 = .ok (.iconst 0, 1) := by decide +kernel
theorem dX1_clear_2 : decode cX1_clear 2 = .ok (.putfield 24, 3) := by decide +kernel
theorem dX1_clear_5 : decode cX1_clear 5 = .ok (.return_, 1) := by decide +kernel
theorem dX2_init_0 : decode cX2_init 0 = .ok (.aload_n 0, 1) := by decide +kernel
theorem dX2_init_1 : decode cX2_init 1 = .ok (.invokespecial 1, 3) := by decide +kernel
theorem dX2_init_4 : decode cX2_init 4 = .ok (.aload_n 0, 1) := by decide +kernel
theorem dX2_init_5 : decode cX2_init 5 = .ok (.bipush 80, 2) := by decide +kernel
theorem dX2_init_7 : decode cX2_init 7 = .ok (.newarray .char, 2) := by decide +kernel
theorem dX2_init_9 : decode cX2_init 9 = .ok (.putfield 9, 3) := by decide +kernel
theorem dX2_init_12 : decode cX2_init 12 = .ok (.aload_n 0, 1) := by decide +kernel
theorem dX2_init_13 : decode cX2_init 13 = .ok (.iconst 4, 1) := by decide +kernel
theorem dX2_init_14 : decode cX2_init 14 = .ok (.newarray .int, 2) := by decide +kernel
theorem dX2_init_16 : decode cX2_init 16 = .ok (.putfield 13, 3) := by decide +kernel
theorem dX2_init_19 : decode cX2_init 19 = .ok (.return_, 1) := by decide +kernel
theorem dX2_append_0 : decode cX2_append 0 = .ok (.aload_n 0, 1) := by decide +kernel
theorem dX2_append_1 : decode cX2_append 1 = .ok (.getfield 17, 3) := by decide +kernel
theorem dX2_append_4 : decode cX2_append 4 = .ok (.bipush 80, 2) := by decide +kernel
theorem dX2_append_6 : decode cX2_append 6 = .ok (.if_icmp .ge 23, 3) := by decide +kernel
theorem dX2_append_9 : decode cX2_append 9 = .ok (.aload_n 0, 1) := by decide +kernel
theorem dX2_append_10 : decode cX2_append 10 = .ok (.getfield 9, 3) := by decide +kernel
theorem dX2_append_13 : decode cX2_append 13 = .ok (.aload_n 0, 1) := by decide +kernel
theorem dX2_append_14 : decode cX2_append 14 = .ok (.getfield 17, 3) := by decide +kernel
theorem dX2_append_17 : decode cX2_append 17 = .ok (.iload_n 1, 1) := by decide +kernel
theorem dX2_append_18 : decode cX2_append 18 = .ok (.castore, 1) := by decide +kernel
theorem dX2_append_19 : decode cX2_append 19 = .ok (.aload_n 0, 1) := by decide +kernel
theorem dX2_append_20 : decode cX2_append 20 = .ok (.dup, 1) := by decide +kernel
theorem dX2_append_21 : decode cX2_append 21 = .ok (.getfield 17, 3) := by decide +kernel
theorem dX2_append_24 : decode cX2_append 24 = .ok (.iconst 1, 1) := by decide +kernel
theorem dX2_append_25 : decode cX2_append 25 = .ok (.iadd, 1) := by decide +kernel
theorem dX2_append_26 : decode cX2_append 26 = .ok (.putfield 17, 3) := by decide +kernel
theorem dX2_append_29 : decode cX2_append 29 = .ok (.return_, 1) := by decide +kernel
theorem dX2_clear_0 : decode cX2_clear 0 = .ok (.aload_n 0, 1) := by decide +kernel
theorem dX2_clear_1 : decode cX2_clear 1 = .ok (.iconst 0, 1) := by decide +kernel
theorem dX2_clear_2 : decode cX2_clear 2 = .ok (.putfield 17, 3) := by decide +kernel
theorem dX2_clear_5 : decode cX2_clear 5 = .ok (.return_, 1) := by decide +kernel
theorem dX2_rewind_0 : decode cX2_rewind 0 = .ok (.aload_n 0, 1) := by decide +kernel
theorem dX2_rewind_1 : decode cX2_rewind 1 = .ok (.iconst 0, 1) := by decide +kernel
theorem dX2_rewind_2 : decode cX2_rewind 2 = .ok (.putfield 21, 3) := by decide +kernel
theorem dX2_rewind_5 : decode cX2_rewind 5 = .ok (.return_, 1) := by decide +kernel
theorem dX2_errorPosition_0 : decode cX2_errorPosition 0 = .ok (.aload_n 0, 1) := by decide +kernel
theorem dX2_errorPosition_1 : decode cX2_errorPosition 1 = .ok (.invokevirtual 24, 3) := by decide +kernel
theorem dX2_errorPosition_4 : decode cX2_errorPosition 4 = .ok (.iconst 1, 1) := by decide +kernel
theorem dX2_errorPosition_5 : decode cX2_errorPosition 5 = .ok (.istore_n 1, 1) := by decide +kernel
theorem dX2_errorPosition_6 : decode cX2_errorPosition 6 = .ok (.iconst 0, 1) := by decide +kernel
theorem dX2_errorPosition_7 : decode cX2_errorPosition 7 = .ok (.istore_n 2, 1) := by decide +kernel
theorem dX2_errorPosition_8 : decode cX2_errorPosition 8 = .ok (.iload_n 1, 1) := by decide +kernel
theorem dX2_errorPosition_9 : decode cX2_errorPosition 9 = .ok (.ifCond .eq 34, 3) := by decide +kernel
theorem dX2_errorPosition_12 : decode cX2_errorPosition 12 = .ok (.iload_n 2, 1) := by decide +kernel
theorem dX2_errorPosition_13 : decode cX2_errorPosition 13 = .ok (.bipush 80, 2) := by decide +kernel
theorem dX2_errorPosition_15 : decode cX2_errorPosition 15 = .ok (.if_icmp .ge 28, 3) := by decide +kernel
theorem dX2_errorPosition_18 : decode cX2_errorPosition 18 = .ok (.aload_n 0, 1) := by decide +kernel
theorem dX2_errorPosition_19 : decode cX2_errorPosition 19 = .ok (.invokevirtual 27, 3) := by decide +kernel
theorem dX2_errorPosition_22 : decode cX2_errorPosition 22 = .ok (.ifCond .ne 8, 3) := by decide +kernel
theorem dX2_errorPosition_25 : decode cX2_errorPosition 25 = .ok (.aload_n 0, 1) := by decide +kernel
theorem dX2_errorPosition_26 : decode cX2_errorPosition 26 = .ok (.getfield 21, 3) := by decide +kernel
theorem dX2_errorPosition_29 : decode cX2_errorPosition 29 = .ok (.ireturn, 1) := by decide +kernel
theorem dX2_errorPosition_30 : decode cX2_errorPosition 30 = .ok (.aload_n 0, 1) := by decide +kernel
theorem dX2_errorPosition_31 : decode cX2_errorPosition 31 = .ok (.bipush 59, 2) := by decide +kernel
theorem dX2_errorPosition_33 : decode cX2_errorPosition 33 = .ok (.invokevirtual 31, 3) := by decide +kernel
theorem dX2_errorPosition_36 : decode cX2_errorPosition 36 = .ok (.istore_n 1, 1) := by decide +kernel
theorem dX2_errorPosition_37 : decode cX2_errorPosition 37 = .ok (.iinc 2 1, 3) := by decide +kernel
theorem dX2_errorPosition_40 : decode cX2_errorPosition 40 = .ok (.goto (-32), 3) := by decide +kernel
theorem dX2_errorPosition_43 : decode cX2_errorPosition 43 = .ok (.aload_n 0, 1) := by decide +kernel
theorem dX2_errorPosition_44 : decode cX2_errorPosition 44 = .ok (.getfield 21, 3) := by decide +kernel
theorem dX2_errorPosition_47 : decode cX2_errorPosition 47 = .ok (.aload_n 0, 1) := by decide +kernel
theorem dX2_errorPosition_48 : decode cX2_errorPosition 48 = .ok (.getfield 17, 3) := by decide +kernel
theorem dX2_errorPosition_51 : decode cX2_errorPosition 51 = .ok (.if_icmp .ge 10, 3) := by decide +kernel
theorem dX2_errorPosition_54 : decode cX2_errorPosition 54 = .ok (.aload_n 0, 1) := by decide +kernel
theorem dX2_errorPosition_55 : decode cX2_errorPosition 55 = .ok (.getfield 21, 3) := by decide +kernel
theorem dX2_errorPosition_58 : decode cX2_errorPosition 58 = .ok (.goto 4, 3) := by decide +kernel
theorem dX2_errorPosition_61 : decode cX2_errorPosition 61 = .ok (.iconst (-1), 1) := by decide +kernel
theorem dX2_errorPosition_62 : decode cX2_errorPosition 62 = .ok (.ireturn, 1) := by decide +kernel
theorem dX2_passCommand_0 : decode cX2_passCommand 0 = .ok (.aload_n 0, 1) := by decide +kernel
theorem dX2_passCommand_1 : decode cX2_passCommand 1 = .ok (.invokevirtual 35, 3) := by decide +kernel
theorem dX2_passCommand_4 : decode cX2_passCommand 4 = .ok (.ifCond .eq 10, 3) := by decide +kernel
theorem dX2_passCommand_7 : decode cX2_passCommand 7 = .ok (.aload_n 0, 1) := by decide +kernel
theorem dX2_passCommand_8 : decode cX2_passCommand 8 = .ok (.getfield 38, 3) := by decide +kernel
theorem dX2_passCommand_11 : decode cX2_passCommand 11 = .ok (.ifnonnull 5, 3) := by decide +kernel
theorem dX2_passCommand_14 : decode cX2_passCommand 14 = .ok (.iconst 0, 1) := by decide +kernel
theorem dX2_passCommand_15 : decode cX2_passCommand 15 = .ok (.ireturn, 1) := by decide +kernel
theorem dX2_passCommand_16 : decode cX2_passCommand 16 = .ok (.iconst 0, 1) := by decide +kernel
theorem dX2_passCommand_17 : decode cX2_passCommand 17 = .ok (.istore_n 1, 1) := by decide +kernel
theorem dX2_passCommand_18 : decode cX2_passCommand 18 = .ok (.iload_n 1, 1) := by decide +kernel
theorem dX2_passCommand_19 : decode cX2_passCommand 19 = .ok (.aload_n 0, 1) := by decide +kernel
theorem dX2_passCommand_20 : decode cX2_passCommand 20 = .ok (.getfield 38, 3) := by decide +kernel
theorem dX2_passCommand_23 : decode cX2_passCommand 23 = .ok (.getfield 42, 3) := by decide +kernel
theorem dX2_passCommand_26 : decode cX2_passCommand 26 = .ok (.if_icmp .ge 19, 3) := by decide +kernel
theorem dX2_passCommand_29 : decode cX2_passCommand 29 = .ok (.aload_n 0, 1) := by decide +kernel
theorem dX2_passCommand_30 : decode cX2_passCommand 30 = .ok (.iload_n 1, 1) := by decide +kernel
theorem dX2_passCommand_31 : decode cX2_passCommand 31 = .ok (.invokevirtual 46, 3) := by decide +kernel
theorem dX2_passCommand_34 : decode cX2_passCommand 34 = .ok (.ifCond .ne 5, 3) := by decide +kernel
theorem dX2_passCommand_37 : decode cX2_passCommand 37 = .ok (.iconst 0, 1) := by decide +kernel
theorem dX2_passCommand_38 : decode cX2_passCommand 38 = .ok (.ireturn, 1) := by decide +kernel
theorem dX2_passCommand_39 : decode cX2_passCommand 39 = .ok (.iinc 1 1, 3) := by decide +kernel
theorem dX2_passCommand_42 : decode cX2_passCommand 42 = .ok (.goto (-24), 3) := by decide +kernel
theorem dX2_passCommand_45 : decode cX2_passCommand 45 = .ok (.iconst 1, 1) := by decide +kernel
theorem dX2_passCommand_46 : decode cX2_passCommand 46 = .ok (.ireturn, 1) := by decide +kernel
theorem dX2_passSign_0 : decode cX2_passSign 0 = .ok (.aload_n 0, 1) := by decide +kernel
theorem dX2_passSign_1 : decode cX2_passSign 1 = .ok (.getfield 21, 3) := by decide +kernel
theorem dX2_passSign_4 : decode cX2_passSign 4 = .ok (.aload_n 0, 1) := by decide +kernel
theorem dX2_passSign_5 : decode cX2_passSign 5 = .ok (.getfield 17, 3) := by decide +kernel
theorem dX2_passSign_8 : decode cX2_passSign 8 = .ok (.if_icmp .ge 16, 3) := by decide +kernel
theorem dX2_passSign_11 : decode cX2_passSign 11 = .ok (.aload_n 0, 1) := by decide +kernel
theorem dX2_passSign_12 : decode cX2_passSign 12 = .ok (.getfield 9, 3) := by decide +kernel
theorem dX2_passSign_15 : decode cX2_passSign 15 = .ok (.aload_n 0, 1) := by decide +kernel
theorem dX2_passSign_16 : decode cX2_passSign 16 = .ok (.getfield 21, 3) := by decide +kernel
theorem dX2_passSign_19 : decode cX2_passSign 19 = .ok (.caload, 1) := by decide +kernel
theorem dX2_passSign_20 : decode cX2_passSign 20 = .ok (.iload_n 1, 1) := by decide +kernel
theorem dX2_passSign_21 : decode cX2_passSign 21 = .ok (.if_icmp .eq 5, 3) := by decide +kernel
theorem dX2_passSign_24 : decode cX2_passSign 24 = .ok (.iconst 0, 1) := by decide +kernel
theorem dX2_passSign_25 : decode cX2_passSign 25 = .ok (.ireturn, 1) := by decide +kernel
theorem dX2_passSign_26 : decode cX2_passSign 26 = .ok (.aload_n 0, 1) := by decide +kernel
theorem dX2_passSign_27 : decode cX2_passSign 27 = .ok (.dup, 1) := by decide +kernel
theorem dX2_passSign_28 : decode cX2_passSign 28 = .ok (.getfield 21, 3) := by decide +kernel
theorem dX2_passSign_31 : decode cX2_passSign 31 = .ok (.iconst 1, 1) := by decide +kernel
theorem dX2_passSign_32 : decode cX2_passSign 32 = .ok (.iadd, 1) := by decide +kernel
theorem dX2_passSign_33 : decode cX2_passSign 33 = .ok (.putfield 21, 3) := by decide +kernel
theorem dX2_passSign_36 : decode cX2_passSign 36 = .ok (.iconst 1, 1) := by decide +kernel
theorem dX2_passSign_37 : decode cX2_passSign 37 = .ok (.ireturn, 1) := by decide +kernel
theorem dX2_passWord_0 : decode cX2_passWord 0 = .ok (.aload_n 0, 1) := by decide +kernel
theorem dX2_passWord_1 : decode cX2_passWord 1 = .ok (.getfield 21, 3) := by decide +kernel
theorem dX2_passWord_4 : decode cX2_passWord 4 = .ok (.istore_n 1, 1) := by decide +kernel
theorem dX2_passWord_5 : decode cX2_passWord 5 = .ok (.iload_n 1, 1) := by decide +kernel
theorem dX2_passWord_6 : decode cX2_passWord 6 = .ok (.aload_n 0, 1) := by decide +kernel
theorem dX2_passWord_7 : decode cX2_passWord 7 = .ok (.getfield 17, 3) := by decide +kernel
theorem dX2_passWord_10 : decode cX2_passWord 10 = .ok (.if_icmp .ge 21, 3) := by decide +kernel
theorem dX2_passWord_13 : decode cX2_passWord 13 = .ok (.aload_n 0, 1) := by decide +kernel
theorem dX2_passWord_14 : decode cX2_passWord 14 = .ok (.iload_n 1, 1) := by decide +kernel
theorem dX2_passWord_15 : decode cX2_passWord 15 = .ok (.bipush 97, 2) := by decide +kernel
theorem dX2_passWord_17 : decode cX2_passWord 17 = .ok (.bipush 122, 2) := by decide +kernel
theorem dX2_passWord_19 : decode cX2_passWord 19 = .ok (.invokevirtual 50, 3) := by decide +kernel
theorem dX2_passWord_22 : decode cX2_passWord 22 = .ok (.ifCond .eq 9, 3) := by decide +kernel
theorem dX2_passWord_25 : decode cX2_passWord 25 = .ok (.iinc 1 1, 3) := by decide +kernel
theorem dX2_passWord_28 : decode cX2_passWord 28 = .ok (.goto (-23), 3) := by decide +kernel
theorem dX2_passWord_31 : decode cX2_passWord 31 = .ok (.aload_n 0, 1) := by decide +kernel
theorem dX2_passWord_32 : decode cX2_passWord 32 = .ok (.aload_n 0, 1) := by decide +kernel
theorem dX2_passWord_33 : decode cX2_passWord 33 = .ok (.aload_n 0, 1) := by decide +kernel
theorem dX2_passWord_34 : decode cX2_passWord 34 = .ok (.getfield 21, 3) := by decide +kernel
theorem dX2_passWord_37 : decode cX2_passWord 37 = .ok (.iload_n 1, 1) := by decide +kernel
theorem dX2_passWord_38 : decode cX2_passWord 38 = .ok (.invokevirtual 54, 3) := by decide +kernel
theorem dX2_passWord_41 : decode cX2_passWord 41 = .ok (.putfield 38, 3) := by decide +kernel
theorem dX2_passWord_44 : decode cX2_passWord 44 = .ok (.aload_n 0, 1) := by decide +kernel
theorem dX2_passWord_45 : decode cX2_passWord 45 = .ok (.getfield 38, 3) := by decide +kernel
theorem dX2_passWord_48 : decode cX2_passWord 48 = .ok (.ifnonnull 5, 3) := by decide +kernel
theorem dX2_passWord_51 : decode cX2_passWord 51 = .ok (.iconst 0, 1) := by decide +kernel
theorem dX2_passWord_52 : decode cX2_passWord 52 = .ok (.ireturn, 1) := by decide +kernel
theorem dX2_passWord_53 : decode cX2_passWord 53 = .ok (.aload_n 0, 1) := by decide +kernel
theorem dX2_passWord_54 : decode cX2_passWord 54 = .ok (.iload_n 1, 1) := by decide +kernel
theorem dX2_passWord_55 : decode cX2_passWord 55 = .ok (.putfield 21, 3) := by decide +kernel
theorem dX2_passWord_58 : decode cX2_passWord 58 = .ok (.iconst 1, 1) := by decide +kernel
theorem dX2_passWord_59 : decode cX2_passWord 59 = .ok (.ireturn, 1) := by decide +kernel
theorem dX2_passNumber_0 : decode cX2_passNumber 0 = .ok (.aload_n 0, 1) := by decide +kernel
theorem dX2_passNumber_1 : decode cX2_passNumber 1 = .ok (.bipush 32, 2) := by decide +kernel
theorem dX2_passNumber_3 : decode cX2_passNumber 3 = .ok (.invokevirtual 31, 3) := by decide +kernel
theorem dX2_passNumber_6 : decode cX2_passNumber 6 = .ok (.ifCond .eq 8, 3) := by decide +kernel
theorem dX2_passNumber_9 : decode cX2_passNumber 9 = .ok (.iload_n 1, 1) := by decide +kernel
theorem dX2_passNumber_10 : decode cX2_passNumber 10 = .ok (.iconst 4, 1) := by decide +kernel
theorem dX2_passNumber_11 : decode cX2_passNumber 11 = .ok (.if_icmp .lt 5, 3) := by decide +kernel
theorem dX2_passNumber_14 : decode cX2_passNumber 14 = .ok (.iconst 0, 1) := by decide +kernel
theorem dX2_passNumber_15 : decode cX2_passNumber 15 = .ok (.ireturn, 1) := by decide +kernel
theorem dX2_passNumber_16 : decode cX2_passNumber 16 = .ok (.aload_n 0, 1) := by decide +kernel
theorem dX2_passNumber_17 : decode cX2_passNumber 17 = .ok (.getfield 21, 3) := by decide +kernel
theorem dX2_passNumber_20 : decode cX2_passNumber 20 = .ok (.istore_n 2, 1) := by decide +kernel
theorem dX2_passNumber_21 : decode cX2_passNumber 21 = .ok (.iconst 0, 1) := by decide +kernel
theorem dX2_passNumber_22 : decode cX2_passNumber 22 = .ok (.istore_n 3, 1) := by decide +kernel
theorem dX2_passNumber_23 : decode cX2_passNumber 23 = .ok (.aload_n 0, 1) := by decide +kernel
theorem dX2_passNumber_24 : decode cX2_passNumber 24 = .ok (.getfield 21, 3) := by decide +kernel
theorem dX2_passNumber_27 : decode cX2_passNumber 27 = .ok (.aload_n 0, 1) := by decide +kernel
theorem dX2_passNumber_28 : decode cX2_passNumber 28 = .ok (.getfield 17, 3) := by decide +kernel
theorem dX2_passNumber_31 : decode cX2_passNumber 31 = .ok (.if_icmp .ge 59, 3) := by decide +kernel
theorem dX2_passNumber_34 : decode cX2_passNumber 34 = .ok (.aload_n 0, 1) := by decide +kernel
theorem dX2_passNumber_35 : decode cX2_passNumber 35 = .ok (.getfield 21, 3) := by decide +kernel
theorem dX2_passNumber_38 : decode cX2_passNumber 38 = .ok (.iload_n 2, 1) := by decide +kernel
theorem dX2_passNumber_39 : decode cX2_passNumber 39 = .ok (.iconst 3, 1) := by decide +kernel
theorem dX2_passNumber_40 : decode cX2_passNumber 40 = .ok (.iadd, 1) := by decide +kernel
theorem dX2_passNumber_41 : decode cX2_passNumber 41 = .ok (.if_icmp .ge 49, 3) := by decide +kernel
theorem dX2_passNumber_44 : decode cX2_passNumber 44 = .ok (.aload_n 0, 1) := by decide +kernel
theorem dX2_passNumber_45 : decode cX2_passNumber 45 = .ok (.aload_n 0, 1) := by decide +kernel
theorem dX2_passNumber_46 : decode cX2_passNumber 46 = .ok (.getfield 21, 3) := by decide +kernel
theorem dX2_passNumber_49 : decode cX2_passNumber 49 = .ok (.bipush 48, 2) := by decide +kernel
theorem dX2_passNumber_51 : decode cX2_passNumber 51 = .ok (.bipush 57, 2) := by decide +kernel
theorem dX2_passNumber_53 : decode cX2_passNumber 53 = .ok (.invokevirtual 50, 3) := by decide +kernel
theorem dX2_passNumber_56 : decode cX2_passNumber 56 = .ok (.ifCond .eq 34, 3) := by decide +kernel
theorem dX2_passNumber_59 : decode cX2_passNumber 59 = .ok (.iload_n 3, 1) := by decide +kernel
theorem dX2_passNumber_60 : decode cX2_passNumber 60 = .ok (.bipush 10, 2) := by decide +kernel
theorem dX2_passNumber_62 : decode cX2_passNumber 62 = .ok (.imul, 1) := by decide +kernel
theorem dX2_passNumber_63 : decode cX2_passNumber 63 = .ok (.aload_n 0, 1) := by decide +kernel
theorem dX2_passNumber_64 : decode cX2_passNumber 64 = .ok (.getfield 9, 3) := by decide +kernel
theorem dX2_passNumber_67 : decode cX2_passNumber 67 = .ok (.aload_n 0, 1) := by decide +kernel
theorem dX2_passNumber_68 : decode cX2_passNumber 68 = .ok (.getfield 21, 3) := by decide +kernel
theorem dX2_passNumber_71 : decode cX2_passNumber 71 = .ok (.caload, 1) := by decide +kernel
theorem dX2_passNumber_72 : decode cX2_passNumber 72 = .ok (.iadd, 1) := by decide +kernel
theorem dX2_passNumber_73 : decode cX2_passNumber 73 = .ok (.bipush 48, 2) := by decide +kernel
theorem dX2_passNumber_75 : decode cX2_passNumber 75 = .ok (.isub, 1) := by decide +kernel
theorem dX2_passNumber_76 : decode cX2_passNumber 76 = .ok (.istore_n 3, 1) := by decide +kernel
theorem dX2_passNumber_77 : decode cX2_passNumber 77 = .ok (.aload_n 0, 1) := by decide +kernel
theorem dX2_passNumber_78 : decode cX2_passNumber 78 = .ok (.dup, 1) := by decide +kernel
theorem dX2_passNumber_79 : decode cX2_passNumber 79 = .ok (.getfield 21, 3) := by decide +kernel
theorem dX2_passNumber_82 : decode cX2_passNumber 82 = .ok (.iconst 1, 1) := by decide +kernel
theorem dX2_passNumber_83 : decode cX2_passNumber 83 = .ok (.iadd, 1) := by decide +kernel
theorem dX2_passNumber_84 : decode cX2_passNumber 84 = .ok (.putfield 21, 3) := by decide +kernel
theorem dX2_passNumber_87 : decode cX2_passNumber 87 = .ok (.goto (-64), 3) := by decide +kernel
theorem dX2_passNumber_90 : decode cX2_passNumber 90 = .ok (.aload_n 0, 1) := by decide +kernel
theorem dX2_passNumber_91 : decode cX2_passNumber 91 = .ok (.getfield 13, 3) := by decide +kernel
theorem dX2_passNumber_94 : decode cX2_passNumber 94 = .ok (.iload_n 1, 1) := by decide +kernel
theorem dX2_passNumber_95 : decode cX2_passNumber 95 = .ok (.iload_n 3, 1) := by decide +kernel
theorem dX2_passNumber_96 : decode cX2_passNumber 96 = .ok (.iastore, 1) := by decide +kernel
theorem dX2_passNumber_97 : decode cX2_passNumber 97 = .ok (.aload_n 0, 1) := by decide +kernel
theorem dX2_passNumber_98 : decode cX2_passNumber 98 = .ok (.getfield 21, 3) := by decide +kernel
theorem dX2_passNumber_101 : decode cX2_passNumber 101 = .ok (.iload_n 2, 1) := by decide +kernel
theorem dX2_passNumber_102 : decode cX2_passNumber 102 = .ok (.if_icmp .le 7, 3) := by decide +kernel
theorem dX2_passNumber_105 : decode cX2_passNumber 105 = .ok (.iconst 1, 1) := by decide +kernel
theorem dX2_passNumber_106 : decode cX2_passNumber 106 = .ok (.goto 4, 3) := by decide +kernel
theorem dX2_passNumber_109 : decode cX2_passNumber 109 = .ok (.iconst 0, 1) := by decide +kernel
theorem dX2_passNumber_110 : decode cX2_passNumber 110 = .ok (.ireturn, 1) := by decide +kernel
theorem dX2_isBetween_0 : decode cX2_isBetween 0 = .ok (.aload_n 0, 1) := by decide +kernel
theorem dX2_isBetween_1 : decode cX2_isBetween 1 = .ok (.getfield 9, 3) := by decide +kernel
theorem dX2_isBetween_4 : decode cX2_isBetween 4 = .ok (.iload_n 1, 1) := by decide +kernel
theorem dX2_isBetween_5 : decode cX2_isBetween 5 = .ok (.caload, 1) := by decide +kernel
theorem dX2_isBetween_6 : decode cX2_isBetween 6 = .ok (.iload_n 2, 1) := by decide +kernel
theorem dX2_isBetween_7 : decode cX2_isBetween 7 = .ok (.if_icmp .lt 17, 3) := by decide +kernel
theorem dX2_isBetween_10 : decode cX2_isBetween 10 = .ok (.aload_n 0, 1) := by decide +kernel
theorem dX2_isBetween_11 : decode cX2_isBetween 11 = .ok (.getfield 9, 3) := by decide +kernel
theorem dX2_isBetween_14 : decode cX2_isBetween 14 = .ok (.iload_n 1, 1) := by decide +kernel
theorem dX2_isBetween_15 : decode cX2_isBetween 15 = .ok (.caload, 1) := by decide +kernel
theorem dX2_isBetween_16 : decode cX2_isBetween 16 = .ok (.iload_n 3, 1) := by decide +kernel
theorem dX2_isBetween_17 : decode cX2_isBetween 17 = .ok (.if_icmp .gt 7, 3) := by decide +kernel
theorem dX2_isBetween_20 : decode cX2_isBetween 20 = .ok (.iconst 1, 1) := by decide +kernel
theorem dX2_isBetween_21 : decode cX2_isBetween 21 = .ok (.goto 4, 3) := by decide +kernel
theorem dX2_isBetween_24 : decode cX2_isBetween 24 = .ok (.iconst 0, 1) := by decide +kernel
theorem dX2_isBetween_25 : decode cX2_isBetween 25 = .ok (.ireturn, 1) := by decide +kernel
theorem dX2_commandAt_0 : decode cX2_commandAt 0 = .ok (.iconst 0, 1) := by decide +kernel
theorem dX2_commandAt_1 : decode cX2_commandAt 1 = .ok (.istore_n 3, 1) := by decide +kernel
theorem dX2_commandAt_2 : decode cX2_commandAt 2 = .ok (.iload_n 3, 1) := by decide +kernel
theorem dX2_commandAt_3 : decode cX2_commandAt 3 = .ok (.getstatic 58, 3) := by decide +kernel
theorem dX2_commandAt_6 : decode cX2_commandAt 6 = .ok (.arraylength, 1) := by decide +kernel
theorem dX2_commandAt_7 : decode cX2_commandAt 7 = .ok (.if_icmp .ge 32, 3) := by decide +kernel
theorem dX2_commandAt_10 : decode cX2_commandAt 10 = .ok (.aload_n 0, 1) := by decide +kernel
theorem dX2_commandAt_11 : decode cX2_commandAt 11 = .ok (.getstatic 58, 3) := by decide +kernel
theorem dX2_commandAt_14 : decode cX2_commandAt 14 = .ok (.iload_n 3, 1) := by decide +kernel
theorem dX2_commandAt_15 : decode cX2_commandAt 15 = .ok (.aaload, 1) := by decide +kernel
theorem dX2_commandAt_16 : decode cX2_commandAt 16 = .ok (.getfield 64, 3) := by decide +kernel
theorem dX2_commandAt_19 : decode cX2_commandAt 19 = .ok (.iload_n 1, 1) := by decide +kernel
theorem dX2_commandAt_20 : decode cX2_commandAt 20 = .ok (.iload_n 2, 1) := by decide +kernel
theorem dX2_commandAt_21 : decode cX2_commandAt 21 = .ok (.invokevirtual 68, 3) := by decide +kernel
theorem dX2_commandAt_24 : decode cX2_commandAt 24 = .ok (.ifCond .eq 9, 3) := by decide +kernel
theorem dX2_commandAt_27 : decode cX2_commandAt 27 = .ok (.getstatic 58, 3) := by decide +kernel
theorem dX2_commandAt_30 : decode cX2_commandAt 30 = .ok (.iload_n 3, 1) := by decide +kernel
theorem dX2_commandAt_31 : decode cX2_commandAt 31 = .ok (.aaload, 1) := by decide +kernel
theorem dX2_commandAt_32 : decode cX2_commandAt 32 = .ok (.areturn, 1) := by decide +kernel
theorem dX2_commandAt_33 : decode cX2_commandAt 33 = .ok (.iinc 3 1, 3) := by decide +kernel
theorem dX2_commandAt_36 : decode cX2_commandAt 36 = .ok (.goto (-34), 3) := by decide +kernel
theorem dX2_commandAt_39 : decode cX2_commandAt 39 = .ok (.aconst_null, 1) := by decide +kernel
theorem dX2_commandAt_40 : decode cX2_commandAt 40 = .ok (.areturn, 1) := by decide +kernel
theorem dX2_isWord_0 : decode cX2_isWord 0 = .ok (.aload_n 1, 1) := by decide +kernel
theorem dX2_isWord_1 : decode cX2_isWord 1 = .ok (.invokevirtual 72, 3) := by decide +kernel
theorem dX2_isWord_4 : decode cX2_isWord 4 = .ok (.iload_n 3, 1) := by decide +kernel
theorem dX2_isWord_5 : decode cX2_isWord 5 = .ok (.iload_n 2, 1) := by decide +kernel
theorem dX2_isWord_6 : decode cX2_isWord 6 = .ok (.isub, 1) := by decide +kernel
theorem dX2_isWord_7 : decode cX2_isWord 7 = .ok (.if_icmp .eq 5, 3) := by decide +kernel
theorem dX2_isWord_10 : decode cX2_isWord 10 = .ok (.iconst 0, 1) := by decide +kernel
theorem dX2_isWord_11 : decode cX2_isWord 11 = .ok (.ireturn, 1) := by decide +kernel
theorem dX2_isWord_12 : decode cX2_isWord 12 = .ok (.iconst 0, 1) := by decide +kernel
theorem dX2_isWord_13 : decode cX2_isWord 13 = .ok (.istore 4, 2) := by decide +kernel
theorem dX2_isWord_15 : decode cX2_isWord 15 = .ok (.iload 4, 2) := by decide +kernel
theorem dX2_isWord_17 : decode cX2_isWord 17 = .ok (.aload_n 1, 1) := by decide +kernel
theorem dX2_isWord_18 : decode cX2_isWord 18 = .ok (.invokevirtual 72, 3) := by decide +kernel
theorem dX2_isWord_21 : decode cX2_isWord 21 = .ok (.if_icmp .ge 29, 3) := by decide +kernel
theorem dX2_isWord_24 : decode cX2_isWord 24 = .ok (.aload_n 0, 1) := by decide +kernel
theorem dX2_isWord_25 : decode cX2_isWord 25 = .ok (.getfield 9, 3) := by decide +kernel
theorem dX2_isWord_28 : decode cX2_isWord 28 = .ok (.iload_n 2, 1) := by decide +kernel
theorem dX2_isWord_29 : decode cX2_isWord 29 = .ok (.iload 4, 2) := by decide +kernel
theorem dX2_isWord_31 : decode cX2_isWord 31 = .ok (.iadd, 1) := by decide +kernel
theorem dX2_isWord_32 : decode cX2_isWord 32 = .ok (.caload, 1) := by decide +kernel
theorem dX2_isWord_33 : decode cX2_isWord 33 = .ok (.aload_n 1, 1) := by decide +kernel
theorem dX2_isWord_34 : decode cX2_isWord 34 = .ok (.iload 4, 2) := by decide +kernel
theorem dX2_isWord_36 : decode cX2_isWord 36 = .ok (.invokevirtual 77, 3) := by decide +kernel
theorem dX2_isWord_39 : decode cX2_isWord 39 = .ok (.if_icmp .eq 5, 3) := by decide +kernel
theorem dX2_isWord_42 : decode cX2_isWord 42 = .ok (.iconst 0, 1) := by decide +kernel
theorem dX2_isWord_43 : decode cX2_isWord 43 = .ok (.ireturn, 1) := by decide +kernel
theorem dX2_isWord_44 : decode cX2_isWord 44 = .ok (.iinc 4 1, 3) := by decide +kernel
theorem dX2_isWord_47 : decode cX2_isWord 47 = .ok (.goto (-32), 3) := by decide +kernel
theorem dX2_isWord_50 : decode cX2_isWord 50 = .ok (.iconst 1, 1) := by decide +kernel
theorem dX2_isWord_51 : decode cX2_isWord 51 = .ok (.ireturn, 1) := by decide +kernel
theorem dX3_init_0 : decode cX3_init 0 = .ok (.aload_n 0, 1) := by decide +kernel
theorem dX3_init_1 : decode cX3_init 1 = .ok (.invokespecial 5, 3) := by decide +kernel
theorem dX3_init_4 : decode cX3_init 4 = .ok (.aload_n 0, 1) := by decide +kernel
theorem dX3_init_5 : decode cX3_init 5 = .ok (.new 11, 3) := by decide +kernel
theorem dX3_init_8 : decode cX3_init 8 = .ok (.dup, 1) := by decide +kernel
theorem dX3_init_9 : decode cX3_init 9 = .ok (.invokespecial 13, 3) := by decide +kernel
theorem dX3_init_12 : decode cX3_init 12 = .ok (.putfield 14, 3) := by decide +kernel
theorem dX3_init_15 : decode cX3_init 15 = .ok (.aload_n 0, 1) := by decide +kernel
theorem dX3_init_16 : decode cX3_init 16 = .ok (.sipush 256, 3) := by decide +kernel
theorem dX3_init_19 : decode cX3_init 19 = .ok (.newarray .int, 2) := by decide +kernel
theorem dX3_init_21 : decode cX3_init 21 = .ok (.putfield 18, 3) := by decide +kernel
theorem dX3_init_24 : decode cX3_init 24 = .ok (.aload_n 0, 1) := by decide +kernel
theorem dX3_init_25 : decode cX3_init 25 = .ok (.sipush 256, 3) := by decide +kernel
theorem dX3_init_28 : decode cX3_init 28 = .ok (.newarray .boolean, 2) := by decide +kernel
theorem dX3_init_30 : decode cX3_init 30 = .ok (.putfield 22, 3) := by decide +kernel
theorem dX3_init_33 : decode cX3_init 33 = .ok (.aload_n 0, 1) := by decide +kernel
theorem dX3_init_34 : decode cX3_init 34 = .ok (.sipush 256, 3) := by decide +kernel
theorem dX3_init_37 : decode cX3_init 37 = .ok (.newarray .long, 2) := by decide +kernel
theorem dX3_init_39 : decode cX3_init 39 = .ok (.putfield 26, 3) := by decide +kernel
theorem dX3_init_42 : decode cX3_init 42 = .ok (.aload_n 0, 1) := by decide +kernel
theorem dX3_init_43 : decode cX3_init 43 = .ok (.sipush 256, 3) := by decide +kernel
theorem dX3_init_46 : decode cX3_init 46 = .ok (.newarray .int, 2) := by decide +kernel
theorem dX3_init_48 : decode cX3_init 48 = .ok (.putfield 30, 3) := by decide +kernel
theorem dX3_init_51 : decode cX3_init 51 = .ok (.aload_n 0, 1) := by decide +kernel
theorem dX3_init_52 : decode cX3_init 52 = .ok (.sipush 256, 3) := by decide +kernel
theorem dX3_init_55 : decode cX3_init 55 = .ok (.newarray .int, 2) := by decide +kernel
theorem dX3_init_57 : decode cX3_init 57 = .ok (.putfield 33, 3) := by decide +kernel
theorem dX3_init_60 : decode cX3_init 60 = .ok (.aload_n 0, 1) := by decide +kernel
theorem dX3_init_61 : decode cX3_init 61 = .ok (.aload_n 1, 1) := by decide +kernel
theorem dX3_init_62 : decode cX3_init 62 = .ok (.putfield 36, 3) := by decide +kernel
theorem dX3_init_65 : decode cX3_init 65 = .ok (.return_, 1) := by decide +kernel
theorem dX3_findLeast_0 : decode cX3_findLeast 0 = .ok (.aload_n 0, 1) := by decide +kernel
theorem dX3_findLeast_1 : decode cX3_findLeast 1 = .ok (.invokevirtual 40, 3) := by decide +kernel
theorem dX3_findLeast_4 : decode cX3_findLeast 4 = .ok (.iconst 0, 1) := by decide +kernel
theorem dX3_findLeast_5 : decode cX3_findLeast 5 = .ok (.istore_n 1, 1) := by decide +kernel
theorem dX3_findLeast_6 : decode cX3_findLeast 6 = .ok (.iload_n 1, 1) := by decide +kernel
theorem dX3_findLeast_7 : decode cX3_findLeast 7 = .ok (.bipush 8, 2) := by decide +kernel
theorem dX3_findLeast_9 : decode cX3_findLeast 9 = .ok (.if_icmp .ge 30, 3) := by decide +kernel
theorem dX3_findLeast_12 : decode cX3_findLeast 12 = .ok (.aload_n 0, 1) := by decide +kernel
theorem dX3_findLeast_13 : decode cX3_findLeast 13 = .ok (.getfield 26, 3) := by decide +kernel
theorem dX3_findLeast_16 : decode cX3_findLeast 16 = .ok (.aload_n 0, 1) := by decide +kernel
theorem dX3_findLeast_17 : decode cX3_findLeast 17 = .ok (.getfield 43, 3) := by decide +kernel
theorem dX3_findLeast_20 : decode cX3_findLeast 20 = .ok (.laload, 1) := by decide +kernel
theorem dX3_findLeast_21 : decode cX3_findLeast 21 = .ok (.lconst 0, 1) := by decide +kernel
theorem dX3_findLeast_22 : decode cX3_findLeast 22 = .ok (.lcmp, 1) := by decide +kernel
theorem dX3_findLeast_23 : decode cX3_findLeast 23 = .ok (.ifCond .le 5, 3) := by decide +kernel
theorem dX3_findLeast_26 : decode cX3_findLeast 26 = .ok (.iload_n 1, 1) := by decide +kernel
theorem dX3_findLeast_27 : decode cX3_findLeast 27 = .ok (.ireturn, 1) := by decide +kernel
theorem dX3_findLeast_28 : decode cX3_findLeast 28 = .ok (.aload_n 0, 1) := by decide +kernel
theorem dX3_findLeast_29 : decode cX3_findLeast 29 = .ok (.iload_n 1, 1) := by decide +kernel
theorem dX3_findLeast_30 : decode cX3_findLeast 30 = .ok (.invokevirtual 47, 3) := by decide +kernel
theorem dX3_findLeast_33 : decode cX3_findLeast 33 = .ok (.iinc 1 1, 3) := by decide +kernel
theorem dX3_findLeast_36 : decode cX3_findLeast 36 = .ok (.goto (-30), 3) := by decide +kernel
theorem dX3_findLeast_39 : decode cX3_findLeast 39 = .ok (.aload_n 0, 1) := by decide +kernel
theorem dX3_findLeast_40 : decode cX3_findLeast 40 = .ok (.getfield 26, 3) := by decide +kernel
theorem dX3_findLeast_43 : decode cX3_findLeast 43 = .ok (.aload_n 0, 1) := by decide +kernel
theorem dX3_findLeast_44 : decode cX3_findLeast 44 = .ok (.getfield 43, 3) := by decide +kernel
theorem dX3_findLeast_47 : decode cX3_findLeast 47 = .ok (.laload, 1) := by decide +kernel
theorem dX3_findLeast_48 : decode cX3_findLeast 48 = .ok (.lconst 0, 1) := by decide +kernel
theorem dX3_findLeast_49 : decode cX3_findLeast 49 = .ok (.lcmp, 1) := by decide +kernel
theorem dX3_findLeast_50 : decode cX3_findLeast 50 = .ok (.ifCond .le 8, 3) := by decide +kernel
theorem dX3_findLeast_53 : decode cX3_findLeast 53 = .ok (.bipush 8, 2) := by decide +kernel
theorem dX3_findLeast_55 : decode cX3_findLeast 55 = .ok (.goto 4, 3) := by decide +kernel
theorem dX3_findLeast_58 : decode cX3_findLeast 58 = .ok (.iconst (-1), 1) := by decide +kernel
theorem dX3_findLeast_59 : decode cX3_findLeast 59 = .ok (.ireturn, 1) := by decide +kernel
theorem dX3_countLines_0 : decode cX3_countLines 0 = .ok (.aload_n 0, 1) := by decide +kernel
theorem dX3_countLines_1 : decode cX3_countLines 1 = .ok (.invokevirtual 40, 3) := by decide +kernel
theorem dX3_countLines_4 : decode cX3_countLines 4 = .ok (.iconst 0, 1) := by decide +kernel
theorem dX3_countLines_5 : decode cX3_countLines 5 = .ok (.istore_n 2, 1) := by decide +kernel
theorem dX3_countLines_6 : decode cX3_countLines 6 = .ok (.iload_n 2, 1) := by decide +kernel
theorem dX3_countLines_7 : decode cX3_countLines 7 = .ok (.iload_n 1, 1) := by decide +kernel
theorem dX3_countLines_8 : decode cX3_countLines 8 = .ok (.if_icmp .ge 20, 3) := by decide +kernel
theorem dX3_countLines_11 : decode cX3_countLines 11 = .ok (.iload_n 2, 1) := by decide +kernel
theorem dX3_countLines_12 : decode cX3_countLines 12 = .ok (.bipush 8, 2) := by decide +kernel
theorem dX3_countLines_14 : decode cX3_countLines 14 = .ok (.if_icmp .ge 14, 3) := by decide +kernel
theorem dX3_countLines_17 : decode cX3_countLines 17 = .ok (.aload_n 0, 1) := by decide +kernel
theorem dX3_countLines_18 : decode cX3_countLines 18 = .ok (.iload_n 2, 1) := by decide +kernel
theorem dX3_countLines_19 : decode cX3_countLines 19 = .ok (.invokevirtual 47, 3) := by decide +kernel
theorem dX3_countLines_22 : decode cX3_countLines 22 = .ok (.iinc 2 1, 3) := by decide +kernel
theorem dX3_countLines_25 : decode cX3_countLines 25 = .ok (.goto (-19), 3) := by decide +kernel
theorem dX3_countLines_28 : decode cX3_countLines 28 = .ok (.aload_n 0, 1) := by decide +kernel
theorem dX3_countLines_29 : decode cX3_countLines 29 = .ok (.getfield 26, 3) := by decide +kernel
theorem dX3_countLines_32 : decode cX3_countLines 32 = .ok (.aload_n 0, 1) := by decide +kernel
theorem dX3_countLines_33 : decode cX3_countLines 33 = .ok (.getfield 43, 3) := by decide +kernel
theorem dX3_countLines_36 : decode cX3_countLines 36 = .ok (.laload, 1) := by decide +kernel
theorem dX3_countLines_37 : decode cX3_countLines 37 = .ok (.lreturn, 1) := by decide +kernel
theorem dX3_stationOf_0 : decode cX3_stationOf 0 = .ok (.aload_n 0, 1) := by decide +kernel
theorem dX3_stationOf_1 : decode cX3_stationOf 1 = .ok (.getfield 30, 3) := by decide +kernel
theorem dX3_stationOf_4 : decode cX3_stationOf 4 = .ok (.aload_n 0, 1) := by decide +kernel
theorem dX3_stationOf_5 : decode cX3_stationOf 5 = .ok (.getfield 43, 3) := by decide +kernel
theorem dX3_stationOf_8 : decode cX3_stationOf 8 = .ok (.iaload, 1) := by decide +kernel
theorem dX3_stationOf_9 : decode cX3_stationOf 9 = .ok (.iload_n 1, 1) := by decide +kernel
theorem dX3_stationOf_10 : decode cX3_stationOf 10 = .ok (.invokestatic 51, 3) := by decide +kernel
theorem dX3_stationOf_13 : decode cX3_stationOf 13 = .ok (.ishr, 1) := by decide +kernel
theorem dX3_stationOf_14 : decode cX3_stationOf 14 = .ok (.bipush 7, 2) := by decide +kernel
theorem dX3_stationOf_16 : decode cX3_stationOf 16 = .ok (.iand, 1) := by decide +kernel
theorem dX3_stationOf_17 : decode cX3_stationOf 17 = .ok (.ireturn, 1) := by decide +kernel
theorem dX3_digitShift_0 : decode cX3_digitShift 0 = .ok (.iconst 3, 1) := by decide +kernel
theorem dX3_digitShift_1 : decode cX3_digitShift 1 = .ok (.bipush 7, 2) := by decide +kernel
theorem dX3_digitShift_3 : decode cX3_digitShift 3 = .ok (.iload_n 0, 1) := by decide +kernel
theorem dX3_digitShift_4 : decode cX3_digitShift 4 = .ok (.isub, 1) := by decide +kernel
theorem dX3_digitShift_5 : decode cX3_digitShift 5 = .ok (.imul, 1) := by decide +kernel
theorem dX3_digitShift_6 : decode cX3_digitShift 6 = .ok (.ireturn, 1) := by decide +kernel
theorem dX3_prepare_0 : decode cX3_prepare 0 = .ok (.aload_n 0, 1) := by decide +kernel
theorem dX3_prepare_1 : decode cX3_prepare 1 = .ok (.iconst 1, 1) := by decide +kernel
theorem dX3_prepare_2 : decode cX3_prepare 2 = .ok (.aload_n 0, 1) := by decide +kernel
theorem dX3_prepare_3 : decode cX3_prepare 3 = .ok (.getfield 36, 3) := by decide +kernel
theorem dX3_prepare_6 : decode cX3_prepare 6 = .ok (.getfield 55, 3) := by decide +kernel
theorem dX3_prepare_9 : decode cX3_prepare 9 = .ok (.bipush 8, 2) := by decide +kernel
theorem dX3_prepare_11 : decode cX3_prepare 11 = .ok (.invokestatic 60, 3) := by decide +kernel
theorem dX3_prepare_14 : decode cX3_prepare 14 = .ok (.ishl, 1) := by decide +kernel
theorem dX3_prepare_15 : decode cX3_prepare 15 = .ok (.iconst 1, 1) := by decide +kernel
theorem dX3_prepare_16 : decode cX3_prepare 16 = .ok (.isub, 1) := by decide +kernel
theorem dX3_prepare_17 : decode cX3_prepare 17 = .ok (.putfield 43, 3) := by decide +kernel
theorem dX3_prepare_20 : decode cX3_prepare 20 = .ok (.iconst 0, 1) := by decide +kernel
theorem dX3_prepare_21 : decode cX3_prepare 21 = .ok (.istore_n 1, 1) := by decide +kernel
theorem dX3_prepare_22 : decode cX3_prepare 22 = .ok (.iload_n 1, 1) := by decide +kernel
theorem dX3_prepare_23 : decode cX3_prepare 23 = .ok (.aload_n 0, 1) := by decide +kernel
theorem dX3_prepare_24 : decode cX3_prepare 24 = .ok (.getfield 43, 3) := by decide +kernel
theorem dX3_prepare_27 : decode cX3_prepare 27 = .ok (.if_icmp .gt 55, 3) := by decide +kernel
theorem dX3_prepare_30 : decode cX3_prepare 30 = .ok (.aload_n 0, 1) := by decide +kernel
theorem dX3_prepare_31 : decode cX3_prepare 31 = .ok (.getfield 18, 3) := by decide +kernel
theorem dX3_prepare_34 : decode cX3_prepare 34 = .ok (.iload_n 1, 1) := by decide +kernel
theorem dX3_prepare_35 : decode cX3_prepare 35 = .ok (.aload_n 0, 1) := by decide +kernel
theorem dX3_prepare_36 : decode cX3_prepare 36 = .ok (.iload_n 1, 1) := by decide +kernel
theorem dX3_prepare_37 : decode cX3_prepare 37 = .ok (.invokevirtual 66, 3) := by decide +kernel
theorem dX3_prepare_40 : decode cX3_prepare 40 = .ok (.iastore, 1) := by decide +kernel
theorem dX3_prepare_41 : decode cX3_prepare 41 = .ok (.aload_n 0, 1) := by decide +kernel
theorem dX3_prepare_42 : decode cX3_prepare 42 = .ok (.getfield 22, 3) := by decide +kernel
theorem dX3_prepare_45 : decode cX3_prepare 45 = .ok (.iload_n 1, 1) := by decide +kernel
theorem dX3_prepare_46 : decode cX3_prepare 46 = .ok (.aload_n 0, 1) := by decide +kernel
theorem dX3_prepare_47 : decode cX3_prepare 47 = .ok (.iload_n 1, 1) := by decide +kernel
theorem dX3_prepare_48 : decode cX3_prepare 48 = .ok (.invokevirtual 69, 3) := by decide +kernel
theorem dX3_prepare_51 : decode cX3_prepare 51 = .ok (.bastore, 1) := by decide +kernel
theorem dX3_prepare_52 : decode cX3_prepare 52 = .ok (.aload_n 0, 1) := by decide +kernel
theorem dX3_prepare_53 : decode cX3_prepare 53 = .ok (.getfield 33, 3) := by decide +kernel
theorem dX3_prepare_56 : decode cX3_prepare 56 = .ok (.iload_n 1, 1) := by decide +kernel
theorem dX3_prepare_57 : decode cX3_prepare 57 = .ok (.iload_n 1, 1) := by decide +kernel
theorem dX3_prepare_58 : decode cX3_prepare 58 = .ok (.invokestatic 73, 3) := by decide +kernel
theorem dX3_prepare_61 : decode cX3_prepare 61 = .ok (.iastore, 1) := by decide +kernel
theorem dX3_prepare_62 : decode cX3_prepare 62 = .ok (.aload_n 0, 1) := by decide +kernel
theorem dX3_prepare_63 : decode cX3_prepare 63 = .ok (.getfield 26, 3) := by decide +kernel
theorem dX3_prepare_66 : decode cX3_prepare 66 = .ok (.iload_n 1, 1) := by decide +kernel
theorem dX3_prepare_67 : decode cX3_prepare 67 = .ok (.lconst 0, 1) := by decide +kernel
theorem dX3_prepare_68 : decode cX3_prepare 68 = .ok (.lastore, 1) := by decide +kernel
theorem dX3_prepare_69 : decode cX3_prepare 69 = .ok (.aload_n 0, 1) := by decide +kernel
theorem dX3_prepare_70 : decode cX3_prepare 70 = .ok (.getfield 30, 3) := by decide +kernel
theorem dX3_prepare_73 : decode cX3_prepare 73 = .ok (.iload_n 1, 1) := by decide +kernel
theorem dX3_prepare_74 : decode cX3_prepare 74 = .ok (.iconst (-1), 1) := by decide +kernel
theorem dX3_prepare_75 : decode cX3_prepare 75 = .ok (.iastore, 1) := by decide +kernel
theorem dX3_prepare_76 : decode cX3_prepare 76 = .ok (.iinc 1 1, 3) := by decide +kernel
theorem dX3_prepare_79 : decode cX3_prepare 79 = .ok (.goto (-57), 3) := by decide +kernel
theorem dX3_prepare_82 : decode cX3_prepare 82 = .ok (.aload_n 0, 1) := by decide +kernel
theorem dX3_prepare_83 : decode cX3_prepare 83 = .ok (.getfield 26, 3) := by decide +kernel
theorem dX3_prepare_86 : decode cX3_prepare 86 = .ok (.iconst 0, 1) := by decide +kernel
theorem dX3_prepare_87 : decode cX3_prepare 87 = .ok (.lconst 1, 1) := by decide +kernel
theorem dX3_prepare_88 : decode cX3_prepare 88 = .ok (.lastore, 1) := by decide +kernel
theorem dX3_prepare_89 : decode cX3_prepare 89 = .ok (.aload_n 0, 1) := by decide +kernel
theorem dX3_prepare_90 : decode cX3_prepare 90 = .ok (.getfield 30, 3) := by decide +kernel
theorem dX3_prepare_93 : decode cX3_prepare 93 = .ok (.iconst 0, 1) := by decide +kernel
theorem dX3_prepare_94 : decode cX3_prepare 94 = .ok (.iconst 0, 1) := by decide +kernel
theorem dX3_prepare_95 : decode cX3_prepare 95 = .ok (.iastore, 1) := by decide +kernel
theorem dX3_prepare_96 : decode cX3_prepare 96 = .ok (.return_, 1) := by decide +kernel
theorem dX3_copiesNeeded_0 : decode cX3_copiesNeeded 0 = .ok (.aload_n 0, 1) := by decide +kernel
theorem dX3_copiesNeeded_1 : decode cX3_copiesNeeded 1 = .ok (.iload_n 1, 1) := by decide +kernel
theorem dX3_copiesNeeded_2 : decode cX3_copiesNeeded 2 = .ok (.invokevirtual 76, 3) := by decide +kernel
theorem dX3_copiesNeeded_5 : decode cX3_copiesNeeded 5 = .ok (.ifCond .eq 5, 3) := by decide +kernel
theorem dX3_copiesNeeded_8 : decode cX3_copiesNeeded 8 = .ok (.iconst 4, 1) := by decide +kernel
theorem dX3_copiesNeeded_9 : decode cX3_copiesNeeded 9 = .ok (.ireturn, 1) := by decide +kernel
theorem dX3_copiesNeeded_10 : decode cX3_copiesNeeded 10 = .ok (.aload_n 0, 1) := by decide +kernel
theorem dX3_copiesNeeded_11 : decode cX3_copiesNeeded 11 = .ok (.getfield 14, 3) := by decide +kernel
theorem dX3_copiesNeeded_14 : decode cX3_copiesNeeded 14 = .ok (.aload_n 0, 1) := by decide +kernel
theorem dX3_copiesNeeded_15 : decode cX3_copiesNeeded 15 = .ok (.getfield 36, 3) := by decide +kernel
theorem dX3_copiesNeeded_18 : decode cX3_copiesNeeded 18 = .ok (.iload_n 1, 1) := by decide +kernel
theorem dX3_copiesNeeded_19 : decode cX3_copiesNeeded 19 = .ok (.invokevirtual 79, 3) := by decide +kernel
theorem dX3_copiesNeeded_22 : decode cX3_copiesNeeded 22 = .ok (.aload_n 0, 1) := by decide +kernel
theorem dX3_copiesNeeded_23 : decode cX3_copiesNeeded 23 = .ok (.getfield 14, 3) := by decide +kernel
theorem dX3_copiesNeeded_26 : decode cX3_copiesNeeded 26 = .ok (.aload_n 0, 1) := by decide +kernel
theorem dX3_copiesNeeded_27 : decode cX3_copiesNeeded 27 = .ok (.getfield 36, 3) := by decide +kernel
theorem dX3_copiesNeeded_30 : decode cX3_copiesNeeded 30 = .ok (.invokevirtual 83, 3) := by decide +kernel
theorem dX3_copiesNeeded_33 : decode cX3_copiesNeeded 33 = .ok (.ifCond .ne 5, 3) := by decide +kernel
theorem dX3_copiesNeeded_36 : decode cX3_copiesNeeded 36 = .ok (.iconst 4, 1) := by decide +kernel
theorem dX3_copiesNeeded_37 : decode cX3_copiesNeeded 37 = .ok (.ireturn, 1) := by decide +kernel
theorem dX3_copiesNeeded_38 : decode cX3_copiesNeeded 38 = .ok (.iconst 1, 1) := by decide +kernel
theorem dX3_copiesNeeded_39 : decode cX3_copiesNeeded 39 = .ok (.istore_n 2, 1) := by decide +kernel
theorem dX3_copiesNeeded_40 : decode cX3_copiesNeeded 40 = .ok (.iload_n 2, 1) := by decide +kernel
theorem dX3_copiesNeeded_41 : decode cX3_copiesNeeded 41 = .ok (.iconst 4, 1) := by decide +kernel
theorem dX3_copiesNeeded_42 : decode cX3_copiesNeeded 42 = .ok (.if_icmp .ge 24, 3) := by decide +kernel
theorem dX3_copiesNeeded_45 : decode cX3_copiesNeeded 45 = .ok (.aload_n 0, 1) := by decide +kernel
theorem dX3_copiesNeeded_46 : decode cX3_copiesNeeded 46 = .ok (.getfield 14, 3) := by decide +kernel
theorem dX3_copiesNeeded_49 : decode cX3_copiesNeeded 49 = .ok (.aload_n 0, 1) := by decide +kernel
theorem dX3_copiesNeeded_50 : decode cX3_copiesNeeded 50 = .ok (.getfield 36, 3) := by decide +kernel
theorem dX3_copiesNeeded_53 : decode cX3_copiesNeeded 53 = .ok (.iload_n 2, 1) := by decide +kernel
theorem dX3_copiesNeeded_54 : decode cX3_copiesNeeded 54 = .ok (.invokevirtual 87, 3) := by decide +kernel
theorem dX3_copiesNeeded_57 : decode cX3_copiesNeeded 57 = .ok (.ifCond .ne 9, 3) := by decide +kernel
theorem dX3_copiesNeeded_60 : decode cX3_copiesNeeded 60 = .ok (.iinc 2 1, 3) := by decide +kernel
theorem dX3_copiesNeeded_63 : decode cX3_copiesNeeded 63 = .ok (.goto (-23), 3) := by decide +kernel
theorem dX3_copiesNeeded_66 : decode cX3_copiesNeeded 66 = .ok (.iload_n 2, 1) := by decide +kernel
theorem dX3_copiesNeeded_67 : decode cX3_copiesNeeded 67 = .ok (.ireturn, 1) := by decide +kernel
theorem dX3_isSplit_0 : decode cX3_isSplit 0 = .ok (.iconst 0, 1) := by decide +kernel
theorem dX3_isSplit_1 : decode cX3_isSplit 1 = .ok (.istore_n 2, 1) := by decide +kernel
theorem dX3_isSplit_2 : decode cX3_isSplit 2 = .ok (.iload_n 2, 1) := by decide +kernel
theorem dX3_isSplit_3 : decode cX3_isSplit 3 = .ok (.bipush 8, 2) := by decide +kernel
theorem dX3_isSplit_5 : decode cX3_isSplit 5 = .ok (.if_icmp .ge 49, 3) := by decide +kernel
theorem dX3_isSplit_8 : decode cX3_isSplit 8 = .ok (.iload_n 1, 1) := by decide +kernel
theorem dX3_isSplit_9 : decode cX3_isSplit 9 = .ok (.iload_n 2, 1) := by decide +kernel
theorem dX3_isSplit_10 : decode cX3_isSplit 10 = .ok (.invokestatic 91, 3) := by decide +kernel
theorem dX3_isSplit_13 : decode cX3_isSplit 13 = .ok (.ifCond .eq 35, 3) := by decide +kernel
theorem dX3_isSplit_16 : decode cX3_isSplit 16 = .ok (.aload_n 0, 1) := by decide +kernel
theorem dX3_isSplit_17 : decode cX3_isSplit 17 = .ok (.getfield 36, 3) := by decide +kernel
theorem dX3_isSplit_20 : decode cX3_isSplit 20 = .ok (.getfield 95, 3) := by decide +kernel
theorem dX3_isSplit_23 : decode cX3_isSplit 23 = .ok (.iload_n 2, 1) := by decide +kernel
theorem dX3_isSplit_24 : decode cX3_isSplit 24 = .ok (.iaload, 1) := by decide +kernel
theorem dX3_isSplit_25 : decode cX3_isSplit 25 = .ok (.iload_n 1, 1) := by decide +kernel
theorem dX3_isSplit_26 : decode cX3_isSplit 26 = .ok (.iand, 1) := by decide +kernel
theorem dX3_isSplit_27 : decode cX3_isSplit 27 = .ok (.ifCond .ne 19, 3) := by decide +kernel
theorem dX3_isSplit_30 : decode cX3_isSplit 30 = .ok (.aload_n 0, 1) := by decide +kernel
theorem dX3_isSplit_31 : decode cX3_isSplit 31 = .ok (.getfield 36, 3) := by decide +kernel
theorem dX3_isSplit_34 : decode cX3_isSplit 34 = .ok (.getfield 98, 3) := by decide +kernel
theorem dX3_isSplit_37 : decode cX3_isSplit 37 = .ok (.iload_n 2, 1) := by decide +kernel
theorem dX3_isSplit_38 : decode cX3_isSplit 38 = .ok (.iaload, 1) := by decide +kernel
theorem dX3_isSplit_39 : decode cX3_isSplit 39 = .ok (.iload_n 1, 1) := by decide +kernel
theorem dX3_isSplit_40 : decode cX3_isSplit 40 = .ok (.iconst (-1), 1) := by decide +kernel
theorem dX3_isSplit_41 : decode cX3_isSplit 41 = .ok (.ixor, 1) := by decide +kernel
theorem dX3_isSplit_42 : decode cX3_isSplit 42 = .ok (.iand, 1) := by decide +kernel
theorem dX3_isSplit_43 : decode cX3_isSplit 43 = .ok (.ifCond .eq 5, 3) := by decide +kernel
theorem dX3_isSplit_46 : decode cX3_isSplit 46 = .ok (.iconst 1, 1) := by decide +kernel
theorem dX3_isSplit_47 : decode cX3_isSplit 47 = .ok (.ireturn, 1) := by decide +kernel
theorem dX3_isSplit_48 : decode cX3_isSplit 48 = .ok (.iinc 2 1, 3) := by decide +kernel
theorem dX3_isSplit_51 : decode cX3_isSplit 51 = .ok (.goto (-49), 3) := by decide +kernel
theorem dX3_isSplit_54 : decode cX3_isSplit 54 = .ok (.iconst 0, 1) := by decide +kernel
theorem dX3_isSplit_55 : decode cX3_isSplit 55 = .ok (.ireturn, 1) := by decide +kernel
theorem dX3_hasAllAhead_0 : decode cX3_hasAllAhead 0 = .ok (.iconst 0, 1) := by decide +kernel
theorem dX3_hasAllAhead_1 : decode cX3_hasAllAhead 1 = .ok (.istore_n 2, 1) := by decide +kernel
theorem dX3_hasAllAhead_2 : decode cX3_hasAllAhead 2 = .ok (.iload_n 2, 1) := by decide +kernel
theorem dX3_hasAllAhead_3 : decode cX3_hasAllAhead 3 = .ok (.bipush 8, 2) := by decide +kernel
theorem dX3_hasAllAhead_5 : decode cX3_hasAllAhead 5 = .ok (.if_icmp .ge 35, 3) := by decide +kernel
theorem dX3_hasAllAhead_8 : decode cX3_hasAllAhead 8 = .ok (.iload_n 1, 1) := by decide +kernel
theorem dX3_hasAllAhead_9 : decode cX3_hasAllAhead 9 = .ok (.iload_n 2, 1) := by decide +kernel
theorem dX3_hasAllAhead_10 : decode cX3_hasAllAhead 10 = .ok (.invokestatic 91, 3) := by decide +kernel
theorem dX3_hasAllAhead_13 : decode cX3_hasAllAhead 13 = .ok (.ifCond .eq 21, 3) := by decide +kernel
theorem dX3_hasAllAhead_16 : decode cX3_hasAllAhead 16 = .ok (.aload_n 0, 1) := by decide +kernel
theorem dX3_hasAllAhead_17 : decode cX3_hasAllAhead 17 = .ok (.getfield 36, 3) := by decide +kernel
theorem dX3_hasAllAhead_20 : decode cX3_hasAllAhead 20 = .ok (.getfield 101, 3) := by decide +kernel
theorem dX3_hasAllAhead_23 : decode cX3_hasAllAhead 23 = .ok (.iload_n 2, 1) := by decide +kernel
theorem dX3_hasAllAhead_24 : decode cX3_hasAllAhead 24 = .ok (.iaload, 1) := by decide +kernel
theorem dX3_hasAllAhead_25 : decode cX3_hasAllAhead 25 = .ok (.iload_n 1, 1) := by decide +kernel
theorem dX3_hasAllAhead_26 : decode cX3_hasAllAhead 26 = .ok (.iconst (-1), 1) := by decide +kernel
theorem dX3_hasAllAhead_27 : decode cX3_hasAllAhead 27 = .ok (.ixor, 1) := by decide +kernel
theorem dX3_hasAllAhead_28 : decode cX3_hasAllAhead 28 = .ok (.iand, 1) := by decide +kernel
theorem dX3_hasAllAhead_29 : decode cX3_hasAllAhead 29 = .ok (.ifCond .eq 5, 3) := by decide +kernel
theorem dX3_hasAllAhead_32 : decode cX3_hasAllAhead 32 = .ok (.iconst 0, 1) := by decide +kernel
theorem dX3_hasAllAhead_33 : decode cX3_hasAllAhead 33 = .ok (.ireturn, 1) := by decide +kernel
theorem dX3_hasAllAhead_34 : decode cX3_hasAllAhead 34 = .ok (.iinc 2 1, 3) := by decide +kernel
theorem dX3_hasAllAhead_37 : decode cX3_hasAllAhead 37 = .ok (.goto (-35), 3) := by decide +kernel
theorem dX3_hasAllAhead_40 : decode cX3_hasAllAhead 40 = .ok (.iconst 1, 1) := by decide +kernel
theorem dX3_hasAllAhead_41 : decode cX3_hasAllAhead 41 = .ok (.ireturn, 1) := by decide +kernel
theorem dX3_digitsOf_0 : decode cX3_digitsOf 0 = .ok (.iconst 0, 1) := by decide +kernel
theorem dX3_digitsOf_1 : decode cX3_digitsOf 1 = .ok (.istore_n 1, 1) := by decide +kernel
theorem dX3_digitsOf_2 : decode cX3_digitsOf 2 = .ok (.iconst 0, 1) := by decide +kernel
theorem dX3_digitsOf_3 : decode cX3_digitsOf 3 = .ok (.istore_n 2, 1) := by decide +kernel
theorem dX3_digitsOf_4 : decode cX3_digitsOf 4 = .ok (.iload_n 2, 1) := by decide +kernel
theorem dX3_digitsOf_5 : decode cX3_digitsOf 5 = .ok (.bipush 8, 2) := by decide +kernel
theorem dX3_digitsOf_7 : decode cX3_digitsOf 7 = .ok (.if_icmp .ge 30, 3) := by decide +kernel
theorem dX3_digitsOf_10 : decode cX3_digitsOf 10 = .ok (.iload_n 1, 1) := by decide +kernel
theorem dX3_digitsOf_11 : decode cX3_digitsOf 11 = .ok (.iload_n 0, 1) := by decide +kernel
theorem dX3_digitsOf_12 : decode cX3_digitsOf 12 = .ok (.iload_n 2, 1) := by decide +kernel
theorem dX3_digitsOf_13 : decode cX3_digitsOf 13 = .ok (.invokestatic 91, 3) := by decide +kernel
theorem dX3_digitsOf_16 : decode cX3_digitsOf 16 = .ok (.ifCond .eq 12, 3) := by decide +kernel
theorem dX3_digitsOf_19 : decode cX3_digitsOf 19 = .ok (.iconst 1, 1) := by decide +kernel
theorem dX3_digitsOf_20 : decode cX3_digitsOf 20 = .ok (.iload_n 2, 1) := by decide +kernel
theorem dX3_digitsOf_21 : decode cX3_digitsOf 21 = .ok (.invokestatic 51, 3) := by decide +kernel
theorem dX3_digitsOf_24 : decode cX3_digitsOf 24 = .ok (.ishl, 1) := by decide +kernel
theorem dX3_digitsOf_25 : decode cX3_digitsOf 25 = .ok (.goto 4, 3) := by decide +kernel
theorem dX3_digitsOf_28 : decode cX3_digitsOf 28 = .ok (.iconst 0, 1) := by decide +kernel
theorem dX3_digitsOf_29 : decode cX3_digitsOf 29 = .ok (.iadd, 1) := by decide +kernel
theorem dX3_digitsOf_30 : decode cX3_digitsOf 30 = .ok (.istore_n 1, 1) := by decide +kernel
theorem dX3_digitsOf_31 : decode cX3_digitsOf 31 = .ok (.iinc 2 1, 3) := by decide +kernel
theorem dX3_digitsOf_34 : decode cX3_digitsOf 34 = .ok (.goto (-30), 3) := by decide +kernel
theorem dX3_digitsOf_37 : decode cX3_digitsOf 37 = .ok (.iload_n 1, 1) := by decide +kernel
theorem dX3_digitsOf_38 : decode cX3_digitsOf 38 = .ok (.ireturn, 1) := by decide +kernel
theorem dX3_addStation_0 : decode cX3_addStation 0 = .ok (.aload_n 0, 1) := by decide +kernel
theorem dX3_addStation_1 : decode cX3_addStation 1 = .ok (.getfield 43, 3) := by decide +kernel
theorem dX3_addStation_4 : decode cX3_addStation 4 = .ok (.istore_n 2, 1) := by decide +kernel
theorem dX3_addStation_5 : decode cX3_addStation 5 = .ok (.iload_n 2, 1) := by decide +kernel
theorem dX3_addStation_6 : decode cX3_addStation 6 = .ok (.ifCond .le 24, 3) := by decide +kernel
theorem dX3_addStation_9 : decode cX3_addStation 9 = .ok (.aload_n 0, 1) := by decide +kernel
theorem dX3_addStation_10 : decode cX3_addStation 10 = .ok (.getfield 22, 3) := by decide +kernel
theorem dX3_addStation_13 : decode cX3_addStation 13 = .ok (.iload_n 2, 1) := by decide +kernel
theorem dX3_addStation_14 : decode cX3_addStation 14 = .ok (.baload, 1) := by decide +kernel
theorem dX3_addStation_15 : decode cX3_addStation 15 = .ok (.ifCond .eq 9, 3) := by decide +kernel
theorem dX3_addStation_18 : decode cX3_addStation 18 = .ok (.aload_n 0, 1) := by decide +kernel
theorem dX3_addStation_19 : decode cX3_addStation 19 = .ok (.iload_n 2, 1) := by decide +kernel
theorem dX3_addStation_20 : decode cX3_addStation 20 = .ok (.iload_n 1, 1) := by decide +kernel
theorem dX3_addStation_21 : decode cX3_addStation 21 = .ok (.invokevirtual 104, 3) := by decide +kernel
theorem dX3_addStation_24 : decode cX3_addStation 24 = .ok (.iinc 2 (-1), 3) := by decide +kernel
theorem dX3_addStation_27 : decode cX3_addStation 27 = .ok (.goto (-22), 3) := by decide +kernel
theorem dX3_addStation_30 : decode cX3_addStation 30 = .ok (.return_, 1) := by decide +kernel
theorem dX3_extend_0 : decode cX3_extend 0 = .ok (.aload_n 0, 1) := by decide +kernel
theorem dX3_extend_1 : decode cX3_extend 1 = .ok (.getfield 36, 3) := by decide +kernel
theorem dX3_extend_4 : decode cX3_extend 4 = .ok (.getfield 108, 3) := by decide +kernel
theorem dX3_extend_7 : decode cX3_extend 7 = .ok (.iload_n 2, 1) := by decide +kernel
theorem dX3_extend_8 : decode cX3_extend 8 = .ok (.iaload, 1) := by decide +kernel
theorem dX3_extend_9 : decode cX3_extend 9 = .ok (.istore_n 3, 1) := by decide +kernel
theorem dX3_extend_10 : decode cX3_extend 10 = .ok (.iload_n 1, 1) := by decide +kernel
theorem dX3_extend_11 : decode cX3_extend 11 = .ok (.istore 4, 2) := by decide +kernel
theorem dX3_extend_13 : decode cX3_extend 13 = .ok (.iconst 1, 1) := by decide +kernel
theorem dX3_extend_14 : decode cX3_extend 14 = .ok (.iload_n 1, 1) := by decide +kernel
theorem dX3_extend_15 : decode cX3_extend 15 = .ok (.invokestatic 111, 3) := by decide +kernel
theorem dX3_extend_18 : decode cX3_extend 18 = .ok (.ishl, 1) := by decide +kernel
theorem dX3_extend_19 : decode cX3_extend 19 = .ok (.istore 5, 2) := by decide +kernel
theorem dX3_extend_21 : decode cX3_extend 21 = .ok (.iload 5, 2) := by decide +kernel
theorem dX3_extend_23 : decode cX3_extend 23 = .ok (.iconst 1, 1) := by decide +kernel
theorem dX3_extend_24 : decode cX3_extend 24 = .ok (.if_icmp .le 114, 3) := by decide +kernel
theorem dX3_extend_27 : decode cX3_extend 27 = .ok (.iload_n 1, 1) := by decide +kernel
theorem dX3_extend_28 : decode cX3_extend 28 = .ok (.iload 4, 2) := by decide +kernel
theorem dX3_extend_30 : decode cX3_extend 30 = .ok (.iconst (-1), 1) := by decide +kernel
theorem dX3_extend_31 : decode cX3_extend 31 = .ok (.ixor, 1) := by decide +kernel
theorem dX3_extend_32 : decode cX3_extend 32 = .ok (.iand, 1) := by decide +kernel
theorem dX3_extend_33 : decode cX3_extend 33 = .ok (.istore 6, 2) := by decide +kernel
theorem dX3_extend_35 : decode cX3_extend 35 = .ok (.aload_n 0, 1) := by decide +kernel
theorem dX3_extend_36 : decode cX3_extend 36 = .ok (.getfield 18, 3) := by decide +kernel
theorem dX3_extend_39 : decode cX3_extend 39 = .ok (.iload 4, 2) := by decide +kernel
theorem dX3_extend_41 : decode cX3_extend 41 = .ok (.iaload, 1) := by decide +kernel
theorem dX3_extend_42 : decode cX3_extend 42 = .ok (.iload_n 3, 1) := by decide +kernel
theorem dX3_extend_43 : decode cX3_extend 43 = .ok (.if_icmp .gt 81, 3) := by decide +kernel
theorem dX3_extend_46 : decode cX3_extend 46 = .ok (.aload_n 0, 1) := by decide +kernel
theorem dX3_extend_47 : decode cX3_extend 47 = .ok (.getfield 26, 3) := by decide +kernel
theorem dX3_extend_50 : decode cX3_extend 50 = .ok (.iload 6, 2) := by decide +kernel
theorem dX3_extend_52 : decode cX3_extend 52 = .ok (.laload, 1) := by decide +kernel
theorem dX3_extend_53 : decode cX3_extend 53 = .ok (.lconst 0, 1) := by decide +kernel
theorem dX3_extend_54 : decode cX3_extend 54 = .ok (.lcmp, 1) := by decide +kernel
theorem dX3_extend_55 : decode cX3_extend 55 = .ok (.ifCond .le 69, 3) := by decide +kernel
theorem dX3_extend_58 : decode cX3_extend 58 = .ok (.aload_n 0, 1) := by decide +kernel
theorem dX3_extend_59 : decode cX3_extend 59 = .ok (.getfield 26, 3) := by decide +kernel
theorem dX3_extend_62 : decode cX3_extend 62 = .ok (.iload_n 1, 1) := by decide +kernel
theorem dX3_extend_63 : decode cX3_extend 63 = .ok (.dup2, 1) := by decide +kernel
theorem dX3_extend_64 : decode cX3_extend 64 = .ok (.laload, 1) := by decide +kernel
theorem dX3_extend_65 : decode cX3_extend 65 = .ok (.aload_n 0, 1) := by decide +kernel
theorem dX3_extend_66 : decode cX3_extend 66 = .ok (.getfield 26, 3) := by decide +kernel
theorem dX3_extend_69 : decode cX3_extend 69 = .ok (.iload 6, 2) := by decide +kernel
theorem dX3_extend_71 : decode cX3_extend 71 = .ok (.laload, 1) := by decide +kernel
theorem dX3_extend_72 : decode cX3_extend 72 = .ok (.ladd, 1) := by decide +kernel
theorem dX3_extend_73 : decode cX3_extend 73 = .ok (.lastore, 1) := by decide +kernel
theorem dX3_extend_74 : decode cX3_extend 74 = .ok (.aload_n 0, 1) := by decide +kernel
theorem dX3_extend_75 : decode cX3_extend 75 = .ok (.getfield 30, 3) := by decide +kernel
theorem dX3_extend_78 : decode cX3_extend 78 = .ok (.iload 6, 2) := by decide +kernel
theorem dX3_extend_80 : decode cX3_extend 80 = .ok (.iaload, 1) := by decide +kernel
theorem dX3_extend_81 : decode cX3_extend 81 = .ok (.iload_n 2, 1) := by decide +kernel
theorem dX3_extend_82 : decode cX3_extend 82 = .ok (.aload_n 0, 1) := by decide +kernel
theorem dX3_extend_83 : decode cX3_extend 83 = .ok (.getfield 33, 3) := by decide +kernel
theorem dX3_extend_86 : decode cX3_extend 86 = .ok (.iload 4, 2) := by decide +kernel
theorem dX3_extend_88 : decode cX3_extend 88 = .ok (.iaload, 1) := by decide +kernel
theorem dX3_extend_89 : decode cX3_extend 89 = .ok (.imul, 1) := by decide +kernel
theorem dX3_extend_90 : decode cX3_extend 90 = .ok (.iadd, 1) := by decide +kernel
theorem dX3_extend_91 : decode cX3_extend 91 = .ok (.istore 7, 2) := by decide +kernel
theorem dX3_extend_93 : decode cX3_extend 93 = .ok (.aload_n 0, 1) := by decide +kernel
theorem dX3_extend_94 : decode cX3_extend 94 = .ok (.getfield 30, 3) := by decide +kernel
theorem dX3_extend_97 : decode cX3_extend 97 = .ok (.iload_n 1, 1) := by decide +kernel
theorem dX3_extend_98 : decode cX3_extend 98 = .ok (.aload_n 0, 1) := by decide +kernel
theorem dX3_extend_99 : decode cX3_extend 99 = .ok (.getfield 30, 3) := by decide +kernel
theorem dX3_extend_102 : decode cX3_extend 102 = .ok (.iload_n 1, 1) := by decide +kernel
theorem dX3_extend_103 : decode cX3_extend 103 = .ok (.iaload, 1) := by decide +kernel
theorem dX3_extend_104 : decode cX3_extend 104 = .ok (.ifCond .ge 8, 3) := by decide +kernel
theorem dX3_extend_107 : decode cX3_extend 107 = .ok (.iload 7, 2) := by decide +kernel
theorem dX3_extend_109 : decode cX3_extend 109 = .ok (.goto 14, 3) := by decide +kernel
theorem dX3_extend_112 : decode cX3_extend 112 = .ok (.aload_n 0, 1) := by decide +kernel
theorem dX3_extend_113 : decode cX3_extend 113 = .ok (.getfield 30, 3) := by decide +kernel
theorem dX3_extend_116 : decode cX3_extend 116 = .ok (.iload_n 1, 1) := by decide +kernel
theorem dX3_extend_117 : decode cX3_extend 117 = .ok (.iaload, 1) := by decide +kernel
theorem dX3_extend_118 : decode cX3_extend 118 = .ok (.iload 7, 2) := by decide +kernel
theorem dX3_extend_120 : decode cX3_extend 120 = .ok (.invokestatic 60, 3) := by decide +kernel
theorem dX3_extend_123 : decode cX3_extend 123 = .ok (.iastore, 1) := by decide +kernel
theorem dX3_extend_124 : decode cX3_extend 124 = .ok (.iload 4, 2) := by decide +kernel
theorem dX3_extend_126 : decode cX3_extend 126 = .ok (.iconst 1, 1) := by decide +kernel
theorem dX3_extend_127 : decode cX3_extend 127 = .ok (.isub, 1) := by decide +kernel
theorem dX3_extend_128 : decode cX3_extend 128 = .ok (.iload_n 1, 1) := by decide +kernel
theorem dX3_extend_129 : decode cX3_extend 129 = .ok (.iand, 1) := by decide +kernel
theorem dX3_extend_130 : decode cX3_extend 130 = .ok (.istore 4, 2) := by decide +kernel
theorem dX3_extend_132 : decode cX3_extend 132 = .ok (.iinc 5 (-1), 3) := by decide +kernel
theorem dX3_extend_135 : decode cX3_extend 135 = .ok (.goto (-114), 3) := by decide +kernel
theorem dX3_extend_138 : decode cX3_extend 138 = .ok (.return_, 1) := by decide +kernel
theorem dJ0_length_8abf5_0 : decode cJ0_length_8abf5 0 = .ok (.aload_n 0, 1) := by decide +kernel
theorem dJ0_length_8abf5_1 : decode cJ0_length_8abf5 1 = .ok (.getfield 9, 3) := by decide +kernel
theorem dJ0_length_8abf5_4 : decode cJ0_length_8abf5 4 = .ok (.arraylength, 1) := by decide +kernel
theorem dJ0_length_8abf5_5 : decode cJ0_length_8abf5 5 = .ok (.aload_n 0, 1) := by decide +kernel
theorem dJ0_length_8abf5_6 : decode cJ0_length_8abf5 6 = .ok (.invokevirtual 335, 3) := by decide +kernel
theorem dJ0_length_8abf5_9 : decode cJ0_length_8abf5 9 = .ok (.ishr, 1) := by decide +kernel
theorem dJ0_length_8abf5_10 : decode cJ0_length_8abf5 10 = .ok (.ireturn, 1) := by decide +kernel
theorem dJ0_charAt_5068e_0 : decode cJ0_charAt_5068e 0 = .ok (.aload_n 0, 1) := by decide +kernel
theorem dJ0_charAt_5068e_1 : decode cJ0_charAt_5068e 1 = .ok (.invokevirtual 492, 3) := by decide +kernel
theorem dJ0_charAt_5068e_4 : decode cJ0_charAt_5068e 4 = .ok (.ifCond .eq 12, 3) := by decide +kernel
theorem dJ0_charAt_5068e_7 : decode cJ0_charAt_5068e 7 = .ok (.aload_n 0, 1) := by decide +kernel
theorem dJ0_charAt_5068e_8 : decode cJ0_charAt_5068e 8 = .ok (.getfield 9, 3) := by decide +kernel
theorem dJ0_charAt_5068e_11 : decode cJ0_charAt_5068e 11 = .ok (.iload_n 1, 1) := by decide +kernel
theorem dJ0_charAt_5068e_12 : decode cJ0_charAt_5068e 12 = .ok (.invokestatic 495, 3) := by decide +kernel
theorem dJ0_charAt_5068e_15 : decode cJ0_charAt_5068e 15 = .ok (.ireturn, 1) := by decide +kernel
theorem dJ0_charAt_5068e_16 : decode cJ0_charAt_5068e 16 = .ok (.aload_n 0, 1) := by decide +kernel
theorem dJ0_charAt_5068e_17 : decode cJ0_charAt_5068e 17 = .ok (.getfield 9, 3) := by decide +kernel
theorem dJ0_charAt_5068e_20 : decode cJ0_charAt_5068e 20 = .ok (.iload_n 1, 1) := by decide +kernel
theorem dJ0_charAt_5068e_21 : decode cJ0_charAt_5068e 21 = .ok (.invokestatic 498, 3) := by decide +kernel
theorem dJ0_charAt_5068e_24 : decode cJ0_charAt_5068e 24 = .ok (.ireturn, 1) := by decide +kernel
theorem dJ0_coder_7d493_0 : decode cJ0_coder_7d493 0 = .ok (.getstatic 38, 3) := by decide +kernel
theorem dJ0_coder_7d493_3 : decode cJ0_coder_7d493 3 = .ok (.ifCond .eq 10, 3) := by decide +kernel
theorem dJ0_coder_7d493_6 : decode cJ0_coder_7d493 6 = .ok (.aload_n 0, 1) := by decide +kernel
theorem dJ0_coder_7d493_7 : decode cJ0_coder_7d493 7 = .ok (.getfield 15, 3) := by decide +kernel
theorem dJ0_coder_7d493_10 : decode cJ0_coder_7d493 10 = .ok (.goto 4, 3) := by decide +kernel
theorem dJ0_coder_7d493_13 : decode cJ0_coder_7d493 13 = .ok (.iconst 1, 1) := by decide +kernel
theorem dJ0_coder_7d493_14 : decode cJ0_coder_7d493 14 = .ok (.ireturn, 1) := by decide +kernel
theorem dJ0_isLatin1_aae02_0 : decode cJ0_isLatin1_aae02 0 = .ok (.getstatic 38, 3) := by decide +kernel
theorem dJ0_isLatin1_aae02_3 : decode cJ0_isLatin1_aae02 3 = .ok (.ifCond .eq 14, 3) := by decide +kernel
theorem dJ0_isLatin1_aae02_6 : decode cJ0_isLatin1_aae02 6 = .ok (.aload_n 0, 1) := by decide +kernel
theorem dJ0_isLatin1_aae02_7 : decode cJ0_isLatin1_aae02 7 = .ok (.getfield 15, 3) := by decide +kernel
theorem dJ0_isLatin1_aae02_10 : decode cJ0_isLatin1_aae02 10 = .ok (.ifCond .ne 7, 3) := by decide +kernel
theorem dJ0_isLatin1_aae02_13 : decode cJ0_isLatin1_aae02 13 = .ok (.iconst 1, 1) := by decide +kernel
theorem dJ0_isLatin1_aae02_14 : decode cJ0_isLatin1_aae02 14 = .ok (.goto 4, 3) := by decide +kernel
theorem dJ0_isLatin1_aae02_17 : decode cJ0_isLatin1_aae02 17 = .ok (.iconst 0, 1) := by decide +kernel
theorem dJ0_isLatin1_aae02_18 : decode cJ0_isLatin1_aae02 18 = .ok (.ireturn, 1) := by decide +kernel
theorem dJ0_checkIndex_df160_0 : decode cJ0_checkIndex_df160 0 = .ok (.iload_n 0, 1) := by decide +kernel
theorem dJ0_checkIndex_df160_1 : decode cJ0_checkIndex_df160 1 = .ok (.iload_n 1, 1) := by decide +kernel
theorem dJ0_checkIndex_df160_2 : decode cJ0_checkIndex_df160 2 = .ok (.getstatic 1053, 3) := by decide +kernel
theorem dJ0_checkIndex_df160_5 : decode cJ0_checkIndex_df160 5 = .ok (.invokestatic 1059, 3) := by decide +kernel
theorem dJ0_checkIndex_df160_8 : decode cJ0_checkIndex_df160 8 = .ok (.pop, 1) := by decide +kernel
theorem dJ0_checkIndex_df160_9 : decode cJ0_checkIndex_df160 9 = .ok (.return_, 1) := by decide +kernel
theorem dJ1_charAt_3b067_0 : decode cJ1_charAt_3b067 0 = .ok (.iload_n 1, 1) := by decide +kernel
theorem dJ1_charAt_3b067_1 : decode cJ1_charAt_3b067 1 = .ok (.aload_n 0, 1) := by decide +kernel
theorem dJ1_charAt_3b067_2 : decode cJ1_charAt_3b067 2 = .ok (.arraylength, 1) := by decide +kernel
theorem dJ1_charAt_3b067_3 : decode cJ1_charAt_3b067 3 = .ok (.invokestatic 9, 3) := by decide +kernel
theorem dJ1_charAt_3b067_6 : decode cJ1_charAt_3b067 6 = .ok (.aload_n 0, 1) := by decide +kernel
theorem dJ1_charAt_3b067_7 : decode cJ1_charAt_3b067 7 = .ok (.iload_n 1, 1) := by decide +kernel
theorem dJ1_charAt_3b067_8 : decode cJ1_charAt_3b067 8 = .ok (.baload, 1) := by decide +kernel
theorem dJ1_charAt_3b067_9 : decode cJ1_charAt_3b067 9 = .ok (.sipush 255, 3) := by decide +kernel
theorem dJ1_charAt_3b067_12 : decode cJ1_charAt_3b067 12 = .ok (.iand, 1) := by decide +kernel
theorem dJ1_charAt_3b067_13 : decode cJ1_charAt_3b067 13 = .ok (.i2c, 1) := by decide +kernel
theorem dJ1_charAt_3b067_14 : decode cJ1_charAt_3b067 14 = .ok (.ireturn, 1) := by decide +kernel
theorem dJ2_getChar_3b067_0 : decode cJ2_getChar_3b067 0 = .ok (.getstatic 44, 3) := by decide +kernel
theorem dJ2_getChar_3b067_3 : decode cJ2_getChar_3b067 3 = .ok (.ifCond .ne 25, 3) := by decide +kernel
theorem dJ2_getChar_3b067_6 : decode cJ2_getChar_3b067 6 = .ok (.iload_n 1, 1) := by decide +kernel
theorem dJ2_getChar_3b067_7 : decode cJ2_getChar_3b067 7 = .ok (.ifCond .lt 11, 3) := by decide +kernel
theorem dJ2_getChar_3b067_10 : decode cJ2_getChar_3b067 10 = .ok (.iload_n 1, 1) := by decide +kernel
theorem dJ2_getChar_3b067_11 : decode cJ2_getChar_3b067 11 = .ok (.aload_n 0, 1) := by decide +kernel
theorem dJ2_getChar_3b067_12 : decode cJ2_getChar_3b067 12 = .ok (.invokestatic 48, 3) := by decide +kernel
theorem dJ2_getChar_3b067_15 : decode cJ2_getChar_3b067 15 = .ok (.if_icmp .lt 13, 3) := by decide +kernel
theorem dJ2_getChar_3b067_18 : decode cJ2_getChar_3b067 18 = .ok (.new 52, 3) := by decide +kernel
theorem dJ2_getChar_3b067_21 : decode cJ2_getChar_3b067 21 = .ok (.dup, 1) := by decide +kernel
theorem dJ2_getChar_3b067_22 : decode cJ2_getChar_3b067 22 = .ok (.ldc 54, 2) := by decide +kernel
theorem dJ2_getChar_3b067_24 : decode cJ2_getChar_3b067 24 = .ok (.invokespecial 56, 3) := by decide +kernel
theorem dJ2_getChar_3b067_27 : decode cJ2_getChar_3b067 27 = .ok (.athrow, 1) := by decide +kernel
theorem dJ2_getChar_3b067_28 : decode cJ2_getChar_3b067 28 = .ok (.iload_n 1, 1) := by decide +kernel
theorem dJ2_getChar_3b067_29 : decode cJ2_getChar_3b067 29 = .ok (.iconst 1, 1) := by decide +kernel
theorem dJ2_getChar_3b067_30 : decode cJ2_getChar_3b067 30 = .ok (.ishl, 1) := by decide +kernel
theorem dJ2_getChar_3b067_31 : decode cJ2_getChar_3b067 31 = .ok (.istore_n 1, 1) := by decide +kernel
theorem dJ2_getChar_3b067_32 : decode cJ2_getChar_3b067 32 = .ok (.aload_n 0, 1) := by decide +kernel
theorem dJ2_getChar_3b067_33 : decode cJ2_getChar_3b067 33 = .ok (.iload_n 1, 1) := by decide +kernel
theorem dJ2_getChar_3b067_34 : decode cJ2_getChar_3b067 34 = .ok (.iinc 1 1, 3) := by decide +kernel
theorem dJ2_getChar_3b067_37 : decode cJ2_getChar_3b067 37 = .ok (.baload, 1) := by decide +kernel
theorem dJ2_getChar_3b067_38 : decode cJ2_getChar_3b067 38 = .ok (.sipush 255, 3) := by decide +kernel
theorem dJ2_getChar_3b067_41 : decode cJ2_getChar_3b067 41 = .ok (.iand, 1) := by decide +kernel
theorem dJ2_getChar_3b067_42 : decode cJ2_getChar_3b067 42 = .ok (.getstatic 59, 3) := by decide +kernel
theorem dJ2_getChar_3b067_45 : decode cJ2_getChar_3b067 45 = .ok (.ishl, 1) := by decide +kernel
theorem dJ2_getChar_3b067_46 : decode cJ2_getChar_3b067 46 = .ok (.aload_n 0, 1) := by decide +kernel
theorem dJ2_getChar_3b067_47 : decode cJ2_getChar_3b067 47 = .ok (.iload_n 1, 1) := by decide +kernel
theorem dJ2_getChar_3b067_48 : decode cJ2_getChar_3b067 48 = .ok (.baload, 1) := by decide +kernel
theorem dJ2_getChar_3b067_49 : decode cJ2_getChar_3b067 49 = .ok (.sipush 255, 3) := by decide +kernel
theorem dJ2_getChar_3b067_52 : decode cJ2_getChar_3b067 52 = .ok (.iand, 1) := by decide +kernel
theorem dJ2_getChar_3b067_53 : decode cJ2_getChar_3b067 53 = .ok (.getstatic 63, 3) := by decide +kernel
theorem dJ2_getChar_3b067_56 : decode cJ2_getChar_3b067 56 = .ok (.ishl, 1) := by decide +kernel
theorem dJ2_getChar_3b067_57 : decode cJ2_getChar_3b067 57 = .ok (.ior, 1) := by decide +kernel
theorem dJ2_getChar_3b067_58 : decode cJ2_getChar_3b067 58 = .ok (.i2c, 1) := by decide +kernel
theorem dJ2_getChar_3b067_59 : decode cJ2_getChar_3b067 59 = .ok (.ireturn, 1) := by decide +kernel
theorem dJ2_length_9d52b_0 : decode cJ2_length_9d52b 0 = .ok (.aload_n 0, 1) := by decide +kernel
theorem dJ2_length_9d52b_1 : decode cJ2_length_9d52b 1 = .ok (.arraylength, 1) := by decide +kernel
theorem dJ2_length_9d52b_2 : decode cJ2_length_9d52b 2 = .ok (.iconst 1, 1) := by decide +kernel
theorem dJ2_length_9d52b_3 : decode cJ2_length_9d52b 3 = .ok (.ishr, 1) := by decide +kernel
theorem dJ2_length_9d52b_4 : decode cJ2_length_9d52b 4 = .ok (.ireturn, 1) := by decide +kernel
theorem dJ2_charAt_3b067_0 : decode cJ2_charAt_3b067 0 = .ok (.iload_n 1, 1) := by decide +kernel
theorem dJ2_charAt_3b067_1 : decode cJ2_charAt_3b067 1 = .ok (.aload_n 0, 1) := by decide +kernel
theorem dJ2_charAt_3b067_2 : decode cJ2_charAt_3b067 2 = .ok (.invokestatic 67, 3) := by decide +kernel
theorem dJ2_charAt_3b067_5 : decode cJ2_charAt_3b067 5 = .ok (.aload_n 0, 1) := by decide +kernel
theorem dJ2_charAt_3b067_6 : decode cJ2_charAt_3b067 6 = .ok (.iload_n 1, 1) := by decide +kernel
theorem dJ2_charAt_3b067_7 : decode cJ2_charAt_3b067 7 = .ok (.invokestatic 71, 3) := by decide +kernel
theorem dJ2_charAt_3b067_10 : decode cJ2_charAt_3b067 10 = .ok (.ireturn, 1) := by decide +kernel
theorem dJ2_checkIndex_2214a_0 : decode cJ2_checkIndex_2214a 0 = .ok (.iload_n 0, 1) := by decide +kernel
theorem dJ2_checkIndex_2214a_1 : decode cJ2_checkIndex_2214a 1 = .ok (.aload_n 1, 1) := by decide +kernel
theorem dJ2_checkIndex_2214a_2 : decode cJ2_checkIndex_2214a 2 = .ok (.invokestatic 48, 3) := by decide +kernel
theorem dJ2_checkIndex_2214a_5 : decode cJ2_checkIndex_2214a 5 = .ok (.invokestatic 414, 3) := by decide +kernel
theorem dJ2_checkIndex_2214a_8 : decode cJ2_checkIndex_2214a 8 = .ok (.return_, 1) := by decide +kernel
theorem dJ3_checkIndex_8e157_0 : decode cJ3_checkIndex_8e157 0 = .ok (.iload_n 0, 1) := by decide +kernel
theorem dJ3_checkIndex_8e157_1 : decode cJ3_checkIndex_8e157 1 = .ok (.ifCond .lt 8, 3) := by decide +kernel
theorem dJ3_checkIndex_8e157_4 : decode cJ3_checkIndex_8e157 4 = .ok (.iload_n 0, 1) := by decide +kernel
theorem dJ3_checkIndex_8e157_5 : decode cJ3_checkIndex_8e157 5 = .ok (.iload_n 1, 1) := by decide +kernel
theorem dJ3_checkIndex_8e157_6 : decode cJ3_checkIndex_8e157 6 = .ok (.if_icmp .lt 10, 3) := by decide +kernel
theorem dJ3_checkIndex_8e157_9 : decode cJ3_checkIndex_8e157 9 = .ok (.aload_n 2, 1) := by decide +kernel
theorem dJ3_checkIndex_8e157_10 : decode cJ3_checkIndex_8e157 10 = .ok (.iload_n 0, 1) := by decide +kernel
theorem dJ3_checkIndex_8e157_11 : decode cJ3_checkIndex_8e157 11 = .ok (.iload_n 1, 1) := by decide +kernel
theorem dJ3_checkIndex_8e157_12 : decode cJ3_checkIndex_8e157 12 = .ok (.invokestatic 95, 3) := by decide +kernel
theorem dJ3_checkIndex_8e157_15 : decode cJ3_checkIndex_8e157 15 = .ok (.athrow, 1) := by decide +kernel
theorem dJ3_checkIndex_8e157_16 : decode cJ3_checkIndex_8e157 16 = .ok (.iload_n 0, 1) := by decide +kernel
theorem dJ3_checkIndex_8e157_17 : decode cJ3_checkIndex_8e157 17 = .ok (.ireturn, 1) := by decide +kernel
