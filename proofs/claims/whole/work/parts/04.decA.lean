theorem dX0_init_0 : decode cX0_init 0 = .ok (.aload_n 0, 1) := by decide +kernel
theorem dX0_init_1 : decode cX0_init 1 = .ok (.invokespecial 1, 3) := by decide +kernel
theorem dX0_init_4 : decode cX0_init 4 = .ok (.aload_n 0, 1) := by decide +kernel
theorem dX0_init_5 : decode cX0_init 5 = .ok (.bipush 16, 2) := by decide +kernel
theorem dX0_init_7 : decode cX0_init 7 = .ok (.newarray .boolean, 2) := by decide +kernel
theorem dX0_init_9 : decode cX0_init 9 = .ok (.putfield 9, 3) := by decide +kernel
theorem dX0_init_12 : decode cX0_init 12 = .ok (.return_, 1) := by decide +kernel
theorem dX0_move_0 : decode cX0_move 0 = .ok (.aload_n 0, 1) := by decide +kernel
theorem dX0_move_1 : decode cX0_move 1 = .ok (.getfield 9, 3) := by decide +kernel
theorem dX0_move_4 : decode cX0_move 4 = .ok (.iload_n 1, 1) := by decide +kernel
theorem dX0_move_5 : decode cX0_move 5 = .ok (.bipush 15, 2) := by decide +kernel
theorem dX0_move_7 : decode cX0_move 7 = .ok (.iand, 1) := by decide +kernel
theorem dX0_move_8 : decode cX0_move 8 = .ok (.iload_n 2, 1) := by decide +kernel
theorem dX0_move_9 : decode cX0_move 9 = .ok (.bastore, 1) := by decide +kernel
theorem dX0_move_10 : decode cX0_move 10 = .ok (.return_, 1) := by decide +kernel
theorem dX0_isDown_0 : decode cX0_isDown 0 = .ok (.aload_n 0, 1) := by decide +kernel
theorem dX0_isDown_1 : decode cX0_isDown 1 = .ok (.getfield 9, 3) := by decide +kernel
theorem dX0_isDown_4 : decode cX0_isDown 4 = .ok (.iload_n 1, 1) := by decide +kernel
theorem dX0_isDown_5 : decode cX0_isDown 5 = .ok (.bipush 15, 2) := by decide +kernel
theorem dX0_isDown_7 : decode cX0_isDown 7 = .ok (.iand, 1) := by decide +kernel
theorem dX0_isDown_8 : decode cX0_isDown 8 = .ok (.baload, 1) := by decide +kernel
theorem dX0_isDown_9 : decode cX0_isDown 9 = .ok (.ireturn, 1) := by decide +kernel
theorem dX0_least_0 : decode cX0_least 0 = .ok (.iconst 0, 1) := by decide +kernel
theorem dX0_least_1 : decode cX0_least 1 = .ok (.istore_n 1, 1) := by decide +kernel
theorem dX0_least_2 : decode cX0_least 2 = .ok (.iload_n 1, 1) := by decide +kernel
theorem dX0_least_3 : decode cX0_least 3 = .ok (.bipush 16, 2) := by decide +kernel
theorem dX0_least_5 : decode cX0_least 5 = .ok (.if_icmp .ge 20, 3) := by decide +kernel
theorem dX0_least_8 : decode cX0_least 8 = .ok (.aload_n 0, 1) := by decide +kernel
theorem dX0_least_9 : decode cX0_least 9 = .ok (.getfield 9, 3) := by decide +kernel
theorem dX0_least_12 : decode cX0_least 12 = .ok (.iload_n 1, 1) := by decide +kernel
theorem dX0_least_13 : decode cX0_least 13 = .ok (.baload, 1) := by decide +kernel
theorem dX0_least_14 : decode cX0_least 14 = .ok (.ifCond .eq 5, 3) := by decide +kernel
theorem dX0_least_17 : decode cX0_least 17 = .ok (.iload_n 1, 1) := by decide +kernel
theorem dX0_least_18 : decode cX0_least 18 = .ok (.ireturn, 1) := by decide +kernel
theorem dX0_least_19 : decode cX0_least 19 = .ok (.iinc 1 1, 3) := by decide +kernel
theorem dX0_least_22 : decode cX0_least 22 = .ok (.goto (-20), 3) := by decide +kernel
theorem dX0_least_25 : decode cX0_least 25 = .ok (.iconst (-1), 1) := by decide +kernel
theorem dX0_least_26 : decode cX0_least 26 = .ok (.ireturn, 1) := by decide +kernel
theorem dX0_ask_0 : decode cX0_ask 0 = .ok (.aload_n 0, 1) := by decide +kernel
theorem dX0_ask_1 : decode cX0_ask 1 = .ok (.iload_n 1, 1) := by decide +kernel
theorem dX0_ask_2 : decode cX0_ask 2 = .ok (.bipush 15, 2) := by decide +kernel
theorem dX0_ask_4 : decode cX0_ask 4 = .ok (.iand, 1) := by decide +kernel
theorem dX0_ask_5 : decode cX0_ask 5 = .ok (.putfield 13, 3) := by decide +kernel
theorem dX0_ask_8 : decode cX0_ask 8 = .ok (.return_, 1) := by decide +kernel
theorem dX0_asked_0 : decode cX0_asked 0 = .ok (.aload_n 0, 1) := by decide +kernel
theorem dX0_asked_1 : decode cX0_asked 1 = .ok (.getfield 13, 3) := by decide +kernel
theorem dX0_asked_4 : decode cX0_asked 4 = .ok (.ireturn, 1) := by decide +kernel
theorem dX0_askedIsDown_0 : decode cX0_askedIsDown 0 = .ok (.aload_n 0, 1) := by decide +kernel
theorem dX0_askedIsDown_1 : decode cX0_askedIsDown 1 = .ok (.getfield 9, 3) := by decide +kernel
theorem dX0_askedIsDown_4 : decode cX0_askedIsDown 4 = .ok (.aload_n 0, 1) := by decide +kernel
theorem dX0_askedIsDown_5 : decode cX0_askedIsDown 5 = .ok (.getfield 13, 3) := by decide +kernel
theorem dX0_askedIsDown_8 : decode cX0_askedIsDown 8 = .ok (.bipush 15, 2) := by decide +kernel
theorem dX0_askedIsDown_10 : decode cX0_askedIsDown 10 = .ok (.iand, 1) := by decide +kernel
theorem dX0_askedIsDown_11 : decode cX0_askedIsDown 11 = .ok (.baload, 1) := by decide +kernel
theorem dX0_askedIsDown_12 : decode cX0_askedIsDown 12 = .ok (.ireturn, 1) := by decide +kernel
theorem dX2_init_0 : decode cX2_init 0 = .ok (.aload_n 0, 1) := by decide +kernel
theorem dX2_init_1 : decode cX2_init 1 = .ok (.invokespecial 1, 3) := by decide +kernel
theorem dX2_init_4 : decode cX2_init 4 = .ok (.aload_n 0, 1) := by decide +kernel
theorem dX2_init_5 : decode cX2_init 5 = .ok (.sipush 2048, 3) := by decide +kernel
theorem dX2_init_8 : decode cX2_init 8 = .ok (.newarray .int, 2) := by decide +kernel
theorem dX2_init_10 : decode cX2_init 10 = .ok (.putfield 9, 3) := by decide +kernel
theorem dX2_init_13 : decode cX2_init 13 = .ok (.return_, 1) := by decide +kernel
theorem dX2_read_0 : decode cX2_read 0 = .ok (.aload_n 0, 1) := by decide +kernel
theorem dX2_read_1 : decode cX2_read 1 = .ok (.getfield 9, 3) := by decide +kernel
theorem dX2_read_4 : decode cX2_read 4 = .ok (.iload_n 1, 1) := by decide +kernel
theorem dX2_read_5 : decode cX2_read 5 = .ok (.sipush 2047, 3) := by decide +kernel
theorem dX2_read_8 : decode cX2_read 8 = .ok (.iand, 1) := by decide +kernel
theorem dX2_read_9 : decode cX2_read 9 = .ok (.iaload, 1) := by decide +kernel
theorem dX2_read_10 : decode cX2_read 10 = .ok (.ireturn, 1) := by decide +kernel
theorem dX2_write_0 : decode cX2_write 0 = .ok (.aload_n 0, 1) := by decide +kernel
theorem dX2_write_1 : decode cX2_write 1 = .ok (.getfield 9, 3) := by decide +kernel
theorem dX2_write_4 : decode cX2_write 4 = .ok (.iload_n 1, 1) := by decide +kernel
theorem dX2_write_5 : decode cX2_write 5 = .ok (.sipush 2047, 3) := by decide +kernel
theorem dX2_write_8 : decode cX2_write 8 = .ok (.iand, 1) := by decide +kernel
theorem dX2_write_9 : decode cX2_write 9 = .ok (.iload_n 2, 1) := by decide +kernel
theorem dX2_write_10 : decode cX2_write 10 = .ok (.sipush 255, 3) := by decide +kernel
theorem dX2_write_13 : decode cX2_write 13 = .ok (.iand, 1) := by decide +kernel
theorem dX2_write_14 : decode cX2_write 14 = .ok (.iastore, 1) := by decide +kernel
theorem dX2_write_15 : decode cX2_write 15 = .ok (.return_, 1) := by decide +kernel
theorem dX2_pair_0 : decode cX2_pair 0 = .ok (.aload_n 0, 1) := by decide +kernel
theorem dX2_pair_1 : decode cX2_pair 1 = .ok (.iload_n 1, 1) := by decide +kernel
theorem dX2_pair_2 : decode cX2_pair 2 = .ok (.invokevirtual 13, 3) := by decide +kernel
theorem dX2_pair_5 : decode cX2_pair 5 = .ok (.sipush 256, 3) := by decide +kernel
theorem dX2_pair_8 : decode cX2_pair 8 = .ok (.imul, 1) := by decide +kernel
theorem dX2_pair_9 : decode cX2_pair 9 = .ok (.aload_n 0, 1) := by decide +kernel
theorem dX2_pair_10 : decode cX2_pair 10 = .ok (.iload_n 1, 1) := by decide +kernel
theorem dX2_pair_11 : decode cX2_pair 11 = .ok (.iconst 1, 1) := by decide +kernel
theorem dX2_pair_12 : decode cX2_pair 12 = .ok (.iadd, 1) := by decide +kernel
theorem dX2_pair_13 : decode cX2_pair 13 = .ok (.invokevirtual 13, 3) := by decide +kernel
theorem dX2_pair_16 : decode cX2_pair 16 = .ok (.iadd, 1) := by decide +kernel
theorem dX2_pair_17 : decode cX2_pair 17 = .ok (.ireturn, 1) := by decide +kernel
theorem dX3_init_0 : decode cX3_init 0 = .ok (.aload_n 0, 1) := by decide +kernel
theorem dX3_init_1 : decode cX3_init 1 = .ok (.invokespecial 1, 3) := by decide +kernel
theorem dX3_init_4 : decode cX3_init 4 = .ok (.aload_n 0, 1) := by decide +kernel
theorem dX3_init_5 : decode cX3_init 5 = .ok (.sipush 1024, 3) := by decide +kernel
theorem dX3_init_8 : decode cX3_init 8 = .ok (.newarray .int, 2) := by decide +kernel
theorem dX3_init_10 : decode cX3_init 10 = .ok (.putfield 9, 3) := by decide +kernel
theorem dX3_init_13 : decode cX3_init 13 = .ok (.aload_n 0, 1) := by decide +kernel
theorem dX3_init_14 : decode cX3_init 14 = .ok (.aload_n 1, 1) := by decide +kernel
theorem dX3_init_15 : decode cX3_init 15 = .ok (.putfield 13, 3) := by decide +kernel
theorem dX3_init_18 : decode cX3_init 18 = .ok (.return_, 1) := by decide +kernel
theorem dX3_switchTo_0 : decode cX3_switchTo 0 = .ok (.aload_n 0, 1) := by decide +kernel
theorem dX3_switchTo_1 : decode cX3_switchTo 1 = .ok (.iload_n 1, 1) := by decide +kernel
theorem dX3_switchTo_2 : decode cX3_switchTo 2 = .ok (.putfield 17, 3) := by decide +kernel
theorem dX3_switchTo_5 : decode cX3_switchTo 5 = .ok (.return_, 1) := by decide +kernel
theorem dX3_flag_0 : decode cX3_flag 0 = .ok (.aload_n 0, 1) := by decide +kernel
theorem dX3_flag_1 : decode cX3_flag 1 = .ok (.getfield 17, 3) := by decide +kernel
theorem dX3_flag_4 : decode cX3_flag 4 = .ok (.ifCond .eq 45, 3) := by decide +kernel
theorem dX3_flag_7 : decode cX3_flag 7 = .ok (.aload_n 0, 1) := by decide +kernel
theorem dX3_flag_8 : decode cX3_flag 8 = .ok (.getfield 21, 3) := by decide +kernel
theorem dX3_flag_11 : decode cX3_flag 11 = .ok (.bipush 60, 2) := by decide +kernel
theorem dX3_flag_13 : decode cX3_flag 13 = .ok (.if_icmp .lt 12, 3) := by decide +kernel
theorem dX3_flag_16 : decode cX3_flag 16 = .ok (.aload_n 0, 1) := by decide +kernel
theorem dX3_flag_17 : decode cX3_flag 17 = .ok (.getfield 21, 3) := by decide +kernel
theorem dX3_flag_20 : decode cX3_flag 20 = .ok (.bipush 63, 2) := by decide +kernel
theorem dX3_flag_22 : decode cX3_flag 22 = .ok (.if_icmp .le 23, 3) := by decide +kernel
theorem dX3_flag_25 : decode cX3_flag 25 = .ok (.aload_n 0, 1) := by decide +kernel
theorem dX3_flag_26 : decode cX3_flag 26 = .ok (.getfield 21, 3) := by decide +kernel
theorem dX3_flag_29 : decode cX3_flag 29 = .ok (.sipush 188, 3) := by decide +kernel
theorem dX3_flag_32 : decode cX3_flag 32 = .ok (.if_icmp .lt 17, 3) := by decide +kernel
theorem dX3_flag_35 : decode cX3_flag 35 = .ok (.aload_n 0, 1) := by decide +kernel
theorem dX3_flag_36 : decode cX3_flag 36 = .ok (.getfield 21, 3) := by decide +kernel
theorem dX3_flag_39 : decode cX3_flag 39 = .ok (.sipush 191, 3) := by decide +kernel
theorem dX3_flag_42 : decode cX3_flag 42 = .ok (.if_icmp .gt 7, 3) := by decide +kernel
theorem dX3_flag_45 : decode cX3_flag 45 = .ok (.iconst 1, 1) := by decide +kernel
theorem dX3_flag_46 : decode cX3_flag 46 = .ok (.goto 4, 3) := by decide +kernel
theorem dX3_flag_49 : decode cX3_flag 49 = .ok (.iconst 0, 1) := by decide +kernel
theorem dX3_flag_50 : decode cX3_flag 50 = .ok (.ireturn, 1) := by decide +kernel
theorem dX3_part_0 : decode cX3_part 0 = .ok (.iload_n 1, 1) := by decide +kernel
theorem dX3_part_1 : decode cX3_part 1 = .ok (.tableswitch 59 0 3 #[31, 44, 49, 54], 31) := by decide +kernel
theorem dX3_part_32 : decode cX3_part 32 = .ok (.aload_n 0, 1) := by decide +kernel
theorem dX3_part_33 : decode cX3_part 33 = .ok (.getfield 17, 3) := by decide +kernel
theorem dX3_part_36 : decode cX3_part 36 = .ok (.ifCond .eq 7, 3) := by decide +kernel
theorem dX3_part_39 : decode cX3_part 39 = .ok (.iconst 1, 1) := by decide +kernel
theorem dX3_part_40 : decode cX3_part 40 = .ok (.goto 4, 3) := by decide +kernel
theorem dX3_part_43 : decode cX3_part 43 = .ok (.iconst 0, 1) := by decide +kernel
theorem dX3_part_44 : decode cX3_part 44 = .ok (.ireturn, 1) := by decide +kernel
theorem dX3_part_45 : decode cX3_part 45 = .ok (.aload_n 0, 1) := by decide +kernel
theorem dX3_part_46 : decode cX3_part 46 = .ok (.getfield 21, 3) := by decide +kernel
theorem dX3_part_49 : decode cX3_part 49 = .ok (.ireturn, 1) := by decide +kernel
theorem dX3_part_50 : decode cX3_part 50 = .ok (.aload_n 0, 1) := by decide +kernel
theorem dX3_part_51 : decode cX3_part 51 = .ok (.getfield 25, 3) := by decide +kernel
theorem dX3_part_54 : decode cX3_part 54 = .ok (.ireturn, 1) := by decide +kernel
theorem dX3_part_55 : decode cX3_part 55 = .ok (.aload_n 0, 1) := by decide +kernel
theorem dX3_part_56 : decode cX3_part 56 = .ok (.getfield 28, 3) := by decide +kernel
theorem dX3_part_59 : decode cX3_part 59 = .ok (.ireturn, 1) := by decide +kernel
theorem dX3_part_60 : decode cX3_part 60 = .ok (.aload_n 0, 1) := by decide +kernel
theorem dX3_part_61 : decode cX3_part 61 = .ok (.invokevirtual 31, 3) := by decide +kernel
theorem dX3_part_64 : decode cX3_part 64 = .ok (.ifCond .eq 7, 3) := by decide +kernel
theorem dX3_part_67 : decode cX3_part 67 = .ok (.iconst 1, 1) := by decide +kernel
theorem dX3_part_68 : decode cX3_part 68 = .ok (.goto 4, 3) := by decide +kernel
theorem dX3_part_71 : decode cX3_part 71 = .ok (.iconst 0, 1) := by decide +kernel
theorem dX3_part_72 : decode cX3_part 72 = .ok (.ireturn, 1) := by decide +kernel
theorem dX3_pass_0 : decode cX3_pass 0 = .ok (.aload_n 0, 1) := by decide +kernel
theorem dX3_pass_1 : decode cX3_pass 1 = .ok (.dup, 1) := by decide +kernel
theorem dX3_pass_2 : decode cX3_pass 2 = .ok (.getfield 25, 3) := by decide +kernel
theorem dX3_pass_5 : decode cX3_pass 5 = .ok (.iload_n 1, 1) := by decide +kernel
theorem dX3_pass_6 : decode cX3_pass 6 = .ok (.iadd, 1) := by decide +kernel
theorem dX3_pass_7 : decode cX3_pass 7 = .ok (.putfield 25, 3) := by decide +kernel
theorem dX3_pass_10 : decode cX3_pass 10 = .ok (.aload_n 0, 1) := by decide +kernel
theorem dX3_pass_11 : decode cX3_pass 11 = .ok (.getfield 25, 3) := by decide +kernel
theorem dX3_pass_14 : decode cX3_pass 14 = .ok (.bipush 14, 2) := by decide +kernel
theorem dX3_pass_16 : decode cX3_pass 16 = .ok (.if_icmp .lt 18, 3) := by decide +kernel
theorem dX3_pass_19 : decode cX3_pass 19 = .ok (.aload_n 0, 1) := by decide +kernel
theorem dX3_pass_20 : decode cX3_pass 20 = .ok (.dup, 1) := by decide +kernel
theorem dX3_pass_21 : decode cX3_pass 21 = .ok (.getfield 25, 3) := by decide +kernel
theorem dX3_pass_24 : decode cX3_pass 24 = .ok (.bipush 14, 2) := by decide +kernel
theorem dX3_pass_26 : decode cX3_pass 26 = .ok (.isub, 1) := by decide +kernel
theorem dX3_pass_27 : decode cX3_pass 27 = .ok (.putfield 25, 3) := by decide +kernel
theorem dX3_pass_30 : decode cX3_pass 30 = .ok (.aload_n 0, 1) := by decide +kernel
theorem dX3_pass_31 : decode cX3_pass 31 = .ok (.invokevirtual 35, 3) := by decide +kernel
theorem dX3_pass_34 : decode cX3_pass 34 = .ok (.return_, 1) := by decide +kernel
theorem dX3_endLine_0 : decode cX3_endLine 0 = .ok (.aload_n 0, 1) := by decide +kernel
theorem dX3_endLine_1 : decode cX3_endLine 1 = .ok (.iconst 0, 1) := by decide +kernel
theorem dX3_endLine_2 : decode cX3_endLine 2 = .ok (.putfield 38, 3) := by decide +kernel
theorem dX3_endLine_5 : decode cX3_endLine 5 = .ok (.aload_n 0, 1) := by decide +kernel
theorem dX3_endLine_6 : decode cX3_endLine 6 = .ok (.dup, 1) := by decide +kernel
theorem dX3_endLine_7 : decode cX3_endLine 7 = .ok (.getfield 21, 3) := by decide +kernel
theorem dX3_endLine_10 : decode cX3_endLine 10 = .ok (.iconst 1, 1) := by decide +kernel
theorem dX3_endLine_11 : decode cX3_endLine 11 = .ok (.iadd, 1) := by decide +kernel
theorem dX3_endLine_12 : decode cX3_endLine 12 = .ok (.putfield 21, 3) := by decide +kernel
theorem dX3_endLine_15 : decode cX3_endLine 15 = .ok (.aload_n 0, 1) := by decide +kernel
theorem dX3_endLine_16 : decode cX3_endLine 16 = .ok (.getfield 21, 3) := by decide +kernel
theorem dX3_endLine_19 : decode cX3_endLine 19 = .ok (.sipush 262, 3) := by decide +kernel
theorem dX3_endLine_22 : decode cX3_endLine 22 = .ok (.if_icmp .lt 30, 3) := by decide +kernel
theorem dX3_endLine_25 : decode cX3_endLine 25 = .ok (.aload_n 0, 1) := by decide +kernel
theorem dX3_endLine_26 : decode cX3_endLine 26 = .ok (.iconst 0, 1) := by decide +kernel
theorem dX3_endLine_27 : decode cX3_endLine 27 = .ok (.putfield 21, 3) := by decide +kernel
theorem dX3_endLine_30 : decode cX3_endLine 30 = .ok (.aload_n 0, 1) := by decide +kernel
theorem dX3_endLine_31 : decode cX3_endLine 31 = .ok (.dup, 1) := by decide +kernel
theorem dX3_endLine_32 : decode cX3_endLine 32 = .ok (.getfield 28, 3) := by decide +kernel
theorem dX3_endLine_35 : decode cX3_endLine 35 = .ok (.iconst 1, 1) := by decide +kernel
theorem dX3_endLine_36 : decode cX3_endLine 36 = .ok (.iadd, 1) := by decide +kernel
theorem dX3_endLine_37 : decode cX3_endLine 37 = .ok (.putfield 28, 3) := by decide +kernel
theorem dX3_endLine_40 : decode cX3_endLine 40 = .ok (.aload_n 0, 1) := by decide +kernel
theorem dX3_endLine_41 : decode cX3_endLine 41 = .ok (.iconst 0, 1) := by decide +kernel
theorem dX3_endLine_42 : decode cX3_endLine 42 = .ok (.putfield 41, 3) := by decide +kernel
theorem dX3_endLine_45 : decode cX3_endLine 45 = .ok (.aload_n 0, 1) := by decide +kernel
theorem dX3_endLine_46 : decode cX3_endLine 46 = .ok (.getfield 13, 3) := by decide +kernel
theorem dX3_endLine_49 : decode cX3_endLine 49 = .ok (.invokevirtual 44, 3) := by decide +kernel
theorem dX3_endLine_52 : decode cX3_endLine 52 = .ok (.return_, 1) := by decide +kernel
theorem dX3_rowIsDue_0 : decode cX3_rowIsDue 0 = .ok (.aload_n 0, 1) := by decide +kernel
theorem dX3_rowIsDue_1 : decode cX3_rowIsDue 1 = .ok (.getfield 17, 3) := by decide +kernel
theorem dX3_rowIsDue_4 : decode cX3_rowIsDue 4 = .ok (.ifCond .eq 29, 3) := by decide +kernel
theorem dX3_rowIsDue_7 : decode cX3_rowIsDue 7 = .ok (.aload_n 0, 1) := by decide +kernel
theorem dX3_rowIsDue_8 : decode cX3_rowIsDue 8 = .ok (.getfield 38, 3) := by decide +kernel
theorem dX3_rowIsDue_11 : decode cX3_rowIsDue 11 = .ok (.ifCond .ne 22, 3) := by decide +kernel
theorem dX3_rowIsDue_14 : decode cX3_rowIsDue 14 = .ok (.aload_n 0, 1) := by decide +kernel
theorem dX3_rowIsDue_15 : decode cX3_rowIsDue 15 = .ok (.getfield 25, 3) := by decide +kernel
theorem dX3_rowIsDue_18 : decode cX3_rowIsDue 18 = .ok (.iconst 2, 1) := by decide +kernel
theorem dX3_rowIsDue_19 : decode cX3_rowIsDue 19 = .ok (.if_icmp .lt 14, 3) := by decide +kernel
theorem dX3_rowIsDue_22 : decode cX3_rowIsDue 22 = .ok (.aload_n 0, 1) := by decide +kernel
theorem dX3_rowIsDue_23 : decode cX3_rowIsDue 23 = .ok (.invokevirtual 49, 3) := by decide +kernel
theorem dX3_rowIsDue_26 : decode cX3_rowIsDue 26 = .ok (.ifCond .eq 7, 3) := by decide +kernel
theorem dX3_rowIsDue_29 : decode cX3_rowIsDue 29 = .ok (.iconst 1, 1) := by decide +kernel
theorem dX3_rowIsDue_30 : decode cX3_rowIsDue 30 = .ok (.goto 4, 3) := by decide +kernel
theorem dX3_rowIsDue_33 : decode cX3_rowIsDue 33 = .ok (.iconst 0, 1) := by decide +kernel
theorem dX3_rowIsDue_34 : decode cX3_rowIsDue 34 = .ok (.ireturn, 1) := by decide +kernel
theorem dX3_isShownLine_0 : decode cX3_isShownLine 0 = .ok (.aload_n 0, 1) := by decide +kernel
theorem dX3_isShownLine_1 : decode cX3_isShownLine 1 = .ok (.getfield 21, 3) := by decide +kernel
theorem dX3_isShownLine_4 : decode cX3_isShownLine 4 = .ok (.bipush 64, 2) := by decide +kernel
theorem dX3_isShownLine_6 : decode cX3_isShownLine 6 = .ok (.if_icmp .lt 17, 3) := by decide +kernel
theorem dX3_isShownLine_9 : decode cX3_isShownLine 9 = .ok (.aload_n 0, 1) := by decide +kernel
theorem dX3_isShownLine_10 : decode cX3_isShownLine 10 = .ok (.getfield 21, 3) := by decide +kernel
theorem dX3_isShownLine_13 : decode cX3_isShownLine 13 = .ok (.sipush 192, 3) := by decide +kernel
theorem dX3_isShownLine_16 : decode cX3_isShownLine 16 = .ok (.if_icmp .ge 7, 3) := by decide +kernel
theorem dX3_isShownLine_19 : decode cX3_isShownLine 19 = .ok (.iconst 1, 1) := by decide +kernel
theorem dX3_isShownLine_20 : decode cX3_isShownLine 20 = .ok (.goto 4, 3) := by decide +kernel
theorem dX3_isShownLine_23 : decode cX3_isShownLine 23 = .ok (.iconst 0, 1) := by decide +kernel
theorem dX3_isShownLine_24 : decode cX3_isShownLine 24 = .ok (.ireturn, 1) := by decide +kernel
theorem dX3_interruptIsDue_0 : decode cX3_interruptIsDue 0 = .ok (.aload_n 0, 1) := by decide +kernel
theorem dX3_interruptIsDue_1 : decode cX3_interruptIsDue 1 = .ok (.getfield 17, 3) := by decide +kernel
theorem dX3_interruptIsDue_4 : decode cX3_interruptIsDue 4 = .ok (.ifCond .eq 32, 3) := by decide +kernel
theorem dX3_interruptIsDue_7 : decode cX3_interruptIsDue 7 = .ok (.aload_n 0, 1) := by decide +kernel
theorem dX3_interruptIsDue_8 : decode cX3_interruptIsDue 8 = .ok (.getfield 41, 3) := by decide +kernel
theorem dX3_interruptIsDue_11 : decode cX3_interruptIsDue 11 = .ok (.ifCond .ne 25, 3) := by decide +kernel
theorem dX3_interruptIsDue_14 : decode cX3_interruptIsDue 14 = .ok (.aload_n 0, 1) := by decide +kernel
theorem dX3_interruptIsDue_15 : decode cX3_interruptIsDue 15 = .ok (.getfield 21, 3) := by decide +kernel
theorem dX3_interruptIsDue_18 : decode cX3_interruptIsDue 18 = .ok (.bipush 62, 2) := by decide +kernel
theorem dX3_interruptIsDue_20 : decode cX3_interruptIsDue 20 = .ok (.if_icmp .eq 12, 3) := by decide +kernel
theorem dX3_interruptIsDue_23 : decode cX3_interruptIsDue 23 = .ok (.aload_n 0, 1) := by decide +kernel
theorem dX3_interruptIsDue_24 : decode cX3_interruptIsDue 24 = .ok (.getfield 21, 3) := by decide +kernel
theorem dX3_interruptIsDue_27 : decode cX3_interruptIsDue 27 = .ok (.bipush 63, 2) := by decide +kernel
theorem dX3_interruptIsDue_29 : decode cX3_interruptIsDue 29 = .ok (.if_icmp .ne 7, 3) := by decide +kernel
theorem dX3_interruptIsDue_32 : decode cX3_interruptIsDue 32 = .ok (.iconst 1, 1) := by decide +kernel
theorem dX3_interruptIsDue_33 : decode cX3_interruptIsDue 33 = .ok (.goto 4, 3) := by decide +kernel
theorem dX3_interruptIsDue_36 : decode cX3_interruptIsDue 36 = .ok (.iconst 0, 1) := by decide +kernel
theorem dX3_interruptIsDue_37 : decode cX3_interruptIsDue 37 = .ok (.ireturn, 1) := by decide +kernel
theorem dX3_noteInterrupt_0 : decode cX3_noteInterrupt 0 = .ok (.aload_n 0, 1) := by decide +kernel
theorem dX3_noteInterrupt_1 : decode cX3_noteInterrupt 1 = .ok (.iconst 1, 1) := by decide +kernel
theorem dX3_noteInterrupt_2 : decode cX3_noteInterrupt 2 = .ok (.putfield 41, 3) := by decide +kernel
theorem dX3_noteInterrupt_5 : decode cX3_noteInterrupt 5 = .ok (.return_, 1) := by decide +kernel
theorem dX3_noteFetch_0 : decode cX3_noteFetch 0 = .ok (.aload_n 0, 1) := by decide +kernel
theorem dX3_noteFetch_1 : decode cX3_noteFetch 1 = .ok (.iconst 1, 1) := by decide +kernel
theorem dX3_noteFetch_2 : decode cX3_noteFetch 2 = .ok (.putfield 38, 3) := by decide +kernel
theorem dX3_noteFetch_5 : decode cX3_noteFetch 5 = .ok (.return_, 1) := by decide +kernel
theorem dX3_keep_0 : decode cX3_keep 0 = .ok (.aload_n 0, 1) := by decide +kernel
theorem dX3_keep_1 : decode cX3_keep 1 = .ok (.getfield 9, 3) := by decide +kernel
theorem dX3_keep_4 : decode cX3_keep 4 = .ok (.aload_n 0, 1) := by decide +kernel
theorem dX3_keep_5 : decode cX3_keep 5 = .ok (.getfield 21, 3) := by decide +kernel
theorem dX3_keep_8 : decode cX3_keep 8 = .ok (.bipush 64, 2) := by decide +kernel
theorem dX3_keep_10 : decode cX3_keep 10 = .ok (.isub, 1) := by decide +kernel
theorem dX3_keep_11 : decode cX3_keep 11 = .ok (.iload_n 1, 1) := by decide +kernel
theorem dX3_keep_12 : decode cX3_keep 12 = .ok (.invokestatic 52, 3) := by decide +kernel
theorem dX3_keep_15 : decode cX3_keep 15 = .ok (.iload_n 2, 1) := by decide +kernel
theorem dX3_keep_16 : decode cX3_keep 16 = .ok (.iastore, 1) := by decide +kernel
theorem dX3_keep_17 : decode cX3_keep 17 = .ok (.return_, 1) := by decide +kernel
theorem dX3_fetchedByte_0 : decode cX3_fetchedByte 0 = .ok (.aload_n 0, 1) := by decide +kernel
theorem dX3_fetchedByte_1 : decode cX3_fetchedByte 1 = .ok (.getfield 9, 3) := by decide +kernel
theorem dX3_fetchedByte_4 : decode cX3_fetchedByte 4 = .ok (.iload_n 1, 1) := by decide +kernel
theorem dX3_fetchedByte_5 : decode cX3_fetchedByte 5 = .ok (.iload_n 2, 1) := by decide +kernel
theorem dX3_fetchedByte_6 : decode cX3_fetchedByte 6 = .ok (.invokestatic 52, 3) := by decide +kernel
theorem dX3_fetchedByte_9 : decode cX3_fetchedByte 9 = .ok (.iaload, 1) := by decide +kernel
theorem dX3_fetchedByte_10 : decode cX3_fetchedByte 10 = .ok (.ireturn, 1) := by decide +kernel
theorem dX3_spot_0 : decode cX3_spot 0 = .ok (.iload_n 0, 1) := by decide +kernel
theorem dX3_spot_1 : decode cX3_spot 1 = .ok (.bipush 8, 2) := by decide +kernel
theorem dX3_spot_3 : decode cX3_spot 3 = .ok (.imul, 1) := by decide +kernel
theorem dX3_spot_4 : decode cX3_spot 4 = .ok (.iload_n 1, 1) := by decide +kernel
theorem dX3_spot_5 : decode cX3_spot 5 = .ok (.iadd, 1) := by decide +kernel
theorem dX3_spot_6 : decode cX3_spot 6 = .ok (.sipush 1023, 3) := by decide +kernel
theorem dX3_spot_9 : decode cX3_spot 9 = .ok (.iand, 1) := by decide +kernel
theorem dX3_spot_10 : decode cX3_spot 10 = .ok (.ireturn, 1) := by decide +kernel
theorem dX5_init_0 : decode cX5_init 0 = .ok (.aload_n 0, 1) := by decide +kernel
theorem dX5_init_1 : decode cX5_init 1 = .ok (.invokespecial 1, 3) := by decide +kernel
theorem dX5_init_4 : decode cX5_init 4 = .ok (.return_, 1) := by decide +kernel
theorem dX5_delay_0 : decode cX5_delay 0 = .ok (.aload_n 0, 1) := by decide +kernel
theorem dX5_delay_1 : decode cX5_delay 1 = .ok (.getfield 7, 3) := by decide +kernel
theorem dX5_delay_4 : decode cX5_delay 4 = .ok (.ireturn, 1) := by decide +kernel
theorem dX5_tone_0 : decode cX5_tone 0 = .ok (.aload_n 0, 1) := by decide +kernel
theorem dX5_tone_1 : decode cX5_tone 1 = .ok (.getfield 13, 3) := by decide +kernel
theorem dX5_tone_4 : decode cX5_tone 4 = .ok (.ireturn, 1) := by decide +kernel
theorem dX5_setDelay_0 : decode cX5_setDelay 0 = .ok (.aload_n 0, 1) := by decide +kernel
theorem dX5_setDelay_1 : decode cX5_setDelay 1 = .ok (.iload_n 1, 1) := by decide +kernel
theorem dX5_setDelay_2 : decode cX5_setDelay 2 = .ok (.sipush 255, 3) := by decide +kernel
theorem dX5_setDelay_5 : decode cX5_setDelay 5 = .ok (.iand, 1) := by decide +kernel
theorem dX5_setDelay_6 : decode cX5_setDelay 6 = .ok (.putfield 7, 3) := by decide +kernel
theorem dX5_setDelay_9 : decode cX5_setDelay 9 = .ok (.return_, 1) := by decide +kernel
theorem dX5_setTone_0 : decode cX5_setTone 0 = .ok (.aload_n 0, 1) := by decide +kernel
theorem dX5_setTone_1 : decode cX5_setTone 1 = .ok (.iload_n 1, 1) := by decide +kernel
theorem dX5_setTone_2 : decode cX5_setTone 2 = .ok (.sipush 255, 3) := by decide +kernel
theorem dX5_setTone_5 : decode cX5_setTone 5 = .ok (.iand, 1) := by decide +kernel
theorem dX5_setTone_6 : decode cX5_setTone 6 = .ok (.putfield 13, 3) := by decide +kernel
theorem dX5_setTone_9 : decode cX5_setTone 9 = .ok (.return_, 1) := by decide +kernel
theorem dX5_fall_0 : decode cX5_fall 0 = .ok (.aload_n 0, 1) := by decide +kernel
theorem dX5_fall_1 : decode cX5_fall 1 = .ok (.getfield 7, 3) := by decide +kernel
theorem dX5_fall_4 : decode cX5_fall 4 = .ok (.ifCond .le 13, 3) := by decide +kernel
theorem dX5_fall_7 : decode cX5_fall 7 = .ok (.aload_n 0, 1) := by decide +kernel
theorem dX5_fall_8 : decode cX5_fall 8 = .ok (.dup, 1) := by decide +kernel
theorem dX5_fall_9 : decode cX5_fall 9 = .ok (.getfield 7, 3) := by decide +kernel
theorem dX5_fall_12 : decode cX5_fall 12 = .ok (.iconst 1, 1) := by decide +kernel
theorem dX5_fall_13 : decode cX5_fall 13 = .ok (.isub, 1) := by decide +kernel
theorem dX5_fall_14 : decode cX5_fall 14 = .ok (.putfield 7, 3) := by decide +kernel
theorem dX5_fall_17 : decode cX5_fall 17 = .ok (.aload_n 0, 1) := by decide +kernel
theorem dX5_fall_18 : decode cX5_fall 18 = .ok (.getfield 13, 3) := by decide +kernel
theorem dX5_fall_21 : decode cX5_fall 21 = .ok (.ifCond .le 13, 3) := by decide +kernel
theorem dX5_fall_24 : decode cX5_fall 24 = .ok (.aload_n 0, 1) := by decide +kernel
theorem dX5_fall_25 : decode cX5_fall 25 = .ok (.dup, 1) := by decide +kernel
theorem dX5_fall_26 : decode cX5_fall 26 = .ok (.getfield 13, 3) := by decide +kernel
theorem dX5_fall_29 : decode cX5_fall 29 = .ok (.iconst 1, 1) := by decide +kernel
theorem dX5_fall_30 : decode cX5_fall 30 = .ok (.isub, 1) := by decide +kernel
theorem dX5_fall_31 : decode cX5_fall 31 = .ok (.putfield 13, 3) := by decide +kernel
theorem dX5_fall_34 : decode cX5_fall 34 = .ok (.return_, 1) := by decide +kernel
theorem dX6_init_0 : decode cX6_init 0 = .ok (.aload_n 0, 1) := by decide +kernel
theorem dX6_init_1 : decode cX6_init 1 = .ok (.invokespecial 1, 3) := by decide +kernel
theorem dX6_init_4 : decode cX6_init 4 = .ok (.aload_n 0, 1) := by decide +kernel
theorem dX6_init_5 : decode cX6_init 5 = .ok (.new 7, 3) := by decide +kernel
theorem dX6_init_8 : decode cX6_init 8 = .ok (.dup, 1) := by decide +kernel
theorem dX6_init_9 : decode cX6_init 9 = .ok (.invokespecial 9, 3) := by decide +kernel
theorem dX6_init_12 : decode cX6_init 12 = .ok (.putfield 10, 3) := by decide +kernel
theorem dX6_init_15 : decode cX6_init 15 = .ok (.aload_n 0, 1) := by decide +kernel
theorem dX6_init_16 : decode cX6_init 16 = .ok (.new 16, 3) := by decide +kernel
theorem dX6_init_19 : decode cX6_init 19 = .ok (.dup, 1) := by decide +kernel
theorem dX6_init_20 : decode cX6_init 20 = .ok (.invokespecial 18, 3) := by decide +kernel
theorem dX6_init_23 : decode cX6_init 23 = .ok (.putfield 19, 3) := by decide +kernel
theorem dX6_init_26 : decode cX6_init 26 = .ok (.aload_n 0, 1) := by decide +kernel
theorem dX6_init_27 : decode cX6_init 27 = .ok (.new 23, 3) := by decide +kernel
theorem dX6_init_30 : decode cX6_init 30 = .ok (.dup, 1) := by decide +kernel
theorem dX6_init_31 : decode cX6_init 31 = .ok (.invokespecial 25, 3) := by decide +kernel
theorem dX6_init_34 : decode cX6_init 34 = .ok (.putfield 26, 3) := by decide +kernel
theorem dX6_init_37 : decode cX6_init 37 = .ok (.aload_n 0, 1) := by decide +kernel
theorem dX6_init_38 : decode cX6_init 38 = .ok (.new 30, 3) := by decide +kernel
theorem dX6_init_41 : decode cX6_init 41 = .ok (.dup, 1) := by decide +kernel
theorem dX6_init_42 : decode cX6_init 42 = .ok (.aload_n 0, 1) := by decide +kernel
theorem dX6_init_43 : decode cX6_init 43 = .ok (.getfield 26, 3) := by decide +kernel
theorem dX6_init_46 : decode cX6_init 46 = .ok (.invokespecial 32, 3) := by decide +kernel
theorem dX6_init_49 : decode cX6_init 49 = .ok (.putfield 35, 3) := by decide +kernel
theorem dX6_init_52 : decode cX6_init 52 = .ok (.aload_n 0, 1) := by decide +kernel
theorem dX6_init_53 : decode cX6_init 53 = .ok (.new 39, 3) := by decide +kernel
theorem dX6_init_56 : decode cX6_init 56 = .ok (.dup, 1) := by decide +kernel
theorem dX6_init_57 : decode cX6_init 57 = .ok (.aload_n 0, 1) := by decide +kernel
theorem dX6_init_58 : decode cX6_init 58 = .ok (.getfield 10, 3) := by decide +kernel
theorem dX6_init_61 : decode cX6_init 61 = .ok (.aload_n 0, 1) := by decide +kernel
theorem dX6_init_62 : decode cX6_init 62 = .ok (.getfield 19, 3) := by decide +kernel
theorem dX6_init_65 : decode cX6_init 65 = .ok (.aload_n 0, 1) := by decide +kernel
theorem dX6_init_66 : decode cX6_init 66 = .ok (.getfield 35, 3) := by decide +kernel
theorem dX6_init_69 : decode cX6_init 69 = .ok (.invokespecial 41, 3) := by decide +kernel
theorem dX6_init_72 : decode cX6_init 72 = .ok (.putfield 44, 3) := by decide +kernel
theorem dX6_init_75 : decode cX6_init 75 = .ok (.aload_n 0, 1) := by decide +kernel
theorem dX6_init_76 : decode cX6_init 76 = .ok (.new 48, 3) := by decide +kernel
theorem dX6_init_79 : decode cX6_init 79 = .ok (.dup, 1) := by decide +kernel
theorem dX6_init_80 : decode cX6_init 80 = .ok (.aload_n 0, 1) := by decide +kernel
theorem dX6_init_81 : decode cX6_init 81 = .ok (.getfield 10, 3) := by decide +kernel
theorem dX6_init_84 : decode cX6_init 84 = .ok (.aload_n 0, 1) := by decide +kernel
theorem dX6_init_85 : decode cX6_init 85 = .ok (.getfield 19, 3) := by decide +kernel
theorem dX6_init_88 : decode cX6_init 88 = .ok (.aload_n 0, 1) := by decide +kernel
theorem dX6_init_89 : decode cX6_init 89 = .ok (.getfield 26, 3) := by decide +kernel
theorem dX6_init_92 : decode cX6_init 92 = .ok (.invokespecial 50, 3) := by decide +kernel
theorem dX6_init_95 : decode cX6_init 95 = .ok (.putfield 53, 3) := by decide +kernel
theorem dX6_init_98 : decode cX6_init 98 = .ok (.return_, 1) := by decide +kernel
theorem dX6_poke_0 : decode cX6_poke 0 = .ok (.iload_n 1, 1) := by decide +kernel
theorem dX6_poke_1 : decode cX6_poke 1 = .ok (.ifCond .lt 10, 3) := by decide +kernel
theorem dX6_poke_4 : decode cX6_poke 4 = .ok (.iload_n 1, 1) := by decide +kernel
theorem dX6_poke_5 : decode cX6_poke 5 = .ok (.sipush 2047, 3) := by decide +kernel
theorem dX6_poke_8 : decode cX6_poke 8 = .ok (.if_icmp .le 13, 3) := by decide +kernel
theorem dX6_poke_11 : decode cX6_poke 11 = .ok (.new 57, 3) := by decide +kernel
theorem dX6_poke_14 : decode cX6_poke 14 = .ok (.dup, 1) := by decide +kernel
theorem dX6_poke_15 : decode cX6_poke 15 = .ok (.ldc 59, 2) := by decide +kernel
theorem dX6_poke_17 : decode cX6_poke 17 = .ok (.invokespecial 61, 3) := by decide +kernel
theorem dX6_poke_20 : decode cX6_poke 20 = .ok (.athrow, 1) := by decide +kernel
theorem dX6_poke_21 : decode cX6_poke 21 = .ok (.iload_n 2, 1) := by decide +kernel
theorem dX6_poke_22 : decode cX6_poke 22 = .ok (.ifCond .lt 10, 3) := by decide +kernel
theorem dX6_poke_25 : decode cX6_poke 25 = .ok (.iload_n 2, 1) := by decide +kernel
theorem dX6_poke_26 : decode cX6_poke 26 = .ok (.sipush 255, 3) := by decide +kernel
theorem dX6_poke_29 : decode cX6_poke 29 = .ok (.if_icmp .le 13, 3) := by decide +kernel
theorem dX6_poke_32 : decode cX6_poke 32 = .ok (.new 57, 3) := by decide +kernel
theorem dX6_poke_35 : decode cX6_poke 35 = .ok (.dup, 1) := by decide +kernel
theorem dX6_poke_36 : decode cX6_poke 36 = .ok (.ldc 64, 2) := by decide +kernel
theorem dX6_poke_38 : decode cX6_poke 38 = .ok (.invokespecial 61, 3) := by decide +kernel
theorem dX6_poke_41 : decode cX6_poke 41 = .ok (.athrow, 1) := by decide +kernel
theorem dX6_poke_42 : decode cX6_poke 42 = .ok (.aload_n 0, 1) := by decide +kernel
theorem dX6_poke_43 : decode cX6_poke 43 = .ok (.getfield 10, 3) := by decide +kernel
theorem dX6_poke_46 : decode cX6_poke 46 = .ok (.iload_n 1, 1) := by decide +kernel
theorem dX6_poke_47 : decode cX6_poke 47 = .ok (.iload_n 2, 1) := by decide +kernel
theorem dX6_poke_48 : decode cX6_poke 48 = .ok (.invokevirtual 66, 3) := by decide +kernel
theorem dX6_poke_51 : decode cX6_poke 51 = .ok (.return_, 1) := by decide +kernel
theorem dX6_peek_0 : decode cX6_peek 0 = .ok (.iload_n 1, 1) := by decide +kernel
theorem dX6_peek_1 : decode cX6_peek 1 = .ok (.ifCond .lt 10, 3) := by decide +kernel
theorem dX6_peek_4 : decode cX6_peek 4 = .ok (.iload_n 1, 1) := by decide +kernel
theorem dX6_peek_5 : decode cX6_peek 5 = .ok (.sipush 2047, 3) := by decide +kernel
theorem dX6_peek_8 : decode cX6_peek 8 = .ok (.if_icmp .le 5, 3) := by decide +kernel
theorem dX6_peek_11 : decode cX6_peek 11 = .ok (.iconst (-1), 1) := by decide +kernel
theorem dX6_peek_12 : decode cX6_peek 12 = .ok (.ireturn, 1) := by decide +kernel
theorem dX6_peek_13 : decode cX6_peek 13 = .ok (.aload_n 0, 1) := by decide +kernel
theorem dX6_peek_14 : decode cX6_peek 14 = .ok (.getfield 10, 3) := by decide +kernel
theorem dX6_peek_17 : decode cX6_peek 17 = .ok (.iload_n 1, 1) := by decide +kernel
theorem dX6_peek_18 : decode cX6_peek 18 = .ok (.invokevirtual 70, 3) := by decide +kernel
theorem dX6_peek_21 : decode cX6_peek 21 = .ok (.ireturn, 1) := by decide +kernel
theorem dX6_cpu_0 : decode cX6_cpu 0 = .ok (.iload_n 1, 1) := by decide +kernel
theorem dX6_cpu_1 : decode cX6_cpu 1 = .ok (.ifCond .lt 9, 3) := by decide +kernel
theorem dX6_cpu_4 : decode cX6_cpu 4 = .ok (.iload_n 1, 1) := by decide +kernel
theorem dX6_cpu_5 : decode cX6_cpu 5 = .ok (.bipush 23, 2) := by decide +kernel
theorem dX6_cpu_7 : decode cX6_cpu 7 = .ok (.if_icmp .le 13, 3) := by decide +kernel
theorem dX6_cpu_10 : decode cX6_cpu 10 = .ok (.new 74, 3) := by decide +kernel
theorem dX6_cpu_13 : decode cX6_cpu 13 = .ok (.dup, 1) := by decide +kernel
theorem dX6_cpu_14 : decode cX6_cpu 14 = .ok (.ldc 76, 2) := by decide +kernel
theorem dX6_cpu_16 : decode cX6_cpu 16 = .ok (.invokespecial 78, 3) := by decide +kernel
theorem dX6_cpu_19 : decode cX6_cpu 19 = .ok (.athrow, 1) := by decide +kernel
theorem dX6_cpu_20 : decode cX6_cpu 20 = .ok (.aload_n 0, 1) := by decide +kernel
theorem dX6_cpu_21 : decode cX6_cpu 21 = .ok (.getfield 44, 3) := by decide +kernel
theorem dX6_cpu_24 : decode cX6_cpu 24 = .ok (.iload_n 1, 1) := by decide +kernel
theorem dX6_cpu_25 : decode cX6_cpu 25 = .ok (.invokevirtual 79, 3) := by decide +kernel
theorem dX6_cpu_28 : decode cX6_cpu 28 = .ok (.ireturn, 1) := by decide +kernel
theorem dX6_set_0 : decode cX6_set 0 = .ok (.iload_n 1, 1) := by decide +kernel
theorem dX6_set_1 : decode cX6_set 1 = .ok (.ifCond .lt 9, 3) := by decide +kernel
theorem dX6_set_4 : decode cX6_set 4 = .ok (.iload_n 1, 1) := by decide +kernel
theorem dX6_set_5 : decode cX6_set 5 = .ok (.bipush 23, 2) := by decide +kernel
theorem dX6_set_7 : decode cX6_set 7 = .ok (.if_icmp .lt 13, 3) := by decide +kernel
theorem dX6_set_10 : decode cX6_set 10 = .ok (.new 57, 3) := by decide +kernel
theorem dX6_set_13 : decode cX6_set 13 = .ok (.dup, 1) := by decide +kernel
theorem dX6_set_14 : decode cX6_set 14 = .ok (.ldc 82, 2) := by decide +kernel
theorem dX6_set_16 : decode cX6_set 16 = .ok (.invokespecial 61, 3) := by decide +kernel
theorem dX6_set_19 : decode cX6_set 19 = .ok (.athrow, 1) := by decide +kernel
theorem dX6_set_20 : decode cX6_set 20 = .ok (.iload_n 2, 1) := by decide +kernel
theorem dX6_set_21 : decode cX6_set 21 = .ok (.ifCond .lt 11, 3) := by decide +kernel
theorem dX6_set_24 : decode cX6_set 24 = .ok (.iload_n 2, 1) := by decide +kernel
theorem dX6_set_25 : decode cX6_set 25 = .ok (.iload_n 1, 1) := by decide +kernel
theorem dX6_set_26 : decode cX6_set 26 = .ok (.invokestatic 84, 3) := by decide +kernel
theorem dX6_set_29 : decode cX6_set 29 = .ok (.if_icmp .le 13, 3) := by decide +kernel
theorem dX6_set_32 : decode cX6_set 32 = .ok (.new 57, 3) := by decide +kernel
theorem dX6_set_35 : decode cX6_set 35 = .ok (.dup, 1) := by decide +kernel
theorem dX6_set_36 : decode cX6_set 36 = .ok (.ldc 87, 2) := by decide +kernel
theorem dX6_set_38 : decode cX6_set 38 = .ok (.invokespecial 61, 3) := by decide +kernel
theorem dX6_set_41 : decode cX6_set 41 = .ok (.athrow, 1) := by decide +kernel
theorem dX6_set_42 : decode cX6_set 42 = .ok (.aload_n 0, 1) := by decide +kernel
theorem dX6_set_43 : decode cX6_set 43 = .ok (.getfield 44, 3) := by decide +kernel
theorem dX6_set_46 : decode cX6_set 46 = .ok (.iload_n 1, 1) := by decide +kernel
theorem dX6_set_47 : decode cX6_set 47 = .ok (.iload_n 2, 1) := by decide +kernel
theorem dX6_set_48 : decode cX6_set 48 = .ok (.invokevirtual 89, 3) := by decide +kernel
theorem dX6_set_51 : decode cX6_set 51 = .ok (.return_, 1) := by decide +kernel
theorem dX6_key_0 : decode cX6_key 0 = .ok (.iload_n 1, 1) := by decide +kernel
theorem dX6_key_1 : decode cX6_key 1 = .ok (.ifCond .lt 9, 3) := by decide +kernel
theorem dX6_key_4 : decode cX6_key 4 = .ok (.iload_n 1, 1) := by decide +kernel
theorem dX6_key_5 : decode cX6_key 5 = .ok (.bipush 15, 2) := by decide +kernel
theorem dX6_key_7 : decode cX6_key 7 = .ok (.if_icmp .le 13, 3) := by decide +kernel
theorem dX6_key_10 : decode cX6_key 10 = .ok (.new 57, 3) := by decide +kernel
theorem dX6_key_13 : decode cX6_key 13 = .ok (.dup, 1) := by decide +kernel
theorem dX6_key_14 : decode cX6_key 14 = .ok (.ldc 92, 2) := by decide +kernel
theorem dX6_key_16 : decode cX6_key 16 = .ok (.invokespecial 61, 3) := by decide +kernel
theorem dX6_key_19 : decode cX6_key 19 = .ok (.athrow, 1) := by decide +kernel
theorem dX6_key_20 : decode cX6_key 20 = .ok (.aload_n 0, 1) := by decide +kernel
theorem dX6_key_21 : decode cX6_key 21 = .ok (.getfield 19, 3) := by decide +kernel
theorem dX6_key_24 : decode cX6_key 24 = .ok (.iload_n 1, 1) := by decide +kernel
theorem dX6_key_25 : decode cX6_key 25 = .ok (.iload_n 2, 1) := by decide +kernel
theorem dX6_key_26 : decode cX6_key 26 = .ok (.invokevirtual 94, 3) := by decide +kernel
theorem dX6_key_29 : decode cX6_key 29 = .ok (.return_, 1) := by decide +kernel
theorem dX6_run_0 : decode cX6_run 0 = .ok (.iload_n 1, 1) := by decide +kernel
theorem dX6_run_1 : decode cX6_run 1 = .ok (.iconst 1, 1) := by decide +kernel
theorem dX6_run_2 : decode cX6_run 2 = .ok (.if_icmp .lt 10, 3) := by decide +kernel
theorem dX6_run_5 : decode cX6_run 5 = .ok (.iload_n 1, 1) := by decide +kernel
theorem dX6_run_6 : decode cX6_run 6 = .ok (.sipush 4000, 3) := by decide +kernel
theorem dX6_run_9 : decode cX6_run 9 = .ok (.if_icmp .le 13, 3) := by decide +kernel
theorem dX6_run_12 : decode cX6_run 12 = .ok (.new 57, 3) := by decide +kernel
theorem dX6_run_15 : decode cX6_run 15 = .ok (.dup, 1) := by decide +kernel
theorem dX6_run_16 : decode cX6_run 16 = .ok (.ldc 98, 2) := by decide +kernel
theorem dX6_run_18 : decode cX6_run 18 = .ok (.invokespecial 61, 3) := by decide +kernel
theorem dX6_run_21 : decode cX6_run 21 = .ok (.athrow, 1) := by decide +kernel
theorem dX6_run_22 : decode cX6_run 22 = .ok (.iconst 0, 1) := by decide +kernel
theorem dX6_run_23 : decode cX6_run 23 = .ok (.istore_n 2, 1) := by decide +kernel
theorem dX6_run_24 : decode cX6_run 24 = .ok (.iconst 0, 1) := by decide +kernel
theorem dX6_run_25 : decode cX6_run 25 = .ok (.istore_n 3, 1) := by decide +kernel
theorem dX6_run_26 : decode cX6_run 26 = .ok (.iload_n 3, 1) := by decide +kernel
theorem dX6_run_27 : decode cX6_run 27 = .ok (.iload_n 1, 1) := by decide +kernel
theorem dX6_run_28 : decode cX6_run 28 = .ok (.if_icmp .ge 42, 3) := by decide +kernel
theorem dX6_run_31 : decode cX6_run 31 = .ok (.iload_n 2, 1) := by decide +kernel
theorem dX6_run_32 : decode cX6_run 32 = .ok (.iload_n 1, 1) := by decide +kernel
theorem dX6_run_33 : decode cX6_run 33 = .ok (.if_icmp .ge 37, 3) := by decide +kernel
theorem dX6_run_36 : decode cX6_run 36 = .ok (.aload_n 0, 1) := by decide +kernel
theorem dX6_run_37 : decode cX6_run 37 = .ok (.getfield 44, 3) := by decide +kernel
theorem dX6_run_40 : decode cX6_run 40 = .ok (.invokevirtual 100, 3) := by decide +kernel
theorem dX6_run_43 : decode cX6_run 43 = .ok (.istore 4, 2) := by decide +kernel
theorem dX6_run_45 : decode cX6_run 45 = .ok (.aload_n 0, 1) := by decide +kernel
theorem dX6_run_46 : decode cX6_run 46 = .ok (.getfield 35, 3) := by decide +kernel
theorem dX6_run_49 : decode cX6_run 49 = .ok (.iload 4, 2) := by decide +kernel
theorem dX6_run_51 : decode cX6_run 51 = .ok (.invokevirtual 104, 3) := by decide +kernel
theorem dX6_run_54 : decode cX6_run 54 = .ok (.iload_n 2, 1) := by decide +kernel
theorem dX6_run_55 : decode cX6_run 55 = .ok (.iload 4, 2) := by decide +kernel
theorem dX6_run_57 : decode cX6_run 57 = .ok (.aload_n 0, 1) := by decide +kernel
theorem dX6_run_58 : decode cX6_run 58 = .ok (.invokevirtual 108, 3) := by decide +kernel
theorem dX6_run_61 : decode cX6_run 61 = .ok (.iadd, 1) := by decide +kernel
theorem dX6_run_62 : decode cX6_run 62 = .ok (.iadd, 1) := by decide +kernel
theorem dX6_run_63 : decode cX6_run 63 = .ok (.istore_n 2, 1) := by decide +kernel
theorem dX6_run_64 : decode cX6_run 64 = .ok (.iinc 3 1, 3) := by decide +kernel
theorem dX6_run_67 : decode cX6_run 67 = .ok (.goto (-41), 3) := by decide +kernel
theorem dX6_run_70 : decode cX6_run 70 = .ok (.iload_n 2, 1) := by decide +kernel
theorem dX6_run_71 : decode cX6_run 71 = .ok (.ireturn, 1) := by decide +kernel
theorem dX6_video_0 : decode cX6_video 0 = .ok (.iload_n 1, 1) := by decide +kernel
theorem dX6_video_1 : decode cX6_video 1 = .ok (.ifCond .lt 8, 3) := by decide +kernel
theorem dX6_video_4 : decode cX6_video 4 = .ok (.iload_n 1, 1) := by decide +kernel
theorem dX6_video_5 : decode cX6_video 5 = .ok (.iconst 5, 1) := by decide +kernel
theorem dX6_video_6 : decode cX6_video 6 = .ok (.if_icmp .le 13, 3) := by decide +kernel
theorem dX6_video_9 : decode cX6_video 9 = .ok (.new 74, 3) := by decide +kernel
theorem dX6_video_12 : decode cX6_video 12 = .ok (.dup, 1) := by decide +kernel
theorem dX6_video_13 : decode cX6_video 13 = .ok (.ldc 111, 2) := by decide +kernel
theorem dX6_video_15 : decode cX6_video 15 = .ok (.invokespecial 78, 3) := by decide +kernel
theorem dX6_video_18 : decode cX6_video 18 = .ok (.athrow, 1) := by decide +kernel
theorem dX6_video_19 : decode cX6_video 19 = .ok (.iload_n 1, 1) := by decide +kernel
theorem dX6_video_20 : decode cX6_video 20 = .ok (.iconst 5, 1) := by decide +kernel
theorem dX6_video_21 : decode cX6_video 21 = .ok (.if_icmp .ne 13, 3) := by decide +kernel
theorem dX6_video_24 : decode cX6_video 24 = .ok (.aload_n 0, 1) := by decide +kernel
theorem dX6_video_25 : decode cX6_video 25 = .ok (.getfield 19, 3) := by decide +kernel
theorem dX6_video_28 : decode cX6_video 28 = .ok (.invokevirtual 113, 3) := by decide +kernel
theorem dX6_video_31 : decode cX6_video 31 = .ok (.goto 11, 3) := by decide +kernel
theorem dX6_video_34 : decode cX6_video 34 = .ok (.aload_n 0, 1) := by decide +kernel
theorem dX6_video_35 : decode cX6_video 35 = .ok (.getfield 35, 3) := by decide +kernel
theorem dX6_video_38 : decode cX6_video 38 = .ok (.iload_n 1, 1) := by decide +kernel
theorem dX6_video_39 : decode cX6_video 39 = .ok (.invokevirtual 116, 3) := by decide +kernel
theorem dX6_video_42 : decode cX6_video 42 = .ok (.ireturn, 1) := by decide +kernel
theorem dX6_shown_0 : decode cX6_shown 0 = .ok (.iload_n 1, 1) := by decide +kernel
theorem dX6_shown_1 : decode cX6_shown 1 = .ok (.ifCond .lt 10, 3) := by decide +kernel
theorem dX6_shown_4 : decode cX6_shown 4 = .ok (.iload_n 1, 1) := by decide +kernel
theorem dX6_shown_5 : decode cX6_shown 5 = .ok (.sipush 128, 3) := by decide +kernel
theorem dX6_shown_8 : decode cX6_shown 8 = .ok (.if_icmp .lt 13, 3) := by decide +kernel
theorem dX6_shown_11 : decode cX6_shown 11 = .ok (.new 74, 3) := by decide +kernel
theorem dX6_shown_14 : decode cX6_shown 14 = .ok (.dup, 1) := by decide +kernel
theorem dX6_shown_15 : decode cX6_shown 15 = .ok (.ldc 117, 2) := by decide +kernel
theorem dX6_shown_17 : decode cX6_shown 17 = .ok (.invokespecial 78, 3) := by decide +kernel
theorem dX6_shown_20 : decode cX6_shown 20 = .ok (.athrow, 1) := by decide +kernel
theorem dX6_shown_21 : decode cX6_shown 21 = .ok (.iload_n 2, 1) := by decide +kernel
theorem dX6_shown_22 : decode cX6_shown 22 = .ok (.ifCond .lt 9, 3) := by decide +kernel
theorem dX6_shown_25 : decode cX6_shown 25 = .ok (.iload_n 2, 1) := by decide +kernel
theorem dX6_shown_26 : decode cX6_shown 26 = .ok (.bipush 8, 2) := by decide +kernel
theorem dX6_shown_28 : decode cX6_shown 28 = .ok (.if_icmp .lt 13, 3) := by decide +kernel
theorem dX6_shown_31 : decode cX6_shown 31 = .ok (.new 74, 3) := by decide +kernel
theorem dX6_shown_34 : decode cX6_shown 34 = .ok (.dup, 1) := by decide +kernel
theorem dX6_shown_35 : decode cX6_shown 35 = .ok (.ldc 119, 2) := by decide +kernel
theorem dX6_shown_37 : decode cX6_shown 37 = .ok (.invokespecial 78, 3) := by decide +kernel
theorem dX6_shown_40 : decode cX6_shown 40 = .ok (.athrow, 1) := by decide +kernel
theorem dX6_shown_41 : decode cX6_shown 41 = .ok (.aload_n 0, 1) := by decide +kernel
theorem dX6_shown_42 : decode cX6_shown 42 = .ok (.getfield 35, 3) := by decide +kernel
theorem dX6_shown_45 : decode cX6_shown 45 = .ok (.iload_n 1, 1) := by decide +kernel
theorem dX6_shown_46 : decode cX6_shown 46 = .ok (.iload_n 2, 1) := by decide +kernel
theorem dX6_shown_47 : decode cX6_shown 47 = .ok (.invokevirtual 121, 3) := by decide +kernel
theorem dX6_shown_50 : decode cX6_shown 50 = .ok (.ireturn, 1) := by decide +kernel
theorem dX6_chip_0 : decode cX6_chip 0 = .ok (.iload_n 1, 1) := by decide +kernel
theorem dX6_chip_1 : decode cX6_chip 1 = .ok (.iconst 1, 1) := by decide +kernel
theorem dX6_chip_2 : decode cX6_chip 2 = .ok (.if_icmp .lt 10, 3) := by decide +kernel
theorem dX6_chip_5 : decode cX6_chip 5 = .ok (.iload_n 1, 1) := by decide +kernel
theorem dX6_chip_6 : decode cX6_chip 6 = .ok (.sipush 200, 3) := by decide +kernel
theorem dX6_chip_9 : decode cX6_chip 9 = .ok (.if_icmp .le 13, 3) := by decide +kernel
theorem dX6_chip_12 : decode cX6_chip 12 = .ok (.new 57, 3) := by decide +kernel
theorem dX6_chip_15 : decode cX6_chip 15 = .ok (.dup, 1) := by decide +kernel
theorem dX6_chip_16 : decode cX6_chip 16 = .ok (.ldc 125, 2) := by decide +kernel
theorem dX6_chip_18 : decode cX6_chip 18 = .ok (.invokespecial 61, 3) := by decide +kernel
theorem dX6_chip_21 : decode cX6_chip 21 = .ok (.athrow, 1) := by decide +kernel
theorem dX6_chip_22 : decode cX6_chip 22 = .ok (.iconst 0, 1) := by decide +kernel
theorem dX6_chip_23 : decode cX6_chip 23 = .ok (.istore_n 2, 1) := by decide +kernel
theorem dX6_chip_24 : decode cX6_chip 24 = .ok (.iload_n 2, 1) := by decide +kernel
theorem dX6_chip_25 : decode cX6_chip 25 = .ok (.iload_n 1, 1) := by decide +kernel
theorem dX6_chip_26 : decode cX6_chip 26 = .ok (.if_icmp .ge 54, 3) := by decide +kernel
theorem dX6_chip_29 : decode cX6_chip 29 = .ok (.aload_n 0, 1) := by decide +kernel
theorem dX6_chip_30 : decode cX6_chip 30 = .ok (.getfield 53, 3) := by decide +kernel
theorem dX6_chip_33 : decode cX6_chip 33 = .ok (.invokevirtual 127, 3) := by decide +kernel
theorem dX6_chip_36 : decode cX6_chip 36 = .ok (.istore_n 3, 1) := by decide +kernel
theorem dX6_chip_37 : decode cX6_chip 37 = .ok (.iload_n 3, 1) := by decide +kernel
theorem dX6_chip_38 : decode cX6_chip 38 = .ok (.iconst 1, 1) := by decide +kernel
theorem dX6_chip_39 : decode cX6_chip 39 = .ok (.if_icmp .ne 5, 3) := by decide +kernel
theorem dX6_chip_42 : decode cX6_chip 42 = .ok (.iload_n 2, 1) := by decide +kernel
theorem dX6_chip_43 : decode cX6_chip 43 = .ok (.ireturn, 1) := by decide +kernel
theorem dX6_chip_44 : decode cX6_chip 44 = .ok (.iload_n 3, 1) := by decide +kernel
theorem dX6_chip_45 : decode cX6_chip 45 = .ok (.iconst 2, 1) := by decide +kernel
theorem dX6_chip_46 : decode cX6_chip 46 = .ok (.if_icmp .ne 13, 3) := by decide +kernel
theorem dX6_chip_49 : decode cX6_chip 49 = .ok (.new 130, 3) := by decide +kernel
theorem dX6_chip_52 : decode cX6_chip 52 = .ok (.dup, 1) := by decide +kernel
theorem dX6_chip_53 : decode cX6_chip 53 = .ok (.ldc 132, 2) := by decide +kernel
theorem dX6_chip_55 : decode cX6_chip 55 = .ok (.invokespecial 134, 3) := by decide +kernel
theorem dX6_chip_58 : decode cX6_chip 58 = .ok (.athrow, 1) := by decide +kernel
theorem dX6_chip_59 : decode cX6_chip 59 = .ok (.iload_n 3, 1) := by decide +kernel
theorem dX6_chip_60 : decode cX6_chip 60 = .ok (.iconst 3, 1) := by decide +kernel
theorem dX6_chip_61 : decode cX6_chip 61 = .ok (.if_icmp .ne 13, 3) := by decide +kernel
theorem dX6_chip_64 : decode cX6_chip 64 = .ok (.new 135, 3) := by decide +kernel
theorem dX6_chip_67 : decode cX6_chip 67 = .ok (.dup, 1) := by decide +kernel
theorem dX6_chip_68 : decode cX6_chip 68 = .ok (.ldc 137, 2) := by decide +kernel
theorem dX6_chip_70 : decode cX6_chip 70 = .ok (.invokespecial 139, 3) := by decide +kernel
theorem dX6_chip_73 : decode cX6_chip 73 = .ok (.athrow, 1) := by decide +kernel
theorem dX6_chip_74 : decode cX6_chip 74 = .ok (.iinc 2 1, 3) := by decide +kernel
theorem dX6_chip_77 : decode cX6_chip 77 = .ok (.goto (-53), 3) := by decide +kernel
theorem dX6_chip_80 : decode cX6_chip 80 = .ok (.iload_n 1, 1) := by decide +kernel
theorem dX6_chip_81 : decode cX6_chip 81 = .ok (.ireturn, 1) := by decide +kernel
theorem dX6_v_0 : decode cX6_v 0 = .ok (.iload_n 1, 1) := by decide +kernel
theorem dX6_v_1 : decode cX6_v 1 = .ok (.ifCond .lt 9, 3) := by decide +kernel
theorem dX6_v_4 : decode cX6_v 4 = .ok (.iload_n 1, 1) := by decide +kernel
theorem dX6_v_5 : decode cX6_v 5 = .ok (.bipush 21, 2) := by decide +kernel
theorem dX6_v_7 : decode cX6_v 7 = .ok (.if_icmp .le 13, 3) := by decide +kernel
theorem dX6_v_10 : decode cX6_v 10 = .ok (.new 74, 3) := by decide +kernel
theorem dX6_v_13 : decode cX6_v 13 = .ok (.dup, 1) := by decide +kernel
theorem dX6_v_14 : decode cX6_v 14 = .ok (.ldc 140, 2) := by decide +kernel
theorem dX6_v_16 : decode cX6_v 16 = .ok (.invokespecial 78, 3) := by decide +kernel
theorem dX6_v_19 : decode cX6_v 19 = .ok (.athrow, 1) := by decide +kernel
theorem dX6_v_20 : decode cX6_v 20 = .ok (.iload_n 1, 1) := by decide +kernel
theorem dX6_v_21 : decode cX6_v 21 = .ok (.bipush 19, 2) := by decide +kernel
theorem dX6_v_23 : decode cX6_v 23 = .ok (.if_icmp .ne 11, 3) := by decide +kernel
theorem dX6_v_26 : decode cX6_v 26 = .ok (.aload_n 0, 1) := by decide +kernel
theorem dX6_v_27 : decode cX6_v 27 = .ok (.getfield 26, 3) := by decide +kernel
theorem dX6_v_30 : decode cX6_v 30 = .ok (.invokevirtual 142, 3) := by decide +kernel
theorem dX6_v_33 : decode cX6_v 33 = .ok (.ireturn, 1) := by decide +kernel
theorem dX6_v_34 : decode cX6_v 34 = .ok (.iload_n 1, 1) := by decide +kernel
theorem dX6_v_35 : decode cX6_v 35 = .ok (.bipush 20, 2) := by decide +kernel
theorem dX6_v_37 : decode cX6_v 37 = .ok (.if_icmp .ne 13, 3) := by decide +kernel
theorem dX6_v_40 : decode cX6_v 40 = .ok (.aload_n 0, 1) := by decide +kernel
theorem dX6_v_41 : decode cX6_v 41 = .ok (.getfield 26, 3) := by decide +kernel
theorem dX6_v_44 : decode cX6_v 44 = .ok (.invokevirtual 145, 3) := by decide +kernel
theorem dX6_v_47 : decode cX6_v 47 = .ok (.goto 11, 3) := by decide +kernel
theorem dX6_v_50 : decode cX6_v 50 = .ok (.aload_n 0, 1) := by decide +kernel
theorem dX6_v_51 : decode cX6_v 51 = .ok (.getfield 53, 3) := by decide +kernel
theorem dX6_v_54 : decode cX6_v 54 = .ok (.iload_n 1, 1) := by decide +kernel
theorem dX6_v_55 : decode cX6_v 55 = .ok (.invokevirtual 148, 3) := by decide +kernel
theorem dX6_v_58 : decode cX6_v 58 = .ok (.ireturn, 1) := by decide +kernel
theorem dX6_start_0 : decode cX6_start 0 = .ok (.iload_n 1, 1) := by decide +kernel
theorem dX6_start_1 : decode cX6_start 1 = .ok (.ifCond .lt 10, 3) := by decide +kernel
theorem dX6_start_4 : decode cX6_start 4 = .ok (.iload_n 1, 1) := by decide +kernel
theorem dX6_start_5 : decode cX6_start 5 = .ok (.sipush 2047, 3) := by decide +kernel
theorem dX6_start_8 : decode cX6_start 8 = .ok (.if_icmp .le 13, 3) := by decide +kernel
theorem dX6_start_11 : decode cX6_start 11 = .ok (.new 57, 3) := by decide +kernel
theorem dX6_start_14 : decode cX6_start 14 = .ok (.dup, 1) := by decide +kernel
theorem dX6_start_15 : decode cX6_start 15 = .ok (.ldc 149, 2) := by decide +kernel
theorem dX6_start_17 : decode cX6_start 17 = .ok (.invokespecial 61, 3) := by decide +kernel
theorem dX6_start_20 : decode cX6_start 20 = .ok (.athrow, 1) := by decide +kernel
theorem dX6_start_21 : decode cX6_start 21 = .ok (.aload_n 0, 1) := by decide +kernel
theorem dX6_start_22 : decode cX6_start 22 = .ok (.getfield 53, 3) := by decide +kernel
theorem dX6_start_25 : decode cX6_start 25 = .ok (.iload_n 1, 1) := by decide +kernel
theorem dX6_start_26 : decode cX6_start 26 = .ok (.invokevirtual 151, 3) := by decide +kernel
theorem dX6_start_29 : decode cX6_start 29 = .ok (.return_, 1) := by decide +kernel
theorem dX6_letVideoAct_0 : decode cX6_letVideoAct 0 = .ok (.aload_n 0, 1) := by decide +kernel
theorem dX6_letVideoAct_1 : decode cX6_letVideoAct 1 = .ok (.getfield 35, 3) := by decide +kernel
theorem dX6_letVideoAct_4 : decode cX6_letVideoAct 4 = .ok (.invokevirtual 154, 3) := by decide +kernel
theorem dX6_letVideoAct_7 : decode cX6_letVideoAct 7 = .ok (.ifCond .eq 10, 3) := by decide +kernel
theorem dX6_letVideoAct_10 : decode cX6_letVideoAct 10 = .ok (.aload_n 0, 1) := by decide +kernel
theorem dX6_letVideoAct_11 : decode cX6_letVideoAct 11 = .ok (.invokevirtual 158, 3) := by decide +kernel
theorem dX6_letVideoAct_14 : decode cX6_letVideoAct 14 = .ok (.bipush 8, 2) := by decide +kernel
theorem dX6_letVideoAct_16 : decode cX6_letVideoAct 16 = .ok (.ireturn, 1) := by decide +kernel
theorem dX6_letVideoAct_17 : decode cX6_letVideoAct 17 = .ok (.aload_n 0, 1) := by decide +kernel
theorem dX6_letVideoAct_18 : decode cX6_letVideoAct 18 = .ok (.getfield 35, 3) := by decide +kernel
theorem dX6_letVideoAct_21 : decode cX6_letVideoAct 21 = .ok (.invokevirtual 161, 3) := by decide +kernel
theorem dX6_letVideoAct_24 : decode cX6_letVideoAct 24 = .ok (.ifCond .eq 37, 3) := by decide +kernel
theorem dX6_letVideoAct_27 : decode cX6_letVideoAct 27 = .ok (.aload_n 0, 1) := by decide +kernel
theorem dX6_letVideoAct_28 : decode cX6_letVideoAct 28 = .ok (.getfield 44, 3) := by decide +kernel
theorem dX6_letVideoAct_31 : decode cX6_letVideoAct 31 = .ok (.invokevirtual 164, 3) := by decide +kernel
theorem dX6_letVideoAct_34 : decode cX6_letVideoAct 34 = .ok (.ifCond .eq 27, 3) := by decide +kernel
theorem dX6_letVideoAct_37 : decode cX6_letVideoAct 37 = .ok (.aload_n 0, 1) := by decide +kernel
theorem dX6_letVideoAct_38 : decode cX6_letVideoAct 38 = .ok (.getfield 44, 3) := by decide +kernel
theorem dX6_letVideoAct_41 : decode cX6_letVideoAct 41 = .ok (.invokevirtual 167, 3) := by decide +kernel
theorem dX6_letVideoAct_44 : decode cX6_letVideoAct 44 = .ok (.aload_n 0, 1) := by decide +kernel
theorem dX6_letVideoAct_45 : decode cX6_letVideoAct 45 = .ok (.getfield 35, 3) := by decide +kernel
theorem dX6_letVideoAct_48 : decode cX6_letVideoAct 48 = .ok (.invokevirtual 170, 3) := by decide +kernel
theorem dX6_letVideoAct_51 : decode cX6_letVideoAct 51 = .ok (.aload_n 0, 1) := by decide +kernel
theorem dX6_letVideoAct_52 : decode cX6_letVideoAct 52 = .ok (.getfield 35, 3) := by decide +kernel
theorem dX6_letVideoAct_55 : decode cX6_letVideoAct 55 = .ok (.iconst 1, 1) := by decide +kernel
theorem dX6_letVideoAct_56 : decode cX6_letVideoAct 56 = .ok (.invokevirtual 104, 3) := by decide +kernel
theorem dX6_letVideoAct_59 : decode cX6_letVideoAct 59 = .ok (.iconst 1, 1) := by decide +kernel
theorem dX6_letVideoAct_60 : decode cX6_letVideoAct 60 = .ok (.ireturn, 1) := by decide +kernel
theorem dX6_letVideoAct_61 : decode cX6_letVideoAct 61 = .ok (.iconst 0, 1) := by decide +kernel
theorem dX6_letVideoAct_62 : decode cX6_letVideoAct 62 = .ok (.ireturn, 1) := by decide +kernel
theorem dX6_fetchRow_0 : decode cX6_fetchRow 0 = .ok (.iconst 0, 1) := by decide +kernel
theorem dX6_fetchRow_1 : decode cX6_fetchRow 1 = .ok (.istore_n 1, 1) := by decide +kernel
theorem dX6_fetchRow_2 : decode cX6_fetchRow 2 = .ok (.iload_n 1, 1) := by decide +kernel
theorem dX6_fetchRow_3 : decode cX6_fetchRow 3 = .ok (.bipush 8, 2) := by decide +kernel
theorem dX6_fetchRow_5 : decode cX6_fetchRow 5 = .ok (.if_icmp .ge 24, 3) := by decide +kernel
theorem dX6_fetchRow_8 : decode cX6_fetchRow 8 = .ok (.aload_n 0, 1) := by decide +kernel
theorem dX6_fetchRow_9 : decode cX6_fetchRow 9 = .ok (.getfield 35, 3) := by decide +kernel
theorem dX6_fetchRow_12 : decode cX6_fetchRow 12 = .ok (.iload_n 1, 1) := by decide +kernel
theorem dX6_fetchRow_13 : decode cX6_fetchRow 13 = .ok (.aload_n 0, 1) := by decide +kernel
theorem dX6_fetchRow_14 : decode cX6_fetchRow 14 = .ok (.getfield 44, 3) := by decide +kernel
theorem dX6_fetchRow_17 : decode cX6_fetchRow 17 = .ok (.invokevirtual 173, 3) := by decide +kernel
theorem dX6_fetchRow_20 : decode cX6_fetchRow 20 = .ok (.invokevirtual 176, 3) := by decide +kernel
theorem dX6_fetchRow_23 : decode cX6_fetchRow 23 = .ok (.iinc 1 1, 3) := by decide +kernel
theorem dX6_fetchRow_26 : decode cX6_fetchRow 26 = .ok (.goto (-24), 3) := by decide +kernel
theorem dX6_fetchRow_29 : decode cX6_fetchRow 29 = .ok (.aload_n 0, 1) := by decide +kernel
theorem dX6_fetchRow_30 : decode cX6_fetchRow 30 = .ok (.getfield 35, 3) := by decide +kernel
theorem dX6_fetchRow_33 : decode cX6_fetchRow 33 = .ok (.invokevirtual 179, 3) := by decide +kernel
theorem dX6_fetchRow_36 : decode cX6_fetchRow 36 = .ok (.aload_n 0, 1) := by decide +kernel
theorem dX6_fetchRow_37 : decode cX6_fetchRow 37 = .ok (.getfield 35, 3) := by decide +kernel
theorem dX6_fetchRow_40 : decode cX6_fetchRow 40 = .ok (.bipush 8, 2) := by decide +kernel
theorem dX6_fetchRow_42 : decode cX6_fetchRow 42 = .ok (.invokevirtual 104, 3) := by decide +kernel
theorem dX6_fetchRow_45 : decode cX6_fetchRow 45 = .ok (.aload_n 0, 1) := by decide +kernel
theorem dX6_fetchRow_46 : decode cX6_fetchRow 46 = .ok (.getfield 44, 3) := by decide +kernel
theorem dX6_fetchRow_49 : decode cX6_fetchRow 49 = .ok (.invokevirtual 182, 3) := by decide +kernel
theorem dX6_fetchRow_52 : decode cX6_fetchRow 52 = .ok (.return_, 1) := by decide +kernel
