theorem dX7_init_0 : decode cX7_init 0 = .ok (.aload_n 0, 1) := by decide +kernel
theorem dX7_init_1 : decode cX7_init 1 = .ok (.invokespecial 1, 3) := by decide +kernel
theorem dX7_init_4 : decode cX7_init 4 = .ok (.aload_n 0, 1) := by decide +kernel
theorem dX7_init_5 : decode cX7_init 5 = .ok (.sipush 2048, 3) := by decide +kernel
theorem dX7_init_8 : decode cX7_init 8 = .ok (.newarray .int, 2) := by decide +kernel
theorem dX7_init_10 : decode cX7_init 10 = .ok (.putfield 7, 3) := by decide +kernel
theorem dX7_init_13 : decode cX7_init 13 = .ok (.aload_n 0, 1) := by decide +kernel
theorem dX7_init_14 : decode cX7_init 14 = .ok (.bipush 24, 2) := by decide +kernel
theorem dX7_init_16 : decode cX7_init 16 = .ok (.newarray .int, 2) := by decide +kernel
theorem dX7_init_18 : decode cX7_init 18 = .ok (.putfield 13, 3) := by decide +kernel
theorem dX7_init_21 : decode cX7_init 21 = .ok (.aload_n 0, 1) := by decide +kernel
theorem dX7_init_22 : decode cX7_init 22 = .ok (.bipush 22, 2) := by decide +kernel
theorem dX7_init_24 : decode cX7_init 24 = .ok (.newarray .int, 2) := by decide +kernel
theorem dX7_init_26 : decode cX7_init 26 = .ok (.putfield 16, 3) := by decide +kernel
theorem dX7_init_29 : decode cX7_init 29 = .ok (.aload_n 0, 1) := by decide +kernel
theorem dX7_init_30 : decode cX7_init 30 = .ok (.bipush 12, 2) := by decide +kernel
theorem dX7_init_32 : decode cX7_init 32 = .ok (.newarray .int, 2) := by decide +kernel
theorem dX7_init_34 : decode cX7_init 34 = .ok (.putfield 19, 3) := by decide +kernel
theorem dX7_init_37 : decode cX7_init 37 = .ok (.aload_n 0, 1) := by decide +kernel
theorem dX7_init_38 : decode cX7_init 38 = .ok (.bipush 16, 2) := by decide +kernel
theorem dX7_init_40 : decode cX7_init 40 = .ok (.newarray .boolean, 2) := by decide +kernel
theorem dX7_init_42 : decode cX7_init 42 = .ok (.putfield 22, 3) := by decide +kernel
theorem dX7_init_45 : decode cX7_init 45 = .ok (.aload_n 0, 1) := by decide +kernel
theorem dX7_init_46 : decode cX7_init 46 = .ok (.sipush 1024, 3) := by decide +kernel
theorem dX7_init_49 : decode cX7_init 49 = .ok (.newarray .int, 2) := by decide +kernel
theorem dX7_init_51 : decode cX7_init 51 = .ok (.putfield 26, 3) := by decide +kernel
theorem dX7_init_54 : decode cX7_init 54 = .ok (.aload_n 0, 1) := by decide +kernel
theorem dX7_init_55 : decode cX7_init 55 = .ok (.getfield 13, 3) := by decide +kernel
theorem dX7_init_58 : decode cX7_init 58 = .ok (.bipush 21, 2) := by decide +kernel
theorem dX7_init_60 : decode cX7_init 60 = .ok (.iconst 1, 1) := by decide +kernel
theorem dX7_init_61 : decode cX7_init 61 = .ok (.iastore, 1) := by decide +kernel
theorem dX7_init_62 : decode cX7_init 62 = .ok (.aload_n 0, 1) := by decide +kernel
theorem dX7_init_63 : decode cX7_init 63 = .ok (.getfield 16, 3) := by decide +kernel
theorem dX7_init_66 : decode cX7_init 66 = .ok (.bipush 17, 2) := by decide +kernel
theorem dX7_init_68 : decode cX7_init 68 = .ok (.sipush 512, 3) := by decide +kernel
theorem dX7_init_71 : decode cX7_init 71 = .ok (.iastore, 1) := by decide +kernel
theorem dX7_init_72 : decode cX7_init 72 = .ok (.return_, 1) := by decide +kernel
theorem dX7_thrown_0 : decode cX7_thrown 0 = .ok (.aload_n 0, 1) := by decide +kernel
theorem dX7_thrown_1 : decode cX7_thrown 1 = .ok (.getfield 29, 3) := by decide +kernel
theorem dX7_thrown_4 : decode cX7_thrown 4 = .ok (.ireturn, 1) := by decide +kernel
theorem dX7_fails_0 : decode cX7_fails 0 = .ok (.aload_n 0, 1) := by decide +kernel
theorem dX7_fails_1 : decode cX7_fails 1 = .ok (.iload_n 1, 1) := by decide +kernel
theorem dX7_fails_2 : decode cX7_fails 2 = .ok (.ifCond .eq 7, 3) := by decide +kernel
theorem dX7_fails_5 : decode cX7_fails 5 = .ok (.iload_n 2, 1) := by decide +kernel
theorem dX7_fails_6 : decode cX7_fails 6 = .ok (.goto 4, 3) := by decide +kernel
theorem dX7_fails_9 : decode cX7_fails 9 = .ok (.iconst 0, 1) := by decide +kernel
theorem dX7_fails_10 : decode cX7_fails 10 = .ok (.putfield 29, 3) := by decide +kernel
theorem dX7_fails_13 : decode cX7_fails 13 = .ok (.iload_n 1, 1) := by decide +kernel
theorem dX7_fails_14 : decode cX7_fails 14 = .ok (.ireturn, 1) := by decide +kernel
theorem dX7_out_0 : decode cX7_out 0 = .ok (.iload_n 0, 1) := by decide +kernel
theorem dX7_out_1 : decode cX7_out 1 = .ok (.ifCond .lt 8, 3) := by decide +kernel
theorem dX7_out_4 : decode cX7_out 4 = .ok (.iload_n 0, 1) := by decide +kernel
theorem dX7_out_5 : decode cX7_out 5 = .ok (.iload_n 1, 1) := by decide +kernel
theorem dX7_out_6 : decode cX7_out 6 = .ok (.if_icmp .lt 7, 3) := by decide +kernel
theorem dX7_out_9 : decode cX7_out 9 = .ok (.iconst 1, 1) := by decide +kernel
theorem dX7_out_10 : decode cX7_out 10 = .ok (.goto 4, 3) := by decide +kernel
theorem dX7_out_13 : decode cX7_out 13 = .ok (.iconst 0, 1) := by decide +kernel
theorem dX7_out_14 : decode cX7_out 14 = .ok (.ireturn, 1) := by decide +kernel
theorem dX7_byteAt_0 : decode cX7_byteAt 0 = .ok (.aload_n 0, 1) := by decide +kernel
theorem dX7_byteAt_1 : decode cX7_byteAt 1 = .ok (.getfield 7, 3) := by decide +kernel
theorem dX7_byteAt_4 : decode cX7_byteAt 4 = .ok (.iload_n 1, 1) := by decide +kernel
theorem dX7_byteAt_5 : decode cX7_byteAt 5 = .ok (.sipush 2047, 3) := by decide +kernel
theorem dX7_byteAt_8 : decode cX7_byteAt 8 = .ok (.iand, 1) := by decide +kernel
theorem dX7_byteAt_9 : decode cX7_byteAt 9 = .ok (.iaload, 1) := by decide +kernel
theorem dX7_byteAt_10 : decode cX7_byteAt 10 = .ok (.ireturn, 1) := by decide +kernel
theorem dX7_store_0 : decode cX7_store 0 = .ok (.aload_n 0, 1) := by decide +kernel
theorem dX7_store_1 : decode cX7_store 1 = .ok (.getfield 7, 3) := by decide +kernel
theorem dX7_store_4 : decode cX7_store 4 = .ok (.iload_n 1, 1) := by decide +kernel
theorem dX7_store_5 : decode cX7_store 5 = .ok (.sipush 2047, 3) := by decide +kernel
theorem dX7_store_8 : decode cX7_store 8 = .ok (.iand, 1) := by decide +kernel
theorem dX7_store_9 : decode cX7_store 9 = .ok (.iload_n 2, 1) := by decide +kernel
theorem dX7_store_10 : decode cX7_store 10 = .ok (.sipush 255, 3) := by decide +kernel
theorem dX7_store_13 : decode cX7_store 13 = .ok (.iand, 1) := by decide +kernel
theorem dX7_store_14 : decode cX7_store 14 = .ok (.iastore, 1) := by decide +kernel
theorem dX7_store_15 : decode cX7_store 15 = .ok (.return_, 1) := by decide +kernel
theorem dX7_poke_0 : decode cX7_poke 0 = .ok (.aload_n 0, 1) := by decide +kernel
theorem dX7_poke_1 : decode cX7_poke 1 = .ok (.iload_n 1, 1) := by decide +kernel
theorem dX7_poke_2 : decode cX7_poke 2 = .ok (.sipush 2048, 3) := by decide +kernel
theorem dX7_poke_5 : decode cX7_poke 5 = .ok (.invokestatic 33, 3) := by decide +kernel
theorem dX7_poke_8 : decode cX7_poke 8 = .ok (.ifCond .ne 13, 3) := by decide +kernel
theorem dX7_poke_11 : decode cX7_poke 11 = .ok (.iload_n 2, 1) := by decide +kernel
theorem dX7_poke_12 : decode cX7_poke 12 = .ok (.sipush 256, 3) := by decide +kernel
theorem dX7_poke_15 : decode cX7_poke 15 = .ok (.invokestatic 33, 3) := by decide +kernel
theorem dX7_poke_18 : decode cX7_poke 18 = .ok (.ifCond .eq 7, 3) := by decide +kernel
theorem dX7_poke_21 : decode cX7_poke 21 = .ok (.iconst 1, 1) := by decide +kernel
theorem dX7_poke_22 : decode cX7_poke 22 = .ok (.goto 4, 3) := by decide +kernel
theorem dX7_poke_25 : decode cX7_poke 25 = .ok (.iconst 0, 1) := by decide +kernel
theorem dX7_poke_26 : decode cX7_poke 26 = .ok (.iconst 1, 1) := by decide +kernel
theorem dX7_poke_27 : decode cX7_poke 27 = .ok (.invokevirtual 37, 3) := by decide +kernel
theorem dX7_poke_30 : decode cX7_poke 30 = .ok (.ifCond .eq 4, 3) := by decide +kernel
theorem dX7_poke_33 : decode cX7_poke 33 = .ok (.return_, 1) := by decide +kernel
theorem dX7_poke_34 : decode cX7_poke 34 = .ok (.aload_n 0, 1) := by decide +kernel
theorem dX7_poke_35 : decode cX7_poke 35 = .ok (.getfield 7, 3) := by decide +kernel
theorem dX7_poke_38 : decode cX7_poke 38 = .ok (.iload_n 1, 1) := by decide +kernel
theorem dX7_poke_39 : decode cX7_poke 39 = .ok (.iload_n 2, 1) := by decide +kernel
theorem dX7_poke_40 : decode cX7_poke 40 = .ok (.iastore, 1) := by decide +kernel
theorem dX7_poke_41 : decode cX7_poke 41 = .ok (.return_, 1) := by decide +kernel
theorem dX7_peek_0 : decode cX7_peek 0 = .ok (.aload_n 0, 1) := by decide +kernel
theorem dX7_peek_1 : decode cX7_peek 1 = .ok (.iconst 0, 1) := by decide +kernel
theorem dX7_peek_2 : decode cX7_peek 2 = .ok (.putfield 29, 3) := by decide +kernel
theorem dX7_peek_5 : decode cX7_peek 5 = .ok (.iload_n 1, 1) := by decide +kernel
theorem dX7_peek_6 : decode cX7_peek 6 = .ok (.sipush 2048, 3) := by decide +kernel
theorem dX7_peek_9 : decode cX7_peek 9 = .ok (.invokestatic 33, 3) := by decide +kernel
theorem dX7_peek_12 : decode cX7_peek 12 = .ok (.ifCond .eq 7, 3) := by decide +kernel
theorem dX7_peek_15 : decode cX7_peek 15 = .ok (.iconst (-1), 1) := by decide +kernel
theorem dX7_peek_16 : decode cX7_peek 16 = .ok (.goto 9, 3) := by decide +kernel
theorem dX7_peek_19 : decode cX7_peek 19 = .ok (.aload_n 0, 1) := by decide +kernel
theorem dX7_peek_20 : decode cX7_peek 20 = .ok (.getfield 7, 3) := by decide +kernel
theorem dX7_peek_23 : decode cX7_peek 23 = .ok (.iload_n 1, 1) := by decide +kernel
theorem dX7_peek_24 : decode cX7_peek 24 = .ok (.iaload, 1) := by decide +kernel
theorem dX7_peek_25 : decode cX7_peek 25 = .ok (.ireturn, 1) := by decide +kernel
theorem dX7_cpu_0 : decode cX7_cpu 0 = .ok (.aload_n 0, 1) := by decide +kernel
theorem dX7_cpu_1 : decode cX7_cpu 1 = .ok (.iload_n 1, 1) := by decide +kernel
theorem dX7_cpu_2 : decode cX7_cpu 2 = .ok (.bipush 24, 2) := by decide +kernel
theorem dX7_cpu_4 : decode cX7_cpu 4 = .ok (.invokestatic 33, 3) := by decide +kernel
theorem dX7_cpu_7 : decode cX7_cpu 7 = .ok (.iconst 1, 1) := by decide +kernel
theorem dX7_cpu_8 : decode cX7_cpu 8 = .ok (.invokevirtual 37, 3) := by decide +kernel
theorem dX7_cpu_11 : decode cX7_cpu 11 = .ok (.ifCond .eq 7, 3) := by decide +kernel
theorem dX7_cpu_14 : decode cX7_cpu 14 = .ok (.iconst 0, 1) := by decide +kernel
theorem dX7_cpu_15 : decode cX7_cpu 15 = .ok (.goto 9, 3) := by decide +kernel
theorem dX7_cpu_18 : decode cX7_cpu 18 = .ok (.aload_n 0, 1) := by decide +kernel
theorem dX7_cpu_19 : decode cX7_cpu 19 = .ok (.getfield 13, 3) := by decide +kernel
theorem dX7_cpu_22 : decode cX7_cpu 22 = .ok (.iload_n 1, 1) := by decide +kernel
theorem dX7_cpu_23 : decode cX7_cpu 23 = .ok (.iaload, 1) := by decide +kernel
theorem dX7_cpu_24 : decode cX7_cpu 24 = .ok (.ireturn, 1) := by decide +kernel
theorem dX7_set_0 : decode cX7_set 0 = .ok (.iload_n 1, 1) := by decide +kernel
theorem dX7_set_1 : decode cX7_set 1 = .ok (.bipush 16, 2) := by decide +kernel
theorem dX7_set_3 : decode cX7_set 3 = .ok (.if_icmp .ge 8, 3) := by decide +kernel
theorem dX7_set_6 : decode cX7_set 6 = .ok (.ldc 41, 2) := by decide +kernel
theorem dX7_set_8 : decode cX7_set 8 = .ok (.goto 39, 3) := by decide +kernel
theorem dX7_set_11 : decode cX7_set 11 = .ok (.iload_n 1, 1) := by decide +kernel
theorem dX7_set_12 : decode cX7_set 12 = .ok (.bipush 16, 2) := by decide +kernel
theorem dX7_set_14 : decode cX7_set 14 = .ok (.if_icmp .eq 9, 3) := by decide +kernel
theorem dX7_set_17 : decode cX7_set 17 = .ok (.iload_n 1, 1) := by decide +kernel
theorem dX7_set_18 : decode cX7_set 18 = .ok (.bipush 20, 2) := by decide +kernel
theorem dX7_set_20 : decode cX7_set 20 = .ok (.if_icmp .ne 9, 3) := by decide +kernel
theorem dX7_set_23 : decode cX7_set 23 = .ok (.sipush 256, 3) := by decide +kernel
theorem dX7_set_26 : decode cX7_set 26 = .ok (.goto 21, 3) := by decide +kernel
theorem dX7_set_29 : decode cX7_set 29 = .ok (.iload_n 1, 1) := by decide +kernel
theorem dX7_set_30 : decode cX7_set 30 = .ok (.bipush 18, 2) := by decide +kernel
theorem dX7_set_32 : decode cX7_set 32 = .ok (.if_icmp .eq 9, 3) := by decide +kernel
theorem dX7_set_35 : decode cX7_set 35 = .ok (.iload_n 1, 1) := by decide +kernel
theorem dX7_set_36 : decode cX7_set 36 = .ok (.bipush 19, 2) := by decide +kernel
theorem dX7_set_38 : decode cX7_set 38 = .ok (.if_icmp .ne 8, 3) := by decide +kernel
theorem dX7_set_41 : decode cX7_set 41 = .ok (.bipush 16, 2) := by decide +kernel
theorem dX7_set_43 : decode cX7_set 43 = .ok (.goto 4, 3) := by decide +kernel
theorem dX7_set_46 : decode cX7_set 46 = .ok (.iconst 2, 1) := by decide +kernel
theorem dX7_set_47 : decode cX7_set 47 = .ok (.istore_n 3, 1) := by decide +kernel
theorem dX7_set_48 : decode cX7_set 48 = .ok (.aload_n 0, 1) := by decide +kernel
theorem dX7_set_49 : decode cX7_set 49 = .ok (.iload_n 1, 1) := by decide +kernel
theorem dX7_set_50 : decode cX7_set 50 = .ok (.bipush 23, 2) := by decide +kernel
theorem dX7_set_52 : decode cX7_set 52 = .ok (.invokestatic 33, 3) := by decide +kernel
theorem dX7_set_55 : decode cX7_set 55 = .ok (.ifCond .ne 11, 3) := by decide +kernel
theorem dX7_set_58 : decode cX7_set 58 = .ok (.iload_n 2, 1) := by decide +kernel
theorem dX7_set_59 : decode cX7_set 59 = .ok (.iload_n 3, 1) := by decide +kernel
theorem dX7_set_60 : decode cX7_set 60 = .ok (.invokestatic 33, 3) := by decide +kernel
theorem dX7_set_63 : decode cX7_set 63 = .ok (.ifCond .eq 7, 3) := by decide +kernel
theorem dX7_set_66 : decode cX7_set 66 = .ok (.iconst 1, 1) := by decide +kernel
theorem dX7_set_67 : decode cX7_set 67 = .ok (.goto 4, 3) := by decide +kernel
theorem dX7_set_70 : decode cX7_set 70 = .ok (.iconst 0, 1) := by decide +kernel
theorem dX7_set_71 : decode cX7_set 71 = .ok (.iconst 1, 1) := by decide +kernel
theorem dX7_set_72 : decode cX7_set 72 = .ok (.invokevirtual 37, 3) := by decide +kernel
theorem dX7_set_75 : decode cX7_set 75 = .ok (.ifCond .eq 4, 3) := by decide +kernel
theorem dX7_set_78 : decode cX7_set 78 = .ok (.return_, 1) := by decide +kernel
theorem dX7_set_79 : decode cX7_set 79 = .ok (.aload_n 0, 1) := by decide +kernel
theorem dX7_set_80 : decode cX7_set 80 = .ok (.getfield 13, 3) := by decide +kernel
theorem dX7_set_83 : decode cX7_set 83 = .ok (.iload_n 1, 1) := by decide +kernel
theorem dX7_set_84 : decode cX7_set 84 = .ok (.iload_n 2, 1) := by decide +kernel
theorem dX7_set_85 : decode cX7_set 85 = .ok (.iastore, 1) := by decide +kernel
theorem dX7_set_86 : decode cX7_set 86 = .ok (.return_, 1) := by decide +kernel
theorem dX7_grow_0 : decode cX7_grow 0 = .ok (.aload_n 0, 1) := by decide +kernel
theorem dX7_grow_1 : decode cX7_grow 1 = .ok (.getfield 13, 3) := by decide +kernel
theorem dX7_grow_4 : decode cX7_grow 4 = .ok (.iload_n 1, 1) := by decide +kernel
theorem dX7_grow_5 : decode cX7_grow 5 = .ok (.aload_n 0, 1) := by decide +kernel
theorem dX7_grow_6 : decode cX7_grow 6 = .ok (.getfield 13, 3) := by decide +kernel
theorem dX7_grow_9 : decode cX7_grow 9 = .ok (.iload_n 1, 1) := by decide +kernel
theorem dX7_grow_10 : decode cX7_grow 10 = .ok (.iaload, 1) := by decide +kernel
theorem dX7_grow_11 : decode cX7_grow 11 = .ok (.iload_n 2, 1) := by decide +kernel
theorem dX7_grow_12 : decode cX7_grow 12 = .ok (.iadd, 1) := by decide +kernel
theorem dX7_grow_13 : decode cX7_grow 13 = .ok (.ldc 42, 2) := by decide +kernel
theorem dX7_grow_15 : decode cX7_grow 15 = .ok (.iand, 1) := by decide +kernel
theorem dX7_grow_16 : decode cX7_grow 16 = .ok (.iastore, 1) := by decide +kernel
theorem dX7_grow_17 : decode cX7_grow 17 = .ok (.return_, 1) := by decide +kernel
theorem dX7_m_0 : decode cX7_m 0 = .ok (.aload_n 0, 1) := by decide +kernel
theorem dX7_m_1 : decode cX7_m 1 = .ok (.aload_n 0, 1) := by decide +kernel
theorem dX7_m_2 : decode cX7_m 2 = .ok (.getfield 13, 3) := by decide +kernel
theorem dX7_m_5 : decode cX7_m 5 = .ok (.iload_n 1, 1) := by decide +kernel
theorem dX7_m_6 : decode cX7_m 6 = .ok (.iaload, 1) := by decide +kernel
theorem dX7_m_7 : decode cX7_m 7 = .ok (.invokevirtual 43, 3) := by decide +kernel
theorem dX7_m_10 : decode cX7_m 10 = .ok (.ireturn, 1) := by decide +kernel
theorem dX7_next_0 : decode cX7_next 0 = .ok (.aload_n 0, 1) := by decide +kernel
theorem dX7_next_1 : decode cX7_next 1 = .ok (.aload_n 0, 1) := by decide +kernel
theorem dX7_next_2 : decode cX7_next 2 = .ok (.getfield 13, 3) := by decide +kernel
theorem dX7_next_5 : decode cX7_next 5 = .ok (.bipush 18, 2) := by decide +kernel
theorem dX7_next_7 : decode cX7_next 7 = .ok (.iaload, 1) := by decide +kernel
theorem dX7_next_8 : decode cX7_next 8 = .ok (.invokevirtual 47, 3) := by decide +kernel
theorem dX7_next_11 : decode cX7_next 11 = .ok (.istore_n 1, 1) := by decide +kernel
theorem dX7_next_12 : decode cX7_next 12 = .ok (.aload_n 0, 1) := by decide +kernel
theorem dX7_next_13 : decode cX7_next 13 = .ok (.aload_n 0, 1) := by decide +kernel
theorem dX7_next_14 : decode cX7_next 14 = .ok (.getfield 13, 3) := by decide +kernel
theorem dX7_next_17 : decode cX7_next 17 = .ok (.bipush 18, 2) := by decide +kernel
theorem dX7_next_19 : decode cX7_next 19 = .ok (.iaload, 1) := by decide +kernel
theorem dX7_next_20 : decode cX7_next 20 = .ok (.iconst 1, 1) := by decide +kernel
theorem dX7_next_21 : decode cX7_next 21 = .ok (.invokevirtual 50, 3) := by decide +kernel
theorem dX7_next_24 : decode cX7_next 24 = .ok (.iload_n 1, 1) := by decide +kernel
theorem dX7_next_25 : decode cX7_next 25 = .ok (.ireturn, 1) := by decide +kernel
theorem dX7_low_0 : decode cX7_low 0 = .ok (.aload_n 0, 1) := by decide +kernel
theorem dX7_low_1 : decode cX7_low 1 = .ok (.getfield 13, 3) := by decide +kernel
theorem dX7_low_4 : decode cX7_low 4 = .ok (.iload_n 1, 1) := by decide +kernel
theorem dX7_low_5 : decode cX7_low 5 = .ok (.aload_n 0, 1) := by decide +kernel
theorem dX7_low_6 : decode cX7_low 6 = .ok (.getfield 13, 3) := by decide +kernel
theorem dX7_low_9 : decode cX7_low 9 = .ok (.iload_n 1, 1) := by decide +kernel
theorem dX7_low_10 : decode cX7_low 10 = .ok (.iaload, 1) := by decide +kernel
theorem dX7_low_11 : decode cX7_low 11 = .ok (.ldc 54, 2) := by decide +kernel
theorem dX7_low_13 : decode cX7_low 13 = .ok (.iand, 1) := by decide +kernel
theorem dX7_low_14 : decode cX7_low 14 = .ok (.iload_n 2, 1) := by decide +kernel
theorem dX7_low_15 : decode cX7_low 15 = .ok (.ior, 1) := by decide +kernel
theorem dX7_low_16 : decode cX7_low 16 = .ok (.iastore, 1) := by decide +kernel
theorem dX7_low_17 : decode cX7_low 17 = .ok (.return_, 1) := by decide +kernel
theorem dX7_sum_0 : decode cX7_sum 0 = .ok (.aload_n 0, 1) := by decide +kernel
theorem dX7_sum_1 : decode cX7_sum 1 = .ok (.getfield 13, 3) := by decide +kernel
theorem dX7_sum_4 : decode cX7_sum 4 = .ok (.bipush 16, 2) := by decide +kernel
theorem dX7_sum_6 : decode cX7_sum 6 = .ok (.iload_n 1, 1) := by decide +kernel
theorem dX7_sum_7 : decode cX7_sum 7 = .ok (.iload_n 2, 1) := by decide +kernel
theorem dX7_sum_8 : decode cX7_sum 8 = .ok (.iadd, 1) := by decide +kernel
theorem dX7_sum_9 : decode cX7_sum 9 = .ok (.sipush 255, 3) := by decide +kernel
theorem dX7_sum_12 : decode cX7_sum 12 = .ok (.iand, 1) := by decide +kernel
theorem dX7_sum_13 : decode cX7_sum 13 = .ok (.iastore, 1) := by decide +kernel
theorem dX7_sum_14 : decode cX7_sum 14 = .ok (.aload_n 0, 1) := by decide +kernel
theorem dX7_sum_15 : decode cX7_sum 15 = .ok (.getfield 13, 3) := by decide +kernel
theorem dX7_sum_18 : decode cX7_sum 18 = .ok (.bipush 17, 2) := by decide +kernel
theorem dX7_sum_20 : decode cX7_sum 20 = .ok (.iload_n 1, 1) := by decide +kernel
theorem dX7_sum_21 : decode cX7_sum 21 = .ok (.iload_n 2, 1) := by decide +kernel
theorem dX7_sum_22 : decode cX7_sum 22 = .ok (.iadd, 1) := by decide +kernel
theorem dX7_sum_23 : decode cX7_sum 23 = .ok (.bipush 8, 2) := by decide +kernel
theorem dX7_sum_25 : decode cX7_sum 25 = .ok (.ishr, 1) := by decide +kernel
theorem dX7_sum_26 : decode cX7_sum 26 = .ok (.iastore, 1) := by decide +kernel
theorem dX7_sum_27 : decode cX7_sum 27 = .ok (.return_, 1) := by decide +kernel
theorem dX7_sumOn_0 : decode cX7_sumOn 0 = .ok (.iload_n 1, 1) := by decide +kernel
theorem dX7_sumOn_1 : decode cX7_sumOn 1 = .ok (.aload_n 0, 1) := by decide +kernel
theorem dX7_sumOn_2 : decode cX7_sumOn 2 = .ok (.getfield 13, 3) := by decide +kernel
theorem dX7_sumOn_5 : decode cX7_sumOn 5 = .ok (.bipush 16, 2) := by decide +kernel
theorem dX7_sumOn_7 : decode cX7_sumOn 7 = .ok (.iaload, 1) := by decide +kernel
theorem dX7_sumOn_8 : decode cX7_sumOn 8 = .ok (.iadd, 1) := by decide +kernel
theorem dX7_sumOn_9 : decode cX7_sumOn 9 = .ok (.aload_n 0, 1) := by decide +kernel
theorem dX7_sumOn_10 : decode cX7_sumOn 10 = .ok (.getfield 13, 3) := by decide +kernel
theorem dX7_sumOn_13 : decode cX7_sumOn 13 = .ok (.bipush 17, 2) := by decide +kernel
theorem dX7_sumOn_15 : decode cX7_sumOn 15 = .ok (.iaload, 1) := by decide +kernel
theorem dX7_sumOn_16 : decode cX7_sumOn 16 = .ok (.iadd, 1) := by decide +kernel
theorem dX7_sumOn_17 : decode cX7_sumOn 17 = .ok (.istore_n 2, 1) := by decide +kernel
theorem dX7_sumOn_18 : decode cX7_sumOn 18 = .ok (.aload_n 0, 1) := by decide +kernel
theorem dX7_sumOn_19 : decode cX7_sumOn 19 = .ok (.getfield 13, 3) := by decide +kernel
theorem dX7_sumOn_22 : decode cX7_sumOn 22 = .ok (.bipush 16, 2) := by decide +kernel
theorem dX7_sumOn_24 : decode cX7_sumOn 24 = .ok (.iload_n 2, 1) := by decide +kernel
theorem dX7_sumOn_25 : decode cX7_sumOn 25 = .ok (.sipush 255, 3) := by decide +kernel
theorem dX7_sumOn_28 : decode cX7_sumOn 28 = .ok (.iand, 1) := by decide +kernel
theorem dX7_sumOn_29 : decode cX7_sumOn 29 = .ok (.iastore, 1) := by decide +kernel
theorem dX7_sumOn_30 : decode cX7_sumOn 30 = .ok (.aload_n 0, 1) := by decide +kernel
theorem dX7_sumOn_31 : decode cX7_sumOn 31 = .ok (.getfield 13, 3) := by decide +kernel
theorem dX7_sumOn_34 : decode cX7_sumOn 34 = .ok (.bipush 17, 2) := by decide +kernel
theorem dX7_sumOn_36 : decode cX7_sumOn 36 = .ok (.iload_n 2, 1) := by decide +kernel
theorem dX7_sumOn_37 : decode cX7_sumOn 37 = .ok (.bipush 8, 2) := by decide +kernel
theorem dX7_sumOn_39 : decode cX7_sumOn 39 = .ok (.ishr, 1) := by decide +kernel
theorem dX7_sumOn_40 : decode cX7_sumOn 40 = .ok (.iastore, 1) := by decide +kernel
theorem dX7_sumOn_41 : decode cX7_sumOn 41 = .ok (.return_, 1) := by decide +kernel
theorem dX7_less_0 : decode cX7_less 0 = .ok (.iload_n 1, 1) := by decide +kernel
theorem dX7_less_1 : decode cX7_less 1 = .ok (.iload_n 2, 1) := by decide +kernel
theorem dX7_less_2 : decode cX7_less 2 = .ok (.isub, 1) := by decide +kernel
theorem dX7_less_3 : decode cX7_less 3 = .ok (.iload_n 3, 1) := by decide +kernel
theorem dX7_less_4 : decode cX7_less 4 = .ok (.isub, 1) := by decide +kernel
theorem dX7_less_5 : decode cX7_less 5 = .ok (.istore 4, 2) := by decide +kernel
theorem dX7_less_7 : decode cX7_less 7 = .ok (.aload_n 0, 1) := by decide +kernel
theorem dX7_less_8 : decode cX7_less 8 = .ok (.getfield 13, 3) := by decide +kernel
theorem dX7_less_11 : decode cX7_less 11 = .ok (.bipush 16, 2) := by decide +kernel
theorem dX7_less_13 : decode cX7_less 13 = .ok (.iload 4, 2) := by decide +kernel
theorem dX7_less_15 : decode cX7_less 15 = .ok (.sipush 255, 3) := by decide +kernel
theorem dX7_less_18 : decode cX7_less 18 = .ok (.iand, 1) := by decide +kernel
theorem dX7_less_19 : decode cX7_less 19 = .ok (.iastore, 1) := by decide +kernel
theorem dX7_less_20 : decode cX7_less 20 = .ok (.aload_n 0, 1) := by decide +kernel
theorem dX7_less_21 : decode cX7_less 21 = .ok (.getfield 13, 3) := by decide +kernel
theorem dX7_less_24 : decode cX7_less 24 = .ok (.bipush 17, 2) := by decide +kernel
theorem dX7_less_26 : decode cX7_less 26 = .ok (.iload 4, 2) := by decide +kernel
theorem dX7_less_28 : decode cX7_less 28 = .ok (.ifCond .ge 7, 3) := by decide +kernel
theorem dX7_less_31 : decode cX7_less 31 = .ok (.iconst 0, 1) := by decide +kernel
theorem dX7_less_32 : decode cX7_less 32 = .ok (.goto 4, 3) := by decide +kernel
theorem dX7_less_35 : decode cX7_less 35 = .ok (.iconst 1, 1) := by decide +kernel
theorem dX7_less_36 : decode cX7_less 36 = .ok (.iastore, 1) := by decide +kernel
theorem dX7_less_37 : decode cX7_less 37 = .ok (.return_, 1) := by decide +kernel
theorem dX7_right_0 : decode cX7_right 0 = .ok (.aload_n 0, 1) := by decide +kernel
theorem dX7_right_1 : decode cX7_right 1 = .ok (.getfield 13, 3) := by decide +kernel
theorem dX7_right_4 : decode cX7_right 4 = .ok (.bipush 16, 2) := by decide +kernel
theorem dX7_right_6 : decode cX7_right 6 = .ok (.iaload, 1) := by decide +kernel
theorem dX7_right_7 : decode cX7_right 7 = .ok (.iconst 1, 1) := by decide +kernel
theorem dX7_right_8 : decode cX7_right 8 = .ok (.iand, 1) := by decide +kernel
theorem dX7_right_9 : decode cX7_right 9 = .ok (.istore_n 2, 1) := by decide +kernel
theorem dX7_right_10 : decode cX7_right 10 = .ok (.aload_n 0, 1) := by decide +kernel
theorem dX7_right_11 : decode cX7_right 11 = .ok (.getfield 13, 3) := by decide +kernel
theorem dX7_right_14 : decode cX7_right 14 = .ok (.bipush 16, 2) := by decide +kernel
theorem dX7_right_16 : decode cX7_right 16 = .ok (.aload_n 0, 1) := by decide +kernel
theorem dX7_right_17 : decode cX7_right 17 = .ok (.getfield 13, 3) := by decide +kernel
theorem dX7_right_20 : decode cX7_right 20 = .ok (.bipush 16, 2) := by decide +kernel
theorem dX7_right_22 : decode cX7_right 22 = .ok (.iaload, 1) := by decide +kernel
theorem dX7_right_23 : decode cX7_right 23 = .ok (.iconst 1, 1) := by decide +kernel
theorem dX7_right_24 : decode cX7_right 24 = .ok (.ishr, 1) := by decide +kernel
theorem dX7_right_25 : decode cX7_right 25 = .ok (.iload_n 1, 1) := by decide +kernel
theorem dX7_right_26 : decode cX7_right 26 = .ok (.bipush 7, 2) := by decide +kernel
theorem dX7_right_28 : decode cX7_right 28 = .ok (.ishl, 1) := by decide +kernel
theorem dX7_right_29 : decode cX7_right 29 = .ok (.ior, 1) := by decide +kernel
theorem dX7_right_30 : decode cX7_right 30 = .ok (.iastore, 1) := by decide +kernel
theorem dX7_right_31 : decode cX7_right 31 = .ok (.aload_n 0, 1) := by decide +kernel
theorem dX7_right_32 : decode cX7_right 32 = .ok (.getfield 13, 3) := by decide +kernel
theorem dX7_right_35 : decode cX7_right 35 = .ok (.bipush 17, 2) := by decide +kernel
theorem dX7_right_37 : decode cX7_right 37 = .ok (.iload_n 2, 1) := by decide +kernel
theorem dX7_right_38 : decode cX7_right 38 = .ok (.iastore, 1) := by decide +kernel
theorem dX7_right_39 : decode cX7_right 39 = .ok (.return_, 1) := by decide +kernel
theorem dX7_left_0 : decode cX7_left 0 = .ok (.aload_n 0, 1) := by decide +kernel
theorem dX7_left_1 : decode cX7_left 1 = .ok (.getfield 13, 3) := by decide +kernel
theorem dX7_left_4 : decode cX7_left 4 = .ok (.bipush 16, 2) := by decide +kernel
theorem dX7_left_6 : decode cX7_left 6 = .ok (.iaload, 1) := by decide +kernel
theorem dX7_left_7 : decode cX7_left 7 = .ok (.iconst 1, 1) := by decide +kernel
theorem dX7_left_8 : decode cX7_left 8 = .ok (.ishl, 1) := by decide +kernel
theorem dX7_left_9 : decode cX7_left 9 = .ok (.iload_n 1, 1) := by decide +kernel
theorem dX7_left_10 : decode cX7_left 10 = .ok (.ior, 1) := by decide +kernel
theorem dX7_left_11 : decode cX7_left 11 = .ok (.istore_n 2, 1) := by decide +kernel
theorem dX7_left_12 : decode cX7_left 12 = .ok (.aload_n 0, 1) := by decide +kernel
theorem dX7_left_13 : decode cX7_left 13 = .ok (.getfield 13, 3) := by decide +kernel
theorem dX7_left_16 : decode cX7_left 16 = .ok (.bipush 16, 2) := by decide +kernel
theorem dX7_left_18 : decode cX7_left 18 = .ok (.iload_n 2, 1) := by decide +kernel
theorem dX7_left_19 : decode cX7_left 19 = .ok (.sipush 255, 3) := by decide +kernel
theorem dX7_left_22 : decode cX7_left 22 = .ok (.iand, 1) := by decide +kernel
theorem dX7_left_23 : decode cX7_left 23 = .ok (.iastore, 1) := by decide +kernel
theorem dX7_left_24 : decode cX7_left 24 = .ok (.aload_n 0, 1) := by decide +kernel
theorem dX7_left_25 : decode cX7_left 25 = .ok (.getfield 13, 3) := by decide +kernel
theorem dX7_left_28 : decode cX7_left 28 = .ok (.bipush 17, 2) := by decide +kernel
theorem dX7_left_30 : decode cX7_left 30 = .ok (.iload_n 2, 1) := by decide +kernel
theorem dX7_left_31 : decode cX7_left 31 = .ok (.bipush 8, 2) := by decide +kernel
theorem dX7_left_33 : decode cX7_left 33 = .ok (.ishr, 1) := by decide +kernel
theorem dX7_left_34 : decode cX7_left 34 = .ok (.iastore, 1) := by decide +kernel
theorem dX7_left_35 : decode cX7_left 35 = .ok (.return_, 1) := by decide +kernel
theorem dX7_isLight_0 : decode cX7_isLight 0 = .ok (.aload_n 0, 1) := by decide +kernel
theorem dX7_isLight_1 : decode cX7_isLight 1 = .ok (.getfield 55, 3) := by decide +kernel
theorem dX7_isLight_4 : decode cX7_isLight 4 = .ok (.ifCond .eq 45, 3) := by decide +kernel
theorem dX7_isLight_7 : decode cX7_isLight 7 = .ok (.aload_n 0, 1) := by decide +kernel
theorem dX7_isLight_8 : decode cX7_isLight 8 = .ok (.getfield 59, 3) := by decide +kernel
theorem dX7_isLight_11 : decode cX7_isLight 11 = .ok (.bipush 60, 2) := by decide +kernel
theorem dX7_isLight_13 : decode cX7_isLight 13 = .ok (.if_icmp .lt 12, 3) := by decide +kernel
theorem dX7_isLight_16 : decode cX7_isLight 16 = .ok (.aload_n 0, 1) := by decide +kernel
theorem dX7_isLight_17 : decode cX7_isLight 17 = .ok (.getfield 59, 3) := by decide +kernel
theorem dX7_isLight_20 : decode cX7_isLight 20 = .ok (.bipush 64, 2) := by decide +kernel
theorem dX7_isLight_22 : decode cX7_isLight 22 = .ok (.if_icmp .lt 23, 3) := by decide +kernel
theorem dX7_isLight_25 : decode cX7_isLight 25 = .ok (.aload_n 0, 1) := by decide +kernel
theorem dX7_isLight_26 : decode cX7_isLight 26 = .ok (.getfield 59, 3) := by decide +kernel
theorem dX7_isLight_29 : decode cX7_isLight 29 = .ok (.sipush 188, 3) := by decide +kernel
theorem dX7_isLight_32 : decode cX7_isLight 32 = .ok (.if_icmp .lt 17, 3) := by decide +kernel
theorem dX7_isLight_35 : decode cX7_isLight 35 = .ok (.aload_n 0, 1) := by decide +kernel
theorem dX7_isLight_36 : decode cX7_isLight 36 = .ok (.getfield 59, 3) := by decide +kernel
theorem dX7_isLight_39 : decode cX7_isLight 39 = .ok (.sipush 192, 3) := by decide +kernel
theorem dX7_isLight_42 : decode cX7_isLight 42 = .ok (.if_icmp .ge 7, 3) := by decide +kernel
theorem dX7_isLight_45 : decode cX7_isLight 45 = .ok (.iconst 1, 1) := by decide +kernel
theorem dX7_isLight_46 : decode cX7_isLight 46 = .ok (.goto 4, 3) := by decide +kernel
theorem dX7_isLight_49 : decode cX7_isLight 49 = .ok (.iconst 0, 1) := by decide +kernel
theorem dX7_isLight_50 : decode cX7_isLight 50 = .ok (.ireturn, 1) := by decide +kernel
theorem dX7_isSo_0 : decode cX7_isSo 0 = .ok (.iload_n 1, 1) := by decide +kernel
theorem dX7_isSo_1 : decode cX7_isSo 1 = .ok (.bipush 7, 2) := by decide +kernel
theorem dX7_isSo_3 : decode cX7_isSo 3 = .ok (.iand, 1) := by decide +kernel
theorem dX7_isSo_4 : decode cX7_isSo 4 = .ok (.tableswitch 214 0 6 #[44, 54, 90, 125, 161, 214, 185], 44) := by decide +kernel
theorem dX7_isSo_48 : decode cX7_isSo 48 = .ok (.iload_n 1, 1) := by decide +kernel
theorem dX7_isSo_49 : decode cX7_isSo 49 = .ok (.ifCond .ne 7, 3) := by decide +kernel
theorem dX7_isSo_52 : decode cX7_isSo 52 = .ok (.iconst 1, 1) := by decide +kernel
theorem dX7_isSo_53 : decode cX7_isSo 53 = .ok (.goto 4, 3) := by decide +kernel
theorem dX7_isSo_56 : decode cX7_isSo 56 = .ok (.iconst 0, 1) := by decide +kernel
theorem dX7_isSo_57 : decode cX7_isSo 57 = .ok (.ireturn, 1) := by decide +kernel
theorem dX7_isSo_58 : decode cX7_isSo 58 = .ok (.aload_n 0, 1) := by decide +kernel
theorem dX7_isSo_59 : decode cX7_isSo 59 = .ok (.getfield 13, 3) := by decide +kernel
theorem dX7_isSo_62 : decode cX7_isSo 62 = .ok (.bipush 22, 2) := by decide +kernel
theorem dX7_isSo_64 : decode cX7_isSo 64 = .ok (.iaload, 1) := by decide +kernel
theorem dX7_isSo_65 : decode cX7_isSo 65 = .ok (.iconst 1, 1) := by decide +kernel
theorem dX7_isSo_66 : decode cX7_isSo 66 = .ok (.if_icmp .ne 7, 3) := by decide +kernel
theorem dX7_isSo_69 : decode cX7_isSo 69 = .ok (.iconst 1, 1) := by decide +kernel
theorem dX7_isSo_70 : decode cX7_isSo 70 = .ok (.goto 4, 3) := by decide +kernel
theorem dX7_isSo_73 : decode cX7_isSo 73 = .ok (.iconst 0, 1) := by decide +kernel
theorem dX7_isSo_74 : decode cX7_isSo 74 = .ok (.iload_n 1, 1) := by decide +kernel
theorem dX7_isSo_75 : decode cX7_isSo 75 = .ok (.bipush 8, 2) := by decide +kernel
theorem dX7_isSo_77 : decode cX7_isSo 77 = .ok (.if_icmp .ge 7, 3) := by decide +kernel
theorem dX7_isSo_80 : decode cX7_isSo 80 = .ok (.iconst 1, 1) := by decide +kernel
theorem dX7_isSo_81 : decode cX7_isSo 81 = .ok (.goto 4, 3) := by decide +kernel
theorem dX7_isSo_84 : decode cX7_isSo 84 = .ok (.iconst 0, 1) := by decide +kernel
theorem dX7_isSo_85 : decode cX7_isSo 85 = .ok (.if_icmp .ne 7, 3) := by decide +kernel
theorem dX7_isSo_88 : decode cX7_isSo 88 = .ok (.iconst 1, 1) := by decide +kernel
theorem dX7_isSo_89 : decode cX7_isSo 89 = .ok (.goto 4, 3) := by decide +kernel
theorem dX7_isSo_92 : decode cX7_isSo 92 = .ok (.iconst 0, 1) := by decide +kernel
theorem dX7_isSo_93 : decode cX7_isSo 93 = .ok (.ireturn, 1) := by decide +kernel
theorem dX7_isSo_94 : decode cX7_isSo 94 = .ok (.aload_n 0, 1) := by decide +kernel
theorem dX7_isSo_95 : decode cX7_isSo 95 = .ok (.getfield 13, 3) := by decide +kernel
theorem dX7_isSo_98 : decode cX7_isSo 98 = .ok (.bipush 16, 2) := by decide +kernel
theorem dX7_isSo_100 : decode cX7_isSo 100 = .ok (.iaload, 1) := by decide +kernel
theorem dX7_isSo_101 : decode cX7_isSo 101 = .ok (.ifCond .ne 7, 3) := by decide +kernel
theorem dX7_isSo_104 : decode cX7_isSo 104 = .ok (.iconst 1, 1) := by decide +kernel
theorem dX7_isSo_105 : decode cX7_isSo 105 = .ok (.goto 4, 3) := by decide +kernel
theorem dX7_isSo_108 : decode cX7_isSo 108 = .ok (.iconst 0, 1) := by decide +kernel
theorem dX7_isSo_109 : decode cX7_isSo 109 = .ok (.iload_n 1, 1) := by decide +kernel
theorem dX7_isSo_110 : decode cX7_isSo 110 = .ok (.bipush 8, 2) := by decide +kernel
theorem dX7_isSo_112 : decode cX7_isSo 112 = .ok (.if_icmp .ge 7, 3) := by decide +kernel
theorem dX7_isSo_115 : decode cX7_isSo 115 = .ok (.iconst 1, 1) := by decide +kernel
theorem dX7_isSo_116 : decode cX7_isSo 116 = .ok (.goto 4, 3) := by decide +kernel
theorem dX7_isSo_119 : decode cX7_isSo 119 = .ok (.iconst 0, 1) := by decide +kernel
theorem dX7_isSo_120 : decode cX7_isSo 120 = .ok (.if_icmp .ne 7, 3) := by decide +kernel
theorem dX7_isSo_123 : decode cX7_isSo 123 = .ok (.iconst 1, 1) := by decide +kernel
theorem dX7_isSo_124 : decode cX7_isSo 124 = .ok (.goto 4, 3) := by decide +kernel
theorem dX7_isSo_127 : decode cX7_isSo 127 = .ok (.iconst 0, 1) := by decide +kernel
theorem dX7_isSo_128 : decode cX7_isSo 128 = .ok (.ireturn, 1) := by decide +kernel
theorem dX7_isSo_129 : decode cX7_isSo 129 = .ok (.aload_n 0, 1) := by decide +kernel
theorem dX7_isSo_130 : decode cX7_isSo 130 = .ok (.getfield 13, 3) := by decide +kernel
theorem dX7_isSo_133 : decode cX7_isSo 133 = .ok (.bipush 17, 2) := by decide +kernel
theorem dX7_isSo_135 : decode cX7_isSo 135 = .ok (.iaload, 1) := by decide +kernel
theorem dX7_isSo_136 : decode cX7_isSo 136 = .ok (.iconst 1, 1) := by decide +kernel
theorem dX7_isSo_137 : decode cX7_isSo 137 = .ok (.if_icmp .ne 7, 3) := by decide +kernel
theorem dX7_isSo_140 : decode cX7_isSo 140 = .ok (.iconst 1, 1) := by decide +kernel
theorem dX7_isSo_141 : decode cX7_isSo 141 = .ok (.goto 4, 3) := by decide +kernel
theorem dX7_isSo_144 : decode cX7_isSo 144 = .ok (.iconst 0, 1) := by decide +kernel
theorem dX7_isSo_145 : decode cX7_isSo 145 = .ok (.iload_n 1, 1) := by decide +kernel
theorem dX7_isSo_146 : decode cX7_isSo 146 = .ok (.bipush 8, 2) := by decide +kernel
theorem dX7_isSo_148 : decode cX7_isSo 148 = .ok (.if_icmp .ge 7, 3) := by decide +kernel
theorem dX7_isSo_151 : decode cX7_isSo 151 = .ok (.iconst 1, 1) := by decide +kernel
theorem dX7_isSo_152 : decode cX7_isSo 152 = .ok (.goto 4, 3) := by decide +kernel
theorem dX7_isSo_155 : decode cX7_isSo 155 = .ok (.iconst 0, 1) := by decide +kernel
theorem dX7_isSo_156 : decode cX7_isSo 156 = .ok (.if_icmp .ne 7, 3) := by decide +kernel
theorem dX7_isSo_159 : decode cX7_isSo 159 = .ok (.iconst 1, 1) := by decide +kernel
theorem dX7_isSo_160 : decode cX7_isSo 160 = .ok (.goto 4, 3) := by decide +kernel
theorem dX7_isSo_163 : decode cX7_isSo 163 = .ok (.iconst 0, 1) := by decide +kernel
theorem dX7_isSo_164 : decode cX7_isSo 164 = .ok (.ireturn, 1) := by decide +kernel
theorem dX7_isSo_165 : decode cX7_isSo 165 = .ok (.aload_n 0, 1) := by decide +kernel
theorem dX7_isSo_166 : decode cX7_isSo 166 = .ok (.invokevirtual 62, 3) := by decide +kernel
theorem dX7_isSo_169 : decode cX7_isSo 169 = .ok (.iload_n 1, 1) := by decide +kernel
theorem dX7_isSo_170 : decode cX7_isSo 170 = .ok (.bipush 8, 2) := by decide +kernel
theorem dX7_isSo_172 : decode cX7_isSo 172 = .ok (.if_icmp .ge 7, 3) := by decide +kernel
theorem dX7_isSo_175 : decode cX7_isSo 175 = .ok (.iconst 1, 1) := by decide +kernel
theorem dX7_isSo_176 : decode cX7_isSo 176 = .ok (.goto 4, 3) := by decide +kernel
theorem dX7_isSo_179 : decode cX7_isSo 179 = .ok (.iconst 0, 1) := by decide +kernel
theorem dX7_isSo_180 : decode cX7_isSo 180 = .ok (.if_icmp .ne 7, 3) := by decide +kernel
theorem dX7_isSo_183 : decode cX7_isSo 183 = .ok (.iconst 1, 1) := by decide +kernel
theorem dX7_isSo_184 : decode cX7_isSo 184 = .ok (.goto 4, 3) := by decide +kernel
theorem dX7_isSo_187 : decode cX7_isSo 187 = .ok (.iconst 0, 1) := by decide +kernel
theorem dX7_isSo_188 : decode cX7_isSo 188 = .ok (.ireturn, 1) := by decide +kernel
theorem dX7_isSo_189 : decode cX7_isSo 189 = .ok (.aload_n 0, 1) := by decide +kernel
theorem dX7_isSo_190 : decode cX7_isSo 190 = .ok (.getfield 22, 3) := by decide +kernel
theorem dX7_isSo_193 : decode cX7_isSo 193 = .ok (.aload_n 0, 1) := by decide +kernel
theorem dX7_isSo_194 : decode cX7_isSo 194 = .ok (.getfield 66, 3) := by decide +kernel
theorem dX7_isSo_197 : decode cX7_isSo 197 = .ok (.baload, 1) := by decide +kernel
theorem dX7_isSo_198 : decode cX7_isSo 198 = .ok (.iload_n 1, 1) := by decide +kernel
theorem dX7_isSo_199 : decode cX7_isSo 199 = .ok (.bipush 8, 2) := by decide +kernel
theorem dX7_isSo_201 : decode cX7_isSo 201 = .ok (.if_icmp .ge 7, 3) := by decide +kernel
theorem dX7_isSo_204 : decode cX7_isSo 204 = .ok (.iconst 1, 1) := by decide +kernel
theorem dX7_isSo_205 : decode cX7_isSo 205 = .ok (.goto 4, 3) := by decide +kernel
theorem dX7_isSo_208 : decode cX7_isSo 208 = .ok (.iconst 0, 1) := by decide +kernel
theorem dX7_isSo_209 : decode cX7_isSo 209 = .ok (.if_icmp .ne 7, 3) := by decide +kernel
theorem dX7_isSo_212 : decode cX7_isSo 212 = .ok (.iconst 1, 1) := by decide +kernel
theorem dX7_isSo_213 : decode cX7_isSo 213 = .ok (.goto 4, 3) := by decide +kernel
theorem dX7_isSo_216 : decode cX7_isSo 216 = .ok (.iconst 0, 1) := by decide +kernel
theorem dX7_isSo_217 : decode cX7_isSo 217 = .ok (.ireturn, 1) := by decide +kernel
theorem dX7_isSo_218 : decode cX7_isSo 218 = .ok (.iload_n 1, 1) := by decide +kernel
theorem dX7_isSo_219 : decode cX7_isSo 219 = .ok (.bipush 8, 2) := by decide +kernel
theorem dX7_isSo_221 : decode cX7_isSo 221 = .ok (.if_icmp .le 7, 3) := by decide +kernel
theorem dX7_isSo_224 : decode cX7_isSo 224 = .ok (.iconst 1, 1) := by decide +kernel
theorem dX7_isSo_225 : decode cX7_isSo 225 = .ok (.goto 4, 3) := by decide +kernel
theorem dX7_isSo_228 : decode cX7_isSo 228 = .ok (.iconst 0, 1) := by decide +kernel
theorem dX7_isSo_229 : decode cX7_isSo 229 = .ok (.ireturn, 1) := by decide +kernel
theorem dX7_branch_0 : decode cX7_branch 0 = .ok (.aload_n 0, 1) := by decide +kernel
theorem dX7_branch_1 : decode cX7_branch 1 = .ok (.aload_n 0, 1) := by decide +kernel
theorem dX7_branch_2 : decode cX7_branch 2 = .ok (.getfield 13, 3) := by decide +kernel
theorem dX7_branch_5 : decode cX7_branch 5 = .ok (.bipush 18, 2) := by decide +kernel
theorem dX7_branch_7 : decode cX7_branch 7 = .ok (.iaload, 1) := by decide +kernel
theorem dX7_branch_8 : decode cX7_branch 8 = .ok (.invokevirtual 47, 3) := by decide +kernel
theorem dX7_branch_11 : decode cX7_branch 11 = .ok (.istore_n 2, 1) := by decide +kernel
theorem dX7_branch_12 : decode cX7_branch 12 = .ok (.aload_n 0, 1) := by decide +kernel
theorem dX7_branch_13 : decode cX7_branch 13 = .ok (.iload_n 1, 1) := by decide +kernel
theorem dX7_branch_14 : decode cX7_branch 14 = .ok (.invokevirtual 69, 3) := by decide +kernel
theorem dX7_branch_17 : decode cX7_branch 17 = .ok (.ifCond .eq 18, 3) := by decide +kernel
theorem dX7_branch_20 : decode cX7_branch 20 = .ok (.aload_n 0, 1) := by decide +kernel
theorem dX7_branch_21 : decode cX7_branch 21 = .ok (.aload_n 0, 1) := by decide +kernel
theorem dX7_branch_22 : decode cX7_branch 22 = .ok (.getfield 13, 3) := by decide +kernel
theorem dX7_branch_25 : decode cX7_branch 25 = .ok (.bipush 18, 2) := by decide +kernel
theorem dX7_branch_27 : decode cX7_branch 27 = .ok (.iaload, 1) := by decide +kernel
theorem dX7_branch_28 : decode cX7_branch 28 = .ok (.iload_n 2, 1) := by decide +kernel
theorem dX7_branch_29 : decode cX7_branch 29 = .ok (.invokevirtual 73, 3) := by decide +kernel
theorem dX7_branch_32 : decode cX7_branch 32 = .ok (.goto 15, 3) := by decide +kernel
theorem dX7_branch_35 : decode cX7_branch 35 = .ok (.aload_n 0, 1) := by decide +kernel
theorem dX7_branch_36 : decode cX7_branch 36 = .ok (.aload_n 0, 1) := by decide +kernel
theorem dX7_branch_37 : decode cX7_branch 37 = .ok (.getfield 13, 3) := by decide +kernel
theorem dX7_branch_40 : decode cX7_branch 40 = .ok (.bipush 18, 2) := by decide +kernel
theorem dX7_branch_42 : decode cX7_branch 42 = .ok (.iaload, 1) := by decide +kernel
theorem dX7_branch_43 : decode cX7_branch 43 = .ok (.iconst 1, 1) := by decide +kernel
theorem dX7_branch_44 : decode cX7_branch 44 = .ok (.invokevirtual 50, 3) := by decide +kernel
theorem dX7_branch_47 : decode cX7_branch 47 = .ok (.return_, 1) := by decide +kernel
theorem dX7_skips_0 : decode cX7_skips 0 = .ok (.iload_n 1, 1) := by decide +kernel
theorem dX7_skips_1 : decode cX7_skips 1 = .ok (.tableswitch 176 5 15 #[59, 75, 91, 107, 176, 176, 176, 109, 126, 143, 159], 59) := by decide +kernel
theorem dX7_skips_60 : decode cX7_skips 60 = .ok (.aload_n 0, 1) := by decide +kernel
theorem dX7_skips_61 : decode cX7_skips 61 = .ok (.getfield 13, 3) := by decide +kernel
theorem dX7_skips_64 : decode cX7_skips 64 = .ok (.bipush 22, 2) := by decide +kernel
theorem dX7_skips_66 : decode cX7_skips 66 = .ok (.iaload, 1) := by decide +kernel
theorem dX7_skips_67 : decode cX7_skips 67 = .ok (.ifCond .ne 7, 3) := by decide +kernel
theorem dX7_skips_70 : decode cX7_skips 70 = .ok (.iconst 1, 1) := by decide +kernel
theorem dX7_skips_71 : decode cX7_skips 71 = .ok (.goto 4, 3) := by decide +kernel
theorem dX7_skips_74 : decode cX7_skips 74 = .ok (.iconst 0, 1) := by decide +kernel
theorem dX7_skips_75 : decode cX7_skips 75 = .ok (.ireturn, 1) := by decide +kernel
theorem dX7_skips_76 : decode cX7_skips 76 = .ok (.aload_n 0, 1) := by decide +kernel
theorem dX7_skips_77 : decode cX7_skips 77 = .ok (.getfield 13, 3) := by decide +kernel
theorem dX7_skips_80 : decode cX7_skips 80 = .ok (.bipush 16, 2) := by decide +kernel
theorem dX7_skips_82 : decode cX7_skips 82 = .ok (.iaload, 1) := by decide +kernel
theorem dX7_skips_83 : decode cX7_skips 83 = .ok (.ifCond .eq 7, 3) := by decide +kernel
theorem dX7_skips_86 : decode cX7_skips 86 = .ok (.iconst 1, 1) := by decide +kernel
theorem dX7_skips_87 : decode cX7_skips 87 = .ok (.goto 4, 3) := by decide +kernel
theorem dX7_skips_90 : decode cX7_skips 90 = .ok (.iconst 0, 1) := by decide +kernel
theorem dX7_skips_91 : decode cX7_skips 91 = .ok (.ireturn, 1) := by decide +kernel
theorem dX7_skips_92 : decode cX7_skips 92 = .ok (.aload_n 0, 1) := by decide +kernel
theorem dX7_skips_93 : decode cX7_skips 93 = .ok (.getfield 13, 3) := by decide +kernel
theorem dX7_skips_96 : decode cX7_skips 96 = .ok (.bipush 17, 2) := by decide +kernel
theorem dX7_skips_98 : decode cX7_skips 98 = .ok (.iaload, 1) := by decide +kernel
theorem dX7_skips_99 : decode cX7_skips 99 = .ok (.ifCond .ne 7, 3) := by decide +kernel
theorem dX7_skips_102 : decode cX7_skips 102 = .ok (.iconst 1, 1) := by decide +kernel
theorem dX7_skips_103 : decode cX7_skips 103 = .ok (.goto 4, 3) := by decide +kernel
theorem dX7_skips_106 : decode cX7_skips 106 = .ok (.iconst 0, 1) := by decide +kernel
theorem dX7_skips_107 : decode cX7_skips 107 = .ok (.ireturn, 1) := by decide +kernel
theorem dX7_skips_108 : decode cX7_skips 108 = .ok (.iconst 1, 1) := by decide +kernel
theorem dX7_skips_109 : decode cX7_skips 109 = .ok (.ireturn, 1) := by decide +kernel
theorem dX7_skips_110 : decode cX7_skips 110 = .ok (.aload_n 0, 1) := by decide +kernel
theorem dX7_skips_111 : decode cX7_skips 111 = .ok (.getfield 13, 3) := by decide +kernel
theorem dX7_skips_114 : decode cX7_skips 114 = .ok (.bipush 21, 2) := by decide +kernel
theorem dX7_skips_116 : decode cX7_skips 116 = .ok (.iaload, 1) := by decide +kernel
theorem dX7_skips_117 : decode cX7_skips 117 = .ok (.iconst 1, 1) := by decide +kernel
theorem dX7_skips_118 : decode cX7_skips 118 = .ok (.if_icmp .ne 7, 3) := by decide +kernel
theorem dX7_skips_121 : decode cX7_skips 121 = .ok (.iconst 1, 1) := by decide +kernel
theorem dX7_skips_122 : decode cX7_skips 122 = .ok (.goto 4, 3) := by decide +kernel
theorem dX7_skips_125 : decode cX7_skips 125 = .ok (.iconst 0, 1) := by decide +kernel
theorem dX7_skips_126 : decode cX7_skips 126 = .ok (.ireturn, 1) := by decide +kernel
theorem dX7_skips_127 : decode cX7_skips 127 = .ok (.aload_n 0, 1) := by decide +kernel
theorem dX7_skips_128 : decode cX7_skips 128 = .ok (.getfield 13, 3) := by decide +kernel
theorem dX7_skips_131 : decode cX7_skips 131 = .ok (.bipush 22, 2) := by decide +kernel
theorem dX7_skips_133 : decode cX7_skips 133 = .ok (.iaload, 1) := by decide +kernel
theorem dX7_skips_134 : decode cX7_skips 134 = .ok (.iconst 1, 1) := by decide +kernel
theorem dX7_skips_135 : decode cX7_skips 135 = .ok (.if_icmp .ne 7, 3) := by decide +kernel
theorem dX7_skips_138 : decode cX7_skips 138 = .ok (.iconst 1, 1) := by decide +kernel
theorem dX7_skips_139 : decode cX7_skips 139 = .ok (.goto 4, 3) := by decide +kernel
theorem dX7_skips_142 : decode cX7_skips 142 = .ok (.iconst 0, 1) := by decide +kernel
theorem dX7_skips_143 : decode cX7_skips 143 = .ok (.ireturn, 1) := by decide +kernel
theorem dX7_skips_144 : decode cX7_skips 144 = .ok (.aload_n 0, 1) := by decide +kernel
theorem dX7_skips_145 : decode cX7_skips 145 = .ok (.getfield 13, 3) := by decide +kernel
theorem dX7_skips_148 : decode cX7_skips 148 = .ok (.bipush 16, 2) := by decide +kernel
theorem dX7_skips_150 : decode cX7_skips 150 = .ok (.iaload, 1) := by decide +kernel
theorem dX7_skips_151 : decode cX7_skips 151 = .ok (.ifCond .ne 7, 3) := by decide +kernel
theorem dX7_skips_154 : decode cX7_skips 154 = .ok (.iconst 1, 1) := by decide +kernel
theorem dX7_skips_155 : decode cX7_skips 155 = .ok (.goto 4, 3) := by decide +kernel
theorem dX7_skips_158 : decode cX7_skips 158 = .ok (.iconst 0, 1) := by decide +kernel
theorem dX7_skips_159 : decode cX7_skips 159 = .ok (.ireturn, 1) := by decide +kernel
theorem dX7_skips_160 : decode cX7_skips 160 = .ok (.aload_n 0, 1) := by decide +kernel
theorem dX7_skips_161 : decode cX7_skips 161 = .ok (.getfield 13, 3) := by decide +kernel
theorem dX7_skips_164 : decode cX7_skips 164 = .ok (.bipush 17, 2) := by decide +kernel
theorem dX7_skips_166 : decode cX7_skips 166 = .ok (.iaload, 1) := by decide +kernel
theorem dX7_skips_167 : decode cX7_skips 167 = .ok (.iconst 1, 1) := by decide +kernel
theorem dX7_skips_168 : decode cX7_skips 168 = .ok (.if_icmp .ne 7, 3) := by decide +kernel
theorem dX7_skips_171 : decode cX7_skips 171 = .ok (.iconst 1, 1) := by decide +kernel
theorem dX7_skips_172 : decode cX7_skips 172 = .ok (.goto 4, 3) := by decide +kernel
theorem dX7_skips_175 : decode cX7_skips 175 = .ok (.iconst 0, 1) := by decide +kernel
theorem dX7_skips_176 : decode cX7_skips 176 = .ok (.ireturn, 1) := by decide +kernel
theorem dX7_skips_177 : decode cX7_skips 177 = .ok (.iconst 0, 1) := by decide +kernel
theorem dX7_skips_178 : decode cX7_skips 178 = .ok (.ireturn, 1) := by decide +kernel
theorem dX7_wide_0 : decode cX7_wide 0 = .ok (.iload_n 1, 1) := by decide +kernel
theorem dX7_wide_1 : decode cX7_wide 1 = .ok (.bipush 7, 2) := by decide +kernel
theorem dX7_wide_3 : decode cX7_wide 3 = .ok (.iand, 1) := by decide +kernel
theorem dX7_wide_4 : decode cX7_wide 4 = .ok (.iconst 4, 1) := by decide +kernel
theorem dX7_wide_5 : decode cX7_wide 5 = .ok (.if_icmp .ge 82, 3) := by decide +kernel
theorem dX7_wide_8 : decode cX7_wide 8 = .ok (.iload_n 1, 1) := by decide +kernel
theorem dX7_wide_9 : decode cX7_wide 9 = .ok (.bipush 8, 2) := by decide +kernel
theorem dX7_wide_11 : decode cX7_wide 11 = .ok (.if_icmp .eq 76, 3) := by decide +kernel
theorem dX7_wide_14 : decode cX7_wide 14 = .ok (.aload_n 0, 1) := by decide +kernel
theorem dX7_wide_15 : decode cX7_wide 15 = .ok (.aload_n 0, 1) := by decide +kernel
theorem dX7_wide_16 : decode cX7_wide 16 = .ok (.getfield 13, 3) := by decide +kernel
theorem dX7_wide_19 : decode cX7_wide 19 = .ok (.bipush 18, 2) := by decide +kernel
theorem dX7_wide_21 : decode cX7_wide 21 = .ok (.iaload, 1) := by decide +kernel
theorem dX7_wide_22 : decode cX7_wide 22 = .ok (.invokevirtual 47, 3) := by decide +kernel
theorem dX7_wide_25 : decode cX7_wide 25 = .ok (.bipush 8, 2) := by decide +kernel
theorem dX7_wide_27 : decode cX7_wide 27 = .ok (.ishl, 1) := by decide +kernel
theorem dX7_wide_28 : decode cX7_wide 28 = .ok (.aload_n 0, 1) := by decide +kernel
theorem dX7_wide_29 : decode cX7_wide 29 = .ok (.aload_n 0, 1) := by decide +kernel
theorem dX7_wide_30 : decode cX7_wide 30 = .ok (.getfield 13, 3) := by decide +kernel
theorem dX7_wide_33 : decode cX7_wide 33 = .ok (.aload_n 0, 1) := by decide +kernel
theorem dX7_wide_34 : decode cX7_wide 34 = .ok (.getfield 13, 3) := by decide +kernel
theorem dX7_wide_37 : decode cX7_wide 37 = .ok (.bipush 18, 2) := by decide +kernel
theorem dX7_wide_39 : decode cX7_wide 39 = .ok (.iaload, 1) := by decide +kernel
theorem dX7_wide_40 : decode cX7_wide 40 = .ok (.iaload, 1) := by decide +kernel
theorem dX7_wide_41 : decode cX7_wide 41 = .ok (.iconst 1, 1) := by decide +kernel
theorem dX7_wide_42 : decode cX7_wide 42 = .ok (.iadd, 1) := by decide +kernel
theorem dX7_wide_43 : decode cX7_wide 43 = .ok (.invokevirtual 43, 3) := by decide +kernel
theorem dX7_wide_46 : decode cX7_wide 46 = .ok (.ior, 1) := by decide +kernel
theorem dX7_wide_47 : decode cX7_wide 47 = .ok (.istore_n 2, 1) := by decide +kernel
theorem dX7_wide_48 : decode cX7_wide 48 = .ok (.aload_n 0, 1) := by decide +kernel
theorem dX7_wide_49 : decode cX7_wide 49 = .ok (.iload_n 1, 1) := by decide +kernel
theorem dX7_wide_50 : decode cX7_wide 50 = .ok (.invokevirtual 69, 3) := by decide +kernel
theorem dX7_wide_53 : decode cX7_wide 53 = .ok (.ifCond .eq 19, 3) := by decide +kernel
theorem dX7_wide_56 : decode cX7_wide 56 = .ok (.aload_n 0, 1) := by decide +kernel
theorem dX7_wide_57 : decode cX7_wide 57 = .ok (.getfield 13, 3) := by decide +kernel
theorem dX7_wide_60 : decode cX7_wide 60 = .ok (.aload_n 0, 1) := by decide +kernel
theorem dX7_wide_61 : decode cX7_wide 61 = .ok (.getfield 13, 3) := by decide +kernel
theorem dX7_wide_64 : decode cX7_wide 64 = .ok (.bipush 18, 2) := by decide +kernel
theorem dX7_wide_66 : decode cX7_wide 66 = .ok (.iaload, 1) := by decide +kernel
theorem dX7_wide_67 : decode cX7_wide 67 = .ok (.iload_n 2, 1) := by decide +kernel
theorem dX7_wide_68 : decode cX7_wide 68 = .ok (.iastore, 1) := by decide +kernel
theorem dX7_wide_69 : decode cX7_wide 69 = .ok (.goto 15, 3) := by decide +kernel
theorem dX7_wide_72 : decode cX7_wide 72 = .ok (.aload_n 0, 1) := by decide +kernel
theorem dX7_wide_73 : decode cX7_wide 73 = .ok (.aload_n 0, 1) := by decide +kernel
theorem dX7_wide_74 : decode cX7_wide 74 = .ok (.getfield 13, 3) := by decide +kernel
theorem dX7_wide_77 : decode cX7_wide 77 = .ok (.bipush 18, 2) := by decide +kernel
theorem dX7_wide_79 : decode cX7_wide 79 = .ok (.iaload, 1) := by decide +kernel
theorem dX7_wide_80 : decode cX7_wide 80 = .ok (.iconst 2, 1) := by decide +kernel
theorem dX7_wide_81 : decode cX7_wide 81 = .ok (.invokevirtual 50, 3) := by decide +kernel
theorem dX7_wide_84 : decode cX7_wide 84 = .ok (.goto 23, 3) := by decide +kernel
theorem dX7_wide_87 : decode cX7_wide 87 = .ok (.aload_n 0, 1) := by decide +kernel
theorem dX7_wide_88 : decode cX7_wide 88 = .ok (.iload_n 1, 1) := by decide +kernel
theorem dX7_wide_89 : decode cX7_wide 89 = .ok (.invokevirtual 76, 3) := by decide +kernel
theorem dX7_wide_92 : decode cX7_wide 92 = .ok (.ifCond .eq 15, 3) := by decide +kernel
theorem dX7_wide_95 : decode cX7_wide 95 = .ok (.aload_n 0, 1) := by decide +kernel
theorem dX7_wide_96 : decode cX7_wide 96 = .ok (.aload_n 0, 1) := by decide +kernel
theorem dX7_wide_97 : decode cX7_wide 97 = .ok (.getfield 13, 3) := by decide +kernel
theorem dX7_wide_100 : decode cX7_wide 100 = .ok (.bipush 18, 2) := by decide +kernel
theorem dX7_wide_102 : decode cX7_wide 102 = .ok (.iaload, 1) := by decide +kernel
theorem dX7_wide_103 : decode cX7_wide 103 = .ok (.iconst 2, 1) := by decide +kernel
theorem dX7_wide_104 : decode cX7_wide 104 = .ok (.invokevirtual 50, 3) := by decide +kernel
theorem dX7_wide_107 : decode cX7_wide 107 = .ok (.return_, 1) := by decide +kernel
theorem dX7_port_0 : decode cX7_port 0 = .ok (.iload_n 1, 1) := by decide +kernel
theorem dX7_port_1 : decode cX7_port 1 = .ok (.bipush 8, 2) := by decide +kernel
theorem dX7_port_3 : decode cX7_port 3 = .ok (.if_icmp .ne 4, 3) := by decide +kernel
theorem dX7_port_6 : decode cX7_port 6 = .ok (.return_, 1) := by decide +kernel
theorem dX7_port_7 : decode cX7_port 7 = .ok (.iload_n 1, 1) := by decide +kernel
theorem dX7_port_8 : decode cX7_port 8 = .ok (.bipush 8, 2) := by decide +kernel
theorem dX7_port_10 : decode cX7_port 10 = .ok (.if_icmp .le 51, 3) := by decide +kernel
theorem dX7_port_13 : decode cX7_port 13 = .ok (.aload_n 0, 1) := by decide +kernel
theorem dX7_port_14 : decode cX7_port 14 = .ok (.aload_n 0, 1) := by decide +kernel
theorem dX7_port_15 : decode cX7_port 15 = .ok (.getfield 13, 3) := by decide +kernel
theorem dX7_port_18 : decode cX7_port 18 = .ok (.aload_n 0, 1) := by decide +kernel
theorem dX7_port_19 : decode cX7_port 19 = .ok (.getfield 13, 3) := by decide +kernel
theorem dX7_port_22 : decode cX7_port 22 = .ok (.bipush 19, 2) := by decide +kernel
theorem dX7_port_24 : decode cX7_port 24 = .ok (.iaload, 1) := by decide +kernel
theorem dX7_port_25 : decode cX7_port 25 = .ok (.iaload, 1) := by decide +kernel
theorem dX7_port_26 : decode cX7_port 26 = .ok (.iconst 0, 1) := by decide +kernel
theorem dX7_port_27 : decode cX7_port 27 = .ok (.invokevirtual 79, 3) := by decide +kernel
theorem dX7_port_30 : decode cX7_port 30 = .ok (.aload_n 0, 1) := by decide +kernel
theorem dX7_port_31 : decode cX7_port 31 = .ok (.getfield 13, 3) := by decide +kernel
theorem dX7_port_34 : decode cX7_port 34 = .ok (.bipush 16, 2) := by decide +kernel
theorem dX7_port_36 : decode cX7_port 36 = .ok (.iconst 0, 1) := by decide +kernel
theorem dX7_port_37 : decode cX7_port 37 = .ok (.iastore, 1) := by decide +kernel
theorem dX7_port_38 : decode cX7_port 38 = .ok (.aload_n 0, 1) := by decide +kernel
theorem dX7_port_39 : decode cX7_port 39 = .ok (.aload_n 0, 1) := by decide +kernel
theorem dX7_port_40 : decode cX7_port 40 = .ok (.getfield 55, 3) := by decide +kernel
theorem dX7_port_43 : decode cX7_port 43 = .ok (.ifCond .ne 9, 3) := by decide +kernel
theorem dX7_port_46 : decode cX7_port 46 = .ok (.iload_n 1, 1) := by decide +kernel
theorem dX7_port_47 : decode cX7_port 47 = .ok (.bipush 9, 2) := by decide +kernel
theorem dX7_port_49 : decode cX7_port 49 = .ok (.if_icmp .ne 7, 3) := by decide +kernel
theorem dX7_port_52 : decode cX7_port 52 = .ok (.iconst 1, 1) := by decide +kernel
theorem dX7_port_53 : decode cX7_port 53 = .ok (.goto 4, 3) := by decide +kernel
theorem dX7_port_56 : decode cX7_port 56 = .ok (.iconst 0, 1) := by decide +kernel
theorem dX7_port_57 : decode cX7_port 57 = .ok (.putfield 55, 3) := by decide +kernel
theorem dX7_port_60 : decode cX7_port 60 = .ok (.return_, 1) := by decide +kernel
theorem dX7_port_61 : decode cX7_port 61 = .ok (.iload_n 1, 1) := by decide +kernel
theorem dX7_port_62 : decode cX7_port 62 = .ok (.iconst 1, 1) := by decide +kernel
theorem dX7_port_63 : decode cX7_port 63 = .ok (.if_icmp .ne 8, 3) := by decide +kernel
theorem dX7_port_66 : decode cX7_port 66 = .ok (.aload_n 0, 1) := by decide +kernel
theorem dX7_port_67 : decode cX7_port 67 = .ok (.iconst 0, 1) := by decide +kernel
theorem dX7_port_68 : decode cX7_port 68 = .ok (.putfield 55, 3) := by decide +kernel
theorem dX7_port_71 : decode cX7_port 71 = .ok (.iload_n 1, 1) := by decide +kernel
theorem dX7_port_72 : decode cX7_port 72 = .ok (.iconst 2, 1) := by decide +kernel
theorem dX7_port_73 : decode cX7_port 73 = .ok (.if_icmp .ne 21, 3) := by decide +kernel
theorem dX7_port_76 : decode cX7_port 76 = .ok (.aload_n 0, 1) := by decide +kernel
theorem dX7_port_77 : decode cX7_port 77 = .ok (.aload_n 0, 1) := by decide +kernel
theorem dX7_port_78 : decode cX7_port 78 = .ok (.aload_n 0, 1) := by decide +kernel
theorem dX7_port_79 : decode cX7_port 79 = .ok (.getfield 13, 3) := by decide +kernel
theorem dX7_port_82 : decode cX7_port 82 = .ok (.bipush 19, 2) := by decide +kernel
theorem dX7_port_84 : decode cX7_port 84 = .ok (.iaload, 1) := by decide +kernel
theorem dX7_port_85 : decode cX7_port 85 = .ok (.invokevirtual 47, 3) := by decide +kernel
theorem dX7_port_88 : decode cX7_port 88 = .ok (.bipush 15, 2) := by decide +kernel
theorem dX7_port_90 : decode cX7_port 90 = .ok (.iand, 1) := by decide +kernel
theorem dX7_port_91 : decode cX7_port 91 = .ok (.putfield 66, 3) := by decide +kernel
theorem dX7_port_94 : decode cX7_port 94 = .ok (.aload_n 0, 1) := by decide +kernel
theorem dX7_port_95 : decode cX7_port 95 = .ok (.aload_n 0, 1) := by decide +kernel
theorem dX7_port_96 : decode cX7_port 96 = .ok (.getfield 13, 3) := by decide +kernel
theorem dX7_port_99 : decode cX7_port 99 = .ok (.bipush 19, 2) := by decide +kernel
theorem dX7_port_101 : decode cX7_port 101 = .ok (.iaload, 1) := by decide +kernel
theorem dX7_port_102 : decode cX7_port 102 = .ok (.iconst 1, 1) := by decide +kernel
theorem dX7_port_103 : decode cX7_port 103 = .ok (.invokevirtual 50, 3) := by decide +kernel
theorem dX7_port_106 : decode cX7_port 106 = .ok (.return_, 1) := by decide +kernel
theorem dX7_comeBack_0 : decode cX7_comeBack 0 = .ok (.aload_n 0, 1) := by decide +kernel
theorem dX7_comeBack_1 : decode cX7_comeBack 1 = .ok (.aload_n 0, 1) := by decide +kernel
theorem dX7_comeBack_2 : decode cX7_comeBack 2 = .ok (.getfield 13, 3) := by decide +kernel
theorem dX7_comeBack_5 : decode cX7_comeBack 5 = .ok (.bipush 19, 2) := by decide +kernel
theorem dX7_comeBack_7 : decode cX7_comeBack 7 = .ok (.iaload, 1) := by decide +kernel
theorem dX7_comeBack_8 : decode cX7_comeBack 8 = .ok (.invokevirtual 47, 3) := by decide +kernel
theorem dX7_comeBack_11 : decode cX7_comeBack 11 = .ok (.istore_n 2, 1) := by decide +kernel
theorem dX7_comeBack_12 : decode cX7_comeBack 12 = .ok (.aload_n 0, 1) := by decide +kernel
theorem dX7_comeBack_13 : decode cX7_comeBack 13 = .ok (.aload_n 0, 1) := by decide +kernel
theorem dX7_comeBack_14 : decode cX7_comeBack 14 = .ok (.getfield 13, 3) := by decide +kernel
theorem dX7_comeBack_17 : decode cX7_comeBack 17 = .ok (.bipush 19, 2) := by decide +kernel
theorem dX7_comeBack_19 : decode cX7_comeBack 19 = .ok (.iaload, 1) := by decide +kernel
theorem dX7_comeBack_20 : decode cX7_comeBack 20 = .ok (.iconst 1, 1) := by decide +kernel
theorem dX7_comeBack_21 : decode cX7_comeBack 21 = .ok (.invokevirtual 50, 3) := by decide +kernel
theorem dX7_comeBack_24 : decode cX7_comeBack 24 = .ok (.aload_n 0, 1) := by decide +kernel
theorem dX7_comeBack_25 : decode cX7_comeBack 25 = .ok (.getfield 13, 3) := by decide +kernel
theorem dX7_comeBack_28 : decode cX7_comeBack 28 = .ok (.bipush 19, 2) := by decide +kernel
theorem dX7_comeBack_30 : decode cX7_comeBack 30 = .ok (.iload_n 2, 1) := by decide +kernel
theorem dX7_comeBack_31 : decode cX7_comeBack 31 = .ok (.iconst 4, 1) := by decide +kernel
theorem dX7_comeBack_32 : decode cX7_comeBack 32 = .ok (.ishr, 1) := by decide +kernel
theorem dX7_comeBack_33 : decode cX7_comeBack 33 = .ok (.iastore, 1) := by decide +kernel
theorem dX7_comeBack_34 : decode cX7_comeBack 34 = .ok (.aload_n 0, 1) := by decide +kernel
theorem dX7_comeBack_35 : decode cX7_comeBack 35 = .ok (.getfield 13, 3) := by decide +kernel
theorem dX7_comeBack_38 : decode cX7_comeBack 38 = .ok (.bipush 18, 2) := by decide +kernel
theorem dX7_comeBack_40 : decode cX7_comeBack 40 = .ok (.iload_n 2, 1) := by decide +kernel
theorem dX7_comeBack_41 : decode cX7_comeBack 41 = .ok (.bipush 15, 2) := by decide +kernel
theorem dX7_comeBack_43 : decode cX7_comeBack 43 = .ok (.iand, 1) := by decide +kernel
theorem dX7_comeBack_44 : decode cX7_comeBack 44 = .ok (.iastore, 1) := by decide +kernel
theorem dX7_comeBack_45 : decode cX7_comeBack 45 = .ok (.aload_n 0, 1) := by decide +kernel
theorem dX7_comeBack_46 : decode cX7_comeBack 46 = .ok (.getfield 13, 3) := by decide +kernel
theorem dX7_comeBack_49 : decode cX7_comeBack 49 = .ok (.bipush 21, 2) := by decide +kernel
theorem dX7_comeBack_51 : decode cX7_comeBack 51 = .ok (.iload_n 1, 1) := by decide +kernel
theorem dX7_comeBack_52 : decode cX7_comeBack 52 = .ok (.iastore, 1) := by decide +kernel
theorem dX7_comeBack_53 : decode cX7_comeBack 53 = .ok (.return_, 1) := by decide +kernel
theorem dX7_mark_0 : decode cX7_mark 0 = .ok (.aload_n 0, 1) := by decide +kernel
theorem dX7_mark_1 : decode cX7_mark 1 = .ok (.getfield 13, 3) := by decide +kernel
theorem dX7_mark_4 : decode cX7_mark 4 = .ok (.bipush 20, 2) := by decide +kernel
theorem dX7_mark_6 : decode cX7_mark 6 = .ok (.bipush 16, 2) := by decide +kernel
theorem dX7_mark_8 : decode cX7_mark 8 = .ok (.aload_n 0, 1) := by decide +kernel
theorem dX7_mark_9 : decode cX7_mark 9 = .ok (.getfield 13, 3) := by decide +kernel
theorem dX7_mark_12 : decode cX7_mark 12 = .ok (.bipush 19, 2) := by decide +kernel
theorem dX7_mark_14 : decode cX7_mark 14 = .ok (.iaload, 1) := by decide +kernel
theorem dX7_mark_15 : decode cX7_mark 15 = .ok (.imul, 1) := by decide +kernel
theorem dX7_mark_16 : decode cX7_mark 16 = .ok (.aload_n 0, 1) := by decide +kernel
theorem dX7_mark_17 : decode cX7_mark 17 = .ok (.getfield 13, 3) := by decide +kernel
theorem dX7_mark_20 : decode cX7_mark 20 = .ok (.bipush 18, 2) := by decide +kernel
theorem dX7_mark_22 : decode cX7_mark 22 = .ok (.iaload, 1) := by decide +kernel
theorem dX7_mark_23 : decode cX7_mark 23 = .ok (.iadd, 1) := by decide +kernel
theorem dX7_mark_24 : decode cX7_mark 24 = .ok (.iastore, 1) := by decide +kernel
theorem dX7_mark_25 : decode cX7_mark 25 = .ok (.aload_n 0, 1) := by decide +kernel
theorem dX7_mark_26 : decode cX7_mark 26 = .ok (.aload_n 0, 1) := by decide +kernel
theorem dX7_mark_27 : decode cX7_mark 27 = .ok (.getfield 13, 3) := by decide +kernel
theorem dX7_mark_30 : decode cX7_mark 30 = .ok (.iconst 2, 1) := by decide +kernel
theorem dX7_mark_31 : decode cX7_mark 31 = .ok (.iaload, 1) := by decide +kernel
theorem dX7_mark_32 : decode cX7_mark 32 = .ok (.aload_n 0, 1) := by decide +kernel
theorem dX7_mark_33 : decode cX7_mark 33 = .ok (.getfield 13, 3) := by decide +kernel
theorem dX7_mark_36 : decode cX7_mark 36 = .ok (.bipush 20, 2) := by decide +kernel
theorem dX7_mark_38 : decode cX7_mark 38 = .ok (.iaload, 1) := by decide +kernel
theorem dX7_mark_39 : decode cX7_mark 39 = .ok (.invokevirtual 79, 3) := by decide +kernel
theorem dX7_mark_42 : decode cX7_mark 42 = .ok (.aload_n 0, 1) := by decide +kernel
theorem dX7_mark_43 : decode cX7_mark 43 = .ok (.getfield 13, 3) := by decide +kernel
theorem dX7_mark_46 : decode cX7_mark 46 = .ok (.bipush 19, 2) := by decide +kernel
theorem dX7_mark_48 : decode cX7_mark 48 = .ok (.aload_n 0, 1) := by decide +kernel
theorem dX7_mark_49 : decode cX7_mark 49 = .ok (.getfield 13, 3) := by decide +kernel
theorem dX7_mark_52 : decode cX7_mark 52 = .ok (.bipush 18, 2) := by decide +kernel
theorem dX7_mark_54 : decode cX7_mark 54 = .ok (.iaload, 1) := by decide +kernel
theorem dX7_mark_55 : decode cX7_mark 55 = .ok (.iastore, 1) := by decide +kernel
theorem dX7_mark_56 : decode cX7_mark 56 = .ok (.aload_n 0, 1) := by decide +kernel
theorem dX7_mark_57 : decode cX7_mark 57 = .ok (.iconst 2, 1) := by decide +kernel
theorem dX7_mark_58 : decode cX7_mark 58 = .ok (.iconst (-1), 1) := by decide +kernel
theorem dX7_mark_59 : decode cX7_mark 59 = .ok (.invokevirtual 50, 3) := by decide +kernel
theorem dX7_mark_62 : decode cX7_mark 62 = .ok (.return_, 1) := by decide +kernel
theorem dX7_seven_0 : decode cX7_seven 0 = .ok (.iload_n 1, 1) := by decide +kernel
theorem dX7_seven_1 : decode cX7_seven 1 = .ok (.tableswitch 231 0 14 #[75, 75, 85, 118, 231, 231, 156, 231, 170, 196, 203, 203, 231, 231, 217], 75) := by decide +kernel
theorem dX7_seven_76 : decode cX7_seven 76 = .ok (.aload_n 0, 1) := by decide +kernel
theorem dX7_seven_77 : decode cX7_seven 77 = .ok (.iconst 1, 1) := by decide +kernel
theorem dX7_seven_78 : decode cX7_seven 78 = .ok (.iload_n 1, 1) := by decide +kernel
theorem dX7_seven_79 : decode cX7_seven 79 = .ok (.isub, 1) := by decide +kernel
theorem dX7_seven_80 : decode cX7_seven 80 = .ok (.invokevirtual 82, 3) := by decide +kernel
theorem dX7_seven_83 : decode cX7_seven 83 = .ok (.goto 181, 3) := by decide +kernel
theorem dX7_seven_86 : decode cX7_seven 86 = .ok (.aload_n 0, 1) := by decide +kernel
theorem dX7_seven_87 : decode cX7_seven 87 = .ok (.getfield 13, 3) := by decide +kernel
theorem dX7_seven_90 : decode cX7_seven 90 = .ok (.bipush 16, 2) := by decide +kernel
theorem dX7_seven_92 : decode cX7_seven 92 = .ok (.aload_n 0, 1) := by decide +kernel
theorem dX7_seven_93 : decode cX7_seven 93 = .ok (.aload_n 0, 1) := by decide +kernel
theorem dX7_seven_94 : decode cX7_seven 94 = .ok (.getfield 13, 3) := by decide +kernel
theorem dX7_seven_97 : decode cX7_seven 97 = .ok (.bipush 19, 2) := by decide +kernel
theorem dX7_seven_99 : decode cX7_seven 99 = .ok (.iaload, 1) := by decide +kernel
theorem dX7_seven_100 : decode cX7_seven 100 = .ok (.invokevirtual 47, 3) := by decide +kernel
theorem dX7_seven_103 : decode cX7_seven 103 = .ok (.iastore, 1) := by decide +kernel
theorem dX7_seven_104 : decode cX7_seven 104 = .ok (.aload_n 0, 1) := by decide +kernel
theorem dX7_seven_105 : decode cX7_seven 105 = .ok (.aload_n 0, 1) := by decide +kernel
theorem dX7_seven_106 : decode cX7_seven 106 = .ok (.getfield 13, 3) := by decide +kernel
theorem dX7_seven_109 : decode cX7_seven 109 = .ok (.bipush 19, 2) := by decide +kernel
theorem dX7_seven_111 : decode cX7_seven 111 = .ok (.iaload, 1) := by decide +kernel
theorem dX7_seven_112 : decode cX7_seven 112 = .ok (.iconst 1, 1) := by decide +kernel
theorem dX7_seven_113 : decode cX7_seven 113 = .ok (.invokevirtual 50, 3) := by decide +kernel
theorem dX7_seven_116 : decode cX7_seven 116 = .ok (.goto 148, 3) := by decide +kernel
theorem dX7_seven_119 : decode cX7_seven 119 = .ok (.aload_n 0, 1) := by decide +kernel
theorem dX7_seven_120 : decode cX7_seven 120 = .ok (.aload_n 0, 1) := by decide +kernel
theorem dX7_seven_121 : decode cX7_seven 121 = .ok (.getfield 13, 3) := by decide +kernel
theorem dX7_seven_124 : decode cX7_seven 124 = .ok (.aload_n 0, 1) := by decide +kernel
theorem dX7_seven_125 : decode cX7_seven 125 = .ok (.getfield 13, 3) := by decide +kernel
theorem dX7_seven_128 : decode cX7_seven 128 = .ok (.bipush 19, 2) := by decide +kernel
theorem dX7_seven_130 : decode cX7_seven 130 = .ok (.iaload, 1) := by decide +kernel
theorem dX7_seven_131 : decode cX7_seven 131 = .ok (.iaload, 1) := by decide +kernel
theorem dX7_seven_132 : decode cX7_seven 132 = .ok (.aload_n 0, 1) := by decide +kernel
theorem dX7_seven_133 : decode cX7_seven 133 = .ok (.getfield 13, 3) := by decide +kernel
theorem dX7_seven_136 : decode cX7_seven 136 = .ok (.bipush 16, 2) := by decide +kernel
theorem dX7_seven_138 : decode cX7_seven 138 = .ok (.iaload, 1) := by decide +kernel
theorem dX7_seven_139 : decode cX7_seven 139 = .ok (.invokevirtual 79, 3) := by decide +kernel
theorem dX7_seven_142 : decode cX7_seven 142 = .ok (.aload_n 0, 1) := by decide +kernel
theorem dX7_seven_143 : decode cX7_seven 143 = .ok (.aload_n 0, 1) := by decide +kernel
theorem dX7_seven_144 : decode cX7_seven 144 = .ok (.getfield 13, 3) := by decide +kernel
theorem dX7_seven_147 : decode cX7_seven 147 = .ok (.bipush 19, 2) := by decide +kernel
theorem dX7_seven_149 : decode cX7_seven 149 = .ok (.iaload, 1) := by decide +kernel
theorem dX7_seven_150 : decode cX7_seven 150 = .ok (.iconst (-1), 1) := by decide +kernel
theorem dX7_seven_151 : decode cX7_seven 151 = .ok (.invokevirtual 50, 3) := by decide +kernel
theorem dX7_seven_154 : decode cX7_seven 154 = .ok (.goto 110, 3) := by decide +kernel
theorem dX7_seven_157 : decode cX7_seven 157 = .ok (.aload_n 0, 1) := by decide +kernel
theorem dX7_seven_158 : decode cX7_seven 158 = .ok (.aload_n 0, 1) := by decide +kernel
theorem dX7_seven_159 : decode cX7_seven 159 = .ok (.getfield 13, 3) := by decide +kernel
theorem dX7_seven_162 : decode cX7_seven 162 = .ok (.bipush 17, 2) := by decide +kernel
theorem dX7_seven_164 : decode cX7_seven 164 = .ok (.iaload, 1) := by decide +kernel
theorem dX7_seven_165 : decode cX7_seven 165 = .ok (.invokevirtual 86, 3) := by decide +kernel
theorem dX7_seven_168 : decode cX7_seven 168 = .ok (.goto 96, 3) := by decide +kernel
theorem dX7_seven_171 : decode cX7_seven 171 = .ok (.aload_n 0, 1) := by decide +kernel
theorem dX7_seven_172 : decode cX7_seven 172 = .ok (.aload_n 0, 1) := by decide +kernel
theorem dX7_seven_173 : decode cX7_seven 173 = .ok (.getfield 13, 3) := by decide +kernel
theorem dX7_seven_176 : decode cX7_seven 176 = .ok (.aload_n 0, 1) := by decide +kernel
theorem dX7_seven_177 : decode cX7_seven 177 = .ok (.getfield 13, 3) := by decide +kernel
theorem dX7_seven_180 : decode cX7_seven 180 = .ok (.bipush 19, 2) := by decide +kernel
theorem dX7_seven_182 : decode cX7_seven 182 = .ok (.iaload, 1) := by decide +kernel
theorem dX7_seven_183 : decode cX7_seven 183 = .ok (.iaload, 1) := by decide +kernel
theorem dX7_seven_184 : decode cX7_seven 184 = .ok (.aload_n 0, 1) := by decide +kernel
theorem dX7_seven_185 : decode cX7_seven 185 = .ok (.getfield 13, 3) := by decide +kernel
theorem dX7_seven_188 : decode cX7_seven 188 = .ok (.bipush 20, 2) := by decide +kernel
theorem dX7_seven_190 : decode cX7_seven 190 = .ok (.iaload, 1) := by decide +kernel
theorem dX7_seven_191 : decode cX7_seven 191 = .ok (.invokevirtual 79, 3) := by decide +kernel
theorem dX7_seven_194 : decode cX7_seven 194 = .ok (.goto 70, 3) := by decide +kernel
theorem dX7_seven_197 : decode cX7_seven 197 = .ok (.aload_n 0, 1) := by decide +kernel
theorem dX7_seven_198 : decode cX7_seven 198 = .ok (.invokevirtual 89, 3) := by decide +kernel
theorem dX7_seven_201 : decode cX7_seven 201 = .ok (.goto 63, 3) := by decide +kernel
theorem dX7_seven_204 : decode cX7_seven 204 = .ok (.aload_n 0, 1) := by decide +kernel
theorem dX7_seven_205 : decode cX7_seven 205 = .ok (.getfield 13, 3) := by decide +kernel
theorem dX7_seven_208 : decode cX7_seven 208 = .ok (.bipush 22, 2) := by decide +kernel
theorem dX7_seven_210 : decode cX7_seven 210 = .ok (.iload_n 1, 1) := by decide +kernel
theorem dX7_seven_211 : decode cX7_seven 211 = .ok (.bipush 10, 2) := by decide +kernel
theorem dX7_seven_213 : decode cX7_seven 213 = .ok (.isub, 1) := by decide +kernel
theorem dX7_seven_214 : decode cX7_seven 214 = .ok (.iastore, 1) := by decide +kernel
theorem dX7_seven_215 : decode cX7_seven 215 = .ok (.goto 49, 3) := by decide +kernel
theorem dX7_seven_218 : decode cX7_seven 218 = .ok (.aload_n 0, 1) := by decide +kernel
theorem dX7_seven_219 : decode cX7_seven 219 = .ok (.aload_n 0, 1) := by decide +kernel
theorem dX7_seven_220 : decode cX7_seven 220 = .ok (.getfield 13, 3) := by decide +kernel
theorem dX7_seven_223 : decode cX7_seven 223 = .ok (.bipush 17, 2) := by decide +kernel
theorem dX7_seven_225 : decode cX7_seven 225 = .ok (.iaload, 1) := by decide +kernel
theorem dX7_seven_226 : decode cX7_seven 226 = .ok (.invokevirtual 92, 3) := by decide +kernel
theorem dX7_seven_229 : decode cX7_seven 229 = .ok (.goto 35, 3) := by decide +kernel
theorem dX7_seven_232 : decode cX7_seven 232 = .ok (.aload_n 0, 1) := by decide +kernel
theorem dX7_seven_233 : decode cX7_seven 233 = .ok (.iload_n 1, 1) := by decide +kernel
theorem dX7_seven_234 : decode cX7_seven 234 = .ok (.bipush 7, 2) := by decide +kernel
theorem dX7_seven_236 : decode cX7_seven 236 = .ok (.iand, 1) := by decide +kernel
theorem dX7_seven_237 : decode cX7_seven 237 = .ok (.iload_n 1, 1) := by decide +kernel
theorem dX7_seven_238 : decode cX7_seven 238 = .ok (.bipush 8, 2) := by decide +kernel
theorem dX7_seven_240 : decode cX7_seven 240 = .ok (.if_icmp .ge 17, 3) := by decide +kernel
theorem dX7_seven_243 : decode cX7_seven 243 = .ok (.aload_n 0, 1) := by decide +kernel
theorem dX7_seven_244 : decode cX7_seven 244 = .ok (.aload_n 0, 1) := by decide +kernel
theorem dX7_seven_245 : decode cX7_seven 245 = .ok (.getfield 13, 3) := by decide +kernel
theorem dX7_seven_248 : decode cX7_seven 248 = .ok (.bipush 19, 2) := by decide +kernel
theorem dX7_seven_250 : decode cX7_seven 250 = .ok (.iaload, 1) := by decide +kernel
theorem dX7_seven_251 : decode cX7_seven 251 = .ok (.invokevirtual 47, 3) := by decide +kernel
theorem dX7_seven_254 : decode cX7_seven 254 = .ok (.goto 7, 3) := by decide +kernel
theorem dX7_seven_257 : decode cX7_seven 257 = .ok (.aload_n 0, 1) := by decide +kernel
theorem dX7_seven_258 : decode cX7_seven 258 = .ok (.invokevirtual 95, 3) := by decide +kernel
theorem dX7_seven_261 : decode cX7_seven 261 = .ok (.invokevirtual 99, 3) := by decide +kernel
theorem dX7_seven_264 : decode cX7_seven 264 = .ok (.return_, 1) := by decide +kernel
theorem dX7_carries_0 : decode cX7_carries 0 = .ok (.iload_n 1, 1) := by decide +kernel
theorem dX7_carries_1 : decode cX7_carries 1 = .ok (.iconst 4, 1) := by decide +kernel
theorem dX7_carries_2 : decode cX7_carries 2 = .ok (.if_icmp .ne 11, 3) := by decide +kernel
theorem dX7_carries_5 : decode cX7_carries 5 = .ok (.aload_n 0, 1) := by decide +kernel
theorem dX7_carries_6 : decode cX7_carries 6 = .ok (.iload_n 2, 1) := by decide +kernel
theorem dX7_carries_7 : decode cX7_carries 7 = .ok (.invokevirtual 102, 3) := by decide +kernel
theorem dX7_carries_10 : decode cX7_carries 10 = .ok (.goto 53, 3) := by decide +kernel
theorem dX7_carries_13 : decode cX7_carries 13 = .ok (.iload_n 1, 1) := by decide +kernel
theorem dX7_carries_14 : decode cX7_carries 14 = .ok (.iconst 5, 1) := by decide +kernel
theorem dX7_carries_15 : decode cX7_carries 15 = .ok (.if_icmp .ne 27, 3) := by decide +kernel
theorem dX7_carries_18 : decode cX7_carries 18 = .ok (.aload_n 0, 1) := by decide +kernel
theorem dX7_carries_19 : decode cX7_carries 19 = .ok (.iload_n 2, 1) := by decide +kernel
theorem dX7_carries_20 : decode cX7_carries 20 = .ok (.aload_n 0, 1) := by decide +kernel
theorem dX7_carries_21 : decode cX7_carries 21 = .ok (.getfield 13, 3) := by decide +kernel
theorem dX7_carries_24 : decode cX7_carries 24 = .ok (.bipush 16, 2) := by decide +kernel
theorem dX7_carries_26 : decode cX7_carries 26 = .ok (.iaload, 1) := by decide +kernel
theorem dX7_carries_27 : decode cX7_carries 27 = .ok (.iconst 1, 1) := by decide +kernel
theorem dX7_carries_28 : decode cX7_carries 28 = .ok (.aload_n 0, 1) := by decide +kernel
theorem dX7_carries_29 : decode cX7_carries 29 = .ok (.getfield 13, 3) := by decide +kernel
theorem dX7_carries_32 : decode cX7_carries 32 = .ok (.bipush 17, 2) := by decide +kernel
theorem dX7_carries_34 : decode cX7_carries 34 = .ok (.iaload, 1) := by decide +kernel
theorem dX7_carries_35 : decode cX7_carries 35 = .ok (.isub, 1) := by decide +kernel
theorem dX7_carries_36 : decode cX7_carries 36 = .ok (.invokevirtual 105, 3) := by decide +kernel
theorem dX7_carries_39 : decode cX7_carries 39 = .ok (.goto 24, 3) := by decide +kernel
theorem dX7_carries_42 : decode cX7_carries 42 = .ok (.aload_n 0, 1) := by decide +kernel
theorem dX7_carries_43 : decode cX7_carries 43 = .ok (.aload_n 0, 1) := by decide +kernel
theorem dX7_carries_44 : decode cX7_carries 44 = .ok (.getfield 13, 3) := by decide +kernel
theorem dX7_carries_47 : decode cX7_carries 47 = .ok (.bipush 16, 2) := by decide +kernel
theorem dX7_carries_49 : decode cX7_carries 49 = .ok (.iaload, 1) := by decide +kernel
theorem dX7_carries_50 : decode cX7_carries 50 = .ok (.iload_n 2, 1) := by decide +kernel
theorem dX7_carries_51 : decode cX7_carries 51 = .ok (.iconst 1, 1) := by decide +kernel
theorem dX7_carries_52 : decode cX7_carries 52 = .ok (.aload_n 0, 1) := by decide +kernel
theorem dX7_carries_53 : decode cX7_carries 53 = .ok (.getfield 13, 3) := by decide +kernel
theorem dX7_carries_56 : decode cX7_carries 56 = .ok (.bipush 17, 2) := by decide +kernel
theorem dX7_carries_58 : decode cX7_carries 58 = .ok (.iaload, 1) := by decide +kernel
theorem dX7_carries_59 : decode cX7_carries 59 = .ok (.isub, 1) := by decide +kernel
theorem dX7_carries_60 : decode cX7_carries 60 = .ok (.invokevirtual 105, 3) := by decide +kernel
theorem dX7_carries_63 : decode cX7_carries 63 = .ok (.return_, 1) := by decide +kernel
theorem dX7_reckon_0 : decode cX7_reckon 0 = .ok (.iload_n 1, 1) := by decide +kernel
theorem dX7_reckon_1 : decode cX7_reckon 1 = .ok (.bipush 6, 2) := by decide +kernel
theorem dX7_reckon_3 : decode cX7_reckon 3 = .ok (.if_icmp .ne 9, 3) := by decide +kernel
theorem dX7_reckon_6 : decode cX7_reckon 6 = .ok (.aload_n 0, 1) := by decide +kernel
theorem dX7_reckon_7 : decode cX7_reckon 7 = .ok (.iconst 0, 1) := by decide +kernel
theorem dX7_reckon_8 : decode cX7_reckon 8 = .ok (.invokevirtual 86, 3) := by decide +kernel
theorem dX7_reckon_11 : decode cX7_reckon 11 = .ok (.return_, 1) := by decide +kernel
theorem dX7_reckon_12 : decode cX7_reckon 12 = .ok (.iload_n 1, 1) := by decide +kernel
theorem dX7_reckon_13 : decode cX7_reckon 13 = .ok (.bipush 14, 2) := by decide +kernel
theorem dX7_reckon_15 : decode cX7_reckon 15 = .ok (.if_icmp .ne 9, 3) := by decide +kernel
theorem dX7_reckon_18 : decode cX7_reckon 18 = .ok (.aload_n 0, 1) := by decide +kernel
theorem dX7_reckon_19 : decode cX7_reckon 19 = .ok (.iconst 0, 1) := by decide +kernel
theorem dX7_reckon_20 : decode cX7_reckon 20 = .ok (.invokevirtual 92, 3) := by decide +kernel
theorem dX7_reckon_23 : decode cX7_reckon 23 = .ok (.return_, 1) := by decide +kernel
theorem dX7_reckon_24 : decode cX7_reckon 24 = .ok (.iload_n 1, 1) := by decide +kernel
theorem dX7_reckon_25 : decode cX7_reckon 25 = .ok (.bipush 8, 2) := by decide +kernel
theorem dX7_reckon_27 : decode cX7_reckon 27 = .ok (.if_icmp .ge 17, 3) := by decide +kernel
theorem dX7_reckon_30 : decode cX7_reckon 30 = .ok (.aload_n 0, 1) := by decide +kernel
theorem dX7_reckon_31 : decode cX7_reckon 31 = .ok (.aload_n 0, 1) := by decide +kernel
theorem dX7_reckon_32 : decode cX7_reckon 32 = .ok (.getfield 13, 3) := by decide +kernel
theorem dX7_reckon_35 : decode cX7_reckon 35 = .ok (.bipush 19, 2) := by decide +kernel
theorem dX7_reckon_37 : decode cX7_reckon 37 = .ok (.iaload, 1) := by decide +kernel
theorem dX7_reckon_38 : decode cX7_reckon 38 = .ok (.invokevirtual 47, 3) := by decide +kernel
theorem dX7_reckon_41 : decode cX7_reckon 41 = .ok (.goto 7, 3) := by decide +kernel
theorem dX7_reckon_44 : decode cX7_reckon 44 = .ok (.aload_n 0, 1) := by decide +kernel
theorem dX7_reckon_45 : decode cX7_reckon 45 = .ok (.invokevirtual 95, 3) := by decide +kernel
theorem dX7_reckon_48 : decode cX7_reckon 48 = .ok (.istore_n 2, 1) := by decide +kernel
theorem dX7_reckon_49 : decode cX7_reckon 49 = .ok (.iload_n 1, 1) := by decide +kernel
theorem dX7_reckon_50 : decode cX7_reckon 50 = .ok (.bipush 7, 2) := by decide +kernel
theorem dX7_reckon_52 : decode cX7_reckon 52 = .ok (.iand, 1) := by decide +kernel
theorem dX7_reckon_53 : decode cX7_reckon 53 = .ok (.tableswitch 123 0 5 #[39, 50, 64, 78, 92, 107], 39) := by decide +kernel
theorem dX7_reckon_92 : decode cX7_reckon 92 = .ok (.aload_n 0, 1) := by decide +kernel
theorem dX7_reckon_93 : decode cX7_reckon 93 = .ok (.getfield 13, 3) := by decide +kernel
theorem dX7_reckon_96 : decode cX7_reckon 96 = .ok (.bipush 16, 2) := by decide +kernel
theorem dX7_reckon_98 : decode cX7_reckon 98 = .ok (.iload_n 2, 1) := by decide +kernel
theorem dX7_reckon_99 : decode cX7_reckon 99 = .ok (.iastore, 1) := by decide +kernel
theorem dX7_reckon_100 : decode cX7_reckon 100 = .ok (.goto 89, 3) := by decide +kernel
theorem dX7_reckon_103 : decode cX7_reckon 103 = .ok (.aload_n 0, 1) := by decide +kernel
theorem dX7_reckon_104 : decode cX7_reckon 104 = .ok (.getfield 13, 3) := by decide +kernel
theorem dX7_reckon_107 : decode cX7_reckon 107 = .ok (.bipush 16, 2) := by decide +kernel
theorem dX7_reckon_109 : decode cX7_reckon 109 = .ok (.dup2, 1) := by decide +kernel
theorem dX7_reckon_110 : decode cX7_reckon 110 = .ok (.iaload, 1) := by decide +kernel
theorem dX7_reckon_111 : decode cX7_reckon 111 = .ok (.iload_n 2, 1) := by decide +kernel
theorem dX7_reckon_112 : decode cX7_reckon 112 = .ok (.ior, 1) := by decide +kernel
theorem dX7_reckon_113 : decode cX7_reckon 113 = .ok (.iastore, 1) := by decide +kernel
theorem dX7_reckon_114 : decode cX7_reckon 114 = .ok (.goto 75, 3) := by decide +kernel
theorem dX7_reckon_117 : decode cX7_reckon 117 = .ok (.aload_n 0, 1) := by decide +kernel
theorem dX7_reckon_118 : decode cX7_reckon 118 = .ok (.getfield 13, 3) := by decide +kernel
theorem dX7_reckon_121 : decode cX7_reckon 121 = .ok (.bipush 16, 2) := by decide +kernel
theorem dX7_reckon_123 : decode cX7_reckon 123 = .ok (.dup2, 1) := by decide +kernel
theorem dX7_reckon_124 : decode cX7_reckon 124 = .ok (.iaload, 1) := by decide +kernel
theorem dX7_reckon_125 : decode cX7_reckon 125 = .ok (.iload_n 2, 1) := by decide +kernel
theorem dX7_reckon_126 : decode cX7_reckon 126 = .ok (.iand, 1) := by decide +kernel
theorem dX7_reckon_127 : decode cX7_reckon 127 = .ok (.iastore, 1) := by decide +kernel
theorem dX7_reckon_128 : decode cX7_reckon 128 = .ok (.goto 61, 3) := by decide +kernel
theorem dX7_reckon_131 : decode cX7_reckon 131 = .ok (.aload_n 0, 1) := by decide +kernel
theorem dX7_reckon_132 : decode cX7_reckon 132 = .ok (.getfield 13, 3) := by decide +kernel
theorem dX7_reckon_135 : decode cX7_reckon 135 = .ok (.bipush 16, 2) := by decide +kernel
theorem dX7_reckon_137 : decode cX7_reckon 137 = .ok (.dup2, 1) := by decide +kernel
theorem dX7_reckon_138 : decode cX7_reckon 138 = .ok (.iaload, 1) := by decide +kernel
theorem dX7_reckon_139 : decode cX7_reckon 139 = .ok (.iload_n 2, 1) := by decide +kernel
theorem dX7_reckon_140 : decode cX7_reckon 140 = .ok (.ixor, 1) := by decide +kernel
theorem dX7_reckon_141 : decode cX7_reckon 141 = .ok (.iastore, 1) := by decide +kernel
theorem dX7_reckon_142 : decode cX7_reckon 142 = .ok (.goto 47, 3) := by decide +kernel
theorem dX7_reckon_145 : decode cX7_reckon 145 = .ok (.aload_n 0, 1) := by decide +kernel
theorem dX7_reckon_146 : decode cX7_reckon 146 = .ok (.iload_n 2, 1) := by decide +kernel
theorem dX7_reckon_147 : decode cX7_reckon 147 = .ok (.aload_n 0, 1) := by decide +kernel
theorem dX7_reckon_148 : decode cX7_reckon 148 = .ok (.getfield 13, 3) := by decide +kernel
theorem dX7_reckon_151 : decode cX7_reckon 151 = .ok (.bipush 16, 2) := by decide +kernel
theorem dX7_reckon_153 : decode cX7_reckon 153 = .ok (.iaload, 1) := by decide +kernel
theorem dX7_reckon_154 : decode cX7_reckon 154 = .ok (.invokevirtual 109, 3) := by decide +kernel
theorem dX7_reckon_157 : decode cX7_reckon 157 = .ok (.goto 32, 3) := by decide +kernel
theorem dX7_reckon_160 : decode cX7_reckon 160 = .ok (.aload_n 0, 1) := by decide +kernel
theorem dX7_reckon_161 : decode cX7_reckon 161 = .ok (.iload_n 2, 1) := by decide +kernel
theorem dX7_reckon_162 : decode cX7_reckon 162 = .ok (.aload_n 0, 1) := by decide +kernel
theorem dX7_reckon_163 : decode cX7_reckon 163 = .ok (.getfield 13, 3) := by decide +kernel
theorem dX7_reckon_166 : decode cX7_reckon 166 = .ok (.bipush 16, 2) := by decide +kernel
theorem dX7_reckon_168 : decode cX7_reckon 168 = .ok (.iaload, 1) := by decide +kernel
theorem dX7_reckon_169 : decode cX7_reckon 169 = .ok (.iconst 0, 1) := by decide +kernel
theorem dX7_reckon_170 : decode cX7_reckon 170 = .ok (.invokevirtual 105, 3) := by decide +kernel
theorem dX7_reckon_173 : decode cX7_reckon 173 = .ok (.goto 16, 3) := by decide +kernel
theorem dX7_reckon_176 : decode cX7_reckon 176 = .ok (.aload_n 0, 1) := by decide +kernel
theorem dX7_reckon_177 : decode cX7_reckon 177 = .ok (.aload_n 0, 1) := by decide +kernel
theorem dX7_reckon_178 : decode cX7_reckon 178 = .ok (.getfield 13, 3) := by decide +kernel
theorem dX7_reckon_181 : decode cX7_reckon 181 = .ok (.bipush 16, 2) := by decide +kernel
theorem dX7_reckon_183 : decode cX7_reckon 183 = .ok (.iaload, 1) := by decide +kernel
theorem dX7_reckon_184 : decode cX7_reckon 184 = .ok (.iload_n 2, 1) := by decide +kernel
theorem dX7_reckon_185 : decode cX7_reckon 185 = .ok (.iconst 0, 1) := by decide +kernel
theorem dX7_reckon_186 : decode cX7_reckon 186 = .ok (.invokevirtual 105, 3) := by decide +kernel
theorem dX7_reckon_189 : decode cX7_reckon 189 = .ok (.return_, 1) := by decide +kernel
theorem dX7_moves_0 : decode cX7_moves 0 = .ok (.iload_n 1, 1) := by decide +kernel
theorem dX7_moves_1 : decode cX7_moves 1 = .ok (.tableswitch 215 1 14 #[71, 80, 215, 215, 89, 215, 215, 109, 129, 148, 163, 215, 193, 204], 71) := by decide +kernel
theorem dX7_moves_72 : decode cX7_moves 72 = .ok (.aload_n 0, 1) := by decide +kernel
theorem dX7_moves_73 : decode cX7_moves 73 = .ok (.iload_n 2, 1) := by decide +kernel
theorem dX7_moves_74 : decode cX7_moves 74 = .ok (.iconst 1, 1) := by decide +kernel
theorem dX7_moves_75 : decode cX7_moves 75 = .ok (.invokevirtual 50, 3) := by decide +kernel
theorem dX7_moves_78 : decode cX7_moves 78 = .ok (.goto 161, 3) := by decide +kernel
theorem dX7_moves_81 : decode cX7_moves 81 = .ok (.aload_n 0, 1) := by decide +kernel
theorem dX7_moves_82 : decode cX7_moves 82 = .ok (.iload_n 2, 1) := by decide +kernel
theorem dX7_moves_83 : decode cX7_moves 83 = .ok (.iconst (-1), 1) := by decide +kernel
theorem dX7_moves_84 : decode cX7_moves 84 = .ok (.invokevirtual 50, 3) := by decide +kernel
theorem dX7_moves_87 : decode cX7_moves 87 = .ok (.goto 152, 3) := by decide +kernel
theorem dX7_moves_90 : decode cX7_moves 90 = .ok (.aload_n 0, 1) := by decide +kernel
theorem dX7_moves_91 : decode cX7_moves 91 = .ok (.aload_n 0, 1) := by decide +kernel
theorem dX7_moves_92 : decode cX7_moves 92 = .ok (.getfield 13, 3) := by decide +kernel
theorem dX7_moves_95 : decode cX7_moves 95 = .ok (.iload_n 2, 1) := by decide +kernel
theorem dX7_moves_96 : decode cX7_moves 96 = .ok (.iaload, 1) := by decide +kernel
theorem dX7_moves_97 : decode cX7_moves 97 = .ok (.aload_n 0, 1) := by decide +kernel
theorem dX7_moves_98 : decode cX7_moves 98 = .ok (.getfield 13, 3) := by decide +kernel
theorem dX7_moves_101 : decode cX7_moves 101 = .ok (.bipush 16, 2) := by decide +kernel
theorem dX7_moves_103 : decode cX7_moves 103 = .ok (.iaload, 1) := by decide +kernel
theorem dX7_moves_104 : decode cX7_moves 104 = .ok (.invokevirtual 79, 3) := by decide +kernel
theorem dX7_moves_107 : decode cX7_moves 107 = .ok (.goto 132, 3) := by decide +kernel
theorem dX7_moves_110 : decode cX7_moves 110 = .ok (.aload_n 0, 1) := by decide +kernel
theorem dX7_moves_111 : decode cX7_moves 111 = .ok (.getfield 13, 3) := by decide +kernel
theorem dX7_moves_114 : decode cX7_moves 114 = .ok (.bipush 16, 2) := by decide +kernel
theorem dX7_moves_116 : decode cX7_moves 116 = .ok (.aload_n 0, 1) := by decide +kernel
theorem dX7_moves_117 : decode cX7_moves 117 = .ok (.getfield 13, 3) := by decide +kernel
theorem dX7_moves_120 : decode cX7_moves 120 = .ok (.iload_n 2, 1) := by decide +kernel
theorem dX7_moves_121 : decode cX7_moves 121 = .ok (.iaload, 1) := by decide +kernel
theorem dX7_moves_122 : decode cX7_moves 122 = .ok (.sipush 255, 3) := by decide +kernel
theorem dX7_moves_125 : decode cX7_moves 125 = .ok (.iand, 1) := by decide +kernel
theorem dX7_moves_126 : decode cX7_moves 126 = .ok (.iastore, 1) := by decide +kernel
theorem dX7_moves_127 : decode cX7_moves 127 = .ok (.goto 112, 3) := by decide +kernel
theorem dX7_moves_130 : decode cX7_moves 130 = .ok (.aload_n 0, 1) := by decide +kernel
theorem dX7_moves_131 : decode cX7_moves 131 = .ok (.getfield 13, 3) := by decide +kernel
theorem dX7_moves_134 : decode cX7_moves 134 = .ok (.bipush 16, 2) := by decide +kernel
theorem dX7_moves_136 : decode cX7_moves 136 = .ok (.aload_n 0, 1) := by decide +kernel
theorem dX7_moves_137 : decode cX7_moves 137 = .ok (.getfield 13, 3) := by decide +kernel
theorem dX7_moves_140 : decode cX7_moves 140 = .ok (.iload_n 2, 1) := by decide +kernel
theorem dX7_moves_141 : decode cX7_moves 141 = .ok (.iaload, 1) := by decide +kernel
theorem dX7_moves_142 : decode cX7_moves 142 = .ok (.bipush 8, 2) := by decide +kernel
theorem dX7_moves_144 : decode cX7_moves 144 = .ok (.ishr, 1) := by decide +kernel
theorem dX7_moves_145 : decode cX7_moves 145 = .ok (.iastore, 1) := by decide +kernel
theorem dX7_moves_146 : decode cX7_moves 146 = .ok (.goto 93, 3) := by decide +kernel
theorem dX7_moves_149 : decode cX7_moves 149 = .ok (.aload_n 0, 1) := by decide +kernel
theorem dX7_moves_150 : decode cX7_moves 150 = .ok (.iload_n 2, 1) := by decide +kernel
theorem dX7_moves_151 : decode cX7_moves 151 = .ok (.aload_n 0, 1) := by decide +kernel
theorem dX7_moves_152 : decode cX7_moves 152 = .ok (.getfield 13, 3) := by decide +kernel
theorem dX7_moves_155 : decode cX7_moves 155 = .ok (.bipush 16, 2) := by decide +kernel
theorem dX7_moves_157 : decode cX7_moves 157 = .ok (.iaload, 1) := by decide +kernel
theorem dX7_moves_158 : decode cX7_moves 158 = .ok (.invokevirtual 73, 3) := by decide +kernel
theorem dX7_moves_161 : decode cX7_moves 161 = .ok (.goto 78, 3) := by decide +kernel
theorem dX7_moves_164 : decode cX7_moves 164 = .ok (.aload_n 0, 1) := by decide +kernel
theorem dX7_moves_165 : decode cX7_moves 165 = .ok (.getfield 13, 3) := by decide +kernel
theorem dX7_moves_168 : decode cX7_moves 168 = .ok (.iload_n 2, 1) := by decide +kernel
theorem dX7_moves_169 : decode cX7_moves 169 = .ok (.aload_n 0, 1) := by decide +kernel
theorem dX7_moves_170 : decode cX7_moves 170 = .ok (.getfield 13, 3) := by decide +kernel
theorem dX7_moves_173 : decode cX7_moves 173 = .ok (.bipush 16, 2) := by decide +kernel
theorem dX7_moves_175 : decode cX7_moves 175 = .ok (.iaload, 1) := by decide +kernel
theorem dX7_moves_176 : decode cX7_moves 176 = .ok (.bipush 8, 2) := by decide +kernel
theorem dX7_moves_178 : decode cX7_moves 178 = .ok (.ishl, 1) := by decide +kernel
theorem dX7_moves_179 : decode cX7_moves 179 = .ok (.aload_n 0, 1) := by decide +kernel
theorem dX7_moves_180 : decode cX7_moves 180 = .ok (.getfield 13, 3) := by decide +kernel
theorem dX7_moves_183 : decode cX7_moves 183 = .ok (.iload_n 2, 1) := by decide +kernel
theorem dX7_moves_184 : decode cX7_moves 184 = .ok (.iaload, 1) := by decide +kernel
theorem dX7_moves_185 : decode cX7_moves 185 = .ok (.sipush 255, 3) := by decide +kernel
theorem dX7_moves_188 : decode cX7_moves 188 = .ok (.iand, 1) := by decide +kernel
theorem dX7_moves_189 : decode cX7_moves 189 = .ok (.ior, 1) := by decide +kernel
theorem dX7_moves_190 : decode cX7_moves 190 = .ok (.iastore, 1) := by decide +kernel
theorem dX7_moves_191 : decode cX7_moves 191 = .ok (.goto 48, 3) := by decide +kernel
theorem dX7_moves_194 : decode cX7_moves 194 = .ok (.aload_n 0, 1) := by decide +kernel
theorem dX7_moves_195 : decode cX7_moves 195 = .ok (.getfield 13, 3) := by decide +kernel
theorem dX7_moves_198 : decode cX7_moves 198 = .ok (.bipush 18, 2) := by decide +kernel
theorem dX7_moves_200 : decode cX7_moves 200 = .ok (.iload_n 2, 1) := by decide +kernel
theorem dX7_moves_201 : decode cX7_moves 201 = .ok (.iastore, 1) := by decide +kernel
theorem dX7_moves_202 : decode cX7_moves 202 = .ok (.goto 37, 3) := by decide +kernel
theorem dX7_moves_205 : decode cX7_moves 205 = .ok (.aload_n 0, 1) := by decide +kernel
theorem dX7_moves_206 : decode cX7_moves 206 = .ok (.getfield 13, 3) := by decide +kernel
theorem dX7_moves_209 : decode cX7_moves 209 = .ok (.bipush 19, 2) := by decide +kernel
theorem dX7_moves_211 : decode cX7_moves 211 = .ok (.iload_n 2, 1) := by decide +kernel
theorem dX7_moves_212 : decode cX7_moves 212 = .ok (.iastore, 1) := by decide +kernel
theorem dX7_moves_213 : decode cX7_moves 213 = .ok (.goto 26, 3) := by decide +kernel
theorem dX7_moves_216 : decode cX7_moves 216 = .ok (.aload_n 0, 1) := by decide +kernel
theorem dX7_moves_217 : decode cX7_moves 217 = .ok (.getfield 13, 3) := by decide +kernel
theorem dX7_moves_220 : decode cX7_moves 220 = .ok (.bipush 16, 2) := by decide +kernel
theorem dX7_moves_222 : decode cX7_moves 222 = .ok (.aload_n 0, 1) := by decide +kernel
theorem dX7_moves_223 : decode cX7_moves 223 = .ok (.iload_n 2, 1) := by decide +kernel
theorem dX7_moves_224 : decode cX7_moves 224 = .ok (.invokevirtual 47, 3) := by decide +kernel
theorem dX7_moves_227 : decode cX7_moves 227 = .ok (.iastore, 1) := by decide +kernel
theorem dX7_moves_228 : decode cX7_moves 228 = .ok (.iload_n 1, 1) := by decide +kernel
theorem dX7_moves_229 : decode cX7_moves 229 = .ok (.iconst 4, 1) := by decide +kernel
theorem dX7_moves_230 : decode cX7_moves 230 = .ok (.if_icmp .ne 9, 3) := by decide +kernel
theorem dX7_moves_233 : decode cX7_moves 233 = .ok (.aload_n 0, 1) := by decide +kernel
theorem dX7_moves_234 : decode cX7_moves 234 = .ok (.iload_n 2, 1) := by decide +kernel
theorem dX7_moves_235 : decode cX7_moves 235 = .ok (.iconst 1, 1) := by decide +kernel
theorem dX7_moves_236 : decode cX7_moves 236 = .ok (.invokevirtual 50, 3) := by decide +kernel
theorem dX7_moves_239 : decode cX7_moves 239 = .ok (.return_, 1) := by decide +kernel
theorem dX7_instruction_0 : decode cX7_instruction 0 = .ok (.aload_n 0, 1) := by decide +kernel
theorem dX7_instruction_1 : decode cX7_instruction 1 = .ok (.getfield 13, 3) := by decide +kernel
theorem dX7_instruction_4 : decode cX7_instruction 4 = .ok (.bipush 23, 2) := by decide +kernel
theorem dX7_instruction_6 : decode cX7_instruction 6 = .ok (.iaload, 1) := by decide +kernel
theorem dX7_instruction_7 : decode cX7_instruction 7 = .ok (.iconst 1, 1) := by decide +kernel
theorem dX7_instruction_8 : decode cX7_instruction 8 = .ok (.if_icmp .ne 5, 3) := by decide +kernel
theorem dX7_instruction_11 : decode cX7_instruction 11 = .ok (.iconst 1, 1) := by decide +kernel
theorem dX7_instruction_12 : decode cX7_instruction 12 = .ok (.ireturn, 1) := by decide +kernel
theorem dX7_instruction_13 : decode cX7_instruction 13 = .ok (.aload_n 0, 1) := by decide +kernel
theorem dX7_instruction_14 : decode cX7_instruction 14 = .ok (.invokevirtual 95, 3) := by decide +kernel
theorem dX7_instruction_17 : decode cX7_instruction 17 = .ok (.istore_n 1, 1) := by decide +kernel
theorem dX7_instruction_18 : decode cX7_instruction 18 = .ok (.iload_n 1, 1) := by decide +kernel
theorem dX7_instruction_19 : decode cX7_instruction 19 = .ok (.iconst 4, 1) := by decide +kernel
theorem dX7_instruction_20 : decode cX7_instruction 20 = .ok (.ishr, 1) := by decide +kernel
theorem dX7_instruction_21 : decode cX7_instruction 21 = .ok (.istore_n 2, 1) := by decide +kernel
theorem dX7_instruction_22 : decode cX7_instruction 22 = .ok (.iload_n 1, 1) := by decide +kernel
theorem dX7_instruction_23 : decode cX7_instruction 23 = .ok (.bipush 15, 2) := by decide +kernel
theorem dX7_instruction_25 : decode cX7_instruction 25 = .ok (.iand, 1) := by decide +kernel
theorem dX7_instruction_26 : decode cX7_instruction 26 = .ok (.istore_n 3, 1) := by decide +kernel
theorem dX7_instruction_27 : decode cX7_instruction 27 = .ok (.iload_n 1, 1) := by decide +kernel
theorem dX7_instruction_28 : decode cX7_instruction 28 = .ok (.ifCond .ne 14, 3) := by decide +kernel
theorem dX7_instruction_31 : decode cX7_instruction 31 = .ok (.aload_n 0, 1) := by decide +kernel
theorem dX7_instruction_32 : decode cX7_instruction 32 = .ok (.getfield 13, 3) := by decide +kernel
theorem dX7_instruction_35 : decode cX7_instruction 35 = .ok (.bipush 23, 2) := by decide +kernel
theorem dX7_instruction_37 : decode cX7_instruction 37 = .ok (.iconst 1, 1) := by decide +kernel
theorem dX7_instruction_38 : decode cX7_instruction 38 = .ok (.iastore, 1) := by decide +kernel
theorem dX7_instruction_39 : decode cX7_instruction 39 = .ok (.goto 103, 3) := by decide +kernel
theorem dX7_instruction_42 : decode cX7_instruction 42 = .ok (.iload_n 2, 1) := by decide +kernel
theorem dX7_instruction_43 : decode cX7_instruction 43 = .ok (.iconst 3, 1) := by decide +kernel
theorem dX7_instruction_44 : decode cX7_instruction 44 = .ok (.if_icmp .ne 11, 3) := by decide +kernel
theorem dX7_instruction_47 : decode cX7_instruction 47 = .ok (.aload_n 0, 1) := by decide +kernel
theorem dX7_instruction_48 : decode cX7_instruction 48 = .ok (.iload_n 3, 1) := by decide +kernel
theorem dX7_instruction_49 : decode cX7_instruction 49 = .ok (.invokevirtual 112, 3) := by decide +kernel
theorem dX7_instruction_52 : decode cX7_instruction 52 = .ok (.goto 90, 3) := by decide +kernel
theorem dX7_instruction_55 : decode cX7_instruction 55 = .ok (.iload_n 2, 1) := by decide +kernel
theorem dX7_instruction_56 : decode cX7_instruction 56 = .ok (.bipush 6, 2) := by decide +kernel
theorem dX7_instruction_58 : decode cX7_instruction 58 = .ok (.if_icmp .ne 22, 3) := by decide +kernel
theorem dX7_instruction_61 : decode cX7_instruction 61 = .ok (.iload_n 3, 1) := by decide +kernel
theorem dX7_instruction_62 : decode cX7_instruction 62 = .ok (.ifCond .ne 18, 3) := by decide +kernel
theorem dX7_instruction_65 : decode cX7_instruction 65 = .ok (.aload_n 0, 1) := by decide +kernel
theorem dX7_instruction_66 : decode cX7_instruction 66 = .ok (.aload_n 0, 1) := by decide +kernel
theorem dX7_instruction_67 : decode cX7_instruction 67 = .ok (.getfield 13, 3) := by decide +kernel
theorem dX7_instruction_70 : decode cX7_instruction 70 = .ok (.bipush 19, 2) := by decide +kernel
theorem dX7_instruction_72 : decode cX7_instruction 72 = .ok (.iaload, 1) := by decide +kernel
theorem dX7_instruction_73 : decode cX7_instruction 73 = .ok (.iconst 1, 1) := by decide +kernel
theorem dX7_instruction_74 : decode cX7_instruction 74 = .ok (.invokevirtual 50, 3) := by decide +kernel
theorem dX7_instruction_77 : decode cX7_instruction 77 = .ok (.goto 65, 3) := by decide +kernel
theorem dX7_instruction_80 : decode cX7_instruction 80 = .ok (.iload_n 2, 1) := by decide +kernel
theorem dX7_instruction_81 : decode cX7_instruction 81 = .ok (.bipush 6, 2) := by decide +kernel
theorem dX7_instruction_83 : decode cX7_instruction 83 = .ok (.if_icmp .ne 11, 3) := by decide +kernel
theorem dX7_instruction_86 : decode cX7_instruction 86 = .ok (.aload_n 0, 1) := by decide +kernel
theorem dX7_instruction_87 : decode cX7_instruction 87 = .ok (.iload_n 3, 1) := by decide +kernel
theorem dX7_instruction_88 : decode cX7_instruction 88 = .ok (.invokevirtual 115, 3) := by decide +kernel
theorem dX7_instruction_91 : decode cX7_instruction 91 = .ok (.goto 51, 3) := by decide +kernel
theorem dX7_instruction_94 : decode cX7_instruction 94 = .ok (.iload_n 2, 1) := by decide +kernel
theorem dX7_instruction_95 : decode cX7_instruction 95 = .ok (.bipush 7, 2) := by decide +kernel
theorem dX7_instruction_97 : decode cX7_instruction 97 = .ok (.if_icmp .ne 11, 3) := by decide +kernel
theorem dX7_instruction_100 : decode cX7_instruction 100 = .ok (.aload_n 0, 1) := by decide +kernel
theorem dX7_instruction_101 : decode cX7_instruction 101 = .ok (.iload_n 3, 1) := by decide +kernel
theorem dX7_instruction_102 : decode cX7_instruction 102 = .ok (.invokevirtual 118, 3) := by decide +kernel
theorem dX7_instruction_105 : decode cX7_instruction 105 = .ok (.goto 37, 3) := by decide +kernel
theorem dX7_instruction_108 : decode cX7_instruction 108 = .ok (.iload_n 2, 1) := by decide +kernel
theorem dX7_instruction_109 : decode cX7_instruction 109 = .ok (.bipush 12, 2) := by decide +kernel
theorem dX7_instruction_111 : decode cX7_instruction 111 = .ok (.if_icmp .ne 11, 3) := by decide +kernel
theorem dX7_instruction_114 : decode cX7_instruction 114 = .ok (.aload_n 0, 1) := by decide +kernel
theorem dX7_instruction_115 : decode cX7_instruction 115 = .ok (.iload_n 3, 1) := by decide +kernel
theorem dX7_instruction_116 : decode cX7_instruction 116 = .ok (.invokevirtual 121, 3) := by decide +kernel
theorem dX7_instruction_119 : decode cX7_instruction 119 = .ok (.goto 23, 3) := by decide +kernel
theorem dX7_instruction_122 : decode cX7_instruction 122 = .ok (.iload_n 2, 1) := by decide +kernel
theorem dX7_instruction_123 : decode cX7_instruction 123 = .ok (.bipush 15, 2) := by decide +kernel
theorem dX7_instruction_125 : decode cX7_instruction 125 = .ok (.if_icmp .ne 11, 3) := by decide +kernel
theorem dX7_instruction_128 : decode cX7_instruction 128 = .ok (.aload_n 0, 1) := by decide +kernel
theorem dX7_instruction_129 : decode cX7_instruction 129 = .ok (.iload_n 3, 1) := by decide +kernel
theorem dX7_instruction_130 : decode cX7_instruction 130 = .ok (.invokevirtual 124, 3) := by decide +kernel
theorem dX7_instruction_133 : decode cX7_instruction 133 = .ok (.goto 9, 3) := by decide +kernel
theorem dX7_instruction_136 : decode cX7_instruction 136 = .ok (.aload_n 0, 1) := by decide +kernel
theorem dX7_instruction_137 : decode cX7_instruction 137 = .ok (.iload_n 2, 1) := by decide +kernel
theorem dX7_instruction_138 : decode cX7_instruction 138 = .ok (.iload_n 3, 1) := by decide +kernel
theorem dX7_instruction_139 : decode cX7_instruction 139 = .ok (.invokevirtual 127, 3) := by decide +kernel
theorem dX7_instruction_142 : decode cX7_instruction 142 = .ok (.iload_n 2, 1) := by decide +kernel
theorem dX7_instruction_143 : decode cX7_instruction 143 = .ok (.bipush 12, 2) := by decide +kernel
theorem dX7_instruction_145 : decode cX7_instruction 145 = .ok (.if_icmp .ne 7, 3) := by decide +kernel
theorem dX7_instruction_148 : decode cX7_instruction 148 = .ok (.iconst 3, 1) := by decide +kernel
theorem dX7_instruction_149 : decode cX7_instruction 149 = .ok (.goto 4, 3) := by decide +kernel
theorem dX7_instruction_152 : decode cX7_instruction 152 = .ok (.iconst 2, 1) := by decide +kernel
theorem dX7_instruction_153 : decode cX7_instruction 153 = .ok (.ireturn, 1) := by decide +kernel
theorem dX7_cycle_0 : decode cX7_cycle 0 = .ok (.aload_n 0, 1) := by decide +kernel
theorem dX7_cycle_1 : decode cX7_cycle 1 = .ok (.dup, 1) := by decide +kernel
theorem dX7_cycle_2 : decode cX7_cycle 2 = .ok (.getfield 130, 3) := by decide +kernel
theorem dX7_cycle_5 : decode cX7_cycle 5 = .ok (.iconst 1, 1) := by decide +kernel
theorem dX7_cycle_6 : decode cX7_cycle 6 = .ok (.iadd, 1) := by decide +kernel
theorem dX7_cycle_7 : decode cX7_cycle 7 = .ok (.putfield 130, 3) := by decide +kernel
theorem dX7_cycle_10 : decode cX7_cycle 10 = .ok (.aload_n 0, 1) := by decide +kernel
theorem dX7_cycle_11 : decode cX7_cycle 11 = .ok (.getfield 130, 3) := by decide +kernel
theorem dX7_cycle_14 : decode cX7_cycle 14 = .ok (.bipush 14, 2) := by decide +kernel
theorem dX7_cycle_16 : decode cX7_cycle 16 = .ok (.if_icmp .ge 4, 3) := by decide +kernel
theorem dX7_cycle_19 : decode cX7_cycle 19 = .ok (.return_, 1) := by decide +kernel
theorem dX7_cycle_20 : decode cX7_cycle 20 = .ok (.aload_n 0, 1) := by decide +kernel
theorem dX7_cycle_21 : decode cX7_cycle 21 = .ok (.iconst 0, 1) := by decide +kernel
theorem dX7_cycle_22 : decode cX7_cycle 22 = .ok (.putfield 130, 3) := by decide +kernel
theorem dX7_cycle_25 : decode cX7_cycle 25 = .ok (.aload_n 0, 1) := by decide +kernel
theorem dX7_cycle_26 : decode cX7_cycle 26 = .ok (.iconst 0, 1) := by decide +kernel
theorem dX7_cycle_27 : decode cX7_cycle 27 = .ok (.putfield 133, 3) := by decide +kernel
theorem dX7_cycle_30 : decode cX7_cycle 30 = .ok (.aload_n 0, 1) := by decide +kernel
theorem dX7_cycle_31 : decode cX7_cycle 31 = .ok (.dup, 1) := by decide +kernel
theorem dX7_cycle_32 : decode cX7_cycle 32 = .ok (.getfield 59, 3) := by decide +kernel
theorem dX7_cycle_35 : decode cX7_cycle 35 = .ok (.iconst 1, 1) := by decide +kernel
theorem dX7_cycle_36 : decode cX7_cycle 36 = .ok (.iadd, 1) := by decide +kernel
theorem dX7_cycle_37 : decode cX7_cycle 37 = .ok (.putfield 59, 3) := by decide +kernel
