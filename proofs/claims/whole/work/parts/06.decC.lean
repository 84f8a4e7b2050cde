theorem dX4_init_0 : decode cX4_init 0 = .ok (.aload_n 0, 1) := by decide +kernel
theorem dX4_init_1 : decode cX4_init 1 = .ok (.invokespecial 1, 3) := by decide +kernel
theorem dX4_init_4 : decode cX4_init 4 = .ok (.aload_n 0, 1) := by decide +kernel
theorem dX4_init_5 : decode cX4_init 5 = .ok (.bipush 16, 2) := by decide +kernel
theorem dX4_init_7 : decode cX4_init 7 = .ok (.newarray .int, 2) := by decide +kernel
theorem dX4_init_9 : decode cX4_init 9 = .ok (.putfield 9, 3) := by decide +kernel
theorem dX4_init_12 : decode cX4_init 12 = .ok (.aload_n 0, 1) := by decide +kernel
theorem dX4_init_13 : decode cX4_init 13 = .ok (.iconst 1, 1) := by decide +kernel
theorem dX4_init_14 : decode cX4_init 14 = .ok (.putfield 13, 3) := by decide +kernel
theorem dX4_init_17 : decode cX4_init 17 = .ok (.aload_n 0, 1) := by decide +kernel
theorem dX4_init_18 : decode cX4_init 18 = .ok (.aload_n 1, 1) := by decide +kernel
theorem dX4_init_19 : decode cX4_init 19 = .ok (.putfield 17, 3) := by decide +kernel
theorem dX4_init_22 : decode cX4_init 22 = .ok (.aload_n 0, 1) := by decide +kernel
theorem dX4_init_23 : decode cX4_init 23 = .ok (.aload_n 2, 1) := by decide +kernel
theorem dX4_init_24 : decode cX4_init 24 = .ok (.putfield 21, 3) := by decide +kernel
theorem dX4_init_27 : decode cX4_init 27 = .ok (.aload_n 0, 1) := by decide +kernel
theorem dX4_init_28 : decode cX4_init 28 = .ok (.aload_n 3, 1) := by decide +kernel
theorem dX4_init_29 : decode cX4_init 29 = .ok (.putfield 25, 3) := by decide +kernel
theorem dX4_init_32 : decode cX4_init 32 = .ok (.return_, 1) := by decide +kernel
theorem dX4_part_0 : decode cX4_part 0 = .ok (.iload_n 1, 1) := by decide +kernel
theorem dX4_part_1 : decode cX4_part 1 = .ok (.tableswitch 95 16 23 #[47, 52, 57, 62, 67, 72, 77, 82], 47) := by decide +kernel
theorem dX4_part_48 : decode cX4_part 48 = .ok (.aload_n 0, 1) := by decide +kernel
theorem dX4_part_49 : decode cX4_part 49 = .ok (.getfield 29, 3) := by decide +kernel
theorem dX4_part_52 : decode cX4_part 52 = .ok (.ireturn, 1) := by decide +kernel
theorem dX4_part_53 : decode cX4_part 53 = .ok (.aload_n 0, 1) := by decide +kernel
theorem dX4_part_54 : decode cX4_part 54 = .ok (.getfield 32, 3) := by decide +kernel
theorem dX4_part_57 : decode cX4_part 57 = .ok (.ireturn, 1) := by decide +kernel
theorem dX4_part_58 : decode cX4_part 58 = .ok (.aload_n 0, 1) := by decide +kernel
theorem dX4_part_59 : decode cX4_part 59 = .ok (.getfield 35, 3) := by decide +kernel
theorem dX4_part_62 : decode cX4_part 62 = .ok (.ireturn, 1) := by decide +kernel
theorem dX4_part_63 : decode cX4_part 63 = .ok (.aload_n 0, 1) := by decide +kernel
theorem dX4_part_64 : decode cX4_part 64 = .ok (.getfield 38, 3) := by decide +kernel
theorem dX4_part_67 : decode cX4_part 67 = .ok (.ireturn, 1) := by decide +kernel
theorem dX4_part_68 : decode cX4_part 68 = .ok (.aload_n 0, 1) := by decide +kernel
theorem dX4_part_69 : decode cX4_part 69 = .ok (.getfield 41, 3) := by decide +kernel
theorem dX4_part_72 : decode cX4_part 72 = .ok (.ireturn, 1) := by decide +kernel
theorem dX4_part_73 : decode cX4_part 73 = .ok (.aload_n 0, 1) := by decide +kernel
theorem dX4_part_74 : decode cX4_part 74 = .ok (.getfield 13, 3) := by decide +kernel
theorem dX4_part_77 : decode cX4_part 77 = .ok (.ireturn, 1) := by decide +kernel
theorem dX4_part_78 : decode cX4_part 78 = .ok (.aload_n 0, 1) := by decide +kernel
theorem dX4_part_79 : decode cX4_part 79 = .ok (.getfield 44, 3) := by decide +kernel
theorem dX4_part_82 : decode cX4_part 82 = .ok (.ireturn, 1) := by decide +kernel
theorem dX4_part_83 : decode cX4_part 83 = .ok (.aload_n 0, 1) := by decide +kernel
theorem dX4_part_84 : decode cX4_part 84 = .ok (.getfield 47, 3) := by decide +kernel
theorem dX4_part_87 : decode cX4_part 87 = .ok (.ifCond .eq 7, 3) := by decide +kernel
theorem dX4_part_90 : decode cX4_part 90 = .ok (.iconst 1, 1) := by decide +kernel
theorem dX4_part_91 : decode cX4_part 91 = .ok (.goto 4, 3) := by decide +kernel
theorem dX4_part_94 : decode cX4_part 94 = .ok (.iconst 0, 1) := by decide +kernel
theorem dX4_part_95 : decode cX4_part 95 = .ok (.ireturn, 1) := by decide +kernel
theorem dX4_part_96 : decode cX4_part 96 = .ok (.aload_n 0, 1) := by decide +kernel
theorem dX4_part_97 : decode cX4_part 97 = .ok (.iload_n 1, 1) := by decide +kernel
theorem dX4_part_98 : decode cX4_part 98 = .ok (.invokevirtual 51, 3) := by decide +kernel
theorem dX4_part_101 : decode cX4_part 101 = .ok (.ireturn, 1) := by decide +kernel
theorem dX4_mostOf_0 : decode cX4_mostOf 0 = .ok (.iload_n 0, 1) := by decide +kernel
theorem dX4_mostOf_1 : decode cX4_mostOf 1 = .ok (.tableswitch 52 16 22 #[43, 50, 47, 47, 43, 50, 50], 43) := by decide +kernel
theorem dX4_mostOf_44 : decode cX4_mostOf 44 = .ok (.sipush 255, 3) := by decide +kernel
theorem dX4_mostOf_47 : decode cX4_mostOf 47 = .ok (.ireturn, 1) := by decide +kernel
theorem dX4_mostOf_48 : decode cX4_mostOf 48 = .ok (.bipush 15, 2) := by decide +kernel
theorem dX4_mostOf_50 : decode cX4_mostOf 50 = .ok (.ireturn, 1) := by decide +kernel
theorem dX4_mostOf_51 : decode cX4_mostOf 51 = .ok (.iconst 1, 1) := by decide +kernel
theorem dX4_mostOf_52 : decode cX4_mostOf 52 = .ok (.ireturn, 1) := by decide +kernel
theorem dX4_mostOf_53 : decode cX4_mostOf 53 = .ok (.ldc 55, 2) := by decide +kernel
theorem dX4_mostOf_55 : decode cX4_mostOf 55 = .ok (.ireturn, 1) := by decide +kernel
theorem dX4_change_0 : decode cX4_change 0 = .ok (.iload_n 1, 1) := by decide +kernel
theorem dX4_change_1 : decode cX4_change 1 = .ok (.tableswitch 99 16 22 #[43, 51, 59, 67, 75, 83, 91], 43) := by decide +kernel
theorem dX4_change_44 : decode cX4_change 44 = .ok (.aload_n 0, 1) := by decide +kernel
theorem dX4_change_45 : decode cX4_change 45 = .ok (.iload_n 2, 1) := by decide +kernel
theorem dX4_change_46 : decode cX4_change 46 = .ok (.putfield 29, 3) := by decide +kernel
theorem dX4_change_49 : decode cX4_change 49 = .ok (.goto 57, 3) := by decide +kernel
theorem dX4_change_52 : decode cX4_change 52 = .ok (.aload_n 0, 1) := by decide +kernel
theorem dX4_change_53 : decode cX4_change 53 = .ok (.iload_n 2, 1) := by decide +kernel
theorem dX4_change_54 : decode cX4_change 54 = .ok (.putfield 32, 3) := by decide +kernel
theorem dX4_change_57 : decode cX4_change 57 = .ok (.goto 49, 3) := by decide +kernel
theorem dX4_change_60 : decode cX4_change 60 = .ok (.aload_n 0, 1) := by decide +kernel
theorem dX4_change_61 : decode cX4_change 61 = .ok (.iload_n 2, 1) := by decide +kernel
theorem dX4_change_62 : decode cX4_change 62 = .ok (.putfield 35, 3) := by decide +kernel
theorem dX4_change_65 : decode cX4_change 65 = .ok (.goto 41, 3) := by decide +kernel
theorem dX4_change_68 : decode cX4_change 68 = .ok (.aload_n 0, 1) := by decide +kernel
theorem dX4_change_69 : decode cX4_change 69 = .ok (.iload_n 2, 1) := by decide +kernel
theorem dX4_change_70 : decode cX4_change 70 = .ok (.putfield 38, 3) := by decide +kernel
theorem dX4_change_73 : decode cX4_change 73 = .ok (.goto 33, 3) := by decide +kernel
theorem dX4_change_76 : decode cX4_change 76 = .ok (.aload_n 0, 1) := by decide +kernel
theorem dX4_change_77 : decode cX4_change 77 = .ok (.iload_n 2, 1) := by decide +kernel
theorem dX4_change_78 : decode cX4_change 78 = .ok (.putfield 41, 3) := by decide +kernel
theorem dX4_change_81 : decode cX4_change 81 = .ok (.goto 25, 3) := by decide +kernel
theorem dX4_change_84 : decode cX4_change 84 = .ok (.aload_n 0, 1) := by decide +kernel
theorem dX4_change_85 : decode cX4_change 85 = .ok (.iload_n 2, 1) := by decide +kernel
theorem dX4_change_86 : decode cX4_change 86 = .ok (.putfield 13, 3) := by decide +kernel
theorem dX4_change_89 : decode cX4_change 89 = .ok (.goto 17, 3) := by decide +kernel
theorem dX4_change_92 : decode cX4_change 92 = .ok (.aload_n 0, 1) := by decide +kernel
theorem dX4_change_93 : decode cX4_change 93 = .ok (.iload_n 2, 1) := by decide +kernel
theorem dX4_change_94 : decode cX4_change 94 = .ok (.putfield 44, 3) := by decide +kernel
theorem dX4_change_97 : decode cX4_change 97 = .ok (.goto 9, 3) := by decide +kernel
theorem dX4_change_100 : decode cX4_change 100 = .ok (.aload_n 0, 1) := by decide +kernel
theorem dX4_change_101 : decode cX4_change 101 = .ok (.iload_n 1, 1) := by decide +kernel
theorem dX4_change_102 : decode cX4_change 102 = .ok (.iload_n 2, 1) := by decide +kernel
theorem dX4_change_103 : decode cX4_change 103 = .ok (.invokevirtual 56, 3) := by decide +kernel
theorem dX4_change_106 : decode cX4_change 106 = .ok (.return_, 1) := by decide +kernel
theorem dX4_allowsInterrupt_0 : decode cX4_allowsInterrupt 0 = .ok (.aload_n 0, 1) := by decide +kernel
theorem dX4_allowsInterrupt_1 : decode cX4_allowsInterrupt 1 = .ok (.getfield 13, 3) := by decide +kernel
theorem dX4_allowsInterrupt_4 : decode cX4_allowsInterrupt 4 = .ok (.iconst 1, 1) := by decide +kernel
theorem dX4_allowsInterrupt_5 : decode cX4_allowsInterrupt 5 = .ok (.if_icmp .ne 7, 3) := by decide +kernel
theorem dX4_allowsInterrupt_8 : decode cX4_allowsInterrupt 8 = .ok (.iconst 1, 1) := by decide +kernel
theorem dX4_allowsInterrupt_9 : decode cX4_allowsInterrupt 9 = .ok (.goto 4, 3) := by decide +kernel
theorem dX4_allowsInterrupt_12 : decode cX4_allowsInterrupt 12 = .ok (.iconst 0, 1) := by decide +kernel
theorem dX4_allowsInterrupt_13 : decode cX4_allowsInterrupt 13 = .ok (.ireturn, 1) := by decide +kernel
theorem dX4_interrupt_0 : decode cX4_interrupt 0 = .ok (.aload_n 0, 1) := by decide +kernel
theorem dX4_interrupt_1 : decode cX4_interrupt 1 = .ok (.bipush 16, 2) := by decide +kernel
theorem dX4_interrupt_3 : decode cX4_interrupt 3 = .ok (.aload_n 0, 1) := by decide +kernel
theorem dX4_interrupt_4 : decode cX4_interrupt 4 = .ok (.getfield 38, 3) := by decide +kernel
theorem dX4_interrupt_7 : decode cX4_interrupt 7 = .ok (.imul, 1) := by decide +kernel
theorem dX4_interrupt_8 : decode cX4_interrupt 8 = .ok (.aload_n 0, 1) := by decide +kernel
theorem dX4_interrupt_9 : decode cX4_interrupt 9 = .ok (.getfield 35, 3) := by decide +kernel
theorem dX4_interrupt_12 : decode cX4_interrupt 12 = .ok (.iadd, 1) := by decide +kernel
theorem dX4_interrupt_13 : decode cX4_interrupt 13 = .ok (.putfield 41, 3) := by decide +kernel
theorem dX4_interrupt_16 : decode cX4_interrupt 16 = .ok (.aload_n 0, 1) := by decide +kernel
theorem dX4_interrupt_17 : decode cX4_interrupt 17 = .ok (.iconst 2, 1) := by decide +kernel
theorem dX4_interrupt_18 : decode cX4_interrupt 18 = .ok (.putfield 38, 3) := by decide +kernel
theorem dX4_interrupt_21 : decode cX4_interrupt 21 = .ok (.aload_n 0, 1) := by decide +kernel
theorem dX4_interrupt_22 : decode cX4_interrupt 22 = .ok (.iconst 1, 1) := by decide +kernel
theorem dX4_interrupt_23 : decode cX4_interrupt 23 = .ok (.putfield 35, 3) := by decide +kernel
theorem dX4_interrupt_26 : decode cX4_interrupt 26 = .ok (.aload_n 0, 1) := by decide +kernel
theorem dX4_interrupt_27 : decode cX4_interrupt 27 = .ok (.iconst 0, 1) := by decide +kernel
theorem dX4_interrupt_28 : decode cX4_interrupt 28 = .ok (.putfield 13, 3) := by decide +kernel
theorem dX4_interrupt_31 : decode cX4_interrupt 31 = .ok (.aload_n 0, 1) := by decide +kernel
theorem dX4_interrupt_32 : decode cX4_interrupt 32 = .ok (.invokevirtual 60, 3) := by decide +kernel
theorem dX4_interrupt_35 : decode cX4_interrupt 35 = .ok (.return_, 1) := by decide +kernel
theorem dX4_wake_0 : decode cX4_wake 0 = .ok (.aload_n 0, 1) := by decide +kernel
theorem dX4_wake_1 : decode cX4_wake 1 = .ok (.iconst 0, 1) := by decide +kernel
theorem dX4_wake_2 : decode cX4_wake 2 = .ok (.putfield 47, 3) := by decide +kernel
theorem dX4_wake_5 : decode cX4_wake 5 = .ok (.return_, 1) := by decide +kernel
theorem dX4_takeByte_0 : decode cX4_takeByte 0 = .ok (.aload_n 0, 1) := by decide +kernel
theorem dX4_takeByte_1 : decode cX4_takeByte 1 = .ok (.iconst 0, 1) := by decide +kernel
theorem dX4_takeByte_2 : decode cX4_takeByte 2 = .ok (.invokevirtual 63, 3) := by decide +kernel
theorem dX4_takeByte_5 : decode cX4_takeByte 5 = .ok (.ireturn, 1) := by decide +kernel
theorem dX4_act_0 : decode cX4_act 0 = .ok (.aload_n 0, 1) := by decide +kernel
theorem dX4_act_1 : decode cX4_act 1 = .ok (.getfield 47, 3) := by decide +kernel
theorem dX4_act_4 : decode cX4_act 4 = .ok (.ifCond .eq 5, 3) := by decide +kernel
theorem dX4_act_7 : decode cX4_act 7 = .ok (.iconst 1, 1) := by decide +kernel
theorem dX4_act_8 : decode cX4_act 8 = .ok (.ireturn, 1) := by decide +kernel
theorem dX4_act_9 : decode cX4_act 9 = .ok (.aload_n 0, 1) := by decide +kernel
theorem dX4_act_10 : decode cX4_act 10 = .ok (.aload_n 0, 1) := by decide +kernel
theorem dX4_act_11 : decode cX4_act 11 = .ok (.getfield 35, 3) := by decide +kernel
theorem dX4_act_14 : decode cX4_act 14 = .ok (.invokevirtual 63, 3) := by decide +kernel
theorem dX4_act_17 : decode cX4_act 17 = .ok (.istore_n 1, 1) := by decide +kernel
theorem dX4_act_18 : decode cX4_act 18 = .ok (.aload_n 0, 1) := by decide +kernel
theorem dX4_act_19 : decode cX4_act 19 = .ok (.iload_n 1, 1) := by decide +kernel
theorem dX4_act_20 : decode cX4_act 20 = .ok (.iconst 4, 1) := by decide +kernel
theorem dX4_act_21 : decode cX4_act 21 = .ok (.ishr, 1) := by decide +kernel
theorem dX4_act_22 : decode cX4_act 22 = .ok (.iload_n 1, 1) := by decide +kernel
theorem dX4_act_23 : decode cX4_act 23 = .ok (.bipush 15, 2) := by decide +kernel
theorem dX4_act_25 : decode cX4_act 25 = .ok (.iand, 1) := by decide +kernel
theorem dX4_act_26 : decode cX4_act 26 = .ok (.invokevirtual 66, 3) := by decide +kernel
theorem dX4_act_29 : decode cX4_act 29 = .ok (.iload_n 1, 1) := by decide +kernel
theorem dX4_act_30 : decode cX4_act 30 = .ok (.iconst 4, 1) := by decide +kernel
theorem dX4_act_31 : decode cX4_act 31 = .ok (.ishr, 1) := by decide +kernel
theorem dX4_act_32 : decode cX4_act 32 = .ok (.bipush 12, 2) := by decide +kernel
theorem dX4_act_34 : decode cX4_act 34 = .ok (.if_icmp .ne 7, 3) := by decide +kernel
theorem dX4_act_37 : decode cX4_act 37 = .ok (.iconst 3, 1) := by decide +kernel
theorem dX4_act_38 : decode cX4_act 38 = .ok (.goto 4, 3) := by decide +kernel
theorem dX4_act_41 : decode cX4_act 41 = .ok (.iconst 2, 1) := by decide +kernel
theorem dX4_act_42 : decode cX4_act 42 = .ok (.ireturn, 1) := by decide +kernel
theorem dX4_register_0 : decode cX4_register 0 = .ok (.aload_n 0, 1) := by decide +kernel
theorem dX4_register_1 : decode cX4_register 1 = .ok (.getfield 9, 3) := by decide +kernel
theorem dX4_register_4 : decode cX4_register 4 = .ok (.iload_n 1, 1) := by decide +kernel
theorem dX4_register_5 : decode cX4_register 5 = .ok (.bipush 15, 2) := by decide +kernel
theorem dX4_register_7 : decode cX4_register 7 = .ok (.iand, 1) := by decide +kernel
theorem dX4_register_8 : decode cX4_register 8 = .ok (.iaload, 1) := by decide +kernel
theorem dX4_register_9 : decode cX4_register 9 = .ok (.ireturn, 1) := by decide +kernel
theorem dX4_putRegister_0 : decode cX4_putRegister 0 = .ok (.aload_n 0, 1) := by decide +kernel
theorem dX4_putRegister_1 : decode cX4_putRegister 1 = .ok (.getfield 9, 3) := by decide +kernel
theorem dX4_putRegister_4 : decode cX4_putRegister 4 = .ok (.iload_n 1, 1) := by decide +kernel
theorem dX4_putRegister_5 : decode cX4_putRegister 5 = .ok (.bipush 15, 2) := by decide +kernel
theorem dX4_putRegister_7 : decode cX4_putRegister 7 = .ok (.iand, 1) := by decide +kernel
theorem dX4_putRegister_8 : decode cX4_putRegister 8 = .ok (.iload_n 2, 1) := by decide +kernel
theorem dX4_putRegister_9 : decode cX4_putRegister 9 = .ok (.ldc 55, 2) := by decide +kernel
theorem dX4_putRegister_11 : decode cX4_putRegister 11 = .ok (.iand, 1) := by decide +kernel
theorem dX4_putRegister_12 : decode cX4_putRegister 12 = .ok (.iastore, 1) := by decide +kernel
theorem dX4_putRegister_13 : decode cX4_putRegister 13 = .ok (.return_, 1) := by decide +kernel
theorem dX4_grow_0 : decode cX4_grow 0 = .ok (.aload_n 0, 1) := by decide +kernel
theorem dX4_grow_1 : decode cX4_grow 1 = .ok (.iload_n 1, 1) := by decide +kernel
theorem dX4_grow_2 : decode cX4_grow 2 = .ok (.aload_n 0, 1) := by decide +kernel
theorem dX4_grow_3 : decode cX4_grow 3 = .ok (.iload_n 1, 1) := by decide +kernel
theorem dX4_grow_4 : decode cX4_grow 4 = .ok (.invokevirtual 51, 3) := by decide +kernel
theorem dX4_grow_7 : decode cX4_grow 7 = .ok (.iload_n 2, 1) := by decide +kernel
theorem dX4_grow_8 : decode cX4_grow 8 = .ok (.iadd, 1) := by decide +kernel
theorem dX4_grow_9 : decode cX4_grow 9 = .ok (.invokevirtual 56, 3) := by decide +kernel
theorem dX4_grow_12 : decode cX4_grow 12 = .ok (.return_, 1) := by decide +kernel
theorem dX4_at_0 : decode cX4_at 0 = .ok (.aload_n 0, 1) := by decide +kernel
theorem dX4_at_1 : decode cX4_at 1 = .ok (.getfield 17, 3) := by decide +kernel
theorem dX4_at_4 : decode cX4_at 4 = .ok (.aload_n 0, 1) := by decide +kernel
theorem dX4_at_5 : decode cX4_at 5 = .ok (.iload_n 1, 1) := by decide +kernel
theorem dX4_at_6 : decode cX4_at 6 = .ok (.invokevirtual 51, 3) := by decide +kernel
theorem dX4_at_9 : decode cX4_at 9 = .ok (.invokevirtual 69, 3) := by decide +kernel
theorem dX4_at_12 : decode cX4_at 12 = .ok (.ireturn, 1) := by decide +kernel
theorem dX4_putAt_0 : decode cX4_putAt 0 = .ok (.aload_n 0, 1) := by decide +kernel
theorem dX4_putAt_1 : decode cX4_putAt 1 = .ok (.getfield 17, 3) := by decide +kernel
theorem dX4_putAt_4 : decode cX4_putAt 4 = .ok (.aload_n 0, 1) := by decide +kernel
theorem dX4_putAt_5 : decode cX4_putAt 5 = .ok (.iload_n 1, 1) := by decide +kernel
theorem dX4_putAt_6 : decode cX4_putAt 6 = .ok (.invokevirtual 51, 3) := by decide +kernel
theorem dX4_putAt_9 : decode cX4_putAt 9 = .ok (.iload_n 2, 1) := by decide +kernel
theorem dX4_putAt_10 : decode cX4_putAt 10 = .ok (.invokevirtual 74, 3) := by decide +kernel
theorem dX4_putAt_13 : decode cX4_putAt 13 = .ok (.return_, 1) := by decide +kernel
theorem dX4_take_0 : decode cX4_take 0 = .ok (.aload_n 0, 1) := by decide +kernel
theorem dX4_take_1 : decode cX4_take 1 = .ok (.getfield 9, 3) := by decide +kernel
theorem dX4_take_4 : decode cX4_take 4 = .ok (.iload_n 1, 1) := by decide +kernel
theorem dX4_take_5 : decode cX4_take 5 = .ok (.bipush 15, 2) := by decide +kernel
theorem dX4_take_7 : decode cX4_take 7 = .ok (.iand, 1) := by decide +kernel
theorem dX4_take_8 : decode cX4_take 8 = .ok (.iaload, 1) := by decide +kernel
theorem dX4_take_9 : decode cX4_take 9 = .ok (.istore_n 2, 1) := by decide +kernel
theorem dX4_take_10 : decode cX4_take 10 = .ok (.aload_n 0, 1) := by decide +kernel
theorem dX4_take_11 : decode cX4_take 11 = .ok (.getfield 9, 3) := by decide +kernel
theorem dX4_take_14 : decode cX4_take 14 = .ok (.iload_n 1, 1) := by decide +kernel
theorem dX4_take_15 : decode cX4_take 15 = .ok (.bipush 15, 2) := by decide +kernel
theorem dX4_take_17 : decode cX4_take 17 = .ok (.iand, 1) := by decide +kernel
theorem dX4_take_18 : decode cX4_take 18 = .ok (.iload_n 2, 1) := by decide +kernel
theorem dX4_take_19 : decode cX4_take 19 = .ok (.iconst 1, 1) := by decide +kernel
theorem dX4_take_20 : decode cX4_take 20 = .ok (.iadd, 1) := by decide +kernel
theorem dX4_take_21 : decode cX4_take 21 = .ok (.ldc 55, 2) := by decide +kernel
theorem dX4_take_23 : decode cX4_take 23 = .ok (.iand, 1) := by decide +kernel
theorem dX4_take_24 : decode cX4_take 24 = .ok (.iastore, 1) := by decide +kernel
theorem dX4_take_25 : decode cX4_take 25 = .ok (.aload_n 0, 1) := by decide +kernel
theorem dX4_take_26 : decode cX4_take 26 = .ok (.getfield 17, 3) := by decide +kernel
theorem dX4_take_29 : decode cX4_take 29 = .ok (.iload_n 2, 1) := by decide +kernel
theorem dX4_take_30 : decode cX4_take 30 = .ok (.invokevirtual 69, 3) := by decide +kernel
theorem dX4_take_33 : decode cX4_take 33 = .ok (.ireturn, 1) := by decide +kernel
theorem dX4_execute_0 : decode cX4_execute 0 = .ok (.iload_n 1, 1) := by decide +kernel
theorem dX4_execute_1 : decode cX4_execute 1 = .ok (.tableswitch 251 0 14 #[75, 83, 92, 101, 109, 121, 133, 141, 149, 165, 180, 201, 227, 235, 243], 75) := by decide +kernel
theorem dX4_execute_76 : decode cX4_execute 76 = .ok (.aload_n 0, 1) := by decide +kernel
theorem dX4_execute_77 : decode cX4_execute 77 = .ok (.iload_n 2, 1) := by decide +kernel
theorem dX4_execute_78 : decode cX4_execute 78 = .ok (.invokevirtual 77, 3) := by decide +kernel
theorem dX4_execute_81 : decode cX4_execute 81 = .ok (.goto 176, 3) := by decide +kernel
theorem dX4_execute_84 : decode cX4_execute 84 = .ok (.aload_n 0, 1) := by decide +kernel
theorem dX4_execute_85 : decode cX4_execute 85 = .ok (.iload_n 2, 1) := by decide +kernel
theorem dX4_execute_86 : decode cX4_execute 86 = .ok (.iconst 1, 1) := by decide +kernel
theorem dX4_execute_87 : decode cX4_execute 87 = .ok (.invokevirtual 81, 3) := by decide +kernel
theorem dX4_execute_90 : decode cX4_execute 90 = .ok (.goto 167, 3) := by decide +kernel
theorem dX4_execute_93 : decode cX4_execute 93 = .ok (.aload_n 0, 1) := by decide +kernel
theorem dX4_execute_94 : decode cX4_execute 94 = .ok (.iload_n 2, 1) := by decide +kernel
theorem dX4_execute_95 : decode cX4_execute 95 = .ok (.iconst (-1), 1) := by decide +kernel
theorem dX4_execute_96 : decode cX4_execute 96 = .ok (.invokevirtual 81, 3) := by decide +kernel
theorem dX4_execute_99 : decode cX4_execute 99 = .ok (.goto 158, 3) := by decide +kernel
theorem dX4_execute_102 : decode cX4_execute 102 = .ok (.aload_n 0, 1) := by decide +kernel
theorem dX4_execute_103 : decode cX4_execute 103 = .ok (.iload_n 2, 1) := by decide +kernel
theorem dX4_execute_104 : decode cX4_execute 104 = .ok (.invokevirtual 84, 3) := by decide +kernel
theorem dX4_execute_107 : decode cX4_execute 107 = .ok (.goto 150, 3) := by decide +kernel
theorem dX4_execute_110 : decode cX4_execute 110 = .ok (.aload_n 0, 1) := by decide +kernel
theorem dX4_execute_111 : decode cX4_execute 111 = .ok (.aload_n 0, 1) := by decide +kernel
theorem dX4_execute_112 : decode cX4_execute 112 = .ok (.iload_n 2, 1) := by decide +kernel
theorem dX4_execute_113 : decode cX4_execute 113 = .ok (.invokevirtual 63, 3) := by decide +kernel
theorem dX4_execute_116 : decode cX4_execute 116 = .ok (.putfield 29, 3) := by decide +kernel
theorem dX4_execute_119 : decode cX4_execute 119 = .ok (.goto 138, 3) := by decide +kernel
theorem dX4_execute_122 : decode cX4_execute 122 = .ok (.aload_n 0, 1) := by decide +kernel
theorem dX4_execute_123 : decode cX4_execute 123 = .ok (.iload_n 2, 1) := by decide +kernel
theorem dX4_execute_124 : decode cX4_execute 124 = .ok (.aload_n 0, 1) := by decide +kernel
theorem dX4_execute_125 : decode cX4_execute 125 = .ok (.getfield 29, 3) := by decide +kernel
theorem dX4_execute_128 : decode cX4_execute 128 = .ok (.invokevirtual 87, 3) := by decide +kernel
theorem dX4_execute_131 : decode cX4_execute 131 = .ok (.goto 126, 3) := by decide +kernel
theorem dX4_execute_134 : decode cX4_execute 134 = .ok (.aload_n 0, 1) := by decide +kernel
theorem dX4_execute_135 : decode cX4_execute 135 = .ok (.iload_n 2, 1) := by decide +kernel
theorem dX4_execute_136 : decode cX4_execute 136 = .ok (.invokevirtual 90, 3) := by decide +kernel
theorem dX4_execute_139 : decode cX4_execute 139 = .ok (.goto 118, 3) := by decide +kernel
theorem dX4_execute_142 : decode cX4_execute 142 = .ok (.aload_n 0, 1) := by decide +kernel
theorem dX4_execute_143 : decode cX4_execute 143 = .ok (.iload_n 2, 1) := by decide +kernel
theorem dX4_execute_144 : decode cX4_execute 144 = .ok (.invokevirtual 93, 3) := by decide +kernel
theorem dX4_execute_147 : decode cX4_execute 147 = .ok (.goto 110, 3) := by decide +kernel
theorem dX4_execute_150 : decode cX4_execute 150 = .ok (.aload_n 0, 1) := by decide +kernel
theorem dX4_execute_151 : decode cX4_execute 151 = .ok (.aload_n 0, 1) := by decide +kernel
theorem dX4_execute_152 : decode cX4_execute 152 = .ok (.iload_n 2, 1) := by decide +kernel
theorem dX4_execute_153 : decode cX4_execute 153 = .ok (.invokevirtual 51, 3) := by decide +kernel
theorem dX4_execute_156 : decode cX4_execute 156 = .ok (.sipush 255, 3) := by decide +kernel
theorem dX4_execute_159 : decode cX4_execute 159 = .ok (.iand, 1) := by decide +kernel
theorem dX4_execute_160 : decode cX4_execute 160 = .ok (.putfield 29, 3) := by decide +kernel
theorem dX4_execute_163 : decode cX4_execute 163 = .ok (.goto 94, 3) := by decide +kernel
theorem dX4_execute_166 : decode cX4_execute 166 = .ok (.aload_n 0, 1) := by decide +kernel
theorem dX4_execute_167 : decode cX4_execute 167 = .ok (.aload_n 0, 1) := by decide +kernel
theorem dX4_execute_168 : decode cX4_execute 168 = .ok (.iload_n 2, 1) := by decide +kernel
theorem dX4_execute_169 : decode cX4_execute 169 = .ok (.invokevirtual 51, 3) := by decide +kernel
theorem dX4_execute_172 : decode cX4_execute 172 = .ok (.bipush 8, 2) := by decide +kernel
theorem dX4_execute_174 : decode cX4_execute 174 = .ok (.ishr, 1) := by decide +kernel
theorem dX4_execute_175 : decode cX4_execute 175 = .ok (.putfield 29, 3) := by decide +kernel
theorem dX4_execute_178 : decode cX4_execute 178 = .ok (.goto 79, 3) := by decide +kernel
theorem dX4_execute_181 : decode cX4_execute 181 = .ok (.aload_n 0, 1) := by decide +kernel
theorem dX4_execute_182 : decode cX4_execute 182 = .ok (.iload_n 2, 1) := by decide +kernel
theorem dX4_execute_183 : decode cX4_execute 183 = .ok (.aload_n 0, 1) := by decide +kernel
theorem dX4_execute_184 : decode cX4_execute 184 = .ok (.iload_n 2, 1) := by decide +kernel
theorem dX4_execute_185 : decode cX4_execute 185 = .ok (.invokevirtual 51, 3) := by decide +kernel
theorem dX4_execute_188 : decode cX4_execute 188 = .ok (.ldc 96, 2) := by decide +kernel
theorem dX4_execute_190 : decode cX4_execute 190 = .ok (.iand, 1) := by decide +kernel
theorem dX4_execute_191 : decode cX4_execute 191 = .ok (.aload_n 0, 1) := by decide +kernel
theorem dX4_execute_192 : decode cX4_execute 192 = .ok (.getfield 29, 3) := by decide +kernel
theorem dX4_execute_195 : decode cX4_execute 195 = .ok (.iadd, 1) := by decide +kernel
theorem dX4_execute_196 : decode cX4_execute 196 = .ok (.invokevirtual 56, 3) := by decide +kernel
theorem dX4_execute_199 : decode cX4_execute 199 = .ok (.goto 58, 3) := by decide +kernel
theorem dX4_execute_202 : decode cX4_execute 202 = .ok (.aload_n 0, 1) := by decide +kernel
theorem dX4_execute_203 : decode cX4_execute 203 = .ok (.iload_n 2, 1) := by decide +kernel
theorem dX4_execute_204 : decode cX4_execute 204 = .ok (.aload_n 0, 1) := by decide +kernel
theorem dX4_execute_205 : decode cX4_execute 205 = .ok (.iload_n 2, 1) := by decide +kernel
theorem dX4_execute_206 : decode cX4_execute 206 = .ok (.invokevirtual 51, 3) := by decide +kernel
theorem dX4_execute_209 : decode cX4_execute 209 = .ok (.sipush 255, 3) := by decide +kernel
theorem dX4_execute_212 : decode cX4_execute 212 = .ok (.iand, 1) := by decide +kernel
theorem dX4_execute_213 : decode cX4_execute 213 = .ok (.sipush 256, 3) := by decide +kernel
theorem dX4_execute_216 : decode cX4_execute 216 = .ok (.aload_n 0, 1) := by decide +kernel
theorem dX4_execute_217 : decode cX4_execute 217 = .ok (.getfield 29, 3) := by decide +kernel
theorem dX4_execute_220 : decode cX4_execute 220 = .ok (.imul, 1) := by decide +kernel
theorem dX4_execute_221 : decode cX4_execute 221 = .ok (.iadd, 1) := by decide +kernel
theorem dX4_execute_222 : decode cX4_execute 222 = .ok (.invokevirtual 56, 3) := by decide +kernel
theorem dX4_execute_225 : decode cX4_execute 225 = .ok (.goto 32, 3) := by decide +kernel
theorem dX4_execute_228 : decode cX4_execute 228 = .ok (.aload_n 0, 1) := by decide +kernel
theorem dX4_execute_229 : decode cX4_execute 229 = .ok (.iload_n 2, 1) := by decide +kernel
theorem dX4_execute_230 : decode cX4_execute 230 = .ok (.invokevirtual 97, 3) := by decide +kernel
theorem dX4_execute_233 : decode cX4_execute 233 = .ok (.goto 24, 3) := by decide +kernel
theorem dX4_execute_236 : decode cX4_execute 236 = .ok (.aload_n 0, 1) := by decide +kernel
theorem dX4_execute_237 : decode cX4_execute 237 = .ok (.iload_n 2, 1) := by decide +kernel
theorem dX4_execute_238 : decode cX4_execute 238 = .ok (.putfield 35, 3) := by decide +kernel
theorem dX4_execute_241 : decode cX4_execute 241 = .ok (.goto 16, 3) := by decide +kernel
theorem dX4_execute_244 : decode cX4_execute 244 = .ok (.aload_n 0, 1) := by decide +kernel
theorem dX4_execute_245 : decode cX4_execute 245 = .ok (.iload_n 2, 1) := by decide +kernel
theorem dX4_execute_246 : decode cX4_execute 246 = .ok (.putfield 38, 3) := by decide +kernel
theorem dX4_execute_249 : decode cX4_execute 249 = .ok (.goto 8, 3) := by decide +kernel
theorem dX4_execute_252 : decode cX4_execute 252 = .ok (.aload_n 0, 1) := by decide +kernel
theorem dX4_execute_253 : decode cX4_execute 253 = .ok (.iload_n 2, 1) := by decide +kernel
theorem dX4_execute_254 : decode cX4_execute 254 = .ok (.invokevirtual 100, 3) := by decide +kernel
theorem dX4_execute_257 : decode cX4_execute 257 = .ok (.return_, 1) := by decide +kernel
theorem dX4_loadOrIdle_0 : decode cX4_loadOrIdle 0 = .ok (.iload_n 1, 1) := by decide +kernel
theorem dX4_loadOrIdle_1 : decode cX4_loadOrIdle 1 = .ok (.ifCond .ne 11, 3) := by decide +kernel
theorem dX4_loadOrIdle_4 : decode cX4_loadOrIdle 4 = .ok (.aload_n 0, 1) := by decide +kernel
theorem dX4_loadOrIdle_5 : decode cX4_loadOrIdle 5 = .ok (.iconst 1, 1) := by decide +kernel
theorem dX4_loadOrIdle_6 : decode cX4_loadOrIdle 6 = .ok (.putfield 47, 3) := by decide +kernel
theorem dX4_loadOrIdle_9 : decode cX4_loadOrIdle 9 = .ok (.goto 12, 3) := by decide +kernel
theorem dX4_loadOrIdle_12 : decode cX4_loadOrIdle 12 = .ok (.aload_n 0, 1) := by decide +kernel
theorem dX4_loadOrIdle_13 : decode cX4_loadOrIdle 13 = .ok (.aload_n 0, 1) := by decide +kernel
theorem dX4_loadOrIdle_14 : decode cX4_loadOrIdle 14 = .ok (.iload_n 1, 1) := by decide +kernel
theorem dX4_loadOrIdle_15 : decode cX4_loadOrIdle 15 = .ok (.invokevirtual 103, 3) := by decide +kernel
theorem dX4_loadOrIdle_18 : decode cX4_loadOrIdle 18 = .ok (.putfield 29, 3) := by decide +kernel
theorem dX4_loadOrIdle_21 : decode cX4_loadOrIdle 21 = .ok (.return_, 1) := by decide +kernel
theorem dX4_branch_0 : decode cX4_branch 0 = .ok (.aload_n 0, 1) := by decide +kernel
theorem dX4_branch_1 : decode cX4_branch 1 = .ok (.iload_n 1, 1) := by decide +kernel
theorem dX4_branch_2 : decode cX4_branch 2 = .ok (.invokevirtual 106, 3) := by decide +kernel
theorem dX4_branch_5 : decode cX4_branch 5 = .ok (.ifCond .eq 34, 3) := by decide +kernel
theorem dX4_branch_8 : decode cX4_branch 8 = .ok (.aload_n 0, 1) := by decide +kernel
theorem dX4_branch_9 : decode cX4_branch 9 = .ok (.aload_n 0, 1) := by decide +kernel
theorem dX4_branch_10 : decode cX4_branch 10 = .ok (.getfield 35, 3) := by decide +kernel
theorem dX4_branch_13 : decode cX4_branch 13 = .ok (.aload_n 0, 1) := by decide +kernel
theorem dX4_branch_14 : decode cX4_branch 14 = .ok (.aload_n 0, 1) := by decide +kernel
theorem dX4_branch_15 : decode cX4_branch 15 = .ok (.getfield 35, 3) := by decide +kernel
theorem dX4_branch_18 : decode cX4_branch 18 = .ok (.invokevirtual 51, 3) := by decide +kernel
theorem dX4_branch_21 : decode cX4_branch 21 = .ok (.ldc 96, 2) := by decide +kernel
theorem dX4_branch_23 : decode cX4_branch 23 = .ok (.iand, 1) := by decide +kernel
theorem dX4_branch_24 : decode cX4_branch 24 = .ok (.aload_n 0, 1) := by decide +kernel
theorem dX4_branch_25 : decode cX4_branch 25 = .ok (.aload_n 0, 1) := by decide +kernel
theorem dX4_branch_26 : decode cX4_branch 26 = .ok (.getfield 35, 3) := by decide +kernel
theorem dX4_branch_29 : decode cX4_branch 29 = .ok (.invokevirtual 103, 3) := by decide +kernel
theorem dX4_branch_32 : decode cX4_branch 32 = .ok (.iadd, 1) := by decide +kernel
theorem dX4_branch_33 : decode cX4_branch 33 = .ok (.invokevirtual 56, 3) := by decide +kernel
theorem dX4_branch_36 : decode cX4_branch 36 = .ok (.goto 12, 3) := by decide +kernel
theorem dX4_branch_39 : decode cX4_branch 39 = .ok (.aload_n 0, 1) := by decide +kernel
theorem dX4_branch_40 : decode cX4_branch 40 = .ok (.aload_n 0, 1) := by decide +kernel
theorem dX4_branch_41 : decode cX4_branch 41 = .ok (.getfield 35, 3) := by decide +kernel
theorem dX4_branch_44 : decode cX4_branch 44 = .ok (.iconst 1, 1) := by decide +kernel
theorem dX4_branch_45 : decode cX4_branch 45 = .ok (.invokevirtual 81, 3) := by decide +kernel
theorem dX4_branch_48 : decode cX4_branch 48 = .ok (.return_, 1) := by decide +kernel
theorem dX4_holds_0 : decode cX4_holds 0 = .ok (.iload_n 1, 1) := by decide +kernel
theorem dX4_holds_1 : decode cX4_holds 1 = .ok (.bipush 8, 2) := by decide +kernel
theorem dX4_holds_3 : decode cX4_holds 3 = .ok (.if_icmp .lt 7, 3) := by decide +kernel
theorem dX4_holds_6 : decode cX4_holds 6 = .ok (.iconst 1, 1) := by decide +kernel
theorem dX4_holds_7 : decode cX4_holds 7 = .ok (.goto 4, 3) := by decide +kernel
theorem dX4_holds_10 : decode cX4_holds 10 = .ok (.iconst 0, 1) := by decide +kernel
theorem dX4_holds_11 : decode cX4_holds 11 = .ok (.istore_n 2, 1) := by decide +kernel
theorem dX4_holds_12 : decode cX4_holds 12 = .ok (.iload_n 1, 1) := by decide +kernel
theorem dX4_holds_13 : decode cX4_holds 13 = .ok (.bipush 7, 2) := by decide +kernel
theorem dX4_holds_15 : decode cX4_holds 15 = .ok (.iand, 1) := by decide +kernel
theorem dX4_holds_16 : decode cX4_holds 16 = .ok (.tableswitch 156 0 6 #[44, 54, 77, 99, 122, 156, 139], 44) := by decide +kernel
theorem dX4_holds_60 : decode cX4_holds 60 = .ok (.iload_n 2, 1) := by decide +kernel
theorem dX4_holds_61 : decode cX4_holds 61 = .ok (.ifCond .ne 7, 3) := by decide +kernel
theorem dX4_holds_64 : decode cX4_holds 64 = .ok (.iconst 1, 1) := by decide +kernel
theorem dX4_holds_65 : decode cX4_holds 65 = .ok (.goto 4, 3) := by decide +kernel
theorem dX4_holds_68 : decode cX4_holds 68 = .ok (.iconst 0, 1) := by decide +kernel
theorem dX4_holds_69 : decode cX4_holds 69 = .ok (.ireturn, 1) := by decide +kernel
theorem dX4_holds_70 : decode cX4_holds 70 = .ok (.aload_n 0, 1) := by decide +kernel
theorem dX4_holds_71 : decode cX4_holds 71 = .ok (.getfield 44, 3) := by decide +kernel
theorem dX4_holds_74 : decode cX4_holds 74 = .ok (.iconst 1, 1) := by decide +kernel
theorem dX4_holds_75 : decode cX4_holds 75 = .ok (.if_icmp .ne 7, 3) := by decide +kernel
theorem dX4_holds_78 : decode cX4_holds 78 = .ok (.iconst 1, 1) := by decide +kernel
theorem dX4_holds_79 : decode cX4_holds 79 = .ok (.goto 4, 3) := by decide +kernel
theorem dX4_holds_82 : decode cX4_holds 82 = .ok (.iconst 0, 1) := by decide +kernel
theorem dX4_holds_83 : decode cX4_holds 83 = .ok (.iload_n 2, 1) := by decide +kernel
theorem dX4_holds_84 : decode cX4_holds 84 = .ok (.if_icmp .eq 7, 3) := by decide +kernel
theorem dX4_holds_87 : decode cX4_holds 87 = .ok (.iconst 1, 1) := by decide +kernel
theorem dX4_holds_88 : decode cX4_holds 88 = .ok (.goto 4, 3) := by decide +kernel
theorem dX4_holds_91 : decode cX4_holds 91 = .ok (.iconst 0, 1) := by decide +kernel
theorem dX4_holds_92 : decode cX4_holds 92 = .ok (.ireturn, 1) := by decide +kernel
theorem dX4_holds_93 : decode cX4_holds 93 = .ok (.aload_n 0, 1) := by decide +kernel
theorem dX4_holds_94 : decode cX4_holds 94 = .ok (.getfield 29, 3) := by decide +kernel
theorem dX4_holds_97 : decode cX4_holds 97 = .ok (.ifCond .ne 7, 3) := by decide +kernel
theorem dX4_holds_100 : decode cX4_holds 100 = .ok (.iconst 1, 1) := by decide +kernel
theorem dX4_holds_101 : decode cX4_holds 101 = .ok (.goto 4, 3) := by decide +kernel
theorem dX4_holds_104 : decode cX4_holds 104 = .ok (.iconst 0, 1) := by decide +kernel
theorem dX4_holds_105 : decode cX4_holds 105 = .ok (.iload_n 2, 1) := by decide +kernel
theorem dX4_holds_106 : decode cX4_holds 106 = .ok (.if_icmp .eq 7, 3) := by decide +kernel
theorem dX4_holds_109 : decode cX4_holds 109 = .ok (.iconst 1, 1) := by decide +kernel
theorem dX4_holds_110 : decode cX4_holds 110 = .ok (.goto 4, 3) := by decide +kernel
theorem dX4_holds_113 : decode cX4_holds 113 = .ok (.iconst 0, 1) := by decide +kernel
theorem dX4_holds_114 : decode cX4_holds 114 = .ok (.ireturn, 1) := by decide +kernel
theorem dX4_holds_115 : decode cX4_holds 115 = .ok (.aload_n 0, 1) := by decide +kernel
theorem dX4_holds_116 : decode cX4_holds 116 = .ok (.getfield 32, 3) := by decide +kernel
theorem dX4_holds_119 : decode cX4_holds 119 = .ok (.iconst 1, 1) := by decide +kernel
theorem dX4_holds_120 : decode cX4_holds 120 = .ok (.if_icmp .ne 7, 3) := by decide +kernel
theorem dX4_holds_123 : decode cX4_holds 123 = .ok (.iconst 1, 1) := by decide +kernel
theorem dX4_holds_124 : decode cX4_holds 124 = .ok (.goto 4, 3) := by decide +kernel
theorem dX4_holds_127 : decode cX4_holds 127 = .ok (.iconst 0, 1) := by decide +kernel
theorem dX4_holds_128 : decode cX4_holds 128 = .ok (.iload_n 2, 1) := by decide +kernel
theorem dX4_holds_129 : decode cX4_holds 129 = .ok (.if_icmp .eq 7, 3) := by decide +kernel
theorem dX4_holds_132 : decode cX4_holds 132 = .ok (.iconst 1, 1) := by decide +kernel
theorem dX4_holds_133 : decode cX4_holds 133 = .ok (.goto 4, 3) := by decide +kernel
theorem dX4_holds_136 : decode cX4_holds 136 = .ok (.iconst 0, 1) := by decide +kernel
theorem dX4_holds_137 : decode cX4_holds 137 = .ok (.ireturn, 1) := by decide +kernel
theorem dX4_holds_138 : decode cX4_holds 138 = .ok (.aload_n 0, 1) := by decide +kernel
theorem dX4_holds_139 : decode cX4_holds 139 = .ok (.getfield 25, 3) := by decide +kernel
theorem dX4_holds_142 : decode cX4_holds 142 = .ok (.invokevirtual 110, 3) := by decide +kernel
theorem dX4_holds_145 : decode cX4_holds 145 = .ok (.iload_n 2, 1) := by decide +kernel
theorem dX4_holds_146 : decode cX4_holds 146 = .ok (.if_icmp .eq 7, 3) := by decide +kernel
theorem dX4_holds_149 : decode cX4_holds 149 = .ok (.iconst 1, 1) := by decide +kernel
theorem dX4_holds_150 : decode cX4_holds 150 = .ok (.goto 4, 3) := by decide +kernel
theorem dX4_holds_153 : decode cX4_holds 153 = .ok (.iconst 0, 1) := by decide +kernel
theorem dX4_holds_154 : decode cX4_holds 154 = .ok (.ireturn, 1) := by decide +kernel
theorem dX4_holds_155 : decode cX4_holds 155 = .ok (.aload_n 0, 1) := by decide +kernel
theorem dX4_holds_156 : decode cX4_holds 156 = .ok (.getfield 21, 3) := by decide +kernel
theorem dX4_holds_159 : decode cX4_holds 159 = .ok (.invokevirtual 116, 3) := by decide +kernel
theorem dX4_holds_162 : decode cX4_holds 162 = .ok (.iload_n 2, 1) := by decide +kernel
theorem dX4_holds_163 : decode cX4_holds 163 = .ok (.if_icmp .eq 7, 3) := by decide +kernel
theorem dX4_holds_166 : decode cX4_holds 166 = .ok (.iconst 1, 1) := by decide +kernel
theorem dX4_holds_167 : decode cX4_holds 167 = .ok (.goto 4, 3) := by decide +kernel
theorem dX4_holds_170 : decode cX4_holds 170 = .ok (.iconst 0, 1) := by decide +kernel
theorem dX4_holds_171 : decode cX4_holds 171 = .ok (.ireturn, 1) := by decide +kernel
theorem dX4_holds_172 : decode cX4_holds 172 = .ok (.iload_n 2, 1) := by decide +kernel
theorem dX4_holds_173 : decode cX4_holds 173 = .ok (.ireturn, 1) := by decide +kernel
theorem dX4_transfer_0 : decode cX4_transfer 0 = .ok (.iload_n 1, 1) := by decide +kernel
theorem dX4_transfer_1 : decode cX4_transfer 1 = .ok (.ifCond .ne 15, 3) := by decide +kernel
theorem dX4_transfer_4 : decode cX4_transfer 4 = .ok (.aload_n 0, 1) := by decide +kernel
theorem dX4_transfer_5 : decode cX4_transfer 5 = .ok (.aload_n 0, 1) := by decide +kernel
theorem dX4_transfer_6 : decode cX4_transfer 6 = .ok (.getfield 38, 3) := by decide +kernel
theorem dX4_transfer_9 : decode cX4_transfer 9 = .ok (.iconst 1, 1) := by decide +kernel
theorem dX4_transfer_10 : decode cX4_transfer 10 = .ok (.invokevirtual 81, 3) := by decide +kernel
theorem dX4_transfer_13 : decode cX4_transfer 13 = .ok (.goto 59, 3) := by decide +kernel
theorem dX4_transfer_16 : decode cX4_transfer 16 = .ok (.iload_n 1, 1) := by decide +kernel
theorem dX4_transfer_17 : decode cX4_transfer 17 = .ok (.bipush 8, 2) := by decide +kernel
theorem dX4_transfer_19 : decode cX4_transfer 19 = .ok (.if_icmp .ge 19, 3) := by decide +kernel
theorem dX4_transfer_22 : decode cX4_transfer 22 = .ok (.aload_n 0, 1) := by decide +kernel
theorem dX4_transfer_23 : decode cX4_transfer 23 = .ok (.iload_n 1, 1) := by decide +kernel
theorem dX4_transfer_24 : decode cX4_transfer 24 = .ok (.aload_n 0, 1) := by decide +kernel
theorem dX4_transfer_25 : decode cX4_transfer 25 = .ok (.aload_n 0, 1) := by decide +kernel
theorem dX4_transfer_26 : decode cX4_transfer 26 = .ok (.getfield 38, 3) := by decide +kernel
theorem dX4_transfer_29 : decode cX4_transfer 29 = .ok (.invokevirtual 63, 3) := by decide +kernel
theorem dX4_transfer_32 : decode cX4_transfer 32 = .ok (.invokevirtual 121, 3) := by decide +kernel
theorem dX4_transfer_35 : decode cX4_transfer 35 = .ok (.goto 37, 3) := by decide +kernel
theorem dX4_transfer_38 : decode cX4_transfer 38 = .ok (.iload_n 1, 1) := by decide +kernel
theorem dX4_transfer_39 : decode cX4_transfer 39 = .ok (.bipush 8, 2) := by decide +kernel
theorem dX4_transfer_41 : decode cX4_transfer 41 = .ok (.if_icmp .le 31, 3) := by decide +kernel
theorem dX4_transfer_44 : decode cX4_transfer 44 = .ok (.aload_n 0, 1) := by decide +kernel
theorem dX4_transfer_45 : decode cX4_transfer 45 = .ok (.aload_n 0, 1) := by decide +kernel
theorem dX4_transfer_46 : decode cX4_transfer 46 = .ok (.getfield 38, 3) := by decide +kernel
theorem dX4_transfer_49 : decode cX4_transfer 49 = .ok (.iconst 0, 1) := by decide +kernel
theorem dX4_transfer_50 : decode cX4_transfer 50 = .ok (.invokevirtual 87, 3) := by decide +kernel
theorem dX4_transfer_53 : decode cX4_transfer 53 = .ok (.aload_n 0, 1) := by decide +kernel
theorem dX4_transfer_54 : decode cX4_transfer 54 = .ok (.iconst 0, 1) := by decide +kernel
theorem dX4_transfer_55 : decode cX4_transfer 55 = .ok (.putfield 29, 3) := by decide +kernel
theorem dX4_transfer_58 : decode cX4_transfer 58 = .ok (.iload_n 1, 1) := by decide +kernel
theorem dX4_transfer_59 : decode cX4_transfer 59 = .ok (.bipush 9, 2) := by decide +kernel
theorem dX4_transfer_61 : decode cX4_transfer 61 = .ok (.if_icmp .ne 11, 3) := by decide +kernel
theorem dX4_transfer_64 : decode cX4_transfer 64 = .ok (.aload_n 0, 1) := by decide +kernel
theorem dX4_transfer_65 : decode cX4_transfer 65 = .ok (.getfield 25, 3) := by decide +kernel
theorem dX4_transfer_68 : decode cX4_transfer 68 = .ok (.iconst 1, 1) := by decide +kernel
theorem dX4_transfer_69 : decode cX4_transfer 69 = .ok (.invokevirtual 124, 3) := by decide +kernel
theorem dX4_transfer_72 : decode cX4_transfer 72 = .ok (.return_, 1) := by decide +kernel
theorem dX4_output_0 : decode cX4_output 0 = .ok (.iload_n 1, 1) := by decide +kernel
theorem dX4_output_1 : decode cX4_output 1 = .ok (.iconst 1, 1) := by decide +kernel
theorem dX4_output_2 : decode cX4_output 2 = .ok (.if_icmp .ne 14, 3) := by decide +kernel
theorem dX4_output_5 : decode cX4_output 5 = .ok (.aload_n 0, 1) := by decide +kernel
theorem dX4_output_6 : decode cX4_output 6 = .ok (.getfield 25, 3) := by decide +kernel
theorem dX4_output_9 : decode cX4_output 9 = .ok (.iconst 0, 1) := by decide +kernel
theorem dX4_output_10 : decode cX4_output 10 = .ok (.invokevirtual 124, 3) := by decide +kernel
theorem dX4_output_13 : decode cX4_output 13 = .ok (.goto 16, 3) := by decide +kernel
theorem dX4_output_16 : decode cX4_output 16 = .ok (.iload_n 1, 1) := by decide +kernel
theorem dX4_output_17 : decode cX4_output 17 = .ok (.iconst 2, 1) := by decide +kernel
theorem dX4_output_18 : decode cX4_output 18 = .ok (.if_icmp .ne 11, 3) := by decide +kernel
theorem dX4_output_21 : decode cX4_output 21 = .ok (.aload_n 0, 1) := by decide +kernel
theorem dX4_output_22 : decode cX4_output 22 = .ok (.getfield 21, 3) := by decide +kernel
theorem dX4_output_25 : decode cX4_output 25 = .ok (.iload_n 2, 1) := by decide +kernel
theorem dX4_output_26 : decode cX4_output 26 = .ok (.invokevirtual 128, 3) := by decide +kernel
theorem dX4_output_29 : decode cX4_output 29 = .ok (.return_, 1) := by decide +kernel
theorem dX4_control_0 : decode cX4_control 0 = .ok (.iload_n 1, 1) := by decide +kernel
theorem dX4_control_1 : decode cX4_control 1 = .ok (.tableswitch 179 0 14 #[75, 75, 85, 100, 179, 179, 124, 179, 135, 150, 157, 157, 179, 179, 168], 75) := by decide +kernel
theorem dX4_control_76 : decode cX4_control 76 = .ok (.aload_n 0, 1) := by decide +kernel
theorem dX4_control_77 : decode cX4_control 77 = .ok (.iconst 1, 1) := by decide +kernel
theorem dX4_control_78 : decode cX4_control 78 = .ok (.iload_n 1, 1) := by decide +kernel
theorem dX4_control_79 : decode cX4_control 79 = .ok (.isub, 1) := by decide +kernel
theorem dX4_control_80 : decode cX4_control 80 = .ok (.invokevirtual 131, 3) := by decide +kernel
theorem dX4_control_83 : decode cX4_control 83 = .ok (.goto 120, 3) := by decide +kernel
theorem dX4_control_86 : decode cX4_control 86 = .ok (.aload_n 0, 1) := by decide +kernel
theorem dX4_control_87 : decode cX4_control 87 = .ok (.aload_n 0, 1) := by decide +kernel
theorem dX4_control_88 : decode cX4_control 88 = .ok (.aload_n 0, 1) := by decide +kernel
theorem dX4_control_89 : decode cX4_control 89 = .ok (.getfield 38, 3) := by decide +kernel
theorem dX4_control_92 : decode cX4_control 92 = .ok (.invokevirtual 63, 3) := by decide +kernel
theorem dX4_control_95 : decode cX4_control 95 = .ok (.putfield 29, 3) := by decide +kernel
theorem dX4_control_98 : decode cX4_control 98 = .ok (.goto 105, 3) := by decide +kernel
theorem dX4_control_101 : decode cX4_control 101 = .ok (.aload_n 0, 1) := by decide +kernel
theorem dX4_control_102 : decode cX4_control 102 = .ok (.aload_n 0, 1) := by decide +kernel
theorem dX4_control_103 : decode cX4_control 103 = .ok (.getfield 38, 3) := by decide +kernel
theorem dX4_control_106 : decode cX4_control 106 = .ok (.aload_n 0, 1) := by decide +kernel
theorem dX4_control_107 : decode cX4_control 107 = .ok (.getfield 29, 3) := by decide +kernel
theorem dX4_control_110 : decode cX4_control 110 = .ok (.invokevirtual 87, 3) := by decide +kernel
theorem dX4_control_113 : decode cX4_control 113 = .ok (.aload_n 0, 1) := by decide +kernel
theorem dX4_control_114 : decode cX4_control 114 = .ok (.aload_n 0, 1) := by decide +kernel
theorem dX4_control_115 : decode cX4_control 115 = .ok (.getfield 38, 3) := by decide +kernel
theorem dX4_control_118 : decode cX4_control 118 = .ok (.iconst (-1), 1) := by decide +kernel
theorem dX4_control_119 : decode cX4_control 119 = .ok (.invokevirtual 81, 3) := by decide +kernel
theorem dX4_control_122 : decode cX4_control 122 = .ok (.goto 81, 3) := by decide +kernel
theorem dX4_control_125 : decode cX4_control 125 = .ok (.aload_n 0, 1) := by decide +kernel
theorem dX4_control_126 : decode cX4_control 126 = .ok (.aload_n 0, 1) := by decide +kernel
theorem dX4_control_127 : decode cX4_control 127 = .ok (.getfield 32, 3) := by decide +kernel
theorem dX4_control_130 : decode cX4_control 130 = .ok (.invokevirtual 134, 3) := by decide +kernel
theorem dX4_control_133 : decode cX4_control 133 = .ok (.goto 70, 3) := by decide +kernel
theorem dX4_control_136 : decode cX4_control 136 = .ok (.aload_n 0, 1) := by decide +kernel
theorem dX4_control_137 : decode cX4_control 137 = .ok (.aload_n 0, 1) := by decide +kernel
theorem dX4_control_138 : decode cX4_control 138 = .ok (.getfield 38, 3) := by decide +kernel
theorem dX4_control_141 : decode cX4_control 141 = .ok (.aload_n 0, 1) := by decide +kernel
theorem dX4_control_142 : decode cX4_control 142 = .ok (.getfield 41, 3) := by decide +kernel
theorem dX4_control_145 : decode cX4_control 145 = .ok (.invokevirtual 87, 3) := by decide +kernel
theorem dX4_control_148 : decode cX4_control 148 = .ok (.goto 55, 3) := by decide +kernel
theorem dX4_control_151 : decode cX4_control 151 = .ok (.aload_n 0, 1) := by decide +kernel
theorem dX4_control_152 : decode cX4_control 152 = .ok (.invokevirtual 137, 3) := by decide +kernel
theorem dX4_control_155 : decode cX4_control 155 = .ok (.goto 48, 3) := by decide +kernel
theorem dX4_control_158 : decode cX4_control 158 = .ok (.aload_n 0, 1) := by decide +kernel
theorem dX4_control_159 : decode cX4_control 159 = .ok (.iload_n 1, 1) := by decide +kernel
theorem dX4_control_160 : decode cX4_control 160 = .ok (.bipush 10, 2) := by decide +kernel
theorem dX4_control_162 : decode cX4_control 162 = .ok (.isub, 1) := by decide +kernel
theorem dX4_control_163 : decode cX4_control 163 = .ok (.putfield 44, 3) := by decide +kernel
theorem dX4_control_166 : decode cX4_control 166 = .ok (.goto 37, 3) := by decide +kernel
theorem dX4_control_169 : decode cX4_control 169 = .ok (.aload_n 0, 1) := by decide +kernel
theorem dX4_control_170 : decode cX4_control 170 = .ok (.aload_n 0, 1) := by decide +kernel
theorem dX4_control_171 : decode cX4_control 171 = .ok (.getfield 32, 3) := by decide +kernel
theorem dX4_control_174 : decode cX4_control 174 = .ok (.invokevirtual 140, 3) := by decide +kernel
theorem dX4_control_177 : decode cX4_control 177 = .ok (.goto 26, 3) := by decide +kernel
theorem dX4_control_180 : decode cX4_control 180 = .ok (.aload_n 0, 1) := by decide +kernel
theorem dX4_control_181 : decode cX4_control 181 = .ok (.iload_n 1, 1) := by decide +kernel
theorem dX4_control_182 : decode cX4_control 182 = .ok (.bipush 7, 2) := by decide +kernel
theorem dX4_control_184 : decode cX4_control 184 = .ok (.iand, 1) := by decide +kernel
theorem dX4_control_185 : decode cX4_control 185 = .ok (.aload_n 0, 1) := by decide +kernel
theorem dX4_control_186 : decode cX4_control 186 = .ok (.iload_n 1, 1) := by decide +kernel
theorem dX4_control_187 : decode cX4_control 187 = .ok (.invokevirtual 143, 3) := by decide +kernel
theorem dX4_control_190 : decode cX4_control 190 = .ok (.aload_n 0, 1) := by decide +kernel
theorem dX4_control_191 : decode cX4_control 191 = .ok (.getfield 32, 3) := by decide +kernel
theorem dX4_control_194 : decode cX4_control 194 = .ok (.iconst 1, 1) := by decide +kernel
theorem dX4_control_195 : decode cX4_control 195 = .ok (.aload_n 0, 1) := by decide +kernel
theorem dX4_control_196 : decode cX4_control 196 = .ok (.getfield 32, 3) := by decide +kernel
theorem dX4_control_199 : decode cX4_control 199 = .ok (.isub, 1) := by decide +kernel
theorem dX4_control_200 : decode cX4_control 200 = .ok (.invokevirtual 146, 3) := by decide +kernel
theorem dX4_control_203 : decode cX4_control 203 = .ok (.return_, 1) := by decide +kernel
theorem dX4_resume_0 : decode cX4_resume 0 = .ok (.aload_n 0, 1) := by decide +kernel
theorem dX4_resume_1 : decode cX4_resume 1 = .ok (.aload_n 0, 1) := by decide +kernel
theorem dX4_resume_2 : decode cX4_resume 2 = .ok (.getfield 38, 3) := by decide +kernel
theorem dX4_resume_5 : decode cX4_resume 5 = .ok (.invokevirtual 63, 3) := by decide +kernel
theorem dX4_resume_8 : decode cX4_resume 8 = .ok (.istore_n 2, 1) := by decide +kernel
theorem dX4_resume_9 : decode cX4_resume 9 = .ok (.aload_n 0, 1) := by decide +kernel
theorem dX4_resume_10 : decode cX4_resume 10 = .ok (.iload_n 2, 1) := by decide +kernel
theorem dX4_resume_11 : decode cX4_resume 11 = .ok (.iconst 4, 1) := by decide +kernel
theorem dX4_resume_12 : decode cX4_resume 12 = .ok (.ishr, 1) := by decide +kernel
theorem dX4_resume_13 : decode cX4_resume 13 = .ok (.putfield 38, 3) := by decide +kernel
theorem dX4_resume_16 : decode cX4_resume 16 = .ok (.aload_n 0, 1) := by decide +kernel
theorem dX4_resume_17 : decode cX4_resume 17 = .ok (.iload_n 2, 1) := by decide +kernel
theorem dX4_resume_18 : decode cX4_resume 18 = .ok (.bipush 15, 2) := by decide +kernel
theorem dX4_resume_20 : decode cX4_resume 20 = .ok (.iand, 1) := by decide +kernel
theorem dX4_resume_21 : decode cX4_resume 21 = .ok (.putfield 35, 3) := by decide +kernel
theorem dX4_resume_24 : decode cX4_resume 24 = .ok (.aload_n 0, 1) := by decide +kernel
theorem dX4_resume_25 : decode cX4_resume 25 = .ok (.iload_n 1, 1) := by decide +kernel
theorem dX4_resume_26 : decode cX4_resume 26 = .ok (.putfield 13, 3) := by decide +kernel
theorem dX4_resume_29 : decode cX4_resume 29 = .ok (.return_, 1) := by decide +kernel
theorem dX4_mark_0 : decode cX4_mark 0 = .ok (.aload_n 0, 1) := by decide +kernel
theorem dX4_mark_1 : decode cX4_mark 1 = .ok (.bipush 16, 2) := by decide +kernel
theorem dX4_mark_3 : decode cX4_mark 3 = .ok (.aload_n 0, 1) := by decide +kernel
theorem dX4_mark_4 : decode cX4_mark 4 = .ok (.getfield 38, 3) := by decide +kernel
theorem dX4_mark_7 : decode cX4_mark 7 = .ok (.imul, 1) := by decide +kernel
theorem dX4_mark_8 : decode cX4_mark 8 = .ok (.aload_n 0, 1) := by decide +kernel
theorem dX4_mark_9 : decode cX4_mark 9 = .ok (.getfield 35, 3) := by decide +kernel
theorem dX4_mark_12 : decode cX4_mark 12 = .ok (.iadd, 1) := by decide +kernel
theorem dX4_mark_13 : decode cX4_mark 13 = .ok (.putfield 41, 3) := by decide +kernel
theorem dX4_mark_16 : decode cX4_mark 16 = .ok (.aload_n 0, 1) := by decide +kernel
theorem dX4_mark_17 : decode cX4_mark 17 = .ok (.iconst 2, 1) := by decide +kernel
theorem dX4_mark_18 : decode cX4_mark 18 = .ok (.aload_n 0, 1) := by decide +kernel
theorem dX4_mark_19 : decode cX4_mark 19 = .ok (.getfield 41, 3) := by decide +kernel
theorem dX4_mark_22 : decode cX4_mark 22 = .ok (.invokevirtual 87, 3) := by decide +kernel
theorem dX4_mark_25 : decode cX4_mark 25 = .ok (.aload_n 0, 1) := by decide +kernel
theorem dX4_mark_26 : decode cX4_mark 26 = .ok (.aload_n 0, 1) := by decide +kernel
theorem dX4_mark_27 : decode cX4_mark 27 = .ok (.getfield 35, 3) := by decide +kernel
theorem dX4_mark_30 : decode cX4_mark 30 = .ok (.putfield 38, 3) := by decide +kernel
theorem dX4_mark_33 : decode cX4_mark 33 = .ok (.aload_n 0, 1) := by decide +kernel
theorem dX4_mark_34 : decode cX4_mark 34 = .ok (.iconst 2, 1) := by decide +kernel
theorem dX4_mark_35 : decode cX4_mark 35 = .ok (.iconst (-1), 1) := by decide +kernel
theorem dX4_mark_36 : decode cX4_mark 36 = .ok (.invokevirtual 81, 3) := by decide +kernel
theorem dX4_mark_39 : decode cX4_mark 39 = .ok (.return_, 1) := by decide +kernel
theorem dX4_goFar_0 : decode cX4_goFar 0 = .ok (.iload_n 1, 1) := by decide +kernel
theorem dX4_goFar_1 : decode cX4_goFar 1 = .ok (.iconst 3, 1) := by decide +kernel
theorem dX4_goFar_2 : decode cX4_goFar 2 = .ok (.if_icmp .le 15, 3) := by decide +kernel
theorem dX4_goFar_5 : decode cX4_goFar 5 = .ok (.iload_n 1, 1) := by decide +kernel
theorem dX4_goFar_6 : decode cX4_goFar 6 = .ok (.bipush 9, 2) := by decide +kernel
theorem dX4_goFar_8 : decode cX4_goFar 8 = .ok (.if_icmp .lt 17, 3) := by decide +kernel
theorem dX4_goFar_11 : decode cX4_goFar 11 = .ok (.iload_n 1, 1) := by decide +kernel
theorem dX4_goFar_12 : decode cX4_goFar 12 = .ok (.bipush 11, 2) := by decide +kernel
theorem dX4_goFar_14 : decode cX4_goFar 14 = .ok (.if_icmp .gt 11, 3) := by decide +kernel
theorem dX4_goFar_17 : decode cX4_goFar 17 = .ok (.aload_n 0, 1) := by decide +kernel
theorem dX4_goFar_18 : decode cX4_goFar 18 = .ok (.iload_n 1, 1) := by decide +kernel
theorem dX4_goFar_19 : decode cX4_goFar 19 = .ok (.invokevirtual 150, 3) := by decide +kernel
theorem dX4_goFar_22 : decode cX4_goFar 22 = .ok (.goto 20, 3) := by decide +kernel
theorem dX4_goFar_25 : decode cX4_goFar 25 = .ok (.aload_n 0, 1) := by decide +kernel
theorem dX4_goFar_26 : decode cX4_goFar 26 = .ok (.iload_n 1, 1) := by decide +kernel
theorem dX4_goFar_27 : decode cX4_goFar 27 = .ok (.invokevirtual 153, 3) := by decide +kernel
theorem dX4_goFar_30 : decode cX4_goFar 30 = .ok (.ifCond .eq 12, 3) := by decide +kernel
theorem dX4_goFar_33 : decode cX4_goFar 33 = .ok (.aload_n 0, 1) := by decide +kernel
theorem dX4_goFar_34 : decode cX4_goFar 34 = .ok (.aload_n 0, 1) := by decide +kernel
theorem dX4_goFar_35 : decode cX4_goFar 35 = .ok (.getfield 35, 3) := by decide +kernel
theorem dX4_goFar_38 : decode cX4_goFar 38 = .ok (.iconst 2, 1) := by decide +kernel
theorem dX4_goFar_39 : decode cX4_goFar 39 = .ok (.invokevirtual 81, 3) := by decide +kernel
theorem dX4_goFar_42 : decode cX4_goFar 42 = .ok (.return_, 1) := by decide +kernel
theorem dX4_branchFar_0 : decode cX4_branchFar 0 = .ok (.aload_n 0, 1) := by decide +kernel
theorem dX4_branchFar_1 : decode cX4_branchFar 1 = .ok (.iload_n 1, 1) := by decide +kernel
theorem dX4_branchFar_2 : decode cX4_branchFar 2 = .ok (.invokevirtual 106, 3) := by decide +kernel
theorem dX4_branchFar_5 : decode cX4_branchFar 5 = .ok (.ifCond .eq 29, 3) := by decide +kernel
theorem dX4_branchFar_8 : decode cX4_branchFar 8 = .ok (.aload_n 0, 1) := by decide +kernel
theorem dX4_branchFar_9 : decode cX4_branchFar 9 = .ok (.aload_n 0, 1) := by decide +kernel
theorem dX4_branchFar_10 : decode cX4_branchFar 10 = .ok (.getfield 35, 3) := by decide +kernel
theorem dX4_branchFar_13 : decode cX4_branchFar 13 = .ok (.aload_n 0, 1) := by decide +kernel
theorem dX4_branchFar_14 : decode cX4_branchFar 14 = .ok (.getfield 17, 3) := by decide +kernel
theorem dX4_branchFar_17 : decode cX4_branchFar 17 = .ok (.aload_n 0, 1) := by decide +kernel
theorem dX4_branchFar_18 : decode cX4_branchFar 18 = .ok (.aload_n 0, 1) := by decide +kernel
theorem dX4_branchFar_19 : decode cX4_branchFar 19 = .ok (.getfield 35, 3) := by decide +kernel
theorem dX4_branchFar_22 : decode cX4_branchFar 22 = .ok (.invokevirtual 51, 3) := by decide +kernel
theorem dX4_branchFar_25 : decode cX4_branchFar 25 = .ok (.invokevirtual 156, 3) := by decide +kernel
theorem dX4_branchFar_28 : decode cX4_branchFar 28 = .ok (.invokevirtual 56, 3) := by decide +kernel
theorem dX4_branchFar_31 : decode cX4_branchFar 31 = .ok (.goto 12, 3) := by decide +kernel
theorem dX4_branchFar_34 : decode cX4_branchFar 34 = .ok (.aload_n 0, 1) := by decide +kernel
theorem dX4_branchFar_35 : decode cX4_branchFar 35 = .ok (.aload_n 0, 1) := by decide +kernel
theorem dX4_branchFar_36 : decode cX4_branchFar 36 = .ok (.getfield 35, 3) := by decide +kernel
theorem dX4_branchFar_39 : decode cX4_branchFar 39 = .ok (.iconst 2, 1) := by decide +kernel
theorem dX4_branchFar_40 : decode cX4_branchFar 40 = .ok (.invokevirtual 81, 3) := by decide +kernel
theorem dX4_branchFar_43 : decode cX4_branchFar 43 = .ok (.return_, 1) := by decide +kernel
theorem dX4_skips_0 : decode cX4_skips 0 = .ok (.iload_n 1, 1) := by decide +kernel
theorem dX4_skips_1 : decode cX4_skips 1 = .ok (.tableswitch 155 5 15 #[59, 72, 85, 98, 155, 155, 155, 100, 114, 128, 141], 59) := by decide +kernel
theorem dX4_skips_60 : decode cX4_skips 60 = .ok (.aload_n 0, 1) := by decide +kernel
theorem dX4_skips_61 : decode cX4_skips 61 = .ok (.getfield 44, 3) := by decide +kernel
theorem dX4_skips_64 : decode cX4_skips 64 = .ok (.ifCond .ne 7, 3) := by decide +kernel
theorem dX4_skips_67 : decode cX4_skips 67 = .ok (.iconst 1, 1) := by decide +kernel
theorem dX4_skips_68 : decode cX4_skips 68 = .ok (.goto 4, 3) := by decide +kernel
theorem dX4_skips_71 : decode cX4_skips 71 = .ok (.iconst 0, 1) := by decide +kernel
theorem dX4_skips_72 : decode cX4_skips 72 = .ok (.ireturn, 1) := by decide +kernel
theorem dX4_skips_73 : decode cX4_skips 73 = .ok (.aload_n 0, 1) := by decide +kernel
theorem dX4_skips_74 : decode cX4_skips 74 = .ok (.getfield 29, 3) := by decide +kernel
theorem dX4_skips_77 : decode cX4_skips 77 = .ok (.ifCond .eq 7, 3) := by decide +kernel
theorem dX4_skips_80 : decode cX4_skips 80 = .ok (.iconst 1, 1) := by decide +kernel
theorem dX4_skips_81 : decode cX4_skips 81 = .ok (.goto 4, 3) := by decide +kernel
theorem dX4_skips_84 : decode cX4_skips 84 = .ok (.iconst 0, 1) := by decide +kernel
theorem dX4_skips_85 : decode cX4_skips 85 = .ok (.ireturn, 1) := by decide +kernel
theorem dX4_skips_86 : decode cX4_skips 86 = .ok (.aload_n 0, 1) := by decide +kernel
theorem dX4_skips_87 : decode cX4_skips 87 = .ok (.getfield 32, 3) := by decide +kernel
theorem dX4_skips_90 : decode cX4_skips 90 = .ok (.ifCond .ne 7, 3) := by decide +kernel
theorem dX4_skips_93 : decode cX4_skips 93 = .ok (.iconst 1, 1) := by decide +kernel
theorem dX4_skips_94 : decode cX4_skips 94 = .ok (.goto 4, 3) := by decide +kernel
theorem dX4_skips_97 : decode cX4_skips 97 = .ok (.iconst 0, 1) := by decide +kernel
theorem dX4_skips_98 : decode cX4_skips 98 = .ok (.ireturn, 1) := by decide +kernel
theorem dX4_skips_99 : decode cX4_skips 99 = .ok (.iconst 1, 1) := by decide +kernel
theorem dX4_skips_100 : decode cX4_skips 100 = .ok (.ireturn, 1) := by decide +kernel
theorem dX4_skips_101 : decode cX4_skips 101 = .ok (.aload_n 0, 1) := by decide +kernel
theorem dX4_skips_102 : decode cX4_skips 102 = .ok (.getfield 13, 3) := by decide +kernel
theorem dX4_skips_105 : decode cX4_skips 105 = .ok (.iconst 1, 1) := by decide +kernel
theorem dX4_skips_106 : decode cX4_skips 106 = .ok (.if_icmp .ne 7, 3) := by decide +kernel
theorem dX4_skips_109 : decode cX4_skips 109 = .ok (.iconst 1, 1) := by decide +kernel
theorem dX4_skips_110 : decode cX4_skips 110 = .ok (.goto 4, 3) := by decide +kernel
theorem dX4_skips_113 : decode cX4_skips 113 = .ok (.iconst 0, 1) := by decide +kernel
theorem dX4_skips_114 : decode cX4_skips 114 = .ok (.ireturn, 1) := by decide +kernel
theorem dX4_skips_115 : decode cX4_skips 115 = .ok (.aload_n 0, 1) := by decide +kernel
theorem dX4_skips_116 : decode cX4_skips 116 = .ok (.getfield 44, 3) := by decide +kernel
theorem dX4_skips_119 : decode cX4_skips 119 = .ok (.iconst 1, 1) := by decide +kernel
theorem dX4_skips_120 : decode cX4_skips 120 = .ok (.if_icmp .ne 7, 3) := by decide +kernel
theorem dX4_skips_123 : decode cX4_skips 123 = .ok (.iconst 1, 1) := by decide +kernel
theorem dX4_skips_124 : decode cX4_skips 124 = .ok (.goto 4, 3) := by decide +kernel
theorem dX4_skips_127 : decode cX4_skips 127 = .ok (.iconst 0, 1) := by decide +kernel
theorem dX4_skips_128 : decode cX4_skips 128 = .ok (.ireturn, 1) := by decide +kernel
theorem dX4_skips_129 : decode cX4_skips 129 = .ok (.aload_n 0, 1) := by decide +kernel
theorem dX4_skips_130 : decode cX4_skips 130 = .ok (.getfield 29, 3) := by decide +kernel
theorem dX4_skips_133 : decode cX4_skips 133 = .ok (.ifCond .ne 7, 3) := by decide +kernel
theorem dX4_skips_136 : decode cX4_skips 136 = .ok (.iconst 1, 1) := by decide +kernel
theorem dX4_skips_137 : decode cX4_skips 137 = .ok (.goto 4, 3) := by decide +kernel
theorem dX4_skips_140 : decode cX4_skips 140 = .ok (.iconst 0, 1) := by decide +kernel
theorem dX4_skips_141 : decode cX4_skips 141 = .ok (.ireturn, 1) := by decide +kernel
theorem dX4_skips_142 : decode cX4_skips 142 = .ok (.aload_n 0, 1) := by decide +kernel
theorem dX4_skips_143 : decode cX4_skips 143 = .ok (.getfield 32, 3) := by decide +kernel
theorem dX4_skips_146 : decode cX4_skips 146 = .ok (.iconst 1, 1) := by decide +kernel
theorem dX4_skips_147 : decode cX4_skips 147 = .ok (.if_icmp .ne 7, 3) := by decide +kernel
theorem dX4_skips_150 : decode cX4_skips 150 = .ok (.iconst 1, 1) := by decide +kernel
theorem dX4_skips_151 : decode cX4_skips 151 = .ok (.goto 4, 3) := by decide +kernel
theorem dX4_skips_154 : decode cX4_skips 154 = .ok (.iconst 0, 1) := by decide +kernel
theorem dX4_skips_155 : decode cX4_skips 155 = .ok (.ireturn, 1) := by decide +kernel
theorem dX4_skips_156 : decode cX4_skips 156 = .ok (.iconst 0, 1) := by decide +kernel
theorem dX4_skips_157 : decode cX4_skips 157 = .ok (.ireturn, 1) := by decide +kernel
theorem dX4_calculate_0 : decode cX4_calculate 0 = .ok (.iload_n 1, 1) := by decide +kernel
theorem dX4_calculate_1 : decode cX4_calculate 1 = .ok (.bipush 6, 2) := by decide +kernel
theorem dX4_calculate_3 : decode cX4_calculate 3 = .ok (.if_icmp .ne 11, 3) := by decide +kernel
theorem dX4_calculate_6 : decode cX4_calculate 6 = .ok (.aload_n 0, 1) := by decide +kernel
theorem dX4_calculate_7 : decode cX4_calculate 7 = .ok (.iconst 0, 1) := by decide +kernel
theorem dX4_calculate_8 : decode cX4_calculate 8 = .ok (.invokevirtual 134, 3) := by decide +kernel
theorem dX4_calculate_11 : decode cX4_calculate 11 = .ok (.goto 32, 3) := by decide +kernel
theorem dX4_calculate_14 : decode cX4_calculate 14 = .ok (.iload_n 1, 1) := by decide +kernel
theorem dX4_calculate_15 : decode cX4_calculate 15 = .ok (.bipush 14, 2) := by decide +kernel
theorem dX4_calculate_17 : decode cX4_calculate 17 = .ok (.if_icmp .ne 11, 3) := by decide +kernel
theorem dX4_calculate_20 : decode cX4_calculate 20 = .ok (.aload_n 0, 1) := by decide +kernel
theorem dX4_calculate_21 : decode cX4_calculate 21 = .ok (.iconst 0, 1) := by decide +kernel
theorem dX4_calculate_22 : decode cX4_calculate 22 = .ok (.invokevirtual 140, 3) := by decide +kernel
theorem dX4_calculate_25 : decode cX4_calculate 25 = .ok (.goto 18, 3) := by decide +kernel
theorem dX4_calculate_28 : decode cX4_calculate 28 = .ok (.aload_n 0, 1) := by decide +kernel
theorem dX4_calculate_29 : decode cX4_calculate 29 = .ok (.iload_n 1, 1) := by decide +kernel
theorem dX4_calculate_30 : decode cX4_calculate 30 = .ok (.bipush 7, 2) := by decide +kernel
theorem dX4_calculate_32 : decode cX4_calculate 32 = .ok (.iand, 1) := by decide +kernel
theorem dX4_calculate_33 : decode cX4_calculate 33 = .ok (.aload_n 0, 1) := by decide +kernel
theorem dX4_calculate_34 : decode cX4_calculate 34 = .ok (.iload_n 1, 1) := by decide +kernel
theorem dX4_calculate_35 : decode cX4_calculate 35 = .ok (.invokevirtual 143, 3) := by decide +kernel
theorem dX4_calculate_38 : decode cX4_calculate 38 = .ok (.iconst 0, 1) := by decide +kernel
theorem dX4_calculate_39 : decode cX4_calculate 39 = .ok (.iconst 0, 1) := by decide +kernel
theorem dX4_calculate_40 : decode cX4_calculate 40 = .ok (.invokevirtual 146, 3) := by decide +kernel
theorem dX4_calculate_43 : decode cX4_calculate 43 = .ok (.return_, 1) := by decide +kernel
theorem dX4_operand_0 : decode cX4_operand 0 = .ok (.iload_n 1, 1) := by decide +kernel
theorem dX4_operand_1 : decode cX4_operand 1 = .ok (.bipush 8, 2) := by decide +kernel
theorem dX4_operand_3 : decode cX4_operand 3 = .ok (.if_icmp .ge 14, 3) := by decide +kernel
theorem dX4_operand_6 : decode cX4_operand 6 = .ok (.aload_n 0, 1) := by decide +kernel
theorem dX4_operand_7 : decode cX4_operand 7 = .ok (.aload_n 0, 1) := by decide +kernel
theorem dX4_operand_8 : decode cX4_operand 8 = .ok (.getfield 38, 3) := by decide +kernel
theorem dX4_operand_11 : decode cX4_operand 11 = .ok (.invokevirtual 103, 3) := by decide +kernel
theorem dX4_operand_14 : decode cX4_operand 14 = .ok (.goto 11, 3) := by decide +kernel
theorem dX4_operand_17 : decode cX4_operand 17 = .ok (.aload_n 0, 1) := by decide +kernel
theorem dX4_operand_18 : decode cX4_operand 18 = .ok (.aload_n 0, 1) := by decide +kernel
theorem dX4_operand_19 : decode cX4_operand 19 = .ok (.getfield 35, 3) := by decide +kernel
theorem dX4_operand_22 : decode cX4_operand 22 = .ok (.invokevirtual 63, 3) := by decide +kernel
theorem dX4_operand_25 : decode cX4_operand 25 = .ok (.ireturn, 1) := by decide +kernel
theorem dX4_combine_0 : decode cX4_combine 0 = .ok (.iload_n 1, 1) := by decide +kernel
theorem dX4_combine_1 : decode cX4_combine 1 = .ok (.tableswitch 109 0 5 #[39, 47, 60, 73, 86, 95], 39) := by decide +kernel
theorem dX4_combine_40 : decode cX4_combine 40 = .ok (.aload_n 0, 1) := by decide +kernel
theorem dX4_combine_41 : decode cX4_combine 41 = .ok (.iload_n 2, 1) := by decide +kernel
theorem dX4_combine_42 : decode cX4_combine 42 = .ok (.putfield 29, 3) := by decide +kernel
theorem dX4_combine_45 : decode cX4_combine 45 = .ok (.goto 76, 3) := by decide +kernel
theorem dX4_combine_48 : decode cX4_combine 48 = .ok (.aload_n 0, 1) := by decide +kernel
theorem dX4_combine_49 : decode cX4_combine 49 = .ok (.aload_n 0, 1) := by decide +kernel
theorem dX4_combine_50 : decode cX4_combine 50 = .ok (.getfield 29, 3) := by decide +kernel
theorem dX4_combine_53 : decode cX4_combine 53 = .ok (.iload_n 2, 1) := by decide +kernel
theorem dX4_combine_54 : decode cX4_combine 54 = .ok (.ior, 1) := by decide +kernel
theorem dX4_combine_55 : decode cX4_combine 55 = .ok (.putfield 29, 3) := by decide +kernel
theorem dX4_combine_58 : decode cX4_combine 58 = .ok (.goto 63, 3) := by decide +kernel
theorem dX4_combine_61 : decode cX4_combine 61 = .ok (.aload_n 0, 1) := by decide +kernel
theorem dX4_combine_62 : decode cX4_combine 62 = .ok (.aload_n 0, 1) := by decide +kernel
theorem dX4_combine_63 : decode cX4_combine 63 = .ok (.getfield 29, 3) := by decide +kernel
theorem dX4_combine_66 : decode cX4_combine 66 = .ok (.iload_n 2, 1) := by decide +kernel
theorem dX4_combine_67 : decode cX4_combine 67 = .ok (.iand, 1) := by decide +kernel
theorem dX4_combine_68 : decode cX4_combine 68 = .ok (.putfield 29, 3) := by decide +kernel
theorem dX4_combine_71 : decode cX4_combine 71 = .ok (.goto 50, 3) := by decide +kernel
theorem dX4_combine_74 : decode cX4_combine 74 = .ok (.aload_n 0, 1) := by decide +kernel
theorem dX4_combine_75 : decode cX4_combine 75 = .ok (.aload_n 0, 1) := by decide +kernel
theorem dX4_combine_76 : decode cX4_combine 76 = .ok (.getfield 29, 3) := by decide +kernel
theorem dX4_combine_79 : decode cX4_combine 79 = .ok (.iload_n 2, 1) := by decide +kernel
theorem dX4_combine_80 : decode cX4_combine 80 = .ok (.ixor, 1) := by decide +kernel
theorem dX4_combine_81 : decode cX4_combine 81 = .ok (.putfield 29, 3) := by decide +kernel
theorem dX4_combine_84 : decode cX4_combine 84 = .ok (.goto 37, 3) := by decide +kernel
theorem dX4_combine_87 : decode cX4_combine 87 = .ok (.aload_n 0, 1) := by decide +kernel
theorem dX4_combine_88 : decode cX4_combine 88 = .ok (.iload_n 2, 1) := by decide +kernel
theorem dX4_combine_89 : decode cX4_combine 89 = .ok (.iload_n 3, 1) := by decide +kernel
theorem dX4_combine_90 : decode cX4_combine 90 = .ok (.invokevirtual 159, 3) := by decide +kernel
theorem dX4_combine_93 : decode cX4_combine 93 = .ok (.goto 28, 3) := by decide +kernel
theorem dX4_combine_96 : decode cX4_combine 96 = .ok (.aload_n 0, 1) := by decide +kernel
theorem dX4_combine_97 : decode cX4_combine 97 = .ok (.iload_n 2, 1) := by decide +kernel
theorem dX4_combine_98 : decode cX4_combine 98 = .ok (.aload_n 0, 1) := by decide +kernel
theorem dX4_combine_99 : decode cX4_combine 99 = .ok (.getfield 29, 3) := by decide +kernel
theorem dX4_combine_102 : decode cX4_combine 102 = .ok (.iload 4, 2) := by decide +kernel
theorem dX4_combine_104 : decode cX4_combine 104 = .ok (.invokevirtual 162, 3) := by decide +kernel
theorem dX4_combine_107 : decode cX4_combine 107 = .ok (.goto 14, 3) := by decide +kernel
theorem dX4_combine_110 : decode cX4_combine 110 = .ok (.aload_n 0, 1) := by decide +kernel
theorem dX4_combine_111 : decode cX4_combine 111 = .ok (.aload_n 0, 1) := by decide +kernel
theorem dX4_combine_112 : decode cX4_combine 112 = .ok (.getfield 29, 3) := by decide +kernel
theorem dX4_combine_115 : decode cX4_combine 115 = .ok (.iload_n 2, 1) := by decide +kernel
theorem dX4_combine_116 : decode cX4_combine 116 = .ok (.iload 4, 2) := by decide +kernel
theorem dX4_combine_118 : decode cX4_combine 118 = .ok (.invokevirtual 162, 3) := by decide +kernel
theorem dX4_combine_121 : decode cX4_combine 121 = .ok (.return_, 1) := by decide +kernel
theorem dX4_add_0 : decode cX4_add 0 = .ok (.iload_n 1, 1) := by decide +kernel
theorem dX4_add_1 : decode cX4_add 1 = .ok (.aload_n 0, 1) := by decide +kernel
theorem dX4_add_2 : decode cX4_add 2 = .ok (.getfield 29, 3) := by decide +kernel
theorem dX4_add_5 : decode cX4_add 5 = .ok (.iadd, 1) := by decide +kernel
theorem dX4_add_6 : decode cX4_add 6 = .ok (.iload_n 2, 1) := by decide +kernel
theorem dX4_add_7 : decode cX4_add 7 = .ok (.iadd, 1) := by decide +kernel
theorem dX4_add_8 : decode cX4_add 8 = .ok (.istore_n 3, 1) := by decide +kernel
theorem dX4_add_9 : decode cX4_add 9 = .ok (.aload_n 0, 1) := by decide +kernel
theorem dX4_add_10 : decode cX4_add 10 = .ok (.iload_n 3, 1) := by decide +kernel
theorem dX4_add_11 : decode cX4_add 11 = .ok (.sipush 255, 3) := by decide +kernel
theorem dX4_add_14 : decode cX4_add 14 = .ok (.iand, 1) := by decide +kernel
theorem dX4_add_15 : decode cX4_add 15 = .ok (.putfield 29, 3) := by decide +kernel
theorem dX4_add_18 : decode cX4_add 18 = .ok (.aload_n 0, 1) := by decide +kernel
theorem dX4_add_19 : decode cX4_add 19 = .ok (.iload_n 3, 1) := by decide +kernel
theorem dX4_add_20 : decode cX4_add 20 = .ok (.bipush 8, 2) := by decide +kernel
theorem dX4_add_22 : decode cX4_add 22 = .ok (.ishr, 1) := by decide +kernel
theorem dX4_add_23 : decode cX4_add 23 = .ok (.putfield 32, 3) := by decide +kernel
theorem dX4_add_26 : decode cX4_add 26 = .ok (.return_, 1) := by decide +kernel
theorem dX4_subtract_0 : decode cX4_subtract 0 = .ok (.iload_n 1, 1) := by decide +kernel
theorem dX4_subtract_1 : decode cX4_subtract 1 = .ok (.iload_n 2, 1) := by decide +kernel
theorem dX4_subtract_2 : decode cX4_subtract 2 = .ok (.isub, 1) := by decide +kernel
theorem dX4_subtract_3 : decode cX4_subtract 3 = .ok (.iload_n 3, 1) := by decide +kernel
theorem dX4_subtract_4 : decode cX4_subtract 4 = .ok (.isub, 1) := by decide +kernel
theorem dX4_subtract_5 : decode cX4_subtract 5 = .ok (.istore 4, 2) := by decide +kernel
theorem dX4_subtract_7 : decode cX4_subtract 7 = .ok (.aload_n 0, 1) := by decide +kernel
theorem dX4_subtract_8 : decode cX4_subtract 8 = .ok (.iload 4, 2) := by decide +kernel
theorem dX4_subtract_10 : decode cX4_subtract 10 = .ok (.sipush 255, 3) := by decide +kernel
theorem dX4_subtract_13 : decode cX4_subtract 13 = .ok (.iand, 1) := by decide +kernel
theorem dX4_subtract_14 : decode cX4_subtract 14 = .ok (.putfield 29, 3) := by decide +kernel
theorem dX4_subtract_17 : decode cX4_subtract 17 = .ok (.aload_n 0, 1) := by decide +kernel
theorem dX4_subtract_18 : decode cX4_subtract 18 = .ok (.iload 4, 2) := by decide +kernel
theorem dX4_subtract_20 : decode cX4_subtract 20 = .ok (.ifCond .lt 7, 3) := by decide +kernel
theorem dX4_subtract_23 : decode cX4_subtract 23 = .ok (.iconst 1, 1) := by decide +kernel
theorem dX4_subtract_24 : decode cX4_subtract 24 = .ok (.goto 4, 3) := by decide +kernel
theorem dX4_subtract_27 : decode cX4_subtract 27 = .ok (.iconst 0, 1) := by decide +kernel
theorem dX4_subtract_28 : decode cX4_subtract 28 = .ok (.putfield 32, 3) := by decide +kernel
theorem dX4_subtract_31 : decode cX4_subtract 31 = .ok (.return_, 1) := by decide +kernel
theorem dX4_shiftRight_0 : decode cX4_shiftRight 0 = .ok (.aload_n 0, 1) := by decide +kernel
theorem dX4_shiftRight_1 : decode cX4_shiftRight 1 = .ok (.getfield 29, 3) := by decide +kernel
theorem dX4_shiftRight_4 : decode cX4_shiftRight 4 = .ok (.iconst 1, 1) := by decide +kernel
theorem dX4_shiftRight_5 : decode cX4_shiftRight 5 = .ok (.iand, 1) := by decide +kernel
theorem dX4_shiftRight_6 : decode cX4_shiftRight 6 = .ok (.istore_n 2, 1) := by decide +kernel
theorem dX4_shiftRight_7 : decode cX4_shiftRight 7 = .ok (.aload_n 0, 1) := by decide +kernel
theorem dX4_shiftRight_8 : decode cX4_shiftRight 8 = .ok (.aload_n 0, 1) := by decide +kernel
theorem dX4_shiftRight_9 : decode cX4_shiftRight 9 = .ok (.getfield 29, 3) := by decide +kernel
theorem dX4_shiftRight_12 : decode cX4_shiftRight 12 = .ok (.iconst 1, 1) := by decide +kernel
theorem dX4_shiftRight_13 : decode cX4_shiftRight 13 = .ok (.ishr, 1) := by decide +kernel
theorem dX4_shiftRight_14 : decode cX4_shiftRight 14 = .ok (.iload_n 1, 1) := by decide +kernel
theorem dX4_shiftRight_15 : decode cX4_shiftRight 15 = .ok (.bipush 7, 2) := by decide +kernel
theorem dX4_shiftRight_17 : decode cX4_shiftRight 17 = .ok (.ishl, 1) := by decide +kernel
theorem dX4_shiftRight_18 : decode cX4_shiftRight 18 = .ok (.ior, 1) := by decide +kernel
theorem dX4_shiftRight_19 : decode cX4_shiftRight 19 = .ok (.putfield 29, 3) := by decide +kernel
theorem dX4_shiftRight_22 : decode cX4_shiftRight 22 = .ok (.aload_n 0, 1) := by decide +kernel
theorem dX4_shiftRight_23 : decode cX4_shiftRight 23 = .ok (.iload_n 2, 1) := by decide +kernel
theorem dX4_shiftRight_24 : decode cX4_shiftRight 24 = .ok (.putfield 32, 3) := by decide +kernel
theorem dX4_shiftRight_27 : decode cX4_shiftRight 27 = .ok (.return_, 1) := by decide +kernel
theorem dX4_shiftLeft_0 : decode cX4_shiftLeft 0 = .ok (.aload_n 0, 1) := by decide +kernel
theorem dX4_shiftLeft_1 : decode cX4_shiftLeft 1 = .ok (.getfield 29, 3) := by decide +kernel
theorem dX4_shiftLeft_4 : decode cX4_shiftLeft 4 = .ok (.bipush 7, 2) := by decide +kernel
theorem dX4_shiftLeft_6 : decode cX4_shiftLeft 6 = .ok (.ishr, 1) := by decide +kernel
theorem dX4_shiftLeft_7 : decode cX4_shiftLeft 7 = .ok (.istore_n 2, 1) := by decide +kernel
theorem dX4_shiftLeft_8 : decode cX4_shiftLeft 8 = .ok (.aload_n 0, 1) := by decide +kernel
theorem dX4_shiftLeft_9 : decode cX4_shiftLeft 9 = .ok (.aload_n 0, 1) := by decide +kernel
theorem dX4_shiftLeft_10 : decode cX4_shiftLeft 10 = .ok (.getfield 29, 3) := by decide +kernel
theorem dX4_shiftLeft_13 : decode cX4_shiftLeft 13 = .ok (.iconst 1, 1) := by decide +kernel
theorem dX4_shiftLeft_14 : decode cX4_shiftLeft 14 = .ok (.ishl, 1) := by decide +kernel
theorem dX4_shiftLeft_15 : decode cX4_shiftLeft 15 = .ok (.sipush 255, 3) := by decide +kernel
theorem dX4_shiftLeft_18 : decode cX4_shiftLeft 18 = .ok (.iand, 1) := by decide +kernel
theorem dX4_shiftLeft_19 : decode cX4_shiftLeft 19 = .ok (.iload_n 1, 1) := by decide +kernel
theorem dX4_shiftLeft_20 : decode cX4_shiftLeft 20 = .ok (.ior, 1) := by decide +kernel
theorem dX4_shiftLeft_21 : decode cX4_shiftLeft 21 = .ok (.putfield 29, 3) := by decide +kernel
theorem dX4_shiftLeft_24 : decode cX4_shiftLeft 24 = .ok (.aload_n 0, 1) := by decide +kernel
theorem dX4_shiftLeft_25 : decode cX4_shiftLeft 25 = .ok (.iload_n 2, 1) := by decide +kernel
theorem dX4_shiftLeft_26 : decode cX4_shiftLeft 26 = .ok (.putfield 32, 3) := by decide +kernel
theorem dX4_shiftLeft_29 : decode cX4_shiftLeft 29 = .ok (.return_, 1) := by decide +kernel
