theorem dX1_init_0 : decode cX1_init 0 = .ok (.aload_n 0, 1) := by decide +kernel
theorem dX1_init_1 : decode cX1_init 1 = .ok (.invokespecial 1, 3) := by decide +kernel
theorem dX1_init_4 : decode cX1_init 4 = .ok (.aload_n 0, 1) := by decide +kernel
theorem dX1_init_5 : decode cX1_init 5 = .ok (.bipush 16, 2) := by decide +kernel
theorem dX1_init_7 : decode cX1_init 7 = .ok (.newarray .int, 2) := by decide +kernel
theorem dX1_init_9 : decode cX1_init 9 = .ok (.putfield 9, 3) := by decide +kernel
theorem dX1_init_12 : decode cX1_init 12 = .ok (.aload_n 0, 1) := by decide +kernel
theorem dX1_init_13 : decode cX1_init 13 = .ok (.bipush 12, 2) := by decide +kernel
theorem dX1_init_15 : decode cX1_init 15 = .ok (.newarray .int, 2) := by decide +kernel
theorem dX1_init_17 : decode cX1_init 17 = .ok (.putfield 13, 3) := by decide +kernel
theorem dX1_init_20 : decode cX1_init 20 = .ok (.aload_n 0, 1) := by decide +kernel
theorem dX1_init_21 : decode cX1_init 21 = .ok (.sipush 512, 3) := by decide +kernel
theorem dX1_init_24 : decode cX1_init 24 = .ok (.putfield 16, 3) := by decide +kernel
theorem dX1_init_27 : decode cX1_init 27 = .ok (.aload_n 0, 1) := by decide +kernel
theorem dX1_init_28 : decode cX1_init 28 = .ok (.aload_n 1, 1) := by decide +kernel
theorem dX1_init_29 : decode cX1_init 29 = .ok (.putfield 20, 3) := by decide +kernel
theorem dX1_init_32 : decode cX1_init 32 = .ok (.aload_n 0, 1) := by decide +kernel
theorem dX1_init_33 : decode cX1_init 33 = .ok (.aload_n 2, 1) := by decide +kernel
theorem dX1_init_34 : decode cX1_init 34 = .ok (.putfield 24, 3) := by decide +kernel
theorem dX1_init_37 : decode cX1_init 37 = .ok (.aload_n 0, 1) := by decide +kernel
theorem dX1_init_38 : decode cX1_init 38 = .ok (.aload_n 3, 1) := by decide +kernel
theorem dX1_init_39 : decode cX1_init 39 = .ok (.putfield 28, 3) := by decide +kernel
theorem dX1_init_42 : decode cX1_init 42 = .ok (.return_, 1) := by decide +kernel
theorem dX1_restart_0 : decode cX1_restart 0 = .ok (.aload_n 0, 1) := by decide +kernel
theorem dX1_restart_1 : decode cX1_restart 1 = .ok (.iload_n 1, 1) := by decide +kernel
theorem dX1_restart_2 : decode cX1_restart 2 = .ok (.putfield 16, 3) := by decide +kernel
theorem dX1_restart_5 : decode cX1_restart 5 = .ok (.aload_n 0, 1) := by decide +kernel
theorem dX1_restart_6 : decode cX1_restart 6 = .ok (.iconst 0, 1) := by decide +kernel
theorem dX1_restart_7 : decode cX1_restart 7 = .ok (.putfield 32, 3) := by decide +kernel
theorem dX1_restart_10 : decode cX1_restart 10 = .ok (.return_, 1) := by decide +kernel
theorem dX1_part_0 : decode cX1_part 0 = .ok (.iload_n 1, 1) := by decide +kernel
theorem dX1_part_1 : decode cX1_part 1 = .ok (.tableswitch 59 16 21 #[39, 44, 49, 59, 59, 54], 39) := by decide +kernel
theorem dX1_part_40 : decode cX1_part 40 = .ok (.aload_n 0, 1) := by decide +kernel
theorem dX1_part_41 : decode cX1_part 41 = .ok (.getfield 35, 3) := by decide +kernel
theorem dX1_part_44 : decode cX1_part 44 = .ok (.ireturn, 1) := by decide +kernel
theorem dX1_part_45 : decode cX1_part 45 = .ok (.aload_n 0, 1) := by decide +kernel
theorem dX1_part_46 : decode cX1_part 46 = .ok (.getfield 16, 3) := by decide +kernel
theorem dX1_part_49 : decode cX1_part 49 = .ok (.ireturn, 1) := by decide +kernel
theorem dX1_part_50 : decode cX1_part 50 = .ok (.aload_n 0, 1) := by decide +kernel
theorem dX1_part_51 : decode cX1_part 51 = .ok (.getfield 32, 3) := by decide +kernel
theorem dX1_part_54 : decode cX1_part 54 = .ok (.ireturn, 1) := by decide +kernel
theorem dX1_part_55 : decode cX1_part 55 = .ok (.aload_n 0, 1) := by decide +kernel
theorem dX1_part_56 : decode cX1_part 56 = .ok (.getfield 38, 3) := by decide +kernel
theorem dX1_part_59 : decode cX1_part 59 = .ok (.ireturn, 1) := by decide +kernel
theorem dX1_part_60 : decode cX1_part 60 = .ok (.aload_n 0, 1) := by decide +kernel
theorem dX1_part_61 : decode cX1_part 61 = .ok (.iload_n 1, 1) := by decide +kernel
theorem dX1_part_62 : decode cX1_part 62 = .ok (.invokevirtual 41, 3) := by decide +kernel
theorem dX1_part_65 : decode cX1_part 65 = .ok (.ireturn, 1) := by decide +kernel
theorem dX1_step_0 : decode cX1_step 0 = .ok (.aload_n 0, 1) := by decide +kernel
theorem dX1_step_1 : decode cX1_step 1 = .ok (.getfield 16, 3) := by decide +kernel
theorem dX1_step_4 : decode cX1_step 4 = .ok (.istore_n 1, 1) := by decide +kernel
theorem dX1_step_5 : decode cX1_step 5 = .ok (.aload_n 0, 1) := by decide +kernel
theorem dX1_step_6 : decode cX1_step 6 = .ok (.getfield 20, 3) := by decide +kernel
theorem dX1_step_9 : decode cX1_step 9 = .ok (.aload_n 0, 1) := by decide +kernel
theorem dX1_step_10 : decode cX1_step 10 = .ok (.getfield 16, 3) := by decide +kernel
theorem dX1_step_13 : decode cX1_step 13 = .ok (.invokevirtual 45, 3) := by decide +kernel
theorem dX1_step_16 : decode cX1_step 16 = .ok (.istore_n 2, 1) := by decide +kernel
theorem dX1_step_17 : decode cX1_step 17 = .ok (.aload_n 0, 1) := by decide +kernel
theorem dX1_step_18 : decode cX1_step 18 = .ok (.aload_n 0, 1) := by decide +kernel
theorem dX1_step_19 : decode cX1_step 19 = .ok (.getfield 16, 3) := by decide +kernel
theorem dX1_step_22 : decode cX1_step 22 = .ok (.iconst 2, 1) := by decide +kernel
theorem dX1_step_23 : decode cX1_step 23 = .ok (.iadd, 1) := by decide +kernel
theorem dX1_step_24 : decode cX1_step 24 = .ok (.invokevirtual 50, 3) := by decide +kernel
theorem dX1_step_27 : decode cX1_step 27 = .ok (.aload_n 0, 1) := by decide +kernel
theorem dX1_step_28 : decode cX1_step 28 = .ok (.iload_n 2, 1) := by decide +kernel
theorem dX1_step_29 : decode cX1_step 29 = .ok (.invokevirtual 54, 3) := by decide +kernel
theorem dX1_step_32 : decode cX1_step 32 = .ok (.istore_n 3, 1) := by decide +kernel
theorem dX1_step_33 : decode cX1_step 33 = .ok (.iload_n 3, 1) := by decide +kernel
theorem dX1_step_34 : decode cX1_step 34 = .ok (.ifCond .eq 8, 3) := by decide +kernel
theorem dX1_step_37 : decode cX1_step 37 = .ok (.aload_n 0, 1) := by decide +kernel
theorem dX1_step_38 : decode cX1_step 38 = .ok (.iload_n 1, 1) := by decide +kernel
theorem dX1_step_39 : decode cX1_step 39 = .ok (.putfield 16, 3) := by decide +kernel
theorem dX1_step_42 : decode cX1_step 42 = .ok (.iload_n 3, 1) := by decide +kernel
theorem dX1_step_43 : decode cX1_step 43 = .ok (.ireturn, 1) := by decide +kernel
theorem dX1_variable_0 : decode cX1_variable 0 = .ok (.aload_n 0, 1) := by decide +kernel
theorem dX1_variable_1 : decode cX1_variable 1 = .ok (.getfield 9, 3) := by decide +kernel
theorem dX1_variable_4 : decode cX1_variable 4 = .ok (.iload_n 1, 1) := by decide +kernel
theorem dX1_variable_5 : decode cX1_variable 5 = .ok (.bipush 15, 2) := by decide +kernel
theorem dX1_variable_7 : decode cX1_variable 7 = .ok (.iand, 1) := by decide +kernel
theorem dX1_variable_8 : decode cX1_variable 8 = .ok (.iaload, 1) := by decide +kernel
theorem dX1_variable_9 : decode cX1_variable 9 = .ok (.ireturn, 1) := by decide +kernel
theorem dX1_putVariable_0 : decode cX1_putVariable 0 = .ok (.aload_n 0, 1) := by decide +kernel
theorem dX1_putVariable_1 : decode cX1_putVariable 1 = .ok (.getfield 9, 3) := by decide +kernel
theorem dX1_putVariable_4 : decode cX1_putVariable 4 = .ok (.iload_n 1, 1) := by decide +kernel
theorem dX1_putVariable_5 : decode cX1_putVariable 5 = .ok (.bipush 15, 2) := by decide +kernel
theorem dX1_putVariable_7 : decode cX1_putVariable 7 = .ok (.iand, 1) := by decide +kernel
theorem dX1_putVariable_8 : decode cX1_putVariable 8 = .ok (.iload_n 2, 1) := by decide +kernel
theorem dX1_putVariable_9 : decode cX1_putVariable 9 = .ok (.sipush 255, 3) := by decide +kernel
theorem dX1_putVariable_12 : decode cX1_putVariable 12 = .ok (.iand, 1) := by decide +kernel
theorem dX1_putVariable_13 : decode cX1_putVariable 13 = .ok (.iastore, 1) := by decide +kernel
theorem dX1_putVariable_14 : decode cX1_putVariable 14 = .ok (.return_, 1) := by decide +kernel
theorem dX1_putIndex_0 : decode cX1_putIndex 0 = .ok (.aload_n 0, 1) := by decide +kernel
theorem dX1_putIndex_1 : decode cX1_putIndex 1 = .ok (.iload_n 1, 1) := by decide +kernel
theorem dX1_putIndex_2 : decode cX1_putIndex 2 = .ok (.sipush 4095, 3) := by decide +kernel
theorem dX1_putIndex_5 : decode cX1_putIndex 5 = .ok (.iand, 1) := by decide +kernel
theorem dX1_putIndex_6 : decode cX1_putIndex 6 = .ok (.putfield 35, 3) := by decide +kernel
theorem dX1_putIndex_9 : decode cX1_putIndex 9 = .ok (.return_, 1) := by decide +kernel
theorem dX1_jump_0 : decode cX1_jump 0 = .ok (.aload_n 0, 1) := by decide +kernel
theorem dX1_jump_1 : decode cX1_jump 1 = .ok (.iload_n 1, 1) := by decide +kernel
theorem dX1_jump_2 : decode cX1_jump 2 = .ok (.sipush 4095, 3) := by decide +kernel
theorem dX1_jump_5 : decode cX1_jump 5 = .ok (.iand, 1) := by decide +kernel
theorem dX1_jump_6 : decode cX1_jump 6 = .ok (.putfield 16, 3) := by decide +kernel
theorem dX1_jump_9 : decode cX1_jump 9 = .ok (.return_, 1) := by decide +kernel
theorem dX1_skipIf_0 : decode cX1_skipIf 0 = .ok (.iload_n 1, 1) := by decide +kernel
theorem dX1_skipIf_1 : decode cX1_skipIf 1 = .ok (.ifCond .eq 13, 3) := by decide +kernel
theorem dX1_skipIf_4 : decode cX1_skipIf 4 = .ok (.aload_n 0, 1) := by decide +kernel
theorem dX1_skipIf_5 : decode cX1_skipIf 5 = .ok (.aload_n 0, 1) := by decide +kernel
theorem dX1_skipIf_6 : decode cX1_skipIf 6 = .ok (.getfield 16, 3) := by decide +kernel
theorem dX1_skipIf_9 : decode cX1_skipIf 9 = .ok (.iconst 2, 1) := by decide +kernel
theorem dX1_skipIf_10 : decode cX1_skipIf 10 = .ok (.iadd, 1) := by decide +kernel
theorem dX1_skipIf_11 : decode cX1_skipIf 11 = .ok (.invokevirtual 50, 3) := by decide +kernel
theorem dX1_skipIf_14 : decode cX1_skipIf 14 = .ok (.iconst 0, 1) := by decide +kernel
theorem dX1_skipIf_15 : decode cX1_skipIf 15 = .ok (.ireturn, 1) := by decide +kernel
theorem dX1_execute_0 : decode cX1_execute 0 = .ok (.iload_n 1, 1) := by decide +kernel
theorem dX1_execute_1 : decode cX1_execute 1 = .ok (.bipush 8, 2) := by decide +kernel
theorem dX1_execute_3 : decode cX1_execute 3 = .ok (.ishr, 1) := by decide +kernel
theorem dX1_execute_4 : decode cX1_execute 4 = .ok (.bipush 15, 2) := by decide +kernel
theorem dX1_execute_6 : decode cX1_execute 6 = .ok (.iand, 1) := by decide +kernel
theorem dX1_execute_7 : decode cX1_execute 7 = .ok (.istore_n 2, 1) := by decide +kernel
theorem dX1_execute_8 : decode cX1_execute 8 = .ok (.iload_n 1, 1) := by decide +kernel
theorem dX1_execute_9 : decode cX1_execute 9 = .ok (.iconst 4, 1) := by decide +kernel
theorem dX1_execute_10 : decode cX1_execute 10 = .ok (.ishr, 1) := by decide +kernel
theorem dX1_execute_11 : decode cX1_execute 11 = .ok (.bipush 15, 2) := by decide +kernel
theorem dX1_execute_13 : decode cX1_execute 13 = .ok (.iand, 1) := by decide +kernel
theorem dX1_execute_14 : decode cX1_execute 14 = .ok (.istore_n 3, 1) := by decide +kernel
theorem dX1_execute_15 : decode cX1_execute 15 = .ok (.iload_n 1, 1) := by decide +kernel
theorem dX1_execute_16 : decode cX1_execute 16 = .ok (.sipush 255, 3) := by decide +kernel
theorem dX1_execute_19 : decode cX1_execute 19 = .ok (.iand, 1) := by decide +kernel
theorem dX1_execute_20 : decode cX1_execute 20 = .ok (.istore 4, 2) := by decide +kernel
theorem dX1_execute_22 : decode cX1_execute 22 = .ok (.iload_n 1, 1) := by decide +kernel
theorem dX1_execute_23 : decode cX1_execute 23 = .ok (.bipush 12, 2) := by decide +kernel
theorem dX1_execute_25 : decode cX1_execute 25 = .ok (.ishr, 1) := by decide +kernel
theorem dX1_execute_26 : decode cX1_execute 26 = .ok (.tableswitch 289 0 14 #[74, 80, 87, 93, 113, 133, 157, 166, 181, 133, 196, 203, 220, 250, 270], 74) := by decide +kernel
theorem dX1_execute_100 : decode cX1_execute 100 = .ok (.aload_n 0, 1) := by decide +kernel
theorem dX1_execute_101 : decode cX1_execute 101 = .ok (.iload_n 1, 1) := by decide +kernel
theorem dX1_execute_102 : decode cX1_execute 102 = .ok (.invokevirtual 57, 3) := by decide +kernel
theorem dX1_execute_105 : decode cX1_execute 105 = .ok (.ireturn, 1) := by decide +kernel
theorem dX1_execute_106 : decode cX1_execute 106 = .ok (.aload_n 0, 1) := by decide +kernel
theorem dX1_execute_107 : decode cX1_execute 107 = .ok (.iload_n 1, 1) := by decide +kernel
theorem dX1_execute_108 : decode cX1_execute 108 = .ok (.invokevirtual 50, 3) := by decide +kernel
theorem dX1_execute_111 : decode cX1_execute 111 = .ok (.iconst 0, 1) := by decide +kernel
theorem dX1_execute_112 : decode cX1_execute 112 = .ok (.ireturn, 1) := by decide +kernel
theorem dX1_execute_113 : decode cX1_execute 113 = .ok (.aload_n 0, 1) := by decide +kernel
theorem dX1_execute_114 : decode cX1_execute 114 = .ok (.iload_n 1, 1) := by decide +kernel
theorem dX1_execute_115 : decode cX1_execute 115 = .ok (.invokevirtual 60, 3) := by decide +kernel
theorem dX1_execute_118 : decode cX1_execute 118 = .ok (.ireturn, 1) := by decide +kernel
theorem dX1_execute_119 : decode cX1_execute 119 = .ok (.aload_n 0, 1) := by decide +kernel
theorem dX1_execute_120 : decode cX1_execute 120 = .ok (.aload_n 0, 1) := by decide +kernel
theorem dX1_execute_121 : decode cX1_execute 121 = .ok (.iload_n 2, 1) := by decide +kernel
theorem dX1_execute_122 : decode cX1_execute 122 = .ok (.invokevirtual 41, 3) := by decide +kernel
theorem dX1_execute_125 : decode cX1_execute 125 = .ok (.iload 4, 2) := by decide +kernel
theorem dX1_execute_127 : decode cX1_execute 127 = .ok (.if_icmp .ne 7, 3) := by decide +kernel
theorem dX1_execute_130 : decode cX1_execute 130 = .ok (.iconst 1, 1) := by decide +kernel
theorem dX1_execute_131 : decode cX1_execute 131 = .ok (.goto 4, 3) := by decide +kernel
theorem dX1_execute_134 : decode cX1_execute 134 = .ok (.iconst 0, 1) := by decide +kernel
theorem dX1_execute_135 : decode cX1_execute 135 = .ok (.invokevirtual 63, 3) := by decide +kernel
theorem dX1_execute_138 : decode cX1_execute 138 = .ok (.ireturn, 1) := by decide +kernel
theorem dX1_execute_139 : decode cX1_execute 139 = .ok (.aload_n 0, 1) := by decide +kernel
theorem dX1_execute_140 : decode cX1_execute 140 = .ok (.aload_n 0, 1) := by decide +kernel
theorem dX1_execute_141 : decode cX1_execute 141 = .ok (.iload_n 2, 1) := by decide +kernel
theorem dX1_execute_142 : decode cX1_execute 142 = .ok (.invokevirtual 41, 3) := by decide +kernel
theorem dX1_execute_145 : decode cX1_execute 145 = .ok (.iload 4, 2) := by decide +kernel
theorem dX1_execute_147 : decode cX1_execute 147 = .ok (.if_icmp .eq 7, 3) := by decide +kernel
theorem dX1_execute_150 : decode cX1_execute 150 = .ok (.iconst 1, 1) := by decide +kernel
theorem dX1_execute_151 : decode cX1_execute 151 = .ok (.goto 4, 3) := by decide +kernel
theorem dX1_execute_154 : decode cX1_execute 154 = .ok (.iconst 0, 1) := by decide +kernel
theorem dX1_execute_155 : decode cX1_execute 155 = .ok (.invokevirtual 63, 3) := by decide +kernel
theorem dX1_execute_158 : decode cX1_execute 158 = .ok (.ireturn, 1) := by decide +kernel
theorem dX1_execute_159 : decode cX1_execute 159 = .ok (.aload_n 0, 1) := by decide +kernel
theorem dX1_execute_160 : decode cX1_execute 160 = .ok (.iload_n 1, 1) := by decide +kernel
theorem dX1_execute_161 : decode cX1_execute 161 = .ok (.aload_n 0, 1) := by decide +kernel
theorem dX1_execute_162 : decode cX1_execute 162 = .ok (.iload_n 2, 1) := by decide +kernel
theorem dX1_execute_163 : decode cX1_execute 163 = .ok (.invokevirtual 41, 3) := by decide +kernel
theorem dX1_execute_166 : decode cX1_execute 166 = .ok (.aload_n 0, 1) := by decide +kernel
theorem dX1_execute_167 : decode cX1_execute 167 = .ok (.iload_n 3, 1) := by decide +kernel
theorem dX1_execute_168 : decode cX1_execute 168 = .ok (.invokevirtual 41, 3) := by decide +kernel
theorem dX1_execute_171 : decode cX1_execute 171 = .ok (.if_icmp .ne 7, 3) := by decide +kernel
theorem dX1_execute_174 : decode cX1_execute 174 = .ok (.iconst 1, 1) := by decide +kernel
theorem dX1_execute_175 : decode cX1_execute 175 = .ok (.goto 4, 3) := by decide +kernel
theorem dX1_execute_178 : decode cX1_execute 178 = .ok (.iconst 0, 1) := by decide +kernel
theorem dX1_execute_179 : decode cX1_execute 179 = .ok (.invokevirtual 67, 3) := by decide +kernel
theorem dX1_execute_182 : decode cX1_execute 182 = .ok (.ireturn, 1) := by decide +kernel
theorem dX1_execute_183 : decode cX1_execute 183 = .ok (.aload_n 0, 1) := by decide +kernel
theorem dX1_execute_184 : decode cX1_execute 184 = .ok (.iload_n 2, 1) := by decide +kernel
theorem dX1_execute_185 : decode cX1_execute 185 = .ok (.iload 4, 2) := by decide +kernel
theorem dX1_execute_187 : decode cX1_execute 187 = .ok (.invokevirtual 71, 3) := by decide +kernel
theorem dX1_execute_190 : decode cX1_execute 190 = .ok (.iconst 0, 1) := by decide +kernel
theorem dX1_execute_191 : decode cX1_execute 191 = .ok (.ireturn, 1) := by decide +kernel
theorem dX1_execute_192 : decode cX1_execute 192 = .ok (.aload_n 0, 1) := by decide +kernel
theorem dX1_execute_193 : decode cX1_execute 193 = .ok (.iload_n 2, 1) := by decide +kernel
theorem dX1_execute_194 : decode cX1_execute 194 = .ok (.aload_n 0, 1) := by decide +kernel
theorem dX1_execute_195 : decode cX1_execute 195 = .ok (.iload_n 2, 1) := by decide +kernel
theorem dX1_execute_196 : decode cX1_execute 196 = .ok (.invokevirtual 41, 3) := by decide +kernel
theorem dX1_execute_199 : decode cX1_execute 199 = .ok (.iload 4, 2) := by decide +kernel
theorem dX1_execute_201 : decode cX1_execute 201 = .ok (.iadd, 1) := by decide +kernel
theorem dX1_execute_202 : decode cX1_execute 202 = .ok (.invokevirtual 71, 3) := by decide +kernel
theorem dX1_execute_205 : decode cX1_execute 205 = .ok (.iconst 0, 1) := by decide +kernel
theorem dX1_execute_206 : decode cX1_execute 206 = .ok (.ireturn, 1) := by decide +kernel
theorem dX1_execute_207 : decode cX1_execute 207 = .ok (.aload_n 0, 1) := by decide +kernel
theorem dX1_execute_208 : decode cX1_execute 208 = .ok (.iload_n 1, 1) := by decide +kernel
theorem dX1_execute_209 : decode cX1_execute 209 = .ok (.bipush 15, 2) := by decide +kernel
theorem dX1_execute_211 : decode cX1_execute 211 = .ok (.iand, 1) := by decide +kernel
theorem dX1_execute_212 : decode cX1_execute 212 = .ok (.iload_n 2, 1) := by decide +kernel
theorem dX1_execute_213 : decode cX1_execute 213 = .ok (.aload_n 0, 1) := by decide +kernel
theorem dX1_execute_214 : decode cX1_execute 214 = .ok (.iload_n 3, 1) := by decide +kernel
theorem dX1_execute_215 : decode cX1_execute 215 = .ok (.invokevirtual 41, 3) := by decide +kernel
theorem dX1_execute_218 : decode cX1_execute 218 = .ok (.invokevirtual 75, 3) := by decide +kernel
theorem dX1_execute_221 : decode cX1_execute 221 = .ok (.ireturn, 1) := by decide +kernel
theorem dX1_execute_222 : decode cX1_execute 222 = .ok (.aload_n 0, 1) := by decide +kernel
theorem dX1_execute_223 : decode cX1_execute 223 = .ok (.iload_n 1, 1) := by decide +kernel
theorem dX1_execute_224 : decode cX1_execute 224 = .ok (.invokevirtual 79, 3) := by decide +kernel
theorem dX1_execute_227 : decode cX1_execute 227 = .ok (.iconst 0, 1) := by decide +kernel
theorem dX1_execute_228 : decode cX1_execute 228 = .ok (.ireturn, 1) := by decide +kernel
theorem dX1_execute_229 : decode cX1_execute 229 = .ok (.aload_n 0, 1) := by decide +kernel
theorem dX1_execute_230 : decode cX1_execute 230 = .ok (.iload_n 1, 1) := by decide +kernel
theorem dX1_execute_231 : decode cX1_execute 231 = .ok (.sipush 4095, 3) := by decide +kernel
theorem dX1_execute_234 : decode cX1_execute 234 = .ok (.iand, 1) := by decide +kernel
theorem dX1_execute_235 : decode cX1_execute 235 = .ok (.aload_n 0, 1) := by decide +kernel
theorem dX1_execute_236 : decode cX1_execute 236 = .ok (.iconst 0, 1) := by decide +kernel
theorem dX1_execute_237 : decode cX1_execute 237 = .ok (.invokevirtual 41, 3) := by decide +kernel
theorem dX1_execute_240 : decode cX1_execute 240 = .ok (.iadd, 1) := by decide +kernel
theorem dX1_execute_241 : decode cX1_execute 241 = .ok (.invokevirtual 50, 3) := by decide +kernel
theorem dX1_execute_244 : decode cX1_execute 244 = .ok (.iconst 0, 1) := by decide +kernel
theorem dX1_execute_245 : decode cX1_execute 245 = .ok (.ireturn, 1) := by decide +kernel
theorem dX1_execute_246 : decode cX1_execute 246 = .ok (.aload_n 0, 1) := by decide +kernel
theorem dX1_execute_247 : decode cX1_execute 247 = .ok (.aload_n 0, 1) := by decide +kernel
theorem dX1_execute_248 : decode cX1_execute 248 = .ok (.getfield 38, 3) := by decide +kernel
theorem dX1_execute_251 : decode cX1_execute 251 = .ok (.iconst 5, 1) := by decide +kernel
theorem dX1_execute_252 : decode cX1_execute 252 = .ok (.imul, 1) := by decide +kernel
theorem dX1_execute_253 : decode cX1_execute 253 = .ok (.iconst 1, 1) := by decide +kernel
theorem dX1_execute_254 : decode cX1_execute 254 = .ok (.iadd, 1) := by decide +kernel
theorem dX1_execute_255 : decode cX1_execute 255 = .ok (.sipush 255, 3) := by decide +kernel
theorem dX1_execute_258 : decode cX1_execute 258 = .ok (.iand, 1) := by decide +kernel
theorem dX1_execute_259 : decode cX1_execute 259 = .ok (.putfield 38, 3) := by decide +kernel
theorem dX1_execute_262 : decode cX1_execute 262 = .ok (.aload_n 0, 1) := by decide +kernel
theorem dX1_execute_263 : decode cX1_execute 263 = .ok (.iload_n 2, 1) := by decide +kernel
theorem dX1_execute_264 : decode cX1_execute 264 = .ok (.aload_n 0, 1) := by decide +kernel
theorem dX1_execute_265 : decode cX1_execute 265 = .ok (.getfield 38, 3) := by decide +kernel
theorem dX1_execute_268 : decode cX1_execute 268 = .ok (.iload 4, 2) := by decide +kernel
theorem dX1_execute_270 : decode cX1_execute 270 = .ok (.iand, 1) := by decide +kernel
theorem dX1_execute_271 : decode cX1_execute 271 = .ok (.invokevirtual 71, 3) := by decide +kernel
theorem dX1_execute_274 : decode cX1_execute 274 = .ok (.iconst 0, 1) := by decide +kernel
theorem dX1_execute_275 : decode cX1_execute 275 = .ok (.ireturn, 1) := by decide +kernel
theorem dX1_execute_276 : decode cX1_execute 276 = .ok (.aload_n 0, 1) := by decide +kernel
theorem dX1_execute_277 : decode cX1_execute 277 = .ok (.aload_n 0, 1) := by decide +kernel
theorem dX1_execute_278 : decode cX1_execute 278 = .ok (.iload_n 2, 1) := by decide +kernel
theorem dX1_execute_279 : decode cX1_execute 279 = .ok (.invokevirtual 41, 3) := by decide +kernel
theorem dX1_execute_282 : decode cX1_execute 282 = .ok (.aload_n 0, 1) := by decide +kernel
theorem dX1_execute_283 : decode cX1_execute 283 = .ok (.iload_n 3, 1) := by decide +kernel
theorem dX1_execute_284 : decode cX1_execute 284 = .ok (.invokevirtual 41, 3) := by decide +kernel
theorem dX1_execute_287 : decode cX1_execute 287 = .ok (.iload_n 1, 1) := by decide +kernel
theorem dX1_execute_288 : decode cX1_execute 288 = .ok (.bipush 15, 2) := by decide +kernel
theorem dX1_execute_290 : decode cX1_execute 290 = .ok (.iand, 1) := by decide +kernel
theorem dX1_execute_291 : decode cX1_execute 291 = .ok (.invokevirtual 82, 3) := by decide +kernel
theorem dX1_execute_294 : decode cX1_execute 294 = .ok (.iconst 0, 1) := by decide +kernel
theorem dX1_execute_295 : decode cX1_execute 295 = .ok (.ireturn, 1) := by decide +kernel
theorem dX1_execute_296 : decode cX1_execute 296 = .ok (.aload_n 0, 1) := by decide +kernel
theorem dX1_execute_297 : decode cX1_execute 297 = .ok (.iload 4, 2) := by decide +kernel
theorem dX1_execute_299 : decode cX1_execute 299 = .ok (.aload_n 0, 1) := by decide +kernel
theorem dX1_execute_300 : decode cX1_execute 300 = .ok (.getfield 24, 3) := by decide +kernel
theorem dX1_execute_303 : decode cX1_execute 303 = .ok (.aload_n 0, 1) := by decide +kernel
theorem dX1_execute_304 : decode cX1_execute 304 = .ok (.iload_n 2, 1) := by decide +kernel
theorem dX1_execute_305 : decode cX1_execute 305 = .ok (.invokevirtual 41, 3) := by decide +kernel
theorem dX1_execute_308 : decode cX1_execute 308 = .ok (.invokevirtual 86, 3) := by decide +kernel
theorem dX1_execute_311 : decode cX1_execute 311 = .ok (.invokevirtual 92, 3) := by decide +kernel
theorem dX1_execute_314 : decode cX1_execute 314 = .ok (.ireturn, 1) := by decide +kernel
theorem dX1_execute_315 : decode cX1_execute 315 = .ok (.iload 4, 2) := by decide +kernel
theorem dX1_execute_317 : decode cX1_execute 317 = .ok (.bipush 48, 2) := by decide +kernel
theorem dX1_execute_319 : decode cX1_execute 319 = .ok (.if_icmp .lt 13, 3) := by decide +kernel
theorem dX1_execute_322 : decode cX1_execute 322 = .ok (.aload_n 0, 1) := by decide +kernel
theorem dX1_execute_323 : decode cX1_execute 323 = .ok (.iload_n 2, 1) := by decide +kernel
theorem dX1_execute_324 : decode cX1_execute 324 = .ok (.iload 4, 2) := by decide +kernel
theorem dX1_execute_326 : decode cX1_execute 326 = .ok (.invokevirtual 95, 3) := by decide +kernel
theorem dX1_execute_329 : decode cX1_execute 329 = .ok (.goto 10, 3) := by decide +kernel
theorem dX1_execute_332 : decode cX1_execute 332 = .ok (.aload_n 0, 1) := by decide +kernel
theorem dX1_execute_333 : decode cX1_execute 333 = .ok (.iload_n 2, 1) := by decide +kernel
theorem dX1_execute_334 : decode cX1_execute 334 = .ok (.iload 4, 2) := by decide +kernel
theorem dX1_execute_336 : decode cX1_execute 336 = .ok (.invokevirtual 99, 3) := by decide +kernel
theorem dX1_execute_339 : decode cX1_execute 339 = .ok (.ireturn, 1) := by decide +kernel
theorem dX1_clearOrLeave_0 : decode cX1_clearOrLeave 0 = .ok (.iload_n 1, 1) := by decide +kernel
theorem dX1_clearOrLeave_1 : decode cX1_clearOrLeave 1 = .ok (.sipush 224, 3) := by decide +kernel
theorem dX1_clearOrLeave_4 : decode cX1_clearOrLeave 4 = .ok (.if_icmp .ne 9, 3) := by decide +kernel
theorem dX1_clearOrLeave_7 : decode cX1_clearOrLeave 7 = .ok (.aload_n 0, 1) := by decide +kernel
theorem dX1_clearOrLeave_8 : decode cX1_clearOrLeave 8 = .ok (.invokevirtual 102, 3) := by decide +kernel
theorem dX1_clearOrLeave_11 : decode cX1_clearOrLeave 11 = .ok (.iconst 0, 1) := by decide +kernel
theorem dX1_clearOrLeave_12 : decode cX1_clearOrLeave 12 = .ok (.ireturn, 1) := by decide +kernel
theorem dX1_clearOrLeave_13 : decode cX1_clearOrLeave 13 = .ok (.iload_n 1, 1) := by decide +kernel
theorem dX1_clearOrLeave_14 : decode cX1_clearOrLeave 14 = .ok (.sipush 238, 3) := by decide +kernel
theorem dX1_clearOrLeave_17 : decode cX1_clearOrLeave 17 = .ok (.if_icmp .ne 10, 3) := by decide +kernel
theorem dX1_clearOrLeave_20 : decode cX1_clearOrLeave 20 = .ok (.aload_n 0, 1) := by decide +kernel
theorem dX1_clearOrLeave_21 : decode cX1_clearOrLeave 21 = .ok (.invokevirtual 105, 3) := by decide +kernel
theorem dX1_clearOrLeave_24 : decode cX1_clearOrLeave 24 = .ok (.goto 4, 3) := by decide +kernel
theorem dX1_clearOrLeave_27 : decode cX1_clearOrLeave 27 = .ok (.iconst 2, 1) := by decide +kernel
theorem dX1_clearOrLeave_28 : decode cX1_clearOrLeave 28 = .ok (.ireturn, 1) := by decide +kernel
theorem dX1_clear_0 : decode cX1_clear 0 = .ok (.iconst 0, 1) := by decide +kernel
theorem dX1_clear_1 : decode cX1_clear 1 = .ok (.istore_n 1, 1) := by decide +kernel
theorem dX1_clear_2 : decode cX1_clear 2 = .ok (.iload_n 1, 1) := by decide +kernel
theorem dX1_clear_3 : decode cX1_clear 3 = .ok (.sipush 256, 3) := by decide +kernel
theorem dX1_clear_6 : decode cX1_clear 6 = .ok (.if_icmp .ge 22, 3) := by decide +kernel
theorem dX1_clear_9 : decode cX1_clear 9 = .ok (.aload_n 0, 1) := by decide +kernel
theorem dX1_clear_10 : decode cX1_clear 10 = .ok (.getfield 20, 3) := by decide +kernel
theorem dX1_clear_13 : decode cX1_clear 13 = .ok (.sipush 1792, 3) := by decide +kernel
theorem dX1_clear_16 : decode cX1_clear 16 = .ok (.iload_n 1, 1) := by decide +kernel
theorem dX1_clear_17 : decode cX1_clear 17 = .ok (.iadd, 1) := by decide +kernel
theorem dX1_clear_18 : decode cX1_clear 18 = .ok (.iconst 0, 1) := by decide +kernel
theorem dX1_clear_19 : decode cX1_clear 19 = .ok (.invokevirtual 109, 3) := by decide +kernel
theorem dX1_clear_22 : decode cX1_clear 22 = .ok (.iinc 1 1, 3) := by decide +kernel
theorem dX1_clear_25 : decode cX1_clear 25 = .ok (.goto (-23), 3) := by decide +kernel
theorem dX1_clear_28 : decode cX1_clear 28 = .ok (.return_, 1) := by decide +kernel
theorem dX1_leave_0 : decode cX1_leave 0 = .ok (.aload_n 0, 1) := by decide +kernel
theorem dX1_leave_1 : decode cX1_leave 1 = .ok (.getfield 32, 3) := by decide +kernel
theorem dX1_leave_4 : decode cX1_leave 4 = .ok (.ifCond .le 12, 3) := by decide +kernel
theorem dX1_leave_7 : decode cX1_leave 7 = .ok (.aload_n 0, 1) := by decide +kernel
theorem dX1_leave_8 : decode cX1_leave 8 = .ok (.getfield 32, 3) := by decide +kernel
theorem dX1_leave_11 : decode cX1_leave 11 = .ok (.bipush 12, 2) := by decide +kernel
theorem dX1_leave_13 : decode cX1_leave 13 = .ok (.if_icmp .le 5, 3) := by decide +kernel
theorem dX1_leave_16 : decode cX1_leave 16 = .ok (.iconst 3, 1) := by decide +kernel
theorem dX1_leave_17 : decode cX1_leave 17 = .ok (.ireturn, 1) := by decide +kernel
theorem dX1_leave_18 : decode cX1_leave 18 = .ok (.aload_n 0, 1) := by decide +kernel
theorem dX1_leave_19 : decode cX1_leave 19 = .ok (.dup, 1) := by decide +kernel
theorem dX1_leave_20 : decode cX1_leave 20 = .ok (.getfield 32, 3) := by decide +kernel
theorem dX1_leave_23 : decode cX1_leave 23 = .ok (.iconst 1, 1) := by decide +kernel
theorem dX1_leave_24 : decode cX1_leave 24 = .ok (.isub, 1) := by decide +kernel
theorem dX1_leave_25 : decode cX1_leave 25 = .ok (.putfield 32, 3) := by decide +kernel
theorem dX1_leave_28 : decode cX1_leave 28 = .ok (.aload_n 0, 1) := by decide +kernel
theorem dX1_leave_29 : decode cX1_leave 29 = .ok (.aload_n 0, 1) := by decide +kernel
theorem dX1_leave_30 : decode cX1_leave 30 = .ok (.getfield 13, 3) := by decide +kernel
theorem dX1_leave_33 : decode cX1_leave 33 = .ok (.aload_n 0, 1) := by decide +kernel
theorem dX1_leave_34 : decode cX1_leave 34 = .ok (.getfield 32, 3) := by decide +kernel
theorem dX1_leave_37 : decode cX1_leave 37 = .ok (.iaload, 1) := by decide +kernel
theorem dX1_leave_38 : decode cX1_leave 38 = .ok (.invokevirtual 50, 3) := by decide +kernel
theorem dX1_leave_41 : decode cX1_leave 41 = .ok (.iconst 0, 1) := by decide +kernel
theorem dX1_leave_42 : decode cX1_leave 42 = .ok (.ireturn, 1) := by decide +kernel
theorem dX1_enter_0 : decode cX1_enter 0 = .ok (.aload_n 0, 1) := by decide +kernel
theorem dX1_enter_1 : decode cX1_enter 1 = .ok (.getfield 32, 3) := by decide +kernel
theorem dX1_enter_4 : decode cX1_enter 4 = .ok (.ifCond .lt 12, 3) := by decide +kernel
theorem dX1_enter_7 : decode cX1_enter 7 = .ok (.aload_n 0, 1) := by decide +kernel
theorem dX1_enter_8 : decode cX1_enter 8 = .ok (.getfield 32, 3) := by decide +kernel
theorem dX1_enter_11 : decode cX1_enter 11 = .ok (.bipush 12, 2) := by decide +kernel
theorem dX1_enter_13 : decode cX1_enter 13 = .ok (.if_icmp .lt 5, 3) := by decide +kernel
theorem dX1_enter_16 : decode cX1_enter 16 = .ok (.iconst 3, 1) := by decide +kernel
theorem dX1_enter_17 : decode cX1_enter 17 = .ok (.ireturn, 1) := by decide +kernel
theorem dX1_enter_18 : decode cX1_enter 18 = .ok (.aload_n 0, 1) := by decide +kernel
theorem dX1_enter_19 : decode cX1_enter 19 = .ok (.getfield 13, 3) := by decide +kernel
theorem dX1_enter_22 : decode cX1_enter 22 = .ok (.aload_n 0, 1) := by decide +kernel
theorem dX1_enter_23 : decode cX1_enter 23 = .ok (.getfield 32, 3) := by decide +kernel
theorem dX1_enter_26 : decode cX1_enter 26 = .ok (.aload_n 0, 1) := by decide +kernel
theorem dX1_enter_27 : decode cX1_enter 27 = .ok (.getfield 16, 3) := by decide +kernel
theorem dX1_enter_30 : decode cX1_enter 30 = .ok (.iastore, 1) := by decide +kernel
theorem dX1_enter_31 : decode cX1_enter 31 = .ok (.aload_n 0, 1) := by decide +kernel
theorem dX1_enter_32 : decode cX1_enter 32 = .ok (.dup, 1) := by decide +kernel
theorem dX1_enter_33 : decode cX1_enter 33 = .ok (.getfield 32, 3) := by decide +kernel
theorem dX1_enter_36 : decode cX1_enter 36 = .ok (.iconst 1, 1) := by decide +kernel
theorem dX1_enter_37 : decode cX1_enter 37 = .ok (.iadd, 1) := by decide +kernel
theorem dX1_enter_38 : decode cX1_enter 38 = .ok (.putfield 32, 3) := by decide +kernel
theorem dX1_enter_41 : decode cX1_enter 41 = .ok (.aload_n 0, 1) := by decide +kernel
theorem dX1_enter_42 : decode cX1_enter 42 = .ok (.iload_n 1, 1) := by decide +kernel
theorem dX1_enter_43 : decode cX1_enter 43 = .ok (.invokevirtual 50, 3) := by decide +kernel
theorem dX1_enter_46 : decode cX1_enter 46 = .ok (.iconst 0, 1) := by decide +kernel
theorem dX1_enter_47 : decode cX1_enter 47 = .ok (.ireturn, 1) := by decide +kernel
theorem dX1_compare_0 : decode cX1_compare 0 = .ok (.iload_n 1, 1) := by decide +kernel
theorem dX1_compare_1 : decode cX1_compare 1 = .ok (.bipush 15, 2) := by decide +kernel
theorem dX1_compare_3 : decode cX1_compare 3 = .ok (.iand, 1) := by decide +kernel
theorem dX1_compare_4 : decode cX1_compare 4 = .ok (.ifCond .eq 5, 3) := by decide +kernel
theorem dX1_compare_7 : decode cX1_compare 7 = .ok (.iconst 2, 1) := by decide +kernel
theorem dX1_compare_8 : decode cX1_compare 8 = .ok (.ireturn, 1) := by decide +kernel
theorem dX1_compare_9 : decode cX1_compare 9 = .ok (.aload_n 0, 1) := by decide +kernel
theorem dX1_compare_10 : decode cX1_compare 10 = .ok (.iload_n 1, 1) := by decide +kernel
theorem dX1_compare_11 : decode cX1_compare 11 = .ok (.bipush 12, 2) := by decide +kernel
theorem dX1_compare_13 : decode cX1_compare 13 = .ok (.ishr, 1) := by decide +kernel
theorem dX1_compare_14 : decode cX1_compare 14 = .ok (.iconst 5, 1) := by decide +kernel
theorem dX1_compare_15 : decode cX1_compare 15 = .ok (.if_icmp .ne 7, 3) := by decide +kernel
theorem dX1_compare_18 : decode cX1_compare 18 = .ok (.iload_n 2, 1) := by decide +kernel
theorem dX1_compare_19 : decode cX1_compare 19 = .ok (.goto 12, 3) := by decide +kernel
theorem dX1_compare_22 : decode cX1_compare 22 = .ok (.iload_n 2, 1) := by decide +kernel
theorem dX1_compare_23 : decode cX1_compare 23 = .ok (.ifCond .ne 7, 3) := by decide +kernel
theorem dX1_compare_26 : decode cX1_compare 26 = .ok (.iconst 1, 1) := by decide +kernel
theorem dX1_compare_27 : decode cX1_compare 27 = .ok (.goto 4, 3) := by decide +kernel
theorem dX1_compare_30 : decode cX1_compare 30 = .ok (.iconst 0, 1) := by decide +kernel
theorem dX1_compare_31 : decode cX1_compare 31 = .ok (.invokevirtual 63, 3) := by decide +kernel
theorem dX1_compare_34 : decode cX1_compare 34 = .ok (.ireturn, 1) := by decide +kernel
theorem dX1_combine_0 : decode cX1_combine 0 = .ok (.aload_n 0, 1) := by decide +kernel
theorem dX1_combine_1 : decode cX1_combine 1 = .ok (.iload_n 2, 1) := by decide +kernel
theorem dX1_combine_2 : decode cX1_combine 2 = .ok (.invokevirtual 41, 3) := by decide +kernel
theorem dX1_combine_5 : decode cX1_combine 5 = .ok (.istore 4, 2) := by decide +kernel
theorem dX1_combine_7 : decode cX1_combine 7 = .ok (.iload_n 1, 1) := by decide +kernel
theorem dX1_combine_8 : decode cX1_combine 8 = .ok (.tableswitch 225 0 14 #[76, 84, 95, 106, 117, 142, 163, 184, 225, 225, 225, 225, 225, 225, 205], 76) := by decide +kernel
theorem dX1_combine_84 : decode cX1_combine 84 = .ok (.aload_n 0, 1) := by decide +kernel
theorem dX1_combine_85 : decode cX1_combine 85 = .ok (.iload_n 2, 1) := by decide +kernel
theorem dX1_combine_86 : decode cX1_combine 86 = .ok (.iload_n 3, 1) := by decide +kernel
theorem dX1_combine_87 : decode cX1_combine 87 = .ok (.invokevirtual 71, 3) := by decide +kernel
theorem dX1_combine_90 : decode cX1_combine 90 = .ok (.iconst 0, 1) := by decide +kernel
theorem dX1_combine_91 : decode cX1_combine 91 = .ok (.ireturn, 1) := by decide +kernel
theorem dX1_combine_92 : decode cX1_combine 92 = .ok (.aload_n 0, 1) := by decide +kernel
theorem dX1_combine_93 : decode cX1_combine 93 = .ok (.iload_n 2, 1) := by decide +kernel
theorem dX1_combine_94 : decode cX1_combine 94 = .ok (.iload 4, 2) := by decide +kernel
theorem dX1_combine_96 : decode cX1_combine 96 = .ok (.iload_n 3, 1) := by decide +kernel
theorem dX1_combine_97 : decode cX1_combine 97 = .ok (.ior, 1) := by decide +kernel
theorem dX1_combine_98 : decode cX1_combine 98 = .ok (.invokevirtual 71, 3) := by decide +kernel
theorem dX1_combine_101 : decode cX1_combine 101 = .ok (.iconst 0, 1) := by decide +kernel
theorem dX1_combine_102 : decode cX1_combine 102 = .ok (.ireturn, 1) := by decide +kernel
theorem dX1_combine_103 : decode cX1_combine 103 = .ok (.aload_n 0, 1) := by decide +kernel
theorem dX1_combine_104 : decode cX1_combine 104 = .ok (.iload_n 2, 1) := by decide +kernel
theorem dX1_combine_105 : decode cX1_combine 105 = .ok (.iload 4, 2) := by decide +kernel
theorem dX1_combine_107 : decode cX1_combine 107 = .ok (.iload_n 3, 1) := by decide +kernel
theorem dX1_combine_108 : decode cX1_combine 108 = .ok (.iand, 1) := by decide +kernel
theorem dX1_combine_109 : decode cX1_combine 109 = .ok (.invokevirtual 71, 3) := by decide +kernel
theorem dX1_combine_112 : decode cX1_combine 112 = .ok (.iconst 0, 1) := by decide +kernel
theorem dX1_combine_113 : decode cX1_combine 113 = .ok (.ireturn, 1) := by decide +kernel
theorem dX1_combine_114 : decode cX1_combine 114 = .ok (.aload_n 0, 1) := by decide +kernel
theorem dX1_combine_115 : decode cX1_combine 115 = .ok (.iload_n 2, 1) := by decide +kernel
theorem dX1_combine_116 : decode cX1_combine 116 = .ok (.iload 4, 2) := by decide +kernel
theorem dX1_combine_118 : decode cX1_combine 118 = .ok (.iload_n 3, 1) := by decide +kernel
theorem dX1_combine_119 : decode cX1_combine 119 = .ok (.ixor, 1) := by decide +kernel
theorem dX1_combine_120 : decode cX1_combine 120 = .ok (.invokevirtual 71, 3) := by decide +kernel
theorem dX1_combine_123 : decode cX1_combine 123 = .ok (.iconst 0, 1) := by decide +kernel
theorem dX1_combine_124 : decode cX1_combine 124 = .ok (.ireturn, 1) := by decide +kernel
theorem dX1_combine_125 : decode cX1_combine 125 = .ok (.aload_n 0, 1) := by decide +kernel
theorem dX1_combine_126 : decode cX1_combine 126 = .ok (.iload_n 2, 1) := by decide +kernel
theorem dX1_combine_127 : decode cX1_combine 127 = .ok (.iload 4, 2) := by decide +kernel
theorem dX1_combine_129 : decode cX1_combine 129 = .ok (.iload_n 3, 1) := by decide +kernel
theorem dX1_combine_130 : decode cX1_combine 130 = .ok (.iadd, 1) := by decide +kernel
theorem dX1_combine_131 : decode cX1_combine 131 = .ok (.iload 4, 2) := by decide +kernel
theorem dX1_combine_133 : decode cX1_combine 133 = .ok (.iload_n 3, 1) := by decide +kernel
theorem dX1_combine_134 : decode cX1_combine 134 = .ok (.iadd, 1) := by decide +kernel
theorem dX1_combine_135 : decode cX1_combine 135 = .ok (.sipush 255, 3) := by decide +kernel
theorem dX1_combine_138 : decode cX1_combine 138 = .ok (.if_icmp .le 7, 3) := by decide +kernel
theorem dX1_combine_141 : decode cX1_combine 141 = .ok (.iconst 1, 1) := by decide +kernel
theorem dX1_combine_142 : decode cX1_combine 142 = .ok (.goto 4, 3) := by decide +kernel
theorem dX1_combine_145 : decode cX1_combine 145 = .ok (.iconst 0, 1) := by decide +kernel
theorem dX1_combine_146 : decode cX1_combine 146 = .ok (.invokevirtual 112, 3) := by decide +kernel
theorem dX1_combine_149 : decode cX1_combine 149 = .ok (.ireturn, 1) := by decide +kernel
theorem dX1_combine_150 : decode cX1_combine 150 = .ok (.aload_n 0, 1) := by decide +kernel
theorem dX1_combine_151 : decode cX1_combine 151 = .ok (.iload_n 2, 1) := by decide +kernel
theorem dX1_combine_152 : decode cX1_combine 152 = .ok (.iload 4, 2) := by decide +kernel
theorem dX1_combine_154 : decode cX1_combine 154 = .ok (.iload_n 3, 1) := by decide +kernel
theorem dX1_combine_155 : decode cX1_combine 155 = .ok (.isub, 1) := by decide +kernel
theorem dX1_combine_156 : decode cX1_combine 156 = .ok (.iload 4, 2) := by decide +kernel
theorem dX1_combine_158 : decode cX1_combine 158 = .ok (.iload_n 3, 1) := by decide +kernel
theorem dX1_combine_159 : decode cX1_combine 159 = .ok (.if_icmp .lt 7, 3) := by decide +kernel
theorem dX1_combine_162 : decode cX1_combine 162 = .ok (.iconst 1, 1) := by decide +kernel
theorem dX1_combine_163 : decode cX1_combine 163 = .ok (.goto 4, 3) := by decide +kernel
theorem dX1_combine_166 : decode cX1_combine 166 = .ok (.iconst 0, 1) := by decide +kernel
theorem dX1_combine_167 : decode cX1_combine 167 = .ok (.invokevirtual 112, 3) := by decide +kernel
theorem dX1_combine_170 : decode cX1_combine 170 = .ok (.ireturn, 1) := by decide +kernel
theorem dX1_combine_171 : decode cX1_combine 171 = .ok (.aload_n 0, 1) := by decide +kernel
theorem dX1_combine_172 : decode cX1_combine 172 = .ok (.iload_n 2, 1) := by decide +kernel
theorem dX1_combine_173 : decode cX1_combine 173 = .ok (.iload_n 3, 1) := by decide +kernel
theorem dX1_combine_174 : decode cX1_combine 174 = .ok (.iconst 1, 1) := by decide +kernel
theorem dX1_combine_175 : decode cX1_combine 175 = .ok (.ishr, 1) := by decide +kernel
theorem dX1_combine_176 : decode cX1_combine 176 = .ok (.iload_n 3, 1) := by decide +kernel
theorem dX1_combine_177 : decode cX1_combine 177 = .ok (.iconst 1, 1) := by decide +kernel
theorem dX1_combine_178 : decode cX1_combine 178 = .ok (.iand, 1) := by decide +kernel
theorem dX1_combine_179 : decode cX1_combine 179 = .ok (.iconst 1, 1) := by decide +kernel
theorem dX1_combine_180 : decode cX1_combine 180 = .ok (.if_icmp .ne 7, 3) := by decide +kernel
theorem dX1_combine_183 : decode cX1_combine 183 = .ok (.iconst 1, 1) := by decide +kernel
theorem dX1_combine_184 : decode cX1_combine 184 = .ok (.goto 4, 3) := by decide +kernel
theorem dX1_combine_187 : decode cX1_combine 187 = .ok (.iconst 0, 1) := by decide +kernel
theorem dX1_combine_188 : decode cX1_combine 188 = .ok (.invokevirtual 112, 3) := by decide +kernel
theorem dX1_combine_191 : decode cX1_combine 191 = .ok (.ireturn, 1) := by decide +kernel
theorem dX1_combine_192 : decode cX1_combine 192 = .ok (.aload_n 0, 1) := by decide +kernel
theorem dX1_combine_193 : decode cX1_combine 193 = .ok (.iload_n 2, 1) := by decide +kernel
theorem dX1_combine_194 : decode cX1_combine 194 = .ok (.iload_n 3, 1) := by decide +kernel
theorem dX1_combine_195 : decode cX1_combine 195 = .ok (.iload 4, 2) := by decide +kernel
theorem dX1_combine_197 : decode cX1_combine 197 = .ok (.isub, 1) := by decide +kernel
theorem dX1_combine_198 : decode cX1_combine 198 = .ok (.iload_n 3, 1) := by decide +kernel
theorem dX1_combine_199 : decode cX1_combine 199 = .ok (.iload 4, 2) := by decide +kernel
theorem dX1_combine_201 : decode cX1_combine 201 = .ok (.if_icmp .lt 7, 3) := by decide +kernel
theorem dX1_combine_204 : decode cX1_combine 204 = .ok (.iconst 1, 1) := by decide +kernel
theorem dX1_combine_205 : decode cX1_combine 205 = .ok (.goto 4, 3) := by decide +kernel
theorem dX1_combine_208 : decode cX1_combine 208 = .ok (.iconst 0, 1) := by decide +kernel
theorem dX1_combine_209 : decode cX1_combine 209 = .ok (.invokevirtual 112, 3) := by decide +kernel
theorem dX1_combine_212 : decode cX1_combine 212 = .ok (.ireturn, 1) := by decide +kernel
theorem dX1_combine_213 : decode cX1_combine 213 = .ok (.aload_n 0, 1) := by decide +kernel
theorem dX1_combine_214 : decode cX1_combine 214 = .ok (.iload_n 2, 1) := by decide +kernel
theorem dX1_combine_215 : decode cX1_combine 215 = .ok (.iload_n 3, 1) := by decide +kernel
theorem dX1_combine_216 : decode cX1_combine 216 = .ok (.iconst 1, 1) := by decide +kernel
theorem dX1_combine_217 : decode cX1_combine 217 = .ok (.ishl, 1) := by decide +kernel
theorem dX1_combine_218 : decode cX1_combine 218 = .ok (.iload_n 3, 1) := by decide +kernel
theorem dX1_combine_219 : decode cX1_combine 219 = .ok (.bipush 127, 2) := by decide +kernel
theorem dX1_combine_221 : decode cX1_combine 221 = .ok (.if_icmp .le 7, 3) := by decide +kernel
theorem dX1_combine_224 : decode cX1_combine 224 = .ok (.iconst 1, 1) := by decide +kernel
theorem dX1_combine_225 : decode cX1_combine 225 = .ok (.goto 4, 3) := by decide +kernel
theorem dX1_combine_228 : decode cX1_combine 228 = .ok (.iconst 0, 1) := by decide +kernel
theorem dX1_combine_229 : decode cX1_combine 229 = .ok (.invokevirtual 112, 3) := by decide +kernel
theorem dX1_combine_232 : decode cX1_combine 232 = .ok (.ireturn, 1) := by decide +kernel
theorem dX1_combine_233 : decode cX1_combine 233 = .ok (.iconst 2, 1) := by decide +kernel
theorem dX1_combine_234 : decode cX1_combine 234 = .ok (.ireturn, 1) := by decide +kernel
theorem dX1_putWithFlag_0 : decode cX1_putWithFlag 0 = .ok (.aload_n 0, 1) := by decide +kernel
theorem dX1_putWithFlag_1 : decode cX1_putWithFlag 1 = .ok (.iload_n 1, 1) := by decide +kernel
theorem dX1_putWithFlag_2 : decode cX1_putWithFlag 2 = .ok (.iload_n 2, 1) := by decide +kernel
theorem dX1_putWithFlag_3 : decode cX1_putWithFlag 3 = .ok (.invokevirtual 71, 3) := by decide +kernel
theorem dX1_putWithFlag_6 : decode cX1_putWithFlag 6 = .ok (.aload_n 0, 1) := by decide +kernel
theorem dX1_putWithFlag_7 : decode cX1_putWithFlag 7 = .ok (.bipush 15, 2) := by decide +kernel
theorem dX1_putWithFlag_9 : decode cX1_putWithFlag 9 = .ok (.iload_n 3, 1) := by decide +kernel
theorem dX1_putWithFlag_10 : decode cX1_putWithFlag 10 = .ok (.ifCond .eq 7, 3) := by decide +kernel
theorem dX1_putWithFlag_13 : decode cX1_putWithFlag 13 = .ok (.iconst 1, 1) := by decide +kernel
theorem dX1_putWithFlag_14 : decode cX1_putWithFlag 14 = .ok (.goto 4, 3) := by decide +kernel
theorem dX1_putWithFlag_17 : decode cX1_putWithFlag 17 = .ok (.iconst 0, 1) := by decide +kernel
theorem dX1_putWithFlag_18 : decode cX1_putWithFlag 18 = .ok (.invokevirtual 71, 3) := by decide +kernel
theorem dX1_putWithFlag_21 : decode cX1_putWithFlag 21 = .ok (.iconst 0, 1) := by decide +kernel
theorem dX1_putWithFlag_22 : decode cX1_putWithFlag 22 = .ok (.ireturn, 1) := by decide +kernel
theorem dX1_skipByKey_0 : decode cX1_skipByKey 0 = .ok (.iload_n 1, 1) := by decide +kernel
theorem dX1_skipByKey_1 : decode cX1_skipByKey 1 = .ok (.sipush 158, 3) := by decide +kernel
theorem dX1_skipByKey_4 : decode cX1_skipByKey 4 = .ok (.if_icmp .ne 9, 3) := by decide +kernel
theorem dX1_skipByKey_7 : decode cX1_skipByKey 7 = .ok (.aload_n 0, 1) := by decide +kernel
theorem dX1_skipByKey_8 : decode cX1_skipByKey 8 = .ok (.iload_n 2, 1) := by decide +kernel
theorem dX1_skipByKey_9 : decode cX1_skipByKey 9 = .ok (.invokevirtual 63, 3) := by decide +kernel
theorem dX1_skipByKey_12 : decode cX1_skipByKey 12 = .ok (.ireturn, 1) := by decide +kernel
theorem dX1_skipByKey_13 : decode cX1_skipByKey 13 = .ok (.iload_n 1, 1) := by decide +kernel
theorem dX1_skipByKey_14 : decode cX1_skipByKey 14 = .ok (.sipush 161, 3) := by decide +kernel
theorem dX1_skipByKey_17 : decode cX1_skipByKey 17 = .ok (.if_icmp .ne 19, 3) := by decide +kernel
theorem dX1_skipByKey_20 : decode cX1_skipByKey 20 = .ok (.aload_n 0, 1) := by decide +kernel
theorem dX1_skipByKey_21 : decode cX1_skipByKey 21 = .ok (.iload_n 2, 1) := by decide +kernel
theorem dX1_skipByKey_22 : decode cX1_skipByKey 22 = .ok (.ifCond .ne 7, 3) := by decide +kernel
theorem dX1_skipByKey_25 : decode cX1_skipByKey 25 = .ok (.iconst 1, 1) := by decide +kernel
theorem dX1_skipByKey_26 : decode cX1_skipByKey 26 = .ok (.goto 4, 3) := by decide +kernel
theorem dX1_skipByKey_29 : decode cX1_skipByKey 29 = .ok (.iconst 0, 1) := by decide +kernel
theorem dX1_skipByKey_30 : decode cX1_skipByKey 30 = .ok (.invokevirtual 63, 3) := by decide +kernel
theorem dX1_skipByKey_33 : decode cX1_skipByKey 33 = .ok (.goto 4, 3) := by decide +kernel
theorem dX1_skipByKey_36 : decode cX1_skipByKey 36 = .ok (.iconst 2, 1) := by decide +kernel
theorem dX1_skipByKey_37 : decode cX1_skipByKey 37 = .ok (.ireturn, 1) := by decide +kernel
theorem dX1_executeSystem_0 : decode cX1_executeSystem 0 = .ok (.iload_n 2, 1) := by decide +kernel
theorem dX1_executeSystem_1 : decode cX1_executeSystem 1 = .ok (.lookupswitch 139 #[(7, 59), (10, 73), (21, 79), (24, 93), (30, 107), (41, 123)], 59) := by decide +kernel
theorem dX1_executeSystem_60 : decode cX1_executeSystem 60 = .ok (.aload_n 0, 1) := by decide +kernel
theorem dX1_executeSystem_61 : decode cX1_executeSystem 61 = .ok (.iload_n 1, 1) := by decide +kernel
theorem dX1_executeSystem_62 : decode cX1_executeSystem 62 = .ok (.aload_n 0, 1) := by decide +kernel
theorem dX1_executeSystem_63 : decode cX1_executeSystem 63 = .ok (.getfield 28, 3) := by decide +kernel
theorem dX1_executeSystem_66 : decode cX1_executeSystem 66 = .ok (.invokevirtual 116, 3) := by decide +kernel
theorem dX1_executeSystem_69 : decode cX1_executeSystem 69 = .ok (.invokevirtual 71, 3) := by decide +kernel
theorem dX1_executeSystem_72 : decode cX1_executeSystem 72 = .ok (.iconst 0, 1) := by decide +kernel
theorem dX1_executeSystem_73 : decode cX1_executeSystem 73 = .ok (.ireturn, 1) := by decide +kernel
theorem dX1_executeSystem_74 : decode cX1_executeSystem 74 = .ok (.aload_n 0, 1) := by decide +kernel
theorem dX1_executeSystem_75 : decode cX1_executeSystem 75 = .ok (.iload_n 1, 1) := by decide +kernel
theorem dX1_executeSystem_76 : decode cX1_executeSystem 76 = .ok (.invokevirtual 121, 3) := by decide +kernel
theorem dX1_executeSystem_79 : decode cX1_executeSystem 79 = .ok (.ireturn, 1) := by decide +kernel
theorem dX1_executeSystem_80 : decode cX1_executeSystem 80 = .ok (.aload_n 0, 1) := by decide +kernel
theorem dX1_executeSystem_81 : decode cX1_executeSystem 81 = .ok (.getfield 28, 3) := by decide +kernel
theorem dX1_executeSystem_84 : decode cX1_executeSystem 84 = .ok (.aload_n 0, 1) := by decide +kernel
theorem dX1_executeSystem_85 : decode cX1_executeSystem 85 = .ok (.iload_n 1, 1) := by decide +kernel
theorem dX1_executeSystem_86 : decode cX1_executeSystem 86 = .ok (.invokevirtual 41, 3) := by decide +kernel
theorem dX1_executeSystem_89 : decode cX1_executeSystem 89 = .ok (.invokevirtual 124, 3) := by decide +kernel
theorem dX1_executeSystem_92 : decode cX1_executeSystem 92 = .ok (.iconst 0, 1) := by decide +kernel
theorem dX1_executeSystem_93 : decode cX1_executeSystem 93 = .ok (.ireturn, 1) := by decide +kernel
theorem dX1_executeSystem_94 : decode cX1_executeSystem 94 = .ok (.aload_n 0, 1) := by decide +kernel
theorem dX1_executeSystem_95 : decode cX1_executeSystem 95 = .ok (.getfield 28, 3) := by decide +kernel
theorem dX1_executeSystem_98 : decode cX1_executeSystem 98 = .ok (.aload_n 0, 1) := by decide +kernel
theorem dX1_executeSystem_99 : decode cX1_executeSystem 99 = .ok (.iload_n 1, 1) := by decide +kernel
theorem dX1_executeSystem_100 : decode cX1_executeSystem 100 = .ok (.invokevirtual 41, 3) := by decide +kernel
theorem dX1_executeSystem_103 : decode cX1_executeSystem 103 = .ok (.invokevirtual 127, 3) := by decide +kernel
theorem dX1_executeSystem_106 : decode cX1_executeSystem 106 = .ok (.iconst 0, 1) := by decide +kernel
theorem dX1_executeSystem_107 : decode cX1_executeSystem 107 = .ok (.ireturn, 1) := by decide +kernel
theorem dX1_executeSystem_108 : decode cX1_executeSystem 108 = .ok (.aload_n 0, 1) := by decide +kernel
theorem dX1_executeSystem_109 : decode cX1_executeSystem 109 = .ok (.aload_n 0, 1) := by decide +kernel
theorem dX1_executeSystem_110 : decode cX1_executeSystem 110 = .ok (.getfield 35, 3) := by decide +kernel
theorem dX1_executeSystem_113 : decode cX1_executeSystem 113 = .ok (.aload_n 0, 1) := by decide +kernel
theorem dX1_executeSystem_114 : decode cX1_executeSystem 114 = .ok (.iload_n 1, 1) := by decide +kernel
theorem dX1_executeSystem_115 : decode cX1_executeSystem 115 = .ok (.invokevirtual 41, 3) := by decide +kernel
theorem dX1_executeSystem_118 : decode cX1_executeSystem 118 = .ok (.iadd, 1) := by decide +kernel
theorem dX1_executeSystem_119 : decode cX1_executeSystem 119 = .ok (.invokevirtual 79, 3) := by decide +kernel
theorem dX1_executeSystem_122 : decode cX1_executeSystem 122 = .ok (.iconst 0, 1) := by decide +kernel
theorem dX1_executeSystem_123 : decode cX1_executeSystem 123 = .ok (.ireturn, 1) := by decide +kernel
theorem dX1_executeSystem_124 : decode cX1_executeSystem 124 = .ok (.aload_n 0, 1) := by decide +kernel
theorem dX1_executeSystem_125 : decode cX1_executeSystem 125 = .ok (.iconst 5, 1) := by decide +kernel
theorem dX1_executeSystem_126 : decode cX1_executeSystem 126 = .ok (.aload_n 0, 1) := by decide +kernel
theorem dX1_executeSystem_127 : decode cX1_executeSystem 127 = .ok (.iload_n 1, 1) := by decide +kernel
theorem dX1_executeSystem_128 : decode cX1_executeSystem 128 = .ok (.invokevirtual 41, 3) := by decide +kernel
theorem dX1_executeSystem_131 : decode cX1_executeSystem 131 = .ok (.bipush 15, 2) := by decide +kernel
theorem dX1_executeSystem_133 : decode cX1_executeSystem 133 = .ok (.iand, 1) := by decide +kernel
theorem dX1_executeSystem_134 : decode cX1_executeSystem 134 = .ok (.imul, 1) := by decide +kernel
theorem dX1_executeSystem_135 : decode cX1_executeSystem 135 = .ok (.invokevirtual 79, 3) := by decide +kernel
theorem dX1_executeSystem_138 : decode cX1_executeSystem 138 = .ok (.iconst 0, 1) := by decide +kernel
theorem dX1_executeSystem_139 : decode cX1_executeSystem 139 = .ok (.ireturn, 1) := by decide +kernel
theorem dX1_executeSystem_140 : decode cX1_executeSystem 140 = .ok (.iconst 2, 1) := by decide +kernel
theorem dX1_executeSystem_141 : decode cX1_executeSystem 141 = .ok (.ireturn, 1) := by decide +kernel
theorem dX1_takeKey_0 : decode cX1_takeKey 0 = .ok (.aload_n 0, 1) := by decide +kernel
theorem dX1_takeKey_1 : decode cX1_takeKey 1 = .ok (.getfield 24, 3) := by decide +kernel
theorem dX1_takeKey_4 : decode cX1_takeKey 4 = .ok (.invokevirtual 130, 3) := by decide +kernel
theorem dX1_takeKey_7 : decode cX1_takeKey 7 = .ok (.istore_n 2, 1) := by decide +kernel
theorem dX1_takeKey_8 : decode cX1_takeKey 8 = .ok (.iload_n 2, 1) := by decide +kernel
theorem dX1_takeKey_9 : decode cX1_takeKey 9 = .ok (.ifCond .ge 5, 3) := by decide +kernel
theorem dX1_takeKey_12 : decode cX1_takeKey 12 = .ok (.iconst 1, 1) := by decide +kernel
theorem dX1_takeKey_13 : decode cX1_takeKey 13 = .ok (.ireturn, 1) := by decide +kernel
theorem dX1_takeKey_14 : decode cX1_takeKey 14 = .ok (.aload_n 0, 1) := by decide +kernel
theorem dX1_takeKey_15 : decode cX1_takeKey 15 = .ok (.iload_n 1, 1) := by decide +kernel
theorem dX1_takeKey_16 : decode cX1_takeKey 16 = .ok (.iload_n 2, 1) := by decide +kernel
theorem dX1_takeKey_17 : decode cX1_takeKey 17 = .ok (.invokevirtual 71, 3) := by decide +kernel
theorem dX1_takeKey_20 : decode cX1_takeKey 20 = .ok (.iconst 0, 1) := by decide +kernel
theorem dX1_takeKey_21 : decode cX1_takeKey 21 = .ok (.ireturn, 1) := by decide +kernel
theorem dX1_executeStore_0 : decode cX1_executeStore 0 = .ok (.iload_n 2, 1) := by decide +kernel
theorem dX1_executeStore_1 : decode cX1_executeStore 1 = .ok (.lookupswitch 60 #[(51, 35), (85, 46), (101, 53)], 35) := by decide +kernel
theorem dX1_executeStore_36 : decode cX1_executeStore 36 = .ok (.aload_n 0, 1) := by decide +kernel
theorem dX1_executeStore_37 : decode cX1_executeStore 37 = .ok (.aload_n 0, 1) := by decide +kernel
theorem dX1_executeStore_38 : decode cX1_executeStore 38 = .ok (.iload_n 1, 1) := by decide +kernel
theorem dX1_executeStore_39 : decode cX1_executeStore 39 = .ok (.invokevirtual 41, 3) := by decide +kernel
theorem dX1_executeStore_42 : decode cX1_executeStore 42 = .ok (.invokevirtual 133, 3) := by decide +kernel
theorem dX1_executeStore_45 : decode cX1_executeStore 45 = .ok (.iconst 0, 1) := by decide +kernel
theorem dX1_executeStore_46 : decode cX1_executeStore 46 = .ok (.ireturn, 1) := by decide +kernel
theorem dX1_executeStore_47 : decode cX1_executeStore 47 = .ok (.aload_n 0, 1) := by decide +kernel
theorem dX1_executeStore_48 : decode cX1_executeStore 48 = .ok (.iload_n 1, 1) := by decide +kernel
theorem dX1_executeStore_49 : decode cX1_executeStore 49 = .ok (.invokevirtual 136, 3) := by decide +kernel
theorem dX1_executeStore_52 : decode cX1_executeStore 52 = .ok (.iconst 0, 1) := by decide +kernel
theorem dX1_executeStore_53 : decode cX1_executeStore 53 = .ok (.ireturn, 1) := by decide +kernel
theorem dX1_executeStore_54 : decode cX1_executeStore 54 = .ok (.aload_n 0, 1) := by decide +kernel
theorem dX1_executeStore_55 : decode cX1_executeStore 55 = .ok (.iload_n 1, 1) := by decide +kernel
theorem dX1_executeStore_56 : decode cX1_executeStore 56 = .ok (.invokevirtual 139, 3) := by decide +kernel
theorem dX1_executeStore_59 : decode cX1_executeStore 59 = .ok (.iconst 0, 1) := by decide +kernel
theorem dX1_executeStore_60 : decode cX1_executeStore 60 = .ok (.ireturn, 1) := by decide +kernel
theorem dX1_executeStore_61 : decode cX1_executeStore 61 = .ok (.iconst 2, 1) := by decide +kernel
theorem dX1_executeStore_62 : decode cX1_executeStore 62 = .ok (.ireturn, 1) := by decide +kernel
theorem dX1_putDigits_0 : decode cX1_putDigits 0 = .ok (.aload_n 0, 1) := by decide +kernel
theorem dX1_putDigits_1 : decode cX1_putDigits 1 = .ok (.getfield 20, 3) := by decide +kernel
theorem dX1_putDigits_4 : decode cX1_putDigits 4 = .ok (.aload_n 0, 1) := by decide +kernel
theorem dX1_putDigits_5 : decode cX1_putDigits 5 = .ok (.getfield 35, 3) := by decide +kernel
theorem dX1_putDigits_8 : decode cX1_putDigits 8 = .ok (.iload_n 1, 1) := by decide +kernel
theorem dX1_putDigits_9 : decode cX1_putDigits 9 = .ok (.bipush 100, 2) := by decide +kernel
theorem dX1_putDigits_11 : decode cX1_putDigits 11 = .ok (.idiv, 1) := by decide +kernel
theorem dX1_putDigits_12 : decode cX1_putDigits 12 = .ok (.invokevirtual 109, 3) := by decide +kernel
theorem dX1_putDigits_15 : decode cX1_putDigits 15 = .ok (.aload_n 0, 1) := by decide +kernel
theorem dX1_putDigits_16 : decode cX1_putDigits 16 = .ok (.getfield 20, 3) := by decide +kernel
theorem dX1_putDigits_19 : decode cX1_putDigits 19 = .ok (.aload_n 0, 1) := by decide +kernel
theorem dX1_putDigits_20 : decode cX1_putDigits 20 = .ok (.getfield 35, 3) := by decide +kernel
theorem dX1_putDigits_23 : decode cX1_putDigits 23 = .ok (.iconst 1, 1) := by decide +kernel
theorem dX1_putDigits_24 : decode cX1_putDigits 24 = .ok (.iadd, 1) := by decide +kernel
theorem dX1_putDigits_25 : decode cX1_putDigits 25 = .ok (.iload_n 1, 1) := by decide +kernel
theorem dX1_putDigits_26 : decode cX1_putDigits 26 = .ok (.bipush 10, 2) := by decide +kernel
theorem dX1_putDigits_28 : decode cX1_putDigits 28 = .ok (.idiv, 1) := by decide +kernel
theorem dX1_putDigits_29 : decode cX1_putDigits 29 = .ok (.bipush 10, 2) := by decide +kernel
theorem dX1_putDigits_31 : decode cX1_putDigits 31 = .ok (.irem, 1) := by decide +kernel
theorem dX1_putDigits_32 : decode cX1_putDigits 32 = .ok (.invokevirtual 109, 3) := by decide +kernel
theorem dX1_putDigits_35 : decode cX1_putDigits 35 = .ok (.aload_n 0, 1) := by decide +kernel
theorem dX1_putDigits_36 : decode cX1_putDigits 36 = .ok (.getfield 20, 3) := by decide +kernel
theorem dX1_putDigits_39 : decode cX1_putDigits 39 = .ok (.aload_n 0, 1) := by decide +kernel
theorem dX1_putDigits_40 : decode cX1_putDigits 40 = .ok (.getfield 35, 3) := by decide +kernel
theorem dX1_putDigits_43 : decode cX1_putDigits 43 = .ok (.iconst 2, 1) := by decide +kernel
theorem dX1_putDigits_44 : decode cX1_putDigits 44 = .ok (.iadd, 1) := by decide +kernel
theorem dX1_putDigits_45 : decode cX1_putDigits 45 = .ok (.iload_n 1, 1) := by decide +kernel
theorem dX1_putDigits_46 : decode cX1_putDigits 46 = .ok (.bipush 10, 2) := by decide +kernel
theorem dX1_putDigits_48 : decode cX1_putDigits 48 = .ok (.irem, 1) := by decide +kernel
theorem dX1_putDigits_49 : decode cX1_putDigits 49 = .ok (.invokevirtual 109, 3) := by decide +kernel
theorem dX1_putDigits_52 : decode cX1_putDigits 52 = .ok (.return_, 1) := by decide +kernel
theorem dX1_saveVariables_0 : decode cX1_saveVariables 0 = .ok (.iconst 0, 1) := by decide +kernel
theorem dX1_saveVariables_1 : decode cX1_saveVariables 1 = .ok (.istore_n 2, 1) := by decide +kernel
theorem dX1_saveVariables_2 : decode cX1_saveVariables 2 = .ok (.iload_n 2, 1) := by decide +kernel
theorem dX1_saveVariables_3 : decode cX1_saveVariables 3 = .ok (.iload_n 1, 1) := by decide +kernel
theorem dX1_saveVariables_4 : decode cX1_saveVariables 4 = .ok (.if_icmp .gt 27, 3) := by decide +kernel
theorem dX1_saveVariables_7 : decode cX1_saveVariables 7 = .ok (.aload_n 0, 1) := by decide +kernel
theorem dX1_saveVariables_8 : decode cX1_saveVariables 8 = .ok (.getfield 20, 3) := by decide +kernel
theorem dX1_saveVariables_11 : decode cX1_saveVariables 11 = .ok (.aload_n 0, 1) := by decide +kernel
theorem dX1_saveVariables_12 : decode cX1_saveVariables 12 = .ok (.getfield 35, 3) := by decide +kernel
theorem dX1_saveVariables_15 : decode cX1_saveVariables 15 = .ok (.iload_n 2, 1) := by decide +kernel
theorem dX1_saveVariables_16 : decode cX1_saveVariables 16 = .ok (.iadd, 1) := by decide +kernel
theorem dX1_saveVariables_17 : decode cX1_saveVariables 17 = .ok (.aload_n 0, 1) := by decide +kernel
theorem dX1_saveVariables_18 : decode cX1_saveVariables 18 = .ok (.iload_n 2, 1) := by decide +kernel
theorem dX1_saveVariables_19 : decode cX1_saveVariables 19 = .ok (.invokevirtual 41, 3) := by decide +kernel
theorem dX1_saveVariables_22 : decode cX1_saveVariables 22 = .ok (.invokevirtual 109, 3) := by decide +kernel
theorem dX1_saveVariables_25 : decode cX1_saveVariables 25 = .ok (.iinc 2 1, 3) := by decide +kernel
theorem dX1_saveVariables_28 : decode cX1_saveVariables 28 = .ok (.goto (-26), 3) := by decide +kernel
theorem dX1_saveVariables_31 : decode cX1_saveVariables 31 = .ok (.aload_n 0, 1) := by decide +kernel
theorem dX1_saveVariables_32 : decode cX1_saveVariables 32 = .ok (.aload_n 0, 1) := by decide +kernel
theorem dX1_saveVariables_33 : decode cX1_saveVariables 33 = .ok (.getfield 35, 3) := by decide +kernel
theorem dX1_saveVariables_36 : decode cX1_saveVariables 36 = .ok (.iload_n 1, 1) := by decide +kernel
theorem dX1_saveVariables_37 : decode cX1_saveVariables 37 = .ok (.iadd, 1) := by decide +kernel
theorem dX1_saveVariables_38 : decode cX1_saveVariables 38 = .ok (.iconst 1, 1) := by decide +kernel
theorem dX1_saveVariables_39 : decode cX1_saveVariables 39 = .ok (.iadd, 1) := by decide +kernel
theorem dX1_saveVariables_40 : decode cX1_saveVariables 40 = .ok (.invokevirtual 79, 3) := by decide +kernel
theorem dX1_saveVariables_43 : decode cX1_saveVariables 43 = .ok (.return_, 1) := by decide +kernel
theorem dX1_loadVariables_0 : decode cX1_loadVariables 0 = .ok (.iconst 0, 1) := by decide +kernel
theorem dX1_loadVariables_1 : decode cX1_loadVariables 1 = .ok (.istore_n 2, 1) := by decide +kernel
theorem dX1_loadVariables_2 : decode cX1_loadVariables 2 = .ok (.iload_n 2, 1) := by decide +kernel
theorem dX1_loadVariables_3 : decode cX1_loadVariables 3 = .ok (.iload_n 1, 1) := by decide +kernel
theorem dX1_loadVariables_4 : decode cX1_loadVariables 4 = .ok (.if_icmp .gt 27, 3) := by decide +kernel
theorem dX1_loadVariables_7 : decode cX1_loadVariables 7 = .ok (.aload_n 0, 1) := by decide +kernel
theorem dX1_loadVariables_8 : decode cX1_loadVariables 8 = .ok (.iload_n 2, 1) := by decide +kernel
theorem dX1_loadVariables_9 : decode cX1_loadVariables 9 = .ok (.aload_n 0, 1) := by decide +kernel
theorem dX1_loadVariables_10 : decode cX1_loadVariables 10 = .ok (.getfield 20, 3) := by decide +kernel
theorem dX1_loadVariables_13 : decode cX1_loadVariables 13 = .ok (.aload_n 0, 1) := by decide +kernel
theorem dX1_loadVariables_14 : decode cX1_loadVariables 14 = .ok (.getfield 35, 3) := by decide +kernel
theorem dX1_loadVariables_17 : decode cX1_loadVariables 17 = .ok (.iload_n 2, 1) := by decide +kernel
theorem dX1_loadVariables_18 : decode cX1_loadVariables 18 = .ok (.iadd, 1) := by decide +kernel
theorem dX1_loadVariables_19 : decode cX1_loadVariables 19 = .ok (.invokevirtual 142, 3) := by decide +kernel
theorem dX1_loadVariables_22 : decode cX1_loadVariables 22 = .ok (.invokevirtual 71, 3) := by decide +kernel
theorem dX1_loadVariables_25 : decode cX1_loadVariables 25 = .ok (.iinc 2 1, 3) := by decide +kernel
theorem dX1_loadVariables_28 : decode cX1_loadVariables 28 = .ok (.goto (-26), 3) := by decide +kernel
theorem dX1_loadVariables_31 : decode cX1_loadVariables 31 = .ok (.aload_n 0, 1) := by decide +kernel
theorem dX1_loadVariables_32 : decode cX1_loadVariables 32 = .ok (.aload_n 0, 1) := by decide +kernel
theorem dX1_loadVariables_33 : decode cX1_loadVariables 33 = .ok (.getfield 35, 3) := by decide +kernel
theorem dX1_loadVariables_36 : decode cX1_loadVariables 36 = .ok (.iload_n 1, 1) := by decide +kernel
theorem dX1_loadVariables_37 : decode cX1_loadVariables 37 = .ok (.iadd, 1) := by decide +kernel
theorem dX1_loadVariables_38 : decode cX1_loadVariables 38 = .ok (.iconst 1, 1) := by decide +kernel
theorem dX1_loadVariables_39 : decode cX1_loadVariables 39 = .ok (.iadd, 1) := by decide +kernel
theorem dX1_loadVariables_40 : decode cX1_loadVariables 40 = .ok (.invokevirtual 79, 3) := by decide +kernel
theorem dX1_loadVariables_43 : decode cX1_loadVariables 43 = .ok (.return_, 1) := by decide +kernel
theorem dX1_draw_0 : decode cX1_draw 0 = .ok (.iload_n 1, 1) := by decide +kernel
theorem dX1_draw_1 : decode cX1_draw 1 = .ok (.bipush 63, 2) := by decide +kernel
theorem dX1_draw_3 : decode cX1_draw 3 = .ok (.iand, 1) := by decide +kernel
theorem dX1_draw_4 : decode cX1_draw 4 = .ok (.istore 4, 2) := by decide +kernel
theorem dX1_draw_6 : decode cX1_draw 6 = .ok (.iload_n 2, 1) := by decide +kernel
theorem dX1_draw_7 : decode cX1_draw 7 = .ok (.bipush 31, 2) := by decide +kernel
theorem dX1_draw_9 : decode cX1_draw 9 = .ok (.iand, 1) := by decide +kernel
theorem dX1_draw_10 : decode cX1_draw 10 = .ok (.istore 5, 2) := by decide +kernel
theorem dX1_draw_12 : decode cX1_draw 12 = .ok (.iconst 0, 1) := by decide +kernel
theorem dX1_draw_13 : decode cX1_draw 13 = .ok (.istore 6, 2) := by decide +kernel
theorem dX1_draw_15 : decode cX1_draw 15 = .ok (.iconst 0, 1) := by decide +kernel
theorem dX1_draw_16 : decode cX1_draw 16 = .ok (.istore 7, 2) := by decide +kernel
theorem dX1_draw_18 : decode cX1_draw 18 = .ok (.iload 7, 2) := by decide +kernel
theorem dX1_draw_20 : decode cX1_draw 20 = .ok (.iload_n 3, 1) := by decide +kernel
theorem dX1_draw_21 : decode cX1_draw 21 = .ok (.if_icmp .ge 50, 3) := by decide +kernel
theorem dX1_draw_24 : decode cX1_draw 24 = .ok (.iload 5, 2) := by decide +kernel
theorem dX1_draw_26 : decode cX1_draw 26 = .ok (.iload 7, 2) := by decide +kernel
theorem dX1_draw_28 : decode cX1_draw 28 = .ok (.iadd, 1) := by decide +kernel
theorem dX1_draw_29 : decode cX1_draw 29 = .ok (.bipush 32, 2) := by decide +kernel
theorem dX1_draw_31 : decode cX1_draw 31 = .ok (.if_icmp .ge 40, 3) := by decide +kernel
theorem dX1_draw_34 : decode cX1_draw 34 = .ok (.aload_n 0, 1) := by decide +kernel
theorem dX1_draw_35 : decode cX1_draw 35 = .ok (.iload 5, 2) := by decide +kernel
theorem dX1_draw_37 : decode cX1_draw 37 = .ok (.iload 7, 2) := by decide +kernel
theorem dX1_draw_39 : decode cX1_draw 39 = .ok (.iadd, 1) := by decide +kernel
theorem dX1_draw_40 : decode cX1_draw 40 = .ok (.iload 4, 2) := by decide +kernel
theorem dX1_draw_42 : decode cX1_draw 42 = .ok (.aload_n 0, 1) := by decide +kernel
theorem dX1_draw_43 : decode cX1_draw 43 = .ok (.getfield 20, 3) := by decide +kernel
theorem dX1_draw_46 : decode cX1_draw 46 = .ok (.aload_n 0, 1) := by decide +kernel
theorem dX1_draw_47 : decode cX1_draw 47 = .ok (.getfield 35, 3) := by decide +kernel
theorem dX1_draw_50 : decode cX1_draw 50 = .ok (.iload 7, 2) := by decide +kernel
theorem dX1_draw_52 : decode cX1_draw 52 = .ok (.iadd, 1) := by decide +kernel
theorem dX1_draw_53 : decode cX1_draw 53 = .ok (.invokevirtual 142, 3) := by decide +kernel
theorem dX1_draw_56 : decode cX1_draw 56 = .ok (.invokevirtual 145, 3) := by decide +kernel
theorem dX1_draw_59 : decode cX1_draw 59 = .ok (.ifCond .eq 6, 3) := by decide +kernel
theorem dX1_draw_62 : decode cX1_draw 62 = .ok (.iconst 1, 1) := by decide +kernel
theorem dX1_draw_63 : decode cX1_draw 63 = .ok (.istore 6, 2) := by decide +kernel
theorem dX1_draw_65 : decode cX1_draw 65 = .ok (.iinc 7 1, 3) := by decide +kernel
theorem dX1_draw_68 : decode cX1_draw 68 = .ok (.goto (-50), 3) := by decide +kernel
theorem dX1_draw_71 : decode cX1_draw 71 = .ok (.aload_n 0, 1) := by decide +kernel
theorem dX1_draw_72 : decode cX1_draw 72 = .ok (.bipush 15, 2) := by decide +kernel
theorem dX1_draw_74 : decode cX1_draw 74 = .ok (.iload 6, 2) := by decide +kernel
theorem dX1_draw_76 : decode cX1_draw 76 = .ok (.ifCond .eq 7, 3) := by decide +kernel
theorem dX1_draw_79 : decode cX1_draw 79 = .ok (.iconst 1, 1) := by decide +kernel
theorem dX1_draw_80 : decode cX1_draw 80 = .ok (.goto 4, 3) := by decide +kernel
theorem dX1_draw_83 : decode cX1_draw 83 = .ok (.iconst 0, 1) := by decide +kernel
theorem dX1_draw_84 : decode cX1_draw 84 = .ok (.invokevirtual 71, 3) := by decide +kernel
theorem dX1_draw_87 : decode cX1_draw 87 = .ok (.return_, 1) := by decide +kernel
theorem dX1_drawByte_0 : decode cX1_drawByte 0 = .ok (.sipush 1792, 3) := by decide +kernel
theorem dX1_drawByte_3 : decode cX1_drawByte 3 = .ok (.iload_n 1, 1) := by decide +kernel
theorem dX1_drawByte_4 : decode cX1_drawByte 4 = .ok (.bipush 8, 2) := by decide +kernel
theorem dX1_drawByte_6 : decode cX1_drawByte 6 = .ok (.imul, 1) := by decide +kernel
theorem dX1_drawByte_7 : decode cX1_drawByte 7 = .ok (.iadd, 1) := by decide +kernel
theorem dX1_drawByte_8 : decode cX1_drawByte 8 = .ok (.iload_n 2, 1) := by decide +kernel
theorem dX1_drawByte_9 : decode cX1_drawByte 9 = .ok (.bipush 8, 2) := by decide +kernel
theorem dX1_drawByte_11 : decode cX1_drawByte 11 = .ok (.idiv, 1) := by decide +kernel
theorem dX1_drawByte_12 : decode cX1_drawByte 12 = .ok (.iadd, 1) := by decide +kernel
theorem dX1_drawByte_13 : decode cX1_drawByte 13 = .ok (.istore 4, 2) := by decide +kernel
theorem dX1_drawByte_15 : decode cX1_drawByte 15 = .ok (.iload_n 2, 1) := by decide +kernel
theorem dX1_drawByte_16 : decode cX1_drawByte 16 = .ok (.bipush 8, 2) := by decide +kernel
theorem dX1_drawByte_18 : decode cX1_drawByte 18 = .ok (.irem, 1) := by decide +kernel
theorem dX1_drawByte_19 : decode cX1_drawByte 19 = .ok (.istore 5, 2) := by decide +kernel
theorem dX1_drawByte_21 : decode cX1_drawByte 21 = .ok (.aload_n 0, 1) := by decide +kernel
theorem dX1_drawByte_22 : decode cX1_drawByte 22 = .ok (.iload 4, 2) := by decide +kernel
theorem dX1_drawByte_24 : decode cX1_drawByte 24 = .ok (.iload_n 3, 1) := by decide +kernel
theorem dX1_drawByte_25 : decode cX1_drawByte 25 = .ok (.iload 5, 2) := by decide +kernel
theorem dX1_drawByte_27 : decode cX1_drawByte 27 = .ok (.ishr, 1) := by decide +kernel
theorem dX1_drawByte_28 : decode cX1_drawByte 28 = .ok (.invokevirtual 149, 3) := by decide +kernel
theorem dX1_drawByte_31 : decode cX1_drawByte 31 = .ok (.istore 6, 2) := by decide +kernel
theorem dX1_drawByte_33 : decode cX1_drawByte 33 = .ok (.iload_n 2, 1) := by decide +kernel
theorem dX1_drawByte_34 : decode cX1_drawByte 34 = .ok (.bipush 8, 2) := by decide +kernel
theorem dX1_drawByte_36 : decode cX1_drawByte 36 = .ok (.idiv, 1) := by decide +kernel
theorem dX1_drawByte_37 : decode cX1_drawByte 37 = .ok (.bipush 7, 2) := by decide +kernel
theorem dX1_drawByte_39 : decode cX1_drawByte 39 = .ok (.if_icmp .ge 28, 3) := by decide +kernel
theorem dX1_drawByte_42 : decode cX1_drawByte 42 = .ok (.aload_n 0, 1) := by decide +kernel
theorem dX1_drawByte_43 : decode cX1_drawByte 43 = .ok (.iload 4, 2) := by decide +kernel
theorem dX1_drawByte_45 : decode cX1_drawByte 45 = .ok (.iconst 1, 1) := by decide +kernel
theorem dX1_drawByte_46 : decode cX1_drawByte 46 = .ok (.iadd, 1) := by decide +kernel
theorem dX1_drawByte_47 : decode cX1_drawByte 47 = .ok (.iload_n 3, 1) := by decide +kernel
theorem dX1_drawByte_48 : decode cX1_drawByte 48 = .ok (.bipush 8, 2) := by decide +kernel
theorem dX1_drawByte_50 : decode cX1_drawByte 50 = .ok (.iload 5, 2) := by decide +kernel
theorem dX1_drawByte_52 : decode cX1_drawByte 52 = .ok (.isub, 1) := by decide +kernel
theorem dX1_drawByte_53 : decode cX1_drawByte 53 = .ok (.ishl, 1) := by decide +kernel
theorem dX1_drawByte_54 : decode cX1_drawByte 54 = .ok (.sipush 255, 3) := by decide +kernel
theorem dX1_drawByte_57 : decode cX1_drawByte 57 = .ok (.iand, 1) := by decide +kernel
theorem dX1_drawByte_58 : decode cX1_drawByte 58 = .ok (.invokevirtual 149, 3) := by decide +kernel
theorem dX1_drawByte_61 : decode cX1_drawByte 61 = .ok (.ifCond .eq 6, 3) := by decide +kernel
theorem dX1_drawByte_64 : decode cX1_drawByte 64 = .ok (.iconst 1, 1) := by decide +kernel
theorem dX1_drawByte_65 : decode cX1_drawByte 65 = .ok (.istore 6, 2) := by decide +kernel
theorem dX1_drawByte_67 : decode cX1_drawByte 67 = .ok (.iload 6, 2) := by decide +kernel
theorem dX1_drawByte_69 : decode cX1_drawByte 69 = .ok (.ireturn, 1) := by decide +kernel
theorem dX1_flip_0 : decode cX1_flip 0 = .ok (.aload_n 0, 1) := by decide +kernel
theorem dX1_flip_1 : decode cX1_flip 1 = .ok (.getfield 20, 3) := by decide +kernel
theorem dX1_flip_4 : decode cX1_flip 4 = .ok (.iload_n 1, 1) := by decide +kernel
theorem dX1_flip_5 : decode cX1_flip 5 = .ok (.invokevirtual 142, 3) := by decide +kernel
theorem dX1_flip_8 : decode cX1_flip 8 = .ok (.istore_n 3, 1) := by decide +kernel
theorem dX1_flip_9 : decode cX1_flip 9 = .ok (.aload_n 0, 1) := by decide +kernel
theorem dX1_flip_10 : decode cX1_flip 10 = .ok (.getfield 20, 3) := by decide +kernel
theorem dX1_flip_13 : decode cX1_flip 13 = .ok (.iload_n 1, 1) := by decide +kernel
theorem dX1_flip_14 : decode cX1_flip 14 = .ok (.iload_n 3, 1) := by decide +kernel
theorem dX1_flip_15 : decode cX1_flip 15 = .ok (.iload_n 2, 1) := by decide +kernel
theorem dX1_flip_16 : decode cX1_flip 16 = .ok (.ixor, 1) := by decide +kernel
theorem dX1_flip_17 : decode cX1_flip 17 = .ok (.invokevirtual 109, 3) := by decide +kernel
theorem dX1_flip_20 : decode cX1_flip 20 = .ok (.iload_n 3, 1) := by decide +kernel
theorem dX1_flip_21 : decode cX1_flip 21 = .ok (.iload_n 2, 1) := by decide +kernel
theorem dX1_flip_22 : decode cX1_flip 22 = .ok (.iand, 1) := by decide +kernel
theorem dX1_flip_23 : decode cX1_flip 23 = .ok (.ifCond .eq 7, 3) := by decide +kernel
theorem dX1_flip_26 : decode cX1_flip 26 = .ok (.iconst 1, 1) := by decide +kernel
theorem dX1_flip_27 : decode cX1_flip 27 = .ok (.goto 4, 3) := by decide +kernel
theorem dX1_flip_30 : decode cX1_flip 30 = .ok (.iconst 0, 1) := by decide +kernel
theorem dX1_flip_31 : decode cX1_flip 31 = .ok (.ireturn, 1) := by decide +kernel
