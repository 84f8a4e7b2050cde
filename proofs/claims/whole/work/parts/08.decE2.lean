theorem dX7_cycle_40 : decode cX7_cycle 40 = .ok (.aload_n 0, 1) := by decide +kernel
theorem dX7_cycle_41 : decode cX7_cycle 41 = .ok (.getfield 59, 3) := by decide +kernel
theorem dX7_cycle_44 : decode cX7_cycle 44 = .ok (.sipush 262, 3) := by decide +kernel
theorem dX7_cycle_47 : decode cX7_cycle 47 = .ok (.if_icmp .ge 4, 3) := by decide +kernel
theorem dX7_cycle_50 : decode cX7_cycle 50 = .ok (.return_, 1) := by decide +kernel
theorem dX7_cycle_51 : decode cX7_cycle 51 = .ok (.aload_n 0, 1) := by decide +kernel
theorem dX7_cycle_52 : decode cX7_cycle 52 = .ok (.iconst 0, 1) := by decide +kernel
theorem dX7_cycle_53 : decode cX7_cycle 53 = .ok (.putfield 59, 3) := by decide +kernel
theorem dX7_cycle_56 : decode cX7_cycle 56 = .ok (.aload_n 0, 1) := by decide +kernel
theorem dX7_cycle_57 : decode cX7_cycle 57 = .ok (.iconst 0, 1) := by decide +kernel
theorem dX7_cycle_58 : decode cX7_cycle 58 = .ok (.putfield 136, 3) := by decide +kernel
theorem dX7_cycle_61 : decode cX7_cycle 61 = .ok (.aload_n 0, 1) := by decide +kernel
theorem dX7_cycle_62 : decode cX7_cycle 62 = .ok (.dup, 1) := by decide +kernel
theorem dX7_cycle_63 : decode cX7_cycle 63 = .ok (.getfield 139, 3) := by decide +kernel
theorem dX7_cycle_66 : decode cX7_cycle 66 = .ok (.iconst 1, 1) := by decide +kernel
theorem dX7_cycle_67 : decode cX7_cycle 67 = .ok (.iadd, 1) := by decide +kernel
theorem dX7_cycle_68 : decode cX7_cycle 68 = .ok (.putfield 139, 3) := by decide +kernel
theorem dX7_cycle_71 : decode cX7_cycle 71 = .ok (.aload_n 0, 1) := by decide +kernel
theorem dX7_cycle_72 : decode cX7_cycle 72 = .ok (.getfield 16, 3) := by decide +kernel
theorem dX7_cycle_75 : decode cX7_cycle 75 = .ok (.bipush 19, 2) := by decide +kernel
theorem dX7_cycle_77 : decode cX7_cycle 77 = .ok (.iaload, 1) := by decide +kernel
theorem dX7_cycle_78 : decode cX7_cycle 78 = .ok (.ifCond .le 14, 3) := by decide +kernel
theorem dX7_cycle_81 : decode cX7_cycle 81 = .ok (.aload_n 0, 1) := by decide +kernel
theorem dX7_cycle_82 : decode cX7_cycle 82 = .ok (.getfield 16, 3) := by decide +kernel
theorem dX7_cycle_85 : decode cX7_cycle 85 = .ok (.bipush 19, 2) := by decide +kernel
theorem dX7_cycle_87 : decode cX7_cycle 87 = .ok (.dup2, 1) := by decide +kernel
theorem dX7_cycle_88 : decode cX7_cycle 88 = .ok (.iaload, 1) := by decide +kernel
theorem dX7_cycle_89 : decode cX7_cycle 89 = .ok (.iconst 1, 1) := by decide +kernel
theorem dX7_cycle_90 : decode cX7_cycle 90 = .ok (.isub, 1) := by decide +kernel
theorem dX7_cycle_91 : decode cX7_cycle 91 = .ok (.iastore, 1) := by decide +kernel
theorem dX7_cycle_92 : decode cX7_cycle 92 = .ok (.aload_n 0, 1) := by decide +kernel
theorem dX7_cycle_93 : decode cX7_cycle 93 = .ok (.getfield 16, 3) := by decide +kernel
theorem dX7_cycle_96 : decode cX7_cycle 96 = .ok (.bipush 20, 2) := by decide +kernel
theorem dX7_cycle_98 : decode cX7_cycle 98 = .ok (.iaload, 1) := by decide +kernel
theorem dX7_cycle_99 : decode cX7_cycle 99 = .ok (.ifCond .le 14, 3) := by decide +kernel
theorem dX7_cycle_102 : decode cX7_cycle 102 = .ok (.aload_n 0, 1) := by decide +kernel
theorem dX7_cycle_103 : decode cX7_cycle 103 = .ok (.getfield 16, 3) := by decide +kernel
theorem dX7_cycle_106 : decode cX7_cycle 106 = .ok (.bipush 20, 2) := by decide +kernel
theorem dX7_cycle_108 : decode cX7_cycle 108 = .ok (.dup2, 1) := by decide +kernel
theorem dX7_cycle_109 : decode cX7_cycle 109 = .ok (.iaload, 1) := by decide +kernel
theorem dX7_cycle_110 : decode cX7_cycle 110 = .ok (.iconst 1, 1) := by decide +kernel
theorem dX7_cycle_111 : decode cX7_cycle 111 = .ok (.isub, 1) := by decide +kernel
theorem dX7_cycle_112 : decode cX7_cycle 112 = .ok (.iastore, 1) := by decide +kernel
theorem dX7_cycle_113 : decode cX7_cycle 113 = .ok (.return_, 1) := by decide +kernel
theorem dX7_cycles_0 : decode cX7_cycles 0 = .ok (.iconst 0, 1) := by decide +kernel
theorem dX7_cycles_1 : decode cX7_cycles 1 = .ok (.istore_n 2, 1) := by decide +kernel
theorem dX7_cycles_2 : decode cX7_cycles 2 = .ok (.iload_n 2, 1) := by decide +kernel
theorem dX7_cycles_3 : decode cX7_cycles 3 = .ok (.iload_n 1, 1) := by decide +kernel
theorem dX7_cycles_4 : decode cX7_cycles 4 = .ok (.if_icmp .ge 13, 3) := by decide +kernel
theorem dX7_cycles_7 : decode cX7_cycles 7 = .ok (.aload_n 0, 1) := by decide +kernel
theorem dX7_cycles_8 : decode cX7_cycles 8 = .ok (.invokevirtual 142, 3) := by decide +kernel
theorem dX7_cycles_11 : decode cX7_cycles 11 = .ok (.iinc 2 1, 3) := by decide +kernel
theorem dX7_cycles_14 : decode cX7_cycles 14 = .ok (.goto (-12), 3) := by decide +kernel
theorem dX7_cycles_17 : decode cX7_cycles 17 = .ok (.return_, 1) := by decide +kernel
theorem dX7_behindOne_0 : decode cX7_behindOne 0 = .ok (.aload_n 0, 1) := by decide +kernel
theorem dX7_behindOne_1 : decode cX7_behindOne 1 = .ok (.getfield 55, 3) := by decide +kernel
theorem dX7_behindOne_4 : decode cX7_behindOne 4 = .ok (.ifCond .ne 5, 3) := by decide +kernel
theorem dX7_behindOne_7 : decode cX7_behindOne 7 = .ok (.iconst 0, 1) := by decide +kernel
theorem dX7_behindOne_8 : decode cX7_behindOne 8 = .ok (.ireturn, 1) := by decide +kernel
theorem dX7_behindOne_9 : decode cX7_behindOne 9 = .ok (.aload_n 0, 1) := by decide +kernel
theorem dX7_behindOne_10 : decode cX7_behindOne 10 = .ok (.getfield 59, 3) := by decide +kernel
theorem dX7_behindOne_13 : decode cX7_behindOne 13 = .ok (.bipush 64, 2) := by decide +kernel
theorem dX7_behindOne_15 : decode cX7_behindOne 15 = .ok (.if_icmp .lt 86, 3) := by decide +kernel
theorem dX7_behindOne_18 : decode cX7_behindOne 18 = .ok (.aload_n 0, 1) := by decide +kernel
theorem dX7_behindOne_19 : decode cX7_behindOne 19 = .ok (.getfield 59, 3) := by decide +kernel
theorem dX7_behindOne_22 : decode cX7_behindOne 22 = .ok (.sipush 192, 3) := by decide +kernel
theorem dX7_behindOne_25 : decode cX7_behindOne 25 = .ok (.if_icmp .ge 76, 3) := by decide +kernel
theorem dX7_behindOne_28 : decode cX7_behindOne 28 = .ok (.aload_n 0, 1) := by decide +kernel
theorem dX7_behindOne_29 : decode cX7_behindOne 29 = .ok (.getfield 133, 3) := by decide +kernel
theorem dX7_behindOne_32 : decode cX7_behindOne 32 = .ok (.ifCond .ne 69, 3) := by decide +kernel
theorem dX7_behindOne_35 : decode cX7_behindOne 35 = .ok (.aload_n 0, 1) := by decide +kernel
theorem dX7_behindOne_36 : decode cX7_behindOne 36 = .ok (.getfield 130, 3) := by decide +kernel
theorem dX7_behindOne_39 : decode cX7_behindOne 39 = .ok (.iconst 2, 1) := by decide +kernel
theorem dX7_behindOne_40 : decode cX7_behindOne 40 = .ok (.if_icmp .lt 61, 3) := by decide +kernel
theorem dX7_behindOne_43 : decode cX7_behindOne 43 = .ok (.iconst 0, 1) := by decide +kernel
theorem dX7_behindOne_44 : decode cX7_behindOne 44 = .ok (.istore_n 1, 1) := by decide +kernel
theorem dX7_behindOne_45 : decode cX7_behindOne 45 = .ok (.iload_n 1, 1) := by decide +kernel
theorem dX7_behindOne_46 : decode cX7_behindOne 46 = .ok (.bipush 8, 2) := by decide +kernel
theorem dX7_behindOne_48 : decode cX7_behindOne 48 = .ok (.if_icmp .ge 37, 3) := by decide +kernel
theorem dX7_behindOne_51 : decode cX7_behindOne 51 = .ok (.aload_n 0, 1) := by decide +kernel
theorem dX7_behindOne_52 : decode cX7_behindOne 52 = .ok (.getfield 26, 3) := by decide +kernel
theorem dX7_behindOne_55 : decode cX7_behindOne 55 = .ok (.bipush 8, 2) := by decide +kernel
theorem dX7_behindOne_57 : decode cX7_behindOne 57 = .ok (.aload_n 0, 1) := by decide +kernel
theorem dX7_behindOne_58 : decode cX7_behindOne 58 = .ok (.getfield 59, 3) := by decide +kernel
theorem dX7_behindOne_61 : decode cX7_behindOne 61 = .ok (.bipush 64, 2) := by decide +kernel
theorem dX7_behindOne_63 : decode cX7_behindOne 63 = .ok (.isub, 1) := by decide +kernel
theorem dX7_behindOne_64 : decode cX7_behindOne 64 = .ok (.imul, 1) := by decide +kernel
theorem dX7_behindOne_65 : decode cX7_behindOne 65 = .ok (.iload_n 1, 1) := by decide +kernel
theorem dX7_behindOne_66 : decode cX7_behindOne 66 = .ok (.iadd, 1) := by decide +kernel
theorem dX7_behindOne_67 : decode cX7_behindOne 67 = .ok (.aload_n 0, 1) := by decide +kernel
theorem dX7_behindOne_68 : decode cX7_behindOne 68 = .ok (.iconst 0, 1) := by decide +kernel
theorem dX7_behindOne_69 : decode cX7_behindOne 69 = .ok (.invokevirtual 47, 3) := by decide +kernel
theorem dX7_behindOne_72 : decode cX7_behindOne 72 = .ok (.iastore, 1) := by decide +kernel
theorem dX7_behindOne_73 : decode cX7_behindOne 73 = .ok (.aload_n 0, 1) := by decide +kernel
theorem dX7_behindOne_74 : decode cX7_behindOne 74 = .ok (.iconst 0, 1) := by decide +kernel
theorem dX7_behindOne_75 : decode cX7_behindOne 75 = .ok (.iconst 1, 1) := by decide +kernel
theorem dX7_behindOne_76 : decode cX7_behindOne 76 = .ok (.invokevirtual 50, 3) := by decide +kernel
theorem dX7_behindOne_79 : decode cX7_behindOne 79 = .ok (.iinc 1 1, 3) := by decide +kernel
theorem dX7_behindOne_82 : decode cX7_behindOne 82 = .ok (.goto (-37), 3) := by decide +kernel
theorem dX7_behindOne_85 : decode cX7_behindOne 85 = .ok (.aload_n 0, 1) := by decide +kernel
theorem dX7_behindOne_86 : decode cX7_behindOne 86 = .ok (.iconst 1, 1) := by decide +kernel
theorem dX7_behindOne_87 : decode cX7_behindOne 87 = .ok (.putfield 133, 3) := by decide +kernel
theorem dX7_behindOne_90 : decode cX7_behindOne 90 = .ok (.aload_n 0, 1) := by decide +kernel
theorem dX7_behindOne_91 : decode cX7_behindOne 91 = .ok (.getfield 13, 3) := by decide +kernel
theorem dX7_behindOne_94 : decode cX7_behindOne 94 = .ok (.bipush 23, 2) := by decide +kernel
theorem dX7_behindOne_96 : decode cX7_behindOne 96 = .ok (.iconst 0, 1) := by decide +kernel
theorem dX7_behindOne_97 : decode cX7_behindOne 97 = .ok (.iastore, 1) := by decide +kernel
theorem dX7_behindOne_98 : decode cX7_behindOne 98 = .ok (.bipush 8, 2) := by decide +kernel
theorem dX7_behindOne_100 : decode cX7_behindOne 100 = .ok (.ireturn, 1) := by decide +kernel
theorem dX7_behindOne_101 : decode cX7_behindOne 101 = .ok (.aload_n 0, 1) := by decide +kernel
theorem dX7_behindOne_102 : decode cX7_behindOne 102 = .ok (.getfield 59, 3) := by decide +kernel
theorem dX7_behindOne_105 : decode cX7_behindOne 105 = .ok (.bipush 62, 2) := by decide +kernel
theorem dX7_behindOne_107 : decode cX7_behindOne 107 = .ok (.if_icmp .eq 12, 3) := by decide +kernel
theorem dX7_behindOne_110 : decode cX7_behindOne 110 = .ok (.aload_n 0, 1) := by decide +kernel
theorem dX7_behindOne_111 : decode cX7_behindOne 111 = .ok (.getfield 59, 3) := by decide +kernel
theorem dX7_behindOne_114 : decode cX7_behindOne 114 = .ok (.bipush 63, 2) := by decide +kernel
theorem dX7_behindOne_116 : decode cX7_behindOne 116 = .ok (.if_icmp .ne 85, 3) := by decide +kernel
theorem dX7_behindOne_119 : decode cX7_behindOne 119 = .ok (.aload_n 0, 1) := by decide +kernel
theorem dX7_behindOne_120 : decode cX7_behindOne 120 = .ok (.getfield 13, 3) := by decide +kernel
theorem dX7_behindOne_123 : decode cX7_behindOne 123 = .ok (.bipush 21, 2) := by decide +kernel
theorem dX7_behindOne_125 : decode cX7_behindOne 125 = .ok (.iaload, 1) := by decide +kernel
theorem dX7_behindOne_126 : decode cX7_behindOne 126 = .ok (.iconst 1, 1) := by decide +kernel
theorem dX7_behindOne_127 : decode cX7_behindOne 127 = .ok (.if_icmp .ne 74, 3) := by decide +kernel
theorem dX7_behindOne_130 : decode cX7_behindOne 130 = .ok (.aload_n 0, 1) := by decide +kernel
theorem dX7_behindOne_131 : decode cX7_behindOne 131 = .ok (.getfield 136, 3) := by decide +kernel
theorem dX7_behindOne_134 : decode cX7_behindOne 134 = .ok (.ifCond .ne 67, 3) := by decide +kernel
theorem dX7_behindOne_137 : decode cX7_behindOne 137 = .ok (.aload_n 0, 1) := by decide +kernel
theorem dX7_behindOne_138 : decode cX7_behindOne 138 = .ok (.getfield 13, 3) := by decide +kernel
theorem dX7_behindOne_141 : decode cX7_behindOne 141 = .ok (.bipush 20, 2) := by decide +kernel
theorem dX7_behindOne_143 : decode cX7_behindOne 143 = .ok (.bipush 16, 2) := by decide +kernel
theorem dX7_behindOne_145 : decode cX7_behindOne 145 = .ok (.aload_n 0, 1) := by decide +kernel
theorem dX7_behindOne_146 : decode cX7_behindOne 146 = .ok (.getfield 13, 3) := by decide +kernel
theorem dX7_behindOne_149 : decode cX7_behindOne 149 = .ok (.bipush 19, 2) := by decide +kernel
theorem dX7_behindOne_151 : decode cX7_behindOne 151 = .ok (.iaload, 1) := by decide +kernel
theorem dX7_behindOne_152 : decode cX7_behindOne 152 = .ok (.imul, 1) := by decide +kernel
theorem dX7_behindOne_153 : decode cX7_behindOne 153 = .ok (.aload_n 0, 1) := by decide +kernel
theorem dX7_behindOne_154 : decode cX7_behindOne 154 = .ok (.getfield 13, 3) := by decide +kernel
theorem dX7_behindOne_157 : decode cX7_behindOne 157 = .ok (.bipush 18, 2) := by decide +kernel
theorem dX7_behindOne_159 : decode cX7_behindOne 159 = .ok (.iaload, 1) := by decide +kernel
theorem dX7_behindOne_160 : decode cX7_behindOne 160 = .ok (.iadd, 1) := by decide +kernel
theorem dX7_behindOne_161 : decode cX7_behindOne 161 = .ok (.iastore, 1) := by decide +kernel
theorem dX7_behindOne_162 : decode cX7_behindOne 162 = .ok (.aload_n 0, 1) := by decide +kernel
theorem dX7_behindOne_163 : decode cX7_behindOne 163 = .ok (.getfield 13, 3) := by decide +kernel
theorem dX7_behindOne_166 : decode cX7_behindOne 166 = .ok (.bipush 19, 2) := by decide +kernel
theorem dX7_behindOne_168 : decode cX7_behindOne 168 = .ok (.iconst 2, 1) := by decide +kernel
theorem dX7_behindOne_169 : decode cX7_behindOne 169 = .ok (.iastore, 1) := by decide +kernel
theorem dX7_behindOne_170 : decode cX7_behindOne 170 = .ok (.aload_n 0, 1) := by decide +kernel
theorem dX7_behindOne_171 : decode cX7_behindOne 171 = .ok (.getfield 13, 3) := by decide +kernel
theorem dX7_behindOne_174 : decode cX7_behindOne 174 = .ok (.bipush 18, 2) := by decide +kernel
theorem dX7_behindOne_176 : decode cX7_behindOne 176 = .ok (.iconst 1, 1) := by decide +kernel
theorem dX7_behindOne_177 : decode cX7_behindOne 177 = .ok (.iastore, 1) := by decide +kernel
theorem dX7_behindOne_178 : decode cX7_behindOne 178 = .ok (.aload_n 0, 1) := by decide +kernel
theorem dX7_behindOne_179 : decode cX7_behindOne 179 = .ok (.getfield 13, 3) := by decide +kernel
theorem dX7_behindOne_182 : decode cX7_behindOne 182 = .ok (.bipush 21, 2) := by decide +kernel
theorem dX7_behindOne_184 : decode cX7_behindOne 184 = .ok (.iconst 0, 1) := by decide +kernel
theorem dX7_behindOne_185 : decode cX7_behindOne 185 = .ok (.iastore, 1) := by decide +kernel
theorem dX7_behindOne_186 : decode cX7_behindOne 186 = .ok (.aload_n 0, 1) := by decide +kernel
theorem dX7_behindOne_187 : decode cX7_behindOne 187 = .ok (.getfield 13, 3) := by decide +kernel
theorem dX7_behindOne_190 : decode cX7_behindOne 190 = .ok (.bipush 23, 2) := by decide +kernel
theorem dX7_behindOne_192 : decode cX7_behindOne 192 = .ok (.iconst 0, 1) := by decide +kernel
theorem dX7_behindOne_193 : decode cX7_behindOne 193 = .ok (.iastore, 1) := by decide +kernel
theorem dX7_behindOne_194 : decode cX7_behindOne 194 = .ok (.aload_n 0, 1) := by decide +kernel
theorem dX7_behindOne_195 : decode cX7_behindOne 195 = .ok (.iconst 1, 1) := by decide +kernel
theorem dX7_behindOne_196 : decode cX7_behindOne 196 = .ok (.putfield 136, 3) := by decide +kernel
theorem dX7_behindOne_199 : decode cX7_behindOne 199 = .ok (.iconst 1, 1) := by decide +kernel
theorem dX7_behindOne_200 : decode cX7_behindOne 200 = .ok (.ireturn, 1) := by decide +kernel
theorem dX7_behindOne_201 : decode cX7_behindOne 201 = .ok (.iconst 0, 1) := by decide +kernel
theorem dX7_behindOne_202 : decode cX7_behindOne 202 = .ok (.ireturn, 1) := by decide +kernel
theorem dX7_run_0 : decode cX7_run 0 = .ok (.aload_n 0, 1) := by decide +kernel
theorem dX7_run_1 : decode cX7_run 1 = .ok (.iload_n 1, 1) := by decide +kernel
theorem dX7_run_2 : decode cX7_run 2 = .ok (.iconst 1, 1) := by decide +kernel
theorem dX7_run_3 : decode cX7_run 3 = .ok (.if_icmp .lt 10, 3) := by decide +kernel
theorem dX7_run_6 : decode cX7_run 6 = .ok (.iload_n 1, 1) := by decide +kernel
theorem dX7_run_7 : decode cX7_run 7 = .ok (.sipush 4000, 3) := by decide +kernel
theorem dX7_run_10 : decode cX7_run 10 = .ok (.if_icmp .le 7, 3) := by decide +kernel
theorem dX7_run_13 : decode cX7_run 13 = .ok (.iconst 1, 1) := by decide +kernel
theorem dX7_run_14 : decode cX7_run 14 = .ok (.goto 4, 3) := by decide +kernel
theorem dX7_run_17 : decode cX7_run 17 = .ok (.iconst 0, 1) := by decide +kernel
theorem dX7_run_18 : decode cX7_run 18 = .ok (.iconst 1, 1) := by decide +kernel
theorem dX7_run_19 : decode cX7_run 19 = .ok (.invokevirtual 37, 3) := by decide +kernel
theorem dX7_run_22 : decode cX7_run 22 = .ok (.ifCond .eq 5, 3) := by decide +kernel
theorem dX7_run_25 : decode cX7_run 25 = .ok (.iconst 0, 1) := by decide +kernel
theorem dX7_run_26 : decode cX7_run 26 = .ok (.ireturn, 1) := by decide +kernel
theorem dX7_run_27 : decode cX7_run 27 = .ok (.iconst 0, 1) := by decide +kernel
theorem dX7_run_28 : decode cX7_run 28 = .ok (.istore_n 2, 1) := by decide +kernel
theorem dX7_run_29 : decode cX7_run 29 = .ok (.iload_n 2, 1) := by decide +kernel
theorem dX7_run_30 : decode cX7_run 30 = .ok (.iload_n 1, 1) := by decide +kernel
theorem dX7_run_31 : decode cX7_run 31 = .ok (.if_icmp .ge 35, 3) := by decide +kernel
theorem dX7_run_34 : decode cX7_run 34 = .ok (.aload_n 0, 1) := by decide +kernel
theorem dX7_run_35 : decode cX7_run 35 = .ok (.invokevirtual 145, 3) := by decide +kernel
theorem dX7_run_38 : decode cX7_run 38 = .ok (.istore_n 3, 1) := by decide +kernel
theorem dX7_run_39 : decode cX7_run 39 = .ok (.aload_n 0, 1) := by decide +kernel
theorem dX7_run_40 : decode cX7_run 40 = .ok (.iload_n 3, 1) := by decide +kernel
theorem dX7_run_41 : decode cX7_run 41 = .ok (.invokevirtual 148, 3) := by decide +kernel
theorem dX7_run_44 : decode cX7_run 44 = .ok (.aload_n 0, 1) := by decide +kernel
theorem dX7_run_45 : decode cX7_run 45 = .ok (.invokevirtual 151, 3) := by decide +kernel
theorem dX7_run_48 : decode cX7_run 48 = .ok (.istore 4, 2) := by decide +kernel
theorem dX7_run_50 : decode cX7_run 50 = .ok (.aload_n 0, 1) := by decide +kernel
theorem dX7_run_51 : decode cX7_run 51 = .ok (.iload 4, 2) := by decide +kernel
theorem dX7_run_53 : decode cX7_run 53 = .ok (.invokevirtual 148, 3) := by decide +kernel
theorem dX7_run_56 : decode cX7_run 56 = .ok (.iload_n 2, 1) := by decide +kernel
theorem dX7_run_57 : decode cX7_run 57 = .ok (.iload_n 3, 1) := by decide +kernel
theorem dX7_run_58 : decode cX7_run 58 = .ok (.iload 4, 2) := by decide +kernel
theorem dX7_run_60 : decode cX7_run 60 = .ok (.iadd, 1) := by decide +kernel
theorem dX7_run_61 : decode cX7_run 61 = .ok (.iadd, 1) := by decide +kernel
theorem dX7_run_62 : decode cX7_run 62 = .ok (.istore_n 2, 1) := by decide +kernel
theorem dX7_run_63 : decode cX7_run 63 = .ok (.goto (-34), 3) := by decide +kernel
theorem dX7_run_66 : decode cX7_run 66 = .ok (.iload_n 2, 1) := by decide +kernel
theorem dX7_run_67 : decode cX7_run 67 = .ok (.ireturn, 1) := by decide +kernel
theorem dX7_video_0 : decode cX7_video 0 = .ok (.aload_n 0, 1) := by decide +kernel
theorem dX7_video_1 : decode cX7_video 1 = .ok (.iload_n 1, 1) := by decide +kernel
theorem dX7_video_2 : decode cX7_video 2 = .ok (.bipush 6, 2) := by decide +kernel
theorem dX7_video_4 : decode cX7_video 4 = .ok (.invokestatic 33, 3) := by decide +kernel
theorem dX7_video_7 : decode cX7_video 7 = .ok (.iconst 1, 1) := by decide +kernel
theorem dX7_video_8 : decode cX7_video 8 = .ok (.invokevirtual 37, 3) := by decide +kernel
theorem dX7_video_11 : decode cX7_video 11 = .ok (.ifCond .eq 5, 3) := by decide +kernel
theorem dX7_video_14 : decode cX7_video 14 = .ok (.iconst 0, 1) := by decide +kernel
theorem dX7_video_15 : decode cX7_video 15 = .ok (.ireturn, 1) := by decide +kernel
theorem dX7_video_16 : decode cX7_video 16 = .ok (.iload_n 1, 1) := by decide +kernel
theorem dX7_video_17 : decode cX7_video 17 = .ok (.tableswitch 76 0 4 #[35, 48, 53, 58, 63], 35) := by decide +kernel
theorem dX7_video_52 : decode cX7_video 52 = .ok (.aload_n 0, 1) := by decide +kernel
theorem dX7_video_53 : decode cX7_video 53 = .ok (.getfield 55, 3) := by decide +kernel
theorem dX7_video_56 : decode cX7_video 56 = .ok (.ifCond .eq 7, 3) := by decide +kernel
theorem dX7_video_59 : decode cX7_video 59 = .ok (.iconst 1, 1) := by decide +kernel
theorem dX7_video_60 : decode cX7_video 60 = .ok (.goto 4, 3) := by decide +kernel
theorem dX7_video_63 : decode cX7_video 63 = .ok (.iconst 0, 1) := by decide +kernel
theorem dX7_video_64 : decode cX7_video 64 = .ok (.ireturn, 1) := by decide +kernel
theorem dX7_video_65 : decode cX7_video 65 = .ok (.aload_n 0, 1) := by decide +kernel
theorem dX7_video_66 : decode cX7_video 66 = .ok (.getfield 59, 3) := by decide +kernel
theorem dX7_video_69 : decode cX7_video 69 = .ok (.ireturn, 1) := by decide +kernel
theorem dX7_video_70 : decode cX7_video 70 = .ok (.aload_n 0, 1) := by decide +kernel
theorem dX7_video_71 : decode cX7_video 71 = .ok (.getfield 130, 3) := by decide +kernel
theorem dX7_video_74 : decode cX7_video 74 = .ok (.ireturn, 1) := by decide +kernel
theorem dX7_video_75 : decode cX7_video 75 = .ok (.aload_n 0, 1) := by decide +kernel
theorem dX7_video_76 : decode cX7_video 76 = .ok (.getfield 139, 3) := by decide +kernel
theorem dX7_video_79 : decode cX7_video 79 = .ok (.ireturn, 1) := by decide +kernel
theorem dX7_video_80 : decode cX7_video 80 = .ok (.aload_n 0, 1) := by decide +kernel
theorem dX7_video_81 : decode cX7_video 81 = .ok (.invokevirtual 62, 3) := by decide +kernel
theorem dX7_video_84 : decode cX7_video 84 = .ok (.ifCond .eq 7, 3) := by decide +kernel
theorem dX7_video_87 : decode cX7_video 87 = .ok (.iconst 1, 1) := by decide +kernel
theorem dX7_video_88 : decode cX7_video 88 = .ok (.goto 4, 3) := by decide +kernel
theorem dX7_video_91 : decode cX7_video 91 = .ok (.iconst 0, 1) := by decide +kernel
theorem dX7_video_92 : decode cX7_video 92 = .ok (.ireturn, 1) := by decide +kernel
theorem dX7_video_93 : decode cX7_video 93 = .ok (.aload_n 0, 1) := by decide +kernel
theorem dX7_video_94 : decode cX7_video 94 = .ok (.getfield 66, 3) := by decide +kernel
theorem dX7_video_97 : decode cX7_video 97 = .ok (.ireturn, 1) := by decide +kernel
theorem dX7_shown_0 : decode cX7_shown 0 = .ok (.aload_n 0, 1) := by decide +kernel
theorem dX7_shown_1 : decode cX7_shown 1 = .ok (.iload_n 1, 1) := by decide +kernel
theorem dX7_shown_2 : decode cX7_shown 2 = .ok (.sipush 128, 3) := by decide +kernel
theorem dX7_shown_5 : decode cX7_shown 5 = .ok (.invokestatic 33, 3) := by decide +kernel
theorem dX7_shown_8 : decode cX7_shown 8 = .ok (.ifCond .ne 12, 3) := by decide +kernel
theorem dX7_shown_11 : decode cX7_shown 11 = .ok (.iload_n 2, 1) := by decide +kernel
theorem dX7_shown_12 : decode cX7_shown 12 = .ok (.bipush 8, 2) := by decide +kernel
theorem dX7_shown_14 : decode cX7_shown 14 = .ok (.invokestatic 33, 3) := by decide +kernel
theorem dX7_shown_17 : decode cX7_shown 17 = .ok (.ifCond .eq 7, 3) := by decide +kernel
theorem dX7_shown_20 : decode cX7_shown 20 = .ok (.iconst 1, 1) := by decide +kernel
theorem dX7_shown_21 : decode cX7_shown 21 = .ok (.goto 4, 3) := by decide +kernel
theorem dX7_shown_24 : decode cX7_shown 24 = .ok (.iconst 0, 1) := by decide +kernel
theorem dX7_shown_25 : decode cX7_shown 25 = .ok (.iconst 1, 1) := by decide +kernel
theorem dX7_shown_26 : decode cX7_shown 26 = .ok (.invokevirtual 37, 3) := by decide +kernel
theorem dX7_shown_29 : decode cX7_shown 29 = .ok (.ifCond .eq 7, 3) := by decide +kernel
theorem dX7_shown_32 : decode cX7_shown 32 = .ok (.iconst 0, 1) := by decide +kernel
theorem dX7_shown_33 : decode cX7_shown 33 = .ok (.goto 14, 3) := by decide +kernel
theorem dX7_shown_36 : decode cX7_shown 36 = .ok (.aload_n 0, 1) := by decide +kernel
theorem dX7_shown_37 : decode cX7_shown 37 = .ok (.getfield 26, 3) := by decide +kernel
theorem dX7_shown_40 : decode cX7_shown 40 = .ok (.bipush 8, 2) := by decide +kernel
theorem dX7_shown_42 : decode cX7_shown 42 = .ok (.iload_n 1, 1) := by decide +kernel
theorem dX7_shown_43 : decode cX7_shown 43 = .ok (.imul, 1) := by decide +kernel
theorem dX7_shown_44 : decode cX7_shown 44 = .ok (.iload_n 2, 1) := by decide +kernel
theorem dX7_shown_45 : decode cX7_shown 45 = .ok (.iadd, 1) := by decide +kernel
theorem dX7_shown_46 : decode cX7_shown 46 = .ok (.iaload, 1) := by decide +kernel
theorem dX7_shown_47 : decode cX7_shown 47 = .ok (.ireturn, 1) := by decide +kernel
theorem dX7_key_0 : decode cX7_key 0 = .ok (.aload_n 0, 1) := by decide +kernel
theorem dX7_key_1 : decode cX7_key 1 = .ok (.iload_n 1, 1) := by decide +kernel
theorem dX7_key_2 : decode cX7_key 2 = .ok (.bipush 16, 2) := by decide +kernel
theorem dX7_key_4 : decode cX7_key 4 = .ok (.invokestatic 33, 3) := by decide +kernel
theorem dX7_key_7 : decode cX7_key 7 = .ok (.iconst 1, 1) := by decide +kernel
theorem dX7_key_8 : decode cX7_key 8 = .ok (.invokevirtual 37, 3) := by decide +kernel
theorem dX7_key_11 : decode cX7_key 11 = .ok (.ifCond .eq 4, 3) := by decide +kernel
theorem dX7_key_14 : decode cX7_key 14 = .ok (.return_, 1) := by decide +kernel
theorem dX7_key_15 : decode cX7_key 15 = .ok (.aload_n 0, 1) := by decide +kernel
theorem dX7_key_16 : decode cX7_key 16 = .ok (.getfield 22, 3) := by decide +kernel
theorem dX7_key_19 : decode cX7_key 19 = .ok (.iload_n 1, 1) := by decide +kernel
theorem dX7_key_20 : decode cX7_key 20 = .ok (.iload_n 2, 1) := by decide +kernel
theorem dX7_key_21 : decode cX7_key 21 = .ok (.bastore, 1) := by decide +kernel
theorem dX7_key_22 : decode cX7_key 22 = .ok (.return_, 1) := by decide +kernel
theorem dX7_goesOn_0 : decode cX7_goesOn 0 = .ok (.aload_n 0, 1) := by decide +kernel
theorem dX7_goesOn_1 : decode cX7_goesOn 1 = .ok (.getfield 16, 3) := by decide +kernel
theorem dX7_goesOn_4 : decode cX7_goesOn 4 = .ok (.bipush 17, 2) := by decide +kernel
theorem dX7_goesOn_6 : decode cX7_goesOn 6 = .ok (.aload_n 0, 1) := by decide +kernel
theorem dX7_goesOn_7 : decode cX7_goesOn 7 = .ok (.getfield 16, 3) := by decide +kernel
theorem dX7_goesOn_10 : decode cX7_goesOn 10 = .ok (.bipush 17, 2) := by decide +kernel
theorem dX7_goesOn_12 : decode cX7_goesOn 12 = .ok (.iaload, 1) := by decide +kernel
theorem dX7_goesOn_13 : decode cX7_goesOn 13 = .ok (.iload_n 1, 1) := by decide +kernel
theorem dX7_goesOn_14 : decode cX7_goesOn 14 = .ok (.ifCond .eq 7, 3) := by decide +kernel
theorem dX7_goesOn_17 : decode cX7_goesOn 17 = .ok (.iconst 4, 1) := by decide +kernel
theorem dX7_goesOn_18 : decode cX7_goesOn 18 = .ok (.goto 4, 3) := by decide +kernel
theorem dX7_goesOn_21 : decode cX7_goesOn 21 = .ok (.iconst 2, 1) := by decide +kernel
theorem dX7_goesOn_22 : decode cX7_goesOn 22 = .ok (.iadd, 1) := by decide +kernel
theorem dX7_goesOn_23 : decode cX7_goesOn 23 = .ok (.sipush 4095, 3) := by decide +kernel
theorem dX7_goesOn_26 : decode cX7_goesOn 26 = .ok (.iand, 1) := by decide +kernel
theorem dX7_goesOn_27 : decode cX7_goesOn 27 = .ok (.iastore, 1) := by decide +kernel
theorem dX7_goesOn_28 : decode cX7_goesOn 28 = .ok (.return_, 1) := by decide +kernel
theorem dX7_zero_0 : decode cX7_zero 0 = .ok (.iload_n 1, 1) := by decide +kernel
theorem dX7_zero_1 : decode cX7_zero 1 = .ok (.sipush 224, 3) := by decide +kernel
theorem dX7_zero_4 : decode cX7_zero 4 = .ok (.if_icmp .ne 34, 3) := by decide +kernel
theorem dX7_zero_7 : decode cX7_zero 7 = .ok (.sipush 1792, 3) := by decide +kernel
theorem dX7_zero_10 : decode cX7_zero 10 = .ok (.istore_n 2, 1) := by decide +kernel
theorem dX7_zero_11 : decode cX7_zero 11 = .ok (.iload_n 2, 1) := by decide +kernel
theorem dX7_zero_12 : decode cX7_zero 12 = .ok (.sipush 2048, 3) := by decide +kernel
theorem dX7_zero_15 : decode cX7_zero 15 = .ok (.if_icmp .ge 16, 3) := by decide +kernel
theorem dX7_zero_18 : decode cX7_zero 18 = .ok (.aload_n 0, 1) := by decide +kernel
theorem dX7_zero_19 : decode cX7_zero 19 = .ok (.getfield 7, 3) := by decide +kernel
theorem dX7_zero_22 : decode cX7_zero 22 = .ok (.iload_n 2, 1) := by decide +kernel
theorem dX7_zero_23 : decode cX7_zero 23 = .ok (.iconst 0, 1) := by decide +kernel
theorem dX7_zero_24 : decode cX7_zero 24 = .ok (.iastore, 1) := by decide +kernel
theorem dX7_zero_25 : decode cX7_zero 25 = .ok (.iinc 2 1, 3) := by decide +kernel
theorem dX7_zero_28 : decode cX7_zero 28 = .ok (.goto (-17), 3) := by decide +kernel
theorem dX7_zero_31 : decode cX7_zero 31 = .ok (.aload_n 0, 1) := by decide +kernel
theorem dX7_zero_32 : decode cX7_zero 32 = .ok (.iconst 0, 1) := by decide +kernel
theorem dX7_zero_33 : decode cX7_zero 33 = .ok (.invokevirtual 154, 3) := by decide +kernel
theorem dX7_zero_36 : decode cX7_zero 36 = .ok (.iconst 0, 1) := by decide +kernel
theorem dX7_zero_37 : decode cX7_zero 37 = .ok (.ireturn, 1) := by decide +kernel
theorem dX7_zero_38 : decode cX7_zero 38 = .ok (.iload_n 1, 1) := by decide +kernel
theorem dX7_zero_39 : decode cX7_zero 39 = .ok (.sipush 238, 3) := by decide +kernel
theorem dX7_zero_42 : decode cX7_zero 42 = .ok (.if_icmp .eq 5, 3) := by decide +kernel
theorem dX7_zero_45 : decode cX7_zero 45 = .ok (.iconst 1, 1) := by decide +kernel
theorem dX7_zero_46 : decode cX7_zero 46 = .ok (.ireturn, 1) := by decide +kernel
theorem dX7_zero_47 : decode cX7_zero 47 = .ok (.aload_n 0, 1) := by decide +kernel
theorem dX7_zero_48 : decode cX7_zero 48 = .ok (.getfield 16, 3) := by decide +kernel
theorem dX7_zero_51 : decode cX7_zero 51 = .ok (.bipush 18, 2) := by decide +kernel
theorem dX7_zero_53 : decode cX7_zero 53 = .ok (.iaload, 1) := by decide +kernel
theorem dX7_zero_54 : decode cX7_zero 54 = .ok (.ifCond .ne 5, 3) := by decide +kernel
theorem dX7_zero_57 : decode cX7_zero 57 = .ok (.iconst 2, 1) := by decide +kernel
theorem dX7_zero_58 : decode cX7_zero 58 = .ok (.ireturn, 1) := by decide +kernel
theorem dX7_zero_59 : decode cX7_zero 59 = .ok (.aload_n 0, 1) := by decide +kernel
theorem dX7_zero_60 : decode cX7_zero 60 = .ok (.getfield 16, 3) := by decide +kernel
theorem dX7_zero_63 : decode cX7_zero 63 = .ok (.bipush 18, 2) := by decide +kernel
theorem dX7_zero_65 : decode cX7_zero 65 = .ok (.dup2, 1) := by decide +kernel
theorem dX7_zero_66 : decode cX7_zero 66 = .ok (.iaload, 1) := by decide +kernel
theorem dX7_zero_67 : decode cX7_zero 67 = .ok (.iconst 1, 1) := by decide +kernel
theorem dX7_zero_68 : decode cX7_zero 68 = .ok (.isub, 1) := by decide +kernel
theorem dX7_zero_69 : decode cX7_zero 69 = .ok (.iastore, 1) := by decide +kernel
theorem dX7_zero_70 : decode cX7_zero 70 = .ok (.aload_n 0, 1) := by decide +kernel
theorem dX7_zero_71 : decode cX7_zero 71 = .ok (.getfield 16, 3) := by decide +kernel
theorem dX7_zero_74 : decode cX7_zero 74 = .ok (.bipush 17, 2) := by decide +kernel
theorem dX7_zero_76 : decode cX7_zero 76 = .ok (.aload_n 0, 1) := by decide +kernel
theorem dX7_zero_77 : decode cX7_zero 77 = .ok (.getfield 19, 3) := by decide +kernel
theorem dX7_zero_80 : decode cX7_zero 80 = .ok (.aload_n 0, 1) := by decide +kernel
theorem dX7_zero_81 : decode cX7_zero 81 = .ok (.getfield 16, 3) := by decide +kernel
theorem dX7_zero_84 : decode cX7_zero 84 = .ok (.bipush 18, 2) := by decide +kernel
theorem dX7_zero_86 : decode cX7_zero 86 = .ok (.iaload, 1) := by decide +kernel
theorem dX7_zero_87 : decode cX7_zero 87 = .ok (.iaload, 1) := by decide +kernel
theorem dX7_zero_88 : decode cX7_zero 88 = .ok (.iastore, 1) := by decide +kernel
theorem dX7_zero_89 : decode cX7_zero 89 = .ok (.iconst 0, 1) := by decide +kernel
theorem dX7_zero_90 : decode cX7_zero 90 = .ok (.ireturn, 1) := by decide +kernel
theorem dX7_call_0 : decode cX7_call 0 = .ok (.aload_n 0, 1) := by decide +kernel
theorem dX7_call_1 : decode cX7_call 1 = .ok (.getfield 16, 3) := by decide +kernel
theorem dX7_call_4 : decode cX7_call 4 = .ok (.bipush 18, 2) := by decide +kernel
theorem dX7_call_6 : decode cX7_call 6 = .ok (.iaload, 1) := by decide +kernel
theorem dX7_call_7 : decode cX7_call 7 = .ok (.bipush 12, 2) := by decide +kernel
theorem dX7_call_9 : decode cX7_call 9 = .ok (.if_icmp .ne 5, 3) := by decide +kernel
theorem dX7_call_12 : decode cX7_call 12 = .ok (.iconst 2, 1) := by decide +kernel
theorem dX7_call_13 : decode cX7_call 13 = .ok (.ireturn, 1) := by decide +kernel
theorem dX7_call_14 : decode cX7_call 14 = .ok (.aload_n 0, 1) := by decide +kernel
theorem dX7_call_15 : decode cX7_call 15 = .ok (.getfield 19, 3) := by decide +kernel
theorem dX7_call_18 : decode cX7_call 18 = .ok (.aload_n 0, 1) := by decide +kernel
theorem dX7_call_19 : decode cX7_call 19 = .ok (.getfield 16, 3) := by decide +kernel
theorem dX7_call_22 : decode cX7_call 22 = .ok (.bipush 18, 2) := by decide +kernel
theorem dX7_call_24 : decode cX7_call 24 = .ok (.iaload, 1) := by decide +kernel
theorem dX7_call_25 : decode cX7_call 25 = .ok (.aload_n 0, 1) := by decide +kernel
theorem dX7_call_26 : decode cX7_call 26 = .ok (.getfield 16, 3) := by decide +kernel
theorem dX7_call_29 : decode cX7_call 29 = .ok (.bipush 17, 2) := by decide +kernel
theorem dX7_call_31 : decode cX7_call 31 = .ok (.iaload, 1) := by decide +kernel
theorem dX7_call_32 : decode cX7_call 32 = .ok (.iconst 2, 1) := by decide +kernel
theorem dX7_call_33 : decode cX7_call 33 = .ok (.iadd, 1) := by decide +kernel
theorem dX7_call_34 : decode cX7_call 34 = .ok (.sipush 4095, 3) := by decide +kernel
theorem dX7_call_37 : decode cX7_call 37 = .ok (.iand, 1) := by decide +kernel
theorem dX7_call_38 : decode cX7_call 38 = .ok (.iastore, 1) := by decide +kernel
theorem dX7_call_39 : decode cX7_call 39 = .ok (.aload_n 0, 1) := by decide +kernel
theorem dX7_call_40 : decode cX7_call 40 = .ok (.getfield 16, 3) := by decide +kernel
theorem dX7_call_43 : decode cX7_call 43 = .ok (.bipush 18, 2) := by decide +kernel
theorem dX7_call_45 : decode cX7_call 45 = .ok (.dup2, 1) := by decide +kernel
theorem dX7_call_46 : decode cX7_call 46 = .ok (.iaload, 1) := by decide +kernel
theorem dX7_call_47 : decode cX7_call 47 = .ok (.iconst 1, 1) := by decide +kernel
theorem dX7_call_48 : decode cX7_call 48 = .ok (.iadd, 1) := by decide +kernel
theorem dX7_call_49 : decode cX7_call 49 = .ok (.iastore, 1) := by decide +kernel
theorem dX7_call_50 : decode cX7_call 50 = .ok (.aload_n 0, 1) := by decide +kernel
theorem dX7_call_51 : decode cX7_call 51 = .ok (.getfield 16, 3) := by decide +kernel
theorem dX7_call_54 : decode cX7_call 54 = .ok (.bipush 17, 2) := by decide +kernel
theorem dX7_call_56 : decode cX7_call 56 = .ok (.iload_n 1, 1) := by decide +kernel
theorem dX7_call_57 : decode cX7_call 57 = .ok (.iastore, 1) := by decide +kernel
theorem dX7_call_58 : decode cX7_call 58 = .ok (.iconst 0, 1) := by decide +kernel
theorem dX7_call_59 : decode cX7_call 59 = .ok (.ireturn, 1) := by decide +kernel
theorem dX7_eight_0 : decode cX7_eight 0 = .ok (.aload_n 0, 1) := by decide +kernel
theorem dX7_eight_1 : decode cX7_eight 1 = .ok (.getfield 16, 3) := by decide +kernel
theorem dX7_eight_4 : decode cX7_eight 4 = .ok (.iload_n 1, 1) := by decide +kernel
theorem dX7_eight_5 : decode cX7_eight 5 = .ok (.iaload, 1) := by decide +kernel
theorem dX7_eight_6 : decode cX7_eight 6 = .ok (.istore 4, 2) := by decide +kernel
theorem dX7_eight_8 : decode cX7_eight 8 = .ok (.aload_n 0, 1) := by decide +kernel
theorem dX7_eight_9 : decode cX7_eight 9 = .ok (.getfield 16, 3) := by decide +kernel
theorem dX7_eight_12 : decode cX7_eight 12 = .ok (.iload_n 2, 1) := by decide +kernel
theorem dX7_eight_13 : decode cX7_eight 13 = .ok (.iaload, 1) := by decide +kernel
theorem dX7_eight_14 : decode cX7_eight 14 = .ok (.istore 5, 2) := by decide +kernel
theorem dX7_eight_16 : decode cX7_eight 16 = .ok (.iload_n 3, 1) := by decide +kernel
theorem dX7_eight_17 : decode cX7_eight 17 = .ok (.ifCond .ne 8, 3) := by decide +kernel
theorem dX7_eight_20 : decode cX7_eight 20 = .ok (.iload 5, 2) := by decide +kernel
theorem dX7_eight_22 : decode cX7_eight 22 = .ok (.goto 99, 3) := by decide +kernel
theorem dX7_eight_25 : decode cX7_eight 25 = .ok (.iload_n 3, 1) := by decide +kernel
theorem dX7_eight_26 : decode cX7_eight 26 = .ok (.iconst 1, 1) := by decide +kernel
theorem dX7_eight_27 : decode cX7_eight 27 = .ok (.if_icmp .ne 11, 3) := by decide +kernel
theorem dX7_eight_30 : decode cX7_eight 30 = .ok (.iload 4, 2) := by decide +kernel
theorem dX7_eight_32 : decode cX7_eight 32 = .ok (.iload 5, 2) := by decide +kernel
theorem dX7_eight_34 : decode cX7_eight 34 = .ok (.ior, 1) := by decide +kernel
theorem dX7_eight_35 : decode cX7_eight 35 = .ok (.goto 86, 3) := by decide +kernel
theorem dX7_eight_38 : decode cX7_eight 38 = .ok (.iload_n 3, 1) := by decide +kernel
theorem dX7_eight_39 : decode cX7_eight 39 = .ok (.iconst 2, 1) := by decide +kernel
theorem dX7_eight_40 : decode cX7_eight 40 = .ok (.if_icmp .ne 11, 3) := by decide +kernel
theorem dX7_eight_43 : decode cX7_eight 43 = .ok (.iload 4, 2) := by decide +kernel
theorem dX7_eight_45 : decode cX7_eight 45 = .ok (.iload 5, 2) := by decide +kernel
theorem dX7_eight_47 : decode cX7_eight 47 = .ok (.iand, 1) := by decide +kernel
theorem dX7_eight_48 : decode cX7_eight 48 = .ok (.goto 73, 3) := by decide +kernel
theorem dX7_eight_51 : decode cX7_eight 51 = .ok (.iload_n 3, 1) := by decide +kernel
theorem dX7_eight_52 : decode cX7_eight 52 = .ok (.iconst 3, 1) := by decide +kernel
theorem dX7_eight_53 : decode cX7_eight 53 = .ok (.if_icmp .ne 11, 3) := by decide +kernel
theorem dX7_eight_56 : decode cX7_eight 56 = .ok (.iload 4, 2) := by decide +kernel
theorem dX7_eight_58 : decode cX7_eight 58 = .ok (.iload 5, 2) := by decide +kernel
theorem dX7_eight_60 : decode cX7_eight 60 = .ok (.ixor, 1) := by decide +kernel
theorem dX7_eight_61 : decode cX7_eight 61 = .ok (.goto 60, 3) := by decide +kernel
theorem dX7_eight_64 : decode cX7_eight 64 = .ok (.iload_n 3, 1) := by decide +kernel
theorem dX7_eight_65 : decode cX7_eight 65 = .ok (.iconst 4, 1) := by decide +kernel
theorem dX7_eight_66 : decode cX7_eight 66 = .ok (.if_icmp .ne 11, 3) := by decide +kernel
theorem dX7_eight_69 : decode cX7_eight 69 = .ok (.iload 4, 2) := by decide +kernel
theorem dX7_eight_71 : decode cX7_eight 71 = .ok (.iload 5, 2) := by decide +kernel
theorem dX7_eight_73 : decode cX7_eight 73 = .ok (.iadd, 1) := by decide +kernel
theorem dX7_eight_74 : decode cX7_eight 74 = .ok (.goto 47, 3) := by decide +kernel
theorem dX7_eight_77 : decode cX7_eight 77 = .ok (.iload_n 3, 1) := by decide +kernel
theorem dX7_eight_78 : decode cX7_eight 78 = .ok (.iconst 5, 1) := by decide +kernel
theorem dX7_eight_79 : decode cX7_eight 79 = .ok (.if_icmp .ne 11, 3) := by decide +kernel
theorem dX7_eight_82 : decode cX7_eight 82 = .ok (.iload 4, 2) := by decide +kernel
theorem dX7_eight_84 : decode cX7_eight 84 = .ok (.iload 5, 2) := by decide +kernel
theorem dX7_eight_86 : decode cX7_eight 86 = .ok (.isub, 1) := by decide +kernel
theorem dX7_eight_87 : decode cX7_eight 87 = .ok (.goto 34, 3) := by decide +kernel
theorem dX7_eight_90 : decode cX7_eight 90 = .ok (.iload_n 3, 1) := by decide +kernel
theorem dX7_eight_91 : decode cX7_eight 91 = .ok (.bipush 6, 2) := by decide +kernel
theorem dX7_eight_93 : decode cX7_eight 93 = .ok (.if_icmp .ne 10, 3) := by decide +kernel
theorem dX7_eight_96 : decode cX7_eight 96 = .ok (.iload 5, 2) := by decide +kernel
theorem dX7_eight_98 : decode cX7_eight 98 = .ok (.iconst 1, 1) := by decide +kernel
theorem dX7_eight_99 : decode cX7_eight 99 = .ok (.ishr, 1) := by decide +kernel
theorem dX7_eight_100 : decode cX7_eight 100 = .ok (.goto 21, 3) := by decide +kernel
theorem dX7_eight_103 : decode cX7_eight 103 = .ok (.iload_n 3, 1) := by decide +kernel
theorem dX7_eight_104 : decode cX7_eight 104 = .ok (.bipush 7, 2) := by decide +kernel
theorem dX7_eight_106 : decode cX7_eight 106 = .ok (.if_icmp .ne 11, 3) := by decide +kernel
theorem dX7_eight_109 : decode cX7_eight 109 = .ok (.iload 5, 2) := by decide +kernel
theorem dX7_eight_111 : decode cX7_eight 111 = .ok (.iload 4, 2) := by decide +kernel
theorem dX7_eight_113 : decode cX7_eight 113 = .ok (.isub, 1) := by decide +kernel
theorem dX7_eight_114 : decode cX7_eight 114 = .ok (.goto 7, 3) := by decide +kernel
theorem dX7_eight_117 : decode cX7_eight 117 = .ok (.iload 5, 2) := by decide +kernel
theorem dX7_eight_119 : decode cX7_eight 119 = .ok (.iconst 1, 1) := by decide +kernel
theorem dX7_eight_120 : decode cX7_eight 120 = .ok (.ishl, 1) := by decide +kernel
theorem dX7_eight_121 : decode cX7_eight 121 = .ok (.istore 6, 2) := by decide +kernel
theorem dX7_eight_123 : decode cX7_eight 123 = .ok (.iload_n 3, 1) := by decide +kernel
theorem dX7_eight_124 : decode cX7_eight 124 = .ok (.bipush 7, 2) := by decide +kernel
theorem dX7_eight_126 : decode cX7_eight 126 = .ok (.if_icmp .le 11, 3) := by decide +kernel
theorem dX7_eight_129 : decode cX7_eight 129 = .ok (.iload_n 3, 1) := by decide +kernel
theorem dX7_eight_130 : decode cX7_eight 130 = .ok (.bipush 14, 2) := by decide +kernel
theorem dX7_eight_132 : decode cX7_eight 132 = .ok (.if_icmp .eq 5, 3) := by decide +kernel
theorem dX7_eight_135 : decode cX7_eight 135 = .ok (.iconst 1, 1) := by decide +kernel
theorem dX7_eight_136 : decode cX7_eight 136 = .ok (.ireturn, 1) := by decide +kernel
theorem dX7_eight_137 : decode cX7_eight 137 = .ok (.aload_n 0, 1) := by decide +kernel
theorem dX7_eight_138 : decode cX7_eight 138 = .ok (.getfield 16, 3) := by decide +kernel
theorem dX7_eight_141 : decode cX7_eight 141 = .ok (.iload_n 1, 1) := by decide +kernel
theorem dX7_eight_142 : decode cX7_eight 142 = .ok (.iload 6, 2) := by decide +kernel
theorem dX7_eight_144 : decode cX7_eight 144 = .ok (.sipush 255, 3) := by decide +kernel
theorem dX7_eight_147 : decode cX7_eight 147 = .ok (.iand, 1) := by decide +kernel
theorem dX7_eight_148 : decode cX7_eight 148 = .ok (.iastore, 1) := by decide +kernel
theorem dX7_eight_149 : decode cX7_eight 149 = .ok (.iload_n 3, 1) := by decide +kernel
theorem dX7_eight_150 : decode cX7_eight 150 = .ok (.iconst 4, 1) := by decide +kernel
theorem dX7_eight_151 : decode cX7_eight 151 = .ok (.if_icmp .ne 15, 3) := by decide +kernel
theorem dX7_eight_154 : decode cX7_eight 154 = .ok (.aload_n 0, 1) := by decide +kernel
theorem dX7_eight_155 : decode cX7_eight 155 = .ok (.getfield 16, 3) := by decide +kernel
theorem dX7_eight_158 : decode cX7_eight 158 = .ok (.bipush 15, 2) := by decide +kernel
theorem dX7_eight_160 : decode cX7_eight 160 = .ok (.iload 6, 2) := by decide +kernel
theorem dX7_eight_162 : decode cX7_eight 162 = .ok (.bipush 8, 2) := by decide +kernel
theorem dX7_eight_164 : decode cX7_eight 164 = .ok (.ishr, 1) := by decide +kernel
theorem dX7_eight_165 : decode cX7_eight 165 = .ok (.iastore, 1) := by decide +kernel
theorem dX7_eight_166 : decode cX7_eight 166 = .ok (.iload_n 3, 1) := by decide +kernel
theorem dX7_eight_167 : decode cX7_eight 167 = .ok (.iconst 5, 1) := by decide +kernel
theorem dX7_eight_168 : decode cX7_eight 168 = .ok (.if_icmp .eq 9, 3) := by decide +kernel
theorem dX7_eight_171 : decode cX7_eight 171 = .ok (.iload_n 3, 1) := by decide +kernel
theorem dX7_eight_172 : decode cX7_eight 172 = .ok (.bipush 7, 2) := by decide +kernel
theorem dX7_eight_174 : decode cX7_eight 174 = .ok (.if_icmp .ne 20, 3) := by decide +kernel
theorem dX7_eight_177 : decode cX7_eight 177 = .ok (.aload_n 0, 1) := by decide +kernel
theorem dX7_eight_178 : decode cX7_eight 178 = .ok (.getfield 16, 3) := by decide +kernel
theorem dX7_eight_181 : decode cX7_eight 181 = .ok (.bipush 15, 2) := by decide +kernel
theorem dX7_eight_183 : decode cX7_eight 183 = .ok (.iload 6, 2) := by decide +kernel
theorem dX7_eight_185 : decode cX7_eight 185 = .ok (.ifCond .ge 7, 3) := by decide +kernel
theorem dX7_eight_188 : decode cX7_eight 188 = .ok (.iconst 0, 1) := by decide +kernel
theorem dX7_eight_189 : decode cX7_eight 189 = .ok (.goto 4, 3) := by decide +kernel
theorem dX7_eight_192 : decode cX7_eight 192 = .ok (.iconst 1, 1) := by decide +kernel
theorem dX7_eight_193 : decode cX7_eight 193 = .ok (.iastore, 1) := by decide +kernel
theorem dX7_eight_194 : decode cX7_eight 194 = .ok (.iload_n 3, 1) := by decide +kernel
theorem dX7_eight_195 : decode cX7_eight 195 = .ok (.bipush 6, 2) := by decide +kernel
theorem dX7_eight_197 : decode cX7_eight 197 = .ok (.if_icmp .ne 14, 3) := by decide +kernel
theorem dX7_eight_200 : decode cX7_eight 200 = .ok (.aload_n 0, 1) := by decide +kernel
theorem dX7_eight_201 : decode cX7_eight 201 = .ok (.getfield 16, 3) := by decide +kernel
theorem dX7_eight_204 : decode cX7_eight 204 = .ok (.bipush 15, 2) := by decide +kernel
theorem dX7_eight_206 : decode cX7_eight 206 = .ok (.iload 5, 2) := by decide +kernel
theorem dX7_eight_208 : decode cX7_eight 208 = .ok (.iconst 1, 1) := by decide +kernel
theorem dX7_eight_209 : decode cX7_eight 209 = .ok (.iand, 1) := by decide +kernel
theorem dX7_eight_210 : decode cX7_eight 210 = .ok (.iastore, 1) := by decide +kernel
theorem dX7_eight_211 : decode cX7_eight 211 = .ok (.iload_n 3, 1) := by decide +kernel
theorem dX7_eight_212 : decode cX7_eight 212 = .ok (.bipush 14, 2) := by decide +kernel
theorem dX7_eight_214 : decode cX7_eight 214 = .ok (.if_icmp .ne 15, 3) := by decide +kernel
theorem dX7_eight_217 : decode cX7_eight 217 = .ok (.aload_n 0, 1) := by decide +kernel
theorem dX7_eight_218 : decode cX7_eight 218 = .ok (.getfield 16, 3) := by decide +kernel
theorem dX7_eight_221 : decode cX7_eight 221 = .ok (.bipush 15, 2) := by decide +kernel
theorem dX7_eight_223 : decode cX7_eight 223 = .ok (.iload 5, 2) := by decide +kernel
theorem dX7_eight_225 : decode cX7_eight 225 = .ok (.bipush 7, 2) := by decide +kernel
theorem dX7_eight_227 : decode cX7_eight 227 = .ok (.ishr, 1) := by decide +kernel
theorem dX7_eight_228 : decode cX7_eight 228 = .ok (.iastore, 1) := by decide +kernel
theorem dX7_eight_229 : decode cX7_eight 229 = .ok (.aload_n 0, 1) := by decide +kernel
theorem dX7_eight_230 : decode cX7_eight 230 = .ok (.iconst 0, 1) := by decide +kernel
theorem dX7_eight_231 : decode cX7_eight 231 = .ok (.invokevirtual 154, 3) := by decide +kernel
theorem dX7_eight_234 : decode cX7_eight 234 = .ok (.iconst 0, 1) := by decide +kernel
theorem dX7_eight_235 : decode cX7_eight 235 = .ok (.ireturn, 1) := by decide +kernel
theorem dX7_draw_0 : decode cX7_draw 0 = .ok (.aload_n 0, 1) := by decide +kernel
theorem dX7_draw_1 : decode cX7_draw 1 = .ok (.getfield 16, 3) := by decide +kernel
theorem dX7_draw_4 : decode cX7_draw 4 = .ok (.iload_n 1, 1) := by decide +kernel
theorem dX7_draw_5 : decode cX7_draw 5 = .ok (.iaload, 1) := by decide +kernel
theorem dX7_draw_6 : decode cX7_draw 6 = .ok (.bipush 63, 2) := by decide +kernel
theorem dX7_draw_8 : decode cX7_draw 8 = .ok (.iand, 1) := by decide +kernel
theorem dX7_draw_9 : decode cX7_draw 9 = .ok (.istore 4, 2) := by decide +kernel
theorem dX7_draw_11 : decode cX7_draw 11 = .ok (.aload_n 0, 1) := by decide +kernel
theorem dX7_draw_12 : decode cX7_draw 12 = .ok (.getfield 16, 3) := by decide +kernel
theorem dX7_draw_15 : decode cX7_draw 15 = .ok (.iload_n 2, 1) := by decide +kernel
theorem dX7_draw_16 : decode cX7_draw 16 = .ok (.iaload, 1) := by decide +kernel
theorem dX7_draw_17 : decode cX7_draw 17 = .ok (.bipush 31, 2) := by decide +kernel
theorem dX7_draw_19 : decode cX7_draw 19 = .ok (.iand, 1) := by decide +kernel
theorem dX7_draw_20 : decode cX7_draw 20 = .ok (.istore 5, 2) := by decide +kernel
theorem dX7_draw_22 : decode cX7_draw 22 = .ok (.iconst 0, 1) := by decide +kernel
theorem dX7_draw_23 : decode cX7_draw 23 = .ok (.istore 6, 2) := by decide +kernel
theorem dX7_draw_25 : decode cX7_draw 25 = .ok (.iconst 0, 1) := by decide +kernel
theorem dX7_draw_26 : decode cX7_draw 26 = .ok (.istore 7, 2) := by decide +kernel
theorem dX7_draw_28 : decode cX7_draw 28 = .ok (.iload 7, 2) := by decide +kernel
theorem dX7_draw_30 : decode cX7_draw 30 = .ok (.iload_n 3, 1) := by decide +kernel
theorem dX7_draw_31 : decode cX7_draw 31 = .ok (.if_icmp .ge 140, 3) := by decide +kernel
theorem dX7_draw_34 : decode cX7_draw 34 = .ok (.iload 5, 2) := by decide +kernel
theorem dX7_draw_36 : decode cX7_draw 36 = .ok (.iload 7, 2) := by decide +kernel
theorem dX7_draw_38 : decode cX7_draw 38 = .ok (.iadd, 1) := by decide +kernel
theorem dX7_draw_39 : decode cX7_draw 39 = .ok (.bipush 32, 2) := by decide +kernel
theorem dX7_draw_41 : decode cX7_draw 41 = .ok (.if_icmp .ge 130, 3) := by decide +kernel
theorem dX7_draw_44 : decode cX7_draw 44 = .ok (.aload_n 0, 1) := by decide +kernel
theorem dX7_draw_45 : decode cX7_draw 45 = .ok (.aload_n 0, 1) := by decide +kernel
theorem dX7_draw_46 : decode cX7_draw 46 = .ok (.getfield 16, 3) := by decide +kernel
theorem dX7_draw_49 : decode cX7_draw 49 = .ok (.bipush 16, 2) := by decide +kernel
theorem dX7_draw_51 : decode cX7_draw 51 = .ok (.iaload, 1) := by decide +kernel
theorem dX7_draw_52 : decode cX7_draw 52 = .ok (.iload 7, 2) := by decide +kernel
theorem dX7_draw_54 : decode cX7_draw 54 = .ok (.iadd, 1) := by decide +kernel
theorem dX7_draw_55 : decode cX7_draw 55 = .ok (.invokevirtual 43, 3) := by decide +kernel
theorem dX7_draw_58 : decode cX7_draw 58 = .ok (.istore 8, 2) := by decide +kernel
theorem dX7_draw_60 : decode cX7_draw 60 = .ok (.iconst 0, 1) := by decide +kernel
theorem dX7_draw_61 : decode cX7_draw 61 = .ok (.istore 9, 2) := by decide +kernel
theorem dX7_draw_63 : decode cX7_draw 63 = .ok (.iload 9, 2) := by decide +kernel
theorem dX7_draw_65 : decode cX7_draw 65 = .ok (.bipush 8, 2) := by decide +kernel
theorem dX7_draw_67 : decode cX7_draw 67 = .ok (.if_icmp .ge 98, 3) := by decide +kernel
theorem dX7_draw_70 : decode cX7_draw 70 = .ok (.iload 4, 2) := by decide +kernel
theorem dX7_draw_72 : decode cX7_draw 72 = .ok (.iload 9, 2) := by decide +kernel
theorem dX7_draw_74 : decode cX7_draw 74 = .ok (.iadd, 1) := by decide +kernel
theorem dX7_draw_75 : decode cX7_draw 75 = .ok (.bipush 64, 2) := by decide +kernel
theorem dX7_draw_77 : decode cX7_draw 77 = .ok (.if_icmp .ge 88, 3) := by decide +kernel
theorem dX7_draw_80 : decode cX7_draw 80 = .ok (.iload 8, 2) := by decide +kernel
theorem dX7_draw_82 : decode cX7_draw 82 = .ok (.bipush 7, 2) := by decide +kernel
theorem dX7_draw_84 : decode cX7_draw 84 = .ok (.iload 9, 2) := by decide +kernel
theorem dX7_draw_86 : decode cX7_draw 86 = .ok (.isub, 1) := by decide +kernel
theorem dX7_draw_87 : decode cX7_draw 87 = .ok (.ishr, 1) := by decide +kernel
theorem dX7_draw_88 : decode cX7_draw 88 = .ok (.iconst 1, 1) := by decide +kernel
theorem dX7_draw_89 : decode cX7_draw 89 = .ok (.iand, 1) := by decide +kernel
theorem dX7_draw_90 : decode cX7_draw 90 = .ok (.ifCond .ne 6, 3) := by decide +kernel
theorem dX7_draw_93 : decode cX7_draw 93 = .ok (.goto 66, 3) := by decide +kernel
theorem dX7_draw_96 : decode cX7_draw 96 = .ok (.sipush 1792, 3) := by decide +kernel
theorem dX7_draw_99 : decode cX7_draw 99 = .ok (.bipush 8, 2) := by decide +kernel
theorem dX7_draw_101 : decode cX7_draw 101 = .ok (.iload 5, 2) := by decide +kernel
theorem dX7_draw_103 : decode cX7_draw 103 = .ok (.iload 7, 2) := by decide +kernel
theorem dX7_draw_105 : decode cX7_draw 105 = .ok (.iadd, 1) := by decide +kernel
theorem dX7_draw_106 : decode cX7_draw 106 = .ok (.imul, 1) := by decide +kernel
theorem dX7_draw_107 : decode cX7_draw 107 = .ok (.iadd, 1) := by decide +kernel
theorem dX7_draw_108 : decode cX7_draw 108 = .ok (.iload 4, 2) := by decide +kernel
theorem dX7_draw_110 : decode cX7_draw 110 = .ok (.iload 9, 2) := by decide +kernel
theorem dX7_draw_112 : decode cX7_draw 112 = .ok (.iadd, 1) := by decide +kernel
theorem dX7_draw_113 : decode cX7_draw 113 = .ok (.iconst 3, 1) := by decide +kernel
theorem dX7_draw_114 : decode cX7_draw 114 = .ok (.ishr, 1) := by decide +kernel
theorem dX7_draw_115 : decode cX7_draw 115 = .ok (.iadd, 1) := by decide +kernel
theorem dX7_draw_116 : decode cX7_draw 116 = .ok (.istore 10, 2) := by decide +kernel
theorem dX7_draw_118 : decode cX7_draw 118 = .ok (.sipush 128, 3) := by decide +kernel
theorem dX7_draw_121 : decode cX7_draw 121 = .ok (.iload 4, 2) := by decide +kernel
theorem dX7_draw_123 : decode cX7_draw 123 = .ok (.iload 9, 2) := by decide +kernel
theorem dX7_draw_125 : decode cX7_draw 125 = .ok (.iadd, 1) := by decide +kernel
theorem dX7_draw_126 : decode cX7_draw 126 = .ok (.bipush 7, 2) := by decide +kernel
theorem dX7_draw_128 : decode cX7_draw 128 = .ok (.iand, 1) := by decide +kernel
theorem dX7_draw_129 : decode cX7_draw 129 = .ok (.ishr, 1) := by decide +kernel
theorem dX7_draw_130 : decode cX7_draw 130 = .ok (.istore 11, 2) := by decide +kernel
theorem dX7_draw_132 : decode cX7_draw 132 = .ok (.iload 6, 2) := by decide +kernel
theorem dX7_draw_134 : decode cX7_draw 134 = .ok (.aload_n 0, 1) := by decide +kernel
theorem dX7_draw_135 : decode cX7_draw 135 = .ok (.getfield 7, 3) := by decide +kernel
theorem dX7_draw_138 : decode cX7_draw 138 = .ok (.iload 10, 2) := by decide +kernel
theorem dX7_draw_140 : decode cX7_draw 140 = .ok (.iaload, 1) := by decide +kernel
theorem dX7_draw_141 : decode cX7_draw 141 = .ok (.iload 11, 2) := by decide +kernel
theorem dX7_draw_143 : decode cX7_draw 143 = .ok (.iand, 1) := by decide +kernel
theorem dX7_draw_144 : decode cX7_draw 144 = .ok (.ior, 1) := by decide +kernel
theorem dX7_draw_145 : decode cX7_draw 145 = .ok (.istore 6, 2) := by decide +kernel
theorem dX7_draw_147 : decode cX7_draw 147 = .ok (.aload_n 0, 1) := by decide +kernel
theorem dX7_draw_148 : decode cX7_draw 148 = .ok (.getfield 7, 3) := by decide +kernel
theorem dX7_draw_151 : decode cX7_draw 151 = .ok (.iload 10, 2) := by decide +kernel
theorem dX7_draw_153 : decode cX7_draw 153 = .ok (.dup2, 1) := by decide +kernel
theorem dX7_draw_154 : decode cX7_draw 154 = .ok (.iaload, 1) := by decide +kernel
theorem dX7_draw_155 : decode cX7_draw 155 = .ok (.iload 11, 2) := by decide +kernel
theorem dX7_draw_157 : decode cX7_draw 157 = .ok (.ixor, 1) := by decide +kernel
theorem dX7_draw_158 : decode cX7_draw 158 = .ok (.iastore, 1) := by decide +kernel
theorem dX7_draw_159 : decode cX7_draw 159 = .ok (.iinc 9 1, 3) := by decide +kernel
theorem dX7_draw_162 : decode cX7_draw 162 = .ok (.goto (-99), 3) := by decide +kernel
theorem dX7_draw_165 : decode cX7_draw 165 = .ok (.iinc 7 1, 3) := by decide +kernel
theorem dX7_draw_168 : decode cX7_draw 168 = .ok (.goto (-140), 3) := by decide +kernel
theorem dX7_draw_171 : decode cX7_draw 171 = .ok (.aload_n 0, 1) := by decide +kernel
theorem dX7_draw_172 : decode cX7_draw 172 = .ok (.getfield 16, 3) := by decide +kernel
theorem dX7_draw_175 : decode cX7_draw 175 = .ok (.bipush 15, 2) := by decide +kernel
theorem dX7_draw_177 : decode cX7_draw 177 = .ok (.iload 6, 2) := by decide +kernel
theorem dX7_draw_179 : decode cX7_draw 179 = .ok (.ifCond .eq 7, 3) := by decide +kernel
theorem dX7_draw_182 : decode cX7_draw 182 = .ok (.iconst 1, 1) := by decide +kernel
theorem dX7_draw_183 : decode cX7_draw 183 = .ok (.goto 4, 3) := by decide +kernel
theorem dX7_draw_186 : decode cX7_draw 186 = .ok (.iconst 0, 1) := by decide +kernel
theorem dX7_draw_187 : decode cX7_draw 187 = .ok (.iastore, 1) := by decide +kernel
theorem dX7_draw_188 : decode cX7_draw 188 = .ok (.return_, 1) := by decide +kernel
theorem dX7_leastKey_0 : decode cX7_leastKey 0 = .ok (.iconst 0, 1) := by decide +kernel
theorem dX7_leastKey_1 : decode cX7_leastKey 1 = .ok (.istore_n 1, 1) := by decide +kernel
theorem dX7_leastKey_2 : decode cX7_leastKey 2 = .ok (.iload_n 1, 1) := by decide +kernel
theorem dX7_leastKey_3 : decode cX7_leastKey 3 = .ok (.bipush 16, 2) := by decide +kernel
theorem dX7_leastKey_5 : decode cX7_leastKey 5 = .ok (.if_icmp .ge 20, 3) := by decide +kernel
theorem dX7_leastKey_8 : decode cX7_leastKey 8 = .ok (.aload_n 0, 1) := by decide +kernel
theorem dX7_leastKey_9 : decode cX7_leastKey 9 = .ok (.getfield 22, 3) := by decide +kernel
theorem dX7_leastKey_12 : decode cX7_leastKey 12 = .ok (.iload_n 1, 1) := by decide +kernel
theorem dX7_leastKey_13 : decode cX7_leastKey 13 = .ok (.baload, 1) := by decide +kernel
theorem dX7_leastKey_14 : decode cX7_leastKey 14 = .ok (.ifCond .eq 5, 3) := by decide +kernel
theorem dX7_leastKey_17 : decode cX7_leastKey 17 = .ok (.iload_n 1, 1) := by decide +kernel
theorem dX7_leastKey_18 : decode cX7_leastKey 18 = .ok (.ireturn, 1) := by decide +kernel
theorem dX7_leastKey_19 : decode cX7_leastKey 19 = .ok (.iinc 1 1, 3) := by decide +kernel
theorem dX7_leastKey_22 : decode cX7_leastKey 22 = .ok (.goto (-20), 3) := by decide +kernel
theorem dX7_leastKey_25 : decode cX7_leastKey 25 = .ok (.iconst (-1), 1) := by decide +kernel
theorem dX7_leastKey_26 : decode cX7_leastKey 26 = .ok (.ireturn, 1) := by decide +kernel
theorem dX7_rows_0 : decode cX7_rows 0 = .ok (.iconst 0, 1) := by decide +kernel
theorem dX7_rows_1 : decode cX7_rows 1 = .ok (.istore_n 3, 1) := by decide +kernel
theorem dX7_rows_2 : decode cX7_rows 2 = .ok (.iload_n 3, 1) := by decide +kernel
theorem dX7_rows_3 : decode cX7_rows 3 = .ok (.iload_n 1, 1) := by decide +kernel
theorem dX7_rows_4 : decode cX7_rows 4 = .ok (.if_icmp .gt 54, 3) := by decide +kernel
theorem dX7_rows_7 : decode cX7_rows 7 = .ok (.iload_n 2, 1) := by decide +kernel
theorem dX7_rows_8 : decode cX7_rows 8 = .ok (.ifCond .eq 25, 3) := by decide +kernel
theorem dX7_rows_11 : decode cX7_rows 11 = .ok (.aload_n 0, 1) := by decide +kernel
theorem dX7_rows_12 : decode cX7_rows 12 = .ok (.aload_n 0, 1) := by decide +kernel
theorem dX7_rows_13 : decode cX7_rows 13 = .ok (.getfield 16, 3) := by decide +kernel
theorem dX7_rows_16 : decode cX7_rows 16 = .ok (.bipush 16, 2) := by decide +kernel
theorem dX7_rows_18 : decode cX7_rows 18 = .ok (.iaload, 1) := by decide +kernel
theorem dX7_rows_19 : decode cX7_rows 19 = .ok (.iload_n 3, 1) := by decide +kernel
theorem dX7_rows_20 : decode cX7_rows 20 = .ok (.iadd, 1) := by decide +kernel
theorem dX7_rows_21 : decode cX7_rows 21 = .ok (.aload_n 0, 1) := by decide +kernel
theorem dX7_rows_22 : decode cX7_rows 22 = .ok (.getfield 16, 3) := by decide +kernel
theorem dX7_rows_25 : decode cX7_rows 25 = .ok (.iload_n 3, 1) := by decide +kernel
theorem dX7_rows_26 : decode cX7_rows 26 = .ok (.iaload, 1) := by decide +kernel
theorem dX7_rows_27 : decode cX7_rows 27 = .ok (.invokevirtual 79, 3) := by decide +kernel
theorem dX7_rows_30 : decode cX7_rows 30 = .ok (.goto 22, 3) := by decide +kernel
theorem dX7_rows_33 : decode cX7_rows 33 = .ok (.aload_n 0, 1) := by decide +kernel
theorem dX7_rows_34 : decode cX7_rows 34 = .ok (.getfield 16, 3) := by decide +kernel
theorem dX7_rows_37 : decode cX7_rows 37 = .ok (.iload_n 3, 1) := by decide +kernel
theorem dX7_rows_38 : decode cX7_rows 38 = .ok (.aload_n 0, 1) := by decide +kernel
theorem dX7_rows_39 : decode cX7_rows 39 = .ok (.aload_n 0, 1) := by decide +kernel
theorem dX7_rows_40 : decode cX7_rows 40 = .ok (.getfield 16, 3) := by decide +kernel
theorem dX7_rows_43 : decode cX7_rows 43 = .ok (.bipush 16, 2) := by decide +kernel
theorem dX7_rows_45 : decode cX7_rows 45 = .ok (.iaload, 1) := by decide +kernel
theorem dX7_rows_46 : decode cX7_rows 46 = .ok (.iload_n 3, 1) := by decide +kernel
theorem dX7_rows_47 : decode cX7_rows 47 = .ok (.iadd, 1) := by decide +kernel
theorem dX7_rows_48 : decode cX7_rows 48 = .ok (.invokevirtual 43, 3) := by decide +kernel
theorem dX7_rows_51 : decode cX7_rows 51 = .ok (.iastore, 1) := by decide +kernel
theorem dX7_rows_52 : decode cX7_rows 52 = .ok (.iinc 3 1, 3) := by decide +kernel
theorem dX7_rows_55 : decode cX7_rows 55 = .ok (.goto (-53), 3) := by decide +kernel
theorem dX7_rows_58 : decode cX7_rows 58 = .ok (.aload_n 0, 1) := by decide +kernel
theorem dX7_rows_59 : decode cX7_rows 59 = .ok (.getfield 16, 3) := by decide +kernel
theorem dX7_rows_62 : decode cX7_rows 62 = .ok (.bipush 16, 2) := by decide +kernel
theorem dX7_rows_64 : decode cX7_rows 64 = .ok (.aload_n 0, 1) := by decide +kernel
theorem dX7_rows_65 : decode cX7_rows 65 = .ok (.getfield 16, 3) := by decide +kernel
theorem dX7_rows_68 : decode cX7_rows 68 = .ok (.bipush 16, 2) := by decide +kernel
theorem dX7_rows_70 : decode cX7_rows 70 = .ok (.iaload, 1) := by decide +kernel
theorem dX7_rows_71 : decode cX7_rows 71 = .ok (.iload_n 1, 1) := by decide +kernel
theorem dX7_rows_72 : decode cX7_rows 72 = .ok (.iadd, 1) := by decide +kernel
theorem dX7_rows_73 : decode cX7_rows 73 = .ok (.iconst 1, 1) := by decide +kernel
theorem dX7_rows_74 : decode cX7_rows 74 = .ok (.iadd, 1) := by decide +kernel
theorem dX7_rows_75 : decode cX7_rows 75 = .ok (.sipush 4095, 3) := by decide +kernel
theorem dX7_rows_78 : decode cX7_rows 78 = .ok (.iand, 1) := by decide +kernel
theorem dX7_rows_79 : decode cX7_rows 79 = .ok (.iastore, 1) := by decide +kernel
theorem dX7_rows_80 : decode cX7_rows 80 = .ok (.return_, 1) := by decide +kernel
theorem dX7_fifteen_0 : decode cX7_fifteen 0 = .ok (.iload_n 2, 1) := by decide +kernel
theorem dX7_fifteen_1 : decode cX7_fifteen 1 = .ok (.lookupswitch 290 #[(7, 83), (10, 99), (21, 120), (24, 136), (30, 152), (41, 180), (51, 201), (85, 271), (101, 271)], 83) := by decide +kernel
theorem dX7_fifteen_84 : decode cX7_fifteen 84 = .ok (.aload_n 0, 1) := by decide +kernel
theorem dX7_fifteen_85 : decode cX7_fifteen 85 = .ok (.getfield 16, 3) := by decide +kernel
theorem dX7_fifteen_88 : decode cX7_fifteen 88 = .ok (.iload_n 1, 1) := by decide +kernel
theorem dX7_fifteen_89 : decode cX7_fifteen 89 = .ok (.aload_n 0, 1) := by decide +kernel
theorem dX7_fifteen_90 : decode cX7_fifteen 90 = .ok (.getfield 16, 3) := by decide +kernel
theorem dX7_fifteen_93 : decode cX7_fifteen 93 = .ok (.bipush 19, 2) := by decide +kernel
theorem dX7_fifteen_95 : decode cX7_fifteen 95 = .ok (.iaload, 1) := by decide +kernel
theorem dX7_fifteen_96 : decode cX7_fifteen 96 = .ok (.iastore, 1) := by decide +kernel
theorem dX7_fifteen_97 : decode cX7_fifteen 97 = .ok (.goto 196, 3) := by decide +kernel
theorem dX7_fifteen_100 : decode cX7_fifteen 100 = .ok (.aload_n 0, 1) := by decide +kernel
theorem dX7_fifteen_101 : decode cX7_fifteen 101 = .ok (.invokevirtual 158, 3) := by decide +kernel
theorem dX7_fifteen_104 : decode cX7_fifteen 104 = .ok (.istore_n 3, 1) := by decide +kernel
theorem dX7_fifteen_105 : decode cX7_fifteen 105 = .ok (.iload_n 3, 1) := by decide +kernel
theorem dX7_fifteen_106 : decode cX7_fifteen 106 = .ok (.ifCond .ge 5, 3) := by decide +kernel
theorem dX7_fifteen_109 : decode cX7_fifteen 109 = .ok (.iconst 3, 1) := by decide +kernel
theorem dX7_fifteen_110 : decode cX7_fifteen 110 = .ok (.ireturn, 1) := by decide +kernel
theorem dX7_fifteen_111 : decode cX7_fifteen 111 = .ok (.aload_n 0, 1) := by decide +kernel
theorem dX7_fifteen_112 : decode cX7_fifteen 112 = .ok (.getfield 16, 3) := by decide +kernel
theorem dX7_fifteen_115 : decode cX7_fifteen 115 = .ok (.iload_n 1, 1) := by decide +kernel
theorem dX7_fifteen_116 : decode cX7_fifteen 116 = .ok (.iload_n 3, 1) := by decide +kernel
theorem dX7_fifteen_117 : decode cX7_fifteen 117 = .ok (.iastore, 1) := by decide +kernel
theorem dX7_fifteen_118 : decode cX7_fifteen 118 = .ok (.goto 175, 3) := by decide +kernel
theorem dX7_fifteen_121 : decode cX7_fifteen 121 = .ok (.aload_n 0, 1) := by decide +kernel
theorem dX7_fifteen_122 : decode cX7_fifteen 122 = .ok (.getfield 16, 3) := by decide +kernel
theorem dX7_fifteen_125 : decode cX7_fifteen 125 = .ok (.bipush 19, 2) := by decide +kernel
theorem dX7_fifteen_127 : decode cX7_fifteen 127 = .ok (.aload_n 0, 1) := by decide +kernel
theorem dX7_fifteen_128 : decode cX7_fifteen 128 = .ok (.getfield 16, 3) := by decide +kernel
theorem dX7_fifteen_131 : decode cX7_fifteen 131 = .ok (.iload_n 1, 1) := by decide +kernel
theorem dX7_fifteen_132 : decode cX7_fifteen 132 = .ok (.iaload, 1) := by decide +kernel
theorem dX7_fifteen_133 : decode cX7_fifteen 133 = .ok (.iastore, 1) := by decide +kernel
theorem dX7_fifteen_134 : decode cX7_fifteen 134 = .ok (.goto 159, 3) := by decide +kernel
theorem dX7_fifteen_137 : decode cX7_fifteen 137 = .ok (.aload_n 0, 1) := by decide +kernel
theorem dX7_fifteen_138 : decode cX7_fifteen 138 = .ok (.getfield 16, 3) := by decide +kernel
theorem dX7_fifteen_141 : decode cX7_fifteen 141 = .ok (.bipush 20, 2) := by decide +kernel
theorem dX7_fifteen_143 : decode cX7_fifteen 143 = .ok (.aload_n 0, 1) := by decide +kernel
theorem dX7_fifteen_144 : decode cX7_fifteen 144 = .ok (.getfield 16, 3) := by decide +kernel
theorem dX7_fifteen_147 : decode cX7_fifteen 147 = .ok (.iload_n 1, 1) := by decide +kernel
theorem dX7_fifteen_148 : decode cX7_fifteen 148 = .ok (.iaload, 1) := by decide +kernel
theorem dX7_fifteen_149 : decode cX7_fifteen 149 = .ok (.iastore, 1) := by decide +kernel
theorem dX7_fifteen_150 : decode cX7_fifteen 150 = .ok (.goto 143, 3) := by decide +kernel
theorem dX7_fifteen_153 : decode cX7_fifteen 153 = .ok (.aload_n 0, 1) := by decide +kernel
theorem dX7_fifteen_154 : decode cX7_fifteen 154 = .ok (.getfield 16, 3) := by decide +kernel
theorem dX7_fifteen_157 : decode cX7_fifteen 157 = .ok (.bipush 16, 2) := by decide +kernel
theorem dX7_fifteen_159 : decode cX7_fifteen 159 = .ok (.aload_n 0, 1) := by decide +kernel
theorem dX7_fifteen_160 : decode cX7_fifteen 160 = .ok (.getfield 16, 3) := by decide +kernel
theorem dX7_fifteen_163 : decode cX7_fifteen 163 = .ok (.bipush 16, 2) := by decide +kernel
theorem dX7_fifteen_165 : decode cX7_fifteen 165 = .ok (.iaload, 1) := by decide +kernel
theorem dX7_fifteen_166 : decode cX7_fifteen 166 = .ok (.aload_n 0, 1) := by decide +kernel
theorem dX7_fifteen_167 : decode cX7_fifteen 167 = .ok (.getfield 16, 3) := by decide +kernel
theorem dX7_fifteen_170 : decode cX7_fifteen 170 = .ok (.iload_n 1, 1) := by decide +kernel
theorem dX7_fifteen_171 : decode cX7_fifteen 171 = .ok (.iaload, 1) := by decide +kernel
theorem dX7_fifteen_172 : decode cX7_fifteen 172 = .ok (.iadd, 1) := by decide +kernel
theorem dX7_fifteen_173 : decode cX7_fifteen 173 = .ok (.sipush 4095, 3) := by decide +kernel
theorem dX7_fifteen_176 : decode cX7_fifteen 176 = .ok (.iand, 1) := by decide +kernel
theorem dX7_fifteen_177 : decode cX7_fifteen 177 = .ok (.iastore, 1) := by decide +kernel
theorem dX7_fifteen_178 : decode cX7_fifteen 178 = .ok (.goto 115, 3) := by decide +kernel
theorem dX7_fifteen_181 : decode cX7_fifteen 181 = .ok (.aload_n 0, 1) := by decide +kernel
theorem dX7_fifteen_182 : decode cX7_fifteen 182 = .ok (.getfield 16, 3) := by decide +kernel
theorem dX7_fifteen_185 : decode cX7_fifteen 185 = .ok (.bipush 16, 2) := by decide +kernel
theorem dX7_fifteen_187 : decode cX7_fifteen 187 = .ok (.iconst 5, 1) := by decide +kernel
theorem dX7_fifteen_188 : decode cX7_fifteen 188 = .ok (.aload_n 0, 1) := by decide +kernel
theorem dX7_fifteen_189 : decode cX7_fifteen 189 = .ok (.getfield 16, 3) := by decide +kernel
theorem dX7_fifteen_192 : decode cX7_fifteen 192 = .ok (.iload_n 1, 1) := by decide +kernel
theorem dX7_fifteen_193 : decode cX7_fifteen 193 = .ok (.iaload, 1) := by decide +kernel
theorem dX7_fifteen_194 : decode cX7_fifteen 194 = .ok (.bipush 15, 2) := by decide +kernel
theorem dX7_fifteen_196 : decode cX7_fifteen 196 = .ok (.iand, 1) := by decide +kernel
theorem dX7_fifteen_197 : decode cX7_fifteen 197 = .ok (.imul, 1) := by decide +kernel
theorem dX7_fifteen_198 : decode cX7_fifteen 198 = .ok (.iastore, 1) := by decide +kernel
theorem dX7_fifteen_199 : decode cX7_fifteen 199 = .ok (.goto 94, 3) := by decide +kernel
theorem dX7_fifteen_202 : decode cX7_fifteen 202 = .ok (.aload_n 0, 1) := by decide +kernel
theorem dX7_fifteen_203 : decode cX7_fifteen 203 = .ok (.aload_n 0, 1) := by decide +kernel
theorem dX7_fifteen_204 : decode cX7_fifteen 204 = .ok (.getfield 16, 3) := by decide +kernel
theorem dX7_fifteen_207 : decode cX7_fifteen 207 = .ok (.bipush 16, 2) := by decide +kernel
theorem dX7_fifteen_209 : decode cX7_fifteen 209 = .ok (.iaload, 1) := by decide +kernel
theorem dX7_fifteen_210 : decode cX7_fifteen 210 = .ok (.aload_n 0, 1) := by decide +kernel
theorem dX7_fifteen_211 : decode cX7_fifteen 211 = .ok (.getfield 16, 3) := by decide +kernel
theorem dX7_fifteen_214 : decode cX7_fifteen 214 = .ok (.iload_n 1, 1) := by decide +kernel
theorem dX7_fifteen_215 : decode cX7_fifteen 215 = .ok (.iaload, 1) := by decide +kernel
theorem dX7_fifteen_216 : decode cX7_fifteen 216 = .ok (.bipush 100, 2) := by decide +kernel
theorem dX7_fifteen_218 : decode cX7_fifteen 218 = .ok (.idiv, 1) := by decide +kernel
theorem dX7_fifteen_219 : decode cX7_fifteen 219 = .ok (.invokevirtual 79, 3) := by decide +kernel
theorem dX7_fifteen_222 : decode cX7_fifteen 222 = .ok (.aload_n 0, 1) := by decide +kernel
theorem dX7_fifteen_223 : decode cX7_fifteen 223 = .ok (.aload_n 0, 1) := by decide +kernel
theorem dX7_fifteen_224 : decode cX7_fifteen 224 = .ok (.getfield 16, 3) := by decide +kernel
theorem dX7_fifteen_227 : decode cX7_fifteen 227 = .ok (.bipush 16, 2) := by decide +kernel
theorem dX7_fifteen_229 : decode cX7_fifteen 229 = .ok (.iaload, 1) := by decide +kernel
theorem dX7_fifteen_230 : decode cX7_fifteen 230 = .ok (.iconst 1, 1) := by decide +kernel
theorem dX7_fifteen_231 : decode cX7_fifteen 231 = .ok (.iadd, 1) := by decide +kernel
theorem dX7_fifteen_232 : decode cX7_fifteen 232 = .ok (.aload_n 0, 1) := by decide +kernel
theorem dX7_fifteen_233 : decode cX7_fifteen 233 = .ok (.getfield 16, 3) := by decide +kernel
theorem dX7_fifteen_236 : decode cX7_fifteen 236 = .ok (.iload_n 1, 1) := by decide +kernel
theorem dX7_fifteen_237 : decode cX7_fifteen 237 = .ok (.iaload, 1) := by decide +kernel
theorem dX7_fifteen_238 : decode cX7_fifteen 238 = .ok (.bipush 10, 2) := by decide +kernel
theorem dX7_fifteen_240 : decode cX7_fifteen 240 = .ok (.idiv, 1) := by decide +kernel
theorem dX7_fifteen_241 : decode cX7_fifteen 241 = .ok (.bipush 10, 2) := by decide +kernel
theorem dX7_fifteen_243 : decode cX7_fifteen 243 = .ok (.irem, 1) := by decide +kernel
theorem dX7_fifteen_244 : decode cX7_fifteen 244 = .ok (.invokevirtual 79, 3) := by decide +kernel
theorem dX7_fifteen_247 : decode cX7_fifteen 247 = .ok (.aload_n 0, 1) := by decide +kernel
theorem dX7_fifteen_248 : decode cX7_fifteen 248 = .ok (.aload_n 0, 1) := by decide +kernel
theorem dX7_fifteen_249 : decode cX7_fifteen 249 = .ok (.getfield 16, 3) := by decide +kernel
theorem dX7_fifteen_252 : decode cX7_fifteen 252 = .ok (.bipush 16, 2) := by decide +kernel
theorem dX7_fifteen_254 : decode cX7_fifteen 254 = .ok (.iaload, 1) := by decide +kernel
theorem dX7_fifteen_255 : decode cX7_fifteen 255 = .ok (.iconst 2, 1) := by decide +kernel
theorem dX7_fifteen_256 : decode cX7_fifteen 256 = .ok (.iadd, 1) := by decide +kernel
theorem dX7_fifteen_257 : decode cX7_fifteen 257 = .ok (.aload_n 0, 1) := by decide +kernel
theorem dX7_fifteen_258 : decode cX7_fifteen 258 = .ok (.getfield 16, 3) := by decide +kernel
theorem dX7_fifteen_261 : decode cX7_fifteen 261 = .ok (.iload_n 1, 1) := by decide +kernel
theorem dX7_fifteen_262 : decode cX7_fifteen 262 = .ok (.iaload, 1) := by decide +kernel
theorem dX7_fifteen_263 : decode cX7_fifteen 263 = .ok (.bipush 10, 2) := by decide +kernel
theorem dX7_fifteen_265 : decode cX7_fifteen 265 = .ok (.irem, 1) := by decide +kernel
theorem dX7_fifteen_266 : decode cX7_fifteen 266 = .ok (.invokevirtual 79, 3) := by decide +kernel
theorem dX7_fifteen_269 : decode cX7_fifteen 269 = .ok (.goto 24, 3) := by decide +kernel
theorem dX7_fifteen_272 : decode cX7_fifteen 272 = .ok (.aload_n 0, 1) := by decide +kernel
theorem dX7_fifteen_273 : decode cX7_fifteen 273 = .ok (.iload_n 1, 1) := by decide +kernel
theorem dX7_fifteen_274 : decode cX7_fifteen 274 = .ok (.iload_n 2, 1) := by decide +kernel
theorem dX7_fifteen_275 : decode cX7_fifteen 275 = .ok (.bipush 85, 2) := by decide +kernel
theorem dX7_fifteen_277 : decode cX7_fifteen 277 = .ok (.if_icmp .ne 7, 3) := by decide +kernel
theorem dX7_fifteen_280 : decode cX7_fifteen 280 = .ok (.iconst 1, 1) := by decide +kernel
theorem dX7_fifteen_281 : decode cX7_fifteen 281 = .ok (.goto 4, 3) := by decide +kernel
theorem dX7_fifteen_284 : decode cX7_fifteen 284 = .ok (.iconst 0, 1) := by decide +kernel
theorem dX7_fifteen_285 : decode cX7_fifteen 285 = .ok (.invokevirtual 161, 3) := by decide +kernel
theorem dX7_fifteen_288 : decode cX7_fifteen 288 = .ok (.goto 5, 3) := by decide +kernel
theorem dX7_fifteen_291 : decode cX7_fifteen 291 = .ok (.iconst 1, 1) := by decide +kernel
theorem dX7_fifteen_292 : decode cX7_fifteen 292 = .ok (.ireturn, 1) := by decide +kernel
theorem dX7_fifteen_293 : decode cX7_fifteen 293 = .ok (.aload_n 0, 1) := by decide +kernel
theorem dX7_fifteen_294 : decode cX7_fifteen 294 = .ok (.iconst 0, 1) := by decide +kernel
theorem dX7_fifteen_295 : decode cX7_fifteen 295 = .ok (.invokevirtual 154, 3) := by decide +kernel
theorem dX7_fifteen_298 : decode cX7_fifteen 298 = .ok (.iconst 0, 1) := by decide +kernel
theorem dX7_fifteen_299 : decode cX7_fifteen 299 = .ok (.ireturn, 1) := by decide +kernel
theorem dX7_keyed_0 : decode cX7_keyed 0 = .ok (.iload_n 2, 1) := by decide +kernel
theorem dX7_keyed_1 : decode cX7_keyed 1 = .ok (.sipush 158, 3) := by decide +kernel
theorem dX7_keyed_4 : decode cX7_keyed 4 = .ok (.if_icmp .eq 12, 3) := by decide +kernel
theorem dX7_keyed_7 : decode cX7_keyed 7 = .ok (.iload_n 2, 1) := by decide +kernel
theorem dX7_keyed_8 : decode cX7_keyed 8 = .ok (.sipush 161, 3) := by decide +kernel
theorem dX7_keyed_11 : decode cX7_keyed 11 = .ok (.if_icmp .eq 5, 3) := by decide +kernel
theorem dX7_keyed_14 : decode cX7_keyed 14 = .ok (.iconst 1, 1) := by decide +kernel
theorem dX7_keyed_15 : decode cX7_keyed 15 = .ok (.ireturn, 1) := by decide +kernel
theorem dX7_keyed_16 : decode cX7_keyed 16 = .ok (.aload_n 0, 1) := by decide +kernel
theorem dX7_keyed_17 : decode cX7_keyed 17 = .ok (.aload_n 0, 1) := by decide +kernel
theorem dX7_keyed_18 : decode cX7_keyed 18 = .ok (.getfield 22, 3) := by decide +kernel
theorem dX7_keyed_21 : decode cX7_keyed 21 = .ok (.aload_n 0, 1) := by decide +kernel
theorem dX7_keyed_22 : decode cX7_keyed 22 = .ok (.getfield 16, 3) := by decide +kernel
theorem dX7_keyed_25 : decode cX7_keyed 25 = .ok (.iload_n 1, 1) := by decide +kernel
theorem dX7_keyed_26 : decode cX7_keyed 26 = .ok (.iaload, 1) := by decide +kernel
theorem dX7_keyed_27 : decode cX7_keyed 27 = .ok (.bipush 15, 2) := by decide +kernel
theorem dX7_keyed_29 : decode cX7_keyed 29 = .ok (.iand, 1) := by decide +kernel
theorem dX7_keyed_30 : decode cX7_keyed 30 = .ok (.baload, 1) := by decide +kernel
theorem dX7_keyed_31 : decode cX7_keyed 31 = .ok (.iload_n 2, 1) := by decide +kernel
theorem dX7_keyed_32 : decode cX7_keyed 32 = .ok (.sipush 158, 3) := by decide +kernel
theorem dX7_keyed_35 : decode cX7_keyed 35 = .ok (.if_icmp .ne 7, 3) := by decide +kernel
theorem dX7_keyed_38 : decode cX7_keyed 38 = .ok (.iconst 1, 1) := by decide +kernel
theorem dX7_keyed_39 : decode cX7_keyed 39 = .ok (.goto 4, 3) := by decide +kernel
theorem dX7_keyed_42 : decode cX7_keyed 42 = .ok (.iconst 0, 1) := by decide +kernel
theorem dX7_keyed_43 : decode cX7_keyed 43 = .ok (.if_icmp .ne 7, 3) := by decide +kernel
theorem dX7_keyed_46 : decode cX7_keyed 46 = .ok (.iconst 1, 1) := by decide +kernel
theorem dX7_keyed_47 : decode cX7_keyed 47 = .ok (.goto 4, 3) := by decide +kernel
theorem dX7_keyed_50 : decode cX7_keyed 50 = .ok (.iconst 0, 1) := by decide +kernel
theorem dX7_keyed_51 : decode cX7_keyed 51 = .ok (.invokevirtual 154, 3) := by decide +kernel
theorem dX7_keyed_54 : decode cX7_keyed 54 = .ok (.iconst 0, 1) := by decide +kernel
theorem dX7_keyed_55 : decode cX7_keyed 55 = .ok (.ireturn, 1) := by decide +kernel
theorem dX7_compared_0 : decode cX7_compared 0 = .ok (.iload_n 3, 1) := by decide +kernel
theorem dX7_compared_1 : decode cX7_compared 1 = .ok (.ifCond .eq 5, 3) := by decide +kernel
theorem dX7_compared_4 : decode cX7_compared 4 = .ok (.iconst 1, 1) := by decide +kernel
theorem dX7_compared_5 : decode cX7_compared 5 = .ok (.ireturn, 1) := by decide +kernel
theorem dX7_compared_6 : decode cX7_compared 6 = .ok (.aload_n 0, 1) := by decide +kernel
theorem dX7_compared_7 : decode cX7_compared 7 = .ok (.aload_n 0, 1) := by decide +kernel
theorem dX7_compared_8 : decode cX7_compared 8 = .ok (.getfield 16, 3) := by decide +kernel
theorem dX7_compared_11 : decode cX7_compared 11 = .ok (.iload_n 1, 1) := by decide +kernel
theorem dX7_compared_12 : decode cX7_compared 12 = .ok (.iaload, 1) := by decide +kernel
theorem dX7_compared_13 : decode cX7_compared 13 = .ok (.aload_n 0, 1) := by decide +kernel
theorem dX7_compared_14 : decode cX7_compared 14 = .ok (.getfield 16, 3) := by decide +kernel
theorem dX7_compared_17 : decode cX7_compared 17 = .ok (.iload_n 2, 1) := by decide +kernel
theorem dX7_compared_18 : decode cX7_compared 18 = .ok (.iaload, 1) := by decide +kernel
theorem dX7_compared_19 : decode cX7_compared 19 = .ok (.if_icmp .ne 7, 3) := by decide +kernel
theorem dX7_compared_22 : decode cX7_compared 22 = .ok (.iconst 1, 1) := by decide +kernel
theorem dX7_compared_23 : decode cX7_compared 23 = .ok (.goto 4, 3) := by decide +kernel
theorem dX7_compared_26 : decode cX7_compared 26 = .ok (.iconst 0, 1) := by decide +kernel
theorem dX7_compared_27 : decode cX7_compared 27 = .ok (.iload 4, 2) := by decide +kernel
theorem dX7_compared_29 : decode cX7_compared 29 = .ok (.if_icmp .ne 7, 3) := by decide +kernel
theorem dX7_compared_32 : decode cX7_compared 32 = .ok (.iconst 1, 1) := by decide +kernel
theorem dX7_compared_33 : decode cX7_compared 33 = .ok (.goto 4, 3) := by decide +kernel
theorem dX7_compared_36 : decode cX7_compared 36 = .ok (.iconst 0, 1) := by decide +kernel
theorem dX7_compared_37 : decode cX7_compared 37 = .ok (.invokevirtual 154, 3) := by decide +kernel
theorem dX7_compared_40 : decode cX7_compared 40 = .ok (.iconst 0, 1) := by decide +kernel
theorem dX7_compared_41 : decode cX7_compared 41 = .ok (.ireturn, 1) := by decide +kernel
theorem dX7_random_0 : decode cX7_random 0 = .ok (.aload_n 0, 1) := by decide +kernel
theorem dX7_random_1 : decode cX7_random 1 = .ok (.getfield 16, 3) := by decide +kernel
theorem dX7_random_4 : decode cX7_random 4 = .ok (.bipush 21, 2) := by decide +kernel
theorem dX7_random_6 : decode cX7_random 6 = .ok (.iconst 5, 1) := by decide +kernel
theorem dX7_random_7 : decode cX7_random 7 = .ok (.aload_n 0, 1) := by decide +kernel
theorem dX7_random_8 : decode cX7_random 8 = .ok (.getfield 16, 3) := by decide +kernel
theorem dX7_random_11 : decode cX7_random 11 = .ok (.bipush 21, 2) := by decide +kernel
theorem dX7_random_13 : decode cX7_random 13 = .ok (.iaload, 1) := by decide +kernel
theorem dX7_random_14 : decode cX7_random 14 = .ok (.imul, 1) := by decide +kernel
theorem dX7_random_15 : decode cX7_random 15 = .ok (.iconst 1, 1) := by decide +kernel
theorem dX7_random_16 : decode cX7_random 16 = .ok (.iadd, 1) := by decide +kernel
theorem dX7_random_17 : decode cX7_random 17 = .ok (.sipush 255, 3) := by decide +kernel
theorem dX7_random_20 : decode cX7_random 20 = .ok (.iand, 1) := by decide +kernel
theorem dX7_random_21 : decode cX7_random 21 = .ok (.iastore, 1) := by decide +kernel
theorem dX7_random_22 : decode cX7_random 22 = .ok (.aload_n 0, 1) := by decide +kernel
theorem dX7_random_23 : decode cX7_random 23 = .ok (.getfield 16, 3) := by decide +kernel
theorem dX7_random_26 : decode cX7_random 26 = .ok (.iload_n 1, 1) := by decide +kernel
theorem dX7_random_27 : decode cX7_random 27 = .ok (.aload_n 0, 1) := by decide +kernel
theorem dX7_random_28 : decode cX7_random 28 = .ok (.getfield 16, 3) := by decide +kernel
theorem dX7_random_31 : decode cX7_random 31 = .ok (.bipush 21, 2) := by decide +kernel
theorem dX7_random_33 : decode cX7_random 33 = .ok (.iaload, 1) := by decide +kernel
theorem dX7_random_34 : decode cX7_random 34 = .ok (.iload_n 2, 1) := by decide +kernel
theorem dX7_random_35 : decode cX7_random 35 = .ok (.iand, 1) := by decide +kernel
theorem dX7_random_36 : decode cX7_random 36 = .ok (.iastore, 1) := by decide +kernel
theorem dX7_random_37 : decode cX7_random 37 = .ok (.iconst 0, 1) := by decide +kernel
theorem dX7_random_38 : decode cX7_random 38 = .ok (.ireturn, 1) := by decide +kernel
theorem dX7_step_0 : decode cX7_step 0 = .ok (.aload_n 0, 1) := by decide +kernel
theorem dX7_step_1 : decode cX7_step 1 = .ok (.aload_n 0, 1) := by decide +kernel
theorem dX7_step_2 : decode cX7_step 2 = .ok (.getfield 16, 3) := by decide +kernel
theorem dX7_step_5 : decode cX7_step 5 = .ok (.bipush 17, 2) := by decide +kernel
theorem dX7_step_7 : decode cX7_step 7 = .ok (.iaload, 1) := by decide +kernel
theorem dX7_step_8 : decode cX7_step 8 = .ok (.invokevirtual 43, 3) := by decide +kernel
theorem dX7_step_11 : decode cX7_step 11 = .ok (.bipush 8, 2) := by decide +kernel
theorem dX7_step_13 : decode cX7_step 13 = .ok (.ishl, 1) := by decide +kernel
theorem dX7_step_14 : decode cX7_step 14 = .ok (.aload_n 0, 1) := by decide +kernel
theorem dX7_step_15 : decode cX7_step 15 = .ok (.aload_n 0, 1) := by decide +kernel
theorem dX7_step_16 : decode cX7_step 16 = .ok (.getfield 16, 3) := by decide +kernel
theorem dX7_step_19 : decode cX7_step 19 = .ok (.bipush 17, 2) := by decide +kernel
theorem dX7_step_21 : decode cX7_step 21 = .ok (.iaload, 1) := by decide +kernel
theorem dX7_step_22 : decode cX7_step 22 = .ok (.iconst 1, 1) := by decide +kernel
theorem dX7_step_23 : decode cX7_step 23 = .ok (.iadd, 1) := by decide +kernel
theorem dX7_step_24 : decode cX7_step 24 = .ok (.invokevirtual 43, 3) := by decide +kernel
theorem dX7_step_27 : decode cX7_step 27 = .ok (.ior, 1) := by decide +kernel
theorem dX7_step_28 : decode cX7_step 28 = .ok (.istore_n 1, 1) := by decide +kernel
theorem dX7_step_29 : decode cX7_step 29 = .ok (.iload_n 1, 1) := by decide +kernel
theorem dX7_step_30 : decode cX7_step 30 = .ok (.bipush 8, 2) := by decide +kernel
theorem dX7_step_32 : decode cX7_step 32 = .ok (.ishr, 1) := by decide +kernel
theorem dX7_step_33 : decode cX7_step 33 = .ok (.bipush 15, 2) := by decide +kernel
theorem dX7_step_35 : decode cX7_step 35 = .ok (.iand, 1) := by decide +kernel
theorem dX7_step_36 : decode cX7_step 36 = .ok (.istore_n 2, 1) := by decide +kernel
theorem dX7_step_37 : decode cX7_step 37 = .ok (.iload_n 1, 1) := by decide +kernel
theorem dX7_step_38 : decode cX7_step 38 = .ok (.iconst 4, 1) := by decide +kernel
theorem dX7_step_39 : decode cX7_step 39 = .ok (.ishr, 1) := by decide +kernel
theorem dX7_step_40 : decode cX7_step 40 = .ok (.bipush 15, 2) := by decide +kernel
theorem dX7_step_42 : decode cX7_step 42 = .ok (.iand, 1) := by decide +kernel
theorem dX7_step_43 : decode cX7_step 43 = .ok (.istore_n 3, 1) := by decide +kernel
theorem dX7_step_44 : decode cX7_step 44 = .ok (.iload_n 1, 1) := by decide +kernel
theorem dX7_step_45 : decode cX7_step 45 = .ok (.bipush 15, 2) := by decide +kernel
theorem dX7_step_47 : decode cX7_step 47 = .ok (.iand, 1) := by decide +kernel
theorem dX7_step_48 : decode cX7_step 48 = .ok (.istore 4, 2) := by decide +kernel
theorem dX7_step_50 : decode cX7_step 50 = .ok (.iload_n 1, 1) := by decide +kernel
theorem dX7_step_51 : decode cX7_step 51 = .ok (.sipush 255, 3) := by decide +kernel
theorem dX7_step_54 : decode cX7_step 54 = .ok (.iand, 1) := by decide +kernel
theorem dX7_step_55 : decode cX7_step 55 = .ok (.istore 5, 2) := by decide +kernel
theorem dX7_step_57 : decode cX7_step 57 = .ok (.iload_n 1, 1) := by decide +kernel
theorem dX7_step_58 : decode cX7_step 58 = .ok (.sipush 4095, 3) := by decide +kernel
theorem dX7_step_61 : decode cX7_step 61 = .ok (.iand, 1) := by decide +kernel
theorem dX7_step_62 : decode cX7_step 62 = .ok (.istore 6, 2) := by decide +kernel
theorem dX7_step_64 : decode cX7_step 64 = .ok (.iload_n 1, 1) := by decide +kernel
theorem dX7_step_65 : decode cX7_step 65 = .ok (.bipush 12, 2) := by decide +kernel
theorem dX7_step_67 : decode cX7_step 67 = .ok (.ishr, 1) := by decide +kernel
theorem dX7_step_68 : decode cX7_step 68 = .ok (.tableswitch 215 0 15 #[80, 86, 97, 104, 126, 148, 215, 215, 158, 167, 215, 177, 215, 215, 199, 207], 80) := by decide +kernel
theorem dX7_step_148 : decode cX7_step 148 = .ok (.aload_n 0, 1) := by decide +kernel
theorem dX7_step_149 : decode cX7_step 149 = .ok (.iload_n 1, 1) := by decide +kernel
theorem dX7_step_150 : decode cX7_step 150 = .ok (.invokevirtual 165, 3) := by decide +kernel
theorem dX7_step_153 : decode cX7_step 153 = .ok (.ireturn, 1) := by decide +kernel
theorem dX7_step_154 : decode cX7_step 154 = .ok (.aload_n 0, 1) := by decide +kernel
theorem dX7_step_155 : decode cX7_step 155 = .ok (.getfield 16, 3) := by decide +kernel
theorem dX7_step_158 : decode cX7_step 158 = .ok (.bipush 17, 2) := by decide +kernel
theorem dX7_step_160 : decode cX7_step 160 = .ok (.iload 6, 2) := by decide +kernel
theorem dX7_step_162 : decode cX7_step 162 = .ok (.iastore, 1) := by decide +kernel
theorem dX7_step_163 : decode cX7_step 163 = .ok (.iconst 0, 1) := by decide +kernel
theorem dX7_step_164 : decode cX7_step 164 = .ok (.ireturn, 1) := by decide +kernel
theorem dX7_step_165 : decode cX7_step 165 = .ok (.aload_n 0, 1) := by decide +kernel
theorem dX7_step_166 : decode cX7_step 166 = .ok (.iload 6, 2) := by decide +kernel
theorem dX7_step_168 : decode cX7_step 168 = .ok (.invokevirtual 168, 3) := by decide +kernel
theorem dX7_step_171 : decode cX7_step 171 = .ok (.ireturn, 1) := by decide +kernel
theorem dX7_step_172 : decode cX7_step 172 = .ok (.aload_n 0, 1) := by decide +kernel
theorem dX7_step_173 : decode cX7_step 173 = .ok (.aload_n 0, 1) := by decide +kernel
theorem dX7_step_174 : decode cX7_step 174 = .ok (.getfield 16, 3) := by decide +kernel
theorem dX7_step_177 : decode cX7_step 177 = .ok (.iload_n 2, 1) := by decide +kernel
theorem dX7_step_178 : decode cX7_step 178 = .ok (.iaload, 1) := by decide +kernel
theorem dX7_step_179 : decode cX7_step 179 = .ok (.iload 5, 2) := by decide +kernel
theorem dX7_step_181 : decode cX7_step 181 = .ok (.if_icmp .ne 7, 3) := by decide +kernel
theorem dX7_step_184 : decode cX7_step 184 = .ok (.iconst 1, 1) := by decide +kernel
theorem dX7_step_185 : decode cX7_step 185 = .ok (.goto 4, 3) := by decide +kernel
theorem dX7_step_188 : decode cX7_step 188 = .ok (.iconst 0, 1) := by decide +kernel
theorem dX7_step_189 : decode cX7_step 189 = .ok (.invokevirtual 154, 3) := by decide +kernel
theorem dX7_step_192 : decode cX7_step 192 = .ok (.iconst 0, 1) := by decide +kernel
theorem dX7_step_193 : decode cX7_step 193 = .ok (.ireturn, 1) := by decide +kernel
theorem dX7_step_194 : decode cX7_step 194 = .ok (.aload_n 0, 1) := by decide +kernel
theorem dX7_step_195 : decode cX7_step 195 = .ok (.aload_n 0, 1) := by decide +kernel
theorem dX7_step_196 : decode cX7_step 196 = .ok (.getfield 16, 3) := by decide +kernel
theorem dX7_step_199 : decode cX7_step 199 = .ok (.iload_n 2, 1) := by decide +kernel
theorem dX7_step_200 : decode cX7_step 200 = .ok (.iaload, 1) := by decide +kernel
theorem dX7_step_201 : decode cX7_step 201 = .ok (.iload 5, 2) := by decide +kernel
theorem dX7_step_203 : decode cX7_step 203 = .ok (.if_icmp .eq 7, 3) := by decide +kernel
theorem dX7_step_206 : decode cX7_step 206 = .ok (.iconst 1, 1) := by decide +kernel
theorem dX7_step_207 : decode cX7_step 207 = .ok (.goto 4, 3) := by decide +kernel
theorem dX7_step_210 : decode cX7_step 210 = .ok (.iconst 0, 1) := by decide +kernel
theorem dX7_step_211 : decode cX7_step 211 = .ok (.invokevirtual 154, 3) := by decide +kernel
theorem dX7_step_214 : decode cX7_step 214 = .ok (.iconst 0, 1) := by decide +kernel
theorem dX7_step_215 : decode cX7_step 215 = .ok (.ireturn, 1) := by decide +kernel
theorem dX7_step_216 : decode cX7_step 216 = .ok (.aload_n 0, 1) := by decide +kernel
theorem dX7_step_217 : decode cX7_step 217 = .ok (.iload_n 2, 1) := by decide +kernel
theorem dX7_step_218 : decode cX7_step 218 = .ok (.iload_n 3, 1) := by decide +kernel
theorem dX7_step_219 : decode cX7_step 219 = .ok (.iload 4, 2) := by decide +kernel
theorem dX7_step_221 : decode cX7_step 221 = .ok (.iconst 1, 1) := by decide +kernel
theorem dX7_step_222 : decode cX7_step 222 = .ok (.invokevirtual 171, 3) := by decide +kernel
theorem dX7_step_225 : decode cX7_step 225 = .ok (.ireturn, 1) := by decide +kernel
theorem dX7_step_226 : decode cX7_step 226 = .ok (.aload_n 0, 1) := by decide +kernel
theorem dX7_step_227 : decode cX7_step 227 = .ok (.iload_n 2, 1) := by decide +kernel
theorem dX7_step_228 : decode cX7_step 228 = .ok (.iload_n 3, 1) := by decide +kernel
theorem dX7_step_229 : decode cX7_step 229 = .ok (.iload 4, 2) := by decide +kernel
theorem dX7_step_231 : decode cX7_step 231 = .ok (.invokevirtual 175, 3) := by decide +kernel
theorem dX7_step_234 : decode cX7_step 234 = .ok (.ireturn, 1) := by decide +kernel
theorem dX7_step_235 : decode cX7_step 235 = .ok (.aload_n 0, 1) := by decide +kernel
theorem dX7_step_236 : decode cX7_step 236 = .ok (.iload_n 2, 1) := by decide +kernel
theorem dX7_step_237 : decode cX7_step 237 = .ok (.iload_n 3, 1) := by decide +kernel
theorem dX7_step_238 : decode cX7_step 238 = .ok (.iload 4, 2) := by decide +kernel
theorem dX7_step_240 : decode cX7_step 240 = .ok (.iconst 0, 1) := by decide +kernel
theorem dX7_step_241 : decode cX7_step 241 = .ok (.invokevirtual 171, 3) := by decide +kernel
theorem dX7_step_244 : decode cX7_step 244 = .ok (.ireturn, 1) := by decide +kernel
theorem dX7_step_245 : decode cX7_step 245 = .ok (.aload_n 0, 1) := by decide +kernel
theorem dX7_step_246 : decode cX7_step 246 = .ok (.getfield 16, 3) := by decide +kernel
theorem dX7_step_249 : decode cX7_step 249 = .ok (.bipush 17, 2) := by decide +kernel
theorem dX7_step_251 : decode cX7_step 251 = .ok (.iload 6, 2) := by decide +kernel
theorem dX7_step_253 : decode cX7_step 253 = .ok (.aload_n 0, 1) := by decide +kernel
theorem dX7_step_254 : decode cX7_step 254 = .ok (.getfield 16, 3) := by decide +kernel
theorem dX7_step_257 : decode cX7_step 257 = .ok (.iconst 0, 1) := by decide +kernel
theorem dX7_step_258 : decode cX7_step 258 = .ok (.iaload, 1) := by decide +kernel
theorem dX7_step_259 : decode cX7_step 259 = .ok (.iadd, 1) := by decide +kernel
theorem dX7_step_260 : decode cX7_step 260 = .ok (.sipush 4095, 3) := by decide +kernel
theorem dX7_step_263 : decode cX7_step 263 = .ok (.iand, 1) := by decide +kernel
theorem dX7_step_264 : decode cX7_step 264 = .ok (.iastore, 1) := by decide +kernel
theorem dX7_step_265 : decode cX7_step 265 = .ok (.iconst 0, 1) := by decide +kernel
theorem dX7_step_266 : decode cX7_step 266 = .ok (.ireturn, 1) := by decide +kernel
theorem dX7_step_267 : decode cX7_step 267 = .ok (.aload_n 0, 1) := by decide +kernel
theorem dX7_step_268 : decode cX7_step 268 = .ok (.iload_n 2, 1) := by decide +kernel
theorem dX7_step_269 : decode cX7_step 269 = .ok (.iload 5, 2) := by decide +kernel
theorem dX7_step_271 : decode cX7_step 271 = .ok (.invokevirtual 179, 3) := by decide +kernel
theorem dX7_step_274 : decode cX7_step 274 = .ok (.ireturn, 1) := by decide +kernel
theorem dX7_step_275 : decode cX7_step 275 = .ok (.aload_n 0, 1) := by decide +kernel
theorem dX7_step_276 : decode cX7_step 276 = .ok (.iload_n 2, 1) := by decide +kernel
theorem dX7_step_277 : decode cX7_step 277 = .ok (.iload 5, 2) := by decide +kernel
theorem dX7_step_279 : decode cX7_step 279 = .ok (.invokevirtual 183, 3) := by decide +kernel
theorem dX7_step_282 : decode cX7_step 282 = .ok (.ireturn, 1) := by decide +kernel
theorem dX7_step_283 : decode cX7_step 283 = .ok (.aload_n 0, 1) := by decide +kernel
theorem dX7_step_284 : decode cX7_step 284 = .ok (.iload_n 1, 1) := by decide +kernel
theorem dX7_step_285 : decode cX7_step 285 = .ok (.invokevirtual 186, 3) := by decide +kernel
theorem dX7_step_288 : decode cX7_step 288 = .ok (.iconst 0, 1) := by decide +kernel
theorem dX7_step_289 : decode cX7_step 289 = .ok (.ireturn, 1) := by decide +kernel
theorem dX7_simple_0 : decode cX7_simple 0 = .ok (.iload_n 1, 1) := by decide +kernel
theorem dX7_simple_1 : decode cX7_simple 1 = .ok (.bipush 8, 2) := by decide +kernel
theorem dX7_simple_3 : decode cX7_simple 3 = .ok (.ishr, 1) := by decide +kernel
theorem dX7_simple_4 : decode cX7_simple 4 = .ok (.bipush 15, 2) := by decide +kernel
theorem dX7_simple_6 : decode cX7_simple 6 = .ok (.iand, 1) := by decide +kernel
theorem dX7_simple_7 : decode cX7_simple 7 = .ok (.istore_n 2, 1) := by decide +kernel
theorem dX7_simple_8 : decode cX7_simple 8 = .ok (.iload_n 1, 1) := by decide +kernel
theorem dX7_simple_9 : decode cX7_simple 9 = .ok (.sipush 255, 3) := by decide +kernel
theorem dX7_simple_12 : decode cX7_simple 12 = .ok (.iand, 1) := by decide +kernel
theorem dX7_simple_13 : decode cX7_simple 13 = .ok (.istore_n 3, 1) := by decide +kernel
theorem dX7_simple_14 : decode cX7_simple 14 = .ok (.iload_n 1, 1) := by decide +kernel
theorem dX7_simple_15 : decode cX7_simple 15 = .ok (.bipush 12, 2) := by decide +kernel
theorem dX7_simple_17 : decode cX7_simple 17 = .ok (.ishr, 1) := by decide +kernel
theorem dX7_simple_18 : decode cX7_simple 18 = .ok (.tableswitch 98 6 12 #[42, 52, 98, 98, 73, 98, 88], 42) := by decide +kernel
theorem dX7_simple_60 : decode cX7_simple 60 = .ok (.aload_n 0, 1) := by decide +kernel
theorem dX7_simple_61 : decode cX7_simple 61 = .ok (.getfield 16, 3) := by decide +kernel
theorem dX7_simple_64 : decode cX7_simple 64 = .ok (.iload_n 2, 1) := by decide +kernel
theorem dX7_simple_65 : decode cX7_simple 65 = .ok (.iload_n 3, 1) := by decide +kernel
theorem dX7_simple_66 : decode cX7_simple 66 = .ok (.iastore, 1) := by decide +kernel
theorem dX7_simple_67 : decode cX7_simple 67 = .ok (.goto 64, 3) := by decide +kernel
theorem dX7_simple_70 : decode cX7_simple 70 = .ok (.aload_n 0, 1) := by decide +kernel
theorem dX7_simple_71 : decode cX7_simple 71 = .ok (.getfield 16, 3) := by decide +kernel
theorem dX7_simple_74 : decode cX7_simple 74 = .ok (.iload_n 2, 1) := by decide +kernel
theorem dX7_simple_75 : decode cX7_simple 75 = .ok (.aload_n 0, 1) := by decide +kernel
theorem dX7_simple_76 : decode cX7_simple 76 = .ok (.getfield 16, 3) := by decide +kernel
theorem dX7_simple_79 : decode cX7_simple 79 = .ok (.iload_n 2, 1) := by decide +kernel
theorem dX7_simple_80 : decode cX7_simple 80 = .ok (.iaload, 1) := by decide +kernel
theorem dX7_simple_81 : decode cX7_simple 81 = .ok (.iload_n 3, 1) := by decide +kernel
theorem dX7_simple_82 : decode cX7_simple 82 = .ok (.iadd, 1) := by decide +kernel
theorem dX7_simple_83 : decode cX7_simple 83 = .ok (.sipush 255, 3) := by decide +kernel
theorem dX7_simple_86 : decode cX7_simple 86 = .ok (.iand, 1) := by decide +kernel
theorem dX7_simple_87 : decode cX7_simple 87 = .ok (.iastore, 1) := by decide +kernel
theorem dX7_simple_88 : decode cX7_simple 88 = .ok (.goto 43, 3) := by decide +kernel
theorem dX7_simple_91 : decode cX7_simple 91 = .ok (.aload_n 0, 1) := by decide +kernel
theorem dX7_simple_92 : decode cX7_simple 92 = .ok (.getfield 16, 3) := by decide +kernel
theorem dX7_simple_95 : decode cX7_simple 95 = .ok (.bipush 16, 2) := by decide +kernel
theorem dX7_simple_97 : decode cX7_simple 97 = .ok (.iload_n 1, 1) := by decide +kernel
theorem dX7_simple_98 : decode cX7_simple 98 = .ok (.sipush 4095, 3) := by decide +kernel
theorem dX7_simple_101 : decode cX7_simple 101 = .ok (.iand, 1) := by decide +kernel
theorem dX7_simple_102 : decode cX7_simple 102 = .ok (.iastore, 1) := by decide +kernel
theorem dX7_simple_103 : decode cX7_simple 103 = .ok (.goto 28, 3) := by decide +kernel
theorem dX7_simple_106 : decode cX7_simple 106 = .ok (.aload_n 0, 1) := by decide +kernel
theorem dX7_simple_107 : decode cX7_simple 107 = .ok (.iload_n 2, 1) := by decide +kernel
theorem dX7_simple_108 : decode cX7_simple 108 = .ok (.iload_n 3, 1) := by decide +kernel
theorem dX7_simple_109 : decode cX7_simple 109 = .ok (.invokevirtual 189, 3) := by decide +kernel
theorem dX7_simple_112 : decode cX7_simple 112 = .ok (.pop, 1) := by decide +kernel
theorem dX7_simple_113 : decode cX7_simple 113 = .ok (.goto 18, 3) := by decide +kernel
theorem dX7_simple_116 : decode cX7_simple 116 = .ok (.aload_n 0, 1) := by decide +kernel
theorem dX7_simple_117 : decode cX7_simple 117 = .ok (.iload_n 2, 1) := by decide +kernel
theorem dX7_simple_118 : decode cX7_simple 118 = .ok (.iload_n 1, 1) := by decide +kernel
theorem dX7_simple_119 : decode cX7_simple 119 = .ok (.iconst 4, 1) := by decide +kernel
theorem dX7_simple_120 : decode cX7_simple 120 = .ok (.ishr, 1) := by decide +kernel
theorem dX7_simple_121 : decode cX7_simple 121 = .ok (.bipush 15, 2) := by decide +kernel
theorem dX7_simple_123 : decode cX7_simple 123 = .ok (.iand, 1) := by decide +kernel
theorem dX7_simple_124 : decode cX7_simple 124 = .ok (.iload_n 1, 1) := by decide +kernel
theorem dX7_simple_125 : decode cX7_simple 125 = .ok (.bipush 15, 2) := by decide +kernel
theorem dX7_simple_127 : decode cX7_simple 127 = .ok (.iand, 1) := by decide +kernel
theorem dX7_simple_128 : decode cX7_simple 128 = .ok (.invokevirtual 192, 3) := by decide +kernel
theorem dX7_simple_131 : decode cX7_simple 131 = .ok (.aload_n 0, 1) := by decide +kernel
theorem dX7_simple_132 : decode cX7_simple 132 = .ok (.iconst 0, 1) := by decide +kernel
theorem dX7_simple_133 : decode cX7_simple 133 = .ok (.invokevirtual 154, 3) := by decide +kernel
theorem dX7_simple_136 : decode cX7_simple 136 = .ok (.return_, 1) := by decide +kernel
theorem dX7_chip_0 : decode cX7_chip 0 = .ok (.aload_n 0, 1) := by decide +kernel
theorem dX7_chip_1 : decode cX7_chip 1 = .ok (.iload_n 1, 1) := by decide +kernel
theorem dX7_chip_2 : decode cX7_chip 2 = .ok (.iconst 1, 1) := by decide +kernel
theorem dX7_chip_3 : decode cX7_chip 3 = .ok (.if_icmp .lt 10, 3) := by decide +kernel
theorem dX7_chip_6 : decode cX7_chip 6 = .ok (.iload_n 1, 1) := by decide +kernel
theorem dX7_chip_7 : decode cX7_chip 7 = .ok (.sipush 200, 3) := by decide +kernel
theorem dX7_chip_10 : decode cX7_chip 10 = .ok (.if_icmp .le 7, 3) := by decide +kernel
theorem dX7_chip_13 : decode cX7_chip 13 = .ok (.iconst 1, 1) := by decide +kernel
theorem dX7_chip_14 : decode cX7_chip 14 = .ok (.goto 4, 3) := by decide +kernel
theorem dX7_chip_17 : decode cX7_chip 17 = .ok (.iconst 0, 1) := by decide +kernel
theorem dX7_chip_18 : decode cX7_chip 18 = .ok (.iconst 1, 1) := by decide +kernel
theorem dX7_chip_19 : decode cX7_chip 19 = .ok (.invokevirtual 37, 3) := by decide +kernel
theorem dX7_chip_22 : decode cX7_chip 22 = .ok (.ifCond .eq 5, 3) := by decide +kernel
theorem dX7_chip_25 : decode cX7_chip 25 = .ok (.iconst 0, 1) := by decide +kernel
theorem dX7_chip_26 : decode cX7_chip 26 = .ok (.ireturn, 1) := by decide +kernel
theorem dX7_chip_27 : decode cX7_chip 27 = .ok (.iconst 0, 1) := by decide +kernel
theorem dX7_chip_28 : decode cX7_chip 28 = .ok (.istore_n 2, 1) := by decide +kernel
theorem dX7_chip_29 : decode cX7_chip 29 = .ok (.iload_n 2, 1) := by decide +kernel
theorem dX7_chip_30 : decode cX7_chip 30 = .ok (.iload_n 1, 1) := by decide +kernel
theorem dX7_chip_31 : decode cX7_chip 31 = .ok (.if_icmp .ge 49, 3) := by decide +kernel
theorem dX7_chip_34 : decode cX7_chip 34 = .ok (.aload_n 0, 1) := by decide +kernel
theorem dX7_chip_35 : decode cX7_chip 35 = .ok (.invokevirtual 195, 3) := by decide +kernel
theorem dX7_chip_38 : decode cX7_chip 38 = .ok (.istore_n 3, 1) := by decide +kernel
theorem dX7_chip_39 : decode cX7_chip 39 = .ok (.iload_n 3, 1) := by decide +kernel
theorem dX7_chip_40 : decode cX7_chip 40 = .ok (.iconst 3, 1) := by decide +kernel
theorem dX7_chip_41 : decode cX7_chip 41 = .ok (.if_icmp .ne 5, 3) := by decide +kernel
theorem dX7_chip_44 : decode cX7_chip 44 = .ok (.iload_n 2, 1) := by decide +kernel
theorem dX7_chip_45 : decode cX7_chip 45 = .ok (.ireturn, 1) := by decide +kernel
theorem dX7_chip_46 : decode cX7_chip 46 = .ok (.aload_n 0, 1) := by decide +kernel
theorem dX7_chip_47 : decode cX7_chip 47 = .ok (.iload_n 3, 1) := by decide +kernel
theorem dX7_chip_48 : decode cX7_chip 48 = .ok (.ifCond .eq 7, 3) := by decide +kernel
theorem dX7_chip_51 : decode cX7_chip 51 = .ok (.iconst 1, 1) := by decide +kernel
theorem dX7_chip_52 : decode cX7_chip 52 = .ok (.goto 4, 3) := by decide +kernel
theorem dX7_chip_55 : decode cX7_chip 55 = .ok (.iconst 0, 1) := by decide +kernel
theorem dX7_chip_56 : decode cX7_chip 56 = .ok (.iload_n 3, 1) := by decide +kernel
theorem dX7_chip_57 : decode cX7_chip 57 = .ok (.iconst 1, 1) := by decide +kernel
theorem dX7_chip_58 : decode cX7_chip 58 = .ok (.if_icmp .ne 7, 3) := by decide +kernel
theorem dX7_chip_61 : decode cX7_chip 61 = .ok (.iconst 2, 1) := by decide +kernel
theorem dX7_chip_62 : decode cX7_chip 62 = .ok (.goto 4, 3) := by decide +kernel
theorem dX7_chip_65 : decode cX7_chip 65 = .ok (.iconst 3, 1) := by decide +kernel
theorem dX7_chip_66 : decode cX7_chip 66 = .ok (.invokevirtual 37, 3) := by decide +kernel
theorem dX7_chip_69 : decode cX7_chip 69 = .ok (.ifCond .eq 5, 3) := by decide +kernel
theorem dX7_chip_72 : decode cX7_chip 72 = .ok (.iconst 0, 1) := by decide +kernel
theorem dX7_chip_73 : decode cX7_chip 73 = .ok (.ireturn, 1) := by decide +kernel
theorem dX7_chip_74 : decode cX7_chip 74 = .ok (.iinc 2 1, 3) := by decide +kernel
theorem dX7_chip_77 : decode cX7_chip 77 = .ok (.goto (-48), 3) := by decide +kernel
theorem dX7_chip_80 : decode cX7_chip 80 = .ok (.iload_n 1, 1) := by decide +kernel
theorem dX7_chip_81 : decode cX7_chip 81 = .ok (.ireturn, 1) := by decide +kernel
theorem dX7_v_0 : decode cX7_v 0 = .ok (.aload_n 0, 1) := by decide +kernel
theorem dX7_v_1 : decode cX7_v 1 = .ok (.iload_n 1, 1) := by decide +kernel
theorem dX7_v_2 : decode cX7_v 2 = .ok (.bipush 22, 2) := by decide +kernel
theorem dX7_v_4 : decode cX7_v 4 = .ok (.invokestatic 33, 3) := by decide +kernel
theorem dX7_v_7 : decode cX7_v 7 = .ok (.iconst 1, 1) := by decide +kernel
theorem dX7_v_8 : decode cX7_v 8 = .ok (.invokevirtual 37, 3) := by decide +kernel
theorem dX7_v_11 : decode cX7_v 11 = .ok (.ifCond .eq 7, 3) := by decide +kernel
theorem dX7_v_14 : decode cX7_v 14 = .ok (.iconst 0, 1) := by decide +kernel
theorem dX7_v_15 : decode cX7_v 15 = .ok (.goto 9, 3) := by decide +kernel
theorem dX7_v_18 : decode cX7_v 18 = .ok (.aload_n 0, 1) := by decide +kernel
theorem dX7_v_19 : decode cX7_v 19 = .ok (.getfield 16, 3) := by decide +kernel
theorem dX7_v_22 : decode cX7_v 22 = .ok (.iload_n 1, 1) := by decide +kernel
theorem dX7_v_23 : decode cX7_v 23 = .ok (.iaload, 1) := by decide +kernel
theorem dX7_v_24 : decode cX7_v 24 = .ok (.ireturn, 1) := by decide +kernel
theorem dX7_start_0 : decode cX7_start 0 = .ok (.aload_n 0, 1) := by decide +kernel
theorem dX7_start_1 : decode cX7_start 1 = .ok (.iload_n 1, 1) := by decide +kernel
theorem dX7_start_2 : decode cX7_start 2 = .ok (.sipush 2048, 3) := by decide +kernel
theorem dX7_start_5 : decode cX7_start 5 = .ok (.invokestatic 33, 3) := by decide +kernel
theorem dX7_start_8 : decode cX7_start 8 = .ok (.iconst 1, 1) := by decide +kernel
theorem dX7_start_9 : decode cX7_start 9 = .ok (.invokevirtual 37, 3) := by decide +kernel
theorem dX7_start_12 : decode cX7_start 12 = .ok (.ifCond .eq 4, 3) := by decide +kernel
theorem dX7_start_15 : decode cX7_start 15 = .ok (.return_, 1) := by decide +kernel
theorem dX7_start_16 : decode cX7_start 16 = .ok (.aload_n 0, 1) := by decide +kernel
theorem dX7_start_17 : decode cX7_start 17 = .ok (.getfield 16, 3) := by decide +kernel
theorem dX7_start_20 : decode cX7_start 20 = .ok (.bipush 17, 2) := by decide +kernel
theorem dX7_start_22 : decode cX7_start 22 = .ok (.iload_n 1, 1) := by decide +kernel
theorem dX7_start_23 : decode cX7_start 23 = .ok (.iastore, 1) := by decide +kernel
theorem dX7_start_24 : decode cX7_start 24 = .ok (.aload_n 0, 1) := by decide +kernel
theorem dX7_start_25 : decode cX7_start 25 = .ok (.getfield 16, 3) := by decide +kernel
theorem dX7_start_28 : decode cX7_start 28 = .ok (.bipush 18, 2) := by decide +kernel
theorem dX7_start_30 : decode cX7_start 30 = .ok (.iconst 0, 1) := by decide +kernel
theorem dX7_start_31 : decode cX7_start 31 = .ok (.iastore, 1) := by decide +kernel
theorem dX7_start_32 : decode cX7_start 32 = .ok (.return_, 1) := by decide +kernel
