theorem dM_init_0 : decode b_M_init 0 = .ok (.aload_n 0, 1) := by decide +kernel
theorem dM_init_1 : decode b_M_init 1 = .ok (.invokespecial 1, 3) := by decide +kernel
theorem dM_init_4 : decode b_M_init 4 = .ok (.aload_n 0, 1) := by decide +kernel
theorem dM_init_5 : decode b_M_init 5 = .ok (.sipush 400, 3) := by decide +kernel
theorem dM_init_8 : decode b_M_init 8 = .ok (.newarray .boolean, 2) := by decide +kernel
theorem dM_init_10 : decode b_M_init 10 = .ok (.putfield 7, 3) := by decide +kernel
theorem dM_init_13 : decode b_M_init 13 = .ok (.aload_n 0, 1) := by decide +kernel
theorem dM_init_14 : decode b_M_init 14 = .ok (.sipush 3844, 3) := by decide +kernel
theorem dM_init_17 : decode b_M_init 17 = .ok (.newarray .int, 2) := by decide +kernel
theorem dM_init_19 : decode b_M_init 19 = .ok (.putfield 13, 3) := by decide +kernel
theorem dM_init_22 : decode b_M_init 22 = .ok (.aload_n 0, 1) := by decide +kernel
theorem dM_init_23 : decode b_M_init 23 = .ok (.iconst 4, 1) := by decide +kernel
theorem dM_init_24 : decode b_M_init 24 = .ok (.newarray .int, 2) := by decide +kernel
theorem dM_init_26 : decode b_M_init 26 = .ok (.putfield 17, 3) := by decide +kernel
theorem dM_init_29 : decode b_M_init 29 = .ok (.aload_n 0, 1) := by decide +kernel
theorem dM_init_30 : decode b_M_init 30 = .ok (.bipush 16, 2) := by decide +kernel
theorem dM_init_32 : decode b_M_init 32 = .ok (.newarray .int, 2) := by decide +kernel
theorem dM_init_34 : decode b_M_init 34 = .ok (.putfield 20, 3) := by decide +kernel
theorem dM_init_37 : decode b_M_init 37 = .ok (.aload_n 0, 1) := by decide +kernel
theorem dM_init_38 : decode b_M_init 38 = .ok (.bipush 16, 2) := by decide +kernel
theorem dM_init_40 : decode b_M_init 40 = .ok (.newarray .int, 2) := by decide +kernel
theorem dM_init_42 : decode b_M_init 42 = .ok (.putfield 23, 3) := by decide +kernel
theorem dM_init_45 : decode b_M_init 45 = .ok (.aload_n 0, 1) := by decide +kernel
theorem dM_init_46 : decode b_M_init 46 = .ok (.bipush 16, 2) := by decide +kernel
theorem dM_init_48 : decode b_M_init 48 = .ok (.newarray .int, 2) := by decide +kernel
theorem dM_init_50 : decode b_M_init 50 = .ok (.putfield 26, 3) := by decide +kernel
theorem dM_init_53 : decode b_M_init 53 = .ok (.aload_n 0, 1) := by decide +kernel
theorem dM_init_54 : decode b_M_init 54 = .ok (.bipush 6, 2) := by decide +kernel
theorem dM_init_56 : decode b_M_init 56 = .ok (.newarray .int, 2) := by decide +kernel
theorem dM_init_58 : decode b_M_init 58 = .ok (.putfield 29, 3) := by decide +kernel
theorem dM_init_61 : decode b_M_init 61 = .ok (.aload_n 0, 1) := by decide +kernel
theorem dM_init_62 : decode b_M_init 62 = .ok (.bipush 6, 2) := by decide +kernel
theorem dM_init_64 : decode b_M_init 64 = .ok (.newarray .int, 2) := by decide +kernel
theorem dM_init_66 : decode b_M_init 66 = .ok (.putfield 32, 3) := by decide +kernel
theorem dM_init_69 : decode b_M_init 69 = .ok (.aload_n 0, 1) := by decide +kernel
theorem dM_init_70 : decode b_M_init 70 = .ok (.bipush 6, 2) := by decide +kernel
theorem dM_init_72 : decode b_M_init 72 = .ok (.newarray .int, 2) := by decide +kernel
theorem dM_init_74 : decode b_M_init 74 = .ok (.putfield 35, 3) := by decide +kernel
theorem dM_init_77 : decode b_M_init 77 = .ok (.aload_n 0, 1) := by decide +kernel
theorem dM_init_78 : decode b_M_init 78 = .ok (.sipush 2001, 3) := by decide +kernel
theorem dM_init_81 : decode b_M_init 81 = .ok (.newarray .int, 2) := by decide +kernel
theorem dM_init_83 : decode b_M_init 83 = .ok (.putfield 38, 3) := by decide +kernel
theorem dM_init_86 : decode b_M_init 86 = .ok (.aload_n 0, 1) := by decide +kernel
theorem dM_init_87 : decode b_M_init 87 = .ok (.sipush 2001, 3) := by decide +kernel
theorem dM_init_90 : decode b_M_init 90 = .ok (.newarray .long, 2) := by decide +kernel
theorem dM_init_92 : decode b_M_init 92 = .ok (.putfield 41, 3) := by decide +kernel
theorem dM_init_95 : decode b_M_init 95 = .ok (.aload_n 0, 1) := by decide +kernel
theorem dM_init_96 : decode b_M_init 96 = .ok (.sipush 2001, 3) := by decide +kernel
theorem dM_init_99 : decode b_M_init 99 = .ok (.newarray .int, 2) := by decide +kernel
theorem dM_init_101 : decode b_M_init 101 = .ok (.putfield 45, 3) := by decide +kernel
theorem dM_init_104 : decode b_M_init 104 = .ok (.aload_n 0, 1) := by decide +kernel
theorem dM_init_105 : decode b_M_init 105 = .ok (.sipush 2000, 3) := by decide +kernel
theorem dM_init_108 : decode b_M_init 108 = .ok (.newarray .int, 2) := by decide +kernel
theorem dM_init_110 : decode b_M_init 110 = .ok (.putfield 48, 3) := by decide +kernel
theorem dM_init_113 : decode b_M_init 113 = .ok (.aload_n 0, 1) := by decide +kernel
theorem dM_init_114 : decode b_M_init 114 = .ok (.sipush 2000, 3) := by decide +kernel
theorem dM_init_117 : decode b_M_init 117 = .ok (.newarray .int, 2) := by decide +kernel
theorem dM_init_119 : decode b_M_init 119 = .ok (.putfield 51, 3) := by decide +kernel
theorem dM_init_122 : decode b_M_init 122 = .ok (.aload_n 0, 1) := by decide +kernel
theorem dM_init_123 : decode b_M_init 123 = .ok (.bipush 8, 2) := by decide +kernel
theorem dM_init_125 : decode b_M_init 125 = .ok (.newarray .int, 2) := by decide +kernel
theorem dM_init_127 : decode b_M_init 127 = .ok (.putfield 54, 3) := by decide +kernel
theorem dM_init_130 : decode b_M_init 130 = .ok (.aload_n 0, 1) := by decide +kernel
theorem dM_init_131 : decode b_M_init 131 = .ok (.bipush 8, 2) := by decide +kernel
theorem dM_init_133 : decode b_M_init 133 = .ok (.newarray .int, 2) := by decide +kernel
theorem dM_init_135 : decode b_M_init 135 = .ok (.putfield 57, 3) := by decide +kernel
theorem dM_init_138 : decode b_M_init 138 = .ok (.aload_n 0, 1) := by decide +kernel
theorem dM_init_139 : decode b_M_init 139 = .ok (.iload_n 1, 1) := by decide +kernel
theorem dM_init_140 : decode b_M_init 140 = .ok (.iconst 1, 1) := by decide +kernel
theorem dM_init_141 : decode b_M_init 141 = .ok (.if_icmp .ge 7, 3) := by decide +kernel
theorem dM_init_144 : decode b_M_init 144 = .ok (.iconst 1, 1) := by decide +kernel
theorem dM_init_145 : decode b_M_init 145 = .ok (.goto 13, 3) := by decide +kernel
theorem dM_init_148 : decode b_M_init 148 = .ok (.iload_n 1, 1) := by decide +kernel
theorem dM_init_149 : decode b_M_init 149 = .ok (.iconst 4, 1) := by decide +kernel
theorem dM_init_150 : decode b_M_init 150 = .ok (.if_icmp .le 7, 3) := by decide +kernel
theorem dM_init_153 : decode b_M_init 153 = .ok (.iconst 4, 1) := by decide +kernel
theorem dM_init_154 : decode b_M_init 154 = .ok (.goto 4, 3) := by decide +kernel
theorem dM_init_157 : decode b_M_init 157 = .ok (.iload_n 1, 1) := by decide +kernel
theorem dM_init_158 : decode b_M_init 158 = .ok (.putfield 60, 3) := by decide +kernel
theorem dM_init_161 : decode b_M_init 161 = .ok (.aload_n 0, 1) := by decide +kernel
theorem dM_init_162 : decode b_M_init 162 = .ok (.iload_n 2, 1) := by decide +kernel
theorem dM_init_163 : decode b_M_init 163 = .ok (.iconst 1, 1) := by decide +kernel
theorem dM_init_164 : decode b_M_init 164 = .ok (.if_icmp .ge 7, 3) := by decide +kernel
theorem dM_init_167 : decode b_M_init 167 = .ok (.iconst 1, 1) := by decide +kernel
theorem dM_init_168 : decode b_M_init 168 = .ok (.goto 15, 3) := by decide +kernel
theorem dM_init_171 : decode b_M_init 171 = .ok (.iload_n 2, 1) := by decide +kernel
theorem dM_init_172 : decode b_M_init 172 = .ok (.bipush 10, 2) := by decide +kernel
theorem dM_init_174 : decode b_M_init 174 = .ok (.if_icmp .le 8, 3) := by decide +kernel
theorem dM_init_177 : decode b_M_init 177 = .ok (.bipush 10, 2) := by decide +kernel
theorem dM_init_179 : decode b_M_init 179 = .ok (.goto 4, 3) := by decide +kernel
theorem dM_init_182 : decode b_M_init 182 = .ok (.iload_n 2, 1) := by decide +kernel
theorem dM_init_183 : decode b_M_init 183 = .ok (.putfield 64, 3) := by decide +kernel
theorem dM_init_186 : decode b_M_init 186 = .ok (.aload_n 0, 1) := by decide +kernel
theorem dM_init_187 : decode b_M_init 187 = .ok (.aload_n 0, 1) := by decide +kernel
theorem dM_init_188 : decode b_M_init 188 = .ok (.getfield 60, 3) := by decide +kernel
theorem dM_init_191 : decode b_M_init 191 = .ok (.iconst 1, 1) := by decide +kernel
theorem dM_init_192 : decode b_M_init 192 = .ok (.if_icmp .ne 7, 3) := by decide +kernel
theorem dM_init_195 : decode b_M_init 195 = .ok (.iconst 1, 1) := by decide +kernel
theorem dM_init_196 : decode b_M_init 196 = .ok (.goto 9, 3) := by decide +kernel
theorem dM_init_199 : decode b_M_init 199 = .ok (.aload_n 0, 1) := by decide +kernel
theorem dM_init_200 : decode b_M_init 200 = .ok (.getfield 60, 3) := by decide +kernel
theorem dM_init_203 : decode b_M_init 203 = .ok (.iconst 1, 1) := by decide +kernel
theorem dM_init_204 : decode b_M_init 204 = .ok (.isub, 1) := by decide +kernel
theorem dM_init_205 : decode b_M_init 205 = .ok (.putfield 67, 3) := by decide +kernel
theorem dM_init_208 : decode b_M_init 208 = .ok (.return_, 1) := by decide +kernel
theorem dM_thrown_0 : decode b_M_thrown 0 = .ok (.aload_n 0, 1) := by decide +kernel
theorem dM_thrown_1 : decode b_M_thrown 1 = .ok (.getfield 70, 3) := by decide +kernel
theorem dM_thrown_4 : decode b_M_thrown 4 = .ok (.ireturn, 1) := by decide +kernel
theorem dM_isIn_0 : decode b_M_isIn 0 = .ok (.iload_n 0, 1) := by decide +kernel
theorem dM_isIn_1 : decode b_M_isIn 1 = .ok (.iload_n 1, 1) := by decide +kernel
theorem dM_isIn_2 : decode b_M_isIn 2 = .ok (.if_icmp .lt 12, 3) := by decide +kernel
theorem dM_isIn_5 : decode b_M_isIn 5 = .ok (.iload_n 0, 1) := by decide +kernel
theorem dM_isIn_6 : decode b_M_isIn 6 = .ok (.iload_n 2, 1) := by decide +kernel
theorem dM_isIn_7 : decode b_M_isIn 7 = .ok (.if_icmp .gt 7, 3) := by decide +kernel
theorem dM_isIn_10 : decode b_M_isIn 10 = .ok (.iconst 1, 1) := by decide +kernel
theorem dM_isIn_11 : decode b_M_isIn 11 = .ok (.goto 4, 3) := by decide +kernel
theorem dM_isIn_14 : decode b_M_isIn 14 = .ok (.iconst 0, 1) := by decide +kernel
theorem dM_isIn_15 : decode b_M_isIn 15 = .ok (.ireturn, 1) := by decide +kernel
theorem dM_cell_0 : decode b_M_cell 0 = .ok (.aload_n 0, 1) := by decide +kernel
theorem dM_cell_1 : decode b_M_cell 1 = .ok (.iload_n 1, 1) := by decide +kernel
theorem dM_cell_2 : decode b_M_cell 2 = .ok (.iconst 0, 1) := by decide +kernel
theorem dM_cell_3 : decode b_M_cell 3 = .ok (.aload_n 0, 1) := by decide +kernel
theorem dM_cell_4 : decode b_M_cell 4 = .ok (.getfield 60, 3) := by decide +kernel
theorem dM_cell_7 : decode b_M_cell 7 = .ok (.iconst 1, 1) := by decide +kernel
theorem dM_cell_8 : decode b_M_cell 8 = .ok (.isub, 1) := by decide +kernel
theorem dM_cell_9 : decode b_M_cell 9 = .ok (.invokestatic 73, 3) := by decide +kernel
theorem dM_cell_12 : decode b_M_cell 12 = .ok (.ifCond .eq 35, 3) := by decide +kernel
theorem dM_cell_15 : decode b_M_cell 15 = .ok (.iload_n 2, 1) := by decide +kernel
theorem dM_cell_16 : decode b_M_cell 16 = .ok (.iconst 0, 1) := by decide +kernel
theorem dM_cell_17 : decode b_M_cell 17 = .ok (.aload_n 0, 1) := by decide +kernel
theorem dM_cell_18 : decode b_M_cell 18 = .ok (.getfield 64, 3) := by decide +kernel
theorem dM_cell_21 : decode b_M_cell 21 = .ok (.iconst 1, 1) := by decide +kernel
theorem dM_cell_22 : decode b_M_cell 22 = .ok (.isub, 1) := by decide +kernel
theorem dM_cell_23 : decode b_M_cell 23 = .ok (.invokestatic 73, 3) := by decide +kernel
theorem dM_cell_26 : decode b_M_cell 26 = .ok (.ifCond .eq 21, 3) := by decide +kernel
theorem dM_cell_29 : decode b_M_cell 29 = .ok (.iload_n 3, 1) := by decide +kernel
theorem dM_cell_30 : decode b_M_cell 30 = .ok (.iconst 0, 1) := by decide +kernel
theorem dM_cell_31 : decode b_M_cell 31 = .ok (.aload_n 0, 1) := by decide +kernel
theorem dM_cell_32 : decode b_M_cell 32 = .ok (.getfield 64, 3) := by decide +kernel
theorem dM_cell_35 : decode b_M_cell 35 = .ok (.iconst 1, 1) := by decide +kernel
theorem dM_cell_36 : decode b_M_cell 36 = .ok (.isub, 1) := by decide +kernel
theorem dM_cell_37 : decode b_M_cell 37 = .ok (.invokestatic 73, 3) := by decide +kernel
theorem dM_cell_40 : decode b_M_cell 40 = .ok (.ifCond .eq 7, 3) := by decide +kernel
theorem dM_cell_43 : decode b_M_cell 43 = .ok (.iconst 0, 1) := by decide +kernel
theorem dM_cell_44 : decode b_M_cell 44 = .ok (.goto 4, 3) := by decide +kernel
theorem dM_cell_47 : decode b_M_cell 47 = .ok (.iconst 1, 1) := by decide +kernel
theorem dM_cell_48 : decode b_M_cell 48 = .ok (.putfield 70, 3) := by decide +kernel
theorem dM_cell_51 : decode b_M_cell 51 = .ok (.aload_n 0, 1) := by decide +kernel
theorem dM_cell_52 : decode b_M_cell 52 = .ok (.getfield 70, 3) := by decide +kernel
theorem dM_cell_55 : decode b_M_cell 55 = .ok (.ifCond .le 5, 3) := by decide +kernel
theorem dM_cell_58 : decode b_M_cell 58 = .ok (.iconst 0, 1) := by decide +kernel
theorem dM_cell_59 : decode b_M_cell 59 = .ok (.ireturn, 1) := by decide +kernel
theorem dM_cell_60 : decode b_M_cell 60 = .ok (.bipush 100, 2) := by decide +kernel
theorem dM_cell_62 : decode b_M_cell 62 = .ok (.iload_n 1, 1) := by decide +kernel
theorem dM_cell_63 : decode b_M_cell 63 = .ok (.imul, 1) := by decide +kernel
theorem dM_cell_64 : decode b_M_cell 64 = .ok (.bipush 10, 2) := by decide +kernel
theorem dM_cell_66 : decode b_M_cell 66 = .ok (.iload_n 3, 1) := by decide +kernel
theorem dM_cell_67 : decode b_M_cell 67 = .ok (.imul, 1) := by decide +kernel
theorem dM_cell_68 : decode b_M_cell 68 = .ok (.iadd, 1) := by decide +kernel
theorem dM_cell_69 : decode b_M_cell 69 = .ok (.iload_n 2, 1) := by decide +kernel
theorem dM_cell_70 : decode b_M_cell 70 = .ok (.iadd, 1) := by decide +kernel
theorem dM_cell_71 : decode b_M_cell 71 = .ok (.istore 5, 2) := by decide +kernel
theorem dM_cell_73 : decode b_M_cell 73 = .ok (.aload_n 0, 1) := by decide +kernel
theorem dM_cell_74 : decode b_M_cell 74 = .ok (.getfield 7, 3) := by decide +kernel
theorem dM_cell_77 : decode b_M_cell 77 = .ok (.iload 5, 2) := by decide +kernel
theorem dM_cell_79 : decode b_M_cell 79 = .ok (.baload, 1) := by decide +kernel
theorem dM_cell_80 : decode b_M_cell 80 = .ok (.iload 4, 2) := by decide +kernel
theorem dM_cell_82 : decode b_M_cell 82 = .ok (.if_icmp .eq 7, 3) := by decide +kernel
theorem dM_cell_85 : decode b_M_cell 85 = .ok (.iconst 1, 1) := by decide +kernel
theorem dM_cell_86 : decode b_M_cell 86 = .ok (.goto 4, 3) := by decide +kernel
theorem dM_cell_89 : decode b_M_cell 89 = .ok (.iconst 0, 1) := by decide +kernel
theorem dM_cell_90 : decode b_M_cell 90 = .ok (.istore 6, 2) := by decide +kernel
theorem dM_cell_92 : decode b_M_cell 92 = .ok (.aload_n 0, 1) := by decide +kernel
theorem dM_cell_93 : decode b_M_cell 93 = .ok (.getfield 7, 3) := by decide +kernel
theorem dM_cell_96 : decode b_M_cell 96 = .ok (.iload 5, 2) := by decide +kernel
theorem dM_cell_98 : decode b_M_cell 98 = .ok (.iload 4, 2) := by decide +kernel
theorem dM_cell_100 : decode b_M_cell 100 = .ok (.bastore, 1) := by decide +kernel
theorem dM_cell_101 : decode b_M_cell 101 = .ok (.aload_n 0, 1) := by decide +kernel
theorem dM_cell_102 : decode b_M_cell 102 = .ok (.aload_n 0, 1) := by decide +kernel
theorem dM_cell_103 : decode b_M_cell 103 = .ok (.getfield 77, 3) := by decide +kernel
theorem dM_cell_106 : decode b_M_cell 106 = .ok (.ifCond .eq 12, 3) := by decide +kernel
theorem dM_cell_109 : decode b_M_cell 109 = .ok (.iload 6, 2) := by decide +kernel
theorem dM_cell_111 : decode b_M_cell 111 = .ok (.ifCond .ne 7, 3) := by decide +kernel
theorem dM_cell_114 : decode b_M_cell 114 = .ok (.iconst 1, 1) := by decide +kernel
theorem dM_cell_115 : decode b_M_cell 115 = .ok (.goto 4, 3) := by decide +kernel
theorem dM_cell_118 : decode b_M_cell 118 = .ok (.iconst 0, 1) := by decide +kernel
theorem dM_cell_119 : decode b_M_cell 119 = .ok (.putfield 77, 3) := by decide +kernel
theorem dM_cell_122 : decode b_M_cell 122 = .ok (.aload_n 0, 1) := by decide +kernel
theorem dM_cell_123 : decode b_M_cell 123 = .ok (.aload_n 0, 1) := by decide +kernel
theorem dM_cell_124 : decode b_M_cell 124 = .ok (.getfield 81, 3) := by decide +kernel
theorem dM_cell_127 : decode b_M_cell 127 = .ok (.ifCond .eq 12, 3) := by decide +kernel
theorem dM_cell_130 : decode b_M_cell 130 = .ok (.iload 6, 2) := by decide +kernel
theorem dM_cell_132 : decode b_M_cell 132 = .ok (.ifCond .ne 7, 3) := by decide +kernel
theorem dM_cell_135 : decode b_M_cell 135 = .ok (.iconst 1, 1) := by decide +kernel
theorem dM_cell_136 : decode b_M_cell 136 = .ok (.goto 4, 3) := by decide +kernel
theorem dM_cell_139 : decode b_M_cell 139 = .ok (.iconst 0, 1) := by decide +kernel
theorem dM_cell_140 : decode b_M_cell 140 = .ok (.putfield 81, 3) := by decide +kernel
theorem dM_cell_143 : decode b_M_cell 143 = .ok (.aload_n 0, 1) := by decide +kernel
theorem dM_cell_144 : decode b_M_cell 144 = .ok (.aload_n 0, 1) := by decide +kernel
theorem dM_cell_145 : decode b_M_cell 145 = .ok (.getfield 84, 3) := by decide +kernel
theorem dM_cell_148 : decode b_M_cell 148 = .ok (.ifCond .eq 12, 3) := by decide +kernel
theorem dM_cell_151 : decode b_M_cell 151 = .ok (.iload 6, 2) := by decide +kernel
theorem dM_cell_153 : decode b_M_cell 153 = .ok (.ifCond .ne 7, 3) := by decide +kernel
theorem dM_cell_156 : decode b_M_cell 156 = .ok (.iconst 1, 1) := by decide +kernel
theorem dM_cell_157 : decode b_M_cell 157 = .ok (.goto 4, 3) := by decide +kernel
theorem dM_cell_160 : decode b_M_cell 160 = .ok (.iconst 0, 1) := by decide +kernel
theorem dM_cell_161 : decode b_M_cell 161 = .ok (.putfield 84, 3) := by decide +kernel
theorem dM_cell_164 : decode b_M_cell 164 = .ok (.iload 6, 2) := by decide +kernel
theorem dM_cell_166 : decode b_M_cell 166 = .ok (.ireturn, 1) := by decide +kernel
theorem dM_less_0 : decode b_M_less 0 = .ok (.iload_n 0, 1) := by decide +kernel
theorem dM_less_1 : decode b_M_less 1 = .ok (.iload_n 1, 1) := by decide +kernel
theorem dM_less_2 : decode b_M_less 2 = .ok (.if_icmp .ge 7, 3) := by decide +kernel
theorem dM_less_5 : decode b_M_less 5 = .ok (.iload_n 0, 1) := by decide +kernel
theorem dM_less_6 : decode b_M_less 6 = .ok (.goto 4, 3) := by decide +kernel
theorem dM_less_9 : decode b_M_less 9 = .ok (.iload_n 1, 1) := by decide +kernel
theorem dM_less_10 : decode b_M_less 10 = .ok (.ireturn, 1) := by decide +kernel
theorem dM_off_0 : decode b_M_off 0 = .ok (.iload_n 0, 1) := by decide +kernel
theorem dM_off_1 : decode b_M_off 1 = .ok (.iload_n 1, 1) := by decide +kernel
theorem dM_off_2 : decode b_M_off 2 = .ok (.if_icmp .ge 9, 3) := by decide +kernel
theorem dM_off_5 : decode b_M_off 5 = .ok (.iload_n 1, 1) := by decide +kernel
theorem dM_off_6 : decode b_M_off 6 = .ok (.iload_n 0, 1) := by decide +kernel
theorem dM_off_7 : decode b_M_off 7 = .ok (.isub, 1) := by decide +kernel
theorem dM_off_8 : decode b_M_off 8 = .ok (.goto 15, 3) := by decide +kernel
theorem dM_off_11 : decode b_M_off 11 = .ok (.iload_n 0, 1) := by decide +kernel
theorem dM_off_12 : decode b_M_off 12 = .ok (.iload_n 2, 1) := by decide +kernel
theorem dM_off_13 : decode b_M_off 13 = .ok (.if_icmp .le 9, 3) := by decide +kernel
theorem dM_off_16 : decode b_M_off 16 = .ok (.iload_n 0, 1) := by decide +kernel
theorem dM_off_17 : decode b_M_off 17 = .ok (.iload_n 2, 1) := by decide +kernel
theorem dM_off_18 : decode b_M_off 18 = .ok (.isub, 1) := by decide +kernel
theorem dM_off_19 : decode b_M_off 19 = .ok (.goto 4, 3) := by decide +kernel
theorem dM_off_22 : decode b_M_off 22 = .ok (.iconst 0, 1) := by decide +kernel
theorem dM_off_23 : decode b_M_off 23 = .ok (.ireturn, 1) := by decide +kernel
theorem dM_square_0 : decode b_M_square 0 = .ok (.aload_n 0, 1) := by decide +kernel
theorem dM_square_1 : decode b_M_square 1 = .ok (.getfield 64, 3) := by decide +kernel
theorem dM_square_4 : decode b_M_square 4 = .ok (.aload_n 0, 1) := by decide +kernel
theorem dM_square_5 : decode b_M_square 5 = .ok (.getfield 67, 3) := by decide +kernel
theorem dM_square_8 : decode b_M_square 8 = .ok (.imul, 1) := by decide +kernel
theorem dM_square_9 : decode b_M_square 9 = .ok (.istore 4, 2) := by decide +kernel
theorem dM_square_11 : decode b_M_square 11 = .ok (.iload_n 2, 1) := by decide +kernel
theorem dM_square_12 : decode b_M_square 12 = .ok (.iload 4, 2) := by decide +kernel
theorem dM_square_14 : decode b_M_square 14 = .ok (.iload_n 2, 1) := by decide +kernel
theorem dM_square_15 : decode b_M_square 15 = .ok (.isub, 1) := by decide +kernel
theorem dM_square_16 : decode b_M_square 16 = .ok (.invokestatic 87, 3) := by decide +kernel
theorem dM_square_19 : decode b_M_square 19 = .ok (.iload_n 3, 1) := by decide +kernel
theorem dM_square_20 : decode b_M_square 20 = .ok (.iload 4, 2) := by decide +kernel
theorem dM_square_22 : decode b_M_square 22 = .ok (.iload_n 3, 1) := by decide +kernel
theorem dM_square_23 : decode b_M_square 23 = .ok (.isub, 1) := by decide +kernel
theorem dM_square_24 : decode b_M_square 24 = .ok (.invokestatic 87, 3) := by decide +kernel
theorem dM_square_27 : decode b_M_square 27 = .ok (.invokestatic 87, 3) := by decide +kernel
theorem dM_square_30 : decode b_M_square 30 = .ok (.istore 5, 2) := by decide +kernel
theorem dM_square_32 : decode b_M_square 32 = .ok (.iload 5, 2) := by decide +kernel
theorem dM_square_34 : decode b_M_square 34 = .ok (.iload 5, 2) := by decide +kernel
theorem dM_square_36 : decode b_M_square 36 = .ok (.imul, 1) := by decide +kernel
theorem dM_square_37 : decode b_M_square 37 = .ok (.istore 6, 2) := by decide +kernel
theorem dM_square_39 : decode b_M_square 39 = .ok (.iconst 0, 1) := by decide +kernel
theorem dM_square_40 : decode b_M_square 40 = .ok (.istore 7, 2) := by decide +kernel
theorem dM_square_42 : decode b_M_square 42 = .ok (.iload 7, 2) := by decide +kernel
theorem dM_square_44 : decode b_M_square 44 = .ok (.aload_n 0, 1) := by decide +kernel
theorem dM_square_45 : decode b_M_square 45 = .ok (.getfield 64, 3) := by decide +kernel
theorem dM_square_48 : decode b_M_square 48 = .ok (.if_icmp .ge 116, 3) := by decide +kernel
theorem dM_square_51 : decode b_M_square 51 = .ok (.iconst 0, 1) := by decide +kernel
theorem dM_square_52 : decode b_M_square 52 = .ok (.istore 8, 2) := by decide +kernel
theorem dM_square_54 : decode b_M_square 54 = .ok (.iload 8, 2) := by decide +kernel
theorem dM_square_56 : decode b_M_square 56 = .ok (.aload_n 0, 1) := by decide +kernel
theorem dM_square_57 : decode b_M_square 57 = .ok (.getfield 64, 3) := by decide +kernel
theorem dM_square_60 : decode b_M_square 60 = .ok (.if_icmp .ge 98, 3) := by decide +kernel
theorem dM_square_63 : decode b_M_square 63 = .ok (.aload_n 0, 1) := by decide +kernel
theorem dM_square_64 : decode b_M_square 64 = .ok (.getfield 7, 3) := by decide +kernel
theorem dM_square_67 : decode b_M_square 67 = .ok (.bipush 100, 2) := by decide +kernel
theorem dM_square_69 : decode b_M_square 69 = .ok (.iload_n 1, 1) := by decide +kernel
theorem dM_square_70 : decode b_M_square 70 = .ok (.imul, 1) := by decide +kernel
theorem dM_square_71 : decode b_M_square 71 = .ok (.bipush 10, 2) := by decide +kernel
theorem dM_square_73 : decode b_M_square 73 = .ok (.iload 7, 2) := by decide +kernel
theorem dM_square_75 : decode b_M_square 75 = .ok (.imul, 1) := by decide +kernel
theorem dM_square_76 : decode b_M_square 76 = .ok (.iadd, 1) := by decide +kernel
theorem dM_square_77 : decode b_M_square 77 = .ok (.iload 8, 2) := by decide +kernel
theorem dM_square_79 : decode b_M_square 79 = .ok (.iadd, 1) := by decide +kernel
theorem dM_square_80 : decode b_M_square 80 = .ok (.baload, 1) := by decide +kernel
theorem dM_square_81 : decode b_M_square 81 = .ok (.ifCond .ne 71, 3) := by decide +kernel
theorem dM_square_84 : decode b_M_square 84 = .ok (.iload_n 2, 1) := by decide +kernel
theorem dM_square_85 : decode b_M_square 85 = .ok (.iload 8, 2) := by decide +kernel
theorem dM_square_87 : decode b_M_square 87 = .ok (.aload_n 0, 1) := by decide +kernel
theorem dM_square_88 : decode b_M_square 88 = .ok (.getfield 67, 3) := by decide +kernel
theorem dM_square_91 : decode b_M_square 91 = .ok (.imul, 1) := by decide +kernel
theorem dM_square_92 : decode b_M_square 92 = .ok (.iload 8, 2) := by decide +kernel
theorem dM_square_94 : decode b_M_square 94 = .ok (.aload_n 0, 1) := by decide +kernel
theorem dM_square_95 : decode b_M_square 95 = .ok (.getfield 67, 3) := by decide +kernel
theorem dM_square_98 : decode b_M_square 98 = .ok (.imul, 1) := by decide +kernel
theorem dM_square_99 : decode b_M_square 99 = .ok (.aload_n 0, 1) := by decide +kernel
theorem dM_square_100 : decode b_M_square 100 = .ok (.getfield 67, 3) := by decide +kernel
theorem dM_square_103 : decode b_M_square 103 = .ok (.iadd, 1) := by decide +kernel
theorem dM_square_104 : decode b_M_square 104 = .ok (.invokestatic 91, 3) := by decide +kernel
theorem dM_square_107 : decode b_M_square 107 = .ok (.istore 9, 2) := by decide +kernel
theorem dM_square_109 : decode b_M_square 109 = .ok (.iload_n 3, 1) := by decide +kernel
theorem dM_square_110 : decode b_M_square 110 = .ok (.iload 7, 2) := by decide +kernel
theorem dM_square_112 : decode b_M_square 112 = .ok (.aload_n 0, 1) := by decide +kernel
theorem dM_square_113 : decode b_M_square 113 = .ok (.getfield 67, 3) := by decide +kernel
theorem dM_square_116 : decode b_M_square 116 = .ok (.imul, 1) := by decide +kernel
theorem dM_square_117 : decode b_M_square 117 = .ok (.iload 7, 2) := by decide +kernel
theorem dM_square_119 : decode b_M_square 119 = .ok (.aload_n 0, 1) := by decide +kernel
theorem dM_square_120 : decode b_M_square 120 = .ok (.getfield 67, 3) := by decide +kernel
theorem dM_square_123 : decode b_M_square 123 = .ok (.imul, 1) := by decide +kernel
theorem dM_square_124 : decode b_M_square 124 = .ok (.aload_n 0, 1) := by decide +kernel
theorem dM_square_125 : decode b_M_square 125 = .ok (.getfield 67, 3) := by decide +kernel
theorem dM_square_128 : decode b_M_square 128 = .ok (.iadd, 1) := by decide +kernel
theorem dM_square_129 : decode b_M_square 129 = .ok (.invokestatic 91, 3) := by decide +kernel
theorem dM_square_132 : decode b_M_square 132 = .ok (.istore 10, 2) := by decide +kernel
theorem dM_square_134 : decode b_M_square 134 = .ok (.iload 6, 2) := by decide +kernel
theorem dM_square_136 : decode b_M_square 136 = .ok (.iload 9, 2) := by decide +kernel
theorem dM_square_138 : decode b_M_square 138 = .ok (.iload 9, 2) := by decide +kernel
theorem dM_square_140 : decode b_M_square 140 = .ok (.imul, 1) := by decide +kernel
theorem dM_square_141 : decode b_M_square 141 = .ok (.iload 10, 2) := by decide +kernel
theorem dM_square_143 : decode b_M_square 143 = .ok (.iload 10, 2) := by decide +kernel
theorem dM_square_145 : decode b_M_square 145 = .ok (.imul, 1) := by decide +kernel
theorem dM_square_146 : decode b_M_square 146 = .ok (.iadd, 1) := by decide +kernel
theorem dM_square_147 : decode b_M_square 147 = .ok (.invokestatic 87, 3) := by decide +kernel
theorem dM_square_150 : decode b_M_square 150 = .ok (.istore 6, 2) := by decide +kernel
theorem dM_square_152 : decode b_M_square 152 = .ok (.iinc 8 1, 3) := by decide +kernel
theorem dM_square_155 : decode b_M_square 155 = .ok (.goto (-101), 3) := by decide +kernel
theorem dM_square_158 : decode b_M_square 158 = .ok (.iinc 7 1, 3) := by decide +kernel
theorem dM_square_161 : decode b_M_square 161 = .ok (.goto (-119), 3) := by decide +kernel
theorem dM_square_164 : decode b_M_square 164 = .ok (.iload 6, 2) := by decide +kernel
theorem dM_square_166 : decode b_M_square 166 = .ok (.ireturn, 1) := by decide +kernel
theorem dM_roomAt_0 : decode b_M_roomAt 0 = .ok (.ldc 95, 2) := by decide +kernel
theorem dM_roomAt_2 : decode b_M_roomAt 2 = .ok (.istore 5, 2) := by decide +kernel
theorem dM_roomAt_4 : decode b_M_roomAt 4 = .ok (.iconst 0, 1) := by decide +kernel
theorem dM_roomAt_5 : decode b_M_roomAt 5 = .ok (.istore 6, 2) := by decide +kernel
theorem dM_roomAt_7 : decode b_M_roomAt 7 = .ok (.iload 6, 2) := by decide +kernel
theorem dM_roomAt_9 : decode b_M_roomAt 9 = .ok (.aload_n 0, 1) := by decide +kernel
theorem dM_roomAt_10 : decode b_M_roomAt 10 = .ok (.getfield 60, 3) := by decide +kernel
theorem dM_roomAt_13 : decode b_M_roomAt 13 = .ok (.if_icmp .ge 67, 3) := by decide +kernel
theorem dM_roomAt_16 : decode b_M_roomAt 16 = .ok (.iload_n 1, 1) := by decide +kernel
theorem dM_roomAt_17 : decode b_M_roomAt 17 = .ok (.aload_n 0, 1) := by decide +kernel
theorem dM_roomAt_18 : decode b_M_roomAt 18 = .ok (.getfield 67, 3) := by decide +kernel
theorem dM_roomAt_21 : decode b_M_roomAt 21 = .ok (.imul, 1) := by decide +kernel
theorem dM_roomAt_22 : decode b_M_roomAt 22 = .ok (.iload_n 3, 1) := by decide +kernel
theorem dM_roomAt_23 : decode b_M_roomAt 23 = .ok (.iload_n 1, 1) := by decide +kernel
theorem dM_roomAt_24 : decode b_M_roomAt 24 = .ok (.isub, 1) := by decide +kernel
theorem dM_roomAt_25 : decode b_M_roomAt 25 = .ok (.iload 6, 2) := by decide +kernel
theorem dM_roomAt_27 : decode b_M_roomAt 27 = .ok (.imul, 1) := by decide +kernel
theorem dM_roomAt_28 : decode b_M_roomAt 28 = .ok (.iadd, 1) := by decide +kernel
theorem dM_roomAt_29 : decode b_M_roomAt 29 = .ok (.istore 7, 2) := by decide +kernel
theorem dM_roomAt_31 : decode b_M_roomAt 31 = .ok (.iload_n 2, 1) := by decide +kernel
theorem dM_roomAt_32 : decode b_M_roomAt 32 = .ok (.aload_n 0, 1) := by decide +kernel
theorem dM_roomAt_33 : decode b_M_roomAt 33 = .ok (.getfield 67, 3) := by decide +kernel
theorem dM_roomAt_36 : decode b_M_roomAt 36 = .ok (.imul, 1) := by decide +kernel
theorem dM_roomAt_37 : decode b_M_roomAt 37 = .ok (.iload 4, 2) := by decide +kernel
theorem dM_roomAt_39 : decode b_M_roomAt 39 = .ok (.iload_n 2, 1) := by decide +kernel
theorem dM_roomAt_40 : decode b_M_roomAt 40 = .ok (.isub, 1) := by decide +kernel
theorem dM_roomAt_41 : decode b_M_roomAt 41 = .ok (.iload 6, 2) := by decide +kernel
theorem dM_roomAt_43 : decode b_M_roomAt 43 = .ok (.imul, 1) := by decide +kernel
theorem dM_roomAt_44 : decode b_M_roomAt 44 = .ok (.iadd, 1) := by decide +kernel
theorem dM_roomAt_45 : decode b_M_roomAt 45 = .ok (.istore 8, 2) := by decide +kernel
theorem dM_roomAt_47 : decode b_M_roomAt 47 = .ok (.iload 5, 2) := by decide +kernel
theorem dM_roomAt_49 : decode b_M_roomAt 49 = .ok (.aload_n 0, 1) := by decide +kernel
theorem dM_roomAt_50 : decode b_M_roomAt 50 = .ok (.getfield 13, 3) := by decide +kernel
theorem dM_roomAt_53 : decode b_M_roomAt 53 = .ok (.sipush 961, 3) := by decide +kernel
theorem dM_roomAt_56 : decode b_M_roomAt 56 = .ok (.iload 6, 2) := by decide +kernel
theorem dM_roomAt_58 : decode b_M_roomAt 58 = .ok (.imul, 1) := by decide +kernel
theorem dM_roomAt_59 : decode b_M_roomAt 59 = .ok (.bipush 31, 2) := by decide +kernel
theorem dM_roomAt_61 : decode b_M_roomAt 61 = .ok (.iload 8, 2) := by decide +kernel
theorem dM_roomAt_63 : decode b_M_roomAt 63 = .ok (.imul, 1) := by decide +kernel
theorem dM_roomAt_64 : decode b_M_roomAt 64 = .ok (.iadd, 1) := by decide +kernel
theorem dM_roomAt_65 : decode b_M_roomAt 65 = .ok (.iload 7, 2) := by decide +kernel
theorem dM_roomAt_67 : decode b_M_roomAt 67 = .ok (.iadd, 1) := by decide +kernel
theorem dM_roomAt_68 : decode b_M_roomAt 68 = .ok (.iaload, 1) := by decide +kernel
theorem dM_roomAt_69 : decode b_M_roomAt 69 = .ok (.invokestatic 87, 3) := by decide +kernel
theorem dM_roomAt_72 : decode b_M_roomAt 72 = .ok (.istore 5, 2) := by decide +kernel
theorem dM_roomAt_74 : decode b_M_roomAt 74 = .ok (.iinc 6 1, 3) := by decide +kernel
theorem dM_roomAt_77 : decode b_M_roomAt 77 = .ok (.goto (-70), 3) := by decide +kernel
theorem dM_roomAt_80 : decode b_M_roomAt 80 = .ok (.iload 5, 2) := by decide +kernel
theorem dM_roomAt_82 : decode b_M_roomAt 82 = .ok (.ireturn, 1) := by decide +kernel
theorem dM_know_0 : decode b_M_know 0 = .ok (.aload_n 0, 1) := by decide +kernel
theorem dM_know_1 : decode b_M_know 1 = .ok (.getfield 77, 3) := by decide +kernel
theorem dM_know_4 : decode b_M_know 4 = .ok (.ifCond .eq 4, 3) := by decide +kernel
theorem dM_know_7 : decode b_M_know 7 = .ok (.return_, 1) := by decide +kernel
theorem dM_know_8 : decode b_M_know 8 = .ok (.iconst 0, 1) := by decide +kernel
theorem dM_know_9 : decode b_M_know 9 = .ok (.istore_n 1, 1) := by decide +kernel
theorem dM_know_10 : decode b_M_know 10 = .ok (.iload_n 1, 1) := by decide +kernel
theorem dM_know_11 : decode b_M_know 11 = .ok (.aload_n 0, 1) := by decide +kernel
theorem dM_know_12 : decode b_M_know 12 = .ok (.getfield 60, 3) := by decide +kernel
theorem dM_know_15 : decode b_M_know 15 = .ok (.if_icmp .ge 75, 3) := by decide +kernel
theorem dM_know_18 : decode b_M_know 18 = .ok (.iconst 0, 1) := by decide +kernel
theorem dM_know_19 : decode b_M_know 19 = .ok (.istore_n 2, 1) := by decide +kernel
theorem dM_know_20 : decode b_M_know 20 = .ok (.iload_n 2, 1) := by decide +kernel
theorem dM_know_21 : decode b_M_know 21 = .ok (.aload_n 0, 1) := by decide +kernel
theorem dM_know_22 : decode b_M_know 22 = .ok (.getfield 64, 3) := by decide +kernel
theorem dM_know_25 : decode b_M_know 25 = .ok (.aload_n 0, 1) := by decide +kernel
theorem dM_know_26 : decode b_M_know 26 = .ok (.getfield 67, 3) := by decide +kernel
theorem dM_know_29 : decode b_M_know 29 = .ok (.imul, 1) := by decide +kernel
theorem dM_know_30 : decode b_M_know 30 = .ok (.if_icmp .gt 54, 3) := by decide +kernel
theorem dM_know_33 : decode b_M_know 33 = .ok (.iconst 0, 1) := by decide +kernel
theorem dM_know_34 : decode b_M_know 34 = .ok (.istore_n 3, 1) := by decide +kernel
theorem dM_know_35 : decode b_M_know 35 = .ok (.iload_n 3, 1) := by decide +kernel
theorem dM_know_36 : decode b_M_know 36 = .ok (.aload_n 0, 1) := by decide +kernel
theorem dM_know_37 : decode b_M_know 37 = .ok (.getfield 64, 3) := by decide +kernel
theorem dM_know_40 : decode b_M_know 40 = .ok (.aload_n 0, 1) := by decide +kernel
theorem dM_know_41 : decode b_M_know 41 = .ok (.getfield 67, 3) := by decide +kernel
theorem dM_know_44 : decode b_M_know 44 = .ok (.imul, 1) := by decide +kernel
theorem dM_know_45 : decode b_M_know 45 = .ok (.if_icmp .gt 33, 3) := by decide +kernel
theorem dM_know_48 : decode b_M_know 48 = .ok (.aload_n 0, 1) := by decide +kernel
theorem dM_know_49 : decode b_M_know 49 = .ok (.getfield 13, 3) := by decide +kernel
theorem dM_know_52 : decode b_M_know 52 = .ok (.sipush 961, 3) := by decide +kernel
theorem dM_know_55 : decode b_M_know 55 = .ok (.iload_n 1, 1) := by decide +kernel
theorem dM_know_56 : decode b_M_know 56 = .ok (.imul, 1) := by decide +kernel
theorem dM_know_57 : decode b_M_know 57 = .ok (.bipush 31, 2) := by decide +kernel
theorem dM_know_59 : decode b_M_know 59 = .ok (.iload_n 2, 1) := by decide +kernel
theorem dM_know_60 : decode b_M_know 60 = .ok (.imul, 1) := by decide +kernel
theorem dM_know_61 : decode b_M_know 61 = .ok (.iadd, 1) := by decide +kernel
theorem dM_know_62 : decode b_M_know 62 = .ok (.iload_n 3, 1) := by decide +kernel
theorem dM_know_63 : decode b_M_know 63 = .ok (.iadd, 1) := by decide +kernel
theorem dM_know_64 : decode b_M_know 64 = .ok (.aload_n 0, 1) := by decide +kernel
theorem dM_know_65 : decode b_M_know 65 = .ok (.iload_n 1, 1) := by decide +kernel
theorem dM_know_66 : decode b_M_know 66 = .ok (.iload_n 3, 1) := by decide +kernel
theorem dM_know_67 : decode b_M_know 67 = .ok (.iload_n 2, 1) := by decide +kernel
theorem dM_know_68 : decode b_M_know 68 = .ok (.invokevirtual 96, 3) := by decide +kernel
theorem dM_know_71 : decode b_M_know 71 = .ok (.iastore, 1) := by decide +kernel
theorem dM_know_72 : decode b_M_know 72 = .ok (.iinc 3 1, 3) := by decide +kernel
theorem dM_know_75 : decode b_M_know 75 = .ok (.goto (-40), 3) := by decide +kernel
theorem dM_know_78 : decode b_M_know 78 = .ok (.iinc 2 1, 3) := by decide +kernel
theorem dM_know_81 : decode b_M_know 81 = .ok (.goto (-61), 3) := by decide +kernel
theorem dM_know_84 : decode b_M_know 84 = .ok (.iinc 1 1, 3) := by decide +kernel
theorem dM_know_87 : decode b_M_know 87 = .ok (.goto (-77), 3) := by decide +kernel
theorem dM_know_90 : decode b_M_know 90 = .ok (.aload_n 0, 1) := by decide +kernel
theorem dM_know_91 : decode b_M_know 91 = .ok (.iconst (-1), 1) := by decide +kernel
theorem dM_know_92 : decode b_M_know 92 = .ok (.putfield 99, 3) := by decide +kernel
theorem dM_know_95 : decode b_M_know 95 = .ok (.aload_n 0, 1) := by decide +kernel
theorem dM_know_96 : decode b_M_know 96 = .ok (.getfield 64, 3) := by decide +kernel
theorem dM_know_99 : decode b_M_know 99 = .ok (.iconst 1, 1) := by decide +kernel
theorem dM_know_100 : decode b_M_know 100 = .ok (.iadd, 1) := by decide +kernel
theorem dM_know_101 : decode b_M_know 101 = .ok (.istore_n 1, 1) := by decide +kernel
theorem dM_know_102 : decode b_M_know 102 = .ok (.iconst 0, 1) := by decide +kernel
theorem dM_know_103 : decode b_M_know 103 = .ok (.istore_n 2, 1) := by decide +kernel
theorem dM_know_104 : decode b_M_know 104 = .ok (.iload_n 2, 1) := by decide +kernel
theorem dM_know_105 : decode b_M_know 105 = .ok (.iload_n 1, 1) := by decide +kernel
theorem dM_know_106 : decode b_M_know 106 = .ok (.iload_n 1, 1) := by decide +kernel
theorem dM_know_107 : decode b_M_know 107 = .ok (.imul, 1) := by decide +kernel
theorem dM_know_108 : decode b_M_know 108 = .ok (.iload_n 1, 1) := by decide +kernel
theorem dM_know_109 : decode b_M_know 109 = .ok (.imul, 1) := by decide +kernel
theorem dM_know_110 : decode b_M_know 110 = .ok (.iload_n 1, 1) := by decide +kernel
theorem dM_know_111 : decode b_M_know 111 = .ok (.imul, 1) := by decide +kernel
theorem dM_know_112 : decode b_M_know 112 = .ok (.if_icmp .ge 97, 3) := by decide +kernel
theorem dM_know_115 : decode b_M_know 115 = .ok (.iload_n 2, 1) := by decide +kernel
theorem dM_know_116 : decode b_M_know 116 = .ok (.iload_n 1, 1) := by decide +kernel
theorem dM_know_117 : decode b_M_know 117 = .ok (.irem, 1) := by decide +kernel
theorem dM_know_118 : decode b_M_know 118 = .ok (.istore_n 3, 1) := by decide +kernel
theorem dM_know_119 : decode b_M_know 119 = .ok (.iload_n 2, 1) := by decide +kernel
theorem dM_know_120 : decode b_M_know 120 = .ok (.iload_n 1, 1) := by decide +kernel
theorem dM_know_121 : decode b_M_know 121 = .ok (.idiv, 1) := by decide +kernel
theorem dM_know_122 : decode b_M_know 122 = .ok (.iload_n 1, 1) := by decide +kernel
theorem dM_know_123 : decode b_M_know 123 = .ok (.irem, 1) := by decide +kernel
theorem dM_know_124 : decode b_M_know 124 = .ok (.istore 4, 2) := by decide +kernel
theorem dM_know_126 : decode b_M_know 126 = .ok (.iload_n 2, 1) := by decide +kernel
theorem dM_know_127 : decode b_M_know 127 = .ok (.iload_n 1, 1) := by decide +kernel
theorem dM_know_128 : decode b_M_know 128 = .ok (.idiv, 1) := by decide +kernel
theorem dM_know_129 : decode b_M_know 129 = .ok (.iload_n 1, 1) := by decide +kernel
theorem dM_know_130 : decode b_M_know 130 = .ok (.idiv, 1) := by decide +kernel
theorem dM_know_131 : decode b_M_know 131 = .ok (.iload_n 1, 1) := by decide +kernel
theorem dM_know_132 : decode b_M_know 132 = .ok (.irem, 1) := by decide +kernel
theorem dM_know_133 : decode b_M_know 133 = .ok (.istore 5, 2) := by decide +kernel
theorem dM_know_135 : decode b_M_know 135 = .ok (.iload_n 2, 1) := by decide +kernel
theorem dM_know_136 : decode b_M_know 136 = .ok (.iload_n 1, 1) := by decide +kernel
theorem dM_know_137 : decode b_M_know 137 = .ok (.idiv, 1) := by decide +kernel
theorem dM_know_138 : decode b_M_know 138 = .ok (.iload_n 1, 1) := by decide +kernel
theorem dM_know_139 : decode b_M_know 139 = .ok (.idiv, 1) := by decide +kernel
theorem dM_know_140 : decode b_M_know 140 = .ok (.iload_n 1, 1) := by decide +kernel
theorem dM_know_141 : decode b_M_know 141 = .ok (.idiv, 1) := by decide +kernel
theorem dM_know_142 : decode b_M_know 142 = .ok (.istore 6, 2) := by decide +kernel
theorem dM_know_144 : decode b_M_know 144 = .ok (.aload_n 0, 1) := by decide +kernel
theorem dM_know_145 : decode b_M_know 145 = .ok (.iload 6, 2) := by decide +kernel
theorem dM_know_147 : decode b_M_know 147 = .ok (.iload 5, 2) := by decide +kernel
theorem dM_know_149 : decode b_M_know 149 = .ok (.iload 4, 2) := by decide +kernel
theorem dM_know_151 : decode b_M_know 151 = .ok (.iload_n 3, 1) := by decide +kernel
theorem dM_know_152 : decode b_M_know 152 = .ok (.invokevirtual 102, 3) := by decide +kernel
theorem dM_know_155 : decode b_M_know 155 = .ok (.istore 7, 2) := by decide +kernel
theorem dM_know_157 : decode b_M_know 157 = .ok (.iload 7, 2) := by decide +kernel
theorem dM_know_159 : decode b_M_know 159 = .ok (.aload_n 0, 1) := by decide +kernel
theorem dM_know_160 : decode b_M_know 160 = .ok (.getfield 99, 3) := by decide +kernel
theorem dM_know_163 : decode b_M_know 163 = .ok (.if_icmp .le 40, 3) := by decide +kernel
theorem dM_know_166 : decode b_M_know 166 = .ok (.aload_n 0, 1) := by decide +kernel
theorem dM_know_167 : decode b_M_know 167 = .ok (.iload 7, 2) := by decide +kernel
theorem dM_know_169 : decode b_M_know 169 = .ok (.putfield 99, 3) := by decide +kernel
theorem dM_know_172 : decode b_M_know 172 = .ok (.aload_n 0, 1) := by decide +kernel
theorem dM_know_173 : decode b_M_know 173 = .ok (.getfield 17, 3) := by decide +kernel
theorem dM_know_176 : decode b_M_know 176 = .ok (.iconst 0, 1) := by decide +kernel
theorem dM_know_177 : decode b_M_know 177 = .ok (.iload 6, 2) := by decide +kernel
theorem dM_know_179 : decode b_M_know 179 = .ok (.iastore, 1) := by decide +kernel
theorem dM_know_180 : decode b_M_know 180 = .ok (.aload_n 0, 1) := by decide +kernel
theorem dM_know_181 : decode b_M_know 181 = .ok (.getfield 17, 3) := by decide +kernel
theorem dM_know_184 : decode b_M_know 184 = .ok (.iconst 1, 1) := by decide +kernel
theorem dM_know_185 : decode b_M_know 185 = .ok (.iload 5, 2) := by decide +kernel
theorem dM_know_187 : decode b_M_know 187 = .ok (.iastore, 1) := by decide +kernel
theorem dM_know_188 : decode b_M_know 188 = .ok (.aload_n 0, 1) := by decide +kernel
theorem dM_know_189 : decode b_M_know 189 = .ok (.getfield 17, 3) := by decide +kernel
theorem dM_know_192 : decode b_M_know 192 = .ok (.iconst 2, 1) := by decide +kernel
theorem dM_know_193 : decode b_M_know 193 = .ok (.iload 4, 2) := by decide +kernel
theorem dM_know_195 : decode b_M_know 195 = .ok (.iastore, 1) := by decide +kernel
theorem dM_know_196 : decode b_M_know 196 = .ok (.aload_n 0, 1) := by decide +kernel
theorem dM_know_197 : decode b_M_know 197 = .ok (.getfield 17, 3) := by decide +kernel
theorem dM_know_200 : decode b_M_know 200 = .ok (.iconst 3, 1) := by decide +kernel
theorem dM_know_201 : decode b_M_know 201 = .ok (.iload_n 3, 1) := by decide +kernel
theorem dM_know_202 : decode b_M_know 202 = .ok (.iastore, 1) := by decide +kernel
theorem dM_know_203 : decode b_M_know 203 = .ok (.iinc 2 1, 3) := by decide +kernel
theorem dM_know_206 : decode b_M_know 206 = .ok (.goto (-102), 3) := by decide +kernel
theorem dM_know_209 : decode b_M_know 209 = .ok (.aload_n 0, 1) := by decide +kernel
theorem dM_know_210 : decode b_M_know 210 = .ok (.iconst 1, 1) := by decide +kernel
theorem dM_know_211 : decode b_M_know 211 = .ok (.putfield 77, 3) := by decide +kernel
theorem dM_know_214 : decode b_M_know 214 = .ok (.return_, 1) := by decide +kernel
theorem dM_room_0 : decode b_M_room 0 = .ok (.aload_n 0, 1) := by decide +kernel
theorem dM_room_1 : decode b_M_room 1 = .ok (.iconst 0, 1) := by decide +kernel
theorem dM_room_2 : decode b_M_room 2 = .ok (.putfield 70, 3) := by decide +kernel
theorem dM_room_5 : decode b_M_room 5 = .ok (.aload_n 0, 1) := by decide +kernel
theorem dM_room_6 : decode b_M_room 6 = .ok (.invokevirtual 106, 3) := by decide +kernel
theorem dM_room_9 : decode b_M_room 9 = .ok (.aload_n 0, 1) := by decide +kernel
theorem dM_room_10 : decode b_M_room 10 = .ok (.getfield 99, 3) := by decide +kernel
theorem dM_room_13 : decode b_M_room 13 = .ok (.ireturn, 1) := by decide +kernel
theorem dM_axis_0 : decode b_M_axis 0 = .ok (.aload_n 0, 1) := by decide +kernel
theorem dM_axis_1 : decode b_M_axis 1 = .ok (.iload_n 1, 1) := by decide +kernel
theorem dM_axis_2 : decode b_M_axis 2 = .ok (.iconst 0, 1) := by decide +kernel
theorem dM_axis_3 : decode b_M_axis 3 = .ok (.iconst 3, 1) := by decide +kernel
theorem dM_axis_4 : decode b_M_axis 4 = .ok (.invokestatic 73, 3) := by decide +kernel
theorem dM_axis_7 : decode b_M_axis 7 = .ok (.ifCond .eq 7, 3) := by decide +kernel
theorem dM_axis_10 : decode b_M_axis 10 = .ok (.iconst 0, 1) := by decide +kernel
theorem dM_axis_11 : decode b_M_axis 11 = .ok (.goto 4, 3) := by decide +kernel
theorem dM_axis_14 : decode b_M_axis 14 = .ok (.iconst 1, 1) := by decide +kernel
theorem dM_axis_15 : decode b_M_axis 15 = .ok (.putfield 70, 3) := by decide +kernel
theorem dM_axis_18 : decode b_M_axis 18 = .ok (.aload_n 0, 1) := by decide +kernel
theorem dM_axis_19 : decode b_M_axis 19 = .ok (.getfield 70, 3) := by decide +kernel
theorem dM_axis_22 : decode b_M_axis 22 = .ok (.ifCond .le 5, 3) := by decide +kernel
theorem dM_axis_25 : decode b_M_axis 25 = .ok (.iconst 0, 1) := by decide +kernel
theorem dM_axis_26 : decode b_M_axis 26 = .ok (.ireturn, 1) := by decide +kernel
theorem dM_axis_27 : decode b_M_axis 27 = .ok (.aload_n 0, 1) := by decide +kernel
theorem dM_axis_28 : decode b_M_axis 28 = .ok (.invokevirtual 106, 3) := by decide +kernel
theorem dM_axis_31 : decode b_M_axis 31 = .ok (.aload_n 0, 1) := by decide +kernel
theorem dM_axis_32 : decode b_M_axis 32 = .ok (.getfield 17, 3) := by decide +kernel
theorem dM_axis_35 : decode b_M_axis 35 = .ok (.iload_n 1, 1) := by decide +kernel
theorem dM_axis_36 : decode b_M_axis 36 = .ok (.iaload, 1) := by decide +kernel
theorem dM_axis_37 : decode b_M_axis 37 = .ok (.ireturn, 1) := by decide +kernel
theorem dM_radius_0 : decode b_M_radius 0 = .ok (.aload_n 0, 1) := by decide +kernel
theorem dM_radius_1 : decode b_M_radius 1 = .ok (.iconst 0, 1) := by decide +kernel
theorem dM_radius_2 : decode b_M_radius 2 = .ok (.putfield 70, 3) := by decide +kernel
theorem dM_radius_5 : decode b_M_radius 5 = .ok (.aload_n 0, 1) := by decide +kernel
theorem dM_radius_6 : decode b_M_radius 6 = .ok (.invokevirtual 106, 3) := by decide +kernel
theorem dM_radius_9 : decode b_M_radius 9 = .ok (.iconst 0, 1) := by decide +kernel
theorem dM_radius_10 : decode b_M_radius 10 = .ok (.istore_n 1, 1) := by decide +kernel
theorem dM_radius_11 : decode b_M_radius 11 = .ok (.iload_n 1, 1) := by decide +kernel
theorem dM_radius_12 : decode b_M_radius 12 = .ok (.iconst 1, 1) := by decide +kernel
theorem dM_radius_13 : decode b_M_radius 13 = .ok (.iadd, 1) := by decide +kernel
theorem dM_radius_14 : decode b_M_radius 14 = .ok (.iload_n 1, 1) := by decide +kernel
theorem dM_radius_15 : decode b_M_radius 15 = .ok (.iconst 1, 1) := by decide +kernel
theorem dM_radius_16 : decode b_M_radius 16 = .ok (.iadd, 1) := by decide +kernel
theorem dM_radius_17 : decode b_M_radius 17 = .ok (.imul, 1) := by decide +kernel
theorem dM_radius_18 : decode b_M_radius 18 = .ok (.aload_n 0, 1) := by decide +kernel
theorem dM_radius_19 : decode b_M_radius 19 = .ok (.getfield 99, 3) := by decide +kernel
theorem dM_radius_22 : decode b_M_radius 22 = .ok (.sipush 10000, 3) := by decide +kernel
theorem dM_radius_25 : decode b_M_radius 25 = .ok (.imul, 1) := by decide +kernel
theorem dM_radius_26 : decode b_M_radius 26 = .ok (.if_icmp .gt 9, 3) := by decide +kernel
theorem dM_radius_29 : decode b_M_radius 29 = .ok (.iinc 1 1, 3) := by decide +kernel
theorem dM_radius_32 : decode b_M_radius 32 = .ok (.goto (-21), 3) := by decide +kernel
theorem dM_radius_35 : decode b_M_radius 35 = .ok (.iload_n 1, 1) := by decide +kernel
theorem dM_radius_36 : decode b_M_radius 36 = .ok (.aload_n 0, 1) := by decide +kernel
theorem dM_radius_37 : decode b_M_radius 37 = .ok (.getfield 67, 3) := by decide +kernel
theorem dM_radius_40 : decode b_M_radius 40 = .ok (.idiv, 1) := by decide +kernel
theorem dM_radius_41 : decode b_M_radius 41 = .ok (.ireturn, 1) := by decide +kernel
theorem dM_roomOf_0 : decode b_M_roomOf 0 = .ok (.aload_n 0, 1) := by decide +kernel
theorem dM_roomOf_1 : decode b_M_roomOf 1 = .ok (.iload_n 1, 1) := by decide +kernel
theorem dM_roomOf_2 : decode b_M_roomOf 2 = .ok (.iconst 0, 1) := by decide +kernel
theorem dM_roomOf_3 : decode b_M_roomOf 3 = .ok (.aload_n 0, 1) := by decide +kernel
theorem dM_roomOf_4 : decode b_M_roomOf 4 = .ok (.getfield 64, 3) := by decide +kernel
theorem dM_roomOf_7 : decode b_M_roomOf 7 = .ok (.invokestatic 73, 3) := by decide +kernel
theorem dM_roomOf_10 : decode b_M_roomOf 10 = .ok (.ifCond .eq 44, 3) := by decide +kernel
theorem dM_roomOf_13 : decode b_M_roomOf 13 = .ok (.iload_n 2, 1) := by decide +kernel
theorem dM_roomOf_14 : decode b_M_roomOf 14 = .ok (.iconst 0, 1) := by decide +kernel
theorem dM_roomOf_15 : decode b_M_roomOf 15 = .ok (.aload_n 0, 1) := by decide +kernel
theorem dM_roomOf_16 : decode b_M_roomOf 16 = .ok (.getfield 64, 3) := by decide +kernel
theorem dM_roomOf_19 : decode b_M_roomOf 19 = .ok (.invokestatic 73, 3) := by decide +kernel
theorem dM_roomOf_22 : decode b_M_roomOf 22 = .ok (.ifCond .eq 32, 3) := by decide +kernel
theorem dM_roomOf_25 : decode b_M_roomOf 25 = .ok (.iload_n 3, 1) := by decide +kernel
theorem dM_roomOf_26 : decode b_M_roomOf 26 = .ok (.iconst 0, 1) := by decide +kernel
theorem dM_roomOf_27 : decode b_M_roomOf 27 = .ok (.aload_n 0, 1) := by decide +kernel
theorem dM_roomOf_28 : decode b_M_roomOf 28 = .ok (.getfield 64, 3) := by decide +kernel
theorem dM_roomOf_31 : decode b_M_roomOf 31 = .ok (.invokestatic 73, 3) := by decide +kernel
theorem dM_roomOf_34 : decode b_M_roomOf 34 = .ok (.ifCond .eq 20, 3) := by decide +kernel
theorem dM_roomOf_37 : decode b_M_roomOf 37 = .ok (.iload 4, 2) := by decide +kernel
theorem dM_roomOf_39 : decode b_M_roomOf 39 = .ok (.iconst 0, 1) := by decide +kernel
theorem dM_roomOf_40 : decode b_M_roomOf 40 = .ok (.aload_n 0, 1) := by decide +kernel
theorem dM_roomOf_41 : decode b_M_roomOf 41 = .ok (.getfield 64, 3) := by decide +kernel
theorem dM_roomOf_44 : decode b_M_roomOf 44 = .ok (.invokestatic 73, 3) := by decide +kernel
theorem dM_roomOf_47 : decode b_M_roomOf 47 = .ok (.ifCond .eq 7, 3) := by decide +kernel
theorem dM_roomOf_50 : decode b_M_roomOf 50 = .ok (.iconst 0, 1) := by decide +kernel
theorem dM_roomOf_51 : decode b_M_roomOf 51 = .ok (.goto 4, 3) := by decide +kernel
theorem dM_roomOf_54 : decode b_M_roomOf 54 = .ok (.iconst 1, 1) := by decide +kernel
theorem dM_roomOf_55 : decode b_M_roomOf 55 = .ok (.putfield 70, 3) := by decide +kernel
theorem dM_roomOf_58 : decode b_M_roomOf 58 = .ok (.aload_n 0, 1) := by decide +kernel
theorem dM_roomOf_59 : decode b_M_roomOf 59 = .ok (.getfield 70, 3) := by decide +kernel
theorem dM_roomOf_62 : decode b_M_roomOf 62 = .ok (.ifCond .le 5, 3) := by decide +kernel
theorem dM_roomOf_65 : decode b_M_roomOf 65 = .ok (.iconst 0, 1) := by decide +kernel
theorem dM_roomOf_66 : decode b_M_roomOf 66 = .ok (.ireturn, 1) := by decide +kernel
theorem dM_roomOf_67 : decode b_M_roomOf 67 = .ok (.aload_n 0, 1) := by decide +kernel
theorem dM_roomOf_68 : decode b_M_roomOf 68 = .ok (.invokevirtual 106, 3) := by decide +kernel
